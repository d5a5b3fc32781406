
/-! THE LAW: its script, the flag, the invariant of every call -/
theorem G_sld {Z9 : kZ9} {M : vR} {pc a L : Nat} {xs : Nat → Int32} {ls : List (Option Value)} {st : List Value} {b : Nat × Nat} {μ : vM} {Q : vO → vM → Prop} {i : Int32} (j : Nat) (hZ : ∀ s args c hz, Z9 s args c hz → a < hz ∧ va_X a L xs s s.heap) (hd : decode (vCC M) pc = .ok (.iaload, 1)) (hi : i = nI j) (hj : j < L) (hl : L < 2147483648) (K : vG Z9 M (pc + 1) ls (.int (xs j) :: st) b μ Q) : vG Z9 M pc ls (.int i :: .ref (a + 1000000) :: st) b μ Q := by
  intro p l e s m args below meth c D yc hz Qs X E G9 H locs cells slots lsA hL hH hS h1 h2 h3
  rw [List.map_cons, List.map_cons, vph_ex]
  obtain ⟨z1, z2⟩ := hZ _ _ _ _ G9
  obtain ⟨g1, g2⟩ := vIn hi hj hl
  refine va_sld X.1 X.2.1 z2 (Nat.lt_of_lt_of_le z1 X.2.2.2.2.2.2.1) (by show ¬ hz ≤ a; omega) hS g1 hd ?_
  rw [g2]
  exact K p l e s m args below meth c D yc hz Qs X E G9 H locs cells slots lsA hL hH hS h1 h2 h3
theorem G_slen {Z9 : kZ9} {M : vR} {pc a L : Nat} {xs : Nat → Int32} {ls : List (Option Value)} {st : List Value} {b : Nat × Nat} {μ : vM} {Q : vO → vM → Prop} (hZ : ∀ s args c hz, Z9 s args c hz → a < hz ∧ va_X a L xs s s.heap) (hd : decode (vCC M) pc = .ok (.arraylength, 1)) (K : vG Z9 M (pc + 1) ls (.int (nI L) :: st) b μ Q) : vG Z9 M pc ls (.ref (a + 1000000) :: st) b μ Q := by
  intro p l e s m args below meth c D yc hz Qs X E G9 H locs cells slots lsA hL hH hS h1 h2 h3
  rw [List.map_cons, vph_ex]
  obtain ⟨z1, z2⟩ := hZ _ _ _ _ G9
  exact va_slen X.1 X.2.1 z2 (Nat.lt_of_lt_of_le z1 X.2.2.2.2.2.2.1) (by show ¬ hz ≤ a; omega) hS hd (K p l e s m args below meth c D yc hz Qs X E G9 H locs cells slots lsA hL hH hS h1 h2 h3)
/-- no more nodes are made -/
theorem G_off {Z9 : kZ9} {M : vR} {pc : Nat} {ls : List (Option Value)} {st : List Value} {b : Nat × Nat} {σ : vS} {v : vV} {Q : vO → vM → Prop} (k : vG Z9 M pc ls st b ((σ.1, σ.2.1, σ.2.2.1, false), v) Q) : vG Z9 M pc ls st b (σ, v) Q := by
  intro p l e s m args below meth c D yc hz Qs X E G9 H locs cells slots lsA hL hH hS h1 h2 h3
  exact k p l e s m args below meth c D yc hz Qs X E G9 H locs cells slots lsA hL hH hS h1 h2 (fun q => absurd q Bool.false_ne_true)
theorem G_bud {Z9 : kZ9} {M : vR} {pc : Nat} {ls : List (Option Value)} {st : List Value} {b b2 : Nat × Nat} {μ : vM} {Q : vO → vM → Prop} (h : b2.1 ≤ b.1 ∧ b2.2 ≤ b.2) (k : vG Z9 M pc ls st b2 μ Q) : vG Z9 M pc ls st b μ Q := by
  intro p l e s m args below meth c D yc hz Qs X E G9 H locs cells slots lsA hL hH hS h1 h2 h3
  exact k p l e s m args below meth c D yc hz Qs X E G9 H locs cells slots lsA hL hH hS (by omega) (by omega) h3
theorem GI.up {B D : Nat} {T : gT} (h : GI B T) (hB : B ≤ D) : GI D T := ⟨h.1.up hB, fun Y g => (h.2.1 Y g).up hB, fun i Y g => (h.2.2 i Y g).up hB⟩
theorem GI.act {B E : Nat} {T : gT} {X : mC} (h : GI B T) (hX : KC E X) (hB : B ≤ E) : GI E (gAct T X) := by
  obtain ⟨tn, Y0, D, sl⟩ := T
  refine ⟨hX, fun Y g => ?_, fun i Y g => (h.2.2 i Y g).up hB⟩
  replace g : Y ∈ (if D.length = 14 then D.drop 1 else D) ++ [Y0] := g
  rcases List.mem_append.mp g with g | g
  · refine (h.2.1 Y ?_).up hB
    split at g
    · exact List.mem_of_mem_drop g
    · exact g
  · rw [List.mem_singleton] at g
    subst g
    exact h.1.up hB
theorem KC.go {t : mN} {n : Nat} : ∀ (f s o B : Nat) (X : mC), KC B X → 100 ≤ B → KC (B + 70000 * f) (mgo t n f s X o).2.1 := by
  intro f
  induction f with
  | zero => intro s o B X h hB; exact h
  | succ f ih =>
    intro s o B X h hB
    by_cases hs : s < n
    · cases e : (mparse t n s).1 with
      | none =>
        rw [mgo, if_pos hs, e]
        exact h.up (by omega)
      | some p =>
        have e2 : mparse t n s = (some (p.1, p.2), (mparse t n s).2) := Prod.ext e rfl
        rw [mgo_good hs e2]
        exact (ih _ _ _ _ (h.exec (a := p.1) (b := p.2) hB e) (by omega)).up (by omega)
    · rw [mgo_end (by omega)]
      exact h.up (by omega)
theorem KC.text {t : mN} {n : Nat} (hn : n ≤ 120) : KC 8400100 (mtext t n).2.1 := by
  unfold mtext
  split
  · exact KC0.up (by omega)
  · exact (KC.go n 1 0 100 (0, mS0) KC0 (Nat.le_refl _)).up (by omega)
theorem I_member {t : mN} {n c B : Nat} {S : mS} {D : List mC} {sl : Nat → Option mC} {p : Int32} (h : GI B ((t, n), (c, S), D, sl)) (hB : 8400100 ≤ B) : GI (B + 70000) (g_member ((t, n), (c, S), D, sl) p).2.2 := by
  have h9 : GI (B + 70000) ((t, n), (c, S), D, sl) := h.up (by omega)
  have hX : KC B (c, S) := h.1
  dsimp only [g_member]
  split
  · exact h9
  rename_i z0
  split
  · exact h9
  rename_i z1
  refine h.act ?_ (by omega)
  have zg : gin p 0 9 = true := by cases e : gin p 0 9 with | false => exact absurd e z0 | true => rfl
  obtain ⟨ak, ak0, ak1, rfl⟩ := gin_n (by decide) zg
  rw [nn (by omega)]
  have g := hX.add (a := ak) (by omega) (by omega)
  rw [show (kAdd (c, S) ak).2 = _ from congrArg Prod.snd (if_pos (show c < 6 by omega))] at g
  exact g
theorem I_say {t : mN} {n c B : Nat} {S : mS} {D : List mC} {sl : Nat → Option mC} {m : Int32} (h : GI B ((t, n), (c, S), D, sl)) (hB : 8400100 ≤ B) : GI (B + 70000) (g_say ((t, n), (c, S), D, sl) m).2.2 := by
  have h9 : GI (B + 70000) ((t, n), (c, S), D, sl) := h.up (by omega)
  have hX : KC B (c, S) := h.1
  dsimp only [g_say]
  split
  · exact h9
  rename_i z0
  split
  · exact h9
  rename_i z1
  refine h.act ?_ (by omega)
  have zm : mb c m = true := by cases e : mb c m with | false => exact absurd e z0 | true => rfl
  have hc6 : c ≤ 6 := h.1.1.c6
  obtain ⟨mk, hmk, rfl⟩ := mb_nat hc6 zm
  rw [nn (by omega)] at z1 ⊢
  have z2 := Classical.not_not.mp z1
  have g := hX.say (a := mk)
  rw [show (kSay (c, S) mk).2 = _ from congrArg Prod.snd (if_pos ⟨hmk, z2⟩)] at g
  exact g
theorem I_call {t : mN} {n c B : Nat} {S : mS} {D : List mC} {sl : Nat → Option mC} {m s : Int32} (h : GI B ((t, n), (c, S), D, sl)) (hB : 8400100 ≤ B) : GI (B + 70000) (g_call ((t, n), (c, S), D, sl) m s).2.2 := by
  have h9 : GI (B + 70000) ((t, n), (c, S), D, sl) := h.up (by omega)
  have hX : KC B (c, S) := h.1
  dsimp only [g_call]
  split
  · exact h9
  rename_i z0
  split
  · exact h9
  rename_i z1
  split
  · exact h9
  rename_i z2
  refine h.act ?_ (by omega)
  have zm : mb c m = true := by cases e : mb c m with | false => exact absurd e z0 | true => rfl
  have hc6 : c ≤ 6 := h.1.1.c6
  obtain ⟨mk, hmk, rfl⟩ := mb_nat hc6 zm
  have zs : mset c (nI mk).toInt.toNat s = true := by cases e : mset c (nI mk).toInt.toNat s with | false => exact absurd e z1 | true => rfl
  obtain ⟨sk, sk1, sk2, rfl, hst⟩ := kset_nat hc6 zs
  rw [nn (by omega)] at z2 hst
  rw [nn (by omega), nn (by omega)]
  have g := hX.call (a := mk) (s := sk)
  rw [show (kCall (c, S) mk sk).2 = _ from congrArg Prod.snd (if_pos ⟨hmk, ⟨sk2, hst⟩, z2⟩)] at g
  exact g
theorem I_cut {t : mN} {n c B : Nat} {S : mS} {D : List mC} {sl : Nat → Option mC} {a d : Int32} {z : Bool} (h : GI B ((t, n), (c, S), D, sl)) (hB : 8400100 ≤ B) : GI (B + 70000) (g_cut ((t, n), (c, S), D, sl) a d z).2.2 := by
  have h9 : GI (B + 70000) ((t, n), (c, S), D, sl) := h.up (by omega)
  have hX : KC B (c, S) := h.1
  dsimp only [g_cut]
  split
  · exact h9
  rename_i z0
  split
  · exact h9
  rename_i z1
  refine h.act ?_ (by omega)
  have zz : mb c a = true ∧ mb c d = true := by cases e : mb c a <;> cases e2 : mb c d <;> simp_all
  have hc6 : c ≤ 6 := h.1.1.c6
  obtain ⟨ak, hak, rfl⟩ := mb_nat hc6 zz.1
  obtain ⟨dk, hdk, rfl⟩ := mb_nat hc6 zz.2
  rw [nn (by omega), nn (by omega)]
  have g := hX.cut (a := ak) (d := dk) (cut := z)
  rw [show (kCut (c, S) ak dk z).2 = _ from congrArg Prod.snd (if_pos ⟨⟨hak, hdk⟩, fun e => z1 (by rw [e])⟩)] at g
  exact g
theorem I_leave {t : mN} {n c B : Nat} {S : mS} {D : List mC} {sl : Nat → Option mC} {m : Int32} (h : GI B ((t, n), (c, S), D, sl)) (hB : 8400100 ≤ B) : GI (B + 70000) (g_leave ((t, n), (c, S), D, sl) m).2.2 := by
  have h9 : GI (B + 70000) ((t, n), (c, S), D, sl) := h.up (by omega)
  have hX : KC B (c, S) := h.1
  dsimp only [g_leave]
  split
  · exact h9
  rename_i z0
  split
  · exact h9
  rename_i z1
  refine h.act ?_ (by omega)
  have zm : mb c m = true := by cases e : mb c m with | false => exact absurd e z0 | true => rfl
  have hc6 : c ≤ 6 := h.1.1.c6
  obtain ⟨mk, hmk, rfl⟩ := mb_nat hc6 zm
  rw [nn (by omega)] at z1 ⊢
  have g := hX.leave (a := mk)
  rw [show (kLeave (c, S) mk).2 = _ from congrArg Prod.snd (if_pos ⟨hmk, z1⟩)] at g
  exact g
theorem I_back {t : mN} {n c B : Nat} {S : mS} {D : List mC} {sl : Nat → Option mC} {m : Int32} (h : GI B ((t, n), (c, S), D, sl)) (hB : 8400100 ≤ B) : GI (B + 70000) (g_back ((t, n), (c, S), D, sl) m).2.2 := by
  have h9 : GI (B + 70000) ((t, n), (c, S), D, sl) := h.up (by omega)
  have hX : KC B (c, S) := h.1
  dsimp only [g_back]
  split
  · exact h9
  rename_i z0
  split
  · exact h9
  rename_i z1
  refine h.act ?_ (by omega)
  have zm : mb c m = true := by cases e : mb c m with | false => exact absurd e z0 | true => rfl
  have hc6 : c ≤ 6 := h.1.1.c6
  obtain ⟨mk, hmk, rfl⟩ := mb_nat hc6 zm
  rw [nn (by omega)] at z1 ⊢
  have g := hX.back (a := mk)
  rw [show (kBack (c, S) mk).2 = _ from congrArg Prod.snd (if_pos ⟨hmk, Classical.not_not.mp z1⟩)] at g
  exact g
theorem I_set {t : mN} {n c B : Nat} {S : mS} {D : List mC} {sl : Nat → Option mC} {a : Int32} (h : GI B ((t, n), (c, S), D, sl)) (hB : 8400100 ≤ B) : GI (B + 70000) (g_set ((t, n), (c, S), D, sl) a).2.2 := by
  have h9 : GI (B + 70000) ((t, n), (c, S), D, sl) := h.up (by omega)
  have hX : KC B (c, S) := h.1
  dsimp only [g_set]
  split
  · exact h9
  rename_i z0
  refine h.act ?_ (by omega)
  have zg : gin a 0 40 = true := by cases e : gin a 0 40 with | false => exact absurd e z0 | true => rfl
  obtain ⟨ak, ak0, ak1, rfl⟩ := gin_n (by decide) zg
  rw [nn (by omega)]
  exact hX.set (a := ak) (by omega)
theorem I_ticks {t : mN} {n c B : Nat} {S : mS} {D : List mC} {sl : Nat → Option mC} {a : Int32} (h : GI B ((t, n), (c, S), D, sl)) (hB : 8400100 ≤ B) : GI (B + 70000) (g_ticks ((t, n), (c, S), D, sl) a).2.2 := by
  have h9 : GI (B + 70000) ((t, n), (c, S), D, sl) := h.up (by omega)
  have hX : KC B (c, S) := h.1
  dsimp only [g_ticks]
  split
  · exact h9
  rename_i z0
  refine h.act ?_ (by omega)
  have zg : gin a 1 60 = true := by cases e : gin a 1 60 with | false => exact absurd e z0 | true => rfl
  obtain ⟨ak, ak0, ak1, rfl⟩ := gin_n (by decide) zg
  rw [nn (by omega)]
  exact hX.ticks (n := ak) (by omega)
theorem I_undo {t : mN} {n c B : Nat} {S : mS} {D : List mC} {sl : Nat → Option mC} (h : GI B ((t, n), (c, S), D, sl)) (hB : 8400100 ≤ B) : GI (B + 70000) (g_undo ((t, n), (c, S), D, sl)).2.2 := by
  have h9 : GI (B + 70000) ((t, n), (c, S), D, sl) := h.up (by omega)
  have hX : KC B (c, S) := h.1
  dsimp only [g_undo]
  split
  · exact h9
  rename_i z0
  obtain ⟨D0, Y, rfl⟩ := last_of (l := D) (by omega)
  rw [List.getLast?_append, List.dropLast_concat]
  exact ⟨(h.2.1 Y (List.mem_append_right _ (List.mem_singleton.mpr rfl))).up (by omega), fun Z g => (h.2.1 Z (List.mem_append_left _ g)).up (by omega), h9.2.2⟩
theorem I_save {t : mN} {n c B : Nat} {S : mS} {D : List mC} {sl : Nat → Option mC} {s : Int32} (h : GI B ((t, n), (c, S), D, sl)) (hB : 8400100 ≤ B) : GI (B + 70000) (g_save ((t, n), (c, S), D, sl) s).2.2 := by
  have h9 : GI (B + 70000) ((t, n), (c, S), D, sl) := h.up (by omega)
  have hX : KC B (c, S) := h.1
  dsimp only [g_save]
  split
  · exact h9
  · refine ⟨h9.1, h9.2.1, fun j Y g => ?_⟩
    replace g : (if j = s.toInt.toNat then some (c, S) else sl j) = some Y := g
    split at g
    · cases g; exact h9.1
    · exact h9.2.2 j Y g
theorem I_restore {t : mN} {n c B : Nat} {S : mS} {D : List mC} {sl : Nat → Option mC} {s : Int32} (h : GI B ((t, n), (c, S), D, sl)) (hB : 8400100 ≤ B) : GI (B + 70000) (g_restore ((t, n), (c, S), D, sl) s).2.2 := by
  have h9 : GI (B + 70000) ((t, n), (c, S), D, sl) := h.up (by omega)
  have hX : KC B (c, S) := h.1
  dsimp only [g_restore]
  split
  · exact h9
  · cases e : sl s.toInt.toNat with
    | none => exact h9
    | some Y => exact ⟨h9.2.2 _ Y e, fun Z g => absurd g List.not_mem_nil, h9.2.2⟩

