
/-! WHAT HOLDS OF AN OBJECT, turn by turn -/
def XJ (X : mC) : Prop := IJ X.1 X.2
/-- a state of fewer than two members is only followed by one of an early time -/
def oK (L : List mC) : Prop := ∀ (j : Nat) (Y Z : mC), L[j]? = some Y → L[j + 1]? = some Z → Y.1 < 2 → gG Z.2 1 < 2
def LI (B : Nat) (T : gT) : Prop := GI B T ∧ XJ T.2.1 ∧ (∀ Y, Y ∈ T.2.2.1 → XJ Y) ∧ (∀ (i : Nat) (Y : mC), T.2.2.2 i = some Y → XJ Y ∧ 2 ≤ Y.1) ∧ oK (T.2.2.1 ++ [T.2.1])
theorem LI.up {B E : Nat} {T : gT} (h : LI B T) (hB : B ≤ E) : LI E T := ⟨h.1.up hB, h.2⟩
theorem oK.drop {L : List mC} (h : oK L) (i : Nat) : oK (L.drop i) := by
  intro j Y Z h1 h2
  rw [List.getElem?_drop] at h1 h2
  exact h (i + j) Y Z h1 h2
theorem oK.app {L : List mC} {X Y : mC} (h : oK (L ++ [X])) (hx : X.1 < 2 → gG Y.2 1 < 2) : oK (L ++ [X] ++ [Y]) := by
  intro j P Q h1 h2
  have hl : (L ++ [X]).length = L.length + 1 := List.length_append
  by_cases e : j + 1 < L.length + 1
  · rw [List.getElem?_append_left (by omega)] at h1 h2
    exact h j P Q h1 h2
  · have e2 := (List.getElem?_eq_some_iff.mp h2).1
    rw [List.length_append, hl] at e2
    replace e2 : j + 1 < L.length + 1 + 1 := e2
    have ej : j = L.length := by omega
    subst ej
    rw [List.getElem?_append_right (by omega), hl, Nat.sub_self] at h2
    rw [List.getElem?_append_left (by omega), List.getElem?_append_right (Nat.le_refl _), Nat.sub_self] at h1
    cases h1
    cases h2
    exact hx
theorem oK.pre {L : List mC} {X : mC} (h : oK (L ++ [X])) : oK L := by
  intro j Y Z h1 h2
  have e1 := (List.getElem?_eq_some_iff.mp h1).1
  have e2 := (List.getElem?_eq_some_iff.mp h2).1
  refine h j Y Z ?_ ?_
  · rw [List.getElem?_append_left e1]; exact h1
  · rw [List.getElem?_append_left e2]; exact h2
theorem LI.act {B E : Nat} {T : gT} {Y : mC} (h : LI B T) (hY : KC E Y) (hB : B ≤ E) (hJ : XJ Y) (ho : T.2.1.1 < 2 → gG Y.2 1 < 2) : LI E (gAct T Y) := by
  obtain ⟨h1, h2, h3, h4, h5⟩ := h
  refine ⟨h1.act hY hB, ?_⟩
  obtain ⟨tn, X, D, sl⟩ := T
  refine ⟨hJ, fun Z hZ => ?_, h4, ?_⟩
  · replace hZ : Z ∈ (if D.length = 14 then D.drop 1 else D) ++ [X] := hZ
    rcases List.mem_append.mp hZ with q | q
    · refine h3 Z ?_
      split at q
      · exact List.mem_of_mem_drop q
      · exact q
    · rw [List.mem_singleton] at q
      subst q
      exact h2
  · show oK ((if D.length = 14 then D.drop 1 else D) ++ [X] ++ [Y])
    refine oK.app ?_ ho
    replace h5 : oK (D ++ [X]) := h5
    split
    · rename_i e
      have := h5.drop 1
      rw [List.drop_append, show 1 - D.length = 0 by omega, List.drop_zero] at this
      exact this
    · exact h5
theorem LI.undo {B : Nat} {T : gT} (h : LI B T) (hd : 0 < T.2.2.1.length) (ht : 2 ≤ gG T.2.1.2 1) : LI B (tU T) ∧ 2 ≤ (tU T).2.1.1 := by
  obtain ⟨tn, X, D, sl⟩ := T
  obtain ⟨E, Z, e⟩ := last_of hd
  replace e : D = E ++ [Z] := e
  subst e
  rw [tU_app]
  obtain ⟨h1, h2, h3, h4, h5⟩ := h
  have g1 := h1.undo
  rw [tU_app] at g1
  replace h5 : oK (E ++ [Z] ++ [X]) := h5
  refine ⟨⟨g1, h3 Z (List.mem_append_right _ (List.mem_singleton.mpr rfl)), fun Y hY => h3 Y (List.mem_append_left _ hY), h4, h5.pre⟩, ?_⟩
  rcases Nat.lt_or_ge Z.1 2 with q | q
  · have := h5 E.length Z X (by rw [List.getElem?_append_left (by rw [List.length_append]; show _ < _ + 1; omega), List.getElem?_append_right (Nat.le_refl _), Nat.sub_self]; rfl) (by rw [List.getElem?_append_right (by rw [List.length_append]; exact Nat.le_refl _), List.length_append]; show [X][_ + 1 - (_ + 1)]? = _; rw [Nat.sub_self]; rfl) q
    replace ht : 2 ≤ gG X.2 1 := ht
    omega
  · exact q
theorem LI.dp {B : Nat} {tn : mN × Nat} {X : mC} {D : List mC} {sl : Nat → Option mC} (h : LI B (tn, X, D, sl)) (i : Nat) : LI B (tn, X, D.drop i, sl) := by
  obtain ⟨h1, h2, h3, h4, h5⟩ := h
  refine ⟨gi_dp h1 i, h2, fun Y hY => h3 Y (List.mem_of_mem_drop hY), h4, ?_⟩
  show oK (D.drop i ++ [X])
  replace h5 : oK (D ++ [X]) := h5
  rcases Nat.lt_or_ge D.length i with q | q
  · rw [List.drop_eq_nil_of_le (by omega)]
    intro j Y Z e1 e2
    have := (List.getElem?_eq_some_iff.mp e2).1
    replace this : j + 1 < 1 := this
    omega
  · have := h5.drop i
    rw [List.drop_append, show i - D.length = 0 by omega, List.drop_zero] at this
    exact this
theorem LI.c6 {B : Nat} {T : gT} (h : LI B T) : T.2.1.1 ≤ 6 := h.1.1.1.c6
/-! each thing that is done -/
theorem A_say {B c m : Nat} {S : mS} {t : mN} {n : Nat} {D : List mC} {sl : Nat → Option mC} (h : LI B ((t, n), (c, S), D, sl)) (hc : 2 ≤ c) (hm : m < c) : LI (B + 70000) (g_say ((t, n), (c, S), D, sl) (nI m)).2.2 ∧ 2 ≤ (g_say ((t, n), (c, S), D, sl) (nI m)).2.2.2.1.1 := by
  have h6 : c ≤ 6 := h.c6
  dsimp only [g_say]
  rw [nn (by omega)]
  split
  · exact ⟨h.up (by omega), hc⟩
  · split
    · exact ⟨h.up (by omega), hc⟩
    · rename_i q
      have q2 : gM S m 1 = 0 ∧ gM S m 7 < 4 := Classical.not_not.mp q
      exact ⟨h.act (KC.say1 h.1.1 hm q2.1 q2.2) (by omega) (IJ.say h.2.1 h.1.1.1 hm q2.2) (fun z => absurd (show c < 2 from z) (by omega)), hc⟩
theorem A_call {B c m s : Nat} {S : mS} {t : mN} {n : Nat} {D : List mC} {sl : Nat → Option mC} (h : LI B ((t, n), (c, S), D, sl)) (hc : 2 ≤ c) (hm : m < c) (hs : s < 2 ^ c) (hb : s.testBit m = true) : LI (B + 70000) (g_call ((t, n), (c, S), D, sl) (nI m) (nI s)).2.2 ∧ 2 ≤ (g_call ((t, n), (c, S), D, sl) (nI m) (nI s)).2.2.2.1.1 := by
  have h6 : c ≤ 6 := h.c6
  have h64 : s < 64 := Nat.lt_of_lt_of_le hs (Nat.pow_le_pow_right (by decide) h6)
  dsimp only [g_call]
  rw [nn (by omega), nn (by omega)]
  split
  · exact ⟨h.up (by omega), hc⟩
  · split
    · exact ⟨h.up (by omega), hc⟩
    · split
      · exact ⟨h.up (by omega), hc⟩
      · exact ⟨h.act (Y := (c, mcall S m s)) ⟨(NB.call h.1.1.1 hm h64).up (by omega), Iv.call h.1.1.2 hm hb⟩ (by omega) (IJ.call h.2.1 h.1.1.1 hm hb hs) (fun z => absurd (show c < 2 from z) (by omega)), hc⟩
theorem nI_inj {a b : Nat} (ha : a < 2147483648) (hb : b < 2147483648) (h : nI a = nI b) : a = b := by
  have h1 := nI_toInt ha
  have h2 := nI_toInt hb
  rw [h] at h1
  omega
theorem A_cut {B c a d : Nat} {S : mS} {t : mN} {n : Nat} {D : List mC} {sl : Nat → Option mC} {z : Bool} (h : LI B ((t, n), (c, S), D, sl)) (hc : 2 ≤ c) (ha : a < c) (hd : d < c) : LI (B + 70000) (g_cut ((t, n), (c, S), D, sl) (nI a) (nI d) z).2.2 ∧ 2 ≤ (g_cut ((t, n), (c, S), D, sl) (nI a) (nI d) z).2.2.2.1.1 := by
  have h6 : c ≤ 6 := h.c6
  dsimp only [g_cut]
  rw [nn (by omega), nn (by omega)]
  split
  · exact ⟨h.up (by omega), hc⟩
  · split
    · exact ⟨h.up (by omega), hc⟩
    · rename_i q
      have hne : a ≠ d := fun e => q (by rw [e])
      exact ⟨h.act (Y := (c, mcut S a d z)) ⟨(NB.cut9 h.1.1.1 (by omega) (by omega) z).up (by omega), Iv.cut h.1.1.2 (by omega) (by omega) hne z⟩ (by omega) (IJ.cut h.2.1 z) (fun y => absurd (show c < 2 from y) (by omega)), hc⟩
theorem A_leave {B c m : Nat} {S : mS} {t : mN} {n : Nat} {D : List mC} {sl : Nat → Option mC} (h : LI B ((t, n), (c, S), D, sl)) (hc : 2 ≤ c) (hm : m < c) : LI (B + 70000) (g_leave ((t, n), (c, S), D, sl) (nI m)).2.2 ∧ 2 ≤ (g_leave ((t, n), (c, S), D, sl) (nI m)).2.2.2.1.1 := by
  have h6 : c ≤ 6 := h.c6
  dsimp only [g_leave]
  rw [nn (by omega)]
  split
  · exact ⟨h.up (by omega), hc⟩
  · split
    · exact ⟨h.up (by omega), hc⟩
    · exact ⟨h.act (Y := (c, mleave S m)) ⟨(NB.leave h.1.1.1).up (by omega), Iv.leave h.1.1.2 hm⟩ (by omega) (IJ.leave h.2.1 h.1.1.1 hm) (fun y => absurd (show c < 2 from y) (by omega)), hc⟩
theorem A_back {B c m : Nat} {S : mS} {t : mN} {n : Nat} {D : List mC} {sl : Nat → Option mC} (h : LI B ((t, n), (c, S), D, sl)) (hc : 2 ≤ c) (hm : m < c) : LI (B + 70000) (g_back ((t, n), (c, S), D, sl) (nI m)).2.2 ∧ 2 ≤ (g_back ((t, n), (c, S), D, sl) (nI m)).2.2.2.1.1 := by
  have h6 : c ≤ 6 := h.c6
  dsimp only [g_back]
  rw [nn (by omega)]
  split
  · exact ⟨h.up (by omega), hc⟩
  · split
    · exact ⟨h.up (by omega), hc⟩
    · rename_i q
      have q2 : gM S m 1 = 2 := Classical.not_not.mp q
      exact ⟨h.act (Y := (c, mback S m)) ⟨(NB.back h.1.1.1 hm).up (by omega), Iv.back h.1.1.2 hm q2⟩ (by omega) (IJ.back h.2.1 h.1.1.1 hm q2) (fun y => absurd (show c < 2 from y) (by omega)), hc⟩
theorem A_set {B c a : Nat} {S : mS} {t : mN} {n : Nat} {D : List mC} {sl : Nat → Option mC} (h : LI B ((t, n), (c, S), D, sl)) (hc : 2 ≤ c) (ha : a ≤ 40) (hB : 100 ≤ B) : LI (B + 70000) (g_set ((t, n), (c, S), D, sl) (nI a)).2.2 ∧ 2 ≤ (g_set ((t, n), (c, S), D, sl) (nI a)).2.2.2.1.1 := by
  dsimp only [g_set]
  rw [nn (by omega)]
  split
  · exact ⟨h.up (by omega), hc⟩
  · exact ⟨h.act (Y := (c, sG S 7 a)) (KC.set h.1.1 (a := a) (by omega)) (by omega) (IJ.g h.2.1 (by decide)) (fun y => absurd (show c < 2 from y) (by omega)), hc⟩
theorem A_ticks {B c p : Nat} {S : mS} {t : mN} {n : Nat} {D : List mC} {sl : Nat → Option mC} (h : LI B ((t, n), (c, S), D, sl)) (hc : 2 ≤ c) (hp : p ≤ 60) : LI (B + 70000) (g_ticks ((t, n), (c, S), D, sl) (nI p)).2.2 ∧ 2 ≤ (g_ticks ((t, n), (c, S), D, sl) (nI p)).2.2.2.1.1 := by
  dsimp only [g_ticks]
  rw [nn (by omega)]
  split
  · exact ⟨h.up (by omega), hc⟩
  · exact ⟨h.act (Y := (c, mticks p S)) (KC.ticks h.1.1 hp) (by omega) (IJ.ticks h.2.1 h.1.1.1 p) (fun y => absurd (show c < 2 from y) (by omega)), hc⟩
theorem A_save {B c : Nat} {s : Int32} {S : mS} {t : mN} {n : Nat} {D : List mC} {sl : Nat → Option mC} (h : LI B ((t, n), (c, S), D, sl)) (hc : 2 ≤ c) : LI (B + 70000) (g_save ((t, n), (c, S), D, sl) s).2.2 ∧ 2 ≤ (g_save ((t, n), (c, S), D, sl) s).2.2.2.1.1 := by
  dsimp only [g_save]
  split
  · exact ⟨h.up (by omega), hc⟩
  · obtain ⟨⟨a1, a2, a3⟩, h2, h3, h4, h5⟩ := h.up (E := B + 70000) (by omega)
    refine ⟨⟨⟨a1, a2, fun i Y hY => ?_⟩, h2, h3, fun i Y hY => ?_, h5⟩, hc⟩
    · replace hY : (if i = s.toInt.toNat then some (c, S) else sl i) = some Y := hY
      split at hY
      · cases hY; exact a1
      · exact a3 i Y hY
    · replace hY : (if i = s.toInt.toNat then some (c, S) else sl i) = some Y := hY
      split at hY
      · cases hY; exact ⟨h2, hc⟩
      · exact h4 i Y hY
theorem A_restore {B c : Nat} {s : Int32} {S : mS} {t : mN} {n : Nat} {D : List mC} {sl : Nat → Option mC} (h : LI B ((t, n), (c, S), D, sl)) (hc : 2 ≤ c) : LI (B + 70000) (g_restore ((t, n), (c, S), D, sl) s).2.2 ∧ 2 ≤ (g_restore ((t, n), (c, S), D, sl) s).2.2.2.1.1 := by
  dsimp only [g_restore]
  split
  · exact ⟨h.up (by omega), hc⟩
  · obtain ⟨⟨a1, a2, a3⟩, h2, h3, h4, h5⟩ := h.up (E := B + 70000) (by omega)
    cases e : sl s.toInt.toNat with
    | none => exact ⟨h.up (by omega), hc⟩
    | some Y =>
      refine ⟨⟨⟨a3 _ Y e, fun Z hZ => absurd hZ List.not_mem_nil, a3⟩, (h4 _ Y e).1, fun Z hZ => absurd hZ List.not_mem_nil, h4, ?_⟩, (h4 _ Y e).2⟩
      intro j P Q e1 e2
      have := (List.getElem?_eq_some_iff.mp e2).1
      replace this : j + 1 < 1 := this
      omega
theorem A_member {B c p : Nat} {S : mS} {t : mN} {n : Nat} {D : List mC} {sl : Nat → Option mC} (h : LI B ((t, n), (c, S), D, sl)) (hp : p ≤ 9) (hB : 100 ≤ B) (ho : c < 2 → gG S 1 < 2) : LI (B + 70000) (g_member ((t, n), (c, S), D, sl) (nI p)).2.2 ∧ c ≤ (g_member ((t, n), (c, S), D, sl) (nI p)).2.2.2.1.1 := by
  dsimp only [g_member]
  rw [nn (by omega)]
  split
  · exact ⟨h.up (by omega), Nat.le_refl _⟩
  · split
    · exact ⟨h.up (by omega), Nat.le_refl _⟩
    · rename_i q
      have q2 : c < 6 := by omega
      exact ⟨h.act (Y := (c + 1, madd S p)) ⟨(NB.add h.1.1.1 q2 hp (by omega)).up (by omega), Iv.add h.1.1.2 h.1.1.1 q2⟩ (by omega) (IJ.add h.2.1 h.1.1.1 h.1.1.2.1.2.1 q2) ho, Nat.le_succ c⟩
theorem A_undo {B c : Nat} {S : mS} {t : mN} {n : Nat} {D : List mC} {sl : Nat → Option mC} (h : LI B ((t, n), (c, S), D, sl)) (hc : 2 ≤ c) (ht : 2 ≤ gG S 1) : LI (B + 70000) (g_undo ((t, n), (c, S), D, sl)).2.2 ∧ 2 ≤ (g_undo ((t, n), (c, S), D, sl)).2.2.2.1.1 := by
  dsimp only [g_undo]
  split
  · exact ⟨h.up (by omega), hc⟩
  · rename_i q
    have := LI.undo h (by show 0 < D.length; omega) ht
    exact ⟨this.1.up (by omega), this.2⟩
theorem LI_gact {B x : Nat} {T : gT} (h : LI B T) (hc : 2 ≤ T.2.1.1) (hB : 100 ≤ B) : LI (B + 70000) (gact x T).2 ∧ 2 ≤ (gact x T).2.2.1.1 := by
  obtain ⟨⟨t, n⟩, ⟨c, S⟩, D, sl⟩ := T
  replace hc : 2 ≤ c := hc
  have h6 : c ≤ 6 := h.c6
  unfold gact
  generalize x / 16 = y
  generalize x % 16 = k
  have hm : y % c < c := Nat.mod_lt _ (by omega)
  have hd : y / 6 % c < c := Nat.mod_lt _ (by omega)
  dsimp only [gactK]
  split
  · exact A_say h hc hm
  split
  · exact A_call h hc hm (set_ok h6 hm).1 (set_ok h6 hm).2
  split
  · exact A_cut h hc hm hd
  split
  · split
    · exact A_back h hc hm
    · split
      · exact A_leave h hc hm
      · exact ⟨h.up (by omega), hc⟩
  split
  · refine A_set h hc ?_ hB
    split <;> omega
  split
  · split
    · exact A_save h hc
    · exact A_restore h hc
  split
  · split
    · have := A_member (p := y % 10) h (by omega) hB (fun _ => by assumption)
      exact ⟨this.1, Nat.le_trans hc this.2⟩
    · exact A_undo h hc (by omega)
  · exact A_ticks h hc (by omega)
theorem LI0 : LI 100 gT0 := ⟨GI0, IJ0, fun Y hY => absurd hY List.not_mem_nil, fun i Y hY => (nomatch hY), fun j P Q e1 e2 => by
  have := (List.getElem?_eq_some_iff.mp e2).1
  replace this : j + 1 < 1 := this
  omega⟩
