
/-! A ROLL IS CALLED, waited for, undone: what the objects are -/
def qE (σ : vS) (x : Int32) (P : gT → Prop) : Option Value → vM → Prop := fun r μ' => r = some (.int x) ∧ ∃ (v' : vV) (T : gT), μ' = (σ, v') ∧ LW v' T T ∧ P T
theorem qe_end {σ : vS} {v : vV} {x y : Int32} {T : gT} {P : gT → Prop} (h : LW v T T) (e : x = y) (e2 : P T) : vN (qE σ y P) (.inl (some (.int x))) (σ, v) := ⟨by rw [e], v, T, rfl, h, e2⟩
theorem G_l3 {Z9 : kZ9} {M z : vR} {y : MethodName} {pc idx E u u2 K np : Nat} {ls : List (Option Value)} {st rest As : List Value} {σ : vS} {v : vV} {x : Int32} {P : gT → Prop} {Q : vO → vM → Prop} (hZ : zGo Z9 zN) (hd : decode (vCC M) pc = .ok (.invokestatic idx, 3)) (hl : Cond.methodLink (vOwn M) idx y ∈ aw) (hy : vY z y np) (hs : Cond.static y ∈ aw) (hR : (vRm z).frames + 1 ≤ (vRm M).frames ∧ 8 + (vNL z + 11) + (vRm z).locals ≤ (vRm M).locals) (hst : st = As.reverse ++ rest) (hnp : As.length = np) (hcat : (rest.map fun v => v.category).sum ≤ 8) (hK : ((vRm z).cells, (vRm z).slots) = (4 * K, 24 * K)) (hf : σ.2.2.2 = false) (hu : u + K ≤ E ∧ u2 = u + K) (hc : vCZ zN z y As (σ, v) (qE σ x P)) (k : ∀ v' T, LW v' T T → P T → vG Z9 M (pc + 3) ls (.int x :: rest) (4 * (E - u2), 24 * (E - u2)) (σ, v') Q) : vG Z9 M pc ls st (4 * (E - u), 24 * (E - u)) (σ, v) Q := by
  have k1 : (vRm z).cells = 4 * K := congrArg Prod.fst hK
  have k2 : (vRm z).slots = 24 * K := congrArg Prod.snd hK
  obtain ⟨u1, rfl⟩ := hu
  refine G_callZ hZ zN_bl hd hl hy hs hR hst hnp hcat ⟨by rw [k1]; show 4 * K ≤ 4 * (E - u); omega, by rw [k2]; show 24 * K ≤ 24 * (E - u); omega⟩ hc ?_ ?_
  · rintro o μ ⟨-, v', T, rfl, -⟩ g
    exact absurd (hf.symm.trans g) Bool.false_ne_true
  · rintro o μ ⟨rfl, v', T, rfl, hw', hp'⟩
    have := k v' T hw' hp'
    rw [show 4 * (E - (u + K)) = 4 * (E - u) - (vRm z).cells by rw [k1]; omega, show 24 * (E - (u + K)) = 24 * (E - u) - (vRm z).slots by rw [k2]; omega] at this
    exact this
def pw (c : Nat) (V : mS) (p : Nat) : List mC := if p = 0 then [] else if p ≤ 60 then [(c, V)] else [(c, V), (c, mticks 60 V)]
theorem wT_ul {t : mN} {n c j p : Nat} {V : mS} {D L : List mC} {sl : Nat → Option mC} (hl : L.length ≤ 11) : ∃ i, wT ((t, n), (c, V), D.drop j ++ L, sl) p = ((t, n), (c, mticks p V), D.drop i ++ (L ++ pw c V p), sl) := by
  dsimp only [wT, pw]
  by_cases e : p = 0
  · subst e
    refine ⟨j, ?_⟩
    rw [if_pos rfl, if_pos rfl, List.append_nil]
    rfl
  · rw [if_neg e, if_neg e]
    by_cases e6 : p ≤ 60
    · rw [if_pos e6, if_pos e6]
      obtain ⟨i, hi⟩ := ul_push (tn := (t, n)) (D := D) (L := L) (sl := sl) (X := (c, V)) (j := j) (by omega) (c, mticks p V)
      exact ⟨i, hi⟩
    · rw [if_neg e6, if_neg e6]
      obtain ⟨i, hi⟩ := ul_push (tn := (t, n)) (D := D) (L := L) (sl := sl) (X := (c, V)) (j := j) (by omega) (c, mticks 60 V)
      obtain ⟨i2, hi2⟩ := ul_push (tn := (t, n)) (D := D) (L := L ++ [(c, V)]) (sl := sl) (X := (c, mticks 60 V)) (j := i) (by rw [List.length_append]; show L.length + 1 ≤ 12; omega) (c, mticks (p - 60) (mticks 60 V))
      have hd : dr1 (D.drop j ++ L) ++ [(c, V)] = D.drop i ++ (L ++ [(c, V)]) := congrArg (fun T : gT => T.2.2.1) hi
      have hd2 : dr1 (D.drop i ++ (L ++ [(c, V)])) ++ [(c, mticks 60 V)] = D.drop i2 ++ (L ++ [(c, V)] ++ [(c, mticks 60 V)]) := congrArg (fun T : gT => T.2.2.1) hi2
      refine ⟨i2, ?_⟩
      rw [hd, hd2, ← mticks_add, show 60 + (p - 60) = p by omega, List.append_assoc]
      rfl
theorem tU_app {tn : mN × Nat} {E : List mC} {sl : Nat → Option mC} {X Y : mC} : tU (tn, X, E ++ [Y], sl) = (tn, Y, E, sl) := by
  show (tn, (E ++ [Y]).getLast?.getD X, (E ++ [Y]).dropLast, sl) = _
  rw [List.getLast?_concat, List.dropLast_concat]
  rfl
theorem uT_ul {t : mN} {n c i p : Nat} {V : mS} {D L : List mC} {sl : Nat → Option mC} : uT ((t, n), (c, mticks p V), D.drop i ++ (L ++ pw c V p), sl) p = ((t, n), (c, V), D.drop i ++ L, sl) := by
  unfold uT pw
  by_cases e : p = 0
  · subst e
    rw [if_pos rfl, if_pos rfl, List.append_nil]
    rfl
  · rw [if_neg e, if_neg e]
    by_cases e6 : p ≤ 60
    · rw [if_pos e6, if_pos e6, ← List.append_assoc]
      exact tU_app
    · rw [if_neg e6, if_neg e6, show D.drop i ++ (L ++ [(c, V), (c, mticks 60 V)]) = (D.drop i ++ L ++ [(c, V)]) ++ [(c, mticks 60 V)] by simp, tU_app, tU_app]
theorem tc_ex {t : mN} {n : Nat} {X Y : mC} {D : List mC} {sl : Nat → Option mC} : ∃ i, (((t, n), X, dr1 D ++ [Y], sl) : gT) = ((t, n), X, D.drop i ++ [Y], sl) := by
  unfold dr1
  split
  · exact ⟨1, rfl⟩
  · exact ⟨0, by rw [List.drop_zero]⟩
theorem set_ok {c m y : Nat} (hc : c ≤ 6) (hm : m < c) : ((y % 64 ||| 1 <<< m) &&& (1 <<< c - 1)) < 2 ^ c ∧ ((y % 64 ||| 1 <<< m) &&& (1 <<< c - 1)).testBit m = true := by
  have hp : 0 < 2 ^ c := Nat.pow_pos (by decide)
  refine ⟨?_, ?_⟩
  · rw [Nat.one_shiftLeft c]
    exact Nat.lt_of_le_of_lt Nat.and_le_right (by omega)
  · rw [Nat.testBit_and, tb_or.mpr (Or.inr rfl), Nat.one_shiftLeft, Nat.testBit_two_pow_sub_one, decide_eq_true hm]
    rfl
theorem one_bits : ∀ s, s < 64 → ∀ m, m < 6 → s.testBit m = true → mbits s 24 ≤ 1 → s = 1 <<< m := by decide +kernel
theorem gi_w {B t0 c i p : Nat} {S V : mS} {t : mN} {D : List mC} {sl : Nat → Option mC} (h : GI B ((t, t0), (c, S), D, sl)) (hk : ∀ q, q ≤ 100 → KC (B + 270000) (c, mticks q V)) (hp : p ≤ 100) : GI (B + 270000) ((t, t0), (c, mticks p V), D.drop i ++ ([(c, S)] ++ pw c V p), sl) := by
  refine gi_mk h (by omega) (hk p hp) (fun Z hZ => ?_)
  rcases List.mem_append.mp hZ with q | q
  · rw [List.mem_singleton] at q
    subst q
    exact h.1.up (by omega)
  · unfold pw at q
    split at q
    · exact absurd q List.not_mem_nil
    · split at q
      · rw [List.mem_singleton] at q
        subst q
        exact hk 0 (by omega)
      · rename_i e6
        simp only [List.mem_cons, List.not_mem_nil, or_false] at q
        rcases q with rfl | rfl
        · exact hk 0 (by omega)
        · exact hk 60 (by omega)
theorem st_waits {σ : vS} {v : vV} {B t0 c i p : Nat} {S V : mS} {t : mN} {D : List mC} {sl : Nat → Option mC} (hTo : kLT σ 0) (hTq : kLT σ 1603) (hW : LW v ((t, t0), (c, V), D.drop i ++ [(c, S)], sl) ((t, t0), (c, V), D.drop i ++ [(c, S)], sl)) (h : GI B ((t, t0), (c, S), D, sl)) (hk : ∀ q, q ≤ 100 → KC (B + 270000) (c, mticks q V)) (hp : p ≤ 100) (hB2 : B ≤ 200000000) (hf : σ.2.2.2 = false) : ∃ k, vCZ zN M_L_waits yL_waits [.ref 0, .ref 1603, .int (nI p)] (σ, v) (qD σ (nI 1) ((t, t0), (c, mticks p V), D.drop k ++ ([(c, S)] ++ pw c V p), sl)) := by
  have hg : GI (B + 270000) ((t, t0), (c, V), D.drop i ++ [(c, S)], sl) := gi_w (p := 0) h hk (by omega)
  obtain ⟨k, hk2⟩ := wT_ul (t := t) (n := t0) (c := c) (j := i) (p := p) (V := V) (D := D) (L := [(c, S)]) (sl := sl) (by show 1 ≤ 11; omega)
  have h1 := c_L_waits hTo hTq hW hg (by omega) hf hp (by omega) hk
  rw [hk2] at h1
  exact ⟨k, h1⟩
theorem st_undoes {σ : vS} {v : vV} {B t0 c i p : Nat} {S V : mS} {t : mN} {D : List mC} {sl : Nat → Option mC} (hTo : kLT σ 0) (hTq : kLT σ 1603) (hW : LW v ((t, t0), (c, mticks p V), D.drop i ++ ([(c, S)] ++ pw c V p), sl) ((t, t0), (c, mticks p V), D.drop i ++ ([(c, S)] ++ pw c V p), sl)) (h : GI B ((t, t0), (c, S), D, sl)) (hk : ∀ q, q ≤ 100 → KC (B + 270000) (c, mticks q V)) (hp : p ≤ 100) (hB2 : B ≤ 200000000) (hf : σ.2.2.2 = false) : vCZ zN M_L_undoes yL_undoes [.ref 0, .ref 1603, .int (nI p)] (σ, v) (qD σ (nI 1) ((t, t0), (c, V), D.drop i ++ [(c, S)], sl)) := by
  have hg := gi_w (i := i) h hk hp
  have h1 := c_L_undoes hTo hTq hW hg (by omega) hf hp (fun _ => by rw [List.length_append, List.length_append]; show 0 < _ + (1 + _); omega) (fun q => by
    show 0 < (D.drop i ++ ([(c, S)] ++ pw c V p)).dropLast.length
    unfold pw
    rw [if_neg (by omega), if_neg (by omega), List.length_dropLast, List.length_append, List.length_append]
    show 0 < _ + (1 + 2) - 1
    omega)
  rw [uT_ul] at h1
  exact h1
