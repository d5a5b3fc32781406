
theorem mat_0 {L : List mN} {t : Nat} : mat L t 0 = 0 := rfl
theorem mat_back {L : List mN} {t k : Nat} (hk : 0 < k) (h : t < (L.getD (k - 1) n0) 3) : mat L t k = mat L t (k - 1) := by
  obtain ⟨j, rfl⟩ : ∃ j, k = j + 1 := ⟨k - 1, by omega⟩
  rw [Nat.add_sub_cancel] at h ⊢
  rw [mat, if_pos h]
theorem mat_here {L : List mN} {t k : Nat} (hk : 0 < k) (h : ¬ t < (L.getD (k - 1) n0) 3) : mat L t k = k := by
  obtain ⟨j, rfl⟩ : ∃ j, k = j + 1 := ⟨k - 1, by omega⟩
  rw [Nat.add_sub_cancel] at h
  rw [mat, if_neg h]
theorem CR.xd {c : Nat} {v : vV} {b : Nat} {S : mS} (h : CR c v b S) {k j : Nat} (hk : k < (gN S).length) (hj : j < 9) : v (b + 4) (9 * k + j) = nI (xc ((gN S).getD k n0) j) := h.x (getD_some hk) hj
/-- a note is put among the others -/
theorem CR.ins {c : Nat} {v v' : vV} {b p : Nat} {S : mS} {x : mN} (h : CR c v b S) (hl : (gN S).length < 150) (hp : p ≤ (gN S).length) (h1 : ∀ i, v' (b + 4) i = if p * 9 ≤ i ∧ i < p * 9 + 9 then nI (xc x (i - p * 9)) else if p * 9 + 9 ≤ i ∧ i < (gN S).length * 9 + 9 then v (b + 4) (i - 9) else v (b + 4) i) (h2 : ∀ j, j ≠ 3 → v' (b + 2) j = v (b + 2) j) (h3 : v' (b + 2) 3 = nI ((gN S).length + 1)) (ho : ∀ n, n ≠ b + 2 → n ≠ b + 4 → v' n = v n) : CR c v' b (sN S (mins (gN S) p x)) := by
  have e0 := ho b (by omega) (by omega)
  refine h.rest ⟨h.c0, h.c6⟩ (by rw [e0]; exact ⟨h.g3, h.g4, h.g5, h.g6, h.g7, h.g8⟩) ⟨?_, ?_, ?_⟩ (fun a ha => by rw [ho (b + 3) (by omega) (by omega)]; exact h.cu ha) (fun k y hy j hj => ?_) (fun n g1 g2 => ho n (by omega) (by omega)) rfl rfl rfl ?_
  · rw [h2 2 (by omega)]; exact h.p2
  · rw [h3]; exact congrArg nI (mins_len hp).symm
  · rw [h2 4 (by omega)]; exact h.p4
  · have hy' : (mins (gN S) p x)[k]? = some y := hy
    rw [mins_get hp] at hy'
    rw [h1]
    split at hy'
    · rw [if_neg (by omega), if_neg (by omega)]; exact h.x hy' hj
    · split at hy'
      · rename_i g1 g2
        cases hy'
        subst g2
        rw [if_pos (by omega), show 9 * k + j - k * 9 = j by omega]
      · have hk : k - 1 < (gN S).length := (List.getElem?_eq_some_iff.mp hy').1
        rw [if_neg (by omega), if_pos (by omega), show 9 * k + j - 9 = 9 * (k - 1) + j by omega]
        exact h.x hy' hj
  · show (mins (gN S) p x).length ≤ 150
    rw [mins_len hp]; omega
theorem CR.drop1 {c : Nat} {v v' : vV} {b : Nat} {S : mS} (h : CR c v b S) (hl : 0 < (gN S).length) (h1 : ∀ i, i < ((gN S).length - 1) * 9 → v' (b + 4) i = v (b + 4) (9 + i)) (h2 : ∀ j, j ≠ 3 → v' (b + 2) j = v (b + 2) j) (h3 : v' (b + 2) 3 = nI ((gN S).length - 1)) (ho : ∀ n, n ≠ b + 2 → n ≠ b + 4 → n ≠ b + 5 → v' n = v n) : CR c v' b (sN S ((gN S).drop 1)) := by
  have e0 := ho b (by omega) (by omega) (by omega)
  refine h.rest ⟨h.c0, h.c6⟩ (by rw [e0]; exact ⟨h.g3, h.g4, h.g5, h.g6, h.g7, h.g8⟩) ⟨?_, ?_, ?_⟩ (fun a ha => by rw [ho (b + 3) (by omega) (by omega) (by omega)]; exact h.cu ha) (fun k y hy j hj => ?_) (fun n g1 g2 => ho n (by omega) (by omega) (by omega)) rfl rfl rfl ?_
  · rw [h2 2 (by omega)]; exact h.p2
  · rw [h3]; exact congrArg nI (List.length_drop ..).symm
  · rw [h2 4 (by omega)]; exact h.p4
  · have hy' : ((gN S).drop 1)[k]? = some y := hy
    rw [List.getElem?_drop] at hy'
    have hk : 1 + k < (gN S).length := (List.getElem?_eq_some_iff.mp hy').1
    rw [h1 _ (by omega), show 9 + (9 * k + j) = 9 * (1 + k) + j by omega]
    exact h.x hy' hj
  · show ((gN S).drop 1).length ≤ 150
    rw [List.length_drop]; have := h.b.2.2; omega
theorem CR.cutw {c : Nat} {v v' : vV} {b : Nat} {S S' : mS} (h : CR c v b S) (h1 : ∀ i, i < 6 → v' (b + 3) i = nI (gG S' (8 + i))) (h2 : v' (b + 2) 2 = nI (mways S')) (h3 : ∀ j, j ≠ 2 → v' (b + 2) j = v (b + 2) j) (ho : ∀ n, n ≠ b + 2 → n ≠ b + 3 → v' n = v n) (hg : ∀ i, i < 8 → gG S' i = gG S i) (hs : S'.2 = S.2) : CR c v' b S' := by
  have e0 := ho b (by omega) (by omega)
  have eM : gM S' = gM S := congrArg Prod.fst hs
  have eK : gK S' = gK S := congrArg (fun x => x.2.1) hs
  have eH : gH S' = gH S := congrArg (fun x => x.2.2.1) hs
  have eN : gN S' = gN S := congrArg (fun x => x.2.2.2) hs
  refine h.rest ⟨by rw [hg 0 (by omega)]; exact h.c0, h.c6⟩ ?_ ⟨h2, by rw [h3 3 (by omega), eN]; exact h.p3, by rw [h3 4 (by omega), hg 3 (by omega)]; exact h.p4⟩ h1 (fun k y hy j hj => ?_) (fun n g1 g2 => ho n (by omega) (by omega)) eM eK eH (by rw [eN]; exact h.b.2.2)
  · rw [e0, hg 1 (by omega), hg 7 (by omega), hg 4 (by omega), hg 5 (by omega), hg 6 (by omega)]; exact ⟨h.g3, h.g4, h.g5, h.g6, h.g7, h.g8⟩
  · rw [ho (b + 4) (by omega) (by omega)]; rw [eN] at hy; exact h.x hy hj
theorem or_xor {a k : Nat} (h : a.testBit k = false) : a ||| 1 <<< k = a ^^^ 1 <<< k := by
  apply Nat.eq_of_testBit_eq
  intro j
  rw [Nat.testBit_or, Nat.testBit_xor, tb_one]
  by_cases e : k = j
  · subst e; rw [h, decide_eq_true rfl]; rfl
  · rw [decide_eq_false e, Bool.or_false, Bool.xor_false]
theorem clr_no {a k : Nat} (h : a.testBit k = false) : mclr a k = a := by
  unfold mclr; rw [h]; rfl
theorem clr_yes {a k : Nat} (h : a.testBit k = true) : mclr a k = a ^^^ 1 <<< k := by
  unfold mclr; rw [h]; rfl
theorem tb_xor {a k j : Nat} : (a ^^^ 1 <<< k).testBit j = (a.testBit j != decide (k = j)) := by
  rw [Nat.testBit_xor, tb_one]
theorem mbits_xor {a k : Nat} : ∀ n, mbits (a ^^^ 1 <<< k) n + (if k < n ∧ a.testBit k = true then 1 else 0) = mbits a n + (if k < n ∧ a.testBit k = false then 1 else 0) := by
  intro n
  induction n with
  | zero => rw [if_neg (by omega), if_neg (by omega)]; rfl
  | succ n ih =>
    rw [mbits, mbits, tb_xor]
    by_cases e : k = n
    · subst e
      rw [if_neg (by omega), if_neg (by omega)] at ih
      cases hb : a.testBit k with
      | true => simp; omega
      | false => simp; omega
    · have hk : (k < n + 1) = (k < n) := propext ⟨fun _ => by omega, fun _ => by omega⟩
      rw [decide_eq_false e, Bool.bne_false]
      simp only [hk]
      omega
theorem msb_add {S S' : mS} {a d : Nat} (h : ∀ i, mbits (gG S' (8 + i)) 24 = mbits (gG S (8 + i)) 24 + (if i = a then 1 else 0) + (if i = d then 1 else 0)) : ∀ n, msb S' n = msb S n + (if a < n then 1 else 0) + (if d < n then 1 else 0) := by
  intro n
  induction n with
  | zero => rw [if_neg (by omega), if_neg (by omega)]; rfl
  | succ n ih =>
    rw [msb, msb, ih, h n]
    by_cases e1 : n = a
    · subst e1
      rw [if_pos rfl, if_neg (Nat.lt_irrefl _), if_pos (Nat.lt_succ_self n)]
      by_cases e2 : n = d
      · subst e2; rw [if_pos rfl, if_neg (Nat.lt_irrefl _), if_pos (Nat.lt_succ_self n)]; omega
      · rw [if_neg e2]
        by_cases g : d < n
        · rw [if_pos g, if_pos (by omega)]; omega
        · rw [if_neg g, if_neg (by omega)]; omega
    · rw [if_neg e1]
      by_cases g1 : a < n
      · rw [if_pos g1, if_pos (by omega : a < n + 1)]
        by_cases e2 : n = d
        · subst e2; rw [if_pos rfl, if_neg (Nat.lt_irrefl _), if_pos (Nat.lt_succ_self n)]; omega
        · rw [if_neg e2]
          by_cases g : d < n
          · rw [if_pos g, if_pos (by omega)]; omega
          · rw [if_neg g, if_neg (by omega)]; omega
      · rw [if_neg g1, if_neg (by omega : ¬ a < n + 1)]
        by_cases e2 : n = d
        · subst e2; rw [if_pos rfl, if_neg (Nat.lt_irrefl _), if_pos (Nat.lt_succ_self n)]; omega
        · rw [if_neg e2]
          by_cases g : d < n
          · rw [if_pos g, if_pos (by omega)]; omega
          · rw [if_neg g, if_neg (by omega)]; omega
/-- a way is cut or mended where it is not so: two bits change -/
theorem cut_x {S : mS} {a d : Nat} {cut : Bool} (hs : gOK S) (ha : a < 6) (hd : d < 6) (had : a ≠ d) (hb : (gG S (8 + a)).testBit d = !cut) : ∀ i, gG (mcut S a d cut) (8 + i) = if i = d then gG S (8 + d) ^^^ 1 <<< a else if i = a then gG S (8 + a) ^^^ 1 <<< d else gG S (8 + i) := by
  intro i
  have hb2 : (gG S (8 + d)).testBit a = !cut := by rw [← hs a d ha hd]; exact hb
  unfold mcut
  cases cut with
  | true =>
    rw [if_pos rfl, sG_at, sG_at, ← or_xor hb, ← or_xor hb2]
    by_cases e1 : i = d
    · rw [if_pos (by omega), if_pos e1]
    · rw [if_neg (by omega), if_neg e1]
      by_cases e2 : i = a
      · rw [if_pos (by omega), if_pos e2]
      · rw [if_neg (by omega), if_neg e2]
  | false =>
    rw [if_neg Bool.false_ne_true, sG_at, sG_at, clr_yes hb, clr_yes hb2]
    by_cases e1 : i = d
    · rw [if_pos (by omega), if_pos e1]
    · rw [if_neg (by omega), if_neg e1]
      by_cases e2 : i = a
      · rw [if_pos (by omega), if_pos e2]
      · rw [if_neg (by omega), if_neg e2]
theorem cut_w {S : mS} {a d : Nat} {cut : Bool} (hs : gOK S) (ha : a < 6) (hd : d < 6) (had : a ≠ d) (hb : (gG S (8 + a)).testBit d = !cut) : if cut = true then mways (mcut S a d cut) = mways S + 1 else mways S = mways (mcut S a d cut) + 1 := by
  have hx := cut_x hs ha hd had hb
  have hb2 : (gG S (8 + d)).testBit a = !cut := by rw [← hs a d ha hd]; exact hb
  have q1 := mbits_xor (a := gG S (8 + a)) (k := d) 24
  have q2 := mbits_xor (a := gG S (8 + d)) (k := a) 24
  rw [hb] at q1
  rw [hb2] at q2
  cases cut with
  | true =>
    rw [if_pos rfl]
    have := msb_add (S := S) (S' := mcut S a d true) (a := a) (d := d) (fun i => by
      rw [hx i]
      rw [if_neg (by simp), if_pos (by simp; omega)] at q1 q2
      by_cases e1 : i = d
      · subst e1; rw [if_pos rfl, if_neg (fun q => had q.symm), if_pos rfl]; omega
      · rw [if_neg e1, if_neg e1]
        by_cases e2 : i = a
        · subst e2; rw [if_pos rfl, if_pos rfl]; omega
        · rw [if_neg e2, if_neg e2]; rfl) 6
    rw [if_pos ha, if_pos hd] at this
    unfold mways; omega
  | false =>
    rw [if_neg Bool.false_ne_true]
    have := msb_add (S := mcut S a d false) (S' := S) (a := a) (d := d) (fun i => by
      rw [hx i]
      rw [if_pos (by simp; omega), if_neg (by simp)] at q1 q2
      by_cases e1 : i = d
      · subst e1; rw [if_pos rfl, if_neg (fun q => had q.symm), if_pos rfl]; omega
      · rw [if_neg e1, if_neg e1]
        by_cases e2 : i = a
        · subst e2; rw [if_pos rfl, if_pos rfl]; omega
        · rw [if_neg e2, if_neg e2]; rfl) 6
    rw [if_pos ha, if_pos hd] at this
    unfold mways; omega
theorem cut_same {S : mS} {a d : Nat} {cut : Bool} (hs : gOK S) (ha : a < 6) (hd : d < 6) (hb : (gG S (8 + a)).testBit d = cut) : mcut S a d cut = S := by
  have hb2 : (gG S (8 + d)).testBit a = cut := by rw [← hs a d ha hd]; exact hb
  have or_no : ∀ {x k : Nat}, x.testBit k = true → x ||| 1 <<< k = x := fun {x k} h => by
    apply Nat.eq_of_testBit_eq
    intro j
    rw [Nat.testBit_or, tb_one]
    by_cases e : k = j
    · subst e; rw [h]; rfl
    · rw [decide_eq_false e, Bool.or_false]
  have hg : ∀ (T : mS) (i : Nat), sG T i (gG T i) = T := fun _ _ => sG_same
  unfold mcut
  cases cut with
  | true => rw [if_pos rfl, or_no hb, or_no hb2, hg, hg]
  | false => rw [if_neg Bool.false_ne_true, clr_no hb, clr_no hb2, hg, hg]
theorem mcut_2 {S : mS} {a d : Nat} {cut : Bool} : (mcut S a d cut).2 = S.2 := by unfold mcut; split <;> rfl
theorem mcut_g {S : mS} {a d i : Nat} {cut : Bool} (hi : i < 8) : gG (mcut S a d cut) i = gG S i := by
  unfold mcut
  split
  · rw [sG_at, if_neg (by omega), sG_at, if_neg (by omega)]
  · rw [sG_at, if_neg (by omega), sG_at, if_neg (by omega)]
theorem vb_inj {x y : Bool} : vb x = vb y ↔ x = y := by cases x <;> cases y <;> decide
theorem nI_m1' {n : Nat} (h : 1 ≤ n) : nI n + -1 = nI (n - 1) := by
  have := nI_dec n 1 h
  rw [← this]; rfl
set_option maxHeartbeats 4000000 in
set_option maxRecDepth 100000 in
theorem c_X3_isCutBetween {σ : vS} {v : vV} {c b : Nat} {S : mS} {a d : Nat} (hq : kLC σ b) (hC : CR c v b S) {B : Nat} (hN : NB c S B) (hB : B < 1000000000) (ha : a < 6) (hd : d < 6) : vC M_X3_isCutBetween yX3_isCutBetween [.ref (b + 2), .int (nI (a)), .int (nI (d))] (σ, v) (qP (σ, v) (.int (vb ((gG S (8 + a)).testBit d)))) := by
  refine vC_of (ls := [some (.ref (b + 2)), some (.int (nI (a))), some (.int (nI (d)))]) pn_X3 rfl rfl (Nat.le_of_ble_eq_true rfl) rfl ?_
  refine P_aload_n dX3_isCutBetween_0 rfl rfl ?_
  refine P_getr (t := b + 3) dX3_isCutBetween_1 kX3 fX3_9 rfl (by decide) hq.k2 hq.p0 hq.k3.1.2 ?_
  refine P_iload_n dX3_isCutBetween_4 rfl rfl ?_
  refine P_ialdN (x := nI (gG S (8 + a))) (a) dX3_isCutBetween_5 hq.k3 rfl (by omega) (by decide) (hC.cu (by omega)) ?_
  refine P_iload_n dX3_isCutBetween_6 rfl rfl ?_
  refine P_ishrN dX3_isCutBetween_7 (by omega) (by have := hN.cut ha; omega) ?_
  refine P_iconst (v := nI 1) dX3_isCutBetween_8 (by decide) ?_
  refine P_iandN dX3_isCutBetween_9 ?_
  refine P_if_eqN (tgt := 17) dX3_isCutBetween_10 (by decide) (by exact Nat.lt_of_le_of_lt Nat.and_le_right (by decide)) (fun c10 => ?_) (fun c10 => ?_)
  · refine P_iconst (v := nI 0) dX3_isCutBetween_17 (by decide) ?_
    refine P_zret dX3_isCutBetween_18 rfl (by decide) ?_
    refine q_f ?_
    rw [← Bool.not_eq_true]
    intro q9
    rw [tb_has.mpr q9] at c10
    exact absurd c10 (by decide)
  · refine P_iconst (v := nI 1) dX3_isCutBetween_13 (by decide) ?_
    refine P_goto (tgt := 18) dX3_isCutBetween_14 (by decide) ?_
    refine P_zret dX3_isCutBetween_18 rfl (by decide) ?_
    refine q_t (tb_has.mp ?_)
    have : gG S (8 + a) >>> d &&& 1 < 2 := Nat.lt_succ_of_le Nat.and_le_right
    omega
set_option maxHeartbeats 4000000 in
set_option maxRecDepth 100000 in
theorem c_X3_changeWay {σ : vS} {v : vV} {c b : Nat} {S : mS} {a d : Nat} {cut : Bool} (hq : kLC σ b) (hC : CR c v b S) {B : Nat} (hN : NB c S B) (hB : B < 1000000000) (ha : a < 6) (hd : d < 6) (had : a ≠ d) (hI : gOK S) : vC M_X3_changeWay yX3_changeWay [.ref (b + 2), .int (nI (a)), .int (nI (d)), .int (vb (cut))] (σ, v) (qS σ none (kPo c v b (mcut S a d cut))) := by
  have hO : vOw v v b 84 := vOw.rf
  refine vC_of (ls := [some (.ref (b + 2)), some (.int (nI (a))), some (.int (nI (d))), some (.int (vb (cut)))]) pn_X3 rfl rfl (Nat.le_of_ble_eq_true rfl) rfl ?_
  refine P_aload_n dX3_changeWay_0 rfl rfl ?_
  refine P_iload_n dX3_changeWay_1 rfl rfl ?_
  refine P_iload_n dX3_changeWay_2 rfl rfl ?_
  refine P_cVp (rest := []) (As := [.int (nI (a)), .int (nI (d))]) dX3_changeWay_3 lX3_34 yk_X3_isCutBetween yv_X3_isCutBetween kX3 rfl (by decide) hq.k2 rfl rfl (Nat.le_of_ble_eq_true rfl) rfl (c_X3_isCutBetween hq hC hN hB ha hd) ?_
  refine P_iload_n dX3_changeWay_6 rfl rfl ?_
  refine P_icmp_ne (tgt := 11) dX3_changeWay_7 (by decide) (fun c7 => ?_) (fun c7 => ?_)
  · have hb : (gG S (8 + a)).testBit d = !cut := by cases h1 : (gG S (8 + a)).testBit d <;> cases h2 : cut <;> first | rfl | exact absurd (by rw [h1, h2]) c7
    refine P_aload_n dX3_changeWay_11 rfl rfl ?_
    refine P_getr (t := b + 3) dX3_changeWay_12 kX3 fX3_9 rfl (by decide) hq.k2 hq.p0 hq.k3.1.2 ?_
    refine P_iload_n dX3_changeWay_15 rfl rfl ?_
    refine P_dup2 dX3_changeWay_16 rfl rfl ?_
    refine P_ialdN (x := nI (gG S (8 + a))) (a) dX3_changeWay_17 hq.k3 rfl (by omega) (by decide) (hC.cu (by omega)) ?_
    refine P_iconst (v := nI 1) dX3_changeWay_18 (by decide) ?_
    refine P_iload_n dX3_changeWay_19 rfl rfl ?_
    refine P_ishlN dX3_changeWay_20 (by omega) ?_
    refine P_ixorN dX3_changeWay_21 ?_
    refine P_iast (a) dX3_changeWay_22 hq.k3 rfl (by omega) (by decide) ?_
    refine P_aload_n dX3_changeWay_23 rfl rfl ?_
    refine P_getr (t := b + 3) dX3_changeWay_24 kX3 fX3_9 rfl (by decide) hq.k2 hq.p0 hq.k3.1.2 ?_
    refine P_iload_n dX3_changeWay_27 rfl rfl ?_
    refine P_dup2 dX3_changeWay_28 rfl rfl ?_
    refine P_ialdN (x := nI (gG S (8 + d))) (d) dX3_changeWay_29 hq.k3 rfl (by omega) (by decide) (by rw [vU_o (by omega)]; exact hC.cu (by omega)) ?_
    refine P_iconst (v := nI 1) dX3_changeWay_30 (by decide) ?_
    refine P_iload_n dX3_changeWay_31 rfl rfl ?_
    refine P_ishlN dX3_changeWay_32 (by omega) ?_
    refine P_ixorN dX3_changeWay_33 ?_
    refine P_iast (d) dX3_changeWay_34 hq.k3 rfl (by omega) (by decide) ?_
    refine P_aload_n dX3_changeWay_35 rfl rfl ?_
    refine P_dup dX3_changeWay_36 rfl ?_
    refine P_getiN (x := nI (mways S)) dX3_changeWay_37 kX3 fX3_28 rfl (by decide) hq.k2 (by rw [vU_ne (by omega), vU_ne (by omega)]; exact hC.p2) ?_
    refine P_iload_n dX3_changeWay_40 rfl rfl ?_
    refine P_bif_eq (tgt := 48) dX3_changeWay_41 (by decide) (fun c41 => ?_) (fun c41 => ?_)
    · refine P_iconst (v := -1) dX3_changeWay_48 (by decide) ?_
      refine P_iadd dX3_changeWay_49 ?_
      refine P_puti dX3_changeWay_50 kX3 fX3_28 rfl (by decide) rfl hq.k2 ?_
      refine P_vret dX3_changeWay_53 rfl ?_
      have hw := cut_w hI ha hd had hb
      rw [c41] at hw
      refine q_s rfl ⟨hC.cutw (fun i hi => ?_) ?_ (fun j hj => ?_) (fun n9 g1 g2 => ?_) (fun i hi => mcut_g hi) mcut_2, ((hO.u (by omega) (by omega)).u (by omega) (by omega)).u (by omega) (by omega)⟩
      · rw [vU_ne (by omega), cut_x hI ha hd had hb i]
        by_cases e1 : i = d
        · subst e1; rw [vU_s, if_pos rfl]
        · rw [vU_o (Or.inr e1), if_neg e1]
          by_cases e2 : i = a
          · subst e2; rw [vU_s, if_pos rfl]
          · rw [vU_o (Or.inr e2), if_neg e2]; exact hC.cu hi
      · rw [vU_s, nI_m1' (by rw [if_neg Bool.false_ne_true] at hw; omega)]
        rw [if_neg Bool.false_ne_true] at hw
        rw [c41]
        exact congrArg nI (by omega)
      · rw [vU_o (Or.inr hj), vU_ne (by omega), vU_ne (by omega)]
      · rw [vU_ne g1, vU_ne g2, vU_ne g2]
    · refine P_iconst (v := nI 1) dX3_changeWay_44 (by decide) ?_
      refine P_goto (tgt := 49) dX3_changeWay_45 (by decide) ?_
      refine P_iaddN dX3_changeWay_49 ?_
      refine P_puti dX3_changeWay_50 kX3 fX3_28 rfl (by decide) rfl hq.k2 ?_
      refine P_vret dX3_changeWay_53 rfl ?_
      have hw := cut_w hI ha hd had hb
      rw [c41] at hw
      refine q_s rfl ⟨hC.cutw (fun i hi => ?_) ?_ (fun j hj => ?_) (fun n9 g1 g2 => ?_) (fun i hi => mcut_g hi) mcut_2, ((hO.u (by omega) (by omega)).u (by omega) (by omega)).u (by omega) (by omega)⟩
      · rw [vU_ne (by omega), cut_x hI ha hd had hb i]
        by_cases e1 : i = d
        · subst e1; rw [vU_s, if_pos rfl]
        · rw [vU_o (Or.inr e1), if_neg e1]
          by_cases e2 : i = a
          · subst e2; rw [vU_s, if_pos rfl]
          · rw [vU_o (Or.inr e2), if_neg e2]; exact hC.cu hi
      · rw [vU_s]
        rw [if_pos rfl] at hw
        rw [c41, hw]
      · rw [vU_o (Or.inr hj), vU_ne (by omega), vU_ne (by omega)]
      · rw [vU_ne g1, vU_ne g2, vU_ne g2]
  · refine P_vret dX3_changeWay_10 rfl ?_
    exact q_s rfl ⟨hC.cg (cut_same hI ha hd (vb_inj.mp c7)).symm, hO⟩
set_option maxHeartbeats 4000000 in
set_option maxRecDepth 100000 in
theorem c_X3_send {σ : vS} {v : vV} {c b : Nat} {S : mS} {kind frm to num val : Nat} (by9 : Nat) (hq : kLC σ b) (hC : CR c v b S) {B : Nat} (hN : NB c S B) (hB : B + 100 < 1000000000) (hf : frm < 6) (ht : to < 6) : vC M_X3_send yX3_send [.ref (b + 2), .int (nI (kind)), .ref (b + 6 + 13 * frm), .ref (b + 6 + 13 * to), .int (nI (gG S 1)), .int (nI (num)), .int (nI (val))] (σ, v) (qS σ none (kPo c v b (msend S kind frm to num by9 val))) := by
  have hO : vOw v v b 84 := vOw.rf
  refine vC_of (ls := [some (.ref (b + 2)), some (.int (nI (kind))), some (.ref (b + 6 + 13 * frm)), some (.ref (b + 6 + 13 * to)), some (.int (nI (gG S 1))), some (.int (nI (num))), some (.int (nI (val))), none, none, none]) pn_X3 rfl rfl (Nat.le_of_ble_eq_true rfl) rfl ?_
  refine P_aload_n dX3_send_0 rfl rfl ?_
  refine P_getiN (x := nI ((gN S).length)) dX3_send_1 kX3 fX3_24 rfl (by decide) hq.k2 hC.p3 ?_
  refine P_sipush (v := nI 150) dX3_send_4 (by decide) ?_
  refine P_icmp_geN (tgt := 25) dX3_send_7 (by decide) (by have := hC.b.2.2; omega) (by have := hC.b.2.2; omega) (fun c7 => ?_) (fun c7 => ?_)
  · refine P_aload_n dX3_send_25 rfl rfl ?_
    refine P_dup dX3_send_26 rfl ?_
    refine P_getiN (x := nI (gG S 3)) dX3_send_27 kX3 fX3_31 rfl (by decide) hq.k2 hC.p4 ?_
    refine P_iconst (v := nI 1) dX3_send_30 (by decide) ?_
    refine P_iaddN dX3_send_31 ?_
    refine P_puti dX3_send_32 kX3 fX3_31 rfl (by decide) rfl hq.k2 ?_
    have hC1 : CR c (vU v (b + 2) 4 (nI (gG S 3 + 1))) b (sG S 3 (gG S 3 + 1)) := hC.G3
    have hO2 : vOw v (vU v (b + 2) 4 (nI (gG S 3 + 1))) b 84 := hO.u (by omega) (by omega)
    generalize vU v (b + 2) 4 (nI (gG S 3 + 1)) = v3 at hC1 hO2 ⊢
    refine P_vret dX3_send_35 rfl ?_
    exact q_s rfl ⟨hC1.cg (by unfold msend; rw [if_pos (Or.inr (by have := hC.b.2.2; omega))]), hO2⟩
  · refine P_aload_n dX3_send_10 rfl rfl ?_
    refine P_aload_n dX3_send_11 rfl rfl ?_
    refine P_getiN (x := nI (frm)) dX3_send_12 kX2 fX3_38 rfl (by decide) (hq.m (by omega)).o (hC.m (by omega)).s ?_
    refine P_aload_n dX3_send_15 rfl rfl ?_
    refine P_getiN (x := nI (to)) dX3_send_16 kX2 fX3_38 rfl (by decide) (hq.m (by omega)).o (hC.m (by omega)).s ?_
    refine P_cVp (rest := []) (As := [.int (nI (frm)), .int (nI (to))]) dX3_send_19 lX3_34 yk_X3_isCutBetween yv_X3_isCutBetween kX3 rfl (by decide) hq.k2 rfl rfl (Nat.le_of_ble_eq_true rfl) rfl (c_X3_isCutBetween hq hC hN (by omega) hf ht) ?_
    refine P_bif_eq (tgt := 36) dX3_send_22 (by decide) (fun c22 => ?_) (fun c22 => ?_)
    · refine P_iload dX3_send_36 rfl ?_
      refine P_iconst (v := nI 1) dX3_send_38 (by decide) ?_
      refine P_iaddN dX3_send_39 ?_
      refine P_aload_n dX3_send_40 rfl rfl ?_
      refine P_getiN (x := nI (gM S frm 0)) dX3_send_41 kX2 fX3_43 rfl (by decide) (hq.m (by omega)).o ((hC.m (by omega)).w (by decide)) ?_
      refine P_aload_n dX3_send_44 rfl rfl ?_
      refine P_getiN (x := nI (gM S to 0)) dX3_send_45 kX2 fX3_43 rfl (by decide) (hq.m (by omega)).o ((hC.m (by omega)).w (by decide)) ?_
      refine P_isub dX3_send_48 ?_
      refine P_mabs dX3_send_49 lX3_46 ⟨Nat.le_of_ble_eq_true rfl, Nat.le_of_ble_eq_true rfl⟩ ?_
      refine P_top (y := nI (gM S frm 0 - gM S to 0 + (gM S to 0 - gM S frm 0))) (abs_9 _ (by have := hN.m0 frm; omega) _ (by have := hN.m0 to; omega)) ?_
      refine P_iaddN dX3_send_52 ?_
      refine P_top (y := nI (gG S 1 + mfar S frm to)) (congrArg nI (by unfold mfar; omega)) ?_
      have hfar := mfar_le hN frm to
      have hg1 := hN.g (i := 1) (by decide)
      have hlen : (gN S).length < 150 := by have := hC.b.2.2; omega
      have hcu : (gG S (8 + frm)).testBit to = false := c22
      generalize hdu : gG S 1 + mfar S frm to = du
      refine P_istore (ls2 := [some (.ref (b + 2)), some (.int (nI (kind))), some (.ref (b + 6 + 13 * frm)), some (.ref (b + 6 + 13 * to)), some (.int (nI (gG S 1))), some (.int (nI (num))), some (.int (nI (val))), some (.int (nI (du))), none, none]) dX3_send_53 (by decide) rfl ?_
      have hJ91 : ∀ (p : Nat), (p ≤ (gN S).length) → (mat (gN S) du (gN S).length = p) → vP M_X3_send 91 [some (.ref (b + 2)), some (.int (nI (kind))), some (.ref (b + 6 + 13 * frm)), some (.ref (b + 6 + 13 * to)), none, some (.int (nI (num))), some (.int (nI (val))), some (.int (nI (du))), some (.int (nI (p))), none] [] ((vRm M_X3_send).cells, (vRm M_X3_send).slots) (σ, v) (vN (qS σ none (kPo c v b (msend S kind frm to num by9 val)))) := by
        intro p hp hmt
        refine P_iload dX3_send_91 rfl ?_
        refine P_bipush (v := nI 9) dX3_send_93 (by decide) ?_
        refine P_imulN dX3_send_95 ?_
        refine P_istore (ls2 := [some (.ref (b + 2)), some (.int (nI (kind))), some (.ref (b + 6 + 13 * frm)), some (.ref (b + 6 + 13 * to)), none, some (.int (nI (num))), some (.int (nI (val))), some (.int (nI (du))), some (.int (nI (p))), some (.int (nI (p * 9)))]) dX3_send_96 (by decide) rfl ?_
        refine P_aload_n dX3_send_98 rfl rfl ?_
        refine P_getr (t := b + 4) dX3_send_99 kX3 fX3_15 rfl (by decide) hq.k2 hq.p1 hq.k4.1.2 ?_
        refine P_iload dX3_send_102 rfl ?_
        refine P_aload_n dX3_send_104 rfl rfl ?_
        refine P_getr (t := b + 4) dX3_send_105 kX3 fX3_15 rfl (by decide) hq.k2 hq.p1 hq.k4.1.2 ?_
        refine P_iload dX3_send_108 rfl ?_
        refine P_bipush (v := nI 9) dX3_send_110 (by decide) ?_
        refine P_iaddN dX3_send_112 ?_
        refine P_aload_n dX3_send_113 rfl rfl ?_
        refine P_getiN (x := nI ((gN S).length)) dX3_send_114 kX3 fX3_24 rfl (by decide) hq.k2 hC.p3 ?_
        refine P_iload dX3_send_117 rfl ?_
        refine P_isubN dX3_send_119 (by omega) ?_
        refine P_bipush (v := nI 9) dX3_send_120 (by decide) ?_
        refine P_imulN dX3_send_122 ?_
        refine P_copy (p * 9) (p * 9 + 9) ((((gN S).length) - p) * 9) dX3_send_123 lX3_18 hq.k4 hq.k4 rfl rfl rfl (by omega) (by omega) (by decide) (by decide) (by decide) ?_
        refine P_aload_n dX3_send_126 rfl rfl ?_
        refine P_getr (t := b + 4) dX3_send_127 kX3 fX3_15 rfl (by decide) hq.k2 hq.p1 hq.k4.1.2 ?_
        refine P_iload dX3_send_130 rfl ?_
        refine P_iconst (v := nI 0) dX3_send_132 (by decide) ?_
        refine P_iaddN dX3_send_133 ?_
        refine P_iload_n dX3_send_134 rfl rfl ?_
        refine P_iast (p * 9 + 0) dX3_send_135 hq.k4 rfl (by omega) (by decide) ?_
        refine P_aload_n dX3_send_136 rfl rfl ?_
        refine P_getr (t := b + 4) dX3_send_137 kX3 fX3_15 rfl (by decide) hq.k2 hq.p1 hq.k4.1.2 ?_
        refine P_iload dX3_send_140 rfl ?_
        refine P_iconst (v := nI 1) dX3_send_142 (by decide) ?_
        refine P_iaddN dX3_send_143 ?_
        refine P_aload_n dX3_send_144 rfl rfl ?_
        refine P_getiN (x := nI (frm)) dX3_send_145 kX2 fX3_38 rfl (by decide) (hq.m (by omega)).o (by rw [vU_ne (by omega), vUA_ne (by omega)]; exact (hC.m (by omega)).s) ?_
        refine P_iast (p * 9 + 1) dX3_send_148 hq.k4 rfl (by omega) (by decide) ?_
        refine P_aload_n dX3_send_149 rfl rfl ?_
        refine P_getr (t := b + 4) dX3_send_150 kX3 fX3_15 rfl (by decide) hq.k2 hq.p1 hq.k4.1.2 ?_
        refine P_iload dX3_send_153 rfl ?_
        refine P_iconst (v := nI 2) dX3_send_155 (by decide) ?_
        refine P_iaddN dX3_send_156 ?_
        refine P_aload_n dX3_send_157 rfl rfl ?_
        refine P_getiN (x := nI (to)) dX3_send_158 kX2 fX3_38 rfl (by decide) (hq.m (by omega)).o (by rw [vU_ne (by omega), vU_ne (by omega), vUA_ne (by omega)]; exact (hC.m (by omega)).s) ?_
        refine P_iast (p * 9 + 2) dX3_send_161 hq.k4 rfl (by omega) (by decide) ?_
        refine P_aload_n dX3_send_162 rfl rfl ?_
        refine P_getr (t := b + 4) dX3_send_163 kX3 fX3_15 rfl (by decide) hq.k2 hq.p1 hq.k4.1.2 ?_
        refine P_iload dX3_send_166 rfl ?_
        refine P_iconst (v := nI 3) dX3_send_168 (by decide) ?_
        refine P_iaddN dX3_send_169 ?_
        refine P_iload dX3_send_170 rfl ?_
        refine P_iast (p * 9 + 3) dX3_send_172 hq.k4 rfl (by omega) (by decide) ?_
        refine P_aload_n dX3_send_173 rfl rfl ?_
        refine P_getr (t := b + 4) dX3_send_174 kX3 fX3_15 rfl (by decide) hq.k2 hq.p1 hq.k4.1.2 ?_
        refine P_iload dX3_send_177 rfl ?_
        refine P_iconst (v := nI 4) dX3_send_179 (by decide) ?_
        refine P_iaddN dX3_send_180 ?_
        refine P_iload dX3_send_181 rfl ?_
        refine P_iast (p * 9 + 4) dX3_send_183 hq.k4 rfl (by omega) (by decide) ?_
        refine P_aload_n dX3_send_184 rfl rfl ?_
        refine P_getr (t := b + 4) dX3_send_185 kX3 fX3_15 rfl (by decide) hq.k2 hq.p1 hq.k4.1.2 ?_
        refine P_iload dX3_send_188 rfl ?_
        refine P_iconst (v := nI 5) dX3_send_190 (by decide) ?_
        refine P_iaddN dX3_send_191 ?_
        refine P_iload dX3_send_192 rfl ?_
        refine P_iast (p * 9 + 5) dX3_send_194 hq.k4 rfl (by omega) (by decide) ?_
        refine P_aload_n dX3_send_195 rfl rfl ?_
        refine P_getr (t := b + 4) dX3_send_196 kX3 fX3_15 rfl (by decide) hq.k2 hq.p1 hq.k4.1.2 ?_
        refine P_iload dX3_send_199 rfl ?_
        refine P_bipush (v := nI 6) dX3_send_201 (by decide) ?_
        refine P_iaddN dX3_send_203 ?_
        refine P_aload_n dX3_send_204 rfl rfl ?_
        refine P_getiN (x := nI (gM S frm 2)) dX3_send_205 kX2 fX3_52 rfl (by decide) (hq.m (by omega)).o (by rw [vU_ne (by omega), vU_ne (by omega), vU_ne (by omega), vU_ne (by omega), vU_ne (by omega), vU_ne (by omega), vUA_ne (by omega)]; exact (hC.m (by omega)).w (w := 2) (by decide)) ?_
        refine P_iast (p * 9 + 6) dX3_send_208 hq.k4 rfl (by omega) (by decide) ?_
        refine P_aload_n dX3_send_209 rfl rfl ?_
        refine P_getr (t := b + 4) dX3_send_210 kX3 fX3_15 rfl (by decide) hq.k2 hq.p1 hq.k4.1.2 ?_
        refine P_iload dX3_send_213 rfl ?_
        refine P_bipush (v := nI 7) dX3_send_215 (by decide) ?_
        refine P_iaddN dX3_send_217 ?_
        refine P_aload_n dX3_send_218 rfl rfl ?_
        refine P_getiN (x := nI (gM S frm 3)) dX3_send_219 kX2 fX3_55 rfl (by decide) (hq.m (by omega)).o (by rw [vU_ne (by omega), vU_ne (by omega), vU_ne (by omega), vU_ne (by omega), vU_ne (by omega), vU_ne (by omega), vU_ne (by omega), vUA_ne (by omega)]; exact (hC.m (by omega)).w (w := 3) (by decide)) ?_
        refine P_iast (p * 9 + 7) dX3_send_222 hq.k4 rfl (by omega) (by decide) ?_
        refine P_aload_n dX3_send_223 rfl rfl ?_
        refine P_getr (t := b + 4) dX3_send_224 kX3 fX3_15 rfl (by decide) hq.k2 hq.p1 hq.k4.1.2 ?_
        refine P_iload dX3_send_227 rfl ?_
        refine P_bipush (v := nI 8) dX3_send_229 (by decide) ?_
        refine P_iaddN dX3_send_231 ?_
        refine P_aload_n dX3_send_232 rfl rfl ?_
        refine P_getiN (x := nI (gM S frm 4)) dX3_send_233 kX2 fX3_58 rfl (by decide) (hq.m (by omega)).o (by rw [vU_ne (by omega), vU_ne (by omega), vU_ne (by omega), vU_ne (by omega), vU_ne (by omega), vU_ne (by omega), vU_ne (by omega), vU_ne (by omega), vUA_ne (by omega)]; exact (hC.m (by omega)).w (w := 4) (by decide)) ?_
        refine P_iast (p * 9 + 8) dX3_send_236 hq.k4 rfl (by omega) (by decide) ?_
        refine P_aload_n dX3_send_237 rfl rfl ?_
        refine P_dup dX3_send_238 rfl ?_
        refine P_getiN (x := nI ((gN S).length)) dX3_send_239 kX3 fX3_24 rfl (by decide) hq.k2 (by rw [vU_ne (by omega), vU_ne (by omega), vU_ne (by omega), vU_ne (by omega), vU_ne (by omega), vU_ne (by omega), vU_ne (by omega), vU_ne (by omega), vU_ne (by omega), vUA_ne (by omega)]; exact hC.p3) ?_
        refine P_iconst (v := nI 1) dX3_send_242 (by decide) ?_
        refine P_iaddN dX3_send_243 ?_
        refine P_puti dX3_send_244 kX3 fX3_24 rfl (by decide) rfl hq.k2 ?_
        refine P_vret dX3_send_247 rfl ?_
        refine q_s rfl ⟨CR.cg (S := sN S (mins (gN S) p (mnote kind frm to du num by9 val (gM S frm 2) (gM S frm 3) (gM S frm 4)))) (hC.ins hlen hp (fun i => ?_) (fun j hj => ?_) vU_s (fun n9 g1 g2 => ?_)) ?_, ?_⟩
        · rw [vU_ne (by omega)]
          by_cases e8 : i = p * 9 + 8
          · subst e8; rw [vU_s, if_pos (by omega), show p * 9 + 8 - p * 9 = 8 by omega]; rfl
          · rw [vU_o (Or.inr e8)]
            by_cases e7 : i = p * 9 + 7
            · subst e7; rw [vU_s, if_pos (by omega), show p * 9 + 7 - p * 9 = 7 by omega]; rfl
            · rw [vU_o (Or.inr e7)]
              by_cases e6 : i = p * 9 + 6
              · subst e6; rw [vU_s, if_pos (by omega), show p * 9 + 6 - p * 9 = 6 by omega]; rfl
              · rw [vU_o (Or.inr e6)]
                by_cases e5 : i = p * 9 + 5
                · subst e5; rw [vU_s, if_pos (by omega), show p * 9 + 5 - p * 9 = 5 by omega]; rfl
                · rw [vU_o (Or.inr e5)]
                  by_cases e4 : i = p * 9 + 4
                  · subst e4; rw [vU_s, if_pos (by omega), show p * 9 + 4 - p * 9 = 4 by omega]; rfl
                  · rw [vU_o (Or.inr e4)]
                    by_cases e3 : i = p * 9 + 3
                    · subst e3; rw [vU_s, if_pos (by omega), show p * 9 + 3 - p * 9 = 3 by omega]; rfl
                    · rw [vU_o (Or.inr e3)]
                      by_cases e2 : i = p * 9 + 2
                      · subst e2; rw [vU_s, if_pos (by omega), show p * 9 + 2 - p * 9 = 2 by omega]; rfl
                      · rw [vU_o (Or.inr e2)]
                        by_cases e1 : i = p * 9 + 1
                        · subst e1; rw [vU_s, if_pos (by omega), show p * 9 + 1 - p * 9 = 1 by omega]; rfl
                        · rw [vU_o (Or.inr e1)]
                          by_cases e0 : i = p * 9 + 0
                          · subst e0; rw [vU_s, if_pos (by omega), show p * 9 + 0 - p * 9 = 0 by omega]; rfl
                          · rw [vU_o (Or.inr e0)]
                            rw [vUA_at, if_neg (by omega)]
                            by_cases g1 : p * 9 + 9 ≤ i ∧ i < (gN S).length * 9 + 9
                            · rw [if_pos g1, cpy_in (by omega) (by omega)]; exact congrArg _ (by omega)
                            · rw [if_neg g1, cpy_out (by omega)]
        · rw [vU_o (Or.inr hj), vU_ne (by omega), vU_ne (by omega), vU_ne (by omega), vU_ne (by omega), vU_ne (by omega), vU_ne (by omega), vU_ne (by omega), vU_ne (by omega), vU_ne (by omega), vUA_ne (by omega)]
        · rw [vU_ne g1, vU_ne g2, vU_ne g2, vU_ne g2, vU_ne g2, vU_ne g2, vU_ne g2, vU_ne g2, vU_ne g2, vU_ne g2, vUA_ne g2]
        · rw [← hdu]; exact (msend_in hcu (by omega) (by rw [hdu]; exact hmt)).symm
        · exact ((((((((((hO.ua (by omega) (by omega)).u (by omega) (by omega)).u (by omega) (by omega)).u (by omega) (by omega)).u (by omega) (by omega)).u (by omega) (by omega)).u (by omega) (by omega)).u (by omega) (by omega)).u (by omega) (by omega)).u (by omega) (by omega)).u (by omega) (by omega)
      refine P_aload_n dX3_send_55 rfl rfl ?_
      refine P_getiN (x := nI ((gN S).length)) dX3_send_56 kX3 fX3_24 rfl (by decide) hq.k2 hC.p3 ?_
      refine P_istore (ls2 := [some (.ref (b + 2)), some (.int (nI (kind))), some (.ref (b + 6 + 13 * frm)), some (.ref (b + 6 + 13 * to)), some (.int (nI (gG S 1))), some (.int (nI (num))), some (.int (nI (val))), some (.int (nI (du))), some (.int (nI ((gN S).length))), none]) dX3_send_59 (by decide) rfl ?_
      have hL61 : ∀ (n61 : Nat) (k : Nat), (k ≤ (gN S).length) → (k < n61) → (mat (gN S) du (gN S).length = mat (gN S) du k) → vP M_X3_send 61 [some (.ref (b + 2)), some (.int (nI (kind))), some (.ref (b + 6 + 13 * frm)), some (.ref (b + 6 + 13 * to)), none, some (.int (nI (num))), some (.int (nI (val))), some (.int (nI (du))), some (.int (nI (k))), none] [] ((vRm M_X3_send).cells, (vRm M_X3_send).slots) (σ, v) (vN (qS σ none (kPo c v b (msend S kind frm to num by9 val)))) := by
        intro n61
        induction n61 with
        | zero =>
          intro k h1 h2 hk
          exact absurd h2 (Nat.not_lt_zero _)
        | succ n61 ih61 =>
          intro k h1 h2 hk
          refine P_iload dX3_send_61 rfl ?_
          refine P_if_leN (tgt := 91) dX3_send_63 (by decide) (by have := hC.b.2.2; omega) (fun c63 => ?_) (fun c63 => ?_)
          · exact hJ91 k (by omega) (hk.trans (by rw [show k = 0 by omega]; rfl))
          · refine P_aload_n dX3_send_66 rfl rfl ?_
            refine P_getr (t := b + 4) dX3_send_67 kX3 fX3_15 rfl (by decide) hq.k2 hq.p1 hq.k4.1.2 ?_
            refine P_iload dX3_send_70 rfl ?_
            refine P_iconst (v := nI 1) dX3_send_72 (by decide) ?_
            refine P_isubN dX3_send_73 (by omega) ?_
            refine P_bipush (v := nI 9) dX3_send_74 (by decide) ?_
            refine P_imulN dX3_send_76 ?_
            refine P_iconst (v := nI 3) dX3_send_77 (by decide) ?_
            refine P_iaddN dX3_send_78 ?_
            refine P_ialdN (x := nI (((gN S).getD (k - 1) n0) 3)) ((k - 1) * 9 + 3) dX3_send_79 hq.k4 rfl (by have := hC.b.2.2; omega) (by decide) (by rw [show (k - 1) * 9 + 3 = 9 * (k - 1) + 3 by omega]; exact hC.xd (j := 3) (by omega) (by decide)) ?_
            refine P_iload dX3_send_80 rfl ?_
            refine P_icmp_leN (tgt := 91) dX3_send_82 (by decide) (by first | omega | (have := (hN.n (List.mem_iff_getElem?.mpr ⟨k - 1, getD_some (d := n0) (by omega)⟩)).2.2.2.1; omega)) (by first | omega | (have := (hN.n (List.mem_iff_getElem?.mpr ⟨k - 1, getD_some (d := n0) (by omega)⟩)).2.2.2.1; omega)) (fun c82 => ?_) (fun c82 => ?_)
            · exact hJ91 k (by omega) (hk.trans (mat_here (by omega) (by omega)))
            · refine P_iinc (v := nI (k - 1)) (ls2 := [some (.ref (b + 2)), some (.int (nI (kind))), some (.ref (b + 6 + 13 * frm)), some (.ref (b + 6 + 13 * to)), none, some (.int (nI (num))), some (.int (nI (val))), some (.int (nI (du))), some (.int (nI (k - 1))), none]) dX3_send_85 rfl (nI_dec _ 1 (by omega)) (by decide) rfl ?_
              refine P_goto (tgt := 61) dX3_send_88 (by decide) ?_
              exact ih61 (k - 1) (by omega) (by omega) (hk.trans (mat_back (by omega) (by omega)))
      refine P_weak (ls2 := [some (.ref (b + 2)), some (.int (nI (kind))), some (.ref (b + 6 + 13 * frm)), some (.ref (b + 6 + 13 * to)), none, some (.int (nI (num))), some (.int (nI (val))), some (.int (nI (du))), some (.int (nI ((gN S).length))), none]) ⟨rfl, rfl, rfl, rfl, rfl, rfl, rfl, rfl, trivial⟩ ?_
      exact hL61 ((gN S).length + 1) (gN S).length (Nat.le_refl _) (Nat.lt_succ_self _) rfl
    · refine P_aload_n dX3_send_25 rfl rfl ?_
      refine P_dup dX3_send_26 rfl ?_
      refine P_getiN (x := nI (gG S 3)) dX3_send_27 kX3 fX3_31 rfl (by decide) hq.k2 hC.p4 ?_
      refine P_iconst (v := nI 1) dX3_send_30 (by decide) ?_
      refine P_iaddN dX3_send_31 ?_
      refine P_puti dX3_send_32 kX3 fX3_31 rfl (by decide) rfl hq.k2 ?_
      have hC4 : CR c (vU v (b + 2) 4 (nI (gG S 3 + 1))) b (sG S 3 (gG S 3 + 1)) := hC.G3
      have hO5 : vOw v (vU v (b + 2) 4 (nI (gG S 3 + 1))) b 84 := hO.u (by omega) (by omega)
      generalize vU v (b + 2) 4 (nI (gG S 3 + 1)) = v6 at hC4 hO5 ⊢
      refine P_vret dX3_send_35 rfl ?_
      exact q_s rfl ⟨hC4.cg (by unfold msend; rw [if_pos (Or.inl c22)]), hO5⟩
set_option maxHeartbeats 4000000 in
set_option maxRecDepth 100000 in
theorem c_X3_isDue {σ : vS} {v : vV} {c b : Nat} {S : mS} {t9 : Nat} (hq : kLC σ b) (hC : CR c v b S) {B : Nat} (hN : NB c S B) (hB : B + 100 < 1000000000) (ht9 : t9 < 2147483648) : vC M_X3_isDue yX3_isDue [.ref (b + 2), .int (nI (t9))] (σ, v) (qP (σ, v) (.int (vb (decide (0 < (gN S).length ∧ ((gN S).getD 0 n0) 3 ≤ t9))))) := by
  refine vC_of (ls := [some (.ref (b + 2)), some (.int (nI (t9)))]) pn_X3 rfl rfl (Nat.le_of_ble_eq_true rfl) rfl ?_
  refine P_aload_n dX3_isDue_0 rfl rfl ?_
  refine P_getiN (x := nI ((gN S).length)) dX3_isDue_1 kX3 fX3_24 rfl (by decide) hq.k2 hC.p3 ?_
  refine P_if_leN (tgt := 21) dX3_isDue_4 (by decide) (by have := hN.b.2.2; omega) (fun c4 => ?_) (fun c4 => ?_)
  · refine P_iconst (v := nI 0) dX3_isDue_21 (by decide) ?_
    refine P_zret dX3_isDue_22 rfl (by decide) ?_
    exact q_fD (fun q => absurd q.1 (by omega))
  · refine P_aload_n dX3_isDue_7 rfl rfl ?_
    refine P_getr (t := b + 4) dX3_isDue_8 kX3 fX3_15 rfl (by decide) hq.k2 hq.p1 hq.k4.1.2 ?_
    refine P_iconst (v := nI 3) dX3_isDue_11 (by decide) ?_
    refine P_ialdN (x := nI (((gN S).getD 0 n0) 3)) (3) dX3_isDue_12 hq.k4 rfl (by omega) (by decide) (hC.xd (k := 0) (j := 3) (by omega) (by decide)) ?_
    refine P_iload_n dX3_isDue_13 rfl rfl ?_
    refine P_icmp_gtN (tgt := 21) dX3_isDue_14 (by decide) (by first | omega | (have := (hN.n (List.mem_iff_getElem?.mpr ⟨0, getD_some (d := n0) (by omega)⟩)).2.2.2.1; omega)) (by first | omega | (have := (hN.n (List.mem_iff_getElem?.mpr ⟨0, getD_some (d := n0) (by omega)⟩)).2.2.2.1; omega)) (fun c14 => ?_) (fun c14 => ?_)
    · refine P_iconst (v := nI 0) dX3_isDue_21 (by decide) ?_
      refine P_zret dX3_isDue_22 rfl (by decide) ?_
      exact q_fD (fun q => absurd q.2 (by omega))
    · refine P_iconst (v := nI 1) dX3_isDue_17 (by decide) ?_
      refine P_goto (tgt := 22) dX3_isDue_18 (by decide) ?_
      refine P_zret dX3_isDue_22 rfl (by decide) ?_
      exact q_tD ⟨by omega, by omega⟩
set_option maxHeartbeats 4000000 in
set_option maxRecDepth 100000 in
theorem c_X3_takeFirst {σ : vS} {v : vV} {c b : Nat} {S : mS} (hq : kLC σ b) (hC : CR c v b S) (hl : 0 < (gN S).length) : vC M_X3_takeFirst yX3_takeFirst [.ref (b + 2), .ref (b + 5)] (σ, v) (qS σ none (fun v9 => CR c v9 b (sN S ((gN S).drop 1)) ∧ (∀ j, j < 9 → v9 (b + 5) j = nI (xc ((gN S).getD 0 n0) j)) ∧ vOw v v9 b 84)) := by
  have hO : vOw v v b 84 := vOw.rf
  refine vC_of (ls := [some (.ref (b + 2)), some (.ref (b + 5))]) pn_X3 rfl rfl (Nat.le_of_ble_eq_true rfl) rfl ?_
  refine P_aload_n dX3_takeFirst_0 rfl rfl ?_
  refine P_getiN (x := nI ((gN S).length)) dX3_takeFirst_1 kX3 fX3_24 rfl (by decide) hq.k2 hC.p3 ?_
  refine P_if_leN (tgt := 50) dX3_takeFirst_4 (by decide) (by have := hC.b.2.2; omega) (fun c4 => ?_) (fun c4 => ?_)
  · exact absurd c4 (by omega)
  · refine P_aload_n dX3_takeFirst_7 rfl rfl ?_
    refine P_dup dX3_takeFirst_8 rfl ?_
    refine P_getiN (x := nI ((gN S).length)) dX3_takeFirst_9 kX3 fX3_24 rfl (by decide) hq.k2 hC.p3 ?_
    refine P_iconst (v := nI 1) dX3_takeFirst_12 (by decide) ?_
    refine P_isubN dX3_takeFirst_13 (by omega) ?_
    refine P_puti dX3_takeFirst_14 kX3 fX3_24 rfl (by decide) rfl hq.k2 ?_
    refine P_aload_n dX3_takeFirst_17 rfl rfl ?_
    refine P_getr (t := b + 4) dX3_takeFirst_18 kX3 fX3_15 rfl (by decide) hq.k2 hq.p1 hq.k4.1.2 ?_
    refine P_iconst (v := nI 0) dX3_takeFirst_21 (by decide) ?_
    refine P_aload_n dX3_takeFirst_22 rfl rfl ?_
    refine P_iconst (v := nI 0) dX3_takeFirst_23 (by decide) ?_
    refine P_bipush (v := nI 9) dX3_takeFirst_24 (by decide) ?_
    refine P_copy (0) (0) (9) dX3_takeFirst_26 lX3_18 hq.k4 hq.k5 rfl rfl rfl (by have := hC.b.2.2; omega) (by have := hC.b.2.2; omega) (by decide) (by decide) (by decide) ?_
    refine P_aload_n dX3_takeFirst_29 rfl rfl ?_
    refine P_getr (t := b + 4) dX3_takeFirst_30 kX3 fX3_15 rfl (by decide) hq.k2 hq.p1 hq.k4.1.2 ?_
    refine P_bipush (v := nI 9) dX3_takeFirst_33 (by decide) ?_
    refine P_aload_n dX3_takeFirst_35 rfl rfl ?_
    refine P_getr (t := b + 4) dX3_takeFirst_36 kX3 fX3_15 rfl (by decide) hq.k2 hq.p1 hq.k4.1.2 ?_
    refine P_iconst (v := nI 0) dX3_takeFirst_39 (by decide) ?_
    refine P_aload_n dX3_takeFirst_40 rfl rfl ?_
    refine P_getiN (x := nI ((gN S).length - 1)) dX3_takeFirst_41 kX3 fX3_24 rfl (by decide) hq.k2 (by rw [vUA_ne (by omega)]; exact vU_s) ?_
    refine P_bipush (v := nI 9) dX3_takeFirst_44 (by decide) ?_
    refine P_imulN dX3_takeFirst_46 ?_
    refine P_copy (9) (0) (((gN S).length - 1) * 9) dX3_takeFirst_47 lX3_18 hq.k4 hq.k4 rfl rfl rfl (by have := hC.b.2.2; omega) (by have := hC.b.2.2; omega) (by decide) (by decide) (by decide) ?_
    refine P_vret dX3_takeFirst_50 rfl ?_
    refine q_s rfl ⟨hC.drop1 hl (fun i hi => ?_) (fun j hj => ?_) ?_ (fun n9 g1 g2 g3 => ?_), fun j hj => ?_, ?_⟩
    · rw [vUA_at, cpy_in (by omega) (by omega), vUA_ne (by omega), vU_ne (by omega)]; exact congrArg _ (by omega)
    · rw [vUA_ne (by omega), vUA_ne (by omega), vU_o (Or.inr hj)]
    · rw [vUA_ne (by omega), vUA_ne (by omega), vU_s]
    · rw [vUA_ne g2, vUA_ne g3, vU_ne g1]
    · rw [vUA_ne (by omega), vUA_at, cpy_in (by omega) (by omega), vU_ne (by omega), show 0 + (j - 0) = 9 * 0 + j by omega]; exact hC.xd hl hj
    · exact ((hO.u (by omega) (by omega)).ua (by omega) (by omega)).ua (by omega) (by omega)
