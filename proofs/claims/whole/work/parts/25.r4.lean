
/-- the check's object: its cells -/
def LR (σ : vS) (q : Nat) : Prop := vK σ q 7 0 ∧ vK σ (q + 1) 8 120 ∧ vK σ (q + 2) 8 2012 ∧ vK σ (q + 3) 8 2012 ∧ vK σ (q + 4) 8 28168 ∧ vK σ (q + 5) 8 4024 ∧ vK σ (q + 6) 9 2 ∧ vK σ (q + 7) 8 10 ∧
  σ.2.2.1 q 1 = some (q + 1) ∧ σ.2.2.1 q 3 = some (q + 2) ∧ σ.2.2.1 q 4 = some (q + 3) ∧ σ.2.2.1 q 5 = some (q + 4) ∧ σ.2.2.1 q 7 = some (q + 5) ∧ σ.2.2.1 q 8 = some (q + 6) ∧ σ.2.2.1 q 9 = some (q + 7)
theorem LR.o {σ : vS} {q : Nat} (h : LR σ q) : vK σ q 7 0 := h.1
theorem LR.k1 {σ : vS} {q : Nat} (h : LR σ q) : vK σ (q + 1) 8 120 := h.2.1
theorem LR.k2 {σ : vS} {q : Nat} (h : LR σ q) : vK σ (q + 2) 8 2012 := h.2.2.1
theorem LR.k3 {σ : vS} {q : Nat} (h : LR σ q) : vK σ (q + 3) 8 2012 := h.2.2.2.1
theorem LR.k4 {σ : vS} {q : Nat} (h : LR σ q) : vK σ (q + 4) 8 28168 := h.2.2.2.2.1
theorem LR.k5 {σ : vS} {q : Nat} (h : LR σ q) : vK σ (q + 5) 8 4024 := h.2.2.2.2.2.1
theorem LR.k6 {σ : vS} {q : Nat} (h : LR σ q) : vK σ (q + 6) 9 2 := h.2.2.2.2.2.2.1
theorem LR.k7 {σ : vS} {q : Nat} (h : LR σ q) : vK σ (q + 7) 8 10 := h.2.2.2.2.2.2.2.1
theorem LR.r1 {σ : vS} {q : Nat} (h : LR σ q) : σ.2.2.1 q 1 = some (q + 1) := h.2.2.2.2.2.2.2.2.1
theorem LR.r2 {σ : vS} {q : Nat} (h : LR σ q) : σ.2.2.1 q 3 = some (q + 2) := h.2.2.2.2.2.2.2.2.2.1
theorem LR.r3 {σ : vS} {q : Nat} (h : LR σ q) : σ.2.2.1 q 4 = some (q + 3) := h.2.2.2.2.2.2.2.2.2.2.1
theorem LR.r4 {σ : vS} {q : Nat} (h : LR σ q) : σ.2.2.1 q 5 = some (q + 4) := h.2.2.2.2.2.2.2.2.2.2.2.1
theorem LR.r5 {σ : vS} {q : Nat} (h : LR σ q) : σ.2.2.1 q 7 = some (q + 5) := h.2.2.2.2.2.2.2.2.2.2.2.2.1
theorem LR.r6 {σ : vS} {q : Nat} (h : LR σ q) : σ.2.2.1 q 8 = some (q + 6) := h.2.2.2.2.2.2.2.2.2.2.2.2.2.1
theorem LR.r7 {σ : vS} {q : Nat} (h : LR σ q) : σ.2.2.1 q 9 = some (q + 7) := h.2.2.2.2.2.2.2.2.2.2.2.2.2.2
/-- but for two nodes all stay -/
def vO2 (v v' : vV) (r n : Nat) : Prop := ∀ m, m ≠ r → m ≠ n → v' m = v m
theorem vO2.rf {v : vV} {r n : Nat} : vO2 v v r n := fun _ _ _ => rfl
theorem vO2.tr {v v' v'' : vV} {r n : Nat} (h : vO2 v v' r n) (g : vO2 v' v'' r n) : vO2 v v'' r n := fun m q q2 => (g m q q2).trans (h m q q2)
theorem vO2.u {v v' : vV} {r n k : Nat} {x : Int32} (h : vO2 v v' r n) : vO2 v (vU v' r k x) r n := fun m q q2 => (vU_ne q).trans (h m q q2)
theorem vO2.tr9 {v v' v'' : vV} {r n : Nat} (h : vO2 v v' r n) (g : vO9 v' v'' r) : vO2 v v'' r n := fun m q q2 => (g m q).trans (h m q q2)
theorem vO9.to2 {v v' : vV} {r n : Nat} (h : vO9 v v' r) : vO2 v v' r n := fun m q _ => h m q
/-- the first note is taken -/
def tP (c : Nat) (v : vV) (r q : Nat) (S : mS) : vV → Prop := fun v9 => RR c v9 r (sN S ((gN S).drop 1)) ∧ (∀ j, j < 10 → v9 (q + 7) j = nI (((gN S).getD 0 n0) j)) ∧ vO2 v v9 r (q + 7)
theorem RR.drop1 {c : Nat} {v v3 : vV} {r : Nat} {S : mS} (h : RR c v r S) (hl : 0 < (gN S).length) (hs : ∀ i, v3 r i = if i = 2 then nI ((gN S).length - 1) else if 512 ≤ i ∧ i < 512 + 10 * ((gN S).length - 1) then v r (i + 10) else v r i) : RR c v3 r (sN S ((gN S).drop 1)) := by
  obtain ⟨ha, hc, h1, h2, h3, h4, h5, h6, b2, b3, b4⟩ := h
  have e0 : ∀ i, i < 512 → i ≠ 2 → v3 r i = v r i := fun i a q => by rw [hs, if_neg q, if_neg (by omega)]
  refine ⟨ha, hc, fun i a q => by rw [e0 i (by omega) q]; exact h1 i a q, by rw [hs, if_pos rfl]; exact congrArg nI (List.length_drop ..).symm, fun m a w q => by rw [e0 _ (by omega) (by omega)]; exact h3 m a w q, fun m a => ⟨by rw [e0 _ (by omega) (by omega)]; exact (h4 m a).1, fun k t q => ?_⟩, fun m a => ⟨by rw [e0 _ (by omega) (by omega)]; exact (h5 m a).1, fun k t q => ?_⟩, fun k y q j a => ?_, b2, b3, ?_⟩
  · have q1 : k < (gK S m).length := (List.getElem?_eq_some_iff.mp q).1; have := b2 m
    rw [e0 _ (by omega) (by omega), e0 _ (by omega) (by omega), e0 _ (by omega) (by omega)]; exact (h4 m a).2 k t q
  · have q1 : k < (gH S m).length := (List.getElem?_eq_some_iff.mp q).1; have := b3 m
    rw [e0 _ (by omega) (by omega), e0 _ (by omega) (by omega), e0 _ (by omega) (by omega)]; exact (h5 m a).2 k t q
  · have q' : ((gN S).drop 1)[k]? = some y := q
    rw [List.getElem?_drop] at q'
    have q1 : 1 + k < (gN S).length := (List.getElem?_eq_some_iff.mp q').1
    rw [hs, if_neg (by omega), if_pos (by omega), show 512 + 10 * k + j + 10 = 512 + 10 * (1 + k) + j by omega]
    exact h6 (1 + k) y q' j a
  · show ((gN S).drop 1).length ≤ 150
    rw [List.length_drop]; omega
theorem RR.setH {c : Nat} {v v3 : vV} {r : Nat} {S : mS} {m : Nat} {l : List mT} (h : RR c v r S) (hm : m < c) (hl : l.length ≤ 5) (e67 : v3 r (14 + 83 * m + 67) = nI l.length) (er : ∀ (k : Nat) (t : mT), l[k]? = some t → v3 r (14 + 83 * m + 68 + 3 * k) = nI t.1 ∧ v3 r (14 + 83 * m + 68 + 3 * k + 1) = nI t.2.1 ∧ v3 r (14 + 83 * m + 68 + 3 * k + 2) = nI t.2.2) (eo : ∀ i, (i < 14 + 83 * m + 67 ∨ 14 + 83 * m + 83 ≤ i) → v3 r i = v r i) : RR c v3 r (sH S m l) := by
  obtain ⟨ha, hc, h1, h2, h3, h4, h5, h6, b2, b3, b4⟩ := h
  refine ⟨ha, hc, fun i a q => by rw [eo i (by omega)]; exact h1 i a q, by rw [eo 2 (by omega)]; exact h2, fun m' a w q => by rw [eo _ (by rcases Nat.lt_trichotomy m m' with e | e | e <;> omega)]; exact h3 m' a w q, fun m' a => ⟨by rw [eo _ (by rcases Nat.lt_trichotomy m m' with e | e | e <;> omega)]; exact (h4 m' a).1, fun k t q => ?_⟩, fun m' a => ?_, fun k y q j a => by rw [eo _ (by omega)]; exact h6 k y q j a, b2, fun m' => ?_, b4⟩
  · have q1 : k < (gK S m').length := (List.getElem?_eq_some_iff.mp q).1; have := b2 m'
    have g := (h4 m' a).2 k t q
    rw [eo _ (by rcases Nat.lt_trichotomy m m' with e | e | e <;> omega), eo _ (by rcases Nat.lt_trichotomy m m' with e | e | e <;> omega), eo _ (by rcases Nat.lt_trichotomy m m' with e | e | e <;> omega)]; exact g
  · show v3 r (14 + 83 * m' + 67) = nI (if m' = m then l else S.2.2.2.1 m').length ∧ ∀ (k : Nat) (t : mT), (if m' = m then l else S.2.2.2.1 m')[k]? = some t → _
    by_cases e9 : m' = m
    · subst e9; rw [if_pos rfl]; exact ⟨e67, er⟩
    · rw [if_neg e9]
      refine ⟨by rw [eo _ (by rcases Nat.lt_trichotomy m m' with e | e | e <;> omega)]; exact (h5 m' a).1, fun k t q => ?_⟩
      have q1 : k < (gH S m').length := (List.getElem?_eq_some_iff.mp q).1; have := b3 m'
      have g := (h5 m' a).2 k t q
      rw [eo _ (by rcases Nat.lt_trichotomy m m' with e | e | e <;> omega), eo _ (by rcases Nat.lt_trichotomy m m' with e | e | e <;> omega), eo _ (by rcases Nat.lt_trichotomy m m' with e | e | e <;> omega)]; exact g
  · show (if m' = m then l else S.2.2.2.1 m').length ≤ 5
    split
    · exact hl
    · exact b3 m'
theorem RR.setK {c : Nat} {v v3 : vV} {r : Nat} {S : mS} {m x : Nat} {l : List mT} (h : RR c v r S) (hm : m < c) (hl : l.length ≤ 12) (e5 : v3 r (14 + 83 * m + 5) = nI x) (e30 : v3 r (14 + 83 * m + 30) = nI l.length) (er : ∀ (k : Nat) (t : mT), l[k]? = some t → v3 r (14 + 83 * m + 31 + 3 * k) = nI t.1 ∧ v3 r (14 + 83 * m + 31 + 3 * k + 1) = nI t.2.1 ∧ v3 r (14 + 83 * m + 31 + 3 * k + 2) = nI t.2.2) (eo : ∀ i, i ≠ 14 + 83 * m + 5 → (i < 14 + 83 * m + 30 ∨ 14 + 83 * m + 67 ≤ i) → v3 r i = v r i) : RR c v3 r (sK (sM S m 5 x) m l) := by
  obtain ⟨ha, hc, h1, h2, h3, h4, h5, h6, b2, b3, b4⟩ := h
  refine ⟨ha, hc, fun i a q => by rw [eo i (by omega) (by omega)]; exact h1 i a q, by rw [eo 2 (by omega) (by omega)]; exact h2, fun m' a w q => ?_, fun m' a => ?_, fun m' a => ⟨by rw [eo _ (by rcases Nat.lt_trichotomy m m' with e | e | e <;> omega) (by rcases Nat.lt_trichotomy m m' with e | e | e <;> omega)]; exact (h5 m' a).1, fun k t q => ?_⟩, fun k y q j a => by rw [eo _ (by omega) (by omega)]; exact h6 k y q j a, fun m' => ?_, b3, b4⟩
  · show v3 r (14 + 83 * m' + w) = nI (if m' = m then (if w = 5 then x else S.2.1 m' w) else S.2.1 m' w)
    by_cases e9 : m' = m
    · subst e9; rw [if_pos rfl]
      by_cases e8 : w = 5
      · subst e8; rw [if_pos rfl]; exact e5
      · rw [if_neg e8, eo _ (by omega) (by omega)]; exact h3 m' a w q
    · rw [if_neg e9, eo _ (by rcases Nat.lt_trichotomy m m' with e | e | e <;> omega) (by rcases Nat.lt_trichotomy m m' with e | e | e <;> omega)]; exact h3 m' a w q
  · show v3 r (14 + 83 * m' + 30) = nI (if m' = m then l else S.2.2.1 m').length ∧ ∀ (k : Nat) (t : mT), (if m' = m then l else S.2.2.1 m')[k]? = some t → _
    by_cases e9 : m' = m
    · subst e9; rw [if_pos rfl]; exact ⟨e30, er⟩
    · rw [if_neg e9]
      refine ⟨by rw [eo _ (by rcases Nat.lt_trichotomy m m' with e | e | e <;> omega) (by rcases Nat.lt_trichotomy m m' with e | e | e <;> omega)]; exact (h4 m' a).1, fun k t q => ?_⟩
      have q1 : k < (gK S m').length := (List.getElem?_eq_some_iff.mp q).1; have := b2 m'
      have g := (h4 m' a).2 k t q
      rw [eo _ (by rcases Nat.lt_trichotomy m m' with e | e | e <;> omega) (by rcases Nat.lt_trichotomy m m' with e | e | e <;> omega), eo _ (by rcases Nat.lt_trichotomy m m' with e | e | e <;> omega) (by rcases Nat.lt_trichotomy m m' with e | e | e <;> omega), eo _ (by rcases Nat.lt_trichotomy m m' with e | e | e <;> omega) (by rcases Nat.lt_trichotomy m m' with e | e | e <;> omega)]; exact g
  · have q1 : k < (gH S m').length := (List.getElem?_eq_some_iff.mp q).1; have := b3 m'
    have g := (h5 m' a).2 k t q
    rw [eo _ (by rcases Nat.lt_trichotomy m m' with e | e | e <;> omega) (by rcases Nat.lt_trichotomy m m' with e | e | e <;> omega), eo _ (by rcases Nat.lt_trichotomy m m' with e | e | e <;> omega) (by rcases Nat.lt_trichotomy m m' with e | e | e <;> omega), eo _ (by rcases Nat.lt_trichotomy m m' with e | e | e <;> omega) (by rcases Nat.lt_trichotomy m m' with e | e | e <;> omega)]; exact g
  · show (if m' = m then l else S.2.2.1 m').length ≤ 12
    split
    · exact hl
    · exact b2 m'
set_option maxHeartbeats 4000000 in
set_option maxRecDepth 100000 in
theorem c_X7_takeFirst {σ : vS} {v : vV} {c r : Nat} {S : mS} {q : Nat} (hq : LR σ q) (hr : vK σ r 8 2012) (hR : RR c v r S) (hrq : r ≠ q + 7) (hl : 0 < (gN S).length) : vC M_X7_takeFirst yX7_takeFirst [.ref (q), .ref (r)] (σ, v) (qS σ none (tP c v r q S)) := by
  have hc6 := hR.c6
  have hO : vO9 v v r := vO9.rf
  refine vC_of (ls := [some (.ref (q)), some (.ref (r)), none]) pn_X7 rfl rfl (Nat.le_of_ble_eq_true rfl) rfl ?_
  refine P_iconst (v := nI 0) dX7_takeFirst_0 (by decide) ?_
  refine P_istore_n (ls2 := [some (.ref (q)), some (.ref (r)), some (.int (nI (0)))]) dX7_takeFirst_1 rfl (by decide) rfl ?_
  have hL2 : ∀ (n2 : Nat) (j : Nat) (v1 : vV), (j ≤ 10) → (j + n2 = 11) → (∀ i, i < j → v1 (q + 7) i = v r (512 + i)) → (vO9 v v1 (q + 7)) → vP M_X7_takeFirst 2 [some (.ref (q)), some (.ref (r)), some (.int (nI (j)))] [] ((vRm M_X7_takeFirst).cells, (vRm M_X7_takeFirst).slots) (σ, v1) (vN (qS σ none (tP c v r q S))) := by
    intro n2
    induction n2 with
    | zero =>
      intro j v1 h1 h2 hs hO1
      exact absurd h2 (by omega)
    | succ n2 ih2 =>
      intro j v1 h1 h2 hs hO1
      refine P_iload_n dX7_takeFirst_2 rfl rfl ?_
      refine P_bipush (v := nI 10) dX7_takeFirst_3 (by decide) ?_
      refine P_icmp_geN (tgt := 27) dX7_takeFirst_5 (by decide) (by omega) (by omega) (fun c5 => ?_) (fun c5 => ?_)
      · refine P_aload_n dX7_takeFirst_27 rfl rfl ?_
        refine P_iconst (v := nI 2) dX7_takeFirst_28 (by decide) ?_
        refine P_dup2 dX7_takeFirst_29 rfl rfl ?_
        refine P_ialdN (x := nI ((gN S).length)) (2) dX7_takeFirst_30 hr rfl (by omega) (by decide) (by rw [hO1 r hrq]; exact hR.n) ?_
        refine P_iconst (v := nI 1) dX7_takeFirst_31 (by decide) ?_
        refine P_isubN dX7_takeFirst_32 (by omega) ?_
        refine P_iast (2) dX7_takeFirst_33 hr rfl (by omega) (by decide) ?_
        refine P_sipush (v := nI 512) dX7_takeFirst_34 (by decide) ?_
        refine P_istore_n (ls2 := [some (.ref (q)), some (.ref (r)), some (.int (nI (512)))]) dX7_takeFirst_37 rfl (by decide) rfl ?_
        have hL38 : ∀ (n38 : Nat) (k : Nat) (v3 : vV), (512 ≤ k) → (k ≤ 512 + 10 * ((gN S).length - 1)) → (512 + 10 * ((gN S).length - 1) < k + n38) → (∀ i, v3 r i = if i = 2 then nI ((gN S).length - 1) else if 512 ≤ i ∧ i < k then v r (i + 10) else v r i) → (∀ i, i < 10 → v3 (q + 7) i = v r (512 + i)) → (vO2 v v3 r (q + 7)) → vP M_X7_takeFirst 38 [some (.ref (q)), some (.ref (r)), some (.int (nI (k)))] [] ((vRm M_X7_takeFirst).cells, (vRm M_X7_takeFirst).slots) (σ, v3) (vN (qS σ none (tP c v r q S))) := by
          intro n38
          induction n38 with
          | zero =>
            intro k v3 k0 k1 k2 hs3 hc3 hO3
            exact absurd k2 (by omega)
          | succ n38 ih38 =>
            intro k v3 k0 k1 k2 hs3 hc3 hO3
            refine P_iload_n dX7_takeFirst_38 rfl rfl ?_
            refine P_sipush (v := nI 512) dX7_takeFirst_39 (by decide) ?_
            refine P_bipush (v := nI 10) dX7_takeFirst_42 (by decide) ?_
            refine P_aload_n dX7_takeFirst_44 rfl rfl ?_
            refine P_iconst (v := nI 2) dX7_takeFirst_45 (by decide) ?_
            refine P_ialdN (x := nI ((gN S).length - 1)) (2) dX7_takeFirst_46 hr rfl (by omega) (by decide) (by rw [hs3, if_pos rfl]) ?_
            refine P_imulN dX7_takeFirst_47 ?_
            refine P_iaddN dX7_takeFirst_48 ?_
            refine P_icmp_geN (tgt := 67) dX7_takeFirst_49 (by decide) (by have := hR.b.2.2; omega) (by have := hR.b.2.2; omega) (fun c49 => ?_) (fun c49 => ?_)
            · refine P_vret dX7_takeFirst_67 rfl ?_
              refine q_s rfl ⟨hR.drop1 hl (by rw [show k = 512 + 10 * ((gN S).length - 1) by omega] at hs3; exact hs3), fun j hj => ?_, hO3⟩
              rw [hc3 j hj, show 512 + j = 512 + 10 * 0 + j by omega]
              exact hR.xd hl hj
            · refine P_aload_n dX7_takeFirst_52 rfl rfl ?_
              refine P_iload_n dX7_takeFirst_53 rfl rfl ?_
              refine P_aload_n dX7_takeFirst_54 rfl rfl ?_
              refine P_iload_n dX7_takeFirst_55 rfl rfl ?_
              refine P_bipush (v := nI 10) dX7_takeFirst_56 (by decide) ?_
              refine P_iaddN dX7_takeFirst_58 ?_
              refine P_iald (k + 10) dX7_takeFirst_59 hr rfl (by have := hR.b.2.2; omega) (by decide) ?_
              refine P_iast (k) dX7_takeFirst_60 hr rfl (by have := hR.b.2.2; omega) (by decide) ?_
              refine P_iinc (v := nI (k + 1)) (ls2 := [some (.ref (q)), some (.ref (r)), some (.int (nI (k + 1)))]) dX7_takeFirst_61 rfl (nI_inc _ 1) (by decide) rfl ?_
              refine P_goto (tgt := 38) dX7_takeFirst_64 (by decide) ?_
              refine ih38 (k + 1) _ (by omega) (by omega) (by omega) (fun i => ?_) (fun i hi => ?_) hO3.u
              · by_cases e9 : i = k
                · subst e9; rw [vU_s, hs3, if_neg (by omega), if_neg (by omega), if_neg (by omega), if_pos (by omega)]
                · rw [vU_o (Or.inr e9), hs3]
                  by_cases e8 : i = 2
                  · rw [if_pos e8, if_pos e8]
                  · rw [if_neg e8, if_neg e8]
                    by_cases g1 : 512 ≤ i ∧ i < k
                    · rw [if_pos g1, if_pos (by omega)]
                    · rw [if_neg g1, if_neg (by omega)]
              · rw [vU_ne (fun q1 => hrq q1.symm)]; exact hc3 i hi
        refine hL38 2000 512 _ (by omega) (by omega) (by have := hR.b.2.2; omega) (fun i => ?_) (fun i hi => ?_) (fun m q1 q2 => ?_)
        · by_cases e9 : i = 2
          · subst e9; rw [vU_s, if_pos rfl]
          · rw [vU_o (Or.inr e9), if_neg e9, if_neg (by omega), hO1 r hrq]
        · rw [vU_ne (fun q1 => hrq q1.symm)]; exact hs i (by omega)
        · rw [vU_ne q1]; exact hO1 m q2
      · refine P_aload_n dX7_takeFirst_8 rfl rfl ?_
        refine P_getr (t := q + 7) dX7_takeFirst_9 kX7 fX7_29 rfl (by decide) hq.o hq.r7 hq.k7.1.2 ?_
        refine P_iload_n dX7_takeFirst_12 rfl rfl ?_
        refine P_aload_n dX7_takeFirst_13 rfl rfl ?_
        refine P_sipush (v := nI 512) dX7_takeFirst_14 (by decide) ?_
        refine P_iload_n dX7_takeFirst_17 rfl rfl ?_
        refine P_iaddN dX7_takeFirst_18 ?_
        refine P_iald (512 + j) dX7_takeFirst_19 hr rfl (by omega) (by decide) ?_
        refine P_iast (j) dX7_takeFirst_20 hq.k7 rfl (by omega) (by decide) ?_
        refine P_iinc (v := nI (j + 1)) (ls2 := [some (.ref (q)), some (.ref (r)), some (.int (nI (j + 1)))]) dX7_takeFirst_21 rfl (nI_inc _ 1) (by decide) rfl ?_
        refine P_goto (tgt := 2) dX7_takeFirst_24 (by decide) ?_
        refine ih2 (j + 1) _ (by omega) (by omega) (fun i hi => ?_) hO1.u
        by_cases e9 : i = j
        · subst e9; rw [vU_s, hO1 r hrq]
        · rw [vU_o (Or.inr e9)]; exact hs i (by omega)
  exact hL2 11 0 v (by omega) (by omega) (fun i hi => absurd hi (Nat.not_lt_zero i)) vO9.rf
set_option maxHeartbeats 4000000 in
set_option maxRecDepth 100000 in
theorem c_X7_over {σ : vS} {v : vV} {c r : Nat} {S : mS} {m heard : Nat} (hr : vK σ r 8 2012) (hR : RR c v r S) (hm : m < c) : vC M_X7_over yX7_over [.ref (r), .int (nI (m)), .int (nI (heard))] (σ, v) (qS σ none (rP c v r (mover S m heard))) := by
  have hc6 := hR.c6
  have hO : vO9 v v r := vO9.rf
  refine vC_of (ls := [some (.ref (r)), some (.int (nI (m))), some (.int (nI (heard))), none, none]) pn_X7 rfl rfl (Nat.le_of_ble_eq_true rfl) rfl ?_
  have hJ64 : ∀ (v1 : vV) (l : List mT), (l.length ≤ 4) → (v1 r (14 + 83 * m + 67) = nI l.length) → (∀ (k : Nat) (t : mT), l[k]? = some t → v1 r (14 + 83 * m + 68 + 3 * k) = nI t.1 ∧ v1 r (14 + 83 * m + 68 + 3 * k + 1) = nI t.2.1 ∧ v1 r (14 + 83 * m + 68 + 3 * k + 2) = nI t.2.2) → (∀ i, (i < 14 + 83 * m + 67 ∨ 14 + 83 * m + 83 ≤ i) → v1 r i = v r i) → (vO9 v v1 r) → ((if (gH S m).length = 5 then (gH S m).drop 1 else gH S m) = l) → vP M_X7_over 64 [some (.ref (r)), some (.int (nI (m))), some (.int (nI (heard))), some (.int (nI (14 + 83 * m))), none] [] ((vRm M_X7_over).cells, (vRm M_X7_over).slots) (σ, v1) (vN (qS σ none (rP c v r (mover S m heard)))) := by
    intro v1 l hl h67 hrw ho hO1 hlS
    refine P_iload_n dX7_over_64 rfl rfl ?_
    refine P_bipush (v := nI 68) dX7_over_65 (by decide) ?_
    refine P_iaddN dX7_over_67 ?_
    refine P_iconst (v := nI 3) dX7_over_68 (by decide) ?_
    refine P_aload_n dX7_over_69 rfl rfl ?_
    refine P_iload_n dX7_over_70 rfl rfl ?_
    refine P_bipush (v := nI 67) dX7_over_71 (by decide) ?_
    refine P_iaddN dX7_over_73 ?_
    refine P_ialdN (x := nI (l.length)) (14 + 83 * m + 67) dX7_over_74 hr rfl (by omega) (by decide) h67 ?_
    refine P_imulN dX7_over_75 ?_
    refine P_iaddN dX7_over_76 ?_
    refine P_istore (ls2 := [some (.ref (r)), some (.int (nI (m))), some (.int (nI (heard))), some (.int (nI (14 + 83 * m))), some (.int (nI (14 + 83 * m + 68 + 3 * l.length)))]) dX7_over_77 (by decide) rfl ?_
    refine P_aload_n dX7_over_79 rfl rfl ?_
    refine P_iload dX7_over_80 rfl ?_
    refine P_aload_n dX7_over_82 rfl rfl ?_
    refine P_iload_n dX7_over_83 rfl rfl ?_
    refine P_iconst (v := nI 2) dX7_over_84 (by decide) ?_
    refine P_iaddN dX7_over_85 ?_
    refine P_ialdN (x := nI (gM S m 2)) (14 + 83 * m + 2) dX7_over_86 hr rfl (by omega) (by decide) (by (repeat rw [vU_o (by omega)]); rw [ho _ (by omega)]; exact hR.m hm (by decide)) ?_
    refine P_iast (14 + 83 * m + 68 + 3 * l.length) dX7_over_87 hr rfl (by omega) (by decide) ?_
    refine P_aload_n dX7_over_88 rfl rfl ?_
    refine P_iload dX7_over_89 rfl ?_
    refine P_iconst (v := nI 1) dX7_over_91 (by decide) ?_
    refine P_iaddN dX7_over_92 ?_
    refine P_aload_n dX7_over_93 rfl rfl ?_
    refine P_iload_n dX7_over_94 rfl rfl ?_
    refine P_iconst (v := nI 3) dX7_over_95 (by decide) ?_
    refine P_iaddN dX7_over_96 ?_
    refine P_ialdN (x := nI (gM S m 3)) (14 + 83 * m + 3) dX7_over_97 hr rfl (by omega) (by decide) (by (repeat rw [vU_o (by omega)]); rw [ho _ (by omega)]; exact hR.m hm (by decide)) ?_
    refine P_iast (14 + 83 * m + 68 + 3 * l.length + 1) dX7_over_98 hr rfl (by omega) (by decide) ?_
    refine P_aload_n dX7_over_99 rfl rfl ?_
    refine P_iload dX7_over_100 rfl ?_
    refine P_iconst (v := nI 2) dX7_over_102 (by decide) ?_
    refine P_iaddN dX7_over_103 ?_
    refine P_iload_n dX7_over_104 rfl rfl ?_
    refine P_iast (14 + 83 * m + 68 + 3 * l.length + 2) dX7_over_105 hr rfl (by omega) (by decide) ?_
    refine P_aload_n dX7_over_106 rfl rfl ?_
    refine P_iload_n dX7_over_107 rfl rfl ?_
    refine P_bipush (v := nI 67) dX7_over_108 (by decide) ?_
    refine P_iaddN dX7_over_110 ?_
    refine P_dup2 dX7_over_111 rfl rfl ?_
    refine P_ialdN (x := nI (l.length)) (14 + 83 * m + 67) dX7_over_112 hr rfl (by omega) (by decide) (by (repeat rw [vU_o (by omega)]); exact h67) ?_
    refine P_iconst (v := nI 1) dX7_over_113 (by decide) ?_
    refine P_iaddN dX7_over_114 ?_
    refine P_iast (14 + 83 * m + 67) dX7_over_115 hr rfl (by omega) (by decide) ?_
    refine P_vret dX7_over_116 rfl ?_
    refine q_s rfl ⟨?_, ?_⟩
    · unfold mover
      rw [hlS]
      refine RR.setH hR hm (by rw [List.length_append]; exact Nat.succ_le_succ hl) (by rw [vU_s, List.length_append]; rfl) (fun k t q => ?_) (fun i q => ?_)
      · by_cases g1 : k < l.length
        · rw [List.getElem?_append_left g1] at q
          have := hrw k t q
          refine ⟨?_, ?_, ?_⟩
          · (repeat rw [vU_o (by omega)]); exact this.1
          · (repeat rw [vU_o (by omega)]); exact this.2.1
          · (repeat rw [vU_o (by omega)]); exact this.2.2
        · have q1 : k < (l ++ [(gM S m 2, gM S m 3, heard)]).length := (List.getElem?_eq_some_iff.mp q).1
          rw [List.length_append] at q1
          have q2 : k < l.length + 1 := q1
          rw [List.getElem?_append_right (by omega), show k - l.length = 0 by omega] at q
          cases q
          obtain rfl : k = l.length := by omega
          refine ⟨?_, ?_, ?_⟩
          · (repeat rw [vU_o (by omega)]); exact vU_s
          · (repeat rw [vU_o (by omega)]); exact vU_s
          · (repeat rw [vU_o (by omega)]); exact vU_s
      · (repeat rw [vU_o (by omega)]); exact ho i q
    · repeat refine vO9.u ?_
      exact hO1
  refine P_bipush (v := nI 14) dX7_over_0 (by decide) ?_
  refine P_bipush (v := nI 83) dX7_over_2 (by decide) ?_
  refine P_iload_n dX7_over_4 rfl rfl ?_
  refine P_imulN dX7_over_5 ?_
  refine P_iaddN dX7_over_6 ?_
  refine P_istore_n (ls2 := [some (.ref (r)), some (.int (nI (m))), some (.int (nI (heard))), some (.int (nI (14 + 83 * m))), none]) dX7_over_7 rfl (by decide) rfl ?_
  refine P_aload_n dX7_over_8 rfl rfl ?_
  refine P_iload_n dX7_over_9 rfl rfl ?_
  refine P_bipush (v := nI 67) dX7_over_10 (by decide) ?_
  refine P_iaddN dX7_over_12 ?_
  refine P_ialdN (x := nI ((gH S m).length)) (14 + 83 * m + 67) dX7_over_13 hr rfl (by omega) (by decide) (hR.hl (by omega)) ?_
  refine P_iconst (v := nI 5) dX7_over_14 (by decide) ?_
  refine P_icmp_neN (tgt := 64) dX7_over_15 (by decide) (by have := hR.b.2.1 m; omega) (by have := hR.b.2.1 m; omega) (fun c15 => ?_) (fun c15 => ?_)
  · exact hJ64 v (gH S m) (by have := hR.b.2.1 m; omega) (hR.hl hm) (fun k t q => hR.hr hm q) (fun _ _ => rfl) hO (by rw [if_neg c15])
  · refine P_iconst (v := nI 0) dX7_over_18 (by decide) ?_
    refine P_istore (ls2 := [some (.ref (r)), some (.int (nI (m))), some (.int (nI (heard))), some (.int (nI (14 + 83 * m))), some (.int (nI (0)))]) dX7_over_19 (by decide) rfl ?_
    have hL21 : ∀ (n21 : Nat) (j : Nat) (v2 : vV), (j ≤ 12) → (j + n21 = 13) → (∀ i, v2 r i = if 14 + 83 * m + 68 ≤ i ∧ i < 14 + 83 * m + 68 + j then v r (i + 3) else v r i) → (vO9 v v2 r) → vP M_X7_over 21 [some (.ref (r)), some (.int (nI (m))), some (.int (nI (heard))), some (.int (nI (14 + 83 * m))), some (.int (nI (j)))] [] ((vRm M_X7_over).cells, (vRm M_X7_over).slots) (σ, v2) (vN (qS σ none (rP c v r (mover S m heard)))) := by
      intro n21
      induction n21 with
      | zero =>
        intro j v2 h1 h2 hs hO1
        exact absurd h2 (by omega)
      | succ n21 ih21 =>
        intro j v2 h1 h2 hs hO1
        refine P_iload dX7_over_21 rfl ?_
        refine P_bipush (v := nI 12) dX7_over_23 (by decide) ?_
        refine P_icmp_geN (tgt := 54) dX7_over_25 (by decide) (by omega) (by omega) (fun c25 => ?_) (fun c25 => ?_)
        · refine P_aload_n dX7_over_54 rfl rfl ?_
          refine P_iload_n dX7_over_55 rfl rfl ?_
          refine P_bipush (v := nI 67) dX7_over_56 (by decide) ?_
          refine P_iaddN dX7_over_58 ?_
          refine P_dup2 dX7_over_59 rfl rfl ?_
          refine P_ialdN (x := nI ((gH S m).length)) (14 + 83 * m + 67) dX7_over_60 hr rfl (by omega) (by decide) (by rw [hs, if_neg (by omega)]; exact hR.hl hm) ?_
          refine P_iconst (v := nI 1) dX7_over_61 (by decide) ?_
          refine P_isubN dX7_over_62 (by omega) ?_
          refine P_iast (14 + 83 * m + 67) dX7_over_63 hr rfl (by omega) (by decide) ?_
          refine P_weak (ls2 := [some (.ref (r)), some (.int (nI (m))), some (.int (nI (heard))), some (.int (nI (14 + 83 * m))), none]) ⟨rfl, rfl, rfl, rfl, trivial⟩ ?_
          refine hJ64 _ ((gH S m).drop 1) (by rw [List.length_drop]; omega) (by rw [vU_s, List.length_drop]) (fun k t q => ?_) (fun i q => ?_) hO1.u (by rw [if_pos c15])
          · rw [List.getElem?_drop] at q
            have q1 : 1 + k < (gH S m).length := (List.getElem?_eq_some_iff.mp q).1
            have g1 := hR.hr hm q
            rw [vU_o (by omega), vU_o (by omega), vU_o (by omega), hs, hs, hs, if_pos (by omega), if_pos (by omega), if_pos (by omega)]
            rw [show 14 + 83 * m + 68 + 3 * k + 3 = 14 + 83 * m + 68 + 3 * (1 + k) by omega, show 14 + 83 * m + 68 + 3 * k + 1 + 3 = 14 + 83 * m + 68 + 3 * (1 + k) + 1 by omega, show 14 + 83 * m + 68 + 3 * k + 2 + 3 = 14 + 83 * m + 68 + 3 * (1 + k) + 2 by omega]
            exact g1
          · rw [vU_o (by omega), hs, if_neg (by omega)]
        · refine P_aload_n dX7_over_28 rfl rfl ?_
          refine P_iload_n dX7_over_29 rfl rfl ?_
          refine P_bipush (v := nI 68) dX7_over_30 (by decide) ?_
          refine P_iaddN dX7_over_32 ?_
          refine P_iload dX7_over_33 rfl ?_
          refine P_iaddN dX7_over_35 ?_
          refine P_aload_n dX7_over_36 rfl rfl ?_
          refine P_iload_n dX7_over_37 rfl rfl ?_
          refine P_bipush (v := nI 68) dX7_over_38 (by decide) ?_
          refine P_iaddN dX7_over_40 ?_
          refine P_iload dX7_over_41 rfl ?_
          refine P_iaddN dX7_over_43 ?_
          refine P_iconst (v := nI 3) dX7_over_44 (by decide) ?_
          refine P_iaddN dX7_over_45 ?_
          refine P_iald (14 + 83 * m + 68 + j + 3) dX7_over_46 hr rfl (by omega) (by decide) ?_
          refine P_iast (14 + 83 * m + 68 + j) dX7_over_47 hr rfl (by omega) (by decide) ?_
          refine P_iinc (v := nI (j + 1)) (ls2 := [some (.ref (r)), some (.int (nI (m))), some (.int (nI (heard))), some (.int (nI (14 + 83 * m))), some (.int (nI (j + 1)))]) dX7_over_48 rfl (nI_inc _ 1) (by decide) rfl ?_
          refine P_goto (tgt := 21) dX7_over_51 (by decide) ?_
          refine ih21 (j + 1) _ (by omega) (by omega) (fun i => ?_) hO1.u
          by_cases e9 : i = 14 + 83 * m + 68 + j
          · subst e9; rw [vU_s, hs, if_neg (by omega), if_pos (by omega)]
          · rw [vU_o (Or.inr e9), hs]
            by_cases g1 : 14 + 83 * m + 68 ≤ i ∧ i < 14 + 83 * m + 68 + j
            · rw [if_pos g1, if_pos (by omega)]
            · rw [if_neg g1, if_neg (by omega)]
    exact hL21 13 0 v (by omega) (by omega) (fun i => by rw [if_neg (by omega)]) hO
