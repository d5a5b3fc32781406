
/-! THE REFERENCE AS A WHOLE -/
theorem RR.sh {c : Nat} {v v' : vV} {r r' : Nat} {S : mS} (h : RR c v r S) (e : ∀ i, i < 2012 → v' r' i = v r i) : RR c v' r' S := by
  obtain ⟨ha, hc, h1, h2, h3, h4, h5, h6, hb⟩ := h
  have hb2 := hb
  obtain ⟨b2, b3, b4⟩ := hb
  refine ⟨ha, hc, fun i a q => by rw [e i (by omega)]; exact h1 i a q, by rw [e 2 (by omega)]; exact h2, fun m a w q => by rw [e _ (by omega)]; exact h3 m a w q, fun m a => ⟨by rw [e _ (by omega)]; exact (h4 m a).1, fun k t q => ?_⟩, fun m a => ⟨by rw [e _ (by omega)]; exact (h5 m a).1, fun k t q => ?_⟩, fun k x q j a => ?_, hb2⟩
  · have := (List.getElem?_eq_some_iff.mp q).1; have := b2 m
    rw [e _ (by omega), e _ (by omega), e _ (by omega)]; exact (h4 m a).2 k t q
  · have := (List.getElem?_eq_some_iff.mp q).1; have := b3 m
    rw [e _ (by omega), e _ (by omega), e _ (by omega)]; exact (h5 m a).2 k t q
  · have := (List.getElem?_eq_some_iff.mp q).1
    rw [e _ (by omega)]; exact h6 k x q j a
/-- the states that are kept behind each other in one row -/
def RD (v : vV) (p : Nat) (j : Nat) (Y : mC) : Prop := RR Y.1 (fun _ i => v p (2012 * j + i)) 0 Y.2
theorem RD.of {v v' : vV} {p j : Nat} {Y : mC} (h : RD v p j Y) (e : v' p = v p) : RD v' p j Y := by unfold RD; rw [e]; exact h
def RT (v : vV) (q : Nat) (T : gT) : Prop := mTX v q T.1.1 T.1.2 ∧ RR T.2.1.1 v (q + 2) T.2.1.2 ∧ (T.2.2.1.length ≤ 14 ∧ v q 6 = nI T.2.2.1.length ∧ ∀ (j : Nat) (Y : mC), T.2.2.1[j]? = some Y → RD v (q + 4) j Y) ∧ ∀ i, i < 2 → v (q + 6) i = vb (T.2.2.2 i).isSome ∧ ∀ Y, T.2.2.2 i = some Y → RD v (q + 5) i Y
theorem RT.tx {v : vV} {q : Nat} {T : gT} (h : RT v q T) : mTX v q T.1.1 T.1.2 := h.1
theorem RT.r {v : vV} {q : Nat} {T : gT} (h : RT v q T) : RR T.2.1.1 v (q + 2) T.2.1.2 := h.2.1
theorem RT.l {v : vV} {q : Nat} {T : gT} (h : RT v q T) : T.2.2.1.length ≤ 14 := h.2.2.1.1
theorem RT.a {v : vV} {q : Nat} {T : gT} (h : RT v q T) : v q 6 = nI T.2.2.1.length := h.2.2.1.2.1
theorem RT.d {v : vV} {q j : Nat} {T : gT} {Y : mC} (h : RT v q T) (hj : T.2.2.1[j]? = some Y) : RD v (q + 4) j Y := h.2.2.1.2.2 j Y hj
theorem RT.s {v : vV} {q i : Nat} {T : gT} (h : RT v q T) (hi : i < 2) : v (q + 6) i = vb (T.2.2.2 i).isSome ∧ ∀ Y, T.2.2.2 i = some Y → RD v (q + 5) i Y := h.2.2.2 i hi
theorem RT.now {v v' : vV} {q : Nat} {T : gT} {X : mC} (h : RT v q T) (hR : RR X.1 v' (q + 2) X.2) (e0 : ∀ j, j ≠ 0 → j ≠ 10 → j ≠ 11 → v' q j = v q j) (e : ∀ m, q + 1 ≤ m → m < q + 7 → m ≠ q + 2 → m ≠ q + 3 → v' m = v m) : RT v' q (T.1, X, T.2.2) :=
  ⟨h.tx.of (e0 2 (by decide) (by decide) (by decide)) (fun i => by rw [e (q + 1) (by omega) (by omega) (by omega) (by omega)]), hR, ⟨h.l, (e0 6 (by decide) (by decide) (by decide)).trans h.a, fun j Y hj => (h.d hj).of (e (q + 4) (by omega) (by omega) (by omega) (by omega))⟩, fun i hi => ⟨by rw [e (q + 6) (by omega) (by omega) (by omega) (by omega)]; exact (h.s hi).1, fun Y hY => ((h.s hi).2 Y hY).of (e (q + 5) (by omega) (by omega) (by omega) (by omega))⟩⟩
theorem RT.of {v v' : vV} {q : Nat} {T : gT} (h : RT v q T) (e0 : ∀ j, j ≠ 0 → j ≠ 10 → j ≠ 11 → v' q j = v q j) (e : ∀ m, q + 1 ≤ m → m < q + 7 → m ≠ q + 3 → v' m = v m) : RT v' q T :=
  h.now (h.r.sh (fun i _ => by rw [e (q + 2) (by omega) (by omega) (by omega)])) e0 (fun m a b c d => e m a b d)
theorem RT.ref {v : vV} {q : Nat} {T : gT} {x : Int32} (h : RT v q T) : RT (vU v q 0 x) q T := h.of (fun j a _ _ => vU_o (Or.inr a)) (fun m a _ _ => vU_ne (by omega))
theorem RT.text {v v' : vV} {q n : Nat} {t : mN} {T : gT} (h : RT v q T) (hx : mTX v' q t n) (e0 : v' q 6 = v q 6) (e : ∀ m, q + 2 ≤ m → m < q + 7 → v' m = v m) : RT v' q ((t, n), T.2) :=
  ⟨hx, h.r.sh (fun i _ => by rw [e (q + 2) (by omega) (by omega)]), ⟨h.l, e0.trans h.a, fun j Y hj => (h.d hj).of (e (q + 4) (by omega) (by omega))⟩, fun i hi => ⟨by rw [e (q + 6) (by omega) (by omega)]; exact (h.s hi).1, fun Y hY => ((h.s hi).2 Y hY).of (e (q + 5) (by omega) (by omega))⟩⟩
theorem RT.diary {v v' : vV} {q : Nat} {T : gT} {D : List mC} (h : RT v q T) (hl : D.length ≤ 14) (h6 : v' q 6 = nI D.length) (hd : ∀ (j : Nat) (Y : mC), D[j]? = some Y → RD v' (q + 4) j Y) (e0 : v' q 2 = v q 2) (e : ∀ m, q + 1 ≤ m → m < q + 7 → m ≠ q + 4 → v' m = v m) : RT v' q (T.1, T.2.1, D, T.2.2.2) :=
  ⟨h.tx.of e0 (fun i => by rw [e (q + 1) (by omega) (by omega) (by omega)]), h.r.sh (fun i _ => by rw [e (q + 2) (by omega) (by omega) (by omega)]), ⟨hl, h6, hd⟩, fun i hi => ⟨by rw [e (q + 6) (by omega) (by omega) (by omega)]; exact (h.s hi).1, fun Y hY => ((h.s hi).2 Y hY).of (e (q + 5) (by omega) (by omega) (by omega))⟩⟩
theorem vO9.ow {v v' : vV} {q r w : Nat} (h : vO9 v v' r) (h1 : q ≤ r) (h2 : r < q + w) : vOw v v' q w := fun n g => h n (by omega)
theorem vO2.ow {v v' : vV} {q r p w : Nat} (h : vO2 v v' r p) (h1 : q ≤ r) (h2 : r < q + w) (h3 : q ≤ p) (h4 : p < q + w) : vOw v v' q w := fun n g => h n (by omega) (by omega)
theorem vO4.ow {v v' : vV} {q r : Nat} (h : vO4 v v' r q) (h1 : q ≤ r) (h2 : r < q + 8) : vOw v v' q 8 := fun n g => h.1 n (by omega) (by omega) (by omega)
theorem vF.ow {v v' : vV} {q k : Nat} (h : vF v v' q k) : vOw v v' q 8 := fun n g => funext fun j => h n j (Or.inl (by omega))
/-- what a call of the reference leaves: the answer, the exception's number, the object -/
def qR (σ : vS) (v : vV) (q : Nat) (R : gR gT) : Option Value → vM → Prop := qS σ (some (.int R.2.1)) (fun v9 => v9 q 0 = nI R.1 ∧ RT v9 q R.2.2 ∧ vOw v v9 q 8)
theorem qr_thr {σ : vS} {v : vV} {q k : Nat} {T : gT} {R : gR gT} (hT : RT v q T) (e : R = (k, 0, T)) : vN (qR σ v q R) (.inl (some (.int (nI 0)))) (σ, vU v q 0 (nI k)) := by
  subst e
  exact q_s rfl ⟨vU_s, hT.ref, vOw.rf.u (by omega) (by omega)⟩
theorem qr_ret {σ : vS} {v v9 : vV} {q : Nat} {x : Int32} {T : gT} {R : gR gT} (e : R = (0, x, T)) (h0 : v9 q 0 = nI 0) (hT : RT v9 q T) (hf : vOw v v9 q 8) : vN (qR σ v q R) (.inl (some (.int x))) (σ, v9) := by
  subst e
  exact q_s rfl ⟨h0, hT, hf⟩
theorem in_gin {x : Int32} {L H : Int64} {lo hi : Nat} (h1 : L.toInt = lo) (h2 : H.toInt = hi) : decide (L ≤ x.toInt64 ∧ x.toInt64 ≤ H) = gin x lo hi := by
  unfold gin
  apply decide_eq_decide.mpr
  rw [Int64.le_iff_toInt_le, Int64.le_iff_toInt_le, Int32.toInt_toInt64, h1, h2]
theorem in_idx {k : Int32} {n : Nat} (hn : n < 1000) : decide ((0 : Int64) ≤ k.toInt64 ∧ k.toInt64 ≤ (nI n - nI 1).toInt64) = idxIn k n := by
  unfold idxIn
  apply decide_eq_decide.mpr
  rw [Int64.le_iff_toInt_le, Int64.le_iff_toInt_le, Int32.toInt_toInt64, Int32.toInt_toInt64]
  have h0 : (0 : Int64).toInt = 0 := by decide
  have h1 : (nI n - nI 1).toInt = (n : Int) - 1 := by
    by_cases q : n = 0
    · subst q; decide
    · rw [nI_sub (by omega), nI_toInt (by omega)]; omega
  rw [h0, h1]
  omega
theorem idx_n {k : Int32} {n : Nat} (h : idxIn k n = true) : ∃ j, j < n ∧ k.toInt.toNat = j ∧ (k.toInt = (j : Int)) := by
  have := of_decide_eq_true h
  exact ⟨k.toInt.toNat, by omega, rfl, by omega⟩
theorem idx_k {k : Int32} {n : Nat} (hn : n < 2147483648) (h : idxIn k n = true) : ∃ j, j < n ∧ k = nI j := by
  have := of_decide_eq_true h
  exact ⟨k.toInt.toNat, by omega, nI_of_toInt (by omega) (by omega)⟩
set_option maxHeartbeats 4000000 in
set_option maxRecDepth 100000 in
theorem c_X7_refused {σ : vS} {v : vV} {q k : Nat} (hq : LR σ q) (hk : k < 2147483648) : vC M_X7_refused yX7_refused [.ref (q), .int (nI (k))] (σ, v) (qS σ (some (.int (vb (decide (0 < k))))) (fun v9 => v9 = vU v q 0 (nI k))) := by
  refine vC_of (ls := [some (.ref (q)), some (.int (nI (k)))]) pn_X7 rfl rfl (Nat.le_of_ble_eq_true rfl) rfl ?_
  refine P_aload_n dX7_refused_0 rfl rfl ?_
  refine P_iload_n dX7_refused_1 rfl rfl ?_
  refine P_puti dX7_refused_2 kX7 fX7_36 rfl (by decide) rfl hq.o ?_
  refine P_iload_n dX7_refused_5 rfl rfl ?_
  refine P_if_leN (tgt := 13) dX7_refused_6 (by decide) (by omega) (fun c6 => ?_) (fun c6 => ?_)
  · refine P_iconst (v := nI 0) dX7_refused_13 (by decide) ?_
    refine P_zret dX7_refused_14 rfl (by decide) ?_
    exact ⟨_, by rw [show decide (0 < k) = false by exact decide_eq_false (by omega)]; rfl, rfl, rfl⟩
  · refine P_iconst (v := nI 1) dX7_refused_9 (by decide) ?_
    refine P_goto (tgt := 14) dX7_refused_10 (by decide) ?_
    refine P_zret dX7_refused_14 rfl (by decide) ?_
    exact ⟨_, by rw [show decide (0 < k) = true by exact decide_eq_true (by omega)]; rfl, rfl, rfl⟩
set_option maxHeartbeats 4000000 in
set_option maxRecDepth 100000 in
theorem c_X7_thrown {σ : vS} {v : vV} {q : Nat} (hq : LR σ q) : vC M_X7_thrown yX7_thrown [.ref (q)] (σ, v) (qP (σ, v) (.int (v q 0))) := by
  refine vC_of (ls := [some (.ref (q))]) pn_X7 rfl rfl (Nat.le_of_ble_eq_true rfl) rfl ?_
  refine P_aload_n dX7_thrown_0 rfl rfl ?_
  refine P_geti dX7_thrown_1 kX7 fX7_36 rfl (by decide) hq.o ?_
  refine P_iret dX7_thrown_4 rfl ?_
  exact ⟨rfl, rfl⟩
set_option maxHeartbeats 4000000 in
set_option maxRecDepth 100000 in
theorem c_X7_remember {σ : vS} {v : vV} {c q n : Nat} {S : mS} {t : mN} {D : List mC} {sl : Nat → Option mC} (hq : LR σ q) (hT : RT v q ((t, n), (c, S), D, sl)) : vC M_X7_remember yX7_remember [.ref (q)] (σ, v) (qS σ none (fun v9 => RT v9 q (((t, n), (c, S), (if D.length = 14 then D.drop 1 else D) ++ [(c, S)], sl) : gT) ∧ v9 q 0 = v q 0 ∧ vOw v v9 q 8)) := by
  have hR : RR c v (q + 2) S := hT.r
  have hc6 := hR.c6
  have hlt : D.length ≤ 14 := hT.l
  refine vC_of (ls := [some (.ref (q)), none]) pn_X7 rfl rfl (Nat.le_of_ble_eq_true rfl) rfl ?_
  have hJ50 : ∀ (v2 : vV), (v2 q 6 = nI (if D.length = 14 then D.drop 1 else D).length) → (∀ m, m ≠ q → m ≠ q + 4 → v2 m = v m) → (∀ j, j ≠ 6 → v2 q j = v q j) → (∀ (j : Nat) (Y : mC), (if D.length = 14 then D.drop 1 else D)[j]? = some Y → RD v2 (q + 4) j Y) → vP M_X7_remember 50 [some (.ref (q)), none] [] ((vRm M_X7_remember).cells, (vRm M_X7_remember).slots) (σ, v2) (vN (qS σ none (fun v9 => RT v9 q (((t, n), (c, S), (if D.length = 14 then D.drop 1 else D) ++ [(c, S)], sl) : gT) ∧ v9 q 0 = v q 0 ∧ vOw v v9 q 8))) := by
    intro v2 h26 hO2 hq2 hd2
    refine P_aload_n dX7_remember_50 rfl rfl ?_
    refine P_getr (t := q + 2) dX7_remember_51 kX7 fX7_13 rfl (by decide) hq.o hq.r2 hq.k2.1.2 ?_
    refine P_iconst (v := nI 0) dX7_remember_54 (by decide) ?_
    refine P_aload_n dX7_remember_55 rfl rfl ?_
    refine P_getr (t := q + 4) dX7_remember_56 kX7 fX7_19 rfl (by decide) hq.o hq.r4 hq.k4.1.2 ?_
    refine P_sipush (v := nI 2012) dX7_remember_59 (by decide) ?_
    refine P_aload_n dX7_remember_62 rfl rfl ?_
    refine P_getiN (x := nI ((if D.length = 14 then D.drop 1 else D).length)) dX7_remember_63 kX7 fX7_193 rfl (by decide) hq.o h26 ?_
    refine P_imulN dX7_remember_66 ?_
    have hdl : (if D.length = 14 then D.drop 1 else D).length ≤ 13 := by split; (· rw [List.length_drop]; omega); (· omega)
    refine P_cSs (rest := []) (As := [.ref (q + 2), .int (nI (0)), .ref (q + 4), .int (nI (2012 * ((if D.length = 14 then D.drop 1 else D).length)))]) dX7_remember_67 lX7_189 yk_X7_copyState ys_X7_copyState (by decide) rfl rfl (Nat.le_of_ble_eq_true rfl) rfl (c_X7_copyState (fa := 0) (ta := 2012 * (if D.length = 14 then D.drop 1 else D).length) hq.k2 hq.k4 (by omega) (by omega) (by omega) (by decide) (by decide)) (fun v3 ⟨hO3, hs3⟩ => ?_)
    refine P_aload_n dX7_remember_70 rfl rfl ?_
    refine P_dup dX7_remember_71 rfl ?_
    refine P_getiN (x := nI ((if D.length = 14 then D.drop 1 else D).length)) dX7_remember_72 kX7 fX7_193 rfl (by decide) hq.o (by rw [hO3 q (by omega)]; exact h26) ?_
    refine P_iconst (v := nI 1) dX7_remember_75 (by decide) ?_
    refine P_iaddN dX7_remember_76 ?_
    refine P_puti dX7_remember_77 kX7 fX7_193 rfl (by decide) rfl hq.o ?_
    refine P_vret dX7_remember_80 rfl ?_
    have hl9 : ((if D.length = 14 then D.drop 1 else D) ++ [(c, S)]).length = (if D.length = 14 then D.drop 1 else D).length + 1 := by rw [List.length_append]; rfl
    refine q_s rfl ⟨hT.diary (by rw [hl9]; omega) (by rw [hl9]; exact vU_s) (fun j Y hj => ?_) (by rw [vU_o (by omega), hO3 q (by omega)]; exact hq2 2 (by decide)) (fun m g1 g2 g3 => by rw [vU_ne (by omega), hO3 m g3]; exact hO2 m (by omega) g3), by rw [vU_o (by omega), hO3 q (by omega)]; exact hq2 0 (by decide), fun m g1 => by rw [vU_ne (by omega), hO3 m (by omega)]; exact hO2 m (by omega) (by omega)⟩
    by_cases e9 : j < (if D.length = 14 then D.drop 1 else D).length
    · rw [List.getElem?_append_left e9] at hj
      refine (hd2 j Y hj).sh (fun i9 hi9 => ?_)
      show vU v3 q 6 _ (q + 4) (2012 * j + i9) = v2 (q + 4) (2012 * j + i9)
      rw [vU_ne (by omega), hs3, if_neg (by omega)]
    · have hj2 := (List.getElem?_eq_some_iff.mp hj).1
      rw [hl9] at hj2
      obtain rfl : j = (if D.length = 14 then D.drop 1 else D).length := by omega
      rw [List.getElem?_append_right (Nat.le_refl _), Nat.sub_self] at hj
      cases hj
      refine hR.sh (fun i9 hi9 => ?_)
      show vU v3 q 6 _ (q + 4) (2012 * (if D.length = 14 then D.drop 1 else D).length + i9) = v (q + 2) i9
      rw [vU_ne (by omega), hs3, if_pos (by omega), show 0 + (2012 * (if D.length = 14 then D.drop 1 else D).length + i9 - 2012 * (if D.length = 14 then D.drop 1 else D).length) = i9 by omega, hO2 (q + 2) (by omega) (by omega)]
  refine P_aload_n dX7_remember_0 rfl rfl ?_
  refine P_getiN (x := nI (D.length)) dX7_remember_1 kX7 fX7_193 rfl (by decide) hq.o hT.a ?_
  refine P_bipush (v := nI 14) dX7_remember_4 (by decide) ?_
  refine P_icmp_neN (tgt := 50) dX7_remember_6 (by decide) (by omega) (by omega) (fun c6 => ?_) (fun c6 => ?_)
  · exact hJ50 v (by rw [if_neg c6]; exact hT.a) (fun _ _ _ => rfl) (fun _ _ => rfl) (fun j Y hj => by rw [if_neg c6] at hj; exact hT.d hj)
  · refine P_iconst (v := nI 0) dX7_remember_9 (by decide) ?_
    refine P_istore_n (ls2 := [some (.ref (q)), some (.int (nI (0)))]) dX7_remember_10 rfl (by decide) rfl ?_
    have hL11 : ∀ (n11 : Nat) (i : Nat) (v1 : vV), (i ≤ 26156) → (i + n11 = 26157) → (vO9 v v1 (q + 4)) → (∀ j, v1 (q + 4) j = if j < i then v (q + 4) (j + 2012) else v (q + 4) j) → vP M_X7_remember 11 [some (.ref (q)), some (.int (nI (i)))] [] ((vRm M_X7_remember).cells, (vRm M_X7_remember).slots) (σ, v1) (vN (qS σ none (fun v9 => RT v9 q (((t, n), (c, S), (if D.length = 14 then D.drop 1 else D) ++ [(c, S)], sl) : gT) ∧ v9 q 0 = v q 0 ∧ vOw v v9 q 8))) := by
      intro n11
      induction n11 with
      | zero =>
        intro i v1 h1 h2 hO1 hs1
        exact absurd h2 (by omega)
      | succ n11 ih11 =>
        intro i v1 h1 h2 hO1 hs1
        refine P_iload_n dX7_remember_11 rfl rfl ?_
        refine P_sipush (v := nI 26156) dX7_remember_12 (by decide) ?_
        refine P_icmp_geN (tgt := 40) dX7_remember_15 (by decide) (by omega) (by omega) (fun c15 => ?_) (fun c15 => ?_)
        · refine P_aload_n dX7_remember_40 rfl rfl ?_
          refine P_dup dX7_remember_41 rfl ?_
          refine P_getiN (x := nI (D.length)) dX7_remember_42 kX7 fX7_193 rfl (by decide) hq.o (by rw [hO1 q (by omega)]; exact hT.a) ?_
          refine P_iconst (v := nI 1) dX7_remember_45 (by decide) ?_
          refine P_isubN dX7_remember_46 (by omega) ?_
          refine P_puti dX7_remember_47 kX7 fX7_193 rfl (by decide) rfl hq.o ?_
          generalize hv2 : vU v1 q 6 (nI (D.length - 1)) = v2
          have ei : i = 26156 := by omega
          refine P_weak (ls2 := [some (.ref (q)), none]) ⟨rfl, trivial⟩ ?_
          refine hJ50 v2 (by rw [← hv2, vU_s, if_pos c6, List.length_drop]) (fun m hm1 hm2 => by rw [← hv2, vU_ne hm1]; exact hO1 m hm2) (fun j hj => by rw [← hv2, vU_o (Or.inr hj), hO1 q (by omega)]) (fun j Y hj => ?_)
          rw [if_pos c6, List.getElem?_drop] at hj
          have hd9 := hT.d (j := 1 + j) hj
          have hj9 := (List.getElem?_eq_some_iff.mp hj).1
          refine hd9.sh (fun i9 hi9 => ?_)
          show v2 (q + 4) (2012 * j + i9) = v (q + 4) (2012 * (1 + j) + i9)
          rw [← hv2, vU_ne (by omega), hs1, if_pos (by omega), show 2012 * j + i9 + 2012 = 2012 * (1 + j) + i9 by omega]
        · refine P_aload_n dX7_remember_18 rfl rfl ?_
          refine P_getr (t := q + 4) dX7_remember_19 kX7 fX7_19 rfl (by decide) hq.o hq.r4 hq.k4.1.2 ?_
          refine P_iload_n dX7_remember_22 rfl rfl ?_
          refine P_aload_n dX7_remember_23 rfl rfl ?_
          refine P_getr (t := q + 4) dX7_remember_24 kX7 fX7_19 rfl (by decide) hq.o hq.r4 hq.k4.1.2 ?_
          refine P_iload_n dX7_remember_27 rfl rfl ?_
          refine P_sipush (v := nI 2012) dX7_remember_28 (by decide) ?_
          refine P_iaddN dX7_remember_31 ?_
          refine P_iald (i + 2012) dX7_remember_32 hq.k4 rfl (by omega) (by decide) ?_
          refine P_iast (i) dX7_remember_33 hq.k4 rfl (by omega) (by decide) ?_
          refine P_iinc (v := nI (i + 1)) (ls2 := [some (.ref (q)), some (.int (nI (i + 1)))]) dX7_remember_34 rfl (nI_inc _ 1) (by decide) rfl ?_
          refine P_goto (tgt := 11) dX7_remember_37 (by decide) ?_
          refine ih11 (i + 1) _ (by omega) (by omega) (hO1.u) (fun j => ?_)
          by_cases e9 : j = i
          · subst e9; rw [vU_s, if_pos (by omega), hs1, if_neg (by omega)]
          · rw [vU_o (Or.inr e9), hs1]
            by_cases e8 : j < i
            · rw [if_pos e8, if_pos (by omega)]
            · rw [if_neg e8, if_neg (by omega)]
    exact hL11 26157 0 v (by omega) (by omega) vO9.rf (fun j => by rw [if_neg (by omega)])
