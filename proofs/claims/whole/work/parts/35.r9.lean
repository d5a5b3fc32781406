
abbrev mDS (S : mS) : mS := mdrain (gN S).length (sG S 1 (gG S 1 + 1))
theorem wait_s {S : mS} {m : Nat} (h1 : ¬ (gM S m 8 ≤ 0)) (h2 : gG S 7 ≤ gG S 1 - gM S m 11) : mwaitF m S = mcall S m (gM S m 10) := if_pos ⟨by omega, h2⟩
theorem wait_n {S : mS} {m : Nat} (h : ¬ (0 < gM S m 8 ∧ gG S 7 ≤ gG S 1 - gM S m 11)) : mwaitF m S = S := if_neg h
theorem NB.waits {c B : Nat} {S : mS} (h : NB c S B) {k : Nat} (hk : k ≤ c) : NB c (mup mwaitF k (mDS S)) (B + 1135) := by
  refine NB.up (NB.ups (d := 14) k (fun j S' D hj _ h' => h'.wait (by omega)) h.drained) ?_
  have := h.c6
  omega
set_option maxHeartbeats 4000000 in
set_option maxRecDepth 100000 in
theorem c_X7_tick {σ : vS} {v : vV} {c r : Nat} {S : mS} {q B : Nat} (hq : LR σ q) (hr : vK σ r 8 2012) (hR : RR c v r S) (hrq : r ≠ q + 7) (hN : NB c S B) (hB : B + 1500 < 1000000000) (hI : Iv c 1 S) : vC M_X7_tick yX7_tick [.ref (q), .ref (r)] (σ, v) (qS σ none (fun v9 => RR c v9 r (mtick S) ∧ vO2 v v9 r (q + 7))) := by
  have hc6 := hR.c6
  have hO : vO2 v v r (q + 7) := vO2.rf
  refine vC_of (ls := [some (.ref (q)), some (.ref (r)), none]) pn_X7 rfl rfl (Nat.le_of_ble_eq_true rfl) rfl ?_
  refine P_aload_n dX7_tick_0 rfl rfl ?_
  refine P_iconst (v := nI 1) dX7_tick_1 (by decide) ?_
  refine P_dup2 dX7_tick_2 rfl rfl ?_
  refine P_ialdN (x := nI (gG S 1)) (1) dX7_tick_3 hr rfl (by omega) (by decide) (hR.g (by decide) (by decide)) ?_
  refine P_iconst (v := nI 1) dX7_tick_4 (by decide) ?_
  refine P_iaddN dX7_tick_5 ?_
  refine P_iast (1) dX7_tick_6 hr rfl (by omega) (by decide) ?_
  have hR1 : RR c (vU v r (1) (nI (gG S 1 + 1))) r (sG S 1 (gG S 1 + 1)) := (hR.G (x := gG S 1 + 1) (by decide) (by decide) (by decide))
  have hO2 : vO2 v (vU v r (1) (nI (gG S 1 + 1))) r (q + 7) := hO.u
  generalize vU v r (1) (nI (gG S 1 + 1)) = v3 at hR1 hO2 ⊢
  have hJ33 : ∀ (v1 : vV), (RR c v1 r (mDS S)) → (vO2 v v1 r (q + 7)) → vP M_X7_tick 33 [some (.ref (q)), some (.ref (r)), none] [] ((vRm M_X7_tick).cells, (vRm M_X7_tick).slots) (σ, v1) (vN (qS σ none (fun v9 => RR c v9 r (mtick S) ∧ vO2 v v9 r (q + 7)))) := by
    intro v1 hRd hOd
    refine P_iconst (v := nI 0) dX7_tick_33 (by decide) ?_
    refine P_istore_n (ls2 := [some (.ref (q)), some (.ref (r)), some (.int (nI (0)))]) dX7_tick_34 rfl (by decide) rfl ?_
    have hL35 : ∀ (n35 : Nat) (k : Nat) (v1 : vV), (k ≤ c) → (k + n35 = c + 1) → (k = 0 ∨ 0 < gG S 7) → (RR c v1 r (mup mwaitF k (mDS S))) → (vO2 v v1 r (q + 7)) → vP M_X7_tick 35 [some (.ref (q)), some (.ref (r)), some (.int (nI (k)))] [] ((vRm M_X7_tick).cells, (vRm M_X7_tick).slots) (σ, v1) (vN (qS σ none (fun v9 => RR c v9 r (mtick S) ∧ vO2 v v9 r (q + 7)))) := by
      intro n35
      induction n35 with
      | zero =>
        intro k v1 h1 h2 h7 hRk hOk
        exact absurd h2 (by omega)
      | succ n35 ih35 =>
        intro k v1 h1 h2 h7 hRk hOk
        have hNk : NB c (mup mwaitF k (mDS S)) (B + 1135) := hN.waits h1
        have hg7 : gG (mup mwaitF k (mDS S)) 7 = gG S 7 := (wait_g (by decide)).trans (drain_g (by decide) _ (sG S 1 (gG S 1 + 1)))
        have hIk : Iv c 1 (mup mwaitF k (mDS S)) := Iv.ups k (fun j S9 hj h9 => h9.wait (by omega)) (hI.drained hN)
        have hsi := hIk.1.2.2.1 k
        refine P_iload_n dX7_tick_35 rfl rfl ?_
        refine P_aload_n dX7_tick_36 rfl rfl ?_
        refine P_iconst (v := nI 0) dX7_tick_37 (by decide) ?_
        refine P_ialdN (x := nI (c)) (0) dX7_tick_38 hr rfl (by omega) (by decide) hRk.cc ?_
        refine P_icmp_geN (tgt := 96) dX7_tick_39 (by decide) (by omega) (by omega) (fun c39 => ?_) (fun c39 => ?_)
        · refine P_vret dX7_tick_96 rfl ?_
          refine q_s rfl ⟨?_, hOk⟩
          unfold mtick
          by_cases q7 : 0 < gG S 7
          · rw [if_pos q7, hN.c0]
            obtain rfl : k = c := by omega
            exact hRk
          · rw [if_neg q7]
            obtain rfl : k = 0 := by omega
            exact hRk
        · refine P_aload_n dX7_tick_42 rfl rfl ?_
          refine P_bipush (v := nI 7) dX7_tick_43 (by decide) ?_
          refine P_ialdN (x := nI (gG (mup mwaitF k (mDS S)) 7)) (7) dX7_tick_45 hr rfl (by omega) (by decide) (hRk.g (by decide) (by decide)) ?_
          refine P_if_leN (tgt := 96) dX7_tick_46 (by decide) (by have := hNk.g (i := 7) (by decide); omega) (fun c46 => ?_) (fun c46 => ?_)
          · refine P_vret dX7_tick_96 rfl ?_
            refine q_s rfl ⟨?_, hOk⟩
            unfold mtick
            by_cases q7 : 0 < gG S 7
            · rw [if_pos q7, hN.c0]
              obtain rfl : k = c := by omega
              exact hRk
            · rw [if_neg q7]
              obtain rfl : k = 0 := by omega
              exact hRk
          · refine P_aload_n dX7_tick_49 rfl rfl ?_
            refine P_iload_n dX7_tick_50 rfl rfl ?_
            refine P_bipush (v := nI 8) dX7_tick_51 (by decide) ?_
            refine P_cSp (rest := []) (As := [.ref (r), .int (nI (k)), .int (nI (8))]) dX7_tick_53 lX7_44 yk_X7_of ys_X7_of (by decide) rfl rfl (Nat.le_of_ble_eq_true rfl) rfl (c_X7_of hr (by omega) (by decide)) ?_
            refine P_top (y := (nI (gM (mup mwaitF k (mDS S)) k 8))) (hRk.m (by omega) (by decide)) ?_
            refine P_if_leN (tgt := 90) dX7_tick_56 (by decide) (by have := hNk.m8 k; omega) (fun c56 => ?_) (fun c56 => ?_)
            · refine P_iinc (v := nI (k + 1)) (ls2 := [some (.ref (q)), some (.ref (r)), some (.int (nI (k + 1)))]) dX7_tick_90 rfl (nI_inc _ 1) (by decide) rfl ?_
              refine P_goto (tgt := 35) dX7_tick_93 (by decide) ?_
              refine ih35 (k + 1) v1 (by omega) (by omega) (Or.inr (by rw [hg7] at c46; omega)) ?_ hOk
              show RR c v1 r (mwaitF k (mup mwaitF k (mDS S)))
              rw [wait_n (S := mup mwaitF k (mDS S)) (m := k) (fun q => absurd q.1 (by omega))]
              exact hRk
            · refine P_aload_n dX7_tick_59 rfl rfl ?_
              refine P_iconst (v := nI 1) dX7_tick_60 (by decide) ?_
              refine P_ialdN (x := nI (gG (mup mwaitF k (mDS S)) 1)) (1) dX7_tick_61 hr rfl (by omega) (by decide) (hRk.g (by decide) (by decide)) ?_
              refine P_aload_n dX7_tick_62 rfl rfl ?_
              refine P_iload_n dX7_tick_63 rfl rfl ?_
              refine P_bipush (v := nI 11) dX7_tick_64 (by decide) ?_
              refine P_cSp (rest := [.int (nI (gG (mup mwaitF k (mDS S)) 1))]) (As := [.ref (r), .int (nI (k)), .int (nI (11))]) dX7_tick_66 lX7_44 yk_X7_of ys_X7_of (by decide) rfl rfl (Nat.le_of_ble_eq_true rfl) rfl (c_X7_of hr (by omega) (by decide)) ?_
              refine P_top (y := (nI (gM (mup mwaitF k (mDS S)) k 11))) (hRk.m (by omega) (by decide)) ?_
              refine P_isubN dX7_tick_69 (by omega) ?_
              refine P_aload_n dX7_tick_70 rfl rfl ?_
              refine P_bipush (v := nI 7) dX7_tick_71 (by decide) ?_
              refine P_ialdN (x := nI (gG (mup mwaitF k (mDS S)) 7)) (7) dX7_tick_73 hr rfl (by omega) (by decide) (hRk.g (by decide) (by decide)) ?_
              refine P_icmp_ltN (tgt := 90) dX7_tick_74 (by decide) (by first | (have := hNk.g (i := 7) (by decide); omega) | (have := hNk.g (i := 1) (by decide); omega)) (by first | (have := hNk.g (i := 7) (by decide); omega) | (have := hNk.g (i := 1) (by decide); omega)) (fun c74 => ?_) (fun c74 => ?_)
              · refine P_iinc (v := nI (k + 1)) (ls2 := [some (.ref (q)), some (.ref (r)), some (.int (nI (k + 1)))]) dX7_tick_90 rfl (nI_inc _ 1) (by decide) rfl ?_
                refine P_goto (tgt := 35) dX7_tick_93 (by decide) ?_
                refine ih35 (k + 1) v1 (by omega) (by omega) (Or.inr (by rw [hg7] at c46; omega)) ?_ hOk
                show RR c v1 r (mwaitF k (mup mwaitF k (mDS S)))
                rw [wait_n (S := mup mwaitF k (mDS S)) (m := k) (fun q => absurd q.2 (by omega))]
                exact hRk
              · refine P_aload_n dX7_tick_77 rfl rfl ?_
                refine P_iload_n dX7_tick_78 rfl rfl ?_
                refine P_aload_n dX7_tick_79 rfl rfl ?_
                refine P_iload_n dX7_tick_80 rfl rfl ?_
                refine P_bipush (v := nI 10) dX7_tick_81 (by decide) ?_
                refine P_cSp (rest := [.int (nI (k)), .ref (r)]) (As := [.ref (r), .int (nI (k)), .int (nI (10))]) dX7_tick_83 lX7_44 yk_X7_of ys_X7_of (by decide) rfl rfl (Nat.le_of_ble_eq_true rfl) rfl (c_X7_of hr (by omega) (by decide)) ?_
                refine P_top (y := (nI (gM (mup mwaitF k (mDS S)) k 10))) (hRk.m (by omega) (by decide)) ?_
                refine P_cSs (rest := []) (As := [.ref (r), .int (nI (k)), .int (nI (gM (mup mwaitF k (mDS S)) k 10))]) dX7_tick_86 lX7_106 yk_X7_callOn ys_X7_callOn (by decide) rfl rfl (Nat.le_of_ble_eq_true rfl) rfl (c_X7_callOn hr hRk hNk (by omega) (by omega) (hNk.m10 k)) (fun v6 ⟨hR4, hO5⟩ => ?_)
                replace hO5 := hOk.tr9 hO5
                refine P_pop dX7_tick_89 rfl ?_
                refine P_iinc (v := nI (k + 1)) (ls2 := [some (.ref (q)), some (.ref (r)), some (.int (nI (k + 1)))]) dX7_tick_90 rfl (nI_inc _ 1) (by decide) rfl ?_
                refine P_goto (tgt := 35) dX7_tick_93 (by decide) ?_
                refine ih35 (k + 1) v6 (by omega) (by omega) (Or.inr (by rw [hg7] at c46; omega)) ?_ hO5
                show RR c v6 r (mwaitF k (mup mwaitF k (mDS S)))
                rw [wait_s (S := mup mwaitF k (mDS S)) (m := k) (by omega) (by omega)]
                exact hR4
    exact hL35 (c + 1) 0 v1 (by omega) (by omega) (Or.inl rfl) hRd hOd
  have hL7 : ∀ (n7 : Nat) (v1 : vV) (S1 : mS) (B1 : Nat), (mD S1 < n7) → (B1 + 7 * mD S1 ≤ B + 1051) → (Iv c 0 S1) → (NB c S1 B1) → (∀ k, mD S1 ≤ k → mdrain k S1 = mDS S) → (RR c v1 r S1) → (vO2 v v1 r (q + 7)) → vP M_X7_tick 7 [some (.ref (q)), some (.ref (r)), none] [] ((vRm M_X7_tick).cells, (vRm M_X7_tick).slots) (σ, v1) (vN (qS σ none (fun v9 => RR c v9 r (mtick S) ∧ vO2 v v9 r (q + 7)))) := by
    intro n7
    induction n7 with
    | zero =>
      intro v1 S1 B1 h1 hB1 hI1 hN1 hfin hR1 hO1
      exact absurd h1 (Nat.not_lt_zero _)
    | succ n7 ih7 =>
      intro v1 S1 B1 h1 hB1 hI1 hN1 hfin hR1 hO1
      refine P_aload_n dX7_tick_7 rfl rfl ?_
      refine P_iconst (v := nI 2) dX7_tick_8 (by decide) ?_
      refine P_ialdN (x := nI ((gN S1).length)) (2) dX7_tick_9 hr rfl (by omega) (by decide) hR1.n ?_
      refine P_if_leN (tgt := 33) dX7_tick_10 (by decide) (by have := hN1.b.2.2; omega) (fun c10 => ?_) (fun c10 => ?_)
      · have hst : ¬ mdue S1 := fun q => absurd q.1 (by omega)
        have hfi := hfin _ (Nat.le_refl _)
        rw [drain_stop hst] at hfi
        rw [hfi] at hR1
        exact hJ33 v1 hR1 hO1
      · refine P_aload_n dX7_tick_13 rfl rfl ?_
        refine P_iconst (v := nI 0) dX7_tick_14 (by decide) ?_
        refine P_iconst (v := nI 3) dX7_tick_15 (by decide) ?_
        refine P_cSp (rest := []) (As := [.ref (r), .int (nI (0)), .int (nI (3))]) dX7_tick_16 lX7_55 yk_X7_ofNote ys_X7_ofNote (by decide) rfl rfl (Nat.le_of_ble_eq_true rfl) rfl (c_X7_ofNote hr (by omega) (by decide)) ?_
        refine P_top (y := (nI (((gN S1).getD 0 n0) 3))) (hR1.xd (by omega) (by decide)) ?_
        refine P_aload_n dX7_tick_19 rfl rfl ?_
        refine P_iconst (v := nI 1) dX7_tick_20 (by decide) ?_
        refine P_ialdN (x := nI (gG S1 1)) (1) dX7_tick_21 hr rfl (by omega) (by decide) (hR1.g (by decide) (by decide)) ?_
        refine P_icmp_neN (tgt := 33) dX7_tick_22 (by decide) (by first | (have := hN1.g (i := 1) (by decide); omega) | (have := (hN1.n (head_mem (by omega))).2.2.2.1; omega)) (by first | (have := hN1.g (i := 1) (by decide); omega) | (have := (hN1.n (head_mem (by omega))).2.2.2.1; omega)) (fun c22 => ?_) (fun c22 => ?_)
        · have hst : ¬ mdue S1 := fun q => c22 q.2
          have hfi := hfin _ (Nat.le_refl _)
          rw [drain_stop hst] at hfi
          rw [hfi] at hR1
          exact hJ33 v1 hR1 hO1
        · have hdue : mdue S1 := ⟨by omega, c22⟩
          have hdc := comes_d hdue
          refine P_aload_n dX7_tick_25 rfl rfl ?_
          refine P_aload_n dX7_tick_26 rfl rfl ?_
          refine P_cVs (rest := []) (As := [.ref (r)]) dX7_tick_27 lX7_103 yk_X7_comes yv_X7_comes kX7 rfl (by decide) hq.o rfl rfl (Nat.le_of_ble_eq_true rfl) rfl (c_X7_comes hq hr hR1 hrq hN1 (by omega) (by omega)) (fun v2 ⟨hR2, hO2⟩ => ?_)
          refine P_goto (tgt := 7) dX7_tick_30 (by decide) ?_
          exact ih7 v2 (mcomes S1) (B1 + 7) (by omega) (by omega) (hI1.comes hN1 (by omega)) (hN1.comes (by omega)) (fun k hk => by rw [← drain_step hdue k]; exact hfin _ (by omega)) hR2 (hO1.tr hO2)
  have hm0 : mD (sG S 1 (gG S 1 + 1)) ≤ (gN S).length := mD_le
  have hl9 := hN.b.2.2
  exact hL7 151 v3 (sG S 1 (gG S 1 + 1)) (B + 1) (by omega) (by omega) hI.time hN.time (fun k hk => drain_any _ _ _ hk hm0) hR1 hO2
