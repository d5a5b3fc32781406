
theorem KC.turn {B : Nat} {X : mC} (h : KC B X) (hB : 100 ≤ B) (r : Nat) : KC (B + 70000) (mturn r X) := by
  unfold mturn
  split
  · exact h.add (by omega) (by omega)
  split
  · exact h.say
  split
  · exact h.call
  split
  · exact h.cut
  split
  · split
    · exact h.leave
    · exact h.back
  split
  · exact h.set (by omega)
  · exact h.ticks (by omega)
theorem KC.cm {B : Nat} {X : mC} (h : KC B X) (hf a d r : Nat) : KC (B + 70000) (kcm hf a d r X).2 := by
  have h9 : KC (B + 70000) X := h.up (by omega)
  unfold kcm
  split
  · split
    · exact h.say
    · exact h9
  split
  · split
    · exact h.call
    · exact h9
  split
  · split
    · exact h.cut
    · split
      · exact h.cut
      · exact h9
  split
  · split
    · split
      · exact h.leave
      · split
        · exact h.back
        · exact h9
    · exact h9
  split
  · split
    · unfold kTk
      split
      · rename_i q; exact h.ticks q.2
      · exact h9
    · exact h9
  split
  · exact h9
  split
  · exact h9
  split
  · exact h9
  split
  · exact h9
  · exact h9
theorem KC.cmd {B : Nat} {X : mC} (h : KC B X) (g : Nat) : KC (B + 70000) (kcmd g X).2 := h.cm _ _ _ _
theorem KC.msim {B : Nat} {X : mC} (h : KC B X) (hB : 100 ≤ B) (x : Int64) : ∀ i, KC (B + 70000 * i) (msim X x i) := by
  intro i
  induction i with
  | zero => exact h
  | succ i ih => exact (ih.turn (by omega) _).up (by omega)
theorem mscr_f {n s f k : Nat} {X : mC} (h : (kcmd (s / 100000 ^ (n - 1 - k) % 100000) X).1 = false) : mscr n s (f + 1) k X = some k := by rw [mscr, if_neg (by rw [h]; exact Bool.noConfusion)]
theorem mscr_t {n s f k : Nat} {X : mC} (h : (kcmd (s / 100000 ^ (n - 1 - k) % 100000) X).1 = true) : mscr n s (f + 1) k X = mscr n s f (k + 1) (kcmd (s / 100000 ^ (n - 1 - k) % 100000) X).2 := by rw [mscr, if_pos h]
theorem kset_nat {c : Nat} {s : Int32} {m : Int32} (hc : c ≤ 6) (h : mset c m.toInt.toNat s = true) : ∃ k, k < 64 ∧ k < 2 ^ c ∧ s = nI k ∧ k.testBit m.toInt.toNat = true := by
  have q9 := of_decide_eq_true (Bool.and_eq_true_iff.mp h).1
  have e9 : ((2 : Int) ^ c) = ((2 ^ c : Nat) : Int) := by norm_cast
  rw [e9] at q9
  have := two_c hc
  have e : s = nI s.toInt.toNat := nI_of_toInt (by omega) (by omega)
  exact ⟨s.toInt.toNat, by omega, by omega, e, (Bool.and_eq_true_iff.mp h).2⟩
theorem mfind_y {c m num set w f k : Nat} {S0 : mS} (h : mcnd c (mticks k S0) m num set w = true) : mfind c S0 m num set w (f + 1) k = some k := by rw [mfind, if_pos h]
theorem mfind_n {c m num set w f k : Nat} {S0 : mS} (h : mcnd c (mticks k S0) m num set w = false) : mfind c S0 m num set w (f + 1) k = mfind c S0 m num set w f (k + 1) := by rw [mfind, if_neg (by rw [h]; exact Bool.noConfusion)]
theorem grp_a {s : Nat} : ((s * 100000) % 10000000000 * 100000) / 10000000000 = s % 100000 := by
  rw [show s * 100000 % 10000000000 = (s % 100000) * 100000 from Nat.mul_mod_mul_right 100000 s 100000, Nat.mul_assoc]
  exact Nat.mul_div_cancel _ (by decide)
theorem mcnd_0 {c m num set : Nat} {U : mS} : mcnd c U m num set 0 = decide (gM U m 2 = num ∧ gM U m 3 = m) := rfl
theorem mcnd_1 {c m num set w : Nat} {U : mS} (h : ¬ w = 0) : mcnd c U m num set w = mthere U m num set c := if_neg h
theorem nL_in {x : Int64} (h0 : ¬ x < 0) : ∃ k : Nat, k < 9223372036854775808 ∧ x = nL k := by
  rw [l_lt, l_0] at h0
  have := Int64.toInt_lt x
  exact ⟨x.toInt.toNat, by omega, nL_of (by omega) (by omega)⟩
theorem scr_out {x : Int64} {n : Nat} (h : x < 0 ∨ ∃ L : Nat, ((100000 ^ n : Nat) : Int) = L ∧ (L : Int) ≤ x.toInt) : decide (0 ≤ x.toInt ∧ x.toInt < ((100000 ^ n : Nat) : Int)) = false := by
  apply decide_eq_false
  rcases h with h | ⟨L, e, h⟩
  · rw [l_lt, l_0] at h; omega
  · rw [e]; omega
theorem scr_in {k L n : Nat} (h : k < L) (e : 100000 ^ n = L) (hL : L ≤ 1000000000000000) : decide (0 ≤ (nL k).toInt ∧ (nL k).toInt < ((100000 ^ n : Nat) : Int)) = true := by
  rw [nL_toInt (by omega), e]
  exact decide_eq_true (by omega)
set_option maxHeartbeats 4000000 in
set_option maxRecDepth 100000 in
theorem c_X6_standsIn {σ : vS} {v : vV} {c b n : Nat} {S : mS} {t : mN} {D : List mC} {sl : Nat → Option mC} {m s w : Int32} (hT : kLT σ b) (hK : KT v b ((t, n), (c, S), D, sl)) {B : Nat} (hG : GI B ((t, n), (c, S), D, sl)) (hB : B + 6000000 < 1000000000) (hf : σ.2.2.2 = false) : vCX M_X6_standsIn yX6_standsIn [.ref (b), .int (m), .int (s), .int (w)] (σ, v) (qG σ v (fun v9 T => KT v9 b T) (fun v9 => vOw v v9 b 1603) (gNm [xIO, xIA]) (g_standsIn ((t, n), (c, S), D, sl) m s w)) := by
  have hC : CR c v (b + 3) S := hK.c
  have hN : NB c S B := hG.1.1
  have hI : Iv c 1 S := hG.1.2
  have hc6 := hC.c6
  have ht : mTC v (b + 1) t n := hK.t
  refine vCX_of (ls := [some (.ref (b)), some (.int (m)), some (.int (s)), some (.int (w)), none, none]) pn_X6 rfl rfl (Nat.le_of_ble_eq_true rfl) rfl ?_
  refine P_aload_n dX6_standsIn_0 rfl rfl ?_
  refine P_iload_n dX6_standsIn_1 rfl rfl ?_
  refine P_callVX (rest := []) (As := [.int (m)]) dX6_standsIn_2 lX6_125 yk_X6_checkMember yv_X6_checkMember kX6 rfl (by decide) hT.o rfl rfl (Nat.le_of_ble_eq_true rfl) (by decide) (c_X6_checkMember hT hC) (fun o9 μ9 h9 hf9 => by obtain ⟨-, rfl, -⟩ := h9; exact absurd (hf.symm.trans hf9) Bool.false_ne_true) (fun Ex μ9 h9 => ?_) ?_
  · obtain ⟨rfl, rfl, hm1⟩ := h9
    exact g_thr (k := 0) (if_pos hm1) rfl
  rintro o9 μ9 ⟨rfl, rfl, hm1⟩
  obtain ⟨mk, hk2, rfl⟩ := mb_nat hC.c6 hm1
  refine P_iload_n dX6_standsIn_5 rfl rfl ?_
  refine P_if_lt (tgt := 26) dX6_standsIn_6 (by decide) (fun c6 => ?_) (fun c6 => ?_)
  · refine P_throwW (text := "what is not 0 or 1, or the set is not one to call") vExA rfl (by decide +kernel) dX6_standsIn_26 dX6_standsIn_29 dX6_standsIn_30 dX6_standsIn_33 dX6_standsIn_36 ⟨Nat.le_of_ble_eq_true rfl, Nat.le_of_ble_eq_true rfl⟩ (by decide) ?_
    exact g_thr (k := 1) ((if_neg (gt_f hm1)).trans (if_pos (by rw [gin_lo (lo := 0) (hi := 1) (by decide) c6]; rfl))) rfl
  · refine P_iload_n dX6_standsIn_9 rfl rfl ?_
    refine P_iconst (v := nI 1) dX6_standsIn_10 (by decide) ?_
    refine P_icmp_gt (tgt := 26) dX6_standsIn_11 (by decide) (fun c11 => ?_) (fun c11 => ?_)
    · refine P_throwW (text := "what is not 0 or 1, or the set is not one to call") vExA rfl (by decide +kernel) dX6_standsIn_26 dX6_standsIn_29 dX6_standsIn_30 dX6_standsIn_33 dX6_standsIn_36 ⟨Nat.le_of_ble_eq_true rfl, Nat.le_of_ble_eq_true rfl⟩ (by decide) ?_
      exact g_thr (k := 1) ((if_neg (gt_f hm1)).trans (if_pos (by rw [gin_hi (lo := 0) (hi := 1) (by decide) c11]; rfl))) rfl
    · refine P_aload_n dX6_standsIn_14 rfl rfl ?_
      refine P_getr (t := b + 3) dX6_standsIn_15 kX6 fX6_19 rfl (by decide) hT.o hT.r1 hT.k1.o.1.2 ?_
      refine P_iload_n dX6_standsIn_18 rfl rfl ?_
      refine P_iload_n dX6_standsIn_19 rfl rfl ?_
      refine P_cVp (rest := []) (As := [.int (nI (mk)), .int (s)]) dX6_standsIn_20 lX6_224 yk_X0_isRollWith yv_X0_isRollWith kX0 rfl (by decide) hT.k1.o rfl rfl (Nat.le_of_ble_eq_true rfl) rfl (c_X0_isRollWith hT.k1 hC (by omega)) ?_
      refine P_bif_ne (tgt := 37) dX6_standsIn_23 (by decide) (fun c23 => ?_) (fun c23 => ?_)
      · have hgi9 : gin w 0 1 = true := gin_ok c6 c11 (by decide) (by decide)
        have hgs9 : (gin w 0 1 && mset c (nI mk).toInt.toNat s) = true := by rw [hgi9, nn (by omega), c23]; rfl
        obtain ⟨sk, sk1, sk2, rfl, hst⟩ := kset_nat (m := nI mk) hc6 (by rw [nn (by omega)]; exact c23)
        rw [nn (by omega)] at hst
        obtain ⟨wk, wk0, wk1, rfl⟩ := gin_n (lo := 0) (hi := 1) (by decide) hgi9
        obtain ⟨F, hMP, -⟩ := hI.2
        refine P_aload_n dX6_standsIn_37 rfl rfl ?_
        refine P_getr (t := b + 3) dX6_standsIn_38 kX6 fX6_19 rfl (by decide) hT.o hT.r1 hT.k1.o.1.2 ?_
        refine P_iload_n dX6_standsIn_41 rfl rfl ?_
        refine P_cVp (rest := []) (As := [.int (nI (mk))]) dX6_standsIn_42 lX6_229 yk_X0_isGone yv_X0_isGone kX0 rfl (by decide) hT.k1.o rfl rfl (Nat.le_of_ble_eq_true rfl) rfl (c_X0_isGone hT.k1 hC hN (by omega) (by omega)) ?_
        refine P_bif_eq (tgt := 50) dX6_standsIn_45 (by decide) (fun c45 => ?_) (fun c45 => ?_)
        · refine P_aload_n dX6_standsIn_50 rfl rfl ?_
          refine P_getr (t := b + 171) dX6_standsIn_51 kX6 fX6_26 rfl (by decide) hT.o hT.r3 hT.k3.o.1.2 ?_
          refine P_aload_n dX6_standsIn_54 rfl rfl ?_
          refine P_getr (t := b + 3) dX6_standsIn_55 kX6 fX6_19 rfl (by decide) hT.o hT.r1 hT.k1.o.1.2 ?_
          refine P_cVs (rest := []) (As := [.ref (b + 3)]) dX6_standsIn_58 lX6_70 yk_X0_copyFrom yv_X0_copyFrom kX0 rfl (by decide) hT.k3.o rfl rfl (Nat.le_of_ble_eq_true rfl) rfl (c_X0_copyFrom hT.k3 hT.k1 (by omega) hC hK.tr) (fun v1 ⟨hC1, hw1⟩ => ?_)
          refine P_aload_n dX6_standsIn_61 rfl rfl ?_
          refine P_getr (t := b + 171) dX6_standsIn_62 kX6 fX6_26 rfl (by decide) hT.o hT.r3 hT.k3.o.1.2 ?_
          refine P_iload_n dX6_standsIn_65 rfl rfl ?_
          refine P_iload_n dX6_standsIn_66 rfl rfl ?_
          refine P_cVs (rest := []) (As := [.int (nI (mk)), .int (nI (sk))]) dX6_standsIn_67 lX6_234 yk_X0_callRoll yv_X0_callRoll kX0 rfl (by decide) hT.k3.o rfl rfl (Nat.le_of_ble_eq_true rfl) rfl (c_X0_callRoll hT.k3 hC1 hN (by omega) (by omega) (by omega) hst (hMP mk (by omega)).1.1) (fun v2 ⟨hC2, hw2⟩ => ?_)
          replace hw2 := hw1.tr hw2
          have hne := of_decide_eq_false c45
          have hX2 := (show KC B (c, S) from hG.1).call (a := mk) (s := sk)
          rw [show (kCall (c, S) mk sk).2 = (c, mcall S mk sk) from by unfold kCall; rw [if_pos ⟨by omega, ⟨sk2, hst⟩, hne⟩]] at hX2
          have hnum : gM S mk 6 + 1 < 2147483648 := by have := hN.m6 mk; omega
          obtain ⟨num, enum⟩ : ∃ q9, q9 = gM S mk 6 + 1 := ⟨_, rfl⟩
          rw [← enum] at hnum ⊢
          refine P_istore (ls2 := [some (.ref (b)), some (.int (nI (mk))), some (.int (nI (sk))), some (.int (nI (wk))), some (.int (nI (num))), none]) dX6_standsIn_70 (by decide) rfl ?_
          refine P_iconst (v := nI 0) dX6_standsIn_72 (by decide) ?_
          refine P_istore (ls2 := [some (.ref (b)), some (.int (nI (mk))), some (.int (nI (sk))), some (.int (nI (wk))), some (.int (nI (num))), some (.int (nI (0)))]) dX6_standsIn_73 (by decide) rfl ?_
          have hL75 : ∀ (n75 : Nat) (k : Nat) (v3 : vV), (k ≤ 101) → (k + n75 = 102) → (mfind c (mcall S mk sk) mk num sk wk (101 - k) k = mfind c (mcall S mk sk) mk num sk wk 101 0) → (CR c v3 (b + 171) (mticks k (mcall S mk sk))) → (vOw v v3 (b + 171) 84) → vP M_X6_standsIn 75 [some (.ref (b)), some (.int (nI (mk))), some (.int (nI (sk))), some (.int (nI (wk))), some (.int (nI (num))), some (.int (nI (k)))] [] (((vRm M_X6_standsIn).cells, (vRm M_X6_standsIn).slots).1 - (vRm M_X6_checkMember).cells, ((vRm M_X6_standsIn).cells, (vRm M_X6_standsIn).slots).2 - (vRm M_X6_checkMember).slots) (σ, v3) (qG σ v (fun v9 T => KT v9 b T) (fun v9 => vOw v v9 b 1603) (gNm [xIO, xIA]) (g_standsIn ((t, n), (c, S), D, sl) (nI mk) (nI sk) (nI wk))) := by
            intro n75
            induction n75 with
            | zero =>
              intro k v3 h1 h2 he hC3 hw3
              exact absurd h2 (by omega)
            | succ n75 ih75 =>
              intro k v3 h1 h2 he hC3 hw3
              have hX3 : KC (B + 70000 + 1135 * k) (c, mticks k (mcall S mk sk)) := ⟨hX2.1.ticks k, hX2.2.ticks hX2.1 k⟩
              refine P_iload dX6_standsIn_75 rfl ?_
              refine P_bipush (v := nI 100) dX6_standsIn_77 (by decide) ?_
              refine P_icmp_gtN (tgt := 138) dX6_standsIn_79 (by decide) (by omega) (by omega) (fun c79 => ?_) (fun c79 => ?_)
              · refine P_iconst (v := -1) dX6_standsIn_138 (by decide) ?_
                refine P_iret dX6_standsIn_139 rfl ?_
                exact g_ret ((if_neg (gt_f hm1)).trans ((if_neg (gt_f hgs9)).trans ((if_neg (by rw [nn (by omega)]; exact hne)).trans (by rw [nn (by omega), nn (by omega), nn (by omega), ← enum, ← he, show 101 - k = 0 by omega]; rfl)))) (hK.trial hw3 hC3.cs) (hw3.mono (by omega) (by omega))
              · refine P_iload_n dX6_standsIn_82 rfl rfl ?_
                refine P_if_neN (tgt := 107) dX6_standsIn_83 (by decide) (by omega) (fun c83 => ?_) (fun c83 => ?_)
                · refine P_aload_n dX6_standsIn_107 rfl rfl ?_
                  refine P_getr (t := b + 171) dX6_standsIn_108 kX6 fX6_26 rfl (by decide) hT.o hT.r3 hT.k3.o.1.2 ?_
                  refine P_iload_n dX6_standsIn_111 rfl rfl ?_
                  refine P_iload dX6_standsIn_112 rfl ?_
                  refine P_iload_n dX6_standsIn_114 rfl rfl ?_
                  refine P_cVp (rest := []) (As := [.int (nI (sk)), .int (nI (num)), .int (nI (mk))]) dX6_standsIn_115 lX6_279 yk_X0_allSitIn yv_X0_allSitIn kX0 rfl (by decide) hT.k3.o rfl rfl (Nat.le_of_ble_eq_true rfl) rfl (c_X0_allSitIn hT.k3 hC3 hX3.1 (by omega) (by omega) (by omega) (by omega)) ?_
                  refine P_bif_eq (tgt := 124) dX6_standsIn_118 (by decide) (fun c118 => ?_) (fun c118 => ?_)
                  · refine P_aload_n dX6_standsIn_124 rfl rfl ?_
                    refine P_getr (t := b + 171) dX6_standsIn_125 kX6 fX6_26 rfl (by decide) hT.o hT.r3 hT.k3.o.1.2 ?_
                    refine P_iconst (v := nI 1) dX6_standsIn_128 (by decide) ?_
                    refine P_cVs (rest := []) (As := [.int (nI (1))]) dX6_standsIn_129 lX6_265 yk_X0_letTicksGo yv_X0_letTicksGo kX0 rfl (by decide) hT.k3.o rfl rfl (Nat.le_of_ble_eq_true rfl) rfl (c_X0_letTicksGo hT.k3 hC3 hX3.1 (by omega) hX3.2 (by omega)) (fun v4 ⟨hC4, hw4⟩ => ?_)
                    refine P_iinc (v := nI (k + 1)) (ls2 := [some (.ref (b)), some (.int (nI (mk))), some (.int (nI (sk))), some (.int (nI (wk))), some (.int (nI (num))), some (.int (nI (k + 1)))]) dX6_standsIn_132 rfl (nI_inc _ 1) (by decide) rfl ?_
                    refine P_goto (tgt := 75) dX6_standsIn_135 (by decide) ?_
                    refine ih75 (k + 1) _ (by omega) (by omega) ?_ hC4 (hw3.tr hw4)
                    rw [← he, show 101 - k = (101 - (k + 1)) + 1 by omega, mfind_n (by rw [mcnd_1 c83]; exact c118)]
                  · refine P_iload dX6_standsIn_121 rfl ?_
                    refine P_iret dX6_standsIn_123 rfl ?_
                    have e9 : mfind c (mcall S mk sk) mk num sk wk (101 - k) k = some k := by
                      rw [show 101 - k = (101 - (k + 1)) + 1 by omega]
                      exact mfind_y (by rw [mcnd_1 c83]; exact c118)
                    exact g_ret ((if_neg (gt_f hm1)).trans ((if_neg (gt_f hgs9)).trans ((if_neg (by rw [nn (by omega)]; exact hne)).trans (by rw [nn (by omega), nn (by omega), nn (by omega), ← enum, ← he, e9]; rfl)))) (hK.trial hw3 hC3.cs) (hw3.mono (by omega) (by omega))
                · refine P_aload_n dX6_standsIn_86 rfl rfl ?_
                  refine P_getr (t := b + 171) dX6_standsIn_87 kX6 fX6_26 rfl (by decide) hT.o hT.r3 hT.k3.o.1.2 ?_
                  refine P_getr (t := b + 171 + 1) dX6_standsIn_90 kX0 fX6_128 rfl (by decide) hT.k3.o hT.k3.r0 hT.k3.k1.1.2 ?_
                  refine P_iload_n dX6_standsIn_93 rfl rfl ?_
                  refine P_aaldM (t := b + 171 + 6 + 13 * mk) (mk) dX6_standsIn_94 hT.k3.k1 rfl (by omega) (by decide) (hT.k3.e (by omega)) (hT.k3.m (by omega)).o.1.2 ?_
                  refine P_iload dX6_standsIn_95 rfl ?_
                  refine P_iload_n dX6_standsIn_97 rfl rfl ?_
                  refine P_cVp (rest := []) (As := [.int (nI (num)), .int (nI (mk))]) dX6_standsIn_98 lX6_276 yk_X2_isIn yv_X2_isIn kX2 rfl (by decide) (hT.k3.m (by omega)).o rfl rfl (Nat.le_of_ble_eq_true rfl) rfl (c_X2_isIn hT.k3 hC3 hX3.1 (by omega) (by omega) (by omega) (by omega)) ?_
                  refine P_bif_eq (tgt := 124) dX6_standsIn_101 (by decide) (fun c101 => ?_) (fun c101 => ?_)
                  · refine P_aload_n dX6_standsIn_124 rfl rfl ?_
                    refine P_getr (t := b + 171) dX6_standsIn_125 kX6 fX6_26 rfl (by decide) hT.o hT.r3 hT.k3.o.1.2 ?_
                    refine P_iconst (v := nI 1) dX6_standsIn_128 (by decide) ?_
                    refine P_cVs (rest := []) (As := [.int (nI (1))]) dX6_standsIn_129 lX6_265 yk_X0_letTicksGo yv_X0_letTicksGo kX0 rfl (by decide) hT.k3.o rfl rfl (Nat.le_of_ble_eq_true rfl) rfl (c_X0_letTicksGo hT.k3 hC3 hX3.1 (by omega) hX3.2 (by omega)) (fun v4 ⟨hC4, hw4⟩ => ?_)
                    refine P_iinc (v := nI (k + 1)) (ls2 := [some (.ref (b)), some (.int (nI (mk))), some (.int (nI (sk))), some (.int (nI (wk))), some (.int (nI (num))), some (.int (nI (k + 1)))]) dX6_standsIn_132 rfl (nI_inc _ 1) (by decide) rfl ?_
                    refine P_goto (tgt := 75) dX6_standsIn_135 (by decide) ?_
                    refine ih75 (k + 1) _ (by omega) (by omega) ?_ hC4 (hw3.tr hw4)
                    rw [← he, show 101 - k = (101 - (k + 1)) + 1 by omega, mfind_n (by rw [show wk = 0 from c83, mcnd_0]; exact c101)]
                  · refine P_goto (tgt := 121) dX6_standsIn_104 (by decide) ?_
                    refine P_iload dX6_standsIn_121 rfl ?_
                    refine P_iret dX6_standsIn_123 rfl ?_
                    have e9 : mfind c (mcall S mk sk) mk num sk wk (101 - k) k = some k := by
                      rw [show 101 - k = (101 - (k + 1)) + 1 by omega]
                      exact mfind_y (by rw [show wk = 0 from c83, mcnd_0]; exact c101)
                    exact g_ret ((if_neg (gt_f hm1)).trans ((if_neg (gt_f hgs9)).trans ((if_neg (by rw [nn (by omega)]; exact hne)).trans (by rw [nn (by omega), nn (by omega), nn (by omega), ← enum, ← he, e9]; rfl)))) (hK.trial hw3 hC3.cs) (hw3.mono (by omega) (by omega))
          exact hL75 102 0 v2 (by omega) (by omega) rfl hC2 hw2
        · refine P_iconst (v := -1) dX6_standsIn_48 (by decide) ?_
          refine P_iret dX6_standsIn_49 rfl ?_
          exact g_ret ((if_neg (gt_f hm1)).trans ((if_neg (gt_f hgs9)).trans (if_pos (by rw [nn (by omega)]; exact of_decide_eq_true c45)))) hK vOw.rf
      · refine P_throwW (text := "what is not 0 or 1, or the set is not one to call") vExA rfl (by decide +kernel) dX6_standsIn_26 dX6_standsIn_29 dX6_standsIn_30 dX6_standsIn_33 dX6_standsIn_36 ⟨Nat.le_of_ble_eq_true rfl, Nat.le_of_ble_eq_true rfl⟩ (by decide) ?_
        exact g_thr (k := 1) ((if_neg (gt_f hm1)).trans (if_pos (by rw [nn (by omega), c23, Bool.and_false]))) rfl
set_option maxHeartbeats 4000000 in
set_option maxRecDepth 100000 in
theorem c_X6_runScript {σ : vS} {v : vV} {c b n : Nat} {S : mS} {t : mN} {D : List mC} {sl : Nat → Option mC} {n9 : Int32} {s : Int64} (hT : kLT σ b) (hK : KT v b ((t, n), (c, S), D, sl)) {B : Nat} (hG : GI B ((t, n), (c, S), D, sl)) (hB : B + 6000000 < 1000000000) (hf : σ.2.2.2 = false) : vCX M_X6_runScript yX6_runScript [.ref (b), .int (n9), .long (s)] (σ, v) (qG σ v (fun v9 T => KT v9 b T) (fun v9 => vOw v v9 b 1603) (gNm [xIA]) (g_runScript ((t, n), (c, S), D, sl) n9 s)) := by
  have hC : CR c v (b + 3) S := hK.c
  have hN : NB c S B := hG.1.1
  have hI : Iv c 1 S := hG.1.2
  have hc6 := hC.c6
  have ht : mTC v (b + 1) t n := hK.t
  refine vCX_of (ls := [some (.ref (b)), some (.int (n9)), some (.long (s)), none, none, none, none, none, none]) pn_X6 rfl rfl (Nat.le_of_ble_eq_true rfl) rfl ?_
  refine P_iload_n dX6_runScript_0 rfl rfl ?_
  refine P_iconst (v := nI 1) dX6_runScript_1 (by decide) ?_
  refine P_icmp_lt (tgt := 10) dX6_runScript_2 (by decide) (fun c2 => ?_) (fun c2 => ?_)
  · refine P_throwW (text := "a script has 1 to 3 commands") vExA rfl (by decide +kernel) dX6_runScript_10 dX6_runScript_13 dX6_runScript_14 dX6_runScript_17 dX6_runScript_20 ⟨Nat.le_of_ble_eq_true rfl, Nat.le_of_ble_eq_true rfl⟩ (by decide) ?_
    exact g_thr (k := 0) (if_pos (by rw [gin_lo (lo := 1) (hi := 3) (by decide) c2]; rfl)) rfl
  · refine P_iload_n dX6_runScript_5 rfl rfl ?_
    refine P_iconst (v := nI 3) dX6_runScript_6 (by decide) ?_
    refine P_icmp_le (tgt := 21) dX6_runScript_7 (by decide) (fun c7 => ?_) (fun c7 => ?_)
    · have hgi9 : gin n9 1 3 = true := gin_ok c2 (fun q => absurd c7 (Int32.not_le.mpr q)) (by decide) (by decide)
      obtain ⟨nk, nk0, nk1, rfl⟩ := gin_n (lo := 1) (hi := 3) (by decide) hgi9
      rcases (by omega : nk = 1 ∨ nk = 2 ∨ nk = 3) with rfl | rfl | rfl
      · refine P_lconst (v := 1) dX6_runScript_21 (by decide) ?_
        refine P_topL (y := nL 1) (by decide) ?_
        refine P_lstore (ls2 := [some (.ref (b)), some (.int (nI (1))), some (.long (s)), none, some (.long (nL (1))), none, none, none, none]) dX6_runScript_22 (by decide) rfl ?_
        refine P_iconst (v := nI 0) dX6_runScript_24 (by decide) ?_
        refine P_istore (ls2 := [some (.ref (b)), some (.int (nI (1))), some (.long (s)), none, some (.long (nL (1))), none, some (.int (nI (0))), none, none]) dX6_runScript_25 (by decide) rfl ?_
        refine P_iload dX6_runScript_27 rfl ?_
        refine P_iload_n dX6_runScript_29 rfl rfl ?_
        refine P_icmp_geN (tgt := 47) dX6_runScript_30 (by decide) (by decide) (by decide) (fun c30 => absurd c30 (by decide)) (fun c30 => ?_)
        refine P_lload dX6_runScript_33 rfl ?_
        refine P_ldc2_w dX6_runScript_35 cX6_301 ?_
        refine P_topL (y := nL 100000) (by decide) ?_
        refine P_lmulN dX6_runScript_38 ?_
        refine P_lstore (ls2 := [some (.ref (b)), some (.int (nI (1))), some (.long (s)), none, some (.long (nL (1 * 100000))), none, some (.int (nI (0))), none, none]) dX6_runScript_39 (by decide) rfl ?_
        refine P_iinc (v := nI (1)) (ls2 := [some (.ref (b)), some (.int (nI (1))), some (.long (s)), none, some (.long (nL (1 * 100000))), none, some (.int (nI (1))), none, none]) dX6_runScript_41 rfl (nI_inc _ 1) (by decide) rfl ?_
        refine P_goto (tgt := 27) dX6_runScript_44 (by decide) ?_
        refine P_iload dX6_runScript_27 rfl ?_
        refine P_iload_n dX6_runScript_29 rfl rfl ?_
        refine P_icmp_geN (tgt := 47) dX6_runScript_30 (by decide) (by decide) (by decide) (fun c30 => ?_) (fun c30 => absurd c30 (by decide))
        refine P_lload_n dX6_runScript_47 rfl rfl ?_
        refine P_lconst (v := 0) dX6_runScript_48 (by decide) ?_
        refine P_lcmp dX6_runScript_49 ?_
        refine P_if_lt (tgt := 60) dX6_runScript_50 (by decide) (fun c50 => ?_) (fun c50 => ?_)
        · refine P_throwW (text := "the script is negative or has too many digits") vExA rfl (by decide +kernel) dX6_runScript_60 dX6_runScript_63 dX6_runScript_64 dX6_runScript_67 dX6_runScript_70 ⟨Nat.le_of_ble_eq_true rfl, Nat.le_of_ble_eq_true rfl⟩ (by decide) ?_
          exact g_thr (k := 0) (if_pos (by rw [show decide (0 ≤ s.toInt ∧ s.toInt < ((100000 ^ (nI 1).toInt.toNat : Nat) : Int)) = false from scr_out (Or.inl ((lg_lt _ _).mp c50)), Bool.and_false])) rfl
        · refine P_lload_n dX6_runScript_53 rfl rfl ?_
          refine P_lload dX6_runScript_54 rfl ?_
          refine P_lcmp dX6_runScript_56 ?_
          refine P_if_lt (tgt := 71) dX6_runScript_57 (by decide) (fun c57 => ?_) (fun c57 => ?_)
          · obtain ⟨sk, hsk0, rfl⟩ := nL_in (fun q => c50 ((lg_lt _ _).mpr q))
            have hsk : sk < 100000 := by rw [lg_lt, l_lt, nL_toInt (n := sk) (by omega), nL_toInt (n := 1 * 100000) (by decide)] at c57; omega
            have hgs9 : (gin (nI 1) 1 3 && decide (0 ≤ (nL sk).toInt ∧ (nL sk).toInt < ((100000 ^ (nI 1).toInt.toNat : Nat) : Int))) = true := by rw [hgi9, show decide (0 ≤ (nL sk).toInt ∧ (nL sk).toInt < ((100000 ^ (nI 1).toInt.toNat : Nat) : Int)) = true from scr_in (n := 1) (L := 100000) hsk rfl (by decide)]; rfl
            refine P_aload_n dX6_runScript_71 rfl rfl ?_
            refine P_getr (t := b + 171) dX6_runScript_72 kX6 fX6_26 rfl (by decide) hT.o hT.r3 hT.k3.o.1.2 ?_
            refine P_aload_n dX6_runScript_75 rfl rfl ?_
            refine P_getr (t := b + 3) dX6_runScript_76 kX6 fX6_19 rfl (by decide) hT.o hT.r1 hT.k1.o.1.2 ?_
            refine P_cVs (rest := []) (As := [.ref (b + 3)]) dX6_runScript_79 lX6_70 yk_X0_copyFrom yv_X0_copyFrom kX0 rfl (by decide) hT.k3.o rfl rfl (Nat.le_of_ble_eq_true rfl) rfl (c_X0_copyFrom hT.k3 hT.k1 (by omega) hC hK.tr) (fun v1 ⟨hC1, hw1⟩ => ?_)
            have hX0 : KC B (c, S) := hG.1
            refine P_lload_n dX6_runScript_82 rfl rfl ?_
            refine P_lstore (ls2 := [some (.ref (b)), some (.int (nI (1))), some (.long (nL (sk))), none, some (.long (nL (1 * 100000))), none, some (.long (nL (sk))), none, none]) dX6_runScript_83 (by decide) rfl ?_
            refine P_iload_n dX6_runScript_85 rfl rfl ?_
            refine P_istore (ls2 := [some (.ref (b)), some (.int (nI (1))), some (.long (nL (sk))), none, some (.long (nL (1 * 100000))), none, some (.long (nL (sk))), none, some (.int (nI (1)))]) dX6_runScript_86 (by decide) rfl ?_
            refine P_iload dX6_runScript_88 rfl ?_
            refine P_iconst (v := nI 3) dX6_runScript_90 (by decide) ?_
            refine P_icmp_geN (tgt := 108) dX6_runScript_91 (by decide) (by decide) (by decide) (fun c91 => absurd c91 (by decide)) (fun c91 => ?_)
            refine P_lload dX6_runScript_94 rfl ?_
            refine P_ldc2_w dX6_runScript_96 cX6_301 ?_
            refine P_topL (y := nL 100000) (by decide) ?_
            refine P_lmulN dX6_runScript_99 ?_
            refine P_lstore (ls2 := [some (.ref (b)), some (.int (nI (1))), some (.long (nL (sk))), none, some (.long (nL (1 * 100000))), none, some (.long (nL (sk * 100000))), none, some (.int (nI (1)))]) dX6_runScript_100 (by decide) rfl ?_
            refine P_iinc (v := nI (2)) (ls2 := [some (.ref (b)), some (.int (nI (1))), some (.long (nL (sk))), none, some (.long (nL (1 * 100000))), none, some (.long (nL (sk * 100000))), none, some (.int (nI (2)))]) dX6_runScript_102 rfl (nI_inc _ 1) (by decide) rfl ?_
            refine P_goto (tgt := 88) dX6_runScript_105 (by decide) ?_
            refine P_iload dX6_runScript_88 rfl ?_
            refine P_iconst (v := nI 3) dX6_runScript_90 (by decide) ?_
            refine P_icmp_geN (tgt := 108) dX6_runScript_91 (by decide) (by decide) (by decide) (fun c91 => absurd c91 (by decide)) (fun c91 => ?_)
            refine P_lload dX6_runScript_94 rfl ?_
            refine P_ldc2_w dX6_runScript_96 cX6_301 ?_
            refine P_topL (y := nL 100000) (by decide) ?_
            refine P_lmulN dX6_runScript_99 ?_
            refine P_lstore (ls2 := [some (.ref (b)), some (.int (nI (1))), some (.long (nL (sk))), none, some (.long (nL (1 * 100000))), none, some (.long (nL ((sk * 100000) * 100000))), none, some (.int (nI (2)))]) dX6_runScript_100 (by decide) rfl ?_
            refine P_iinc (v := nI (3)) (ls2 := [some (.ref (b)), some (.int (nI (1))), some (.long (nL (sk))), none, some (.long (nL (1 * 100000))), none, some (.long (nL ((sk * 100000) * 100000))), none, some (.int (nI (3)))]) dX6_runScript_102 rfl (nI_inc _ 1) (by decide) rfl ?_
            refine P_goto (tgt := 88) dX6_runScript_105 (by decide) ?_
            refine P_iload dX6_runScript_88 rfl ?_
            refine P_iconst (v := nI 3) dX6_runScript_90 (by decide) ?_
            refine P_icmp_geN (tgt := 108) dX6_runScript_91 (by decide) (by decide) (by decide) (fun c91 => ?_) (fun c91 => absurd c91 (by decide))
            refine P_iconst (v := nI 0) dX6_runScript_108 (by decide) ?_
            refine P_istore (ls2 := [some (.ref (b)), some (.int (nI (1))), some (.long (nL (sk))), none, some (.long (nL (1 * 100000))), none, some (.long (nL ((sk * 100000) * 100000))), none, some (.int (nI (0)))]) dX6_runScript_109 (by decide) rfl ?_
            refine P_iload dX6_runScript_111 rfl ?_
            refine P_iload_n dX6_runScript_113 rfl rfl ?_
            refine P_icmp_geN (tgt := 152) dX6_runScript_114 (by decide) (by decide) (by decide) (fun c114 => absurd c114 (by decide)) (fun c114 => ?_)
            refine P_aload_n dX6_runScript_117 rfl rfl ?_
            refine P_lload dX6_runScript_118 rfl ?_
            refine P_ldc2_w dX6_runScript_120 cX6_305 ?_
            refine P_topL (y := nL 10000000000) (by decide) ?_
            refine P_ldivN dX6_runScript_123 (by omega) (by omega) (by decide) ?_
            refine P_l2iN dX6_runScript_124 ?_
            have e0 : ((sk * 100000) * 100000) / 10000000000 = sk / 100000 ^ (1 - 1 - 0) % 100000 := by rw [show 100000 ^ (1 - 1 - 0) = 1 from Nat.pow_zero 100000]; omega
            rw [e0]
            have l0 : sk / 100000 ^ (1 - 1 - 0) % 100000 < 100000 := Nat.mod_lt _ (by decide)
            refine P_cVs (rest := []) (As := [.int (nI (sk / 100000 ^ (1 - 1 - 0) % 100000))]) dX6_runScript_125 lX6_307 yk_X6_succeeds yv_X6_succeeds kX6 rfl (by decide) hT.o rfl rfl (Nat.le_of_ble_eq_true rfl) rfl (c_X6_succeeds hT hC1 hX0.1 (by omega) hX0.2 l0) (fun v2 hp0 => ?_)
            have hw2 := hw1.tr hp0.2
            have hX1 := hX0.cmd (sk / 100000 ^ (1 - 1 - 0) % 100000)
            refine P_bif_ne (tgt := 134) dX6_runScript_128 (by decide) (fun c128 => ?_) (fun c128 => ?_)
            · have y0 := c128
              refine P_lload dX6_runScript_134 rfl ?_
              refine P_ldc2_w dX6_runScript_136 cX6_305 ?_
              refine P_topL (y := nL 10000000000) (by decide) ?_
              refine P_lremN dX6_runScript_139 (by omega) (by omega) (by decide) ?_
              refine P_ldc2_w dX6_runScript_140 cX6_301 ?_
              refine P_topL (y := nL 100000) (by decide) ?_
              refine P_lmulN dX6_runScript_143 ?_
              refine P_lstore (ls2 := [some (.ref (b)), some (.int (nI (1))), some (.long (nL (sk))), none, some (.long (nL (1 * 100000))), none, some (.long (nL ((((sk * 100000) * 100000) % 10000000000) * 100000))), none, some (.int (nI (0)))]) dX6_runScript_144 (by decide) rfl ?_
              refine P_iinc (v := nI (1)) (ls2 := [some (.ref (b)), some (.int (nI (1))), some (.long (nL (sk))), none, some (.long (nL (1 * 100000))), none, some (.long (nL ((((sk * 100000) * 100000) % 10000000000) * 100000))), none, some (.int (nI (1)))]) dX6_runScript_146 rfl (nI_inc _ 1) (by decide) rfl ?_
              refine P_goto (tgt := 111) dX6_runScript_149 (by decide) ?_
              refine P_iload dX6_runScript_111 rfl ?_
              refine P_iload_n dX6_runScript_113 rfl rfl ?_
              refine P_icmp_geN (tgt := 152) dX6_runScript_114 (by decide) (by decide) (by decide) (fun c114 => ?_) (fun c114 => absurd c114 (by decide))
              refine P_iconst (v := -1) dX6_runScript_152 (by decide) ?_
              refine P_iret dX6_runScript_153 rfl ?_
              have e9 : mscr 1 sk 1 0 (c, S) = none := ((mscr_t (f := 0) y0).trans rfl)
              exact g_ret ((if_neg (gt_f hgs9)).trans (by rw [show (nI 1).toInt.toNat = 1 from rfl, show (nL sk).toInt.toNat = sk from by rw [nL_toInt (by omega)]; rfl, e9]; rfl)) (hK.trial hw2 (CR.cs hp0.1)) (hw2.mono (by omega) (by omega))
            · have y0 := c128
              refine P_iload dX6_runScript_131 rfl ?_
              refine P_iret dX6_runScript_133 rfl ?_
              have e9 : mscr 1 sk 1 0 (c, S) = some 0 := (mscr_f (f := 0) y0)
              exact g_ret ((if_neg (gt_f hgs9)).trans (by rw [show (nI 1).toInt.toNat = 1 from rfl, show (nL sk).toInt.toNat = sk from by rw [nL_toInt (by omega)]; rfl, e9]; rfl)) (hK.trial hw2 (CR.cs hp0.1)) (hw2.mono (by omega) (by omega))
          · refine P_throwW (text := "the script is negative or has too many digits") vExA rfl (by decide +kernel) dX6_runScript_60 dX6_runScript_63 dX6_runScript_64 dX6_runScript_67 dX6_runScript_70 ⟨Nat.le_of_ble_eq_true rfl, Nat.le_of_ble_eq_true rfl⟩ (by decide) ?_
            exact g_thr (k := 0) (if_pos (by rw [show decide (0 ≤ s.toInt ∧ s.toInt < ((100000 ^ (nI 1).toInt.toNat : Nat) : Int)) = false from scr_out (Or.inr ⟨100000, rfl, by rw [lg_lt, l_lt, nL_toInt (n := 1 * 100000) (by decide)] at c57; omega⟩), Bool.and_false])) rfl
      · refine P_lconst (v := 1) dX6_runScript_21 (by decide) ?_
        refine P_topL (y := nL 1) (by decide) ?_
        refine P_lstore (ls2 := [some (.ref (b)), some (.int (nI (2))), some (.long (s)), none, some (.long (nL (1))), none, none, none, none]) dX6_runScript_22 (by decide) rfl ?_
        refine P_iconst (v := nI 0) dX6_runScript_24 (by decide) ?_
        refine P_istore (ls2 := [some (.ref (b)), some (.int (nI (2))), some (.long (s)), none, some (.long (nL (1))), none, some (.int (nI (0))), none, none]) dX6_runScript_25 (by decide) rfl ?_
        refine P_iload dX6_runScript_27 rfl ?_
        refine P_iload_n dX6_runScript_29 rfl rfl ?_
        refine P_icmp_geN (tgt := 47) dX6_runScript_30 (by decide) (by decide) (by decide) (fun c30 => absurd c30 (by decide)) (fun c30 => ?_)
        refine P_lload dX6_runScript_33 rfl ?_
        refine P_ldc2_w dX6_runScript_35 cX6_301 ?_
        refine P_topL (y := nL 100000) (by decide) ?_
        refine P_lmulN dX6_runScript_38 ?_
        refine P_lstore (ls2 := [some (.ref (b)), some (.int (nI (2))), some (.long (s)), none, some (.long (nL (1 * 100000))), none, some (.int (nI (0))), none, none]) dX6_runScript_39 (by decide) rfl ?_
        refine P_iinc (v := nI (1)) (ls2 := [some (.ref (b)), some (.int (nI (2))), some (.long (s)), none, some (.long (nL (1 * 100000))), none, some (.int (nI (1))), none, none]) dX6_runScript_41 rfl (nI_inc _ 1) (by decide) rfl ?_
        refine P_goto (tgt := 27) dX6_runScript_44 (by decide) ?_
        refine P_iload dX6_runScript_27 rfl ?_
        refine P_iload_n dX6_runScript_29 rfl rfl ?_
        refine P_icmp_geN (tgt := 47) dX6_runScript_30 (by decide) (by decide) (by decide) (fun c30 => absurd c30 (by decide)) (fun c30 => ?_)
        refine P_lload dX6_runScript_33 rfl ?_
        refine P_ldc2_w dX6_runScript_35 cX6_301 ?_
        refine P_topL (y := nL 100000) (by decide) ?_
        refine P_lmulN dX6_runScript_38 ?_
        refine P_lstore (ls2 := [some (.ref (b)), some (.int (nI (2))), some (.long (s)), none, some (.long (nL ((1 * 100000) * 100000))), none, some (.int (nI (1))), none, none]) dX6_runScript_39 (by decide) rfl ?_
        refine P_iinc (v := nI (2)) (ls2 := [some (.ref (b)), some (.int (nI (2))), some (.long (s)), none, some (.long (nL ((1 * 100000) * 100000))), none, some (.int (nI (2))), none, none]) dX6_runScript_41 rfl (nI_inc _ 1) (by decide) rfl ?_
        refine P_goto (tgt := 27) dX6_runScript_44 (by decide) ?_
        refine P_iload dX6_runScript_27 rfl ?_
        refine P_iload_n dX6_runScript_29 rfl rfl ?_
        refine P_icmp_geN (tgt := 47) dX6_runScript_30 (by decide) (by decide) (by decide) (fun c30 => ?_) (fun c30 => absurd c30 (by decide))
        refine P_lload_n dX6_runScript_47 rfl rfl ?_
        refine P_lconst (v := 0) dX6_runScript_48 (by decide) ?_
        refine P_lcmp dX6_runScript_49 ?_
        refine P_if_lt (tgt := 60) dX6_runScript_50 (by decide) (fun c50 => ?_) (fun c50 => ?_)
        · refine P_throwW (text := "the script is negative or has too many digits") vExA rfl (by decide +kernel) dX6_runScript_60 dX6_runScript_63 dX6_runScript_64 dX6_runScript_67 dX6_runScript_70 ⟨Nat.le_of_ble_eq_true rfl, Nat.le_of_ble_eq_true rfl⟩ (by decide) ?_
          exact g_thr (k := 0) (if_pos (by rw [show decide (0 ≤ s.toInt ∧ s.toInt < ((100000 ^ (nI 2).toInt.toNat : Nat) : Int)) = false from scr_out (Or.inl ((lg_lt _ _).mp c50)), Bool.and_false])) rfl
        · refine P_lload_n dX6_runScript_53 rfl rfl ?_
          refine P_lload dX6_runScript_54 rfl ?_
          refine P_lcmp dX6_runScript_56 ?_
          refine P_if_lt (tgt := 71) dX6_runScript_57 (by decide) (fun c57 => ?_) (fun c57 => ?_)
          · obtain ⟨sk, hsk0, rfl⟩ := nL_in (fun q => c50 ((lg_lt _ _).mpr q))
            have hsk : sk < 10000000000 := by rw [lg_lt, l_lt, nL_toInt (n := sk) (by omega), nL_toInt (n := (1 * 100000) * 100000) (by decide)] at c57; omega
            have hgs9 : (gin (nI 2) 1 3 && decide (0 ≤ (nL sk).toInt ∧ (nL sk).toInt < ((100000 ^ (nI 2).toInt.toNat : Nat) : Int))) = true := by rw [hgi9, show decide (0 ≤ (nL sk).toInt ∧ (nL sk).toInt < ((100000 ^ (nI 2).toInt.toNat : Nat) : Int)) = true from scr_in (n := 2) (L := 10000000000) hsk rfl (by decide)]; rfl
            refine P_aload_n dX6_runScript_71 rfl rfl ?_
            refine P_getr (t := b + 171) dX6_runScript_72 kX6 fX6_26 rfl (by decide) hT.o hT.r3 hT.k3.o.1.2 ?_
            refine P_aload_n dX6_runScript_75 rfl rfl ?_
            refine P_getr (t := b + 3) dX6_runScript_76 kX6 fX6_19 rfl (by decide) hT.o hT.r1 hT.k1.o.1.2 ?_
            refine P_cVs (rest := []) (As := [.ref (b + 3)]) dX6_runScript_79 lX6_70 yk_X0_copyFrom yv_X0_copyFrom kX0 rfl (by decide) hT.k3.o rfl rfl (Nat.le_of_ble_eq_true rfl) rfl (c_X0_copyFrom hT.k3 hT.k1 (by omega) hC hK.tr) (fun v1 ⟨hC1, hw1⟩ => ?_)
            have hX0 : KC B (c, S) := hG.1
            refine P_lload_n dX6_runScript_82 rfl rfl ?_
            refine P_lstore (ls2 := [some (.ref (b)), some (.int (nI (2))), some (.long (nL (sk))), none, some (.long (nL ((1 * 100000) * 100000))), none, some (.long (nL (sk))), none, none]) dX6_runScript_83 (by decide) rfl ?_
            refine P_iload_n dX6_runScript_85 rfl rfl ?_
            refine P_istore (ls2 := [some (.ref (b)), some (.int (nI (2))), some (.long (nL (sk))), none, some (.long (nL ((1 * 100000) * 100000))), none, some (.long (nL (sk))), none, some (.int (nI (2)))]) dX6_runScript_86 (by decide) rfl ?_
            refine P_iload dX6_runScript_88 rfl ?_
            refine P_iconst (v := nI 3) dX6_runScript_90 (by decide) ?_
            refine P_icmp_geN (tgt := 108) dX6_runScript_91 (by decide) (by decide) (by decide) (fun c91 => absurd c91 (by decide)) (fun c91 => ?_)
            refine P_lload dX6_runScript_94 rfl ?_
            refine P_ldc2_w dX6_runScript_96 cX6_301 ?_
            refine P_topL (y := nL 100000) (by decide) ?_
            refine P_lmulN dX6_runScript_99 ?_
            refine P_lstore (ls2 := [some (.ref (b)), some (.int (nI (2))), some (.long (nL (sk))), none, some (.long (nL ((1 * 100000) * 100000))), none, some (.long (nL (sk * 100000))), none, some (.int (nI (2)))]) dX6_runScript_100 (by decide) rfl ?_
            refine P_iinc (v := nI (3)) (ls2 := [some (.ref (b)), some (.int (nI (2))), some (.long (nL (sk))), none, some (.long (nL ((1 * 100000) * 100000))), none, some (.long (nL (sk * 100000))), none, some (.int (nI (3)))]) dX6_runScript_102 rfl (nI_inc _ 1) (by decide) rfl ?_
            refine P_goto (tgt := 88) dX6_runScript_105 (by decide) ?_
            refine P_iload dX6_runScript_88 rfl ?_
            refine P_iconst (v := nI 3) dX6_runScript_90 (by decide) ?_
            refine P_icmp_geN (tgt := 108) dX6_runScript_91 (by decide) (by decide) (by decide) (fun c91 => ?_) (fun c91 => absurd c91 (by decide))
            refine P_iconst (v := nI 0) dX6_runScript_108 (by decide) ?_
            refine P_istore (ls2 := [some (.ref (b)), some (.int (nI (2))), some (.long (nL (sk))), none, some (.long (nL ((1 * 100000) * 100000))), none, some (.long (nL (sk * 100000))), none, some (.int (nI (0)))]) dX6_runScript_109 (by decide) rfl ?_
            refine P_iload dX6_runScript_111 rfl ?_
            refine P_iload_n dX6_runScript_113 rfl rfl ?_
            refine P_icmp_geN (tgt := 152) dX6_runScript_114 (by decide) (by decide) (by decide) (fun c114 => absurd c114 (by decide)) (fun c114 => ?_)
            refine P_aload_n dX6_runScript_117 rfl rfl ?_
            refine P_lload dX6_runScript_118 rfl ?_
            refine P_ldc2_w dX6_runScript_120 cX6_305 ?_
            refine P_topL (y := nL 10000000000) (by decide) ?_
            refine P_ldivN dX6_runScript_123 (by omega) (by omega) (by decide) ?_
            refine P_l2iN dX6_runScript_124 ?_
            have e0 : (sk * 100000) / 10000000000 = sk / 100000 ^ (2 - 1 - 0) % 100000 := by rw [show 100000 ^ (2 - 1 - 0) = 100000 by decide]; omega
            rw [e0]
            have l0 : sk / 100000 ^ (2 - 1 - 0) % 100000 < 100000 := Nat.mod_lt _ (by decide)
            refine P_cVs (rest := []) (As := [.int (nI (sk / 100000 ^ (2 - 1 - 0) % 100000))]) dX6_runScript_125 lX6_307 yk_X6_succeeds yv_X6_succeeds kX6 rfl (by decide) hT.o rfl rfl (Nat.le_of_ble_eq_true rfl) rfl (c_X6_succeeds hT hC1 hX0.1 (by omega) hX0.2 l0) (fun v2 hp0 => ?_)
            have hw2 := hw1.tr hp0.2
            have hX1 := hX0.cmd (sk / 100000 ^ (2 - 1 - 0) % 100000)
            refine P_bif_ne (tgt := 134) dX6_runScript_128 (by decide) (fun c128 => ?_) (fun c128 => ?_)
            · have y0 := c128
              refine P_lload dX6_runScript_134 rfl ?_
              refine P_ldc2_w dX6_runScript_136 cX6_305 ?_
              refine P_topL (y := nL 10000000000) (by decide) ?_
              refine P_lremN dX6_runScript_139 (by omega) (by omega) (by decide) ?_
              refine P_ldc2_w dX6_runScript_140 cX6_301 ?_
              refine P_topL (y := nL 100000) (by decide) ?_
              refine P_lmulN dX6_runScript_143 ?_
              refine P_lstore (ls2 := [some (.ref (b)), some (.int (nI (2))), some (.long (nL (sk))), none, some (.long (nL ((1 * 100000) * 100000))), none, some (.long (nL (((sk * 100000) % 10000000000) * 100000))), none, some (.int (nI (0)))]) dX6_runScript_144 (by decide) rfl ?_
              refine P_iinc (v := nI (1)) (ls2 := [some (.ref (b)), some (.int (nI (2))), some (.long (nL (sk))), none, some (.long (nL ((1 * 100000) * 100000))), none, some (.long (nL (((sk * 100000) % 10000000000) * 100000))), none, some (.int (nI (1)))]) dX6_runScript_146 rfl (nI_inc _ 1) (by decide) rfl ?_
              refine P_goto (tgt := 111) dX6_runScript_149 (by decide) ?_
              refine P_iload dX6_runScript_111 rfl ?_
              refine P_iload_n dX6_runScript_113 rfl rfl ?_
              refine P_icmp_geN (tgt := 152) dX6_runScript_114 (by decide) (by decide) (by decide) (fun c114 => absurd c114 (by decide)) (fun c114 => ?_)
              refine P_aload_n dX6_runScript_117 rfl rfl ?_
              refine P_lload dX6_runScript_118 rfl ?_
              refine P_ldc2_w dX6_runScript_120 cX6_305 ?_
              refine P_topL (y := nL 10000000000) (by decide) ?_
              refine P_ldivN dX6_runScript_123 (by omega) (by omega) (by decide) ?_
              refine P_l2iN dX6_runScript_124 ?_
              have e1 : (((sk * 100000) % 10000000000) * 100000) / 10000000000 = sk / 100000 ^ (2 - 1 - (0 + 1)) % 100000 := by rw [show 100000 ^ (2 - 1 - (0 + 1)) = 1 from Nat.pow_zero 100000]; rw [Nat.div_one]; exact grp_a
              rw [e1]
              have l1 : sk / 100000 ^ (2 - 1 - (0 + 1)) % 100000 < 100000 := Nat.mod_lt _ (by decide)
              refine P_cVs (rest := []) (As := [.int (nI (sk / 100000 ^ (2 - 1 - (0 + 1)) % 100000))]) dX6_runScript_125 lX6_307 yk_X6_succeeds yv_X6_succeeds kX6 rfl (by decide) hT.o rfl rfl (Nat.le_of_ble_eq_true rfl) rfl (c_X6_succeeds hT hp0.1 hX1.1 (by omega) hX1.2 l1) (fun v3 hp1 => ?_)
              have hw3 := hw2.tr hp1.2
              have hX2 := hX1.cmd (sk / 100000 ^ (2 - 1 - (0 + 1)) % 100000)
              refine P_bif_ne (tgt := 134) dX6_runScript_128 (by decide) (fun c128 => ?_) (fun c128 => ?_)
              · have y1 := c128
                refine P_lload dX6_runScript_134 rfl ?_
                refine P_ldc2_w dX6_runScript_136 cX6_305 ?_
                refine P_topL (y := nL 10000000000) (by decide) ?_
                refine P_lremN dX6_runScript_139 (by omega) (by omega) (by decide) ?_
                refine P_ldc2_w dX6_runScript_140 cX6_301 ?_
                refine P_topL (y := nL 100000) (by decide) ?_
                refine P_lmulN dX6_runScript_143 ?_
                refine P_lstore (ls2 := [some (.ref (b)), some (.int (nI (2))), some (.long (nL (sk))), none, some (.long (nL ((1 * 100000) * 100000))), none, some (.long (nL (((((sk * 100000) % 10000000000) * 100000) % 10000000000) * 100000))), none, some (.int (nI (1)))]) dX6_runScript_144 (by decide) rfl ?_
                refine P_iinc (v := nI (2)) (ls2 := [some (.ref (b)), some (.int (nI (2))), some (.long (nL (sk))), none, some (.long (nL ((1 * 100000) * 100000))), none, some (.long (nL (((((sk * 100000) % 10000000000) * 100000) % 10000000000) * 100000))), none, some (.int (nI (2)))]) dX6_runScript_146 rfl (nI_inc _ 1) (by decide) rfl ?_
                refine P_goto (tgt := 111) dX6_runScript_149 (by decide) ?_
                refine P_iload dX6_runScript_111 rfl ?_
                refine P_iload_n dX6_runScript_113 rfl rfl ?_
                refine P_icmp_geN (tgt := 152) dX6_runScript_114 (by decide) (by decide) (by decide) (fun c114 => ?_) (fun c114 => absurd c114 (by decide))
                refine P_iconst (v := -1) dX6_runScript_152 (by decide) ?_
                refine P_iret dX6_runScript_153 rfl ?_
                have e9 : mscr 2 sk 2 0 (c, S) = none := ((mscr_t (f := 1) y0).trans ((mscr_t (f := 0) y1).trans rfl))
                exact g_ret ((if_neg (gt_f hgs9)).trans (by rw [show (nI 2).toInt.toNat = 2 from rfl, show (nL sk).toInt.toNat = sk from by rw [nL_toInt (by omega)]; rfl, e9]; rfl)) (hK.trial hw3 (CR.cs hp1.1)) (hw3.mono (by omega) (by omega))
              · have y1 := c128
                refine P_iload dX6_runScript_131 rfl ?_
                refine P_iret dX6_runScript_133 rfl ?_
                have e9 : mscr 2 sk 2 0 (c, S) = some 1 := ((mscr_t (f := 1) y0).trans (mscr_f (f := 0) y1))
                exact g_ret ((if_neg (gt_f hgs9)).trans (by rw [show (nI 2).toInt.toNat = 2 from rfl, show (nL sk).toInt.toNat = sk from by rw [nL_toInt (by omega)]; rfl, e9]; rfl)) (hK.trial hw3 (CR.cs hp1.1)) (hw3.mono (by omega) (by omega))
            · have y0 := c128
              refine P_iload dX6_runScript_131 rfl ?_
              refine P_iret dX6_runScript_133 rfl ?_
              have e9 : mscr 2 sk 2 0 (c, S) = some 0 := (mscr_f (f := 1) y0)
              exact g_ret ((if_neg (gt_f hgs9)).trans (by rw [show (nI 2).toInt.toNat = 2 from rfl, show (nL sk).toInt.toNat = sk from by rw [nL_toInt (by omega)]; rfl, e9]; rfl)) (hK.trial hw2 (CR.cs hp0.1)) (hw2.mono (by omega) (by omega))
          · refine P_throwW (text := "the script is negative or has too many digits") vExA rfl (by decide +kernel) dX6_runScript_60 dX6_runScript_63 dX6_runScript_64 dX6_runScript_67 dX6_runScript_70 ⟨Nat.le_of_ble_eq_true rfl, Nat.le_of_ble_eq_true rfl⟩ (by decide) ?_
            exact g_thr (k := 0) (if_pos (by rw [show decide (0 ≤ s.toInt ∧ s.toInt < ((100000 ^ (nI 2).toInt.toNat : Nat) : Int)) = false from scr_out (Or.inr ⟨10000000000, rfl, by rw [lg_lt, l_lt, nL_toInt (n := (1 * 100000) * 100000) (by decide)] at c57; omega⟩), Bool.and_false])) rfl
      · refine P_lconst (v := 1) dX6_runScript_21 (by decide) ?_
        refine P_topL (y := nL 1) (by decide) ?_
        refine P_lstore (ls2 := [some (.ref (b)), some (.int (nI (3))), some (.long (s)), none, some (.long (nL (1))), none, none, none, none]) dX6_runScript_22 (by decide) rfl ?_
        refine P_iconst (v := nI 0) dX6_runScript_24 (by decide) ?_
        refine P_istore (ls2 := [some (.ref (b)), some (.int (nI (3))), some (.long (s)), none, some (.long (nL (1))), none, some (.int (nI (0))), none, none]) dX6_runScript_25 (by decide) rfl ?_
        refine P_iload dX6_runScript_27 rfl ?_
        refine P_iload_n dX6_runScript_29 rfl rfl ?_
        refine P_icmp_geN (tgt := 47) dX6_runScript_30 (by decide) (by decide) (by decide) (fun c30 => absurd c30 (by decide)) (fun c30 => ?_)
        refine P_lload dX6_runScript_33 rfl ?_
        refine P_ldc2_w dX6_runScript_35 cX6_301 ?_
        refine P_topL (y := nL 100000) (by decide) ?_
        refine P_lmulN dX6_runScript_38 ?_
        refine P_lstore (ls2 := [some (.ref (b)), some (.int (nI (3))), some (.long (s)), none, some (.long (nL (1 * 100000))), none, some (.int (nI (0))), none, none]) dX6_runScript_39 (by decide) rfl ?_
        refine P_iinc (v := nI (1)) (ls2 := [some (.ref (b)), some (.int (nI (3))), some (.long (s)), none, some (.long (nL (1 * 100000))), none, some (.int (nI (1))), none, none]) dX6_runScript_41 rfl (nI_inc _ 1) (by decide) rfl ?_
        refine P_goto (tgt := 27) dX6_runScript_44 (by decide) ?_
        refine P_iload dX6_runScript_27 rfl ?_
        refine P_iload_n dX6_runScript_29 rfl rfl ?_
        refine P_icmp_geN (tgt := 47) dX6_runScript_30 (by decide) (by decide) (by decide) (fun c30 => absurd c30 (by decide)) (fun c30 => ?_)
        refine P_lload dX6_runScript_33 rfl ?_
        refine P_ldc2_w dX6_runScript_35 cX6_301 ?_
        refine P_topL (y := nL 100000) (by decide) ?_
        refine P_lmulN dX6_runScript_38 ?_
        refine P_lstore (ls2 := [some (.ref (b)), some (.int (nI (3))), some (.long (s)), none, some (.long (nL ((1 * 100000) * 100000))), none, some (.int (nI (1))), none, none]) dX6_runScript_39 (by decide) rfl ?_
        refine P_iinc (v := nI (2)) (ls2 := [some (.ref (b)), some (.int (nI (3))), some (.long (s)), none, some (.long (nL ((1 * 100000) * 100000))), none, some (.int (nI (2))), none, none]) dX6_runScript_41 rfl (nI_inc _ 1) (by decide) rfl ?_
        refine P_goto (tgt := 27) dX6_runScript_44 (by decide) ?_
        refine P_iload dX6_runScript_27 rfl ?_
        refine P_iload_n dX6_runScript_29 rfl rfl ?_
        refine P_icmp_geN (tgt := 47) dX6_runScript_30 (by decide) (by decide) (by decide) (fun c30 => absurd c30 (by decide)) (fun c30 => ?_)
        refine P_lload dX6_runScript_33 rfl ?_
        refine P_ldc2_w dX6_runScript_35 cX6_301 ?_
        refine P_topL (y := nL 100000) (by decide) ?_
        refine P_lmulN dX6_runScript_38 ?_
        refine P_lstore (ls2 := [some (.ref (b)), some (.int (nI (3))), some (.long (s)), none, some (.long (nL (((1 * 100000) * 100000) * 100000))), none, some (.int (nI (2))), none, none]) dX6_runScript_39 (by decide) rfl ?_
        refine P_iinc (v := nI (3)) (ls2 := [some (.ref (b)), some (.int (nI (3))), some (.long (s)), none, some (.long (nL (((1 * 100000) * 100000) * 100000))), none, some (.int (nI (3))), none, none]) dX6_runScript_41 rfl (nI_inc _ 1) (by decide) rfl ?_
        refine P_goto (tgt := 27) dX6_runScript_44 (by decide) ?_
        refine P_iload dX6_runScript_27 rfl ?_
        refine P_iload_n dX6_runScript_29 rfl rfl ?_
        refine P_icmp_geN (tgt := 47) dX6_runScript_30 (by decide) (by decide) (by decide) (fun c30 => ?_) (fun c30 => absurd c30 (by decide))
        refine P_lload_n dX6_runScript_47 rfl rfl ?_
        refine P_lconst (v := 0) dX6_runScript_48 (by decide) ?_
        refine P_lcmp dX6_runScript_49 ?_
        refine P_if_lt (tgt := 60) dX6_runScript_50 (by decide) (fun c50 => ?_) (fun c50 => ?_)
        · refine P_throwW (text := "the script is negative or has too many digits") vExA rfl (by decide +kernel) dX6_runScript_60 dX6_runScript_63 dX6_runScript_64 dX6_runScript_67 dX6_runScript_70 ⟨Nat.le_of_ble_eq_true rfl, Nat.le_of_ble_eq_true rfl⟩ (by decide) ?_
          exact g_thr (k := 0) (if_pos (by rw [show decide (0 ≤ s.toInt ∧ s.toInt < ((100000 ^ (nI 3).toInt.toNat : Nat) : Int)) = false from scr_out (Or.inl ((lg_lt _ _).mp c50)), Bool.and_false])) rfl
        · refine P_lload_n dX6_runScript_53 rfl rfl ?_
          refine P_lload dX6_runScript_54 rfl ?_
          refine P_lcmp dX6_runScript_56 ?_
          refine P_if_lt (tgt := 71) dX6_runScript_57 (by decide) (fun c57 => ?_) (fun c57 => ?_)
          · obtain ⟨sk, hsk0, rfl⟩ := nL_in (fun q => c50 ((lg_lt _ _).mpr q))
            have hsk : sk < 1000000000000000 := by rw [lg_lt, l_lt, nL_toInt (n := sk) (by omega), nL_toInt (n := ((1 * 100000) * 100000) * 100000) (by decide)] at c57; omega
            have hgs9 : (gin (nI 3) 1 3 && decide (0 ≤ (nL sk).toInt ∧ (nL sk).toInt < ((100000 ^ (nI 3).toInt.toNat : Nat) : Int))) = true := by rw [hgi9, show decide (0 ≤ (nL sk).toInt ∧ (nL sk).toInt < ((100000 ^ (nI 3).toInt.toNat : Nat) : Int)) = true from scr_in (n := 3) (L := 1000000000000000) hsk rfl (by decide)]; rfl
            refine P_aload_n dX6_runScript_71 rfl rfl ?_
            refine P_getr (t := b + 171) dX6_runScript_72 kX6 fX6_26 rfl (by decide) hT.o hT.r3 hT.k3.o.1.2 ?_
            refine P_aload_n dX6_runScript_75 rfl rfl ?_
            refine P_getr (t := b + 3) dX6_runScript_76 kX6 fX6_19 rfl (by decide) hT.o hT.r1 hT.k1.o.1.2 ?_
            refine P_cVs (rest := []) (As := [.ref (b + 3)]) dX6_runScript_79 lX6_70 yk_X0_copyFrom yv_X0_copyFrom kX0 rfl (by decide) hT.k3.o rfl rfl (Nat.le_of_ble_eq_true rfl) rfl (c_X0_copyFrom hT.k3 hT.k1 (by omega) hC hK.tr) (fun v1 ⟨hC1, hw1⟩ => ?_)
            have hX0 : KC B (c, S) := hG.1
            refine P_lload_n dX6_runScript_82 rfl rfl ?_
            refine P_lstore (ls2 := [some (.ref (b)), some (.int (nI (3))), some (.long (nL (sk))), none, some (.long (nL (((1 * 100000) * 100000) * 100000))), none, some (.long (nL (sk))), none, none]) dX6_runScript_83 (by decide) rfl ?_
            refine P_iload_n dX6_runScript_85 rfl rfl ?_
            refine P_istore (ls2 := [some (.ref (b)), some (.int (nI (3))), some (.long (nL (sk))), none, some (.long (nL (((1 * 100000) * 100000) * 100000))), none, some (.long (nL (sk))), none, some (.int (nI (3)))]) dX6_runScript_86 (by decide) rfl ?_
            refine P_iload dX6_runScript_88 rfl ?_
            refine P_iconst (v := nI 3) dX6_runScript_90 (by decide) ?_
            refine P_icmp_geN (tgt := 108) dX6_runScript_91 (by decide) (by decide) (by decide) (fun c91 => ?_) (fun c91 => absurd c91 (by decide))
            refine P_iconst (v := nI 0) dX6_runScript_108 (by decide) ?_
            refine P_istore (ls2 := [some (.ref (b)), some (.int (nI (3))), some (.long (nL (sk))), none, some (.long (nL (((1 * 100000) * 100000) * 100000))), none, some (.long (nL (sk))), none, some (.int (nI (0)))]) dX6_runScript_109 (by decide) rfl ?_
            refine P_iload dX6_runScript_111 rfl ?_
            refine P_iload_n dX6_runScript_113 rfl rfl ?_
            refine P_icmp_geN (tgt := 152) dX6_runScript_114 (by decide) (by decide) (by decide) (fun c114 => absurd c114 (by decide)) (fun c114 => ?_)
            refine P_aload_n dX6_runScript_117 rfl rfl ?_
            refine P_lload dX6_runScript_118 rfl ?_
            refine P_ldc2_w dX6_runScript_120 cX6_305 ?_
            refine P_topL (y := nL 10000000000) (by decide) ?_
            refine P_ldivN dX6_runScript_123 (by omega) (by omega) (by decide) ?_
            refine P_l2iN dX6_runScript_124 ?_
            have e0 : sk / 10000000000 = sk / 100000 ^ (3 - 1 - 0) % 100000 := by rw [show 100000 ^ (3 - 1 - 0) = 10000000000 by decide]; omega
            rw [e0]
            have l0 : sk / 100000 ^ (3 - 1 - 0) % 100000 < 100000 := Nat.mod_lt _ (by decide)
            refine P_cVs (rest := []) (As := [.int (nI (sk / 100000 ^ (3 - 1 - 0) % 100000))]) dX6_runScript_125 lX6_307 yk_X6_succeeds yv_X6_succeeds kX6 rfl (by decide) hT.o rfl rfl (Nat.le_of_ble_eq_true rfl) rfl (c_X6_succeeds hT hC1 hX0.1 (by omega) hX0.2 l0) (fun v2 hp0 => ?_)
            have hw2 := hw1.tr hp0.2
            have hX1 := hX0.cmd (sk / 100000 ^ (3 - 1 - 0) % 100000)
            refine P_bif_ne (tgt := 134) dX6_runScript_128 (by decide) (fun c128 => ?_) (fun c128 => ?_)
            · have y0 := c128
              refine P_lload dX6_runScript_134 rfl ?_
              refine P_ldc2_w dX6_runScript_136 cX6_305 ?_
              refine P_topL (y := nL 10000000000) (by decide) ?_
              refine P_lremN dX6_runScript_139 (by omega) (by omega) (by decide) ?_
              refine P_ldc2_w dX6_runScript_140 cX6_301 ?_
              refine P_topL (y := nL 100000) (by decide) ?_
              refine P_lmulN dX6_runScript_143 ?_
              refine P_lstore (ls2 := [some (.ref (b)), some (.int (nI (3))), some (.long (nL (sk))), none, some (.long (nL (((1 * 100000) * 100000) * 100000))), none, some (.long (nL ((sk % 10000000000) * 100000))), none, some (.int (nI (0)))]) dX6_runScript_144 (by decide) rfl ?_
              refine P_iinc (v := nI (1)) (ls2 := [some (.ref (b)), some (.int (nI (3))), some (.long (nL (sk))), none, some (.long (nL (((1 * 100000) * 100000) * 100000))), none, some (.long (nL ((sk % 10000000000) * 100000))), none, some (.int (nI (1)))]) dX6_runScript_146 rfl (nI_inc _ 1) (by decide) rfl ?_
              refine P_goto (tgt := 111) dX6_runScript_149 (by decide) ?_
              refine P_iload dX6_runScript_111 rfl ?_
              refine P_iload_n dX6_runScript_113 rfl rfl ?_
              refine P_icmp_geN (tgt := 152) dX6_runScript_114 (by decide) (by decide) (by decide) (fun c114 => absurd c114 (by decide)) (fun c114 => ?_)
              refine P_aload_n dX6_runScript_117 rfl rfl ?_
              refine P_lload dX6_runScript_118 rfl ?_
              refine P_ldc2_w dX6_runScript_120 cX6_305 ?_
              refine P_topL (y := nL 10000000000) (by decide) ?_
              refine P_ldivN dX6_runScript_123 (by omega) (by omega) (by decide) ?_
              refine P_l2iN dX6_runScript_124 ?_
              have e1 : ((sk % 10000000000) * 100000) / 10000000000 = sk / 100000 ^ (3 - 1 - (0 + 1)) % 100000 := by rw [show 100000 ^ (3 - 1 - (0 + 1)) = 100000 by decide]; omega
              rw [e1]
              have l1 : sk / 100000 ^ (3 - 1 - (0 + 1)) % 100000 < 100000 := Nat.mod_lt _ (by decide)
              refine P_cVs (rest := []) (As := [.int (nI (sk / 100000 ^ (3 - 1 - (0 + 1)) % 100000))]) dX6_runScript_125 lX6_307 yk_X6_succeeds yv_X6_succeeds kX6 rfl (by decide) hT.o rfl rfl (Nat.le_of_ble_eq_true rfl) rfl (c_X6_succeeds hT hp0.1 hX1.1 (by omega) hX1.2 l1) (fun v3 hp1 => ?_)
              have hw3 := hw2.tr hp1.2
              have hX2 := hX1.cmd (sk / 100000 ^ (3 - 1 - (0 + 1)) % 100000)
              refine P_bif_ne (tgt := 134) dX6_runScript_128 (by decide) (fun c128 => ?_) (fun c128 => ?_)
              · have y1 := c128
                refine P_lload dX6_runScript_134 rfl ?_
                refine P_ldc2_w dX6_runScript_136 cX6_305 ?_
                refine P_topL (y := nL 10000000000) (by decide) ?_
                refine P_lremN dX6_runScript_139 (by omega) (by omega) (by decide) ?_
                refine P_ldc2_w dX6_runScript_140 cX6_301 ?_
                refine P_topL (y := nL 100000) (by decide) ?_
                refine P_lmulN dX6_runScript_143 ?_
                refine P_lstore (ls2 := [some (.ref (b)), some (.int (nI (3))), some (.long (nL (sk))), none, some (.long (nL (((1 * 100000) * 100000) * 100000))), none, some (.long (nL ((((sk % 10000000000) * 100000) % 10000000000) * 100000))), none, some (.int (nI (1)))]) dX6_runScript_144 (by decide) rfl ?_
                refine P_iinc (v := nI (2)) (ls2 := [some (.ref (b)), some (.int (nI (3))), some (.long (nL (sk))), none, some (.long (nL (((1 * 100000) * 100000) * 100000))), none, some (.long (nL ((((sk % 10000000000) * 100000) % 10000000000) * 100000))), none, some (.int (nI (2)))]) dX6_runScript_146 rfl (nI_inc _ 1) (by decide) rfl ?_
                refine P_goto (tgt := 111) dX6_runScript_149 (by decide) ?_
                refine P_iload dX6_runScript_111 rfl ?_
                refine P_iload_n dX6_runScript_113 rfl rfl ?_
                refine P_icmp_geN (tgt := 152) dX6_runScript_114 (by decide) (by decide) (by decide) (fun c114 => absurd c114 (by decide)) (fun c114 => ?_)
                refine P_aload_n dX6_runScript_117 rfl rfl ?_
                refine P_lload dX6_runScript_118 rfl ?_
                refine P_ldc2_w dX6_runScript_120 cX6_305 ?_
                refine P_topL (y := nL 10000000000) (by decide) ?_
                refine P_ldivN dX6_runScript_123 (by omega) (by omega) (by decide) ?_
                refine P_l2iN dX6_runScript_124 ?_
                have e2 : ((((sk % 10000000000) * 100000) % 10000000000) * 100000) / 10000000000 = sk / 100000 ^ (3 - 1 - (0 + 1 + 1)) % 100000 := by rw [show 100000 ^ (3 - 1 - (0 + 1 + 1)) = 1 from Nat.pow_zero 100000]; rw [Nat.div_one]; exact grp_a.trans (Nat.mod_mod_of_dvd sk ⟨100000, rfl⟩)
                rw [e2]
                have l2 : sk / 100000 ^ (3 - 1 - (0 + 1 + 1)) % 100000 < 100000 := Nat.mod_lt _ (by decide)
                refine P_cVs (rest := []) (As := [.int (nI (sk / 100000 ^ (3 - 1 - (0 + 1 + 1)) % 100000))]) dX6_runScript_125 lX6_307 yk_X6_succeeds yv_X6_succeeds kX6 rfl (by decide) hT.o rfl rfl (Nat.le_of_ble_eq_true rfl) rfl (c_X6_succeeds hT hp1.1 hX2.1 (by omega) hX2.2 l2) (fun v4 hp2 => ?_)
                have hw4 := hw3.tr hp2.2
                have hX3 := hX2.cmd (sk / 100000 ^ (3 - 1 - (0 + 1 + 1)) % 100000)
                refine P_bif_ne (tgt := 134) dX6_runScript_128 (by decide) (fun c128 => ?_) (fun c128 => ?_)
                · have y2 := c128
                  refine P_lload dX6_runScript_134 rfl ?_
                  refine P_ldc2_w dX6_runScript_136 cX6_305 ?_
                  refine P_topL (y := nL 10000000000) (by decide) ?_
                  refine P_lremN dX6_runScript_139 (by omega) (by omega) (by decide) ?_
                  refine P_ldc2_w dX6_runScript_140 cX6_301 ?_
                  refine P_topL (y := nL 100000) (by decide) ?_
                  refine P_lmulN dX6_runScript_143 ?_
                  refine P_lstore (ls2 := [some (.ref (b)), some (.int (nI (3))), some (.long (nL (sk))), none, some (.long (nL (((1 * 100000) * 100000) * 100000))), none, some (.long (nL ((((((sk % 10000000000) * 100000) % 10000000000) * 100000) % 10000000000) * 100000))), none, some (.int (nI (2)))]) dX6_runScript_144 (by decide) rfl ?_
                  refine P_iinc (v := nI (3)) (ls2 := [some (.ref (b)), some (.int (nI (3))), some (.long (nL (sk))), none, some (.long (nL (((1 * 100000) * 100000) * 100000))), none, some (.long (nL ((((((sk % 10000000000) * 100000) % 10000000000) * 100000) % 10000000000) * 100000))), none, some (.int (nI (3)))]) dX6_runScript_146 rfl (nI_inc _ 1) (by decide) rfl ?_
                  refine P_goto (tgt := 111) dX6_runScript_149 (by decide) ?_
                  refine P_iload dX6_runScript_111 rfl ?_
                  refine P_iload_n dX6_runScript_113 rfl rfl ?_
                  refine P_icmp_geN (tgt := 152) dX6_runScript_114 (by decide) (by decide) (by decide) (fun c114 => ?_) (fun c114 => absurd c114 (by decide))
                  refine P_iconst (v := -1) dX6_runScript_152 (by decide) ?_
                  refine P_iret dX6_runScript_153 rfl ?_
                  have e9 : mscr 3 sk 3 0 (c, S) = none := ((mscr_t (f := 2) y0).trans ((mscr_t (f := 1) y1).trans ((mscr_t (f := 0) y2).trans rfl)))
                  exact g_ret ((if_neg (gt_f hgs9)).trans (by rw [show (nI 3).toInt.toNat = 3 from rfl, show (nL sk).toInt.toNat = sk from by rw [nL_toInt (by omega)]; rfl, e9]; rfl)) (hK.trial hw4 (CR.cs hp2.1)) (hw4.mono (by omega) (by omega))
                · have y2 := c128
                  refine P_iload dX6_runScript_131 rfl ?_
                  refine P_iret dX6_runScript_133 rfl ?_
                  have e9 : mscr 3 sk 3 0 (c, S) = some 2 := ((mscr_t (f := 2) y0).trans ((mscr_t (f := 1) y1).trans (mscr_f (f := 0) y2)))
                  exact g_ret ((if_neg (gt_f hgs9)).trans (by rw [show (nI 3).toInt.toNat = 3 from rfl, show (nL sk).toInt.toNat = sk from by rw [nL_toInt (by omega)]; rfl, e9]; rfl)) (hK.trial hw4 (CR.cs hp2.1)) (hw4.mono (by omega) (by omega))
              · have y1 := c128
                refine P_iload dX6_runScript_131 rfl ?_
                refine P_iret dX6_runScript_133 rfl ?_
                have e9 : mscr 3 sk 3 0 (c, S) = some 1 := ((mscr_t (f := 2) y0).trans (mscr_f (f := 1) y1))
                exact g_ret ((if_neg (gt_f hgs9)).trans (by rw [show (nI 3).toInt.toNat = 3 from rfl, show (nL sk).toInt.toNat = sk from by rw [nL_toInt (by omega)]; rfl, e9]; rfl)) (hK.trial hw3 (CR.cs hp1.1)) (hw3.mono (by omega) (by omega))
            · have y0 := c128
              refine P_iload dX6_runScript_131 rfl ?_
              refine P_iret dX6_runScript_133 rfl ?_
              have e9 : mscr 3 sk 3 0 (c, S) = some 0 := (mscr_f (f := 2) y0)
              exact g_ret ((if_neg (gt_f hgs9)).trans (by rw [show (nI 3).toInt.toNat = 3 from rfl, show (nL sk).toInt.toNat = sk from by rw [nL_toInt (by omega)]; rfl, e9]; rfl)) (hK.trial hw2 (CR.cs hp0.1)) (hw2.mono (by omega) (by omega))
          · refine P_throwW (text := "the script is negative or has too many digits") vExA rfl (by decide +kernel) dX6_runScript_60 dX6_runScript_63 dX6_runScript_64 dX6_runScript_67 dX6_runScript_70 ⟨Nat.le_of_ble_eq_true rfl, Nat.le_of_ble_eq_true rfl⟩ (by decide) ?_
            exact g_thr (k := 0) (if_pos (by rw [show decide (0 ≤ s.toInt ∧ s.toInt < ((100000 ^ (nI 3).toInt.toNat : Nat) : Int)) = false from scr_out (Or.inr ⟨1000000000000000, rfl, by rw [lg_lt, l_lt, nL_toInt (n := ((1 * 100000) * 100000) * 100000) (by decide)] at c57; omega⟩), Bool.and_false])) rfl
    · refine P_throwW (text := "a script has 1 to 3 commands") vExA rfl (by decide +kernel) dX6_runScript_10 dX6_runScript_13 dX6_runScript_14 dX6_runScript_17 dX6_runScript_20 ⟨Nat.le_of_ble_eq_true rfl, Nat.le_of_ble_eq_true rfl⟩ (by decide) ?_
      exact g_thr (k := 0) (if_pos (by rw [gin_hi (lo := 1) (hi := 3) (by decide) (Int32.not_le.mp c7)]; rfl)) rfl
set_option maxHeartbeats 4000000 in
set_option maxRecDepth 100000 in
theorem c_X6_simulate {σ : vS} {v : vV} {c b n : Nat} {S : mS} {t : mN} {D : List mC} {sl : Nat → Option mC} {n8 : Int32} {x : Int64} (hT : kLT σ b) (hK : KT v b ((t, n), (c, S), D, sl)) {B : Nat} (hG : GI B ((t, n), (c, S), D, sl)) (hB : B + 6000000 < 1000000000) (hf : σ.2.2.2 = false) : vCX M_X6_simulate yX6_simulate [.ref (b), .long (x), .int (n8)] (σ, v) (qG σ v (fun v9 T => KT v9 b T) (fun v9 => vOw v v9 b 1603) (gNm [xIA]) (g_simulate ((t, n), (c, S), D, sl) x n8)) := by
  have hC : CR c v (b + 3) S := hK.c
  have hN : NB c S B := hG.1.1
  have hI : Iv c 1 S := hG.1.2
  have hc6 := hC.c6
  have ht : mTC v (b + 1) t n := hK.t
  refine vCX_of (ls := [some (.ref (b)), some (.long (x)), none, some (.int (n8)), none, none, none, none, none]) pn_X6 rfl rfl (Nat.le_of_ble_eq_true rfl) rfl ?_
  refine P_iload_n dX6_simulate_0 rfl rfl ?_
  refine P_iconst (v := nI 1) dX6_simulate_1 (by decide) ?_
  refine P_icmp_lt (tgt := 11) dX6_simulate_2 (by decide) (fun c2 => ?_) (fun c2 => ?_)
  · refine P_throwW (text := "the turns are not 1 to 60") vExA rfl (by decide +kernel) dX6_simulate_11 dX6_simulate_14 dX6_simulate_15 dX6_simulate_18 dX6_simulate_21 ⟨Nat.le_of_ble_eq_true rfl, Nat.le_of_ble_eq_true rfl⟩ (by decide) ?_
    exact g_thr (k := 0) (if_pos (gin_lo (lo := 1) (hi := 60) (by decide) c2)) rfl
  · refine P_iload_n dX6_simulate_5 rfl rfl ?_
    refine P_bipush (v := nI 60) dX6_simulate_6 (by decide) ?_
    refine P_icmp_le (tgt := 22) dX6_simulate_8 (by decide) (fun c8 => ?_) (fun c8 => ?_)
    · have hgi9 : gin n8 1 60 = true := gin_ok c2 (fun q => absurd c8 (Int32.not_le.mpr q)) (by decide) (by decide)
      obtain ⟨nk, nk0, nk1, rfl⟩ := gin_n (lo := 1) (hi := 60) (by decide) hgi9
      have hX0 : KC (B + 100) (c, S) := (show KC B (c, S) from hG.1).up (by omega)
      refine P_aload_n dX6_simulate_22 rfl rfl ?_
      refine P_getr (t := b + 171) dX6_simulate_23 kX6 fX6_26 rfl (by decide) hT.o hT.r3 hT.k3.o.1.2 ?_
      refine P_aload_n dX6_simulate_26 rfl rfl ?_
      refine P_getr (t := b + 3) dX6_simulate_27 kX6 fX6_19 rfl (by decide) hT.o hT.r1 hT.k1.o.1.2 ?_
      refine P_cVs (rest := []) (As := [.ref (b + 3)]) dX6_simulate_30 lX6_70 yk_X0_copyFrom yv_X0_copyFrom kX0 rfl (by decide) hT.k3.o rfl rfl (Nat.le_of_ble_eq_true rfl) rfl (c_X0_copyFrom hT.k3 hT.k1 (by omega) hC hK.tr) (fun v1 ⟨hC1, hw1⟩ => ?_)
      refine P_lload_n dX6_simulate_33 rfl rfl ?_
      refine P_lstore (ls2 := [some (.ref (b)), some (.long (x)), none, some (.int (nI (nk))), some (.long (x)), none, none, none, none]) dX6_simulate_34 (by decide) rfl ?_
      refine P_iconst (v := nI 0) dX6_simulate_36 (by decide) ?_
      refine P_istore (ls2 := [some (.ref (b)), some (.long (x)), none, some (.int (nI (nk))), some (.long (x)), none, some (.int (nI (0))), none, none]) dX6_simulate_37 (by decide) rfl ?_
      have hL39 : ∀ (n39 : Nat) (i : Nat) (v3 : vV), (i ≤ nk) → (i + n39 = nk + 1) → (CR (msim (c, S) x i).1 v3 (b + 171) (msim (c, S) x i).2) → (vOw v v3 (b + 171) 84) → vP M_X6_simulate 39 [some (.ref (b)), some (.long (x)), none, some (.int (nI (nk))), some (.long ((msx x i))), none, some (.int (nI (i))), none, none] [] ((vRm M_X6_simulate).cells, (vRm M_X6_simulate).slots) (σ, v3) (qG σ v (fun v9 T => KT v9 b T) (fun v9 => vOw v v9 b 1603) (gNm [xIA]) (g_simulate ((t, n), (c, S), D, sl) x (nI nk))) := by
        intro n39
        induction n39 with
        | zero =>
          intro i v3 h1 h2 hC3 hw3
          exact absurd h2 (by omega)
        | succ n39 ih39 =>
          intro i v3 h1 h2 hC3 hw3
          have hX3 := hX0.msim (by omega) x i
          refine P_iload dX6_simulate_39 rfl ?_
          refine P_iload_n dX6_simulate_41 rfl rfl ?_
          refine P_icmp_geN (tgt := 73) dX6_simulate_42 (by decide) (by omega) (by omega) (fun c42 => ?_) (fun c42 => ?_)
          · refine P_aload_n dX6_simulate_73 rfl rfl ?_
            refine P_getr (t := b + 171) dX6_simulate_74 kX6 fX6_26 rfl (by decide) hT.o hT.r3 hT.k3.o.1.2 ?_
            refine P_getiN (x := nI (gG ((msim (c, S) x i).2) 6)) dX6_simulate_77 kX0 fX6_114 rfl (by decide) hT.k3.o hC3.g8 ?_
            refine P_aload_n dX6_simulate_80 rfl rfl ?_
            refine P_getr (t := b + 3) dX6_simulate_81 kX6 fX6_19 rfl (by decide) hT.o hT.r1 hT.k1.o.1.2 ?_
            refine P_getiN (x := nI (gG S 6)) dX6_simulate_84 kX0 fX6_114 rfl (by decide) hT.k1.o (hC.ow hw3 (by omega)).g8 ?_
            refine P_isub dX6_simulate_87 ?_
            refine P_istore (ls2 := [some (.ref (b)), some (.long (x)), none, some (.int (nI (nk))), some (.long ((msx x i))), none, some (.int ((nI (gG ((msim (c, S) x i).2) 6) - nI (gG S 6)))), none, none]) dX6_simulate_88 (by decide) rfl ?_
            refine P_aload_n dX6_simulate_90 rfl rfl ?_
            refine P_getr (t := b + 171) dX6_simulate_91 kX6 fX6_26 rfl (by decide) hT.o hT.r3 hT.k3.o.1.2 ?_
            refine P_getiN (x := nI (gG ((msim (c, S) x i).2) 4)) dX6_simulate_94 kX0 fX6_108 rfl (by decide) hT.k3.o hC3.g6 ?_
            refine P_aload_n dX6_simulate_97 rfl rfl ?_
            refine P_getr (t := b + 3) dX6_simulate_98 kX6 fX6_19 rfl (by decide) hT.o hT.r1 hT.k1.o.1.2 ?_
            refine P_getiN (x := nI (gG S 4)) dX6_simulate_101 kX0 fX6_108 rfl (by decide) hT.k1.o (hC.ow hw3 (by omega)).g6 ?_
            refine P_isub dX6_simulate_104 ?_
            refine P_istore (ls2 := [some (.ref (b)), some (.long (x)), none, some (.int (nI (nk))), some (.long ((msx x i))), none, some (.int ((nI (gG ((msim (c, S) x i).2) 6) - nI (gG S 6)))), some (.int ((nI (gG ((msim (c, S) x i).2) 4) - nI (gG S 4)))), none]) dX6_simulate_105 (by decide) rfl ?_
            refine P_aload_n dX6_simulate_107 rfl rfl ?_
            refine P_getr (t := b + 171) dX6_simulate_108 kX6 fX6_26 rfl (by decide) hT.o hT.r3 hT.k3.o.1.2 ?_
            refine P_getiN (x := nI (gG ((msim (c, S) x i).2) 5)) dX6_simulate_111 kX0 fX6_111 rfl (by decide) hT.k3.o hC3.g7 ?_
            refine P_aload_n dX6_simulate_114 rfl rfl ?_
            refine P_getr (t := b + 3) dX6_simulate_115 kX6 fX6_19 rfl (by decide) hT.o hT.r1 hT.k1.o.1.2 ?_
            refine P_getiN (x := nI (gG S 5)) dX6_simulate_118 kX0 fX6_111 rfl (by decide) hT.k1.o (hC.ow hw3 (by omega)).g7 ?_
            refine P_isub dX6_simulate_121 ?_
            refine P_bipush (v := nI 99) dX6_simulate_122 (by decide) ?_
            refine P_mmin dX6_simulate_124 lX6_319 ⟨Nat.le_of_ble_eq_true rfl, Nat.le_of_ble_eq_true rfl⟩ ?_
            refine P_istore (ls2 := [some (.ref (b)), some (.long (x)), none, some (.int (nI (nk))), some (.long ((msx x i))), none, some (.int ((nI (gG ((msim (c, S) x i).2) 6) - nI (gG S 6)))), some (.int ((nI (gG ((msim (c, S) x i).2) 4) - nI (gG S 4)))), some (.int ((if nI (99) < (nI (gG (msim (c, S) x i).2 5) - nI (gG S 5)) then nI (99) else (nI (gG (msim (c, S) x i).2 5) - nI (gG S 5)))))]) dX6_simulate_127 (by decide) rfl ?_
            refine P_sipush (v := nI 10000) dX6_simulate_129 (by decide) ?_
            refine P_iload dX6_simulate_132 rfl ?_
            refine P_imul dX6_simulate_134 ?_
            refine P_bipush (v := nI 100) dX6_simulate_135 (by decide) ?_
            refine P_iload dX6_simulate_137 rfl ?_
            refine P_imul dX6_simulate_139 ?_
            refine P_iadd dX6_simulate_140 ?_
            refine P_iload dX6_simulate_141 rfl ?_
            refine P_iadd dX6_simulate_143 ?_
            refine P_iret dX6_simulate_144 rfl ?_
            exact g_ret ((if_neg (gt_f hgi9)).trans (by rw [nn (by omega), show i = nk by omega]; rfl)) (hK.trial hw3 hC3.cs) (hw3.mono (by omega) (by omega))
          · refine P_lload dX6_simulate_45 rfl ?_
            refine P_ldc2_w dX6_simulate_47 cX6_312 ?_
            refine P_lmul dX6_simulate_50 ?_
            refine P_ldc2_w dX6_simulate_51 cX6_314 ?_
            refine P_ladd dX6_simulate_54 ?_
            refine P_topL (y := msx x (i + 1)) rfl ?_
            refine P_lstore (ls2 := [some (.ref (b)), some (.long (x)), none, some (.int (nI (nk))), some (.long ((msx x (i + 1)))), none, some (.int (nI (i))), none, none]) dX6_simulate_55 (by decide) rfl ?_
            refine P_aload_n dX6_simulate_57 rfl rfl ?_
            refine P_lload dX6_simulate_58 rfl ?_
            refine P_bipush (v := nI 33) dX6_simulate_60 (by decide) ?_
            refine P_lushr dX6_simulate_62 ?_
            refine P_l2i dX6_simulate_63 ?_
            refine P_top (y := nI (rOf (msx x (i + 1)))) (sh33 _).1 ?_
            refine P_cVs (rest := []) (As := [.int (nI (rOf (msx x (i + 1))))]) dX6_simulate_64 lX6_316 yk_X6_takeTurn yv_X6_takeTurn kX6 rfl (by decide) hT.o rfl rfl (Nat.le_of_ble_eq_true rfl) rfl (c_X6_takeTurn hT hC3 hX3.1 (by omega) hX3.2 (sh33 _).2) (fun v4 hq => ?_)
            refine P_iinc (v := nI (i + 1)) (ls2 := [some (.ref (b)), some (.long (x)), none, some (.int (nI (nk))), some (.long ((msx x (i + 1)))), none, some (.int (nI (i + 1))), none, none]) dX6_simulate_67 rfl (nI_inc _ 1) (by decide) rfl ?_
            refine P_goto (tgt := 39) dX6_simulate_70 (by decide) ?_
            exact ih39 (i + 1) _ (by omega) (by omega) hq.1 (hw3.tr hq.2)
      exact hL39 (nk + 1) 0 v1 (by omega) (by omega) hC1 hw1
    · refine P_throwW (text := "the turns are not 1 to 60") vExA rfl (by decide +kernel) dX6_simulate_11 dX6_simulate_14 dX6_simulate_15 dX6_simulate_18 dX6_simulate_21 ⟨Nat.le_of_ble_eq_true rfl, Nat.le_of_ble_eq_true rfl⟩ (by decide) ?_
      exact g_thr (k := 0) (if_pos (gin_hi (lo := 1) (hi := 60) (by decide) (Int32.not_le.mp c8))) rfl
