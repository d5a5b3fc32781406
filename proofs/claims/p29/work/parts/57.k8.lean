
/-- what a command does: a truth, a club -/
def carP (v : vV) (b : Nat) (R : Bool × mC) : vV → Prop := fun v9 => CR R.2.1 v9 b R.2.2 ∧ vOw v v9 b 84
theorem car_t {σ : vS} {v v9 : vV} {b c : Nat} {S : mS} {R : Bool × mC} (e : R = (true, (c, S))) (hC : CR c v9 b S) (hO : vOw v v9 b 84) : vN (qS σ (some (.int (vb R.1))) (carP v b R)) (.inl (some (.int (nI 1)))) (σ, v9) := by
  subst e
  exact q_s rfl ⟨hC, hO⟩
theorem car_f {σ : vS} {v v9 : vV} {b c : Nat} {S : mS} {R : Bool × mC} (e : R = (false, (c, S))) (hC : CR c v9 b S) (hO : vOw v v9 b 84) : vN (qS σ (some (.int (vb R.1))) (carP v b R)) (.inl (some (.int (nI 0)))) (σ, v9) := by
  subst e
  exact q_s rfl ⟨hC, hO⟩
theorem car_x {σ : vS} {v v9 : vV} {b : Nat} {R : Bool × mC} (e : R.1 = true) (h : carP v b R v9) : vN (qS σ (some (.int (vb R.1))) (carP v b R)) (.inl (some (.int (nI 1)))) (σ, v9) := q_s (by rw [e]; rfl) h
theorem car_y {σ : vS} {v v9 : vV} {b : Nat} {R : Bool × mC} (e : R.1 = false) (h : carP v b R v9) : vN (qS σ (some (.int (vb R.1))) (carP v b R)) (.inl (some (.int (nI 0)))) (σ, v9) := q_s (by rw [e]; rfl) h
def kTk (X : mC) (n : Nat) : Bool × mC := if 1 ≤ n ∧ n ≤ 60 then kTicks X n else (false, X)
theorem rng_n {lo hi k : Nat} (hk : k < 2147483648) : decide ((lo : Int) ≤ (nI k).toInt ∧ (nI k).toInt ≤ (hi : Int)) = decide (lo ≤ k ∧ k ≤ hi) := by
  rw [nI_toInt hk]
  exact decide_eq_decide.mpr ⟨fun q => ⟨by omega, by omega⟩, fun q => ⟨by omega, by omega⟩⟩
set_option maxHeartbeats 4000000 in
set_option maxRecDepth 100000 in
theorem c_X6_isPlace {μ : vM} {x : Int32} : vC M_X6_isPlace yX6_isPlace [.int (x)] μ (qP μ (.int (vb (decide ((0 : Int) ≤ x.toInt ∧ x.toInt ≤ (9 : Int)))))) := by
  refine vC_of (ls := [some (.int (x))]) pn_X6 rfl rfl (Nat.le_of_ble_eq_true rfl) rfl ?_
  refine P_iload_n dX6_isPlace_0 rfl rfl ?_
  refine P_if_lt (tgt := 14) dX6_isPlace_1 (by decide) (fun c1 => ?_) (fun c1 => ?_)
  · refine P_iconst (v := nI 0) dX6_isPlace_14 (by decide) ?_
    refine P_zret dX6_isPlace_15 rfl (by decide) ?_
    exact q_fD (fun q => by have q9 := c1; simp only [i_lt, i_le, i_0, nI_toInt (show 0 < 2147483648 by decide), nI_toInt (show 9 < 2147483648 by decide)] at q9; omega)
  · refine P_iload_n dX6_isPlace_4 rfl rfl ?_
    refine P_bipush (v := nI 9) dX6_isPlace_5 (by decide) ?_
    refine P_icmp_gt (tgt := 14) dX6_isPlace_7 (by decide) (fun c7 => ?_) (fun c7 => ?_)
    · refine P_iconst (v := nI 0) dX6_isPlace_14 (by decide) ?_
      refine P_zret dX6_isPlace_15 rfl (by decide) ?_
      exact q_fD (fun q => by have q9 := c7; simp only [i_lt, i_le, i_0, nI_toInt (show 0 < 2147483648 by decide), nI_toInt (show 9 < 2147483648 by decide)] at q9; omega)
    · refine P_iconst (v := nI 1) dX6_isPlace_10 (by decide) ?_
      refine P_goto (tgt := 15) dX6_isPlace_11 (by decide) ?_
      refine P_zret dX6_isPlace_15 rfl (by decide) ?_
      exact q_tD ⟨by have q9 := c1; simp only [i_lt, i_le, i_0, nI_toInt (show 0 < 2147483648 by decide), nI_toInt (show 9 < 2147483648 by decide)] at q9; omega, by have q9 := c7; simp only [i_lt, i_le, i_0, nI_toInt (show 0 < 2147483648 by decide), nI_toInt (show 9 < 2147483648 by decide)] at q9; omega⟩
set_option maxHeartbeats 4000000 in
set_option maxRecDepth 100000 in
theorem c_X6_isPatience {μ : vM} {x : Int32} : vC M_X6_isPatience yX6_isPatience [.int (x)] μ (qP μ (.int (vb (decide ((0 : Int) ≤ x.toInt ∧ x.toInt ≤ (40 : Int)))))) := by
  refine vC_of (ls := [some (.int (x))]) pn_X6 rfl rfl (Nat.le_of_ble_eq_true rfl) rfl ?_
  refine P_iload_n dX6_isPatience_0 rfl rfl ?_
  refine P_if_lt (tgt := 14) dX6_isPatience_1 (by decide) (fun c1 => ?_) (fun c1 => ?_)
  · refine P_iconst (v := nI 0) dX6_isPatience_14 (by decide) ?_
    refine P_zret dX6_isPatience_15 rfl (by decide) ?_
    exact q_fD (fun q => by have q9 := c1; simp only [i_lt, i_le, i_0, nI_toInt (show 0 < 2147483648 by decide), nI_toInt (show 40 < 2147483648 by decide)] at q9; omega)
  · refine P_iload_n dX6_isPatience_4 rfl rfl ?_
    refine P_bipush (v := nI 40) dX6_isPatience_5 (by decide) ?_
    refine P_icmp_gt (tgt := 14) dX6_isPatience_7 (by decide) (fun c7 => ?_) (fun c7 => ?_)
    · refine P_iconst (v := nI 0) dX6_isPatience_14 (by decide) ?_
      refine P_zret dX6_isPatience_15 rfl (by decide) ?_
      exact q_fD (fun q => by have q9 := c7; simp only [i_lt, i_le, i_0, nI_toInt (show 0 < 2147483648 by decide), nI_toInt (show 40 < 2147483648 by decide)] at q9; omega)
    · refine P_iconst (v := nI 1) dX6_isPatience_10 (by decide) ?_
      refine P_goto (tgt := 15) dX6_isPatience_11 (by decide) ?_
      refine P_zret dX6_isPatience_15 rfl (by decide) ?_
      exact q_tD ⟨by have q9 := c1; simp only [i_lt, i_le, i_0, nI_toInt (show 0 < 2147483648 by decide), nI_toInt (show 40 < 2147483648 by decide)] at q9; omega, by have q9 := c7; simp only [i_lt, i_le, i_0, nI_toInt (show 0 < 2147483648 by decide), nI_toInt (show 40 < 2147483648 by decide)] at q9; omega⟩
set_option maxHeartbeats 4000000 in
set_option maxRecDepth 100000 in
theorem c_X6_areTicks {μ : vM} {x : Int32} : vC M_X6_areTicks yX6_areTicks [.int (x)] μ (qP μ (.int (vb (decide ((1 : Int) ≤ x.toInt ∧ x.toInt ≤ (60 : Int)))))) := by
  refine vC_of (ls := [some (.int (x))]) pn_X6 rfl rfl (Nat.le_of_ble_eq_true rfl) rfl ?_
  refine P_iload_n dX6_areTicks_0 rfl rfl ?_
  refine P_iconst (v := nI 1) dX6_areTicks_1 (by decide) ?_
  refine P_icmp_lt (tgt := 15) dX6_areTicks_2 (by decide) (fun c2 => ?_) (fun c2 => ?_)
  · refine P_iconst (v := nI 0) dX6_areTicks_15 (by decide) ?_
    refine P_zret dX6_areTicks_16 rfl (by decide) ?_
    exact q_fD (fun q => by have q9 := c2; simp only [i_lt, i_le, i_0, nI_toInt (show 1 < 2147483648 by decide), nI_toInt (show 60 < 2147483648 by decide)] at q9; omega)
  · refine P_iload_n dX6_areTicks_5 rfl rfl ?_
    refine P_bipush (v := nI 60) dX6_areTicks_6 (by decide) ?_
    refine P_icmp_gt (tgt := 15) dX6_areTicks_8 (by decide) (fun c8 => ?_) (fun c8 => ?_)
    · refine P_iconst (v := nI 0) dX6_areTicks_15 (by decide) ?_
      refine P_zret dX6_areTicks_16 rfl (by decide) ?_
      exact q_fD (fun q => by have q9 := c8; simp only [i_lt, i_le, i_0, nI_toInt (show 1 < 2147483648 by decide), nI_toInt (show 60 < 2147483648 by decide)] at q9; omega)
    · refine P_iconst (v := nI 1) dX6_areTicks_11 (by decide) ?_
      refine P_goto (tgt := 16) dX6_areTicks_12 (by decide) ?_
      refine P_zret dX6_areTicks_16 rfl (by decide) ?_
      exact q_tD ⟨by have q9 := c2; simp only [i_lt, i_le, i_0, nI_toInt (show 1 < 2147483648 by decide), nI_toInt (show 60 < 2147483648 by decide)] at q9; omega, by have q9 := c8; simp only [i_lt, i_le, i_0, nI_toInt (show 1 < 2147483648 by decide), nI_toInt (show 60 < 2147483648 by decide)] at q9; omega⟩
set_option maxHeartbeats 4000000 in
set_option maxRecDepth 100000 in
theorem c_by_s {σ : vS} {v : vV} {c b : Nat} {S : mS} {m : Nat} {y : Int32} (hq : kLC σ b) (hC : CR c v b S) {B : Nat} (hN : NB c S B) (hB : B + 100000 < 1000000000) (hI : Iv c 1 S) (hm : m < c) : vC M_X0_carryOutBy yX0_carryOutBy [.ref (b), .int (nI (m)), .int (nI (115)), .int (y)] (σ, v) (qS σ (some (.int (vb (kSay (c, S) m).1))) (carP v b (kSay (c, S) m))) := by
  have hc6 := hC.c6
  have hO : vOw v v b 84 := vOw.rf
  refine vC_of (ls := [some (.ref (b)), some (.int (nI (m))), some (.int (nI (115))), some (.int (y))]) pn_X0 rfl rfl (Nat.le_of_ble_eq_true rfl) rfl ?_
  refine P_iload_n dX0_carryOutBy_0 rfl rfl ?_
  refine P_lsw (off := 43) (tgt := 44) dX0_carryOutBy_1 (by decide) (by rw [vsw_int (k := 115) rfl (by decide)]; rfl) (by decide) ?_
  refine P_aload_n dX0_carryOutBy_44 rfl rfl ?_
  refine P_getr (t := b + 1) dX0_carryOutBy_45 kX0 fX0_11 rfl (by decide) hq.o hq.r0 hq.k1.1.2 ?_
  refine P_iload_n dX0_carryOutBy_48 rfl rfl ?_
  refine P_aaldM (t := b + 6 + 13 * m) (m) dX0_carryOutBy_49 hq.k1 rfl (by omega) (by decide) (hq.e (by omega)) (hq.m (by omega)).o.1.2 ?_
  refine P_cVp (rest := []) (As := []) dX0_carryOutBy_50 lX0_126 yk_X2_maySpeak yv_X2_maySpeak kX2 rfl (by decide) (hq.m (by omega)).o rfl rfl (Nat.le_of_ble_eq_true rfl) rfl (c_X2_maySpeak hq hC hN (by omega) (by omega)) ?_
  refine P_bif_ne (tgt := 58) dX0_carryOutBy_53 (by decide) (fun c53 => ?_) (fun c53 => ?_)
  · obtain ⟨z1, z2⟩ := of_decide_eq_true c53
    refine P_aload_n dX0_carryOutBy_58 rfl rfl ?_
    refine P_iload_n dX0_carryOutBy_59 rfl rfl ?_
    refine P_cVs (rest := []) (As := [.int (nI (m))]) dX0_carryOutBy_60 lX0_130 yk_X0_speak yv_X0_speak kX0 rfl (by decide) hq.o rfl rfl (Nat.le_of_ble_eq_true rfl) rfl (c_X0_speak hq hC hN (by omega) hm z2) (fun v3 ⟨hC1, hO2⟩ => ?_)
    replace hO2 := hO.tr hO2
    refine P_pop dX0_carryOutBy_63 rfl ?_
    refine P_iconst (v := nI 1) dX0_carryOutBy_64 (by decide) ?_
    refine P_zret dX0_carryOutBy_65 rfl (by decide) ?_
    exact car_t (if_pos ⟨hm, z1, z2⟩) hC1 hO2
  · refine P_iconst (v := nI 0) dX0_carryOutBy_56 (by decide) ?_
    refine P_zret dX0_carryOutBy_57 rfl (by decide) ?_
    exact car_f (if_neg (fun q => of_decide_eq_false c53 q.2)) hC hO
set_option maxHeartbeats 4000000 in
set_option maxRecDepth 100000 in
theorem c_by_c {σ : vS} {v : vV} {c b : Nat} {S : mS} {m : Nat} {s : Nat} (hs : s < 2147483648) (hq : kLC σ b) (hC : CR c v b S) {B : Nat} (hN : NB c S B) (hB : B + 100000 < 1000000000) (hI : Iv c 1 S) (hm : m < c) : vC M_X0_carryOutBy yX0_carryOutBy [.ref (b), .int (nI (m)), .int (nI (99)), .int (nI (s))] (σ, v) (qS σ (some (.int (vb (kCall (c, S) m s).1))) (carP v b (kCall (c, S) m s))) := by
  have hc6 := hC.c6
  have hO : vOw v v b 84 := vOw.rf
  refine vC_of (ls := [some (.ref (b)), some (.int (nI (m))), some (.int (nI (99))), some (.int (nI (s)))]) pn_X0 rfl rfl (Nat.le_of_ble_eq_true rfl) rfl ?_
  refine P_iload_n dX0_carryOutBy_0 rfl rfl ?_
  refine P_lsw (off := 65) (tgt := 66) dX0_carryOutBy_1 (by decide) (by rw [vsw_int (k := 99) rfl (by decide)]; rfl) (by decide) ?_
  refine P_aload_n dX0_carryOutBy_66 rfl rfl ?_
  refine P_iload_n dX0_carryOutBy_67 rfl rfl ?_
  refine P_iload_n dX0_carryOutBy_68 rfl rfl ?_
  refine P_cVp (rest := []) (As := [.int (nI (m)), .int (nI (s))]) dX0_carryOutBy_69 lX0_133 yk_X0_isRollWith yv_X0_isRollWith kX0 rfl (by decide) hq.o rfl rfl (Nat.le_of_ble_eq_true rfl) rfl (c_X0_isRollWith hq hC (by omega)) ?_
  refine P_top (y := vb (decide (s < 2 ^ c) && s.testBit m)) (by rw [mset_n hs]) ?_
  refine P_bif_eq (tgt := 83) dX0_carryOutBy_72 (by decide) (fun c72 => ?_) (fun c72 => ?_)
  · refine P_iconst (v := nI 0) dX0_carryOutBy_83 (by decide) ?_
    refine P_zret dX0_carryOutBy_84 rfl (by decide) ?_
    exact car_f (if_neg (fun q => by rw [decide_eq_true q.2.1.1, q.2.1.2] at c72; exact Bool.noConfusion c72)) hC hO
  · obtain ⟨z1, z2⟩ := Bool.and_eq_true_iff.mp c72
    replace z1 := of_decide_eq_true z1
    have h64 := two_c hc6
    obtain ⟨F, hMP, -⟩ := hI.2
    refine P_aload_n dX0_carryOutBy_75 rfl rfl ?_
    refine P_iload_n dX0_carryOutBy_76 rfl rfl ?_
    refine P_cVp (rest := []) (As := [.int (nI (m))]) dX0_carryOutBy_77 lX0_136 yk_X0_isGone yv_X0_isGone kX0 rfl (by decide) hq.o rfl rfl (Nat.le_of_ble_eq_true rfl) rfl (c_X0_isGone hq hC hN (by omega) (by omega)) ?_
    refine P_bif_eq (tgt := 85) dX0_carryOutBy_80 (by decide) (fun c80 => ?_) (fun c80 => ?_)
    · refine P_aload_n dX0_carryOutBy_85 rfl rfl ?_
      refine P_iload_n dX0_carryOutBy_86 rfl rfl ?_
      refine P_iload_n dX0_carryOutBy_87 rfl rfl ?_
      refine P_cVs (rest := []) (As := [.int (nI (m)), .int (nI (s))]) dX0_carryOutBy_88 lX0_139 yk_X0_callRoll yv_X0_callRoll kX0 rfl (by decide) hq.o rfl rfl (Nat.le_of_ble_eq_true rfl) rfl (c_X0_callRoll hq hC hN (by omega) hm (by omega) z2 (hMP m hm).1.1) (fun v3 ⟨hC1, hO2⟩ => ?_)
      replace hO2 := hO.tr hO2
      refine P_pop dX0_carryOutBy_91 rfl ?_
      refine P_iconst (v := nI 1) dX0_carryOutBy_92 (by decide) ?_
      refine P_zret dX0_carryOutBy_93 rfl (by decide) ?_
      exact car_t (if_pos ⟨hm, ⟨z1, z2⟩, of_decide_eq_false c80⟩) hC1 hO2
    · refine P_iconst (v := nI 0) dX0_carryOutBy_83 (by decide) ?_
      refine P_zret dX0_carryOutBy_84 rfl (by decide) ?_
      exact car_f (if_neg (fun q => q.2.2 (of_decide_eq_true c80))) hC hO
set_option maxHeartbeats 4000000 in
set_option maxRecDepth 100000 in
theorem c_by_g {σ : vS} {v : vV} {c b : Nat} {S : mS} {m : Nat} {y : Int32} (hq : kLC σ b) (hC : CR c v b S) {B : Nat} (hN : NB c S B) (hB : B + 100000 < 1000000000) (hI : Iv c 1 S) (hm : m < c) : vC M_X0_carryOutBy yX0_carryOutBy [.ref (b), .int (nI (m)), .int (nI (103)), .int (y)] (σ, v) (qS σ (some (.int (vb (kLeave (c, S) m).1))) (carP v b (kLeave (c, S) m))) := by
  have hc6 := hC.c6
  have hO : vOw v v b 84 := vOw.rf
  refine vC_of (ls := [some (.ref (b)), some (.int (nI (m))), some (.int (nI (103))), some (.int (y))]) pn_X0 rfl rfl (Nat.le_of_ble_eq_true rfl) rfl ?_
  refine P_iload_n dX0_carryOutBy_0 rfl rfl ?_
  refine P_lsw (off := 93) (tgt := 94) dX0_carryOutBy_1 (by decide) (by rw [vsw_int (k := 103) rfl (by decide)]; rfl) (by decide) ?_
  refine P_aload_n dX0_carryOutBy_94 rfl rfl ?_
  refine P_iload_n dX0_carryOutBy_95 rfl rfl ?_
  refine P_cVp (rest := []) (As := [.int (nI (m))]) dX0_carryOutBy_96 lX0_136 yk_X0_isGone yv_X0_isGone kX0 rfl (by decide) hq.o rfl rfl (Nat.le_of_ble_eq_true rfl) rfl (c_X0_isGone hq hC hN (by omega) (by omega)) ?_
  refine P_bif_eq (tgt := 104) dX0_carryOutBy_99 (by decide) (fun c99 => ?_) (fun c99 => ?_)
  · refine P_aload_n dX0_carryOutBy_104 rfl rfl ?_
    refine P_getr (t := b + 1) dX0_carryOutBy_105 kX0 fX0_11 rfl (by decide) hq.o hq.r0 hq.k1.1.2 ?_
    refine P_iload_n dX0_carryOutBy_108 rfl rfl ?_
    refine P_aaldM (t := b + 6 + 13 * m) (m) dX0_carryOutBy_109 hq.k1 rfl (by omega) (by decide) (hq.e (by omega)) (hq.m (by omega)).o.1.2 ?_
    refine P_cVs (rest := []) (As := []) dX0_carryOutBy_110 lX0_143 yk_X2_goAway yv_X2_goAway kX2 rfl (by decide) (hq.m (by omega)).o rfl rfl (Nat.le_of_ble_eq_true rfl) rfl (c_X2_goAway hq hC (by omega)) (fun v3 ⟨hC1, hO2⟩ => ?_)
    replace hO2 := hO.tr hO2
    refine P_iconst (v := nI 1) dX0_carryOutBy_113 (by decide) ?_
    refine P_zret dX0_carryOutBy_114 rfl (by decide) ?_
    exact car_t (if_pos ⟨hm, of_decide_eq_false c99⟩) hC1 hO2
  · refine P_iconst (v := nI 0) dX0_carryOutBy_102 (by decide) ?_
    refine P_zret dX0_carryOutBy_103 rfl (by decide) ?_
    exact car_f (if_neg (fun q => q.2 (of_decide_eq_true c99))) hC hO
set_option maxHeartbeats 4000000 in
set_option maxRecDepth 100000 in
theorem c_by_b {σ : vS} {v : vV} {c b : Nat} {S : mS} {m : Nat} {y : Int32} (hq : kLC σ b) (hC : CR c v b S) {B : Nat} (hN : NB c S B) (hB : B + 100000 < 1000000000) (hI : Iv c 1 S) (hm : m < c) : vC M_X0_carryOutBy yX0_carryOutBy [.ref (b), .int (nI (m)), .int (nI (98)), .int (y)] (σ, v) (qS σ (some (.int (vb (kBack (c, S) m).1))) (carP v b (kBack (c, S) m))) := by
  have hc6 := hC.c6
  have hO : vOw v v b 84 := vOw.rf
  refine vC_of (ls := [some (.ref (b)), some (.int (nI (m))), some (.int (nI (98))), some (.int (y))]) pn_X0 rfl rfl (Nat.le_of_ble_eq_true rfl) rfl ?_
  refine P_iload_n dX0_carryOutBy_0 rfl rfl ?_
  refine P_lsw (off := 114) (tgt := 115) dX0_carryOutBy_1 (by decide) (by rw [vsw_int (k := 98) rfl (by decide)]; rfl) (by decide) ?_
  refine P_aload_n dX0_carryOutBy_115 rfl rfl ?_
  refine P_iload_n dX0_carryOutBy_116 rfl rfl ?_
  refine P_cVp (rest := []) (As := [.int (nI (m))]) dX0_carryOutBy_117 lX0_136 yk_X0_isGone yv_X0_isGone kX0 rfl (by decide) hq.o rfl rfl (Nat.le_of_ble_eq_true rfl) rfl (c_X0_isGone hq hC hN (by omega) (by omega)) ?_
  refine P_bif_ne (tgt := 125) dX0_carryOutBy_120 (by decide) (fun c120 => ?_) (fun c120 => ?_)
  · obtain ⟨F, hMP, -⟩ := hI.2
    obtain ⟨o1, o2, o3, o4, o5, o6, o7, o8⟩ := (hMP m hm).1
    have z1 := of_decide_eq_true c120
    obtain ⟨z9, zk⟩ := o8 z1
    refine P_aload_n dX0_carryOutBy_125 rfl rfl ?_
    refine P_getr (t := b + 1) dX0_carryOutBy_126 kX0 fX0_11 rfl (by decide) hq.o hq.r0 hq.k1.1.2 ?_
    refine P_iload_n dX0_carryOutBy_129 rfl rfl ?_
    refine P_aaldM (t := b + 6 + 13 * m) (m) dX0_carryOutBy_130 hq.k1 rfl (by omega) (by decide) (hq.e (by omega)) (hq.m (by omega)).o.1.2 ?_
    refine P_cVs (rest := []) (As := []) dX0_carryOutBy_131 lX0_146 yk_X2_comeBack yv_X2_comeBack kX2 rfl (by decide) (hq.m (by omega)).o rfl rfl (Nat.le_of_ble_eq_true rfl) rfl (c_X2_comeBack hq hC hN (by omega) (by omega) zk (o6 z9).1 z9 (o6 z9).2 o1) (fun v3 ⟨hC1, hO2⟩ => ?_)
    replace hO2 := hO.tr hO2
    refine P_iconst (v := nI 1) dX0_carryOutBy_134 (by decide) ?_
    refine P_zret dX0_carryOutBy_135 rfl (by decide) ?_
    exact car_t (if_pos ⟨hm, z1⟩) hC1 hO2
  · refine P_iconst (v := nI 0) dX0_carryOutBy_123 (by decide) ?_
    refine P_zret dX0_carryOutBy_124 rfl (by decide) ?_
    exact car_f (if_neg (fun q => of_decide_eq_false c120 q.2)) hC hO
set_option maxHeartbeats 4000000 in
set_option maxRecDepth 100000 in
theorem c_car_m {σ : vS} {v : vV} {c b : Nat} {S : mS} {p : Nat} {y : Int32} (hp : p ≤ 9) (hq : kLC σ b) (hC : CR c v b S) {B : Nat} (hN : NB c S B) (hB : B + 100000 < 1000000000) (hI : Iv c 1 S) : vC M_X0_carryOut yX0_carryOut [.ref (b), .int (nI (109)), .int (nI (p)), .int (y)] (σ, v) (qS σ (some (.int (vb (kAdd (c, S) p).1))) (carP v b (kAdd (c, S) p))) := by
  have hc6 := hC.c6
  have hO : vOw v v b 84 := vOw.rf
  refine vC_of (ls := [some (.ref (b)), some (.int (nI (109))), some (.int (nI (p))), some (.int (y))]) pn_X0 rfl rfl (Nat.le_of_ble_eq_true rfl) rfl ?_
  refine P_iload_n dX0_carryOut_0 rfl rfl ?_
  refine P_lsw (off := 51) (tgt := 52) dX0_carryOut_1 (by decide) (by rw [vsw_int (k := 109) rfl (by decide)]; rfl) (by decide) ?_
  refine P_iload_n dX0_carryOut_52 rfl rfl ?_
  refine P_cSNp (rest := []) (As := [.int (nI (p))]) dX0_carryOut_53 lnX0_98 yk_X6_isPlace ys_X6_isPlace (by decide) rfl rfl (Nat.le_of_ble_eq_true rfl) rfl (c_X6_isPlace) ?_
  refine P_top (y := vb true) (congrArg vb ((rng_n (lo := 0) (hi := 9) (show p < 2147483648 by omega)).trans (decide_eq_true ⟨Nat.zero_le _, hp⟩))) ?_
  refine P_bif_eq (tgt := 68) dX0_carryOut_56 (by decide) (fun c56 => ?_) (fun c56 => ?_)
  · exact Bool.noConfusion c56
  · refine P_aload_n dX0_carryOut_59 rfl rfl ?_
    refine P_getiN (x := nI (c)) dX0_carryOut_60 kX0 fX0_38 rfl (by decide) hq.o hC.g3 ?_
    refine P_bipush (v := nI 6) dX0_carryOut_63 (by decide) ?_
    refine P_icmp_ltN (tgt := 70) dX0_carryOut_65 (by decide) (by omega) (by omega) (fun c65 => ?_) (fun c65 => ?_)
    · refine P_aload_n dX0_carryOut_70 rfl rfl ?_
      refine P_iload_n dX0_carryOut_71 rfl rfl ?_
      refine P_cVs (rest := []) (As := [.int (nI (p))]) dX0_carryOut_72 lX0_102 yk_X0_addMember yv_X0_addMember kX0 rfl (by decide) hq.o rfl rfl (Nat.le_of_ble_eq_true rfl) rfl (c_X0_addMember hq hC (by omega)) (fun v3 ⟨hC1, hO2⟩ => ?_)
      replace hO2 := hO.tr hO2
      refine P_pop dX0_carryOut_75 rfl ?_
      refine P_iconst (v := nI 1) dX0_carryOut_76 (by decide) ?_
      refine P_zret dX0_carryOut_77 rfl (by decide) ?_
      exact car_t (if_pos (show c < 6 by omega)) hC1 hO2
    · refine P_iconst (v := nI 0) dX0_carryOut_68 (by decide) ?_
      refine P_zret dX0_carryOut_69 rfl (by decide) ?_
      exact car_f (if_neg (show ¬ c < 6 by omega)) hC hO
set_option maxHeartbeats 4000000 in
set_option maxRecDepth 100000 in
theorem c_car_p {σ : vS} {v : vV} {c b : Nat} {S : mS} {p : Nat} {y : Int32} (hp : p ≤ 40) (hq : kLC σ b) (hC : CR c v b S) {B : Nat} (hN : NB c S B) (hB : B + 100000 < 1000000000) (hI : Iv c 1 S) : vC M_X0_carryOut yX0_carryOut [.ref (b), .int (nI (112)), .int (nI (p)), .int (y)] (σ, v) (qS σ (some (.int (vb (kSet (c, S) p).1))) (carP v b (kSet (c, S) p))) := by
  have hc6 := hC.c6
  have hO : vOw v v b 84 := vOw.rf
  refine vC_of (ls := [some (.ref (b)), some (.int (nI (112))), some (.int (nI (p))), some (.int (y))]) pn_X0 rfl rfl (Nat.le_of_ble_eq_true rfl) rfl ?_
  refine P_iload_n dX0_carryOut_0 rfl rfl ?_
  refine P_lsw (off := 77) (tgt := 78) dX0_carryOut_1 (by decide) (by rw [vsw_int (k := 112) rfl (by decide)]; rfl) (by decide) ?_
  refine P_iload_n dX0_carryOut_78 rfl rfl ?_
  refine P_cSNp (rest := []) (As := [.int (nI (p))]) dX0_carryOut_79 lnX0_106 yk_X6_isPatience ys_X6_isPatience (by decide) rfl rfl (Nat.le_of_ble_eq_true rfl) rfl (c_X6_isPatience) ?_
  refine P_top (y := vb true) (congrArg vb ((rng_n (lo := 0) (hi := 40) (show p < 2147483648 by omega)).trans (decide_eq_true ⟨Nat.zero_le _, hp⟩))) ?_
  refine P_bif_ne (tgt := 87) dX0_carryOut_82 (by decide) (fun c82 => ?_) (fun c82 => ?_)
  · refine P_aload_n dX0_carryOut_87 rfl rfl ?_
    refine P_iload_n dX0_carryOut_88 rfl rfl ?_
    refine P_puti dX0_carryOut_89 kX0 fX0_45 rfl (by decide) rfl hq.o ?_
    have hC1 : CR c (vU v b 5 (nI (p))) b (sG S 7 p) := (hC.G (k := 5) (x := p) (by decide))
    have hO2 : vOw v (vU v b 5 (nI (p))) b 84 := hO.u (by omega) (by omega)
    generalize vU v b 5 (nI (p)) = v3 at hC1 hO2 ⊢
    refine P_iconst (v := nI 1) dX0_carryOut_92 (by decide) ?_
    refine P_zret dX0_carryOut_93 rfl (by decide) ?_
    exact car_t rfl hC1 hO2
  · exact Bool.noConfusion c82
set_option maxHeartbeats 4000000 in
set_option maxRecDepth 100000 in
theorem c_car_t {σ : vS} {v : vV} {c b : Nat} {S : mS} {p : Nat} {y : Int32} (hp : p < 2147483648) (hq : kLC σ b) (hC : CR c v b S) {B : Nat} (hN : NB c S B) (hB : B + 100000 < 1000000000) (hI : Iv c 1 S) : vC M_X0_carryOut yX0_carryOut [.ref (b), .int (nI (116)), .int (nI (p)), .int (y)] (σ, v) (qS σ (some (.int (vb (kTk (c, S) p).1))) (carP v b (kTk (c, S) p))) := by
  have hc6 := hC.c6
  have hO : vOw v v b 84 := vOw.rf
  refine vC_of (ls := [some (.ref (b)), some (.int (nI (116))), some (.int (nI (p))), some (.int (y))]) pn_X0 rfl rfl (Nat.le_of_ble_eq_true rfl) rfl ?_
  refine P_iload_n dX0_carryOut_0 rfl rfl ?_
  refine P_lsw (off := 93) (tgt := 94) dX0_carryOut_1 (by decide) (by rw [vsw_int (k := 116) rfl (by decide)]; rfl) (by decide) ?_
  refine P_iload_n dX0_carryOut_94 rfl rfl ?_
  refine P_cSNp (rest := []) (As := [.int (nI (p))]) dX0_carryOut_95 lnX0_109 yk_X6_areTicks ys_X6_areTicks (by decide) rfl rfl (Nat.le_of_ble_eq_true rfl) rfl (c_X6_areTicks) ?_
  refine P_top (y := vb (decide (1 ≤ p ∧ p ≤ 60))) (by rw [← rng_n (lo := 1) (hi := 60) hp]; rfl) ?_
  refine P_bif_ne (tgt := 103) dX0_carryOut_98 (by decide) (fun c98 => ?_) (fun c98 => ?_)
  · have z := of_decide_eq_true c98
    refine P_aload_n dX0_carryOut_103 rfl rfl ?_
    refine P_iload_n dX0_carryOut_104 rfl rfl ?_
    refine P_cVs (rest := []) (As := [.int (nI (p))]) dX0_carryOut_105 lX0_112 yk_X0_letTicksGo yv_X0_letTicksGo kX0 rfl (by decide) hq.o rfl rfl (Nat.le_of_ble_eq_true rfl) rfl (c_X0_letTicksGo hq hC hN hB hI z.2) (fun v3 ⟨hC1, hO2⟩ => ?_)
    replace hO2 := hO.tr hO2
    refine P_iconst (v := nI 1) dX0_carryOut_108 (by decide) ?_
    refine P_zret dX0_carryOut_109 rfl (by decide) ?_
    exact car_t (if_pos z) hC1 hO2
  · refine P_iconst (v := nI 0) dX0_carryOut_101 (by decide) ?_
    refine P_zret dX0_carryOut_102 rfl (by decide) ?_
    exact car_f (if_neg (of_decide_eq_false c98)) hC hO
set_option maxHeartbeats 4000000 in
set_option maxRecDepth 100000 in
theorem c_car_x {σ : vS} {v : vV} {c b : Nat} {S : mS} {a d : Nat} (ha : a < 1000) (hd : d < 1000) (hq : kLC σ b) (hC : CR c v b S) {B : Nat} (hN : NB c S B) (hB : B + 100000 < 1000000000) (hI : Iv c 1 S) : vC M_X0_carryOut yX0_carryOut [.ref (b), .int (nI (120)), .int (nI (a)), .int (nI (d))] (σ, v) (qS σ (some (.int (vb (kCut (c, S) a d true).1))) (carP v b (kCut (c, S) a d true))) := by
  have hc6 := hC.c6
  have hO : vOw v v b 84 := vOw.rf
  refine vC_of (ls := [some (.ref (b)), some (.int (nI (120))), some (.int (nI (a))), some (.int (nI (d)))]) pn_X0 rfl rfl (Nat.le_of_ble_eq_true rfl) rfl ?_
  refine P_iload_n dX0_carryOut_0 rfl rfl ?_
  refine P_lsw (off := 109) (tgt := 110) dX0_carryOut_1 (by decide) (by rw [vsw_int (k := 120) rfl (by decide)]; rfl) (by decide) ?_
  refine P_aload_n dX0_carryOut_110 rfl rfl ?_
  refine P_iload_n dX0_carryOut_111 rfl rfl ?_
  refine P_cVp (rest := []) (As := [.int (nI (a))]) dX0_carryOut_112 lX0_115 yk_X0_hasMember yv_X0_hasMember kX0 rfl (by decide) hq.o rfl rfl (Nat.le_of_ble_eq_true rfl) rfl (c_X0_hasMember hq hC) ?_
  refine P_top (y := vb (decide (a < c))) (by rw [mb_n (by omega)]) ?_
  refine P_bif_eq (tgt := 131) dX0_carryOut_115 (by decide) (fun c115 => ?_) (fun c115 => ?_)
  · refine P_iconst (v := nI 0) dX0_carryOut_131 (by decide) ?_
    refine P_zret dX0_carryOut_132 rfl (by decide) ?_
    exact car_f (if_neg (fun q => of_decide_eq_false c115 q.1.1)) hC hO
  · refine P_aload_n dX0_carryOut_118 rfl rfl ?_
    refine P_iload_n dX0_carryOut_119 rfl rfl ?_
    refine P_cVp (rest := []) (As := [.int (nI (d))]) dX0_carryOut_120 lX0_115 yk_X0_hasMember yv_X0_hasMember kX0 rfl (by decide) hq.o rfl rfl (Nat.le_of_ble_eq_true rfl) rfl (c_X0_hasMember hq hC) ?_
    refine P_top (y := vb (decide (d < c))) (by rw [mb_n (by omega)]) ?_
    refine P_bif_eq (tgt := 131) dX0_carryOut_123 (by decide) (fun c123 => ?_) (fun c123 => ?_)
    · refine P_iconst (v := nI 0) dX0_carryOut_131 (by decide) ?_
      refine P_zret dX0_carryOut_132 rfl (by decide) ?_
      exact car_f (if_neg (fun q => of_decide_eq_false c123 q.1.2)) hC hO
    · refine P_iload_n dX0_carryOut_126 rfl rfl ?_
      refine P_iload_n dX0_carryOut_127 rfl rfl ?_
      refine P_icmp_neN (tgt := 133) dX0_carryOut_128 (by decide) (by omega) (by omega) (fun c128 => ?_) (fun c128 => ?_)
      · have z1 := of_decide_eq_true c115
        have z2 := of_decide_eq_true c123
        refine P_aload_n dX0_carryOut_133 rfl rfl ?_
        refine P_getr (t := b + 2) dX0_carryOut_134 kX0 fX0_20 rfl (by decide) hq.o hq.r1 hq.k2.1.2 ?_
        refine P_iload_n dX0_carryOut_137 rfl rfl ?_
        refine P_iload_n dX0_carryOut_138 rfl rfl ?_
        refine P_iload_n dX0_carryOut_139 rfl rfl ?_
        refine P_bipush (v := nI 120) dX0_carryOut_140 (by decide) ?_
        refine P_icmp_neN (tgt := 149) dX0_carryOut_142 (by decide) (by omega) (by omega) (fun c142 => ?_) (fun c142 => ?_)
        · exact absurd rfl c142
        · refine P_iconst (v := nI 1) dX0_carryOut_145 (by decide) ?_
          refine P_goto (tgt := 150) dX0_carryOut_146 (by decide) ?_
          refine P_top (y := vb true) (vb_t rfl) ?_
          refine P_cVs (rest := []) (As := [.int (nI (a)), .int (nI (d)), .int (vb (true))]) dX0_carryOut_150 lX0_118 yk_X3_changeWay yv_X3_changeWay kX3 rfl (by decide) hq.k2 rfl rfl (Nat.le_of_ble_eq_true rfl) rfl (c_X3_changeWay hq hC hN (by omega) (by omega) (by omega) c128 hI.1.2.2.2.1) (fun v3 ⟨hC1, hO2⟩ => ?_)
          replace hO2 := hO.tr hO2
          refine P_iconst (v := nI 1) dX0_carryOut_153 (by decide) ?_
          refine P_zret dX0_carryOut_154 rfl (by decide) ?_
          exact car_t (if_pos ⟨⟨z1, z2⟩, c128⟩) hC1 hO2
      · refine P_iconst (v := nI 0) dX0_carryOut_131 (by decide) ?_
        refine P_zret dX0_carryOut_132 rfl (by decide) ?_
        exact car_f (if_neg (fun q => q.2 c128)) hC hO
set_option maxHeartbeats 4000000 in
set_option maxRecDepth 100000 in
theorem c_car_z {σ : vS} {v : vV} {c b : Nat} {S : mS} {a d : Nat} (ha : a < 1000) (hd : d < 1000) (hq : kLC σ b) (hC : CR c v b S) {B : Nat} (hN : NB c S B) (hB : B + 100000 < 1000000000) (hI : Iv c 1 S) : vC M_X0_carryOut yX0_carryOut [.ref (b), .int (nI (0)), .int (nI (a)), .int (nI (d))] (σ, v) (qS σ (some (.int (vb (kCut (c, S) a d false).1))) (carP v b (kCut (c, S) a d false))) := by
  have hc6 := hC.c6
  have hO : vOw v v b 84 := vOw.rf
  refine vC_of (ls := [some (.ref (b)), some (.int (nI (0))), some (.int (nI (a))), some (.int (nI (d)))]) pn_X0 rfl rfl (Nat.le_of_ble_eq_true rfl) rfl ?_
  refine P_iload_n dX0_carryOut_0 rfl rfl ?_
  refine P_lsw (off := 109) (tgt := 110) dX0_carryOut_1 (by decide) (by rw [vsw_int (k := 0) rfl (by decide)]; rfl) (by decide) ?_
  refine P_aload_n dX0_carryOut_110 rfl rfl ?_
  refine P_iload_n dX0_carryOut_111 rfl rfl ?_
  refine P_cVp (rest := []) (As := [.int (nI (a))]) dX0_carryOut_112 lX0_115 yk_X0_hasMember yv_X0_hasMember kX0 rfl (by decide) hq.o rfl rfl (Nat.le_of_ble_eq_true rfl) rfl (c_X0_hasMember hq hC) ?_
  refine P_top (y := vb (decide (a < c))) (by rw [mb_n (by omega)]) ?_
  refine P_bif_eq (tgt := 131) dX0_carryOut_115 (by decide) (fun c115 => ?_) (fun c115 => ?_)
  · refine P_iconst (v := nI 0) dX0_carryOut_131 (by decide) ?_
    refine P_zret dX0_carryOut_132 rfl (by decide) ?_
    exact car_f (if_neg (fun q => of_decide_eq_false c115 q.1.1)) hC hO
  · refine P_aload_n dX0_carryOut_118 rfl rfl ?_
    refine P_iload_n dX0_carryOut_119 rfl rfl ?_
    refine P_cVp (rest := []) (As := [.int (nI (d))]) dX0_carryOut_120 lX0_115 yk_X0_hasMember yv_X0_hasMember kX0 rfl (by decide) hq.o rfl rfl (Nat.le_of_ble_eq_true rfl) rfl (c_X0_hasMember hq hC) ?_
    refine P_top (y := vb (decide (d < c))) (by rw [mb_n (by omega)]) ?_
    refine P_bif_eq (tgt := 131) dX0_carryOut_123 (by decide) (fun c123 => ?_) (fun c123 => ?_)
    · refine P_iconst (v := nI 0) dX0_carryOut_131 (by decide) ?_
      refine P_zret dX0_carryOut_132 rfl (by decide) ?_
      exact car_f (if_neg (fun q => of_decide_eq_false c123 q.1.2)) hC hO
    · refine P_iload_n dX0_carryOut_126 rfl rfl ?_
      refine P_iload_n dX0_carryOut_127 rfl rfl ?_
      refine P_icmp_neN (tgt := 133) dX0_carryOut_128 (by decide) (by omega) (by omega) (fun c128 => ?_) (fun c128 => ?_)
      · have z1 := of_decide_eq_true c115
        have z2 := of_decide_eq_true c123
        refine P_aload_n dX0_carryOut_133 rfl rfl ?_
        refine P_getr (t := b + 2) dX0_carryOut_134 kX0 fX0_20 rfl (by decide) hq.o hq.r1 hq.k2.1.2 ?_
        refine P_iload_n dX0_carryOut_137 rfl rfl ?_
        refine P_iload_n dX0_carryOut_138 rfl rfl ?_
        refine P_iload_n dX0_carryOut_139 rfl rfl ?_
        refine P_bipush (v := nI 120) dX0_carryOut_140 (by decide) ?_
        refine P_icmp_neN (tgt := 149) dX0_carryOut_142 (by decide) (by omega) (by omega) (fun c142 => ?_) (fun c142 => ?_)
        · refine P_iconst (v := nI 0) dX0_carryOut_149 (by decide) ?_
          refine P_top (y := vb false) (vb_f rfl) ?_
          refine P_cVs (rest := []) (As := [.int (nI (a)), .int (nI (d)), .int (vb (false))]) dX0_carryOut_150 lX0_118 yk_X3_changeWay yv_X3_changeWay kX3 rfl (by decide) hq.k2 rfl rfl (Nat.le_of_ble_eq_true rfl) rfl (c_X3_changeWay hq hC hN (by omega) (by omega) (by omega) c128 hI.1.2.2.2.1) (fun v3 ⟨hC1, hO2⟩ => ?_)
          replace hO2 := hO.tr hO2
          refine P_iconst (v := nI 1) dX0_carryOut_153 (by decide) ?_
          refine P_zret dX0_carryOut_154 rfl (by decide) ?_
          exact car_t (if_pos ⟨⟨z1, z2⟩, c128⟩) hC1 hO2
        · exact absurd c142 (by decide)
      · refine P_iconst (v := nI 0) dX0_carryOut_131 (by decide) ?_
        refine P_zret dX0_carryOut_132 rfl (by decide) ?_
        exact car_f (if_neg (fun q => q.2 c128)) hC hO
set_option maxHeartbeats 4000000 in
set_option maxRecDepth 100000 in
theorem c_car_s {σ : vS} {v : vV} {c b : Nat} {S : mS} {m : Nat} (hm9 : m < 1000) {y : Int32} (hq : kLC σ b) (hC : CR c v b S) {B : Nat} (hN : NB c S B) (hB : B + 100000 < 1000000000) (hI : Iv c 1 S) : vC M_X0_carryOut yX0_carryOut [.ref (b), .int (nI (115)), .int (nI (m)), .int (y)] (σ, v) (qS σ (some (.int (vb (kSay (c, S) m).1))) (carP v b (kSay (c, S) m))) := by
  have hc6 := hC.c6
  have hO : vOw v v b 84 := vOw.rf
  refine vC_of (ls := [some (.ref (b)), some (.int (nI (115))), some (.int (nI (m))), some (.int (y))]) pn_X0 rfl rfl (Nat.le_of_ble_eq_true rfl) rfl ?_
  refine P_iload_n dX0_carryOut_0 rfl rfl ?_
  refine P_lsw (off := 154) (tgt := 155) dX0_carryOut_1 (by decide) (by rw [vsw_int (k := 115) rfl (by decide)]; rfl) (by decide) ?_
  refine P_aload_n dX0_carryOut_155 rfl rfl ?_
  refine P_iload_n dX0_carryOut_156 rfl rfl ?_
  refine P_cVp (rest := []) (As := [.int (nI (m))]) dX0_carryOut_157 lX0_115 yk_X0_hasMember yv_X0_hasMember kX0 rfl (by decide) hq.o rfl rfl (Nat.le_of_ble_eq_true rfl) rfl (c_X0_hasMember hq hC) ?_
  refine P_top (y := vb (decide (m < c))) (by rw [mb_n (by omega)]) ?_
  refine P_bif_eq (tgt := 177) dX0_carryOut_160 (by decide) (fun c160 => ?_) (fun c160 => ?_)
  · refine P_iconst (v := nI 0) dX0_carryOut_177 (by decide) ?_
    refine P_zret dX0_carryOut_178 rfl (by decide) ?_
    exact car_f (if_neg (fun q => of_decide_eq_false c160 q.1)) hC hO
  · refine P_aload_n dX0_carryOut_163 rfl rfl ?_
    refine P_iload_n dX0_carryOut_164 rfl rfl ?_
    refine P_iload_n dX0_carryOut_165 rfl rfl ?_
    refine P_iload_n dX0_carryOut_166 rfl rfl ?_
    refine P_cVs (rest := []) (As := [.int (nI (m)), .int (nI (115)), .int (y)]) dX0_carryOut_167 lX0_122 yk_X0_carryOutBy yv_X0_carryOutBy kX0 rfl (by decide) hq.o rfl rfl (Nat.le_of_ble_eq_true rfl) rfl (c_by_s hq hC hN hB hI (of_decide_eq_true c160)) (fun v1 hp1 => ?_)
    refine P_bif_eq (tgt := 177) dX0_carryOut_170 (by decide) (fun c170 => ?_) (fun c170 => ?_)
    · refine P_iconst (v := nI 0) dX0_carryOut_177 (by decide) ?_
      refine P_zret dX0_carryOut_178 rfl (by decide) ?_
      exact car_y c170 hp1
    · refine P_iconst (v := nI 1) dX0_carryOut_173 (by decide) ?_
      refine P_goto (tgt := 178) dX0_carryOut_174 (by decide) ?_
      refine P_zret dX0_carryOut_178 rfl (by decide) ?_
      exact car_x c170 hp1
set_option maxHeartbeats 4000000 in
set_option maxRecDepth 100000 in
theorem c_car_c {σ : vS} {v : vV} {c b : Nat} {S : mS} {m : Nat} (hm9 : m < 1000) {s : Nat} (hs : s < 2147483648) (hq : kLC σ b) (hC : CR c v b S) {B : Nat} (hN : NB c S B) (hB : B + 100000 < 1000000000) (hI : Iv c 1 S) : vC M_X0_carryOut yX0_carryOut [.ref (b), .int (nI (99)), .int (nI (m)), .int (nI (s))] (σ, v) (qS σ (some (.int (vb (kCall (c, S) m s).1))) (carP v b (kCall (c, S) m s))) := by
  have hc6 := hC.c6
  have hO : vOw v v b 84 := vOw.rf
  refine vC_of (ls := [some (.ref (b)), some (.int (nI (99))), some (.int (nI (m))), some (.int (nI (s)))]) pn_X0 rfl rfl (Nat.le_of_ble_eq_true rfl) rfl ?_
  refine P_iload_n dX0_carryOut_0 rfl rfl ?_
  refine P_lsw (off := 154) (tgt := 155) dX0_carryOut_1 (by decide) (by rw [vsw_int (k := 99) rfl (by decide)]; rfl) (by decide) ?_
  refine P_aload_n dX0_carryOut_155 rfl rfl ?_
  refine P_iload_n dX0_carryOut_156 rfl rfl ?_
  refine P_cVp (rest := []) (As := [.int (nI (m))]) dX0_carryOut_157 lX0_115 yk_X0_hasMember yv_X0_hasMember kX0 rfl (by decide) hq.o rfl rfl (Nat.le_of_ble_eq_true rfl) rfl (c_X0_hasMember hq hC) ?_
  refine P_top (y := vb (decide (m < c))) (by rw [mb_n (by omega)]) ?_
  refine P_bif_eq (tgt := 177) dX0_carryOut_160 (by decide) (fun c160 => ?_) (fun c160 => ?_)
  · refine P_iconst (v := nI 0) dX0_carryOut_177 (by decide) ?_
    refine P_zret dX0_carryOut_178 rfl (by decide) ?_
    exact car_f (if_neg (fun q => of_decide_eq_false c160 q.1)) hC hO
  · refine P_aload_n dX0_carryOut_163 rfl rfl ?_
    refine P_iload_n dX0_carryOut_164 rfl rfl ?_
    refine P_iload_n dX0_carryOut_165 rfl rfl ?_
    refine P_iload_n dX0_carryOut_166 rfl rfl ?_
    refine P_cVs (rest := []) (As := [.int (nI (m)), .int (nI (99)), .int (nI (s))]) dX0_carryOut_167 lX0_122 yk_X0_carryOutBy yv_X0_carryOutBy kX0 rfl (by decide) hq.o rfl rfl (Nat.le_of_ble_eq_true rfl) rfl (c_by_c hs hq hC hN hB hI (of_decide_eq_true c160)) (fun v1 hp1 => ?_)
    refine P_bif_eq (tgt := 177) dX0_carryOut_170 (by decide) (fun c170 => ?_) (fun c170 => ?_)
    · refine P_iconst (v := nI 0) dX0_carryOut_177 (by decide) ?_
      refine P_zret dX0_carryOut_178 rfl (by decide) ?_
      exact car_y c170 hp1
    · refine P_iconst (v := nI 1) dX0_carryOut_173 (by decide) ?_
      refine P_goto (tgt := 178) dX0_carryOut_174 (by decide) ?_
      refine P_zret dX0_carryOut_178 rfl (by decide) ?_
      exact car_x c170 hp1
set_option maxHeartbeats 4000000 in
set_option maxRecDepth 100000 in
theorem c_car_g {σ : vS} {v : vV} {c b : Nat} {S : mS} {m : Nat} (hm9 : m < 1000) {y : Int32} (hq : kLC σ b) (hC : CR c v b S) {B : Nat} (hN : NB c S B) (hB : B + 100000 < 1000000000) (hI : Iv c 1 S) : vC M_X0_carryOut yX0_carryOut [.ref (b), .int (nI (103)), .int (nI (m)), .int (y)] (σ, v) (qS σ (some (.int (vb (kLeave (c, S) m).1))) (carP v b (kLeave (c, S) m))) := by
  have hc6 := hC.c6
  have hO : vOw v v b 84 := vOw.rf
  refine vC_of (ls := [some (.ref (b)), some (.int (nI (103))), some (.int (nI (m))), some (.int (y))]) pn_X0 rfl rfl (Nat.le_of_ble_eq_true rfl) rfl ?_
  refine P_iload_n dX0_carryOut_0 rfl rfl ?_
  refine P_lsw (off := 154) (tgt := 155) dX0_carryOut_1 (by decide) (by rw [vsw_int (k := 103) rfl (by decide)]; rfl) (by decide) ?_
  refine P_aload_n dX0_carryOut_155 rfl rfl ?_
  refine P_iload_n dX0_carryOut_156 rfl rfl ?_
  refine P_cVp (rest := []) (As := [.int (nI (m))]) dX0_carryOut_157 lX0_115 yk_X0_hasMember yv_X0_hasMember kX0 rfl (by decide) hq.o rfl rfl (Nat.le_of_ble_eq_true rfl) rfl (c_X0_hasMember hq hC) ?_
  refine P_top (y := vb (decide (m < c))) (by rw [mb_n (by omega)]) ?_
  refine P_bif_eq (tgt := 177) dX0_carryOut_160 (by decide) (fun c160 => ?_) (fun c160 => ?_)
  · refine P_iconst (v := nI 0) dX0_carryOut_177 (by decide) ?_
    refine P_zret dX0_carryOut_178 rfl (by decide) ?_
    exact car_f (if_neg (fun q => of_decide_eq_false c160 q.1)) hC hO
  · refine P_aload_n dX0_carryOut_163 rfl rfl ?_
    refine P_iload_n dX0_carryOut_164 rfl rfl ?_
    refine P_iload_n dX0_carryOut_165 rfl rfl ?_
    refine P_iload_n dX0_carryOut_166 rfl rfl ?_
    refine P_cVs (rest := []) (As := [.int (nI (m)), .int (nI (103)), .int (y)]) dX0_carryOut_167 lX0_122 yk_X0_carryOutBy yv_X0_carryOutBy kX0 rfl (by decide) hq.o rfl rfl (Nat.le_of_ble_eq_true rfl) rfl (c_by_g hq hC hN hB hI (of_decide_eq_true c160)) (fun v1 hp1 => ?_)
    refine P_bif_eq (tgt := 177) dX0_carryOut_170 (by decide) (fun c170 => ?_) (fun c170 => ?_)
    · refine P_iconst (v := nI 0) dX0_carryOut_177 (by decide) ?_
      refine P_zret dX0_carryOut_178 rfl (by decide) ?_
      exact car_y c170 hp1
    · refine P_iconst (v := nI 1) dX0_carryOut_173 (by decide) ?_
      refine P_goto (tgt := 178) dX0_carryOut_174 (by decide) ?_
      refine P_zret dX0_carryOut_178 rfl (by decide) ?_
      exact car_x c170 hp1
set_option maxHeartbeats 4000000 in
set_option maxRecDepth 100000 in
theorem c_car_b {σ : vS} {v : vV} {c b : Nat} {S : mS} {m : Nat} (hm9 : m < 1000) {y : Int32} (hq : kLC σ b) (hC : CR c v b S) {B : Nat} (hN : NB c S B) (hB : B + 100000 < 1000000000) (hI : Iv c 1 S) : vC M_X0_carryOut yX0_carryOut [.ref (b), .int (nI (98)), .int (nI (m)), .int (y)] (σ, v) (qS σ (some (.int (vb (kBack (c, S) m).1))) (carP v b (kBack (c, S) m))) := by
  have hc6 := hC.c6
  have hO : vOw v v b 84 := vOw.rf
  refine vC_of (ls := [some (.ref (b)), some (.int (nI (98))), some (.int (nI (m))), some (.int (y))]) pn_X0 rfl rfl (Nat.le_of_ble_eq_true rfl) rfl ?_
  refine P_iload_n dX0_carryOut_0 rfl rfl ?_
  refine P_lsw (off := 154) (tgt := 155) dX0_carryOut_1 (by decide) (by rw [vsw_int (k := 98) rfl (by decide)]; rfl) (by decide) ?_
  refine P_aload_n dX0_carryOut_155 rfl rfl ?_
  refine P_iload_n dX0_carryOut_156 rfl rfl ?_
  refine P_cVp (rest := []) (As := [.int (nI (m))]) dX0_carryOut_157 lX0_115 yk_X0_hasMember yv_X0_hasMember kX0 rfl (by decide) hq.o rfl rfl (Nat.le_of_ble_eq_true rfl) rfl (c_X0_hasMember hq hC) ?_
  refine P_top (y := vb (decide (m < c))) (by rw [mb_n (by omega)]) ?_
  refine P_bif_eq (tgt := 177) dX0_carryOut_160 (by decide) (fun c160 => ?_) (fun c160 => ?_)
  · refine P_iconst (v := nI 0) dX0_carryOut_177 (by decide) ?_
    refine P_zret dX0_carryOut_178 rfl (by decide) ?_
    exact car_f (if_neg (fun q => of_decide_eq_false c160 q.1)) hC hO
  · refine P_aload_n dX0_carryOut_163 rfl rfl ?_
    refine P_iload_n dX0_carryOut_164 rfl rfl ?_
    refine P_iload_n dX0_carryOut_165 rfl rfl ?_
    refine P_iload_n dX0_carryOut_166 rfl rfl ?_
    refine P_cVs (rest := []) (As := [.int (nI (m)), .int (nI (98)), .int (y)]) dX0_carryOut_167 lX0_122 yk_X0_carryOutBy yv_X0_carryOutBy kX0 rfl (by decide) hq.o rfl rfl (Nat.le_of_ble_eq_true rfl) rfl (c_by_b hq hC hN hB hI (of_decide_eq_true c160)) (fun v1 hp1 => ?_)
    refine P_bif_eq (tgt := 177) dX0_carryOut_170 (by decide) (fun c170 => ?_) (fun c170 => ?_)
    · refine P_iconst (v := nI 0) dX0_carryOut_177 (by decide) ?_
      refine P_zret dX0_carryOut_178 rfl (by decide) ?_
      exact car_y c170 hp1
    · refine P_iconst (v := nI 1) dX0_carryOut_173 (by decide) ?_
      refine P_goto (tgt := 178) dX0_carryOut_174 (by decide) ?_
      refine P_zret dX0_carryOut_178 rfl (by decide) ?_
      exact car_x c170 hp1
