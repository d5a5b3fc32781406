set_option maxHeartbeats 8000000 in
set_option maxRecDepth 100000 in
theorem c_L_says {σ : vS} {v : vV} {c n : Nat} {S : mS} {t : mN} {D : List mC} {sl : Nat → Option mC} {x : Nat} (hTo : kLT σ 0) (hTq : kLT σ 1603) (hW : LW v ((t, n), (c, S), D, sl) ((t, n), (c, S), D, sl)) {B : Nat} (hG : GI B ((t, n), (c, S), D, sl)) (hB : B + 6000000 < 1000000000) (hf : σ.2.2.2 = false) (hx : x < 2147483648) (hc2 : 2 ≤ c) (hJ : IJ c S) (hB2 : B ≤ 200000000) : vCZ zN M_L_says yL_says [.ref (0), .ref (1603), .int (nI (x))] (σ, v) (qD σ (nI 1) (sR ((t, n), (c, S), D, sl) x)) := by
  have hN : NB c S B := hG.1.1
  have hI : Iv c 1 S := hG.1.2
  have hc6 := hN.c6
  have hl5 : ∀ m, (gH S m).length ≤ 5 := hN.b.2.1
  have hl12 : ∀ m, (gK S m).length ≤ 12 := hN.b.1
  have hl150 : (gN S).length ≤ 150 := hN.b.2.2
  refine vCZ_of (ls := [some (.ref (0)), some (.ref (1603)), some (.int (nI (x))), none, none, none, none, none, none, none, none]) pn_L rfl rfl (Nat.le_of_ble_eq_true rfl) rfl ?_
  refine G_bud (b2 := (4 * (20 - 0), 24 * (20 - 0))) (by decide) ?_
  refine G_iload_n dL_says_0 rfl rfl ?_
  refine G_aload_n dL_says_1 rfl rfl ?_
  refine G_iconst (v := nI 2) dL_says_2 (by decide) ?_
  refine G_iconst (v := nI 0) dL_says_3 (by decide) ?_
  refine G_iconst (v := nI 0) dL_says_4 (by decide) ?_
  refine G_iconst (v := nI 0) dL_says_5 (by decide) ?_
  refine G_lc (E := 20) (u := 0) (u2 := 1) (rest := [.int (nI (x))]) zN_go dL_says_6 lL_162 ⟨Nat.le_of_ble_eq_true rfl, Nat.le_of_ble_eq_true rfl⟩ (Nat.le_of_ble_eq_true rfl) hf ⟨by omega, rfl⟩ (vOw.rf (v := v)) (r_about (by decide) hTo hW.1 hG hB hf) (fun v1 rv2 => ?_)
  have W3 : LW v1 ((t, n), (c, S), D, sl) ((t, n), (c, S), D, sl) := hW.o rv2
  refine G_top (y := nI (c)) rfl ?_
  refine G_iremN dL_says_9 (by omega) (by omega) (by omega) ?_
  have hm : x % c < c := Nat.mod_lt _ (by omega)
  have eR : sR ((t, n), (c, S), D, sl) x = if gM S (x % c) 1 = 0 ∧ gM S (x % c) 7 < 4 then ((t, n), (c, S), dr1 D, sl) else ((t, n), (c, S), D, sl) := rfl
  rw [eR]
  generalize x % c = m at hm ⊢
  have hm7 := hN.m7 m
  refine G_istore_n (ls2 := [some (.ref (0)), some (.ref (1603)), some (.int (nI (x))), some (.int (nI (m))), none, none, none, none, none, none, none]) dL_says_10 rfl (by decide) rfl ?_
  refine G_aload_n dL_says_11 rfl rfl ?_
  refine G_iconst (v := nI 3) dL_says_12 (by decide) ?_
  refine G_iload_n dL_says_13 rfl rfl ?_
  refine G_iconst (v := nI 5) dL_says_14 (by decide) ?_
  refine G_iconst (v := nI 0) dL_says_15 (by decide) ?_
  refine G_lc (E := 20) (u := 1) (u2 := 2) (rest := []) zN_go dL_says_16 lL_162 ⟨Nat.le_of_ble_eq_true rfl, Nat.le_of_ble_eq_true rfl⟩ (Nat.le_of_ble_eq_true rfl) hf ⟨by omega, rfl⟩ (vOw.rf (v := v1)) (r_member (by omega) (by decide) hTo W3.1 hG hB hf) (fun v4 rv5 => ?_)
  have W6 : LW v4 ((t, n), (c, S), D, sl) ((t, n), (c, S), D, sl) := W3.o rv5
  refine G_top (y := nI (gM S m 5)) rfl ?_
  refine G_istore (ls2 := [some (.ref (0)), some (.ref (1603)), some (.int (nI (x))), some (.int (nI (m))), some (.int (nI (gM S m 5))), none, none, none, none, none, none]) dL_says_19 (by decide) rfl ?_
  refine G_aload_n dL_says_21 rfl rfl ?_
  refine G_iconst (v := nI 2) dL_says_22 (by decide) ?_
  refine G_iconst (v := nI 2) dL_says_23 (by decide) ?_
  refine G_iconst (v := nI 0) dL_says_24 (by decide) ?_
  refine G_iconst (v := nI 0) dL_says_25 (by decide) ?_
  refine G_lc (E := 20) (u := 2) (u2 := 3) (rest := []) zN_go dL_says_26 lL_162 ⟨Nat.le_of_ble_eq_true rfl, Nat.le_of_ble_eq_true rfl⟩ (Nat.le_of_ble_eq_true rfl) hf ⟨by omega, rfl⟩ (vOw.rf (v := v4)) (r_about (by decide) hTo W6.1 hG hB hf) (fun v7 rv8 => ?_)
  have W9 : LW v7 ((t, n), (c, S), D, sl) ((t, n), (c, S), D, sl) := W6.o rv8
  refine G_top (y := nI ((gN S).length)) rfl ?_
  refine G_aload_n dL_says_29 rfl rfl ?_
  refine G_iconst (v := nI 2) dL_says_30 (by decide) ?_
  refine G_iconst (v := nI 3) dL_says_31 (by decide) ?_
  refine G_iconst (v := nI 0) dL_says_32 (by decide) ?_
  refine G_iconst (v := nI 0) dL_says_33 (by decide) ?_
  refine G_lc (E := 20) (u := 3) (u2 := 4) (rest := [.int (nI ((gN S).length))]) zN_go dL_says_34 lL_162 ⟨Nat.le_of_ble_eq_true rfl, Nat.le_of_ble_eq_true rfl⟩ (Nat.le_of_ble_eq_true rfl) hf ⟨by omega, rfl⟩ (vOw.rf (v := v7)) (r_about (by decide) hTo W9.1 hG hB hf) (fun v10 rv11 => ?_)
  have W12 : LW v10 ((t, n), (c, S), D, sl) ((t, n), (c, S), D, sl) := W9.o rv11
  refine G_top (y := nI (gG S 3)) rfl ?_
  refine G_iaddN dL_says_37 ?_
  refine G_istore (ls2 := [some (.ref (0)), some (.ref (1603)), some (.int (nI (x))), some (.int (nI (m))), some (.int (nI (gM S m 5))), some (.int (nI ((gN S).length + (gG S 3)))), none, none, none, none, none]) dL_says_38 (by decide) rfl ?_
  refine G_aload_n dL_says_40 rfl rfl ?_
  refine G_iconst (v := nI 3) dL_says_41 (by decide) ?_
  refine G_iload_n dL_says_42 rfl rfl ?_
  refine G_iconst (v := nI 4) dL_says_43 (by decide) ?_
  refine G_iconst (v := nI 0) dL_says_44 (by decide) ?_
  refine G_lc (E := 20) (u := 4) (u2 := 5) (rest := []) zN_go dL_says_45 lL_162 ⟨Nat.le_of_ble_eq_true rfl, Nat.le_of_ble_eq_true rfl⟩ (Nat.le_of_ble_eq_true rfl) hf ⟨by omega, rfl⟩ (vOw.rf (v := v10)) (r_member (by omega) (by decide) hTo W12.1 hG hB hf) (fun v13 rv14 => ?_)
  have W15 : LW v13 ((t, n), (c, S), D, sl) ((t, n), (c, S), D, sl) := W12.o rv14
  refine G_top (y := nI (gM S m 4)) rfl ?_
  refine G_cSp (rest := []) (As := [.int (nI (gM S m 4))]) dL_says_48 lL_185 yk_L_bits ys_L_bits (by decide) rfl rfl (Nat.le_of_ble_eq_true rfl) rfl (c_L_bits (hN.m4 m)) ?_
  refine G_iconst (v := nI 1) dL_says_51 (by decide) ?_
  refine G_isubN dL_says_52 (by exact (say_cnt hJ hN hm).2) ?_
  refine G_istore (ls2 := [some (.ref (0)), some (.ref (1603)), some (.int (nI (x))), some (.int (nI (m))), some (.int (nI (gM S m 5))), some (.int (nI ((gN S).length + (gG S 3)))), some (.int (nI ((mbits (gM S m 4) 24) - 1))), none, none, none, none]) dL_says_53 (by decide) rfl ?_
  refine G_aload_n dL_says_55 rfl rfl ?_
  refine G_iconst (v := nI 3) dL_says_56 (by decide) ?_
  refine G_iload_n dL_says_57 rfl rfl ?_
  refine G_bipush (v := nI 7) dL_says_58 (by decide) ?_
  refine G_iconst (v := nI 0) dL_says_60 (by decide) ?_
  refine G_lc (E := 20) (u := 5) (u2 := 6) (rest := []) zN_go dL_says_61 lL_162 ⟨Nat.le_of_ble_eq_true rfl, Nat.le_of_ble_eq_true rfl⟩ (Nat.le_of_ble_eq_true rfl) hf ⟨by omega, rfl⟩ (vOw.rf (v := v13)) (r_member (by omega) (by decide) hTo W15.1 hG hB hf) (fun v16 rv17 => ?_)
  have W18 : LW v16 ((t, n), (c, S), D, sl) ((t, n), (c, S), D, sl) := W15.o rv17
  refine G_top (y := nI (gM S m 7)) rfl ?_
  refine G_istore (ls2 := [some (.ref (0)), some (.ref (1603)), some (.int (nI (x))), some (.int (nI (m))), some (.int (nI (gM S m 5))), some (.int (nI ((gN S).length + (gG S 3)))), some (.int (nI ((mbits (gM S m 4) 24) - 1))), some (.int (nI (gM S m 7))), none, none, none]) dL_says_64 (by decide) rfl ?_
  refine G_aload_n dL_says_66 rfl rfl ?_
  refine G_iconst (v := nI 3) dL_says_67 (by decide) ?_
  refine G_iload_n dL_says_68 rfl rfl ?_
  refine G_iconst (v := nI 1) dL_says_69 (by decide) ?_
  refine G_iconst (v := nI 0) dL_says_70 (by decide) ?_
  refine G_lc (E := 20) (u := 6) (u2 := 7) (rest := []) zN_go dL_says_71 lL_162 ⟨Nat.le_of_ble_eq_true rfl, Nat.le_of_ble_eq_true rfl⟩ (Nat.le_of_ble_eq_true rfl) hf ⟨by omega, rfl⟩ (vOw.rf (v := v16)) (r_member (by omega) (by decide) hTo W18.1 hG hB hf) (fun v19 rv20 => ?_)
  have W21 : LW v19 ((t, n), (c, S), D, sl) ((t, n), (c, S), D, sl) := W18.o rv20
  refine G_top (y := nI (gM S m 1)) rfl ?_
  refine G_if_neN (tgt := 87) dL_says_74 (by decide) (by have := hN.m1 m; omega) (fun c74 => ?_) (fun c74 => ?_)
  · refine G_iconst (v := nI 0) dL_says_87 (by decide) ?_
    refine G_istore (ls2 := [some (.ref (0)), some (.ref (1603)), some (.int (nI (x))), some (.int (nI (m))), some (.int (nI (gM S m 5))), some (.int (nI ((gN S).length + (gG S 3)))), some (.int (nI ((mbits (gM S m 4) 24) - 1))), some (.int (nI (gM S m 7))), some (.int (nI (0))), none, none]) dL_says_88 (by decide) rfl ?_
    refine G_aload_n dL_says_90 rfl rfl ?_
    refine G_bipush (v := nI 8) dL_says_91 (by decide) ?_
    refine G_iload_n dL_says_93 rfl rfl ?_
    refine G_iconst (v := nI 0) dL_says_94 (by decide) ?_
    refine G_iconst (v := nI 0) dL_says_95 (by decide) ?_
    refine G_lc (E := 20) (u := 7) (u2 := 8) (rest := []) zN_go dL_says_96 lL_162 ⟨Nat.le_of_ble_eq_true rfl, Nat.le_of_ble_eq_true rfl⟩ (Nat.le_of_ble_eq_true rfl) hf ⟨by omega, rfl⟩ (vOw.rf (v := v19)) (vCZ_eq (c_call_8 hTo W21.1 hG hB hf) (x_sayS (mb_t hm hc6) (by rw [nn (by omega)]; omega))) (fun v22 rv23 => ?_)
    have W24 : LW v22 ((t, n), (c, S), D, sl) ((t, n), (c, S), D, sl) := W21.o rv23
    refine G_top (y := eIS) rfl ?_
    refine G_istore (ls2 := [some (.ref (0)), some (.ref (1603)), some (.int (nI (x))), some (.int (nI (m))), some (.int (nI (gM S m 5))), some (.int (nI ((gN S).length + (gG S 3)))), some (.int (nI ((mbits (gM S m 4) 24) - 1))), some (.int (nI (gM S m 7))), some (.int (nI (0))), some (.int (eIS)), none]) dL_says_99 (by decide) rfl ?_
    refine G_aload_n dL_says_101 rfl rfl ?_
    refine G_bipush (v := nI 8) dL_says_102 (by decide) ?_
    refine G_iload_n dL_says_104 rfl rfl ?_
    refine G_iconst (v := nI 0) dL_says_105 (by decide) ?_
    refine G_iconst (v := nI 0) dL_says_106 (by decide) ?_
    refine G_lc (E := 20) (u := 8) (u2 := 9) (rest := []) zN_go dL_says_107 lL_162 ⟨Nat.le_of_ble_eq_true rfl, Nat.le_of_ble_eq_true rfl⟩ (Nat.le_of_ble_eq_true rfl) hf ⟨by omega, rfl⟩ (vOw.rf (v := v22)) (vCZ_eq (c_call_8 hTq W24.2 hG hB hf) (x_sayS (mb_t hm hc6) (by rw [nn (by omega)]; omega))) (fun v25 rv26 => ?_)
    have W27 : LW v25 ((t, n), (c, S), D, sl) ((t, n), (c, S), D, sl) := W24.q rv26
    refine G_top (y := eIS) rfl ?_
    refine G_iload dL_says_110 rfl ?_
    refine G_icmp_ne (tgt := 119) dL_says_112 (by decide) (fun c112 => (c112 rfl).elim) (fun c112 => ?_)
    refine G_iconst (v := nI 1) dL_says_115 (by decide) ?_
    refine G_goto (tgt := 120) dL_says_116 (by decide) ?_
    refine G_istore (ls2 := [some (.ref (0)), some (.ref (1603)), some (.int (nI (x))), some (.int (nI (m))), some (.int (nI (gM S m 5))), some (.int (nI ((gN S).length + (gG S 3)))), some (.int (nI ((mbits (gM S m 4) 24) - 1))), some (.int (nI (gM S m 7))), some (.int (nI (0))), some (.int (eIS)), some (.int (nI (1)))]) dL_says_120 (by decide) rfl ?_
    refine G_iload dL_says_122 rfl ?_
    refine G_if_neN (tgt := 145) dL_says_124 (by decide) (by decide) (fun q9 => absurd q9 (by decide)) (fun _ => ?_)
    refine G_iload dL_says_127 rfl ?_
    refine G_if_eqN (tgt := 143) dL_says_129 (by decide) (by decide) (fun q9 => absurd q9 (by decide)) (fun _ => ?_)
    refine G_iload dL_says_132 rfl ?_
    refine G_ldc dL_says_134 cL_33 ?_
    refine G_icmp_ne (tgt := 143) dL_says_136 (by decide) (fun c136 => (c136 rfl).elim) (fun c136 => ?_)
    refine G_iconst (v := nI 1) dL_says_139 (by decide) ?_
    refine G_goto (tgt := 144) dL_says_140 (by decide) ?_
    refine G_zret dL_says_144 rfl (by decide) ?_
    exact qd_end W27 rfl (by rw [if_neg (by omega)])
  · refine G_iload dL_says_77 rfl ?_
    refine G_iconst (v := nI 4) dL_says_79 (by decide) ?_
    refine G_icmp_geN (tgt := 87) dL_says_80 (by decide) (by have := hN.m7 m; omega) (by omega) (fun c80 => ?_) (fun c80 => ?_)
    · refine G_iconst (v := nI 0) dL_says_87 (by decide) ?_
      refine G_istore (ls2 := [some (.ref (0)), some (.ref (1603)), some (.int (nI (x))), some (.int (nI (m))), some (.int (nI (gM S m 5))), some (.int (nI ((gN S).length + (gG S 3)))), some (.int (nI ((mbits (gM S m 4) 24) - 1))), some (.int (nI (gM S m 7))), some (.int (nI (0))), none, none]) dL_says_88 (by decide) rfl ?_
      refine G_aload_n dL_says_90 rfl rfl ?_
      refine G_bipush (v := nI 8) dL_says_91 (by decide) ?_
      refine G_iload_n dL_says_93 rfl rfl ?_
      refine G_iconst (v := nI 0) dL_says_94 (by decide) ?_
      refine G_iconst (v := nI 0) dL_says_95 (by decide) ?_
      refine G_lc (E := 20) (u := 7) (u2 := 8) (rest := []) zN_go dL_says_96 lL_162 ⟨Nat.le_of_ble_eq_true rfl, Nat.le_of_ble_eq_true rfl⟩ (Nat.le_of_ble_eq_true rfl) hf ⟨by omega, rfl⟩ (vOw.rf (v := v19)) (vCZ_eq (c_call_8 hTo W21.1 hG hB hf) (x_sayS (mb_t hm hc6) (by rw [nn (by omega)]; omega))) (fun v28 rv29 => ?_)
      have W30 : LW v28 ((t, n), (c, S), D, sl) ((t, n), (c, S), D, sl) := W21.o rv29
      refine G_top (y := eIS) rfl ?_
      refine G_istore (ls2 := [some (.ref (0)), some (.ref (1603)), some (.int (nI (x))), some (.int (nI (m))), some (.int (nI (gM S m 5))), some (.int (nI ((gN S).length + (gG S 3)))), some (.int (nI ((mbits (gM S m 4) 24) - 1))), some (.int (nI (gM S m 7))), some (.int (nI (0))), some (.int (eIS)), none]) dL_says_99 (by decide) rfl ?_
      refine G_aload_n dL_says_101 rfl rfl ?_
      refine G_bipush (v := nI 8) dL_says_102 (by decide) ?_
      refine G_iload_n dL_says_104 rfl rfl ?_
      refine G_iconst (v := nI 0) dL_says_105 (by decide) ?_
      refine G_iconst (v := nI 0) dL_says_106 (by decide) ?_
      refine G_lc (E := 20) (u := 8) (u2 := 9) (rest := []) zN_go dL_says_107 lL_162 ⟨Nat.le_of_ble_eq_true rfl, Nat.le_of_ble_eq_true rfl⟩ (Nat.le_of_ble_eq_true rfl) hf ⟨by omega, rfl⟩ (vOw.rf (v := v28)) (vCZ_eq (c_call_8 hTq W30.2 hG hB hf) (x_sayS (mb_t hm hc6) (by rw [nn (by omega)]; omega))) (fun v31 rv32 => ?_)
      have W33 : LW v31 ((t, n), (c, S), D, sl) ((t, n), (c, S), D, sl) := W30.q rv32
      refine G_top (y := eIS) rfl ?_
      refine G_iload dL_says_110 rfl ?_
      refine G_icmp_ne (tgt := 119) dL_says_112 (by decide) (fun c112 => (c112 rfl).elim) (fun c112 => ?_)
      refine G_iconst (v := nI 1) dL_says_115 (by decide) ?_
      refine G_goto (tgt := 120) dL_says_116 (by decide) ?_
      refine G_istore (ls2 := [some (.ref (0)), some (.ref (1603)), some (.int (nI (x))), some (.int (nI (m))), some (.int (nI (gM S m 5))), some (.int (nI ((gN S).length + (gG S 3)))), some (.int (nI ((mbits (gM S m 4) 24) - 1))), some (.int (nI (gM S m 7))), some (.int (nI (0))), some (.int (eIS)), some (.int (nI (1)))]) dL_says_120 (by decide) rfl ?_
      refine G_iload dL_says_122 rfl ?_
      refine G_if_neN (tgt := 145) dL_says_124 (by decide) (by decide) (fun q9 => absurd q9 (by decide)) (fun _ => ?_)
      refine G_iload dL_says_127 rfl ?_
      refine G_if_eqN (tgt := 143) dL_says_129 (by decide) (by decide) (fun q9 => absurd q9 (by decide)) (fun _ => ?_)
      refine G_iload dL_says_132 rfl ?_
      refine G_ldc dL_says_134 cL_33 ?_
      refine G_icmp_ne (tgt := 143) dL_says_136 (by decide) (fun c136 => (c136 rfl).elim) (fun c136 => ?_)
      refine G_iconst (v := nI 1) dL_says_139 (by decide) ?_
      refine G_goto (tgt := 144) dL_says_140 (by decide) ?_
      refine G_zret dL_says_144 rfl (by decide) ?_
      exact qd_end W33 rfl (by rw [if_neg (by omega)])
    · refine G_iconst (v := nI 1) dL_says_83 (by decide) ?_
      refine G_goto (tgt := 88) dL_says_84 (by decide) ?_
      refine G_istore (ls2 := [some (.ref (0)), some (.ref (1603)), some (.int (nI (x))), some (.int (nI (m))), some (.int (nI (gM S m 5))), some (.int (nI ((gN S).length + (gG S 3)))), some (.int (nI ((mbits (gM S m 4) 24) - 1))), some (.int (nI (gM S m 7))), some (.int (nI (1))), none, none]) dL_says_88 (by decide) rfl ?_
      have k1 : KC (B + 70000) (c, msay S m) := hG.1.say1 hm c74 (by omega)
      have hN1 : NB c (msay S m) (B + 70000) := k1.1
      have gi1 : GI (B + 70000) ((t, n), (c, msay S m), dr1 D ++ [(c, S)], sl) := hG.act (X := (c, msay S m)) k1 (by omega)
      have gi3 : GI (B + 70000) ((t, n), (c, S), dr1 D, sl) := (gi_dr hG).up (by omega)
      have hcnt := (say_cnt hJ hN hm).1
      have hb3 := hN1.b.2.2
      have hg3 := hN1.g (i := 3) (by decide)
      have h5s := hN1.m5 m
      have h7s := hN1.m7 m
      have h14 : D.length ≤ 14 := hW.1.len
      have h15 := dr1_len (D := D)
      refine G_aload_n dL_says_90 rfl rfl ?_
      refine G_bipush (v := nI 8) dL_says_91 (by decide) ?_
      refine G_iload_n dL_says_93 rfl rfl ?_
      refine G_iconst (v := nI 0) dL_says_94 (by decide) ?_
      refine G_iconst (v := nI 0) dL_says_95 (by decide) ?_
      refine G_lc (E := 20) (u := 7) (u2 := 8) (rest := []) zN_go dL_says_96 lL_162 ⟨Nat.le_of_ble_eq_true rfl, Nat.le_of_ble_eq_true rfl⟩ (Nat.le_of_ble_eq_true rfl) hf ⟨by omega, rfl⟩ (vOw.rf (v := v19)) (vCZ_eq (c_call_8 hTo W21.1 hG hB hf) (t_say hc6 hm ⟨c74, by omega⟩)) (fun v34 rv35 => ?_)
      have W36 : LW v34 ((t, n), (c, msay S m), dr1 D ++ [(c, S)], sl) ((t, n), (c, S), D, sl) := W21.o rv35
      refine G_top (y := nI (4 * m + gM S m 7)) rfl ?_
      refine G_istore (ls2 := [some (.ref (0)), some (.ref (1603)), some (.int (nI (x))), some (.int (nI (m))), some (.int (nI (gM S m 5))), some (.int (nI ((gN S).length + (gG S 3)))), some (.int (nI ((mbits (gM S m 4) 24) - 1))), some (.int (nI (gM S m 7))), some (.int (nI (1))), some (.int (nI (4 * m + gM S m 7))), none]) dL_says_99 (by decide) rfl ?_
      refine G_aload_n dL_says_101 rfl rfl ?_
      refine G_bipush (v := nI 8) dL_says_102 (by decide) ?_
      refine G_iload_n dL_says_104 rfl rfl ?_
      refine G_iconst (v := nI 0) dL_says_105 (by decide) ?_
      refine G_iconst (v := nI 0) dL_says_106 (by decide) ?_
      refine G_lc (E := 20) (u := 8) (u2 := 9) (rest := []) zN_go dL_says_107 lL_162 ⟨Nat.le_of_ble_eq_true rfl, Nat.le_of_ble_eq_true rfl⟩ (Nat.le_of_ble_eq_true rfl) hf ⟨by omega, rfl⟩ (vOw.rf (v := v34)) (vCZ_eq (c_call_8 hTq W36.2 hG hB hf) (t_say hc6 hm ⟨c74, by omega⟩)) (fun v37 rv38 => ?_)
      have W39 : LW v37 ((t, n), (c, msay S m), dr1 D ++ [(c, S)], sl) ((t, n), (c, msay S m), dr1 D ++ [(c, S)], sl) := W36.q rv38
      refine G_top (y := nI (4 * m + gM S m 7)) rfl ?_
      refine G_iload dL_says_110 rfl ?_
      refine G_icmp_neN (tgt := 119) dL_says_112 (by decide) (by have := hN.m7 m; omega) (by have := hN.m7 m; omega) (fun c112 => (c112 rfl).elim) (fun c112 => ?_)
      refine G_iconst (v := nI 1) dL_says_115 (by decide) ?_
      refine G_goto (tgt := 120) dL_says_116 (by decide) ?_
      refine G_istore (ls2 := [some (.ref (0)), some (.ref (1603)), some (.int (nI (x))), some (.int (nI (m))), some (.int (nI (gM S m 5))), some (.int (nI ((gN S).length + (gG S 3)))), some (.int (nI ((mbits (gM S m 4) 24) - 1))), some (.int (nI (gM S m 7))), some (.int (nI (1))), some (.int (nI (4 * m + gM S m 7))), some (.int (nI (1)))]) dL_says_120 (by decide) rfl ?_
      refine G_iload dL_says_122 rfl ?_
      refine G_if_neN (tgt := 145) dL_says_124 (by decide) (by decide) (fun _ => ?_) (fun q9 => absurd q9 (by decide))
      refine G_iload dL_says_145 rfl ?_
      refine G_if_eqN (tgt := 224) dL_says_147 (by decide) (by decide) (fun q9 => absurd q9 (by decide)) (fun _ => ?_)
      refine G_iload dL_says_150 rfl ?_
      refine G_iconst (v := nI 4) dL_says_152 (by decide) ?_
      refine G_iload_n dL_says_153 rfl rfl ?_
      refine G_imulN dL_says_154 ?_
      refine G_iload dL_says_155 rfl ?_
      refine G_iaddN dL_says_157 ?_
      refine G_icmp_neN (tgt := 224) dL_says_158 (by decide) (by have := hN.m7 m; omega) (by have := hN.m7 m; omega) (fun c158 => (c158 rfl).elim) (fun c158 => ?_)
      refine G_aload_n dL_says_161 rfl rfl ?_
      refine G_iconst (v := nI 3) dL_says_162 (by decide) ?_
      refine G_iload_n dL_says_163 rfl rfl ?_
      refine G_iconst (v := nI 5) dL_says_164 (by decide) ?_
      refine G_iconst (v := nI 0) dL_says_165 (by decide) ?_
      refine G_lc (E := 20) (u := 9) (u2 := 10) (rest := []) zN_go dL_says_166 lL_162 ⟨Nat.le_of_ble_eq_true rfl, Nat.le_of_ble_eq_true rfl⟩ (Nat.le_of_ble_eq_true rfl) hf ⟨by omega, rfl⟩ (vOw.rf (v := v37)) (r_member (t := t) (n := n) (c := c) (S := msay S m) (D := dr1 D ++ [(c, S)]) (sl := sl) hm (by decide) hTo W39.1 gi1 (by omega) hf) (fun v40 rv41 => ?_)
      have W42 : LW v40 ((t, n), (c, msay S m), dr1 D ++ [(c, S)], sl) ((t, n), (c, msay S m), dr1 D ++ [(c, S)], sl) := W39.o rv41
      refine G_top (y := nI (gM (msay S m) m 5)) rfl ?_
      refine G_iload dL_says_169 rfl ?_
      refine G_iconst (v := nI 1) dL_says_171 (by decide) ?_
      refine G_iload dL_says_172 rfl ?_
      refine G_ishlN dL_says_174 (by omega) ?_
      refine G_iorN dL_says_175 ?_
      refine G_icmp_neN (tgt := 224) dL_says_176 (by decide) (by first | omega | (rw [← say_5]; omega)) (by first | omega | (rw [← say_5]; omega)) (fun c176 => (c176 say_5).elim) (fun c176 => ?_)
      refine G_aload_n dL_says_179 rfl rfl ?_
      refine G_iconst (v := nI 3) dL_says_180 (by decide) ?_
      refine G_iload_n dL_says_181 rfl rfl ?_
      refine G_bipush (v := nI 7) dL_says_182 (by decide) ?_
      refine G_iconst (v := nI 0) dL_says_184 (by decide) ?_
      refine G_lc (E := 20) (u := 10) (u2 := 11) (rest := []) zN_go dL_says_185 lL_162 ⟨Nat.le_of_ble_eq_true rfl, Nat.le_of_ble_eq_true rfl⟩ (Nat.le_of_ble_eq_true rfl) hf ⟨by omega, rfl⟩ (vOw.rf (v := v40)) (r_member (t := t) (n := n) (c := c) (S := msay S m) (D := dr1 D ++ [(c, S)]) (sl := sl) hm (by decide) hTo W42.1 gi1 (by omega) hf) (fun v43 rv44 => ?_)
      have W45 : LW v43 ((t, n), (c, msay S m), dr1 D ++ [(c, S)], sl) ((t, n), (c, msay S m), dr1 D ++ [(c, S)], sl) := W42.o rv44
      refine G_top (y := nI (gM (msay S m) m 7)) rfl ?_
      refine G_iload dL_says_188 rfl ?_
      refine G_iconst (v := nI 1) dL_says_190 (by decide) ?_
      refine G_iaddN dL_says_191 ?_
      refine G_icmp_neN (tgt := 224) dL_says_192 (by decide) (by omega) (by omega) (fun c192 => (c192 say_7).elim) (fun c192 => ?_)
      refine G_aload_n dL_says_195 rfl rfl ?_
      refine G_iconst (v := nI 2) dL_says_196 (by decide) ?_
      refine G_iconst (v := nI 2) dL_says_197 (by decide) ?_
      refine G_iconst (v := nI 0) dL_says_198 (by decide) ?_
      refine G_iconst (v := nI 0) dL_says_199 (by decide) ?_
      refine G_lc (E := 20) (u := 11) (u2 := 12) (rest := []) zN_go dL_says_200 lL_162 ⟨Nat.le_of_ble_eq_true rfl, Nat.le_of_ble_eq_true rfl⟩ (Nat.le_of_ble_eq_true rfl) hf ⟨by omega, rfl⟩ (vOw.rf (v := v43)) (r_about (t := t) (n := n) (c := c) (S := msay S m) (D := dr1 D ++ [(c, S)]) (sl := sl) (by decide) hTo W45.1 gi1 (by omega) hf) (fun v46 rv47 => ?_)
      have W48 : LW v46 ((t, n), (c, msay S m), dr1 D ++ [(c, S)], sl) ((t, n), (c, msay S m), dr1 D ++ [(c, S)], sl) := W45.o rv47
      refine G_top (y := nI ((gN (msay S m)).length)) rfl ?_
      refine G_aload_n dL_says_203 rfl rfl ?_
      refine G_iconst (v := nI 2) dL_says_204 (by decide) ?_
      refine G_iconst (v := nI 3) dL_says_205 (by decide) ?_
      refine G_iconst (v := nI 0) dL_says_206 (by decide) ?_
      refine G_iconst (v := nI 0) dL_says_207 (by decide) ?_
      refine G_lc (E := 20) (u := 12) (u2 := 13) (rest := [.int (nI ((gN (msay S m)).length))]) zN_go dL_says_208 lL_162 ⟨Nat.le_of_ble_eq_true rfl, Nat.le_of_ble_eq_true rfl⟩ (Nat.le_of_ble_eq_true rfl) hf ⟨by omega, rfl⟩ (vOw.rf (v := v46)) (r_about (t := t) (n := n) (c := c) (S := msay S m) (D := dr1 D ++ [(c, S)]) (sl := sl) (by decide) hTo W48.1 gi1 (by omega) hf) (fun v49 rv50 => ?_)
      have W51 : LW v49 ((t, n), (c, msay S m), dr1 D ++ [(c, S)], sl) ((t, n), (c, msay S m), dr1 D ++ [(c, S)], sl) := W48.o rv50
      refine G_top (y := nI (gG (msay S m) 3)) rfl ?_
      refine G_iaddN dL_says_211 ?_
      refine G_iload dL_says_212 rfl ?_
      refine G_iload dL_says_214 rfl ?_
      refine G_iaddN dL_says_216 ?_
      refine G_icmp_neN (tgt := 224) dL_says_217 (by decide) (by omega) (by omega) (fun c217 => (c217 hcnt).elim) (fun c217 => ?_)
      refine G_iconst (v := nI 1) dL_says_220 (by decide) ?_
      refine G_goto (tgt := 225) dL_says_221 (by decide) ?_
      refine G_istore (ls2 := [some (.ref (0)), some (.ref (1603)), some (.int (nI (x))), some (.int (nI (m))), some (.int (nI (gM S m 5))), some (.int (nI ((gN S).length + (gG S 3)))), some (.int (nI ((mbits (gM S m 4) 24) - 1))), some (.int (nI (gM S m 7))), some (.int (nI (1))), some (.int (nI (4 * m + gM S m 7))), some (.int (nI (1)))]) dL_says_225 (by decide) rfl ?_
      refine G_iload dL_says_227 rfl ?_
      refine G_if_eqN (tgt := 279) dL_says_229 (by decide) (by decide) (fun q9 => absurd q9 (by decide)) (fun _ => ?_)
      refine G_aload_n dL_says_232 rfl rfl ?_
      refine G_bipush (v := nI 14) dL_says_233 (by decide) ?_
      refine G_iconst (v := nI 0) dL_says_235 (by decide) ?_
      refine G_iconst (v := nI 0) dL_says_236 (by decide) ?_
      refine G_iconst (v := nI 0) dL_says_237 (by decide) ?_
      refine G_lc (E := 20) (u := 13) (u2 := 14) (rest := []) zN_go dL_says_238 lL_162 ⟨Nat.le_of_ble_eq_true rfl, Nat.le_of_ble_eq_true rfl⟩ (Nat.le_of_ble_eq_true rfl) hf ⟨by omega, rfl⟩ (vOw.rf (v := v49)) (vCZ_eq (c_call_14 (t := t) (n := n) (c := c) (S := msay S m) (D := dr1 D ++ [(c, S)]) (sl := sl) hTo W51.1 gi1 (by omega) hf) t_undo1) (fun v52 rv53 => ?_)
      have W54 : LW v52 ((t, n), (c, S), dr1 D, sl) ((t, n), (c, msay S m), dr1 D ++ [(c, S)], sl) := W51.o rv53
      refine G_top (y := nI ((dr1 D).length)) rfl ?_
      refine G_cSp (rest := []) (As := [.int (nI ((dr1 D).length))]) dL_says_241 lL_217 yk_L_thrown ys_L_thrown (by decide) rfl rfl (Nat.le_of_ble_eq_true rfl) rfl (c_L_thrown (by omega)) ?_
      refine G_if_neN (tgt := 279) dL_says_244 (by decide) (by decide) (fun q9 => absurd q9 (by decide)) (fun _ => ?_)
      refine G_aload_n dL_says_247 rfl rfl ?_
      refine G_bipush (v := nI 14) dL_says_248 (by decide) ?_
      refine G_iconst (v := nI 0) dL_says_250 (by decide) ?_
      refine G_iconst (v := nI 0) dL_says_251 (by decide) ?_
      refine G_iconst (v := nI 0) dL_says_252 (by decide) ?_
      refine G_lc (E := 20) (u := 14) (u2 := 15) (rest := []) zN_go dL_says_253 lL_162 ⟨Nat.le_of_ble_eq_true rfl, Nat.le_of_ble_eq_true rfl⟩ (Nat.le_of_ble_eq_true rfl) hf ⟨by omega, rfl⟩ (vOw.rf (v := v52)) (vCZ_eq (c_call_14 (t := t) (n := n) (c := c) (S := msay S m) (D := dr1 D ++ [(c, S)]) (sl := sl) hTq W54.2 gi1 (by omega) hf) t_undo1) (fun v55 rv56 => ?_)
      have W57 : LW v55 ((t, n), (c, S), dr1 D, sl) ((t, n), (c, S), dr1 D, sl) := W54.q rv56
      refine G_top (y := nI ((dr1 D).length)) rfl ?_
      refine G_cSp (rest := []) (As := [.int (nI ((dr1 D).length))]) dL_says_256 lL_217 yk_L_thrown ys_L_thrown (by decide) rfl rfl (Nat.le_of_ble_eq_true rfl) rfl (c_L_thrown (by omega)) ?_
      refine G_if_neN (tgt := 279) dL_says_259 (by decide) (by decide) (fun q9 => absurd q9 (by decide)) (fun _ => ?_)
      refine G_aload_n dL_says_262 rfl rfl ?_
      refine G_iconst (v := nI 3) dL_says_263 (by decide) ?_
      refine G_iload_n dL_says_264 rfl rfl ?_
      refine G_iconst (v := nI 5) dL_says_265 (by decide) ?_
      refine G_iconst (v := nI 0) dL_says_266 (by decide) ?_
      refine G_lc (E := 20) (u := 15) (u2 := 16) (rest := []) zN_go dL_says_267 lL_162 ⟨Nat.le_of_ble_eq_true rfl, Nat.le_of_ble_eq_true rfl⟩ (Nat.le_of_ble_eq_true rfl) hf ⟨by omega, rfl⟩ (vOw.rf (v := v55)) (r_member (t := t) (n := n) (c := c) (S := S) (D := dr1 D) (sl := sl) hm (by decide) hTo W57.1 gi3 (by omega) hf) (fun v58 rv59 => ?_)
      have W60 : LW v58 ((t, n), (c, S), dr1 D, sl) ((t, n), (c, S), dr1 D, sl) := W57.o rv59
      refine G_top (y := nI (gM S m 5)) rfl ?_
      refine G_iload dL_says_270 rfl ?_
      refine G_icmp_neN (tgt := 279) dL_says_272 (by decide) (by have := hN.m5 m; omega) (by have := hN.m5 m; omega) (fun c272 => (c272 rfl).elim) (fun c272 => ?_)
      refine G_iconst (v := nI 1) dL_says_275 (by decide) ?_
      refine G_goto (tgt := 280) dL_says_276 (by decide) ?_
      refine G_zret dL_says_280 rfl (by decide) ?_
      exact qd_end W60 rfl (by rw [if_pos ⟨c74, by omega⟩])
