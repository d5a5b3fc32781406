set_option maxHeartbeats 4000000 in
set_option maxRecDepth 100000 in
theorem c_X7_runScript {σ : vS} {v : vV} {c q n : Nat} {S : mS} {t : mN} {D : List mC} {sl : Nat → Option mC} {n9 : Int32} {s : Int64} (hq : LR σ q) (hT : RT v q ((t, n), (c, S), D, sl)) {B : Nat} (hG : GI B ((t, n), (c, S), D, sl)) (hB : B + 6000000 < 1000000000) : vC M_X7_runScript yX7_runScript [.ref (q), .int (n9), .long (s)] (σ, v) (qR σ v q (g_runScript ((t, n), (c, S), D, sl) n9 s)) := by
  have hR : RR c v (q + 2) S := hT.r
  have hN : NB c S B := hG.1.1
  have hI : Iv c 1 S := hG.1.2
  have hc6 := hR.c6
  have htx : mTX v q t n := hT.tx
  have hlt : D.length ≤ 14 := hT.l
  refine vC_of (ls := [some (.ref (q)), some (.int (n9)), some (.long (s)), none, none, none, none, none]) pn_X7 rfl rfl (Nat.le_of_ble_eq_true rfl) rfl ?_
  rcases (by by_cases y1 : n9 < nI 1; (· exact Or.inl y1); (· by_cases y2 : nI 3 < n9; (· exact Or.inr (Or.inl y2)); (· exact Or.inr (Or.inr (gin_ok y1 y2 (by decide) (by decide)))))  : n9 < nI 1 ∨ nI 3 < n9 ∨ gin n9 1 3 = true) with hlo | hhi | hgi9
  rotate_left 2
  obtain ⟨nk, nk0, nk1, rfl⟩ := gin_n (lo := 1) (hi := 3) (by decide) hgi9
  rcases (by omega : nk = 1 ∨ nk = 2 ∨ nk = 3) with rfl | rfl | rfl
  rotate_left 3
  · refine P_lconst (v := 1) dX7_runScript_0 (by decide) ?_
    refine P_topL (y := nL 1) (by decide) ?_
    refine P_lstore (ls2 := [some (.ref (q)), some (.int (n9)), some (.long (s)), none, some (.long (nL (1))), none, none, none]) dX7_runScript_1 (by decide) rfl ?_
    refine P_iconst (v := nI 0) dX7_runScript_3 (by decide) ?_
    refine P_istore (ls2 := [some (.ref (q)), some (.int (n9)), some (.long (s)), none, some (.long (nL (1))), none, some (.int (nI (0))), none]) dX7_runScript_4 (by decide) rfl ?_
    refine P_iload dX7_runScript_6 rfl ?_
    refine P_iload_n dX7_runScript_8 rfl rfl ?_
    refine P_icmp_ge (tgt := 32) dX7_runScript_9 (by decide) (fun c9 => ?_) (fun c9 => ?_)
    · refine P_aload_n dX7_runScript_32 rfl rfl ?_
      refine P_iload_n dX7_runScript_33 rfl rfl ?_
      refine P_i2l dX7_runScript_34 ?_
      refine P_lconst (v := 1) dX7_runScript_35 (by decide) ?_
      refine P_ldc2_w dX7_runScript_36 cX7_228 ?_
      refine P_cSp (rest := [.ref (q)]) (As := [.long ((n9).toInt64), .long ((1)), .long ((3))]) dX7_runScript_39 lX7_40 yk_X7_in ys_X7_in (by decide) rfl rfl (Nat.le_of_ble_eq_true rfl) rfl (c_X7_in _ _ _) ?_
      refine P_top (y := vb false) (congrArg vb ((in_gin (by decide) (by decide)).trans (gin_lo (lo := 1) (hi := 3) (by decide) hlo))) ?_
      refine P_bif_eq (tgt := 61) dX7_runScript_42 (by decide) (fun _ => ?_) (fun q9 => Bool.noConfusion q9)
      refine P_iconst (v := nI 1) dX7_runScript_61 (by decide) ?_
      refine P_cVs (rest := []) (As := [.int (nI (1))]) dX7_runScript_62 lX7_129 yk_X7_refused yv_X7_refused kX7 rfl (by decide) hq.o rfl rfl (Nat.le_of_ble_eq_true rfl) rfl (c_X7_refused (k := 1) hq (by decide)) (fun v9 e9 => ?_)
      subst e9
      refine P_top (y := vb true) rfl ?_
      refine P_bif_eq (tgt := 70) dX7_runScript_65 (by decide) (fun q9 => Bool.noConfusion q9) (fun _ => ?_)
      refine P_iconst (v := nI 0) dX7_runScript_68 (by decide) ?_
      refine P_iret dX7_runScript_69 rfl ?_
      exact qr_thr hT (if_pos (by rw [gin_lo (lo := 1) (hi := 3) (by decide) hlo]; rfl))
    · exact absurd hlo (by rw [i_lt, nI_toInt (by decide)]; rw [i_le, nI_toInt (by decide)] at c9; omega)
  · refine P_lconst (v := 1) dX7_runScript_0 (by decide) ?_
    refine P_topL (y := nL 1) (by decide) ?_
    refine P_lstore (ls2 := [some (.ref (q)), some (.int (n9)), some (.long (s)), none, some (.long (nL (1))), none, none, none]) dX7_runScript_1 (by decide) rfl ?_
    refine P_iconst (v := nI 0) dX7_runScript_3 (by decide) ?_
    refine P_istore (ls2 := [some (.ref (q)), some (.int (n9)), some (.long (s)), none, some (.long (nL (1))), none, some (.int (nI (0))), none]) dX7_runScript_4 (by decide) rfl ?_
    refine P_iload dX7_runScript_6 rfl ?_
    refine P_iload_n dX7_runScript_8 rfl rfl ?_
    refine P_icmp_ge (tgt := 32) dX7_runScript_9 (by decide) (fun c9 => ?_) (fun c9 => ?_)
    · exact absurd hhi (by rw [i_lt, nI_toInt (by decide)]; rw [i_le, nI_toInt (by decide)] at c9; omega)
    · refine P_iload dX7_runScript_12 rfl ?_
      refine P_iconst (v := nI 3) dX7_runScript_14 (by decide) ?_
      refine P_icmp_geN (tgt := 32) dX7_runScript_15 (by decide) (by decide) (by decide) (fun c15 => absurd c15 (by decide)) (fun c15 => ?_)
      refine P_lload dX7_runScript_18 rfl ?_
      refine P_ldc2_w dX7_runScript_20 cX7_226 ?_
      refine P_topL (y := nL 100000) (by decide) ?_
      refine P_lmulN dX7_runScript_23 ?_
      refine P_lstore (ls2 := [some (.ref (q)), some (.int (n9)), some (.long (s)), none, some (.long (nL (1 * 100000))), none, some (.int (nI (0))), none]) dX7_runScript_24 (by decide) rfl ?_
      refine P_iinc (v := nI (1)) (ls2 := [some (.ref (q)), some (.int (n9)), some (.long (s)), none, some (.long (nL (1 * 100000))), none, some (.int (nI (1))), none]) dX7_runScript_26 rfl (nI_inc _ 1) (by decide) rfl ?_
      refine P_goto (tgt := 6) dX7_runScript_29 (by decide) ?_
      refine P_iload dX7_runScript_6 rfl ?_
      refine P_iload_n dX7_runScript_8 rfl rfl ?_
      refine P_icmp_ge (tgt := 32) dX7_runScript_9 (by decide) (fun c9 => ?_) (fun c9 => ?_)
      · exact absurd hhi (by rw [i_lt, nI_toInt (by decide)]; rw [i_le, nI_toInt (by decide)] at c9; omega)
      · refine P_iload dX7_runScript_12 rfl ?_
        refine P_iconst (v := nI 3) dX7_runScript_14 (by decide) ?_
        refine P_icmp_geN (tgt := 32) dX7_runScript_15 (by decide) (by decide) (by decide) (fun c15 => absurd c15 (by decide)) (fun c15 => ?_)
        refine P_lload dX7_runScript_18 rfl ?_
        refine P_ldc2_w dX7_runScript_20 cX7_226 ?_
        refine P_topL (y := nL 100000) (by decide) ?_
        refine P_lmulN dX7_runScript_23 ?_
        refine P_lstore (ls2 := [some (.ref (q)), some (.int (n9)), some (.long (s)), none, some (.long (nL ((1 * 100000) * 100000))), none, some (.int (nI (1))), none]) dX7_runScript_24 (by decide) rfl ?_
        refine P_iinc (v := nI (2)) (ls2 := [some (.ref (q)), some (.int (n9)), some (.long (s)), none, some (.long (nL ((1 * 100000) * 100000))), none, some (.int (nI (2))), none]) dX7_runScript_26 rfl (nI_inc _ 1) (by decide) rfl ?_
        refine P_goto (tgt := 6) dX7_runScript_29 (by decide) ?_
        refine P_iload dX7_runScript_6 rfl ?_
        refine P_iload_n dX7_runScript_8 rfl rfl ?_
        refine P_icmp_ge (tgt := 32) dX7_runScript_9 (by decide) (fun c9 => ?_) (fun c9 => ?_)
        · exact absurd hhi (by rw [i_lt, nI_toInt (by decide)]; rw [i_le, nI_toInt (by decide)] at c9; omega)
        · refine P_iload dX7_runScript_12 rfl ?_
          refine P_iconst (v := nI 3) dX7_runScript_14 (by decide) ?_
          refine P_icmp_geN (tgt := 32) dX7_runScript_15 (by decide) (by decide) (by decide) (fun c15 => absurd c15 (by decide)) (fun c15 => ?_)
          refine P_lload dX7_runScript_18 rfl ?_
          refine P_ldc2_w dX7_runScript_20 cX7_226 ?_
          refine P_topL (y := nL 100000) (by decide) ?_
          refine P_lmulN dX7_runScript_23 ?_
          refine P_lstore (ls2 := [some (.ref (q)), some (.int (n9)), some (.long (s)), none, some (.long (nL (((1 * 100000) * 100000) * 100000))), none, some (.int (nI (2))), none]) dX7_runScript_24 (by decide) rfl ?_
          refine P_iinc (v := nI (3)) (ls2 := [some (.ref (q)), some (.int (n9)), some (.long (s)), none, some (.long (nL (((1 * 100000) * 100000) * 100000))), none, some (.int (nI (3))), none]) dX7_runScript_26 rfl (nI_inc _ 1) (by decide) rfl ?_
          refine P_goto (tgt := 6) dX7_runScript_29 (by decide) ?_
          refine P_iload dX7_runScript_6 rfl ?_
          refine P_iload_n dX7_runScript_8 rfl rfl ?_
          refine P_icmp_ge (tgt := 32) dX7_runScript_9 (by decide) (fun c9 => ?_) (fun c9 => ?_)
          · refine P_aload_n dX7_runScript_32 rfl rfl ?_
            refine P_iload_n dX7_runScript_33 rfl rfl ?_
            refine P_i2l dX7_runScript_34 ?_
            refine P_lconst (v := 1) dX7_runScript_35 (by decide) ?_
            refine P_ldc2_w dX7_runScript_36 cX7_228 ?_
            refine P_cSp (rest := [.ref (q)]) (As := [.long ((n9).toInt64), .long ((1)), .long ((3))]) dX7_runScript_39 lX7_40 yk_X7_in ys_X7_in (by decide) rfl rfl (Nat.le_of_ble_eq_true rfl) rfl (c_X7_in _ _ _) ?_
            refine P_top (y := vb false) (congrArg vb ((in_gin (by decide) (by decide)).trans (gin_hi (lo := 1) (hi := 3) (by decide) hhi))) ?_
            refine P_bif_eq (tgt := 61) dX7_runScript_42 (by decide) (fun _ => ?_) (fun q9 => Bool.noConfusion q9)
            refine P_iconst (v := nI 1) dX7_runScript_61 (by decide) ?_
            refine P_cVs (rest := []) (As := [.int (nI (1))]) dX7_runScript_62 lX7_129 yk_X7_refused yv_X7_refused kX7 rfl (by decide) hq.o rfl rfl (Nat.le_of_ble_eq_true rfl) rfl (c_X7_refused (k := 1) hq (by decide)) (fun v9 e9 => ?_)
            subst e9
            refine P_top (y := vb true) rfl ?_
            refine P_bif_eq (tgt := 70) dX7_runScript_65 (by decide) (fun q9 => Bool.noConfusion q9) (fun _ => ?_)
            refine P_iconst (v := nI 0) dX7_runScript_68 (by decide) ?_
            refine P_iret dX7_runScript_69 rfl ?_
            exact qr_thr hT (if_pos (by rw [gin_hi (lo := 1) (hi := 3) (by decide) hhi]; rfl))
          · refine P_iload dX7_runScript_12 rfl ?_
            refine P_iconst (v := nI 3) dX7_runScript_14 (by decide) ?_
            refine P_icmp_geN (tgt := 32) dX7_runScript_15 (by decide) (by decide) (by decide) (fun c15 => ?_) (fun c15 => absurd c15 (by decide))
            refine P_aload_n dX7_runScript_32 rfl rfl ?_
            refine P_iload_n dX7_runScript_33 rfl rfl ?_
            refine P_i2l dX7_runScript_34 ?_
            refine P_lconst (v := 1) dX7_runScript_35 (by decide) ?_
            refine P_ldc2_w dX7_runScript_36 cX7_228 ?_
            refine P_cSp (rest := [.ref (q)]) (As := [.long ((n9).toInt64), .long ((1)), .long ((3))]) dX7_runScript_39 lX7_40 yk_X7_in ys_X7_in (by decide) rfl rfl (Nat.le_of_ble_eq_true rfl) rfl (c_X7_in _ _ _) ?_
            refine P_top (y := vb false) (congrArg vb ((in_gin (by decide) (by decide)).trans (gin_hi (lo := 1) (hi := 3) (by decide) hhi))) ?_
            refine P_bif_eq (tgt := 61) dX7_runScript_42 (by decide) (fun _ => ?_) (fun q9 => Bool.noConfusion q9)
            refine P_iconst (v := nI 1) dX7_runScript_61 (by decide) ?_
            refine P_cVs (rest := []) (As := [.int (nI (1))]) dX7_runScript_62 lX7_129 yk_X7_refused yv_X7_refused kX7 rfl (by decide) hq.o rfl rfl (Nat.le_of_ble_eq_true rfl) rfl (c_X7_refused (k := 1) hq (by decide)) (fun v9 e9 => ?_)
            subst e9
            refine P_top (y := vb true) rfl ?_
            refine P_bif_eq (tgt := 70) dX7_runScript_65 (by decide) (fun q9 => Bool.noConfusion q9) (fun _ => ?_)
            refine P_iconst (v := nI 0) dX7_runScript_68 (by decide) ?_
            refine P_iret dX7_runScript_69 rfl ?_
            exact qr_thr hT (if_pos (by rw [gin_hi (lo := 1) (hi := 3) (by decide) hhi]; rfl))
  · refine P_lconst (v := 1) dX7_runScript_0 (by decide) ?_
    refine P_topL (y := nL 1) (by decide) ?_
    refine P_lstore (ls2 := [some (.ref (q)), some (.int (nI (1))), some (.long (s)), none, some (.long (nL (1))), none, none, none]) dX7_runScript_1 (by decide) rfl ?_
    refine P_iconst (v := nI 0) dX7_runScript_3 (by decide) ?_
    refine P_istore (ls2 := [some (.ref (q)), some (.int (nI (1))), some (.long (s)), none, some (.long (nL (1))), none, some (.int (nI (0))), none]) dX7_runScript_4 (by decide) rfl ?_
    refine P_iload dX7_runScript_6 rfl ?_
    refine P_iload_n dX7_runScript_8 rfl rfl ?_
    refine P_icmp_geN (tgt := 32) dX7_runScript_9 (by decide) (by decide) (by decide) (fun c9 => absurd c9 (by decide)) (fun c9 => ?_)
    refine P_iload dX7_runScript_12 rfl ?_
    refine P_iconst (v := nI 3) dX7_runScript_14 (by decide) ?_
    refine P_icmp_geN (tgt := 32) dX7_runScript_15 (by decide) (by decide) (by decide) (fun c15 => absurd c15 (by decide)) (fun c15 => ?_)
    refine P_lload dX7_runScript_18 rfl ?_
    refine P_ldc2_w dX7_runScript_20 cX7_226 ?_
    refine P_topL (y := nL 100000) (by decide) ?_
    refine P_lmulN dX7_runScript_23 ?_
    refine P_lstore (ls2 := [some (.ref (q)), some (.int (nI (1))), some (.long (s)), none, some (.long (nL (1 * 100000))), none, some (.int (nI (0))), none]) dX7_runScript_24 (by decide) rfl ?_
    refine P_iinc (v := nI (1)) (ls2 := [some (.ref (q)), some (.int (nI (1))), some (.long (s)), none, some (.long (nL (1 * 100000))), none, some (.int (nI (1))), none]) dX7_runScript_26 rfl (nI_inc _ 1) (by decide) rfl ?_
    refine P_goto (tgt := 6) dX7_runScript_29 (by decide) ?_
    refine P_iload dX7_runScript_6 rfl ?_
    refine P_iload_n dX7_runScript_8 rfl rfl ?_
    refine P_icmp_geN (tgt := 32) dX7_runScript_9 (by decide) (by decide) (by decide) (fun c9 => ?_) (fun c9 => absurd c9 (by decide))
    refine P_aload_n dX7_runScript_32 rfl rfl ?_
    refine P_iload_n dX7_runScript_33 rfl rfl ?_
    refine P_i2l dX7_runScript_34 ?_
    refine P_lconst (v := 1) dX7_runScript_35 (by decide) ?_
    refine P_ldc2_w dX7_runScript_36 cX7_228 ?_
    refine P_cSp (rest := [.ref (q)]) (As := [.long ((nI (1)).toInt64), .long ((1)), .long ((3))]) dX7_runScript_39 lX7_40 yk_X7_in ys_X7_in (by decide) rfl rfl (Nat.le_of_ble_eq_true rfl) rfl (c_X7_in _ _ _) ?_
    refine P_top (y := vb true) (congrArg vb ((in_gin (by decide) (by decide)).trans hgi9)) ?_
    refine P_bif_eq (tgt := 61) dX7_runScript_42 (by decide) (fun q9 => Bool.noConfusion q9) (fun _ => ?_)
    refine P_lload_n dX7_runScript_45 rfl rfl ?_
    refine P_lconst (v := 0) dX7_runScript_46 (by decide) ?_
    refine P_lload dX7_runScript_47 rfl ?_
    refine P_lconst (v := 1) dX7_runScript_49 (by decide) ?_
    refine P_lsub dX7_runScript_50 ?_
    refine P_cSp (rest := [.ref (q)]) (As := [.long (s), .long ((0)), .long (((nL (1 * 100000)) - (1)))]) dX7_runScript_51 lX7_40 yk_X7_in ys_X7_in (by decide) rfl rfl (Nat.le_of_ble_eq_true rfl) rfl (c_X7_in _ _ _) ?_
    refine P_top (y := vb (decide (0 ≤ s.toInt ∧ s.toInt < ((100000 ^ 1 : Nat) : Int)))) (congrArg vb (in_scr (by decide) (by decide))) ?_
    refine P_bif_eq (tgt := 61) dX7_runScript_54 (by decide) (fun c54 => ?_) (fun c54 => ?_)
    · refine P_iconst (v := nI 1) dX7_runScript_61 (by decide) ?_
      refine P_cVs (rest := []) (As := [.int (nI (1))]) dX7_runScript_62 lX7_129 yk_X7_refused yv_X7_refused kX7 rfl (by decide) hq.o rfl rfl (Nat.le_of_ble_eq_true rfl) rfl (c_X7_refused (k := 1) hq (by decide)) (fun v9 e9 => ?_)
      subst e9
      refine P_top (y := vb true) rfl ?_
      refine P_bif_eq (tgt := 70) dX7_runScript_65 (by decide) (fun q9 => Bool.noConfusion q9) (fun _ => ?_)
      refine P_iconst (v := nI 0) dX7_runScript_68 (by decide) ?_
      refine P_iret dX7_runScript_69 rfl ?_
      exact qr_thr hT (if_pos (by rw [show (nI 1).toInt.toNat = 1 from rfl, c54, Bool.and_false]))
    · refine P_iconst (v := nI 0) dX7_runScript_57 (by decide) ?_
      refine P_goto (tgt := 62) dX7_runScript_58 (by decide) ?_
      refine P_cVs (rest := []) (As := [.int (nI (0))]) dX7_runScript_62 lX7_129 yk_X7_refused yv_X7_refused kX7 rfl (by decide) hq.o rfl rfl (Nat.le_of_ble_eq_true rfl) rfl (c_X7_refused (k := 0) hq (by decide)) (fun v1 e1 => ?_)
      obtain ⟨hT1, h01, hF1⟩ : RT v1 q ((t, n), (c, S), D, sl) ∧ v1 q 0 = nI 0 ∧ vOw v v1 q 8 := by subst e1; exact ⟨hT.ref, vU_s, vOw.rf.u (by omega) (by omega)⟩
      have hR1 : RR c v1 (q + 2) S := hT1.r
      clear e1
      refine P_top (y := vb false) rfl ?_
      refine P_bif_eq (tgt := 70) dX7_runScript_65 (by decide) (fun _ => ?_) (fun q9 => Bool.noConfusion q9)
      have hgs9 : (gin (nI 1) 1 3 && decide (0 ≤ s.toInt ∧ s.toInt < ((100000 ^ (nI 1).toInt.toNat : Nat) : Int))) = true := by rw [show (nI 1).toInt.toNat = 1 from rfl, hgi9, c54]; rfl
      obtain ⟨sk, hsk0, rfl⟩ := scr_n c54 (by decide)
      have hsk : sk < 100000 := hsk0
      have hX0 : KC B (c, S) := hG.1
      refine P_aload_n dX7_runScript_70 rfl rfl ?_
      refine P_getr (t := q + 2) dX7_runScript_71 kX7 fX7_13 rfl (by decide) hq.o hq.r2 hq.k2.1.2 ?_
      refine P_iconst (v := nI 0) dX7_runScript_74 (by decide) ?_
      refine P_aload_n dX7_runScript_75 rfl rfl ?_
      refine P_getr (t := q + 3) dX7_runScript_76 kX7 fX7_16 rfl (by decide) hq.o hq.r3 hq.k3.1.2 ?_
      refine P_iconst (v := nI 0) dX7_runScript_79 (by decide) ?_
      refine P_cSs (rest := []) (As := [.ref (q + 2), .int (nI (0)), .ref (q + 3), .int (nI (0))]) dX7_runScript_80 lX7_189 yk_X7_copyState ys_X7_copyState (by decide) rfl rfl (Nat.le_of_ble_eq_true rfl) rfl (c_X7_copyState (fa := 0) (ta := 0) hq.k2 hq.k3 (by omega) (by omega) (by omega) (by decide) (by decide)) (fun v2 ⟨hO2, hs2⟩ => ?_)
      have hR2 : RR c v2 (q + 3) S := hR1.sh (fun i hi => by rw [hs2, if_pos (by omega), show 0 + (i - 0) = i by omega])
      have hO29 : vO4 v1 v2 (q + 3) q := hO2.c3
      refine P_iconst (v := nI 0) dX7_runScript_83 (by decide) ?_
      refine P_istore (ls2 := [some (.ref (q)), some (.int (nI (1))), some (.long (nL (sk))), none, some (.long (nL (1 * 100000))), none, some (.int (nI (0))), none]) dX7_runScript_84 (by decide) rfl ?_
      refine P_iload dX7_runScript_86 rfl ?_
      refine P_iload_n dX7_runScript_88 rfl rfl ?_
      refine P_icmp_geN (tgt := 139) dX7_runScript_89 (by decide) (by decide) (by decide) (fun c89 => absurd c89 (by decide)) (fun c89 => ?_)
      refine P_lload dX7_runScript_92 rfl ?_
      refine P_ldc2_w dX7_runScript_94 cX7_226 ?_
      refine P_topL (y := nL 100000) (by decide) ?_
      refine P_ldivN dX7_runScript_97 (by omega) (by omega) (by decide) ?_
      refine P_topL (y := nL 1) (congrArg nL (by decide)) ?_
      refine P_lstore (ls2 := [some (.ref (q)), some (.int (nI (1))), some (.long (nL (sk))), none, some (.long (nL (1))), none, some (.int (nI (0))), none]) dX7_runScript_98 (by decide) rfl ?_
      refine P_lload_n dX7_runScript_100 rfl rfl ?_
      refine P_lload dX7_runScript_101 rfl ?_
      refine P_ldivN dX7_runScript_103 (by omega) (by omega) (by decide) ?_
      refine P_ldc2_w dX7_runScript_104 cX7_226 ?_
      refine P_topL (y := nL 100000) (by decide) ?_
      refine P_lremN dX7_runScript_107 (by omega) (by omega) (by decide) ?_
      refine P_l2iN dX7_runScript_108 ?_
      refine P_top (y := nI (sk / 100000 ^ (1 - 1 - 0) % 100000)) (by rw [show 100000 ^ (1 - 1 - 0) = 1 from Nat.pow_zero 100000]) ?_
      have l0 : sk / 100000 ^ (1 - 1 - 0) % 100000 < 100000 := Nat.mod_lt _ (by decide)
      obtain ⟨g0, eg0⟩ : ∃ z9, z9 = sk / 100000 ^ (1 - 1 - 0) % 100000 := ⟨_, rfl⟩
      rw [← eg0] at l0 ⊢
      refine P_istore (ls2 := [some (.ref (q)), some (.int (nI (1))), some (.long (nL (sk))), none, some (.long (nL (1))), none, some (.int (nI (0))), some (.int (nI (g0)))]) dX7_runScript_109 (by decide) rfl ?_
      refine P_aload_n dX7_runScript_111 rfl rfl ?_
      refine P_iload dX7_runScript_112 rfl ?_
      refine P_sipush (v := nI 10000) dX7_runScript_114 (by decide) ?_
      refine P_idivN dX7_runScript_117 (by omega) (by decide) (by decide) ?_
      refine P_iload dX7_runScript_118 rfl ?_
      refine P_sipush (v := nI 10000) dX7_runScript_120 (by decide) ?_
      refine P_iremN dX7_runScript_123 (by omega) (by decide) (by decide) ?_
      refine P_top (y := nI (1000 * (g0 / 1000 % 10) + 100 * (g0 / 100 % 10) + g0 % 100)) (congrArg nI (by omega)) ?_
      refine P_cVs (rest := []) (As := [.int (nI (g0 / 10000)), .int (nI (1000 * (g0 / 1000 % 10) + 100 * (g0 / 100 % 10) + g0 % 100))]) dX7_runScript_124 lX7_230 yk_X7_command yv_X7_command kX7 rfl (by decide) hq.o rfl rfl (Nat.le_of_ble_eq_true rfl) rfl (c_X7_command (h := g0 / 10000) (a := g0 / 1000 % 10) (d := g0 / 100 % 10) (r := g0 % 100) hq hR2 hX0.1 (by omega) hX0.2 (by omega) (by omega) (by omega) (by omega)) (fun v3 hp0 => ?_)
      have hw0 := hO29.tr hp0.2.c3
      have hX1 := hX0.cmd g0
      refine P_bif_ne (tgt := 133) dX7_runScript_127 (by decide) (fun c127 => ?_) (fun c127 => ?_)
      · have y0 := c127
        refine P_iinc (v := nI (1)) (ls2 := [some (.ref (q)), some (.int (nI (1))), some (.long (nL (sk))), none, some (.long (nL (1))), none, some (.int (nI (1))), some (.int (nI (g0)))]) dX7_runScript_133 rfl (nI_inc _ 1) (by decide) rfl ?_
        refine P_goto (tgt := 86) dX7_runScript_136 (by decide) ?_
        refine P_iload dX7_runScript_86 rfl ?_
        refine P_iload_n dX7_runScript_88 rfl rfl ?_
        refine P_icmp_geN (tgt := 139) dX7_runScript_89 (by decide) (by decide) (by decide) (fun c89 => ?_) (fun c89 => absurd c89 (by decide))
        refine P_iconst (v := -1) dX7_runScript_139 (by decide) ?_
        refine P_iret dX7_runScript_140 rfl ?_
        subst eg0
        have e9 : mscr 1 sk 1 0 (c, S) = none := ((mscr_t (f := 0) y0).trans rfl)
        exact qr_ret ((if_neg (gt_f hgs9)).trans (by rw [show (nI 1).toInt.toNat = 1 from rfl, show (nL sk).toInt.toNat = sk from by rw [nL_toInt (by omega)]; rfl, e9]; rfl)) (by rw [hw0.2 0 (by decide) (by decide)]; exact h01) (hT1.o4 hw0) (hF1.tr (hw0.ow (by omega) (by omega)))
      · have y0 := c127
        refine P_iload dX7_runScript_130 rfl ?_
        refine P_iret dX7_runScript_132 rfl ?_
        subst eg0
        have e9 : mscr 1 sk 1 0 (c, S) = some 0 := (mscr_f (f := 0) y0)
        exact qr_ret ((if_neg (gt_f hgs9)).trans (by rw [show (nI 1).toInt.toNat = 1 from rfl, show (nL sk).toInt.toNat = sk from by rw [nL_toInt (by omega)]; rfl, e9]; rfl)) (by rw [hw0.2 0 (by decide) (by decide)]; exact h01) (hT1.o4 hw0) (hF1.tr (hw0.ow (by omega) (by omega)))
  · refine P_lconst (v := 1) dX7_runScript_0 (by decide) ?_
    refine P_topL (y := nL 1) (by decide) ?_
    refine P_lstore (ls2 := [some (.ref (q)), some (.int (nI (2))), some (.long (s)), none, some (.long (nL (1))), none, none, none]) dX7_runScript_1 (by decide) rfl ?_
    refine P_iconst (v := nI 0) dX7_runScript_3 (by decide) ?_
    refine P_istore (ls2 := [some (.ref (q)), some (.int (nI (2))), some (.long (s)), none, some (.long (nL (1))), none, some (.int (nI (0))), none]) dX7_runScript_4 (by decide) rfl ?_
    refine P_iload dX7_runScript_6 rfl ?_
    refine P_iload_n dX7_runScript_8 rfl rfl ?_
    refine P_icmp_geN (tgt := 32) dX7_runScript_9 (by decide) (by decide) (by decide) (fun c9 => absurd c9 (by decide)) (fun c9 => ?_)
    refine P_iload dX7_runScript_12 rfl ?_
    refine P_iconst (v := nI 3) dX7_runScript_14 (by decide) ?_
    refine P_icmp_geN (tgt := 32) dX7_runScript_15 (by decide) (by decide) (by decide) (fun c15 => absurd c15 (by decide)) (fun c15 => ?_)
    refine P_lload dX7_runScript_18 rfl ?_
    refine P_ldc2_w dX7_runScript_20 cX7_226 ?_
    refine P_topL (y := nL 100000) (by decide) ?_
    refine P_lmulN dX7_runScript_23 ?_
    refine P_lstore (ls2 := [some (.ref (q)), some (.int (nI (2))), some (.long (s)), none, some (.long (nL (1 * 100000))), none, some (.int (nI (0))), none]) dX7_runScript_24 (by decide) rfl ?_
    refine P_iinc (v := nI (1)) (ls2 := [some (.ref (q)), some (.int (nI (2))), some (.long (s)), none, some (.long (nL (1 * 100000))), none, some (.int (nI (1))), none]) dX7_runScript_26 rfl (nI_inc _ 1) (by decide) rfl ?_
    refine P_goto (tgt := 6) dX7_runScript_29 (by decide) ?_
    refine P_iload dX7_runScript_6 rfl ?_
    refine P_iload_n dX7_runScript_8 rfl rfl ?_
    refine P_icmp_geN (tgt := 32) dX7_runScript_9 (by decide) (by decide) (by decide) (fun c9 => absurd c9 (by decide)) (fun c9 => ?_)
    refine P_iload dX7_runScript_12 rfl ?_
    refine P_iconst (v := nI 3) dX7_runScript_14 (by decide) ?_
    refine P_icmp_geN (tgt := 32) dX7_runScript_15 (by decide) (by decide) (by decide) (fun c15 => absurd c15 (by decide)) (fun c15 => ?_)
    refine P_lload dX7_runScript_18 rfl ?_
    refine P_ldc2_w dX7_runScript_20 cX7_226 ?_
    refine P_topL (y := nL 100000) (by decide) ?_
    refine P_lmulN dX7_runScript_23 ?_
    refine P_lstore (ls2 := [some (.ref (q)), some (.int (nI (2))), some (.long (s)), none, some (.long (nL ((1 * 100000) * 100000))), none, some (.int (nI (1))), none]) dX7_runScript_24 (by decide) rfl ?_
    refine P_iinc (v := nI (2)) (ls2 := [some (.ref (q)), some (.int (nI (2))), some (.long (s)), none, some (.long (nL ((1 * 100000) * 100000))), none, some (.int (nI (2))), none]) dX7_runScript_26 rfl (nI_inc _ 1) (by decide) rfl ?_
    refine P_goto (tgt := 6) dX7_runScript_29 (by decide) ?_
    refine P_iload dX7_runScript_6 rfl ?_
    refine P_iload_n dX7_runScript_8 rfl rfl ?_
    refine P_icmp_geN (tgt := 32) dX7_runScript_9 (by decide) (by decide) (by decide) (fun c9 => ?_) (fun c9 => absurd c9 (by decide))
    refine P_aload_n dX7_runScript_32 rfl rfl ?_
    refine P_iload_n dX7_runScript_33 rfl rfl ?_
    refine P_i2l dX7_runScript_34 ?_
    refine P_lconst (v := 1) dX7_runScript_35 (by decide) ?_
    refine P_ldc2_w dX7_runScript_36 cX7_228 ?_
    refine P_cSp (rest := [.ref (q)]) (As := [.long ((nI (2)).toInt64), .long ((1)), .long ((3))]) dX7_runScript_39 lX7_40 yk_X7_in ys_X7_in (by decide) rfl rfl (Nat.le_of_ble_eq_true rfl) rfl (c_X7_in _ _ _) ?_
    refine P_top (y := vb true) (congrArg vb ((in_gin (by decide) (by decide)).trans hgi9)) ?_
    refine P_bif_eq (tgt := 61) dX7_runScript_42 (by decide) (fun q9 => Bool.noConfusion q9) (fun _ => ?_)
    refine P_lload_n dX7_runScript_45 rfl rfl ?_
    refine P_lconst (v := 0) dX7_runScript_46 (by decide) ?_
    refine P_lload dX7_runScript_47 rfl ?_
    refine P_lconst (v := 1) dX7_runScript_49 (by decide) ?_
    refine P_lsub dX7_runScript_50 ?_
    refine P_cSp (rest := [.ref (q)]) (As := [.long (s), .long ((0)), .long (((nL ((1 * 100000) * 100000)) - (1)))]) dX7_runScript_51 lX7_40 yk_X7_in ys_X7_in (by decide) rfl rfl (Nat.le_of_ble_eq_true rfl) rfl (c_X7_in _ _ _) ?_
    refine P_top (y := vb (decide (0 ≤ s.toInt ∧ s.toInt < ((100000 ^ 2 : Nat) : Int)))) (congrArg vb (in_scr (by decide) (by decide))) ?_
    refine P_bif_eq (tgt := 61) dX7_runScript_54 (by decide) (fun c54 => ?_) (fun c54 => ?_)
    · refine P_iconst (v := nI 1) dX7_runScript_61 (by decide) ?_
      refine P_cVs (rest := []) (As := [.int (nI (1))]) dX7_runScript_62 lX7_129 yk_X7_refused yv_X7_refused kX7 rfl (by decide) hq.o rfl rfl (Nat.le_of_ble_eq_true rfl) rfl (c_X7_refused (k := 1) hq (by decide)) (fun v9 e9 => ?_)
      subst e9
      refine P_top (y := vb true) rfl ?_
      refine P_bif_eq (tgt := 70) dX7_runScript_65 (by decide) (fun q9 => Bool.noConfusion q9) (fun _ => ?_)
      refine P_iconst (v := nI 0) dX7_runScript_68 (by decide) ?_
      refine P_iret dX7_runScript_69 rfl ?_
      exact qr_thr hT (if_pos (by rw [show (nI 2).toInt.toNat = 2 from rfl, c54, Bool.and_false]))
    · refine P_iconst (v := nI 0) dX7_runScript_57 (by decide) ?_
      refine P_goto (tgt := 62) dX7_runScript_58 (by decide) ?_
      refine P_cVs (rest := []) (As := [.int (nI (0))]) dX7_runScript_62 lX7_129 yk_X7_refused yv_X7_refused kX7 rfl (by decide) hq.o rfl rfl (Nat.le_of_ble_eq_true rfl) rfl (c_X7_refused (k := 0) hq (by decide)) (fun v1 e1 => ?_)
      obtain ⟨hT1, h01, hF1⟩ : RT v1 q ((t, n), (c, S), D, sl) ∧ v1 q 0 = nI 0 ∧ vOw v v1 q 8 := by subst e1; exact ⟨hT.ref, vU_s, vOw.rf.u (by omega) (by omega)⟩
      have hR1 : RR c v1 (q + 2) S := hT1.r
      clear e1
      refine P_top (y := vb false) rfl ?_
      refine P_bif_eq (tgt := 70) dX7_runScript_65 (by decide) (fun _ => ?_) (fun q9 => Bool.noConfusion q9)
      have hgs9 : (gin (nI 2) 1 3 && decide (0 ≤ s.toInt ∧ s.toInt < ((100000 ^ (nI 2).toInt.toNat : Nat) : Int))) = true := by rw [show (nI 2).toInt.toNat = 2 from rfl, hgi9, c54]; rfl
      obtain ⟨sk, hsk0, rfl⟩ := scr_n c54 (by decide)
      have hsk : sk < 10000000000 := hsk0
      have hX0 : KC B (c, S) := hG.1
      refine P_aload_n dX7_runScript_70 rfl rfl ?_
      refine P_getr (t := q + 2) dX7_runScript_71 kX7 fX7_13 rfl (by decide) hq.o hq.r2 hq.k2.1.2 ?_
      refine P_iconst (v := nI 0) dX7_runScript_74 (by decide) ?_
      refine P_aload_n dX7_runScript_75 rfl rfl ?_
      refine P_getr (t := q + 3) dX7_runScript_76 kX7 fX7_16 rfl (by decide) hq.o hq.r3 hq.k3.1.2 ?_
      refine P_iconst (v := nI 0) dX7_runScript_79 (by decide) ?_
      refine P_cSs (rest := []) (As := [.ref (q + 2), .int (nI (0)), .ref (q + 3), .int (nI (0))]) dX7_runScript_80 lX7_189 yk_X7_copyState ys_X7_copyState (by decide) rfl rfl (Nat.le_of_ble_eq_true rfl) rfl (c_X7_copyState (fa := 0) (ta := 0) hq.k2 hq.k3 (by omega) (by omega) (by omega) (by decide) (by decide)) (fun v2 ⟨hO2, hs2⟩ => ?_)
      have hR2 : RR c v2 (q + 3) S := hR1.sh (fun i hi => by rw [hs2, if_pos (by omega), show 0 + (i - 0) = i by omega])
      have hO29 : vO4 v1 v2 (q + 3) q := hO2.c3
      refine P_iconst (v := nI 0) dX7_runScript_83 (by decide) ?_
      refine P_istore (ls2 := [some (.ref (q)), some (.int (nI (2))), some (.long (nL (sk))), none, some (.long (nL ((1 * 100000) * 100000))), none, some (.int (nI (0))), none]) dX7_runScript_84 (by decide) rfl ?_
      refine P_iload dX7_runScript_86 rfl ?_
      refine P_iload_n dX7_runScript_88 rfl rfl ?_
      refine P_icmp_geN (tgt := 139) dX7_runScript_89 (by decide) (by decide) (by decide) (fun c89 => absurd c89 (by decide)) (fun c89 => ?_)
      refine P_lload dX7_runScript_92 rfl ?_
      refine P_ldc2_w dX7_runScript_94 cX7_226 ?_
      refine P_topL (y := nL 100000) (by decide) ?_
      refine P_ldivN dX7_runScript_97 (by omega) (by omega) (by decide) ?_
      refine P_topL (y := nL 100000) (congrArg nL (by decide)) ?_
      refine P_lstore (ls2 := [some (.ref (q)), some (.int (nI (2))), some (.long (nL (sk))), none, some (.long (nL (100000))), none, some (.int (nI (0))), none]) dX7_runScript_98 (by decide) rfl ?_
      refine P_lload_n dX7_runScript_100 rfl rfl ?_
      refine P_lload dX7_runScript_101 rfl ?_
      refine P_ldivN dX7_runScript_103 (by omega) (by omega) (by decide) ?_
      refine P_ldc2_w dX7_runScript_104 cX7_226 ?_
      refine P_topL (y := nL 100000) (by decide) ?_
      refine P_lremN dX7_runScript_107 (by omega) (by omega) (by decide) ?_
      refine P_l2iN dX7_runScript_108 ?_
      refine P_top (y := nI (sk / 100000 ^ (2 - 1 - 0) % 100000)) (by rw [show 100000 ^ (2 - 1 - 0) = 100000 by decide]) ?_
      have l0 : sk / 100000 ^ (2 - 1 - 0) % 100000 < 100000 := Nat.mod_lt _ (by decide)
      obtain ⟨g0, eg0⟩ : ∃ z9, z9 = sk / 100000 ^ (2 - 1 - 0) % 100000 := ⟨_, rfl⟩
      rw [← eg0] at l0 ⊢
      refine P_istore (ls2 := [some (.ref (q)), some (.int (nI (2))), some (.long (nL (sk))), none, some (.long (nL (100000))), none, some (.int (nI (0))), some (.int (nI (g0)))]) dX7_runScript_109 (by decide) rfl ?_
      refine P_aload_n dX7_runScript_111 rfl rfl ?_
      refine P_iload dX7_runScript_112 rfl ?_
      refine P_sipush (v := nI 10000) dX7_runScript_114 (by decide) ?_
      refine P_idivN dX7_runScript_117 (by omega) (by decide) (by decide) ?_
      refine P_iload dX7_runScript_118 rfl ?_
      refine P_sipush (v := nI 10000) dX7_runScript_120 (by decide) ?_
      refine P_iremN dX7_runScript_123 (by omega) (by decide) (by decide) ?_
      refine P_top (y := nI (1000 * (g0 / 1000 % 10) + 100 * (g0 / 100 % 10) + g0 % 100)) (congrArg nI (by omega)) ?_
      refine P_cVs (rest := []) (As := [.int (nI (g0 / 10000)), .int (nI (1000 * (g0 / 1000 % 10) + 100 * (g0 / 100 % 10) + g0 % 100))]) dX7_runScript_124 lX7_230 yk_X7_command yv_X7_command kX7 rfl (by decide) hq.o rfl rfl (Nat.le_of_ble_eq_true rfl) rfl (c_X7_command (h := g0 / 10000) (a := g0 / 1000 % 10) (d := g0 / 100 % 10) (r := g0 % 100) hq hR2 hX0.1 (by omega) hX0.2 (by omega) (by omega) (by omega) (by omega)) (fun v3 hp0 => ?_)
      have hw0 := hO29.tr hp0.2.c3
      have hX1 := hX0.cmd g0
      refine P_bif_ne (tgt := 133) dX7_runScript_127 (by decide) (fun c127 => ?_) (fun c127 => ?_)
      · have y0 := c127
        refine P_iinc (v := nI (1)) (ls2 := [some (.ref (q)), some (.int (nI (2))), some (.long (nL (sk))), none, some (.long (nL (100000))), none, some (.int (nI (1))), some (.int (nI (g0)))]) dX7_runScript_133 rfl (nI_inc _ 1) (by decide) rfl ?_
        refine P_goto (tgt := 86) dX7_runScript_136 (by decide) ?_
        refine P_iload dX7_runScript_86 rfl ?_
        refine P_iload_n dX7_runScript_88 rfl rfl ?_
        refine P_icmp_geN (tgt := 139) dX7_runScript_89 (by decide) (by decide) (by decide) (fun c89 => absurd c89 (by decide)) (fun c89 => ?_)
        refine P_lload dX7_runScript_92 rfl ?_
        refine P_ldc2_w dX7_runScript_94 cX7_226 ?_
        refine P_topL (y := nL 100000) (by decide) ?_
        refine P_ldivN dX7_runScript_97 (by omega) (by omega) (by decide) ?_
        refine P_topL (y := nL 1) (congrArg nL (by decide)) ?_
        refine P_lstore (ls2 := [some (.ref (q)), some (.int (nI (2))), some (.long (nL (sk))), none, some (.long (nL (1))), none, some (.int (nI (1))), some (.int (nI (g0)))]) dX7_runScript_98 (by decide) rfl ?_
        refine P_lload_n dX7_runScript_100 rfl rfl ?_
        refine P_lload dX7_runScript_101 rfl ?_
        refine P_ldivN dX7_runScript_103 (by omega) (by omega) (by decide) ?_
        refine P_ldc2_w dX7_runScript_104 cX7_226 ?_
        refine P_topL (y := nL 100000) (by decide) ?_
        refine P_lremN dX7_runScript_107 (by omega) (by omega) (by decide) ?_
        refine P_l2iN dX7_runScript_108 ?_
        refine P_top (y := nI (sk / 100000 ^ (2 - 1 - (0 + 1)) % 100000)) (by rw [show 100000 ^ (2 - 1 - (0 + 1)) = 1 from Nat.pow_zero 100000]) ?_
        have l1 : sk / 100000 ^ (2 - 1 - (0 + 1)) % 100000 < 100000 := Nat.mod_lt _ (by decide)
        obtain ⟨g1, eg1⟩ : ∃ z9, z9 = sk / 100000 ^ (2 - 1 - (0 + 1)) % 100000 := ⟨_, rfl⟩
        rw [← eg1] at l1 ⊢
        refine P_istore (ls2 := [some (.ref (q)), some (.int (nI (2))), some (.long (nL (sk))), none, some (.long (nL (1))), none, some (.int (nI (1))), some (.int (nI (g1)))]) dX7_runScript_109 (by decide) rfl ?_
        refine P_aload_n dX7_runScript_111 rfl rfl ?_
        refine P_iload dX7_runScript_112 rfl ?_
        refine P_sipush (v := nI 10000) dX7_runScript_114 (by decide) ?_
        refine P_idivN dX7_runScript_117 (by omega) (by decide) (by decide) ?_
        refine P_iload dX7_runScript_118 rfl ?_
        refine P_sipush (v := nI 10000) dX7_runScript_120 (by decide) ?_
        refine P_iremN dX7_runScript_123 (by omega) (by decide) (by decide) ?_
        refine P_top (y := nI (1000 * (g1 / 1000 % 10) + 100 * (g1 / 100 % 10) + g1 % 100)) (congrArg nI (by omega)) ?_
        refine P_cVs (rest := []) (As := [.int (nI (g1 / 10000)), .int (nI (1000 * (g1 / 1000 % 10) + 100 * (g1 / 100 % 10) + g1 % 100))]) dX7_runScript_124 lX7_230 yk_X7_command yv_X7_command kX7 rfl (by decide) hq.o rfl rfl (Nat.le_of_ble_eq_true rfl) rfl (c_X7_command (h := g1 / 10000) (a := g1 / 1000 % 10) (d := g1 / 100 % 10) (r := g1 % 100) hq hp0.1 hX1.1 (by omega) hX1.2 (by omega) (by omega) (by omega) (by omega)) (fun v4 hp1 => ?_)
        have hw1 := hw0.tr hp1.2.c3
        have hX2 := hX1.cmd g1
        refine P_bif_ne (tgt := 133) dX7_runScript_127 (by decide) (fun c127 => ?_) (fun c127 => ?_)
        · have y1 := c127
          refine P_iinc (v := nI (2)) (ls2 := [some (.ref (q)), some (.int (nI (2))), some (.long (nL (sk))), none, some (.long (nL (1))), none, some (.int (nI (2))), some (.int (nI (g1)))]) dX7_runScript_133 rfl (nI_inc _ 1) (by decide) rfl ?_
          refine P_goto (tgt := 86) dX7_runScript_136 (by decide) ?_
          refine P_iload dX7_runScript_86 rfl ?_
          refine P_iload_n dX7_runScript_88 rfl rfl ?_
          refine P_icmp_geN (tgt := 139) dX7_runScript_89 (by decide) (by decide) (by decide) (fun c89 => ?_) (fun c89 => absurd c89 (by decide))
          refine P_iconst (v := -1) dX7_runScript_139 (by decide) ?_
          refine P_iret dX7_runScript_140 rfl ?_
          subst eg0 eg1
          have e9 : mscr 2 sk 2 0 (c, S) = none := ((mscr_t (f := 1) y0).trans ((mscr_t (f := 0) y1).trans rfl))
          exact qr_ret ((if_neg (gt_f hgs9)).trans (by rw [show (nI 2).toInt.toNat = 2 from rfl, show (nL sk).toInt.toNat = sk from by rw [nL_toInt (by omega)]; rfl, e9]; rfl)) (by rw [hw1.2 0 (by decide) (by decide)]; exact h01) (hT1.o4 hw1) (hF1.tr (hw1.ow (by omega) (by omega)))
        · have y1 := c127
          refine P_iload dX7_runScript_130 rfl ?_
          refine P_iret dX7_runScript_132 rfl ?_
          subst eg0 eg1
          have e9 : mscr 2 sk 2 0 (c, S) = some 1 := ((mscr_t (f := 1) y0).trans (mscr_f (f := 0) y1))
          exact qr_ret ((if_neg (gt_f hgs9)).trans (by rw [show (nI 2).toInt.toNat = 2 from rfl, show (nL sk).toInt.toNat = sk from by rw [nL_toInt (by omega)]; rfl, e9]; rfl)) (by rw [hw1.2 0 (by decide) (by decide)]; exact h01) (hT1.o4 hw1) (hF1.tr (hw1.ow (by omega) (by omega)))
      · have y0 := c127
        refine P_iload dX7_runScript_130 rfl ?_
        refine P_iret dX7_runScript_132 rfl ?_
        subst eg0
        have e9 : mscr 2 sk 2 0 (c, S) = some 0 := (mscr_f (f := 1) y0)
        exact qr_ret ((if_neg (gt_f hgs9)).trans (by rw [show (nI 2).toInt.toNat = 2 from rfl, show (nL sk).toInt.toNat = sk from by rw [nL_toInt (by omega)]; rfl, e9]; rfl)) (by rw [hw0.2 0 (by decide) (by decide)]; exact h01) (hT1.o4 hw0) (hF1.tr (hw0.ow (by omega) (by omega)))
  · refine P_lconst (v := 1) dX7_runScript_0 (by decide) ?_
    refine P_topL (y := nL 1) (by decide) ?_
    refine P_lstore (ls2 := [some (.ref (q)), some (.int (nI (3))), some (.long (s)), none, some (.long (nL (1))), none, none, none]) dX7_runScript_1 (by decide) rfl ?_
    refine P_iconst (v := nI 0) dX7_runScript_3 (by decide) ?_
    refine P_istore (ls2 := [some (.ref (q)), some (.int (nI (3))), some (.long (s)), none, some (.long (nL (1))), none, some (.int (nI (0))), none]) dX7_runScript_4 (by decide) rfl ?_
    refine P_iload dX7_runScript_6 rfl ?_
    refine P_iload_n dX7_runScript_8 rfl rfl ?_
    refine P_icmp_geN (tgt := 32) dX7_runScript_9 (by decide) (by decide) (by decide) (fun c9 => absurd c9 (by decide)) (fun c9 => ?_)
    refine P_iload dX7_runScript_12 rfl ?_
    refine P_iconst (v := nI 3) dX7_runScript_14 (by decide) ?_
    refine P_icmp_geN (tgt := 32) dX7_runScript_15 (by decide) (by decide) (by decide) (fun c15 => absurd c15 (by decide)) (fun c15 => ?_)
    refine P_lload dX7_runScript_18 rfl ?_
    refine P_ldc2_w dX7_runScript_20 cX7_226 ?_
    refine P_topL (y := nL 100000) (by decide) ?_
    refine P_lmulN dX7_runScript_23 ?_
    refine P_lstore (ls2 := [some (.ref (q)), some (.int (nI (3))), some (.long (s)), none, some (.long (nL (1 * 100000))), none, some (.int (nI (0))), none]) dX7_runScript_24 (by decide) rfl ?_
    refine P_iinc (v := nI (1)) (ls2 := [some (.ref (q)), some (.int (nI (3))), some (.long (s)), none, some (.long (nL (1 * 100000))), none, some (.int (nI (1))), none]) dX7_runScript_26 rfl (nI_inc _ 1) (by decide) rfl ?_
    refine P_goto (tgt := 6) dX7_runScript_29 (by decide) ?_
    refine P_iload dX7_runScript_6 rfl ?_
    refine P_iload_n dX7_runScript_8 rfl rfl ?_
    refine P_icmp_geN (tgt := 32) dX7_runScript_9 (by decide) (by decide) (by decide) (fun c9 => absurd c9 (by decide)) (fun c9 => ?_)
    refine P_iload dX7_runScript_12 rfl ?_
    refine P_iconst (v := nI 3) dX7_runScript_14 (by decide) ?_
    refine P_icmp_geN (tgt := 32) dX7_runScript_15 (by decide) (by decide) (by decide) (fun c15 => absurd c15 (by decide)) (fun c15 => ?_)
    refine P_lload dX7_runScript_18 rfl ?_
    refine P_ldc2_w dX7_runScript_20 cX7_226 ?_
    refine P_topL (y := nL 100000) (by decide) ?_
    refine P_lmulN dX7_runScript_23 ?_
    refine P_lstore (ls2 := [some (.ref (q)), some (.int (nI (3))), some (.long (s)), none, some (.long (nL ((1 * 100000) * 100000))), none, some (.int (nI (1))), none]) dX7_runScript_24 (by decide) rfl ?_
    refine P_iinc (v := nI (2)) (ls2 := [some (.ref (q)), some (.int (nI (3))), some (.long (s)), none, some (.long (nL ((1 * 100000) * 100000))), none, some (.int (nI (2))), none]) dX7_runScript_26 rfl (nI_inc _ 1) (by decide) rfl ?_
    refine P_goto (tgt := 6) dX7_runScript_29 (by decide) ?_
    refine P_iload dX7_runScript_6 rfl ?_
    refine P_iload_n dX7_runScript_8 rfl rfl ?_
    refine P_icmp_geN (tgt := 32) dX7_runScript_9 (by decide) (by decide) (by decide) (fun c9 => absurd c9 (by decide)) (fun c9 => ?_)
    refine P_iload dX7_runScript_12 rfl ?_
    refine P_iconst (v := nI 3) dX7_runScript_14 (by decide) ?_
    refine P_icmp_geN (tgt := 32) dX7_runScript_15 (by decide) (by decide) (by decide) (fun c15 => absurd c15 (by decide)) (fun c15 => ?_)
    refine P_lload dX7_runScript_18 rfl ?_
    refine P_ldc2_w dX7_runScript_20 cX7_226 ?_
    refine P_topL (y := nL 100000) (by decide) ?_
    refine P_lmulN dX7_runScript_23 ?_
    refine P_lstore (ls2 := [some (.ref (q)), some (.int (nI (3))), some (.long (s)), none, some (.long (nL (((1 * 100000) * 100000) * 100000))), none, some (.int (nI (2))), none]) dX7_runScript_24 (by decide) rfl ?_
    refine P_iinc (v := nI (3)) (ls2 := [some (.ref (q)), some (.int (nI (3))), some (.long (s)), none, some (.long (nL (((1 * 100000) * 100000) * 100000))), none, some (.int (nI (3))), none]) dX7_runScript_26 rfl (nI_inc _ 1) (by decide) rfl ?_
    refine P_goto (tgt := 6) dX7_runScript_29 (by decide) ?_
    refine P_iload dX7_runScript_6 rfl ?_
    refine P_iload_n dX7_runScript_8 rfl rfl ?_
    refine P_icmp_geN (tgt := 32) dX7_runScript_9 (by decide) (by decide) (by decide) (fun c9 => ?_) (fun c9 => absurd c9 (by decide))
    refine P_aload_n dX7_runScript_32 rfl rfl ?_
    refine P_iload_n dX7_runScript_33 rfl rfl ?_
    refine P_i2l dX7_runScript_34 ?_
    refine P_lconst (v := 1) dX7_runScript_35 (by decide) ?_
    refine P_ldc2_w dX7_runScript_36 cX7_228 ?_
    refine P_cSp (rest := [.ref (q)]) (As := [.long ((nI (3)).toInt64), .long ((1)), .long ((3))]) dX7_runScript_39 lX7_40 yk_X7_in ys_X7_in (by decide) rfl rfl (Nat.le_of_ble_eq_true rfl) rfl (c_X7_in _ _ _) ?_
    refine P_top (y := vb true) (congrArg vb ((in_gin (by decide) (by decide)).trans hgi9)) ?_
    refine P_bif_eq (tgt := 61) dX7_runScript_42 (by decide) (fun q9 => Bool.noConfusion q9) (fun _ => ?_)
    refine P_lload_n dX7_runScript_45 rfl rfl ?_
    refine P_lconst (v := 0) dX7_runScript_46 (by decide) ?_
    refine P_lload dX7_runScript_47 rfl ?_
    refine P_lconst (v := 1) dX7_runScript_49 (by decide) ?_
    refine P_lsub dX7_runScript_50 ?_
    refine P_cSp (rest := [.ref (q)]) (As := [.long (s), .long ((0)), .long (((nL (((1 * 100000) * 100000) * 100000)) - (1)))]) dX7_runScript_51 lX7_40 yk_X7_in ys_X7_in (by decide) rfl rfl (Nat.le_of_ble_eq_true rfl) rfl (c_X7_in _ _ _) ?_
    refine P_top (y := vb (decide (0 ≤ s.toInt ∧ s.toInt < ((100000 ^ 3 : Nat) : Int)))) (congrArg vb (in_scr (by decide) (by decide))) ?_
    refine P_bif_eq (tgt := 61) dX7_runScript_54 (by decide) (fun c54 => ?_) (fun c54 => ?_)
    · refine P_iconst (v := nI 1) dX7_runScript_61 (by decide) ?_
      refine P_cVs (rest := []) (As := [.int (nI (1))]) dX7_runScript_62 lX7_129 yk_X7_refused yv_X7_refused kX7 rfl (by decide) hq.o rfl rfl (Nat.le_of_ble_eq_true rfl) rfl (c_X7_refused (k := 1) hq (by decide)) (fun v9 e9 => ?_)
      subst e9
      refine P_top (y := vb true) rfl ?_
      refine P_bif_eq (tgt := 70) dX7_runScript_65 (by decide) (fun q9 => Bool.noConfusion q9) (fun _ => ?_)
      refine P_iconst (v := nI 0) dX7_runScript_68 (by decide) ?_
      refine P_iret dX7_runScript_69 rfl ?_
      exact qr_thr hT (if_pos (by rw [show (nI 3).toInt.toNat = 3 from rfl, c54, Bool.and_false]))
    · refine P_iconst (v := nI 0) dX7_runScript_57 (by decide) ?_
      refine P_goto (tgt := 62) dX7_runScript_58 (by decide) ?_
      refine P_cVs (rest := []) (As := [.int (nI (0))]) dX7_runScript_62 lX7_129 yk_X7_refused yv_X7_refused kX7 rfl (by decide) hq.o rfl rfl (Nat.le_of_ble_eq_true rfl) rfl (c_X7_refused (k := 0) hq (by decide)) (fun v1 e1 => ?_)
      obtain ⟨hT1, h01, hF1⟩ : RT v1 q ((t, n), (c, S), D, sl) ∧ v1 q 0 = nI 0 ∧ vOw v v1 q 8 := by subst e1; exact ⟨hT.ref, vU_s, vOw.rf.u (by omega) (by omega)⟩
      have hR1 : RR c v1 (q + 2) S := hT1.r
      clear e1
      refine P_top (y := vb false) rfl ?_
      refine P_bif_eq (tgt := 70) dX7_runScript_65 (by decide) (fun _ => ?_) (fun q9 => Bool.noConfusion q9)
      have hgs9 : (gin (nI 3) 1 3 && decide (0 ≤ s.toInt ∧ s.toInt < ((100000 ^ (nI 3).toInt.toNat : Nat) : Int))) = true := by rw [show (nI 3).toInt.toNat = 3 from rfl, hgi9, c54]; rfl
      obtain ⟨sk, hsk0, rfl⟩ := scr_n c54 (by decide)
      have hsk : sk < 1000000000000000 := hsk0
      have hX0 : KC B (c, S) := hG.1
      refine P_aload_n dX7_runScript_70 rfl rfl ?_
      refine P_getr (t := q + 2) dX7_runScript_71 kX7 fX7_13 rfl (by decide) hq.o hq.r2 hq.k2.1.2 ?_
      refine P_iconst (v := nI 0) dX7_runScript_74 (by decide) ?_
      refine P_aload_n dX7_runScript_75 rfl rfl ?_
      refine P_getr (t := q + 3) dX7_runScript_76 kX7 fX7_16 rfl (by decide) hq.o hq.r3 hq.k3.1.2 ?_
      refine P_iconst (v := nI 0) dX7_runScript_79 (by decide) ?_
      refine P_cSs (rest := []) (As := [.ref (q + 2), .int (nI (0)), .ref (q + 3), .int (nI (0))]) dX7_runScript_80 lX7_189 yk_X7_copyState ys_X7_copyState (by decide) rfl rfl (Nat.le_of_ble_eq_true rfl) rfl (c_X7_copyState (fa := 0) (ta := 0) hq.k2 hq.k3 (by omega) (by omega) (by omega) (by decide) (by decide)) (fun v2 ⟨hO2, hs2⟩ => ?_)
      have hR2 : RR c v2 (q + 3) S := hR1.sh (fun i hi => by rw [hs2, if_pos (by omega), show 0 + (i - 0) = i by omega])
      have hO29 : vO4 v1 v2 (q + 3) q := hO2.c3
      refine P_iconst (v := nI 0) dX7_runScript_83 (by decide) ?_
      refine P_istore (ls2 := [some (.ref (q)), some (.int (nI (3))), some (.long (nL (sk))), none, some (.long (nL (((1 * 100000) * 100000) * 100000))), none, some (.int (nI (0))), none]) dX7_runScript_84 (by decide) rfl ?_
      refine P_iload dX7_runScript_86 rfl ?_
      refine P_iload_n dX7_runScript_88 rfl rfl ?_
      refine P_icmp_geN (tgt := 139) dX7_runScript_89 (by decide) (by decide) (by decide) (fun c89 => absurd c89 (by decide)) (fun c89 => ?_)
      refine P_lload dX7_runScript_92 rfl ?_
      refine P_ldc2_w dX7_runScript_94 cX7_226 ?_
      refine P_topL (y := nL 100000) (by decide) ?_
      refine P_ldivN dX7_runScript_97 (by omega) (by omega) (by decide) ?_
      refine P_topL (y := nL 10000000000) (congrArg nL (by decide)) ?_
      refine P_lstore (ls2 := [some (.ref (q)), some (.int (nI (3))), some (.long (nL (sk))), none, some (.long (nL (10000000000))), none, some (.int (nI (0))), none]) dX7_runScript_98 (by decide) rfl ?_
      refine P_lload_n dX7_runScript_100 rfl rfl ?_
      refine P_lload dX7_runScript_101 rfl ?_
      refine P_ldivN dX7_runScript_103 (by omega) (by omega) (by decide) ?_
      refine P_ldc2_w dX7_runScript_104 cX7_226 ?_
      refine P_topL (y := nL 100000) (by decide) ?_
      refine P_lremN dX7_runScript_107 (by omega) (by omega) (by decide) ?_
      refine P_l2iN dX7_runScript_108 ?_
      refine P_top (y := nI (sk / 100000 ^ (3 - 1 - 0) % 100000)) (by rw [show 100000 ^ (3 - 1 - 0) = 10000000000 by decide]) ?_
      have l0 : sk / 100000 ^ (3 - 1 - 0) % 100000 < 100000 := Nat.mod_lt _ (by decide)
      obtain ⟨g0, eg0⟩ : ∃ z9, z9 = sk / 100000 ^ (3 - 1 - 0) % 100000 := ⟨_, rfl⟩
      rw [← eg0] at l0 ⊢
      refine P_istore (ls2 := [some (.ref (q)), some (.int (nI (3))), some (.long (nL (sk))), none, some (.long (nL (10000000000))), none, some (.int (nI (0))), some (.int (nI (g0)))]) dX7_runScript_109 (by decide) rfl ?_
      refine P_aload_n dX7_runScript_111 rfl rfl ?_
      refine P_iload dX7_runScript_112 rfl ?_
      refine P_sipush (v := nI 10000) dX7_runScript_114 (by decide) ?_
      refine P_idivN dX7_runScript_117 (by omega) (by decide) (by decide) ?_
      refine P_iload dX7_runScript_118 rfl ?_
      refine P_sipush (v := nI 10000) dX7_runScript_120 (by decide) ?_
      refine P_iremN dX7_runScript_123 (by omega) (by decide) (by decide) ?_
      refine P_top (y := nI (1000 * (g0 / 1000 % 10) + 100 * (g0 / 100 % 10) + g0 % 100)) (congrArg nI (by omega)) ?_
      refine P_cVs (rest := []) (As := [.int (nI (g0 / 10000)), .int (nI (1000 * (g0 / 1000 % 10) + 100 * (g0 / 100 % 10) + g0 % 100))]) dX7_runScript_124 lX7_230 yk_X7_command yv_X7_command kX7 rfl (by decide) hq.o rfl rfl (Nat.le_of_ble_eq_true rfl) rfl (c_X7_command (h := g0 / 10000) (a := g0 / 1000 % 10) (d := g0 / 100 % 10) (r := g0 % 100) hq hR2 hX0.1 (by omega) hX0.2 (by omega) (by omega) (by omega) (by omega)) (fun v3 hp0 => ?_)
      have hw0 := hO29.tr hp0.2.c3
      have hX1 := hX0.cmd g0
      refine P_bif_ne (tgt := 133) dX7_runScript_127 (by decide) (fun c127 => ?_) (fun c127 => ?_)
      · have y0 := c127
        refine P_iinc (v := nI (1)) (ls2 := [some (.ref (q)), some (.int (nI (3))), some (.long (nL (sk))), none, some (.long (nL (10000000000))), none, some (.int (nI (1))), some (.int (nI (g0)))]) dX7_runScript_133 rfl (nI_inc _ 1) (by decide) rfl ?_
        refine P_goto (tgt := 86) dX7_runScript_136 (by decide) ?_
        refine P_iload dX7_runScript_86 rfl ?_
        refine P_iload_n dX7_runScript_88 rfl rfl ?_
        refine P_icmp_geN (tgt := 139) dX7_runScript_89 (by decide) (by decide) (by decide) (fun c89 => absurd c89 (by decide)) (fun c89 => ?_)
        refine P_lload dX7_runScript_92 rfl ?_
        refine P_ldc2_w dX7_runScript_94 cX7_226 ?_
        refine P_topL (y := nL 100000) (by decide) ?_
        refine P_ldivN dX7_runScript_97 (by omega) (by omega) (by decide) ?_
        refine P_topL (y := nL 100000) (congrArg nL (by decide)) ?_
        refine P_lstore (ls2 := [some (.ref (q)), some (.int (nI (3))), some (.long (nL (sk))), none, some (.long (nL (100000))), none, some (.int (nI (1))), some (.int (nI (g0)))]) dX7_runScript_98 (by decide) rfl ?_
        refine P_lload_n dX7_runScript_100 rfl rfl ?_
        refine P_lload dX7_runScript_101 rfl ?_
        refine P_ldivN dX7_runScript_103 (by omega) (by omega) (by decide) ?_
        refine P_ldc2_w dX7_runScript_104 cX7_226 ?_
        refine P_topL (y := nL 100000) (by decide) ?_
        refine P_lremN dX7_runScript_107 (by omega) (by omega) (by decide) ?_
        refine P_l2iN dX7_runScript_108 ?_
        refine P_top (y := nI (sk / 100000 ^ (3 - 1 - (0 + 1)) % 100000)) (by rw [show 100000 ^ (3 - 1 - (0 + 1)) = 100000 by decide]) ?_
        have l1 : sk / 100000 ^ (3 - 1 - (0 + 1)) % 100000 < 100000 := Nat.mod_lt _ (by decide)
        obtain ⟨g1, eg1⟩ : ∃ z9, z9 = sk / 100000 ^ (3 - 1 - (0 + 1)) % 100000 := ⟨_, rfl⟩
        rw [← eg1] at l1 ⊢
        refine P_istore (ls2 := [some (.ref (q)), some (.int (nI (3))), some (.long (nL (sk))), none, some (.long (nL (100000))), none, some (.int (nI (1))), some (.int (nI (g1)))]) dX7_runScript_109 (by decide) rfl ?_
        refine P_aload_n dX7_runScript_111 rfl rfl ?_
        refine P_iload dX7_runScript_112 rfl ?_
        refine P_sipush (v := nI 10000) dX7_runScript_114 (by decide) ?_
        refine P_idivN dX7_runScript_117 (by omega) (by decide) (by decide) ?_
        refine P_iload dX7_runScript_118 rfl ?_
        refine P_sipush (v := nI 10000) dX7_runScript_120 (by decide) ?_
        refine P_iremN dX7_runScript_123 (by omega) (by decide) (by decide) ?_
        refine P_top (y := nI (1000 * (g1 / 1000 % 10) + 100 * (g1 / 100 % 10) + g1 % 100)) (congrArg nI (by omega)) ?_
        refine P_cVs (rest := []) (As := [.int (nI (g1 / 10000)), .int (nI (1000 * (g1 / 1000 % 10) + 100 * (g1 / 100 % 10) + g1 % 100))]) dX7_runScript_124 lX7_230 yk_X7_command yv_X7_command kX7 rfl (by decide) hq.o rfl rfl (Nat.le_of_ble_eq_true rfl) rfl (c_X7_command (h := g1 / 10000) (a := g1 / 1000 % 10) (d := g1 / 100 % 10) (r := g1 % 100) hq hp0.1 hX1.1 (by omega) hX1.2 (by omega) (by omega) (by omega) (by omega)) (fun v4 hp1 => ?_)
        have hw1 := hw0.tr hp1.2.c3
        have hX2 := hX1.cmd g1
        refine P_bif_ne (tgt := 133) dX7_runScript_127 (by decide) (fun c127 => ?_) (fun c127 => ?_)
        · have y1 := c127
          refine P_iinc (v := nI (2)) (ls2 := [some (.ref (q)), some (.int (nI (3))), some (.long (nL (sk))), none, some (.long (nL (100000))), none, some (.int (nI (2))), some (.int (nI (g1)))]) dX7_runScript_133 rfl (nI_inc _ 1) (by decide) rfl ?_
          refine P_goto (tgt := 86) dX7_runScript_136 (by decide) ?_
          refine P_iload dX7_runScript_86 rfl ?_
          refine P_iload_n dX7_runScript_88 rfl rfl ?_
          refine P_icmp_geN (tgt := 139) dX7_runScript_89 (by decide) (by decide) (by decide) (fun c89 => absurd c89 (by decide)) (fun c89 => ?_)
          refine P_lload dX7_runScript_92 rfl ?_
          refine P_ldc2_w dX7_runScript_94 cX7_226 ?_
          refine P_topL (y := nL 100000) (by decide) ?_
          refine P_ldivN dX7_runScript_97 (by omega) (by omega) (by decide) ?_
          refine P_topL (y := nL 1) (congrArg nL (by decide)) ?_
          refine P_lstore (ls2 := [some (.ref (q)), some (.int (nI (3))), some (.long (nL (sk))), none, some (.long (nL (1))), none, some (.int (nI (2))), some (.int (nI (g1)))]) dX7_runScript_98 (by decide) rfl ?_
          refine P_lload_n dX7_runScript_100 rfl rfl ?_
          refine P_lload dX7_runScript_101 rfl ?_
          refine P_ldivN dX7_runScript_103 (by omega) (by omega) (by decide) ?_
          refine P_ldc2_w dX7_runScript_104 cX7_226 ?_
          refine P_topL (y := nL 100000) (by decide) ?_
          refine P_lremN dX7_runScript_107 (by omega) (by omega) (by decide) ?_
          refine P_l2iN dX7_runScript_108 ?_
          refine P_top (y := nI (sk / 100000 ^ (3 - 1 - (0 + 1 + 1)) % 100000)) (by rw [show 100000 ^ (3 - 1 - (0 + 1 + 1)) = 1 from Nat.pow_zero 100000]) ?_
          have l2 : sk / 100000 ^ (3 - 1 - (0 + 1 + 1)) % 100000 < 100000 := Nat.mod_lt _ (by decide)
          obtain ⟨g2, eg2⟩ : ∃ z9, z9 = sk / 100000 ^ (3 - 1 - (0 + 1 + 1)) % 100000 := ⟨_, rfl⟩
          rw [← eg2] at l2 ⊢
          refine P_istore (ls2 := [some (.ref (q)), some (.int (nI (3))), some (.long (nL (sk))), none, some (.long (nL (1))), none, some (.int (nI (2))), some (.int (nI (g2)))]) dX7_runScript_109 (by decide) rfl ?_
          refine P_aload_n dX7_runScript_111 rfl rfl ?_
          refine P_iload dX7_runScript_112 rfl ?_
          refine P_sipush (v := nI 10000) dX7_runScript_114 (by decide) ?_
          refine P_idivN dX7_runScript_117 (by omega) (by decide) (by decide) ?_
          refine P_iload dX7_runScript_118 rfl ?_
          refine P_sipush (v := nI 10000) dX7_runScript_120 (by decide) ?_
          refine P_iremN dX7_runScript_123 (by omega) (by decide) (by decide) ?_
          refine P_top (y := nI (1000 * (g2 / 1000 % 10) + 100 * (g2 / 100 % 10) + g2 % 100)) (congrArg nI (by omega)) ?_
          refine P_cVs (rest := []) (As := [.int (nI (g2 / 10000)), .int (nI (1000 * (g2 / 1000 % 10) + 100 * (g2 / 100 % 10) + g2 % 100))]) dX7_runScript_124 lX7_230 yk_X7_command yv_X7_command kX7 rfl (by decide) hq.o rfl rfl (Nat.le_of_ble_eq_true rfl) rfl (c_X7_command (h := g2 / 10000) (a := g2 / 1000 % 10) (d := g2 / 100 % 10) (r := g2 % 100) hq hp1.1 hX2.1 (by omega) hX2.2 (by omega) (by omega) (by omega) (by omega)) (fun v5 hp2 => ?_)
          have hw2 := hw1.tr hp2.2.c3
          have hX3 := hX2.cmd g2
          refine P_bif_ne (tgt := 133) dX7_runScript_127 (by decide) (fun c127 => ?_) (fun c127 => ?_)
          · have y2 := c127
            refine P_iinc (v := nI (3)) (ls2 := [some (.ref (q)), some (.int (nI (3))), some (.long (nL (sk))), none, some (.long (nL (1))), none, some (.int (nI (3))), some (.int (nI (g2)))]) dX7_runScript_133 rfl (nI_inc _ 1) (by decide) rfl ?_
            refine P_goto (tgt := 86) dX7_runScript_136 (by decide) ?_
            refine P_iload dX7_runScript_86 rfl ?_
            refine P_iload_n dX7_runScript_88 rfl rfl ?_
            refine P_icmp_geN (tgt := 139) dX7_runScript_89 (by decide) (by decide) (by decide) (fun c89 => ?_) (fun c89 => absurd c89 (by decide))
            refine P_iconst (v := -1) dX7_runScript_139 (by decide) ?_
            refine P_iret dX7_runScript_140 rfl ?_
            subst eg0 eg1 eg2
            have e9 : mscr 3 sk 3 0 (c, S) = none := ((mscr_t (f := 2) y0).trans ((mscr_t (f := 1) y1).trans ((mscr_t (f := 0) y2).trans rfl)))
            exact qr_ret ((if_neg (gt_f hgs9)).trans (by rw [show (nI 3).toInt.toNat = 3 from rfl, show (nL sk).toInt.toNat = sk from by rw [nL_toInt (by omega)]; rfl, e9]; rfl)) (by rw [hw2.2 0 (by decide) (by decide)]; exact h01) (hT1.o4 hw2) (hF1.tr (hw2.ow (by omega) (by omega)))
          · have y2 := c127
            refine P_iload dX7_runScript_130 rfl ?_
            refine P_iret dX7_runScript_132 rfl ?_
            subst eg0 eg1 eg2
            have e9 : mscr 3 sk 3 0 (c, S) = some 2 := ((mscr_t (f := 2) y0).trans ((mscr_t (f := 1) y1).trans (mscr_f (f := 0) y2)))
            exact qr_ret ((if_neg (gt_f hgs9)).trans (by rw [show (nI 3).toInt.toNat = 3 from rfl, show (nL sk).toInt.toNat = sk from by rw [nL_toInt (by omega)]; rfl, e9]; rfl)) (by rw [hw2.2 0 (by decide) (by decide)]; exact h01) (hT1.o4 hw2) (hF1.tr (hw2.ow (by omega) (by omega)))
        · have y1 := c127
          refine P_iload dX7_runScript_130 rfl ?_
          refine P_iret dX7_runScript_132 rfl ?_
          subst eg0 eg1
          have e9 : mscr 3 sk 3 0 (c, S) = some 1 := ((mscr_t (f := 2) y0).trans (mscr_f (f := 1) y1))
          exact qr_ret ((if_neg (gt_f hgs9)).trans (by rw [show (nI 3).toInt.toNat = 3 from rfl, show (nL sk).toInt.toNat = sk from by rw [nL_toInt (by omega)]; rfl, e9]; rfl)) (by rw [hw1.2 0 (by decide) (by decide)]; exact h01) (hT1.o4 hw1) (hF1.tr (hw1.ow (by omega) (by omega)))
      · have y0 := c127
        refine P_iload dX7_runScript_130 rfl ?_
        refine P_iret dX7_runScript_132 rfl ?_
        subst eg0
        have e9 : mscr 3 sk 3 0 (c, S) = some 0 := (mscr_f (f := 2) y0)
        exact qr_ret ((if_neg (gt_f hgs9)).trans (by rw [show (nI 3).toInt.toNat = 3 from rfl, show (nL sk).toInt.toNat = sk from by rw [nL_toInt (by omega)]; rfl, e9]; rfl)) (by rw [hw0.2 0 (by decide) (by decide)]; exact h01) (hT1.o4 hw0) (hF1.tr (hw0.ow (by omega) (by omega)))
set_option maxHeartbeats 4000000 in
set_option maxRecDepth 100000 in
theorem c_X7_standsIn {σ : vS} {v : vV} {c q n : Nat} {S : mS} {t : mN} {D : List mC} {sl : Nat → Option mC} {m s w : Int32} (hq : LR σ q) (hT : RT v q ((t, n), (c, S), D, sl)) {B : Nat} (hG : GI B ((t, n), (c, S), D, sl)) (hB : B + 6000000 < 1000000000) : vC M_X7_standsIn yX7_standsIn [.ref (q), .int (m), .int (s), .int (w)] (σ, v) (qR σ v q (g_standsIn ((t, n), (c, S), D, sl) m s w)) := by
  have hR : RR c v (q + 2) S := hT.r
  have hN : NB c S B := hG.1.1
  have hI : Iv c 1 S := hG.1.2
  have hc6 := hR.c6
  have htx : mTX v q t n := hT.tx
  have hlt : D.length ≤ 14 := hT.l
  refine vC_of (ls := [some (.ref (q)), some (.int (m)), some (.int (s)), some (.int (w)), none, none, none, none]) pn_X7 rfl rfl (Nat.le_of_ble_eq_true rfl) rfl ?_
  refine P_aload_n dX7_standsIn_0 rfl rfl ?_
  refine P_aload_n dX7_standsIn_1 rfl rfl ?_
  refine P_getr (t := q + 2) dX7_standsIn_2 kX7 fX7_13 rfl (by decide) hq.o hq.r2 hq.k2.1.2 ?_
  refine P_iload_n dX7_standsIn_5 rfl rfl ?_
  refine P_cSp (rest := [.ref (q)]) (As := [.ref (q + 2), .int (m)]) dX7_standsIn_6 lX7_112 yk_X7_isMember ys_X7_isMember (by decide) rfl rfl (Nat.le_of_ble_eq_true rfl) rfl (c_X7_isMember hq.k2 hR) ?_
  refine P_bif_ne (tgt := 16) dX7_standsIn_9 (by decide) (fun c9 => ?_) (fun c9 => ?_)
  · have hm9 := c9
    obtain ⟨mk, hmk, rfl⟩ := mb_nat hc6 c9
    refine P_iload_n dX7_standsIn_16 rfl rfl ?_
    refine P_i2l dX7_standsIn_17 ?_
    refine P_lconst (v := 0) dX7_standsIn_18 (by decide) ?_
    refine P_lconst (v := 1) dX7_standsIn_19 (by decide) ?_
    refine P_cSp (rest := [.ref (q)]) (As := [.long ((w).toInt64), .long ((0)), .long ((1))]) dX7_standsIn_20 lX7_40 yk_X7_in ys_X7_in (by decide) rfl rfl (Nat.le_of_ble_eq_true rfl) rfl (c_X7_in _ _ _) ?_
    refine P_top (y := vb (gin w 0 1)) (congrArg vb (in_gin (by decide) (by decide))) ?_
    refine P_bif_eq (tgt := 38) dX7_standsIn_23 (by decide) (fun c23 => ?_) (fun c23 => ?_)
    · refine P_iconst (v := nI 2) dX7_standsIn_38 (by decide) ?_
      refine P_goto (tgt := 43) dX7_standsIn_39 (by decide) ?_
      refine P_cVs (rest := []) (As := [.int (nI (2))]) dX7_standsIn_43 lX7_129 yk_X7_refused yv_X7_refused kX7 rfl (by decide) hq.o rfl rfl (Nat.le_of_ble_eq_true rfl) rfl (c_X7_refused (k := 2) hq (by decide)) (fun v9 e9 => ?_)
      subst e9
      refine P_top (y := vb true) rfl ?_
      refine P_bif_eq (tgt := 51) dX7_standsIn_46 (by decide) (fun q9 => Bool.noConfusion q9) (fun _ => ?_)
      refine P_iconst (v := nI 0) dX7_standsIn_49 (by decide) ?_
      refine P_iret dX7_standsIn_50 rfl ?_
      exact qr_thr hT ((if_neg (gt_f hm9)).trans (if_pos (by rw [c23]; rfl)))
    · refine P_aload_n dX7_standsIn_26 rfl rfl ?_
      refine P_getr (t := q + 2) dX7_standsIn_27 kX7 fX7_13 rfl (by decide) hq.o hq.r2 hq.k2.1.2 ?_
      refine P_iload_n dX7_standsIn_30 rfl rfl ?_
      refine P_iload_n dX7_standsIn_31 rfl rfl ?_
      refine P_cSp (rest := [.ref (q)]) (As := [.ref (q + 2), .int (nI (mk)), .int (s)]) dX7_standsIn_32 lX7_116 yk_X7_isSet ys_X7_isSet (by decide) rfl rfl (Nat.le_of_ble_eq_true rfl) rfl (c_X7_isSet hq.k2 hR (by omega)) ?_
      refine P_bif_ne (tgt := 42) dX7_standsIn_35 (by decide) (fun c35 => ?_) (fun c35 => ?_)
      · refine P_iconst (v := nI 0) dX7_standsIn_42 (by decide) ?_
        refine P_cVs (rest := []) (As := [.int (nI (0))]) dX7_standsIn_43 lX7_129 yk_X7_refused yv_X7_refused kX7 rfl (by decide) hq.o rfl rfl (Nat.le_of_ble_eq_true rfl) rfl (c_X7_refused (k := 0) hq (by decide)) (fun v1 e1 => ?_)
        obtain ⟨hT1, h01, hF1⟩ : RT v1 q ((t, n), (c, S), D, sl) ∧ v1 q 0 = nI 0 ∧ vOw v v1 q 8 := by subst e1; exact ⟨hT.ref, vU_s, vOw.rf.u (by omega) (by omega)⟩
        have hR1 : RR c v1 (q + 2) S := hT1.r
        clear e1
        refine P_top (y := vb false) rfl ?_
        refine P_bif_eq (tgt := 51) dX7_standsIn_46 (by decide) (fun _ => ?_) (fun q9 => Bool.noConfusion q9)
        have hgi9 : gin w 0 1 = true := c23
        have hgs9 : (gin w 0 1 && mset c (nI mk).toInt.toNat s) = true := by rw [hgi9, nn (by omega), c35]; rfl
        obtain ⟨sk, sk1, sk2, rfl, hst⟩ := kset_nat (m := nI mk) hc6 (by rw [nn (by omega)]; exact c35)
        rw [nn (by omega)] at hst
        obtain ⟨wk, wk0, wk1, rfl⟩ := gin_n (lo := 0) (hi := 1) (by decide) hgi9
        obtain ⟨F, hMP, -⟩ := hI.2
        refine P_aload_n dX7_standsIn_51 rfl rfl ?_
        refine P_getr (t := q + 2) dX7_standsIn_52 kX7 fX7_13 rfl (by decide) hq.o hq.r2 hq.k2.1.2 ?_
        refine P_iload_n dX7_standsIn_55 rfl rfl ?_
        refine P_cSp (rest := []) (As := [.ref (q + 2), .int (nI (mk))]) dX7_standsIn_56 lX7_169 yk_X7_isGone ys_X7_isGone (by decide) rfl rfl (Nat.le_of_ble_eq_true rfl) rfl (c_X7_isGone hq.k2 hR1 hN) ?_
        refine P_top (y := vb (decide (mk < c ∧ gM S mk 1 = 2))) (by rw [mgone_k hc6 (by omega)]) ?_
        refine P_bif_eq (tgt := 64) dX7_standsIn_59 (by decide) (fun c59 => ?_) (fun c59 => ?_)
        · refine P_aload_n dX7_standsIn_64 rfl rfl ?_
          refine P_getr (t := q + 2) dX7_standsIn_65 kX7 fX7_13 rfl (by decide) hq.o hq.r2 hq.k2.1.2 ?_
          refine P_iconst (v := nI 0) dX7_standsIn_68 (by decide) ?_
          refine P_aload_n dX7_standsIn_69 rfl rfl ?_
          refine P_getr (t := q + 3) dX7_standsIn_70 kX7 fX7_16 rfl (by decide) hq.o hq.r3 hq.k3.1.2 ?_
          refine P_iconst (v := nI 0) dX7_standsIn_73 (by decide) ?_
          refine P_cSs (rest := []) (As := [.ref (q + 2), .int (nI (0)), .ref (q + 3), .int (nI (0))]) dX7_standsIn_74 lX7_189 yk_X7_copyState ys_X7_copyState (by decide) rfl rfl (Nat.le_of_ble_eq_true rfl) rfl (c_X7_copyState (fa := 0) (ta := 0) hq.k2 hq.k3 (by omega) (by omega) (by omega) (by decide) (by decide)) (fun v2 ⟨hO2, hs2⟩ => ?_)
          have hR2 : RR c v2 (q + 3) S := hR1.sh (fun i hi => by rw [hs2, if_pos (by omega), show 0 + (i - 0) = i by omega])
          have hO29 : vO4 v1 v2 (q + 3) q := hO2.c3
          have hne : ¬ gM S mk 1 = 2 := fun z9 => of_decide_eq_false c59 ⟨hmk, z9⟩
          refine P_aload_n dX7_standsIn_77 rfl rfl ?_
          refine P_getr (t := q + 3) dX7_standsIn_78 kX7 fX7_16 rfl (by decide) hq.o hq.r3 hq.k3.1.2 ?_
          refine P_bipush (v := nI 6) dX7_standsIn_81 (by decide) ?_
          refine P_ialdN (x := nI (gG S 6)) (6) dX7_standsIn_83 hq.k3 rfl (by omega) (by decide) (hR2.g (by decide) (by decide)) ?_
          refine P_istore (ls2 := [some (.ref (q)), some (.int (nI (mk))), some (.int (nI (sk))), some (.int (nI (wk))), some (.int (nI (gG S 6))), none, none, none]) dX7_standsIn_84 (by decide) rfl ?_
          refine P_aload_n dX7_standsIn_86 rfl rfl ?_
          refine P_getr (t := q + 3) dX7_standsIn_87 kX7 fX7_16 rfl (by decide) hq.o hq.r3 hq.k3.1.2 ?_
          refine P_iload_n dX7_standsIn_90 rfl rfl ?_
          refine P_iload_n dX7_standsIn_91 rfl rfl ?_
          refine P_cSs (rest := []) (As := [.ref (q + 3), .int (nI (mk)), .int (nI (sk))]) dX7_standsIn_92 lX7_106 yk_X7_callOn ys_X7_callOn (by decide) rfl rfl (Nat.le_of_ble_eq_true rfl) rfl (c_X7_callOn hq.k3 hR2 hN (by omega) (by omega) (by omega)) (fun v3 ⟨hR3, hO3⟩ => ?_)
          have hO39 := hO29.tr hO3.c3
          have hX2 := (show KC B (c, S) from hG.1).call (a := mk) (s := sk)
          rw [show (kCall (c, S) mk sk).2 = (c, mcall S mk sk) from by unfold kCall; rw [if_pos ⟨by omega, ⟨sk2, hst⟩, hne⟩]] at hX2
          have hnum : gM S mk 6 + 1 < 2147483648 := by have := hN.m6 mk; omega
          have hJ : ∀ k, gM (mticks k (mcall S mk sk)) mk 2 = gM S mk 6 + 1 ∧ gM (mticks k (mcall S mk sk)) mk 3 = mk → gG S 6 < gG (mticks k (mcall S mk sk)) 6 := fun k h9 => stands_grow hX2.2 hX2.1 (hMP mk (by omega)).1.1 h9
          obtain ⟨num, enum⟩ : ∃ q9, q9 = gM S mk 6 + 1 := ⟨_, rfl⟩
          rw [← enum] at hnum hJ ⊢
          have hg6 := hN.g (i := 6) (by decide)
          refine P_istore (ls2 := [some (.ref (q)), some (.int (nI (mk))), some (.int (nI (sk))), some (.int (nI (wk))), some (.int (nI (gG S 6))), some (.int (nI (num))), none, none]) dX7_standsIn_95 (by decide) rfl ?_
          refine P_iconst (v := nI 0) dX7_standsIn_97 (by decide) ?_
          refine P_istore (ls2 := [some (.ref (q)), some (.int (nI (mk))), some (.int (nI (sk))), some (.int (nI (wk))), some (.int (nI (gG S 6))), some (.int (nI (num))), some (.int (nI (0))), none]) dX7_standsIn_98 (by decide) rfl ?_
          refine P_iconst (v := nI 0) dX7_standsIn_100 (by decide) ?_
          refine P_istore (ls2 := [some (.ref (q)), some (.int (nI (mk))), some (.int (nI (sk))), some (.int (nI (wk))), some (.int (nI (gG S 6))), some (.int (nI (num))), some (.int (nI (0))), some (.int (nI (0)))]) dX7_standsIn_101 (by decide) rfl ?_
          have hL103 : ∀ (n103 : Nat) (k : Nat) (v4 : vV) (bs : Bool), (k ≤ 101) → (k + n103 = 102) → (mfind c (mcall S mk sk) mk num sk wk (101 - k) k = mfind c (mcall S mk sk) mk num sk wk 101 0) → (RR c v4 (q + 3) (mticks k (mcall S mk sk))) → (vO4 v1 v4 (q + 3) q) → (wk = 0 → bs = false) → vP M_X7_standsIn 103 [some (.ref (q)), some (.int (nI (mk))), some (.int (nI (sk))), some (.int (nI (wk))), some (.int (nI (gG S 6))), some (.int (nI (num))), some (.int (vb (bs))), some (.int (nI (k)))] [] ((vRm M_X7_standsIn).cells, (vRm M_X7_standsIn).slots) (σ, v4) (vN (qR σ v q (g_standsIn ((t, n), (c, S), D, sl) (nI mk) (nI sk) (nI wk)))) := by
            intro n103
            induction n103 with
            | zero =>
              intro k v4 bs h1 h2 he hR4 hO4 hbs
              exact absurd h2 (by omega)
            | succ n103 ih103 =>
              intro k v4 bs h1 h2 he hR4 hO4 hbs
              have hX4 : KC (B + 70000 + 1135 * k) (c, mticks k (mcall S mk sk)) := ⟨hX2.1.ticks k, hX2.2.ticks hX2.1 k⟩
              have hg4 : gG (mticks k (mcall S mk sk)) 6 ≤ B + 70000 + 1135 * k := hX4.1.g (i := 6) (by decide)
              refine P_iload dX7_standsIn_103 rfl ?_
              refine P_bipush (v := nI 100) dX7_standsIn_105 (by decide) ?_
              refine P_icmp_gtN (tgt := 182) dX7_standsIn_107 (by decide) (by omega) (by omega) (fun c107 => ?_) (fun c107 => ?_)
              · refine P_iconst (v := -1) dX7_standsIn_182 (by decide) ?_
                refine P_iret dX7_standsIn_183 rfl ?_
                exact qr_ret ((if_neg (gt_f hm9)).trans ((if_neg (gt_f hgs9)).trans ((if_neg (by rw [nn (by omega)]; exact hne)).trans (by rw [nn (by omega), nn (by omega), nn (by omega), ← enum, ← he, show 101 - k = 0 by omega]; rfl)))) (by rw [hO4.2 0 (by decide) (by decide)]; exact h01) (hT1.o4 hO4) (hF1.tr (hO4.ow (by omega) (by omega)))
              · refine P_iload dX7_standsIn_110 rfl ?_
                refine P_bif_ne (tgt := 137) dX7_standsIn_112 (by decide) (fun c112 => ?_) (fun c112 => ?_)
                · refine P_iconst (v := nI 1) dX7_standsIn_137 (by decide) ?_
                  refine P_goto (tgt := 142) dX7_standsIn_138 (by decide) ?_
                  refine P_istore (ls2 := [some (.ref (q)), some (.int (nI (mk))), some (.int (nI (sk))), some (.int (nI (wk))), some (.int (nI (gG S 6))), some (.int (nI (num))), some (.int (nI (1))), some (.int (nI (k)))]) dX7_standsIn_142 (by decide) rfl ?_
                  refine P_iload dX7_standsIn_144 rfl ?_
                  refine P_if_eqN (tgt := 168) dX7_standsIn_146 (by decide) (by decide) (fun q9 => absurd q9 (by decide)) (fun _ => ?_)
                  refine P_iload_n dX7_standsIn_149 rfl rfl ?_
                  refine P_if_eqN (tgt := 165) dX7_standsIn_150 (by decide) (by omega) (fun c150 => ?_) (fun c150 => ?_)
                  · refine P_iload dX7_standsIn_165 rfl ?_
                    refine P_iret dX7_standsIn_167 rfl ?_
                    have e9 : mfind c (mcall S mk sk) mk num sk wk (101 - k) k = some k := by
                      rw [show 101 - k = (101 - (k + 1)) + 1 by omega]
                      exact mfind_y (absurd c112 (by rw [hbs (show wk = 0 from c150)]; exact Bool.noConfusion))
                    exact qr_ret ((if_neg (gt_f hm9)).trans ((if_neg (gt_f hgs9)).trans ((if_neg (by rw [nn (by omega)]; exact hne)).trans (by rw [nn (by omega), nn (by omega), nn (by omega), ← enum, ← he, e9]; rfl)))) (by rw [hO4.2 0 (by decide) (by decide)]; exact h01) (hT1.o4 hO4) (hF1.tr (hO4.ow (by omega) (by omega)))
                  · refine P_aload_n dX7_standsIn_153 rfl rfl ?_
                    refine P_iload_n dX7_standsIn_154 rfl rfl ?_
                    refine P_iload dX7_standsIn_155 rfl ?_
                    refine P_iload_n dX7_standsIn_157 rfl rfl ?_
                    refine P_iconst (v := nI 1) dX7_standsIn_158 (by decide) ?_
                    refine P_cVp (rest := []) (As := [.int (nI (mk)), .int (nI (num)), .int (nI (sk)), .int (nI (1))]) dX7_standsIn_159 lX7_215 yk_X7_isThere yv_X7_isThere kX7 rfl (by decide) hq.o rfl rfl (Nat.le_of_ble_eq_true rfl) rfl (c_X7_isThere hq hR4 hX4.1 hmk (by omega) hnum (by omega)) ?_
                    refine P_bif_eq (tgt := 168) dX7_standsIn_162 (by decide) (fun c162 => ?_) (fun c162 => ?_)
                    · refine P_aload_n dX7_standsIn_168 rfl rfl ?_
                      refine P_aload_n dX7_standsIn_169 rfl rfl ?_
                      refine P_getr (t := q + 3) dX7_standsIn_170 kX7 fX7_16 rfl (by decide) hq.o hq.r3 hq.k3.1.2 ?_
                      refine P_cVs (rest := []) (As := [.ref (q + 3)]) dX7_standsIn_173 lX7_109 yk_X7_tick yv_X7_tick kX7 rfl (by decide) hq.o rfl rfl (Nat.le_of_ble_eq_true rfl) rfl (c_X7_tick hq hq.k3 hR4 (by omega) hX4.1 (by omega) hX4.2) (fun v5 ⟨hR5, hO5⟩ => ?_)
                      refine P_iinc (v := nI (k + 1)) (ls2 := [some (.ref (q)), some (.int (nI (mk))), some (.int (nI (sk))), some (.int (nI (wk))), some (.int (nI (gG S 6))), some (.int (nI (num))), some (.int (nI (1))), some (.int (nI (k + 1)))]) dX7_standsIn_176 rfl (nI_inc _ 1) (by decide) rfl ?_
                      refine P_goto (tgt := 103) dX7_standsIn_179 (by decide) ?_
                      refine ih103 (k + 1) _ true (by omega) (by omega) ?_ hR5 (hO4.tr hO5.c3) (fun h9 => absurd h9 c150)
                      rw [← he, show 101 - k = (101 - (k + 1)) + 1 by omega, mfind_n ((mcnd_1 c150).trans c162)]
                    · refine P_iload dX7_standsIn_165 rfl ?_
                      refine P_iret dX7_standsIn_167 rfl ?_
                      have e9 : mfind c (mcall S mk sk) mk num sk wk (101 - k) k = some k := by
                        rw [show 101 - k = (101 - (k + 1)) + 1 by omega]
                        exact mfind_y ((mcnd_1 c150).trans c162)
                      exact qr_ret ((if_neg (gt_f hm9)).trans ((if_neg (gt_f hgs9)).trans ((if_neg (by rw [nn (by omega)]; exact hne)).trans (by rw [nn (by omega), nn (by omega), nn (by omega), ← enum, ← he, e9]; rfl)))) (by rw [hO4.2 0 (by decide) (by decide)]; exact h01) (hT1.o4 hO4) (hF1.tr (hO4.ow (by omega) (by omega)))
                · refine P_aload_n dX7_standsIn_115 rfl rfl ?_
                  refine P_getr (t := q + 3) dX7_standsIn_116 kX7 fX7_16 rfl (by decide) hq.o hq.r3 hq.k3.1.2 ?_
                  refine P_bipush (v := nI 6) dX7_standsIn_119 (by decide) ?_
                  refine P_ialdN (x := nI (gG (mticks k (mcall S mk sk)) 6)) (6) dX7_standsIn_121 hq.k3 rfl (by omega) (by decide) (hR4.g (by decide) (by decide)) ?_
                  refine P_iload dX7_standsIn_122 rfl ?_
                  refine P_icmp_leN (tgt := 141) dX7_standsIn_124 (by decide) (by omega) (by omega) (fun c124 => ?_) (fun c124 => ?_)
                  · refine P_iconst (v := nI 0) dX7_standsIn_141 (by decide) ?_
                    refine P_istore (ls2 := [some (.ref (q)), some (.int (nI (mk))), some (.int (nI (sk))), some (.int (nI (wk))), some (.int (nI (gG S 6))), some (.int (nI (num))), some (.int (nI (0))), some (.int (nI (k)))]) dX7_standsIn_142 (by decide) rfl ?_
                    refine P_iload dX7_standsIn_144 rfl ?_
                    refine P_if_eqN (tgt := 168) dX7_standsIn_146 (by decide) (by decide) (fun _ => ?_) (fun q9 => absurd q9 (by decide))
                    refine P_aload_n dX7_standsIn_168 rfl rfl ?_
                    refine P_aload_n dX7_standsIn_169 rfl rfl ?_
                    refine P_getr (t := q + 3) dX7_standsIn_170 kX7 fX7_16 rfl (by decide) hq.o hq.r3 hq.k3.1.2 ?_
                    refine P_cVs (rest := []) (As := [.ref (q + 3)]) dX7_standsIn_173 lX7_109 yk_X7_tick yv_X7_tick kX7 rfl (by decide) hq.o rfl rfl (Nat.le_of_ble_eq_true rfl) rfl (c_X7_tick hq hq.k3 hR4 (by omega) hX4.1 (by omega) hX4.2) (fun v5 ⟨hR5, hO5⟩ => ?_)
                    refine P_iinc (v := nI (k + 1)) (ls2 := [some (.ref (q)), some (.int (nI (mk))), some (.int (nI (sk))), some (.int (nI (wk))), some (.int (nI (gG S 6))), some (.int (nI (num))), some (.int (nI (0))), some (.int (nI (k + 1)))]) dX7_standsIn_176 rfl (nI_inc _ 1) (by decide) rfl ?_
                    refine P_goto (tgt := 103) dX7_standsIn_179 (by decide) ?_
                    refine ih103 (k + 1) _ false (by omega) (by omega) ?_ hR5 (hO4.tr hO5.c3) (fun h9 => rfl)
                    rw [← he, show 101 - k = (101 - (k + 1)) + 1 by omega, mfind_n (mcnd_no (fun h9 => absurd (hJ k h9) (by omega)) hmk hst)]
                  · refine P_aload_n dX7_standsIn_127 rfl rfl ?_
                    refine P_iload_n dX7_standsIn_128 rfl rfl ?_
                    refine P_iload dX7_standsIn_129 rfl ?_
                    refine P_cVp (rest := []) (As := [.int (nI (mk)), .int (nI (num))]) dX7_standsIn_131 lX7_212 yk_X7_standsNow yv_X7_standsNow kX7 rfl (by decide) hq.o rfl rfl (Nat.le_of_ble_eq_true rfl) rfl (c_X7_standsNow hq hR4 hX4.1 hmk (by omega) hnum) ?_
                    refine P_bif_eq (tgt := 141) dX7_standsIn_134 (by decide) (fun c134 => ?_) (fun c134 => ?_)
                    · refine P_iconst (v := nI 0) dX7_standsIn_141 (by decide) ?_
                      refine P_istore (ls2 := [some (.ref (q)), some (.int (nI (mk))), some (.int (nI (sk))), some (.int (nI (wk))), some (.int (nI (gG S 6))), some (.int (nI (num))), some (.int (nI (0))), some (.int (nI (k)))]) dX7_standsIn_142 (by decide) rfl ?_
                      refine P_iload dX7_standsIn_144 rfl ?_
                      refine P_if_eqN (tgt := 168) dX7_standsIn_146 (by decide) (by decide) (fun _ => ?_) (fun q9 => absurd q9 (by decide))
                      refine P_aload_n dX7_standsIn_168 rfl rfl ?_
                      refine P_aload_n dX7_standsIn_169 rfl rfl ?_
                      refine P_getr (t := q + 3) dX7_standsIn_170 kX7 fX7_16 rfl (by decide) hq.o hq.r3 hq.k3.1.2 ?_
                      refine P_cVs (rest := []) (As := [.ref (q + 3)]) dX7_standsIn_173 lX7_109 yk_X7_tick yv_X7_tick kX7 rfl (by decide) hq.o rfl rfl (Nat.le_of_ble_eq_true rfl) rfl (c_X7_tick hq hq.k3 hR4 (by omega) hX4.1 (by omega) hX4.2) (fun v5 ⟨hR5, hO5⟩ => ?_)
                      refine P_iinc (v := nI (k + 1)) (ls2 := [some (.ref (q)), some (.int (nI (mk))), some (.int (nI (sk))), some (.int (nI (wk))), some (.int (nI (gG S 6))), some (.int (nI (num))), some (.int (nI (0))), some (.int (nI (k + 1)))]) dX7_standsIn_176 rfl (nI_inc _ 1) (by decide) rfl ?_
                      refine P_goto (tgt := 103) dX7_standsIn_179 (by decide) ?_
                      refine ih103 (k + 1) _ false (by omega) (by omega) ?_ hR5 (hO4.tr hO5.c3) (fun h9 => rfl)
                      rw [← he, show 101 - k = (101 - (k + 1)) + 1 by omega, mfind_n (mcnd_no (of_decide_eq_false c134) hmk hst)]
                    · refine P_iconst (v := nI 1) dX7_standsIn_137 (by decide) ?_
                      refine P_goto (tgt := 142) dX7_standsIn_138 (by decide) ?_
                      refine P_istore (ls2 := [some (.ref (q)), some (.int (nI (mk))), some (.int (nI (sk))), some (.int (nI (wk))), some (.int (nI (gG S 6))), some (.int (nI (num))), some (.int (nI (1))), some (.int (nI (k)))]) dX7_standsIn_142 (by decide) rfl ?_
                      refine P_iload dX7_standsIn_144 rfl ?_
                      refine P_if_eqN (tgt := 168) dX7_standsIn_146 (by decide) (by decide) (fun q9 => absurd q9 (by decide)) (fun _ => ?_)
                      refine P_iload_n dX7_standsIn_149 rfl rfl ?_
                      refine P_if_eqN (tgt := 165) dX7_standsIn_150 (by decide) (by omega) (fun c150 => ?_) (fun c150 => ?_)
                      · refine P_iload dX7_standsIn_165 rfl ?_
                        refine P_iret dX7_standsIn_167 rfl ?_
                        have e9 : mfind c (mcall S mk sk) mk num sk wk (101 - k) k = some k := by
                          rw [show 101 - k = (101 - (k + 1)) + 1 by omega]
                          exact mfind_y (mcnd_ok (show wk = 0 from c150) (of_decide_eq_true c134))
                        exact qr_ret ((if_neg (gt_f hm9)).trans ((if_neg (gt_f hgs9)).trans ((if_neg (by rw [nn (by omega)]; exact hne)).trans (by rw [nn (by omega), nn (by omega), nn (by omega), ← enum, ← he, e9]; rfl)))) (by rw [hO4.2 0 (by decide) (by decide)]; exact h01) (hT1.o4 hO4) (hF1.tr (hO4.ow (by omega) (by omega)))
                      · refine P_aload_n dX7_standsIn_153 rfl rfl ?_
                        refine P_iload_n dX7_standsIn_154 rfl rfl ?_
                        refine P_iload dX7_standsIn_155 rfl ?_
                        refine P_iload_n dX7_standsIn_157 rfl rfl ?_
                        refine P_iconst (v := nI 1) dX7_standsIn_158 (by decide) ?_
                        refine P_cVp (rest := []) (As := [.int (nI (mk)), .int (nI (num)), .int (nI (sk)), .int (nI (1))]) dX7_standsIn_159 lX7_215 yk_X7_isThere yv_X7_isThere kX7 rfl (by decide) hq.o rfl rfl (Nat.le_of_ble_eq_true rfl) rfl (c_X7_isThere hq hR4 hX4.1 hmk (by omega) hnum (by omega)) ?_
                        refine P_bif_eq (tgt := 168) dX7_standsIn_162 (by decide) (fun c162 => ?_) (fun c162 => ?_)
                        · refine P_aload_n dX7_standsIn_168 rfl rfl ?_
                          refine P_aload_n dX7_standsIn_169 rfl rfl ?_
                          refine P_getr (t := q + 3) dX7_standsIn_170 kX7 fX7_16 rfl (by decide) hq.o hq.r3 hq.k3.1.2 ?_
                          refine P_cVs (rest := []) (As := [.ref (q + 3)]) dX7_standsIn_173 lX7_109 yk_X7_tick yv_X7_tick kX7 rfl (by decide) hq.o rfl rfl (Nat.le_of_ble_eq_true rfl) rfl (c_X7_tick hq hq.k3 hR4 (by omega) hX4.1 (by omega) hX4.2) (fun v5 ⟨hR5, hO5⟩ => ?_)
                          refine P_iinc (v := nI (k + 1)) (ls2 := [some (.ref (q)), some (.int (nI (mk))), some (.int (nI (sk))), some (.int (nI (wk))), some (.int (nI (gG S 6))), some (.int (nI (num))), some (.int (nI (1))), some (.int (nI (k + 1)))]) dX7_standsIn_176 rfl (nI_inc _ 1) (by decide) rfl ?_
                          refine P_goto (tgt := 103) dX7_standsIn_179 (by decide) ?_
                          refine ih103 (k + 1) _ true (by omega) (by omega) ?_ hR5 (hO4.tr hO5.c3) (fun h9 => absurd h9 c150)
                          rw [← he, show 101 - k = (101 - (k + 1)) + 1 by omega, mfind_n ((mcnd_1 c150).trans c162)]
                        · refine P_iload dX7_standsIn_165 rfl ?_
                          refine P_iret dX7_standsIn_167 rfl ?_
                          have e9 : mfind c (mcall S mk sk) mk num sk wk (101 - k) k = some k := by
                            rw [show 101 - k = (101 - (k + 1)) + 1 by omega]
                            exact mfind_y ((mcnd_1 c150).trans c162)
                          exact qr_ret ((if_neg (gt_f hm9)).trans ((if_neg (gt_f hgs9)).trans ((if_neg (by rw [nn (by omega)]; exact hne)).trans (by rw [nn (by omega), nn (by omega), nn (by omega), ← enum, ← he, e9]; rfl)))) (by rw [hO4.2 0 (by decide) (by decide)]; exact h01) (hT1.o4 hO4) (hF1.tr (hO4.ow (by omega) (by omega)))
          exact hL103 102 0 v3 false (by omega) (by omega) rfl hR3 hO39 (fun _ => rfl)
        · refine P_iconst (v := -1) dX7_standsIn_62 (by decide) ?_
          refine P_iret dX7_standsIn_63 rfl ?_
          exact qr_ret ((if_neg (gt_f hm9)).trans ((if_neg (gt_f hgs9)).trans (if_pos (by rw [nn (by omega)]; exact (of_decide_eq_true c59).2)))) h01 hT1 hF1
      · refine P_iconst (v := nI 2) dX7_standsIn_38 (by decide) ?_
        refine P_goto (tgt := 43) dX7_standsIn_39 (by decide) ?_
        refine P_cVs (rest := []) (As := [.int (nI (2))]) dX7_standsIn_43 lX7_129 yk_X7_refused yv_X7_refused kX7 rfl (by decide) hq.o rfl rfl (Nat.le_of_ble_eq_true rfl) rfl (c_X7_refused (k := 2) hq (by decide)) (fun v9 e9 => ?_)
        subst e9
        refine P_top (y := vb true) rfl ?_
        refine P_bif_eq (tgt := 51) dX7_standsIn_46 (by decide) (fun q9 => Bool.noConfusion q9) (fun _ => ?_)
        refine P_iconst (v := nI 0) dX7_standsIn_49 (by decide) ?_
        refine P_iret dX7_standsIn_50 rfl ?_
        exact qr_thr hT ((if_neg (gt_f hm9)).trans (if_pos (by rw [c23, nn (by omega), c35]; rfl)))
  · refine P_iconst (v := nI 1) dX7_standsIn_12 (by decide) ?_
    refine P_goto (tgt := 43) dX7_standsIn_13 (by decide) ?_
    refine P_cVs (rest := []) (As := [.int (nI (1))]) dX7_standsIn_43 lX7_129 yk_X7_refused yv_X7_refused kX7 rfl (by decide) hq.o rfl rfl (Nat.le_of_ble_eq_true rfl) rfl (c_X7_refused (k := 1) hq (by decide)) (fun v9 e9 => ?_)
    subst e9
    refine P_top (y := vb true) rfl ?_
    refine P_bif_eq (tgt := 51) dX7_standsIn_46 (by decide) (fun q9 => Bool.noConfusion q9) (fun _ => ?_)
    refine P_iconst (v := nI 0) dX7_standsIn_49 (by decide) ?_
    refine P_iret dX7_standsIn_50 rfl ?_
    exact qr_thr hT (if_pos c9)
