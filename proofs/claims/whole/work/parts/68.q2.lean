
theorem aOf_r {v : vV} {c r w : Nat} {S : mS} (h : RR c v r S) (hw : w < 7) : v r w = nI (aOf c S w) := by
  unfold aOf
  by_cases e0 : w = 0
  · rw [if_pos e0, e0]; exact h.cc
  by_cases e2 : w = 2
  · rw [if_neg e0, if_pos e2, e2]; exact h.n
  · rw [if_neg e0, if_neg e2, if_pos hw]; exact h.g (by omega) e2
theorem mset_nn {c m : Nat} {s : Int32} (hm : m < 2147483648) : mset c (nI m).toInt.toNat s = mset c m s := by rw [nn hm]
set_option maxHeartbeats 4000000 in
set_option maxRecDepth 100000 in
theorem c_X7_append {σ : vS} {v : vV} {c q n : Nat} {S : mS} {t : mN} {D : List mC} {sl : Nat → Option mC} {a : Int32} (hq : LR σ q) (hT : RT v q ((t, n), (c, S), D, sl)) {B : Nat} (hG : GI B ((t, n), (c, S), D, sl)) (hB : B + 6000000 < 1000000000) : vC M_X7_append yX7_append [.ref (q), .int (a)] (σ, v) (qR σ v q (g_append ((t, n), (c, S), D, sl) a)) := by
  have hR : RR c v (q + 2) S := hT.r
  have hN : NB c S B := hG.1.1
  have hI : Iv c 1 S := hG.1.2
  have hc6 := hR.c6
  have htx : mTX v q t n := hT.tx
  have hlt : D.length ≤ 14 := hT.l
  refine vC_of (ls := [some (.ref (q)), some (.int (a))]) pn_X7 rfl rfl (Nat.le_of_ble_eq_true rfl) rfl ?_
  refine P_aload_n dX7_append_0 rfl rfl ?_
  refine P_iload_n dX7_append_1 rfl rfl ?_
  refine P_i2l dX7_append_2 ?_
  refine P_lconst (v := 0) dX7_append_3 (by decide) ?_
  refine P_ldc2_w dX7_append_4 cX7_124 ?_
  refine P_cSp (rest := [.ref (q)]) (As := [.long ((a).toInt64), .long ((0)), .long ((255))]) dX7_append_7 lX7_40 yk_X7_in ys_X7_in (by decide) rfl rfl (Nat.le_of_ble_eq_true rfl) rfl (c_X7_in _ _ _) ?_
  refine P_top (y := vb (gin a 0 255)) (congrArg vb (in_gin (by decide) (by decide))) ?_
  refine P_bif_ne (tgt := 17) dX7_append_10 (by decide) (fun c10 => ?_) (fun c10 => ?_)
  · refine P_aload_n dX7_append_17 rfl rfl ?_
    refine P_getiN (x := nI (n)) dX7_append_18 kX7 fX7_126 rfl (by decide) hq.o htx.2.1 ?_
    refine P_bipush (v := nI 120) dX7_append_21 (by decide) ?_
    refine P_icmp_neN (tgt := 30) dX7_append_23 (by decide) (by have := htx.1; omega) (by have := htx.1; omega) (fun c23 => ?_) (fun c23 => ?_)
    · refine P_iconst (v := nI 0) dX7_append_30 (by decide) ?_
      refine P_cVs (rest := []) (As := [.int (nI (0))]) dX7_append_31 lX7_129 yk_X7_refused yv_X7_refused kX7 rfl (by decide) hq.o rfl rfl (Nat.le_of_ble_eq_true rfl) rfl (c_X7_refused (k := 0) hq (by decide)) (fun v1 e1 => ?_)
      obtain ⟨hT1, h01, hF1⟩ : RT v1 q ((t, n), (c, S), D, sl) ∧ v1 q 0 = nI 0 ∧ vOw v v1 q 8 := by subst e1; exact ⟨hT.ref, vU_s, vOw.rf.u (by omega) (by omega)⟩
      have hR1 : RR c v1 (q + 2) S := hT1.r
      clear e1
      refine P_top (y := vb false) rfl ?_
      refine P_bif_eq (tgt := 39) dX7_append_34 (by decide) (fun _ => ?_) (fun q9 => Bool.noConfusion q9)
      have hgi9 := c10
      obtain ⟨ak, ak0, ak1, rfl⟩ := gin_n (lo := 0) (hi := 255) (by decide) c10
      have hn9 : n < 120 := by have := htx.1; omega
      refine P_aload_n dX7_append_39 rfl rfl ?_
      refine P_getr (t := q + 1) dX7_append_40 kX7 fX7_7 rfl (by decide) hq.o hq.r1 hq.k1.1.2 ?_
      refine P_aload_n dX7_append_43 rfl rfl ?_
      refine P_getiN (x := nI (n)) dX7_append_44 kX7 fX7_126 rfl (by decide) hq.o hT1.tx.2.1 ?_
      refine P_iload_n dX7_append_47 rfl rfl ?_
      refine P_iast (n) dX7_append_48 hq.k1 rfl (by omega) (by decide) ?_
      refine P_aload_n dX7_append_49 rfl rfl ?_
      refine P_dup dX7_append_50 rfl ?_
      refine P_getiN (x := nI (n)) dX7_append_51 kX7 fX7_126 rfl (by decide) hq.o (by rw [vU_ne (by omega)]; exact hT1.tx.2.1) ?_
      refine P_iconst (v := nI 1) dX7_append_54 (by decide) ?_
      refine P_iaddN dX7_append_55 ?_
      refine P_puti dX7_append_56 kX7 fX7_126 rfl (by decide) rfl hq.o ?_
      refine P_aload_n dX7_append_59 rfl rfl ?_
      refine P_getiN (x := nI (n + 1)) dX7_append_60 kX7 fX7_126 rfl (by decide) hq.o vU_s ?_
      refine P_iret dX7_append_63 rfl ?_
      have hx9 : mTX (vU (vU v1 (q + 1) n (nI ak)) q 2 (nI (n + 1))) q (fun i => if i = n then ak else t i) (n + 1) := by
        refine ⟨by omega, vU_s, fun i hi => ?_⟩
        rw [vU_ne (by omega)]
        show vU v1 (q + 1) n (nI ak) (q + 1) i = nI (if i = n then ak else t i) ∧ (if i = n then ak else t i) < 256
        by_cases e9 : i = n
        · subst e9; rw [if_pos rfl]; exact ⟨vU_s, by omega⟩
        · rw [if_neg e9, vU_o (Or.inr e9)]; exact hT1.tx.2.2 i (show i < n by omega)
      exact qr_ret ((if_neg (gt_f hgi9)).trans ((if_neg (by omega)).trans (by rw [nn (by omega)]))) (by rw [vU_o (by omega), vU_ne (by omega)]; exact h01) (hT1.text hx9 (by rw [vU_o (by omega), vU_ne (by omega)]) (fun m g1 g2 => by rw [vU_ne (by omega), vU_ne (by omega)])) ((hF1.u (by omega) (by omega)).u (by omega) (by omega))
    · refine P_iconst (v := nI 2) dX7_append_26 (by decide) ?_
      refine P_goto (tgt := 31) dX7_append_27 (by decide) ?_
      refine P_cVs (rest := []) (As := [.int (nI (2))]) dX7_append_31 lX7_129 yk_X7_refused yv_X7_refused kX7 rfl (by decide) hq.o rfl rfl (Nat.le_of_ble_eq_true rfl) rfl (c_X7_refused (k := 2) hq (by decide)) (fun v9 e9 => ?_)
      subst e9
      refine P_top (y := vb true) rfl ?_
      refine P_bif_eq (tgt := 39) dX7_append_34 (by decide) (fun q9 => Bool.noConfusion q9) (fun _ => ?_)
      refine P_iconst (v := nI 0) dX7_append_37 (by decide) ?_
      refine P_iret dX7_append_38 rfl ?_
      exact qr_thr hT ((if_neg (gt_f c10)).trans (if_pos (by omega)))
  · refine P_iconst (v := nI 1) dX7_append_13 (by decide) ?_
    refine P_goto (tgt := 31) dX7_append_14 (by decide) ?_
    refine P_cVs (rest := []) (As := [.int (nI (1))]) dX7_append_31 lX7_129 yk_X7_refused yv_X7_refused kX7 rfl (by decide) hq.o rfl rfl (Nat.le_of_ble_eq_true rfl) rfl (c_X7_refused (k := 1) hq (by decide)) (fun v9 e9 => ?_)
    subst e9
    refine P_top (y := vb true) rfl ?_
    refine P_bif_eq (tgt := 39) dX7_append_34 (by decide) (fun q9 => Bool.noConfusion q9) (fun _ => ?_)
    refine P_iconst (v := nI 0) dX7_append_37 (by decide) ?_
    refine P_iret dX7_append_38 rfl ?_
    exact qr_thr hT (if_pos c10)
set_option maxHeartbeats 4000000 in
set_option maxRecDepth 100000 in
theorem c_X7_clearText {σ : vS} {v : vV} {c q n : Nat} {S : mS} {t : mN} {D : List mC} {sl : Nat → Option mC} (hq : LR σ q) (hT : RT v q ((t, n), (c, S), D, sl)) {B : Nat} (hG : GI B ((t, n), (c, S), D, sl)) (hB : B + 6000000 < 1000000000) : vC M_X7_clearText yX7_clearText [.ref (q)] (σ, v) (qR σ v q (g_clearText ((t, n), (c, S), D, sl))) := by
  have hR : RR c v (q + 2) S := hT.r
  have hN : NB c S B := hG.1.1
  have hI : Iv c 1 S := hG.1.2
  have hc6 := hR.c6
  have htx : mTX v q t n := hT.tx
  have hlt : D.length ≤ 14 := hT.l
  refine vC_of (ls := [some (.ref (q)), none]) pn_X7 rfl rfl (Nat.le_of_ble_eq_true rfl) rfl ?_
  refine P_aload_n dX7_clearText_0 rfl rfl ?_
  refine P_iconst (v := nI 0) dX7_clearText_1 (by decide) ?_
  refine P_puti dX7_clearText_2 kX7 fX7_36 rfl (by decide) rfl hq.o ?_
  refine P_aload_n dX7_clearText_5 rfl rfl ?_
  refine P_getiN (x := nI (n)) dX7_clearText_6 kX7 fX7_126 rfl (by decide) hq.o (by rw [vU_o (by omega)]; exact htx.2.1) ?_
  refine P_istore_n (ls2 := [some (.ref (q)), some (.int (nI (n)))]) dX7_clearText_9 rfl (by decide) rfl ?_
  refine P_aload_n dX7_clearText_10 rfl rfl ?_
  refine P_iconst (v := nI 0) dX7_clearText_11 (by decide) ?_
  refine P_puti dX7_clearText_12 kX7 fX7_126 rfl (by decide) rfl hq.o ?_
  refine P_iload_n dX7_clearText_15 rfl rfl ?_
  refine P_iret dX7_clearText_16 rfl ?_
  have hT1 : RT (vU v q 0 (nI 0)) q ((t, n), (c, S), D, sl) := hT.ref
  exact qr_ret rfl (by rw [vU_o (by omega), vU_s]) (hT1.text ⟨Nat.zero_le _, vU_s, fun i hi => absurd hi (Nat.not_lt_zero i)⟩ (vU_o (by omega)) (fun m g1 g2 => vU_ne (by omega))) ((vOw.rf.u (by omega) (by omega)).u (by omega) (by omega))
set_option maxHeartbeats 4000000 in
set_option maxRecDepth 100000 in
theorem c_X7_about {σ : vS} {v : vV} {c q n : Nat} {S : mS} {t : mN} {D : List mC} {sl : Nat → Option mC} {w : Int32} (hq : LR σ q) (hT : RT v q ((t, n), (c, S), D, sl)) {B : Nat} (hG : GI B ((t, n), (c, S), D, sl)) (hB : B + 6000000 < 1000000000) : vC M_X7_about yX7_about [.ref (q), .int (w)] (σ, v) (qR σ v q (g_about ((t, n), (c, S), D, sl) w)) := by
  have hR : RR c v (q + 2) S := hT.r
  have hN : NB c S B := hG.1.1
  have hI : Iv c 1 S := hG.1.2
  have hc6 := hR.c6
  have htx : mTX v q t n := hT.tx
  have hlt : D.length ≤ 14 := hT.l
  refine vC_of (ls := [some (.ref (q)), some (.int (w))]) pn_X7 rfl rfl (Nat.le_of_ble_eq_true rfl) rfl ?_
  refine P_aload_n dX7_about_0 rfl rfl ?_
  refine P_iload_n dX7_about_1 rfl rfl ?_
  refine P_i2l dX7_about_2 ?_
  refine P_lconst (v := 0) dX7_about_3 (by decide) ?_
  refine P_ldc2_w dX7_about_4 cX7_136 ?_
  refine P_cSp (rest := [.ref (q)]) (As := [.long ((w).toInt64), .long ((0)), .long ((9))]) dX7_about_7 lX7_40 yk_X7_in ys_X7_in (by decide) rfl rfl (Nat.le_of_ble_eq_true rfl) rfl (c_X7_in _ _ _) ?_
  refine P_top (y := vb (gin w 0 9)) (congrArg vb (in_gin (by decide) (by decide))) ?_
  refine P_bif_eq (tgt := 17) dX7_about_10 (by decide) (fun c10 => ?_) (fun c10 => ?_)
  · refine P_iconst (v := nI 1) dX7_about_17 (by decide) ?_
    refine P_cVs (rest := []) (As := [.int (nI (1))]) dX7_about_18 lX7_129 yk_X7_refused yv_X7_refused kX7 rfl (by decide) hq.o rfl rfl (Nat.le_of_ble_eq_true rfl) rfl (c_X7_refused (k := 1) hq (by decide)) (fun v9 e9 => ?_)
    subst e9
    refine P_top (y := vb true) rfl ?_
    refine P_bif_eq (tgt := 26) dX7_about_21 (by decide) (fun q9 => Bool.noConfusion q9) (fun _ => ?_)
    refine P_iconst (v := nI 0) dX7_about_24 (by decide) ?_
    refine P_iret dX7_about_25 rfl ?_
    exact qr_thr hT (if_pos c10)
  · refine P_iconst (v := nI 0) dX7_about_13 (by decide) ?_
    refine P_goto (tgt := 18) dX7_about_14 (by decide) ?_
    refine P_cVs (rest := []) (As := [.int (nI (0))]) dX7_about_18 lX7_129 yk_X7_refused yv_X7_refused kX7 rfl (by decide) hq.o rfl rfl (Nat.le_of_ble_eq_true rfl) rfl (c_X7_refused (k := 0) hq (by decide)) (fun v1 e1 => ?_)
    obtain ⟨hT1, h01, hF1⟩ : RT v1 q ((t, n), (c, S), D, sl) ∧ v1 q 0 = nI 0 ∧ vOw v v1 q 8 := by subst e1; exact ⟨hT.ref, vU_s, vOw.rf.u (by omega) (by omega)⟩
    have hR1 : RR c v1 (q + 2) S := hT1.r
    clear e1
    refine P_top (y := vb false) rfl ?_
    refine P_bif_eq (tgt := 26) dX7_about_21 (by decide) (fun _ => ?_) (fun q9 => Bool.noConfusion q9)
    have hgi9 := c10
    obtain ⟨wk, wk0, wk1, rfl⟩ := gin_n (lo := 0) (hi := 9) (by decide) c10
    refine P_iload_n dX7_about_26 rfl rfl ?_
    refine P_bipush (v := nI 7) dX7_about_27 (by decide) ?_
    refine P_icmp_geN (tgt := 41) dX7_about_29 (by decide) (by omega) (by omega) (fun c29 => ?_) (fun c29 => ?_)
    · refine P_iload_n dX7_about_41 rfl rfl ?_
      refine P_bipush (v := nI 7) dX7_about_42 (by decide) ?_
      refine P_icmp_neN (tgt := 58) dX7_about_44 (by decide) (by omega) (by omega) (fun c44 => ?_) (fun c44 => ?_)
      · refine P_iload_n dX7_about_58 rfl rfl ?_
        refine P_bipush (v := nI 8) dX7_about_59 (by decide) ?_
        refine P_icmp_neN (tgt := 75) dX7_about_61 (by decide) (by omega) (by omega) (fun c61 => ?_) (fun c61 => ?_)
        · refine P_aload_n dX7_about_75 rfl rfl ?_
          refine P_getr (t := q + 2) dX7_about_76 kX7 fX7_13 rfl (by decide) hq.o hq.r2 hq.k2.1.2 ?_
          refine P_bipush (v := nI 7) dX7_about_79 (by decide) ?_
          refine P_ialdN (x := nI (gG S 7)) (7) dX7_about_81 hq.k2 rfl (by omega) (by decide) (hR1.g (by decide) (by decide)) ?_
          refine P_iret dX7_about_82 rfl ?_
          exact qr_ret ((if_neg (gt_f hgi9)).trans (by rw [nn (by omega), show wk = 9 by omega]; rfl)) h01 hT1 hF1
        · refine P_aload_n dX7_about_64 rfl rfl ?_
          refine P_getr (t := q + 2) dX7_about_65 kX7 fX7_13 rfl (by decide) hq.o hq.r2 hq.k2.1.2 ?_
          refine P_iconst (v := nI 2) dX7_about_68 (by decide) ?_
          refine P_cSp (rest := []) (As := [.ref (q + 2), .int (nI (2))]) dX7_about_69 lX7_196 yk_X7_thoseWho ys_X7_thoseWho (by decide) rfl rfl (Nat.le_of_ble_eq_true rfl) rfl (c_X7_thoseWho hq.k2 hR1 hN (by omega)) ?_
          refine P_goto (tgt := 82) dX7_about_72 (by decide) ?_
          refine P_iret dX7_about_82 rfl ?_
          exact qr_ret ((if_neg (gt_f hgi9)).trans (by rw [nn (by omega), show wk = 8 by omega]; rfl)) h01 hT1 hF1
      · refine P_aload_n dX7_about_47 rfl rfl ?_
        refine P_getr (t := q + 2) dX7_about_48 kX7 fX7_13 rfl (by decide) hq.o hq.r2 hq.k2.1.2 ?_
        refine P_iconst (v := nI 0) dX7_about_51 (by decide) ?_
        refine P_cSp (rest := []) (As := [.ref (q + 2), .int (nI (0))]) dX7_about_52 lX7_196 yk_X7_thoseWho ys_X7_thoseWho (by decide) rfl rfl (Nat.le_of_ble_eq_true rfl) rfl (c_X7_thoseWho hq.k2 hR1 hN (by omega)) ?_
        refine P_goto (tgt := 82) dX7_about_55 (by decide) ?_
        refine P_iret dX7_about_82 rfl ?_
        exact qr_ret ((if_neg (gt_f hgi9)).trans (by rw [nn (by omega), show wk = 7 by omega]; rfl)) h01 hT1 hF1
    · refine P_aload_n dX7_about_32 rfl rfl ?_
      refine P_getr (t := q + 2) dX7_about_33 kX7 fX7_13 rfl (by decide) hq.o hq.r2 hq.k2.1.2 ?_
      refine P_iload_n dX7_about_36 rfl rfl ?_
      refine P_ialdN (x := nI (aOf c S wk)) (wk) dX7_about_37 hq.k2 rfl (by omega) (by decide) (aOf_r hR1 (by omega)) ?_
      refine P_goto (tgt := 82) dX7_about_38 (by decide) ?_
      refine P_iret dX7_about_82 rfl ?_
      exact qr_ret ((if_neg (gt_f hgi9)).trans (by rw [nn (by omega)])) h01 hT1 hF1
set_option maxHeartbeats 4000000 in
set_option maxRecDepth 100000 in
theorem c_X7_memberOf {σ : vS} {v : vV} {c q n : Nat} {S : mS} {t : mN} {D : List mC} {sl : Nat → Option mC} {m w : Int32} (hq : LR σ q) (hT : RT v q ((t, n), (c, S), D, sl)) {B : Nat} (hG : GI B ((t, n), (c, S), D, sl)) (hB : B + 6000000 < 1000000000) : vC M_X7_memberOf yX7_memberOf [.ref (q), .int (m), .int (w)] (σ, v) (qR σ v q (g_memberOf ((t, n), (c, S), D, sl) m w)) := by
  have hR : RR c v (q + 2) S := hT.r
  have hN : NB c S B := hG.1.1
  have hI : Iv c 1 S := hG.1.2
  have hc6 := hR.c6
  have htx : mTX v q t n := hT.tx
  have hlt : D.length ≤ 14 := hT.l
  refine vC_of (ls := [some (.ref (q)), some (.int (m)), some (.int (w))]) pn_X7 rfl rfl (Nat.le_of_ble_eq_true rfl) rfl ?_
  refine P_aload_n dX7_memberOf_0 rfl rfl ?_
  refine P_aload_n dX7_memberOf_1 rfl rfl ?_
  refine P_getr (t := q + 2) dX7_memberOf_2 kX7 fX7_13 rfl (by decide) hq.o hq.r2 hq.k2.1.2 ?_
  refine P_iload_n dX7_memberOf_5 rfl rfl ?_
  refine P_cSp (rest := [.ref (q)]) (As := [.ref (q + 2), .int (m)]) dX7_memberOf_6 lX7_112 yk_X7_isMember ys_X7_isMember (by decide) rfl rfl (Nat.le_of_ble_eq_true rfl) rfl (c_X7_isMember hq.k2 hR) ?_
  refine P_bif_ne (tgt := 16) dX7_memberOf_9 (by decide) (fun c9 => ?_) (fun c9 => ?_)
  · refine P_iload_n dX7_memberOf_16 rfl rfl ?_
    refine P_i2l dX7_memberOf_17 ?_
    refine P_lconst (v := 0) dX7_memberOf_18 (by decide) ?_
    refine P_ldc2_w dX7_memberOf_19 cX7_199 ?_
    refine P_cSp (rest := [.ref (q)]) (As := [.long ((w).toInt64), .long ((0)), .long ((11))]) dX7_memberOf_22 lX7_40 yk_X7_in ys_X7_in (by decide) rfl rfl (Nat.le_of_ble_eq_true rfl) rfl (c_X7_in _ _ _) ?_
    refine P_top (y := vb (gin w 0 11)) (congrArg vb (in_gin (by decide) (by decide))) ?_
    refine P_bif_eq (tgt := 32) dX7_memberOf_25 (by decide) (fun c25 => ?_) (fun c25 => ?_)
    · refine P_iconst (v := nI 2) dX7_memberOf_32 (by decide) ?_
      refine P_cVs (rest := []) (As := [.int (nI (2))]) dX7_memberOf_33 lX7_129 yk_X7_refused yv_X7_refused kX7 rfl (by decide) hq.o rfl rfl (Nat.le_of_ble_eq_true rfl) rfl (c_X7_refused (k := 2) hq (by decide)) (fun v9 e9 => ?_)
      subst e9
      refine P_top (y := vb true) rfl ?_
      refine P_bif_eq (tgt := 41) dX7_memberOf_36 (by decide) (fun q9 => Bool.noConfusion q9) (fun _ => ?_)
      refine P_iconst (v := nI 0) dX7_memberOf_39 (by decide) ?_
      refine P_iret dX7_memberOf_40 rfl ?_
      exact qr_thr hT ((if_neg (gt_f c9)).trans (if_pos c25))
    · refine P_iconst (v := nI 0) dX7_memberOf_28 (by decide) ?_
      refine P_goto (tgt := 33) dX7_memberOf_29 (by decide) ?_
      refine P_cVs (rest := []) (As := [.int (nI (0))]) dX7_memberOf_33 lX7_129 yk_X7_refused yv_X7_refused kX7 rfl (by decide) hq.o rfl rfl (Nat.le_of_ble_eq_true rfl) rfl (c_X7_refused (k := 0) hq (by decide)) (fun v1 e1 => ?_)
      obtain ⟨hT1, h01, hF1⟩ : RT v1 q ((t, n), (c, S), D, sl) ∧ v1 q 0 = nI 0 ∧ vOw v v1 q 8 := by subst e1; exact ⟨hT.ref, vU_s, vOw.rf.u (by omega) (by omega)⟩
      have hR1 : RR c v1 (q + 2) S := hT1.r
      clear e1
      refine P_top (y := vb false) rfl ?_
      refine P_bif_eq (tgt := 41) dX7_memberOf_36 (by decide) (fun _ => ?_) (fun q9 => Bool.noConfusion q9)
      have hm9 := c9
      obtain ⟨mk, hmk, rfl⟩ := mb_nat hc6 c9
      have hgi9 := c25
      obtain ⟨wk, wk0, wk1, rfl⟩ := gin_n (lo := 0) (hi := 11) (by decide) c25
      refine P_iload_n dX7_memberOf_41 rfl rfl ?_
      rcases vsw (wk) 8 11 (by omega) (by decide) with c42 | ⟨c42_j, c42_b, c42⟩
      · refine P_tswOut (tgt := 116) dX7_memberOf_42 (vsw_out (by omega) c42) (by decide) ?_
        refine P_aload_n dX7_memberOf_116 rfl rfl ?_
        refine P_getr (t := q + 2) dX7_memberOf_117 kX7 fX7_13 rfl (by decide) hq.o hq.r2 hq.k2.1.2 ?_
        refine P_iload_n dX7_memberOf_120 rfl rfl ?_
        refine P_iload_n dX7_memberOf_121 rfl rfl ?_
        refine P_cSp (rest := []) (As := [.ref (q + 2), .int (nI (mk)), .int (nI (wk))]) dX7_memberOf_122 lX7_44 yk_X7_of ys_X7_of (by decide) rfl rfl (Nat.le_of_ble_eq_true rfl) rfl (c_X7_of hq.k2 (by omega) (by omega)) ?_
        refine P_top (y := (nI (gM S mk wk))) (hR1.m (by omega) (by omega)) ?_
        refine P_iret dX7_memberOf_125 rfl ?_
        exact qr_ret ((if_neg (gt_f hm9)).trans ((if_neg (gt_f hgi9)).trans (by rw [nn (by omega), nn (by omega)]; exact congrArg (fun z => (0, nI z, _)) (if_pos (show wk < 8 by omega))))) h01 hT1 hF1
      · rcases (by omega : c42_j = 0 ∨ c42_j = 1 ∨ c42_j = 2 ∨ c42_j = 3) with q42 | q42 | q42 | q42
        · replace c42 : wk = 8 := by omega
          refine P_tswIn (off := 30) (tgt := 72) dX7_memberOf_42 (by rw [vsw_int c42 (by decide)]; decide) (by rw [vsw_int c42 (by decide)]; decide) (by rw [vsw_int c42 (by decide)]; rfl) (by decide) ?_
          refine P_aload_n dX7_memberOf_72 rfl rfl ?_
          refine P_getr (t := q + 2) dX7_memberOf_73 kX7 fX7_13 rfl (by decide) hq.o hq.r2 hq.k2.1.2 ?_
          refine P_iload_n dX7_memberOf_76 rfl rfl ?_
          refine P_bipush (v := nI 9) dX7_memberOf_77 (by decide) ?_
          refine P_cSp (rest := []) (As := [.ref (q + 2), .int (nI (mk)), .int (nI (9))]) dX7_memberOf_79 lX7_44 yk_X7_of ys_X7_of (by decide) rfl rfl (Nat.le_of_ble_eq_true rfl) rfl (c_X7_of hq.k2 (by omega) (by decide)) ?_
          refine P_top (y := (nI (gM S mk 9))) (hR1.m (by omega) (by decide)) ?_
          refine P_iret dX7_memberOf_82 rfl ?_
          exact qr_ret ((if_neg (gt_f hm9)).trans ((if_neg (gt_f hgi9)).trans (by rw [nn (by omega), nn (by omega), c42]; rfl))) h01 hT1 hF1
        · replace c42 : wk = 9 := by omega
          refine P_tswIn (off := 41) (tgt := 83) dX7_memberOf_42 (by rw [vsw_int c42 (by decide)]; decide) (by rw [vsw_int c42 (by decide)]; decide) (by rw [vsw_int c42 (by decide)]; rfl) (by decide) ?_
          refine P_aload_n dX7_memberOf_83 rfl rfl ?_
          refine P_getr (t := q + 2) dX7_memberOf_84 kX7 fX7_13 rfl (by decide) hq.o hq.r2 hq.k2.1.2 ?_
          refine P_iload_n dX7_memberOf_87 rfl rfl ?_
          refine P_bipush (v := nI 10) dX7_memberOf_88 (by decide) ?_
          refine P_cSp (rest := []) (As := [.ref (q + 2), .int (nI (mk)), .int (nI (10))]) dX7_memberOf_90 lX7_44 yk_X7_of ys_X7_of (by decide) rfl rfl (Nat.le_of_ble_eq_true rfl) rfl (c_X7_of hq.k2 (by omega) (by decide)) ?_
          refine P_top (y := (nI (gM S mk 10))) (hR1.m (by omega) (by decide)) ?_
          refine P_iret dX7_memberOf_93 rfl ?_
          exact qr_ret ((if_neg (gt_f hm9)).trans ((if_neg (gt_f hgi9)).trans (by rw [nn (by omega), nn (by omega), c42]; rfl))) h01 hT1 hF1
        · replace c42 : wk = 10 := by omega
          refine P_tswIn (off := 52) (tgt := 94) dX7_memberOf_42 (by rw [vsw_int c42 (by decide)]; decide) (by rw [vsw_int c42 (by decide)]; decide) (by rw [vsw_int c42 (by decide)]; rfl) (by decide) ?_
          refine P_aload_n dX7_memberOf_94 rfl rfl ?_
          refine P_getr (t := q + 2) dX7_memberOf_95 kX7 fX7_13 rfl (by decide) hq.o hq.r2 hq.k2.1.2 ?_
          refine P_iload_n dX7_memberOf_98 rfl rfl ?_
          refine P_bipush (v := nI 30) dX7_memberOf_99 (by decide) ?_
          refine P_cSp (rest := []) (As := [.ref (q + 2), .int (nI (mk)), .int (nI (30))]) dX7_memberOf_101 lX7_44 yk_X7_of ys_X7_of (by decide) rfl rfl (Nat.le_of_ble_eq_true rfl) rfl (c_X7_of hq.k2 (by omega) (by decide)) ?_
          refine P_top (y := (nI ((gK S mk).length))) (hR1.kl (by omega)) ?_
          refine P_iret dX7_memberOf_104 rfl ?_
          exact qr_ret ((if_neg (gt_f hm9)).trans ((if_neg (gt_f hgi9)).trans (by rw [nn (by omega), nn (by omega), c42]; rfl))) h01 hT1 hF1
        · replace c42 : wk = 11 := by omega
          refine P_tswIn (off := 63) (tgt := 105) dX7_memberOf_42 (by rw [vsw_int c42 (by decide)]; decide) (by rw [vsw_int c42 (by decide)]; decide) (by rw [vsw_int c42 (by decide)]; rfl) (by decide) ?_
          refine P_aload_n dX7_memberOf_105 rfl rfl ?_
          refine P_getr (t := q + 2) dX7_memberOf_106 kX7 fX7_13 rfl (by decide) hq.o hq.r2 hq.k2.1.2 ?_
          refine P_iload_n dX7_memberOf_109 rfl rfl ?_
          refine P_bipush (v := nI 67) dX7_memberOf_110 (by decide) ?_
          refine P_cSp (rest := []) (As := [.ref (q + 2), .int (nI (mk)), .int (nI (67))]) dX7_memberOf_112 lX7_44 yk_X7_of ys_X7_of (by decide) rfl rfl (Nat.le_of_ble_eq_true rfl) rfl (c_X7_of hq.k2 (by omega) (by decide)) ?_
          refine P_top (y := (nI ((gH S mk).length))) (hR1.hl (by omega)) ?_
          refine P_iret dX7_memberOf_115 rfl ?_
          exact qr_ret ((if_neg (gt_f hm9)).trans ((if_neg (gt_f hgi9)).trans (by rw [nn (by omega), nn (by omega), c42]; rfl))) h01 hT1 hF1
  · refine P_iconst (v := nI 1) dX7_memberOf_12 (by decide) ?_
    refine P_goto (tgt := 33) dX7_memberOf_13 (by decide) ?_
    refine P_cVs (rest := []) (As := [.int (nI (1))]) dX7_memberOf_33 lX7_129 yk_X7_refused yv_X7_refused kX7 rfl (by decide) hq.o rfl rfl (Nat.le_of_ble_eq_true rfl) rfl (c_X7_refused (k := 1) hq (by decide)) (fun v9 e9 => ?_)
    subst e9
    refine P_top (y := vb true) rfl ?_
    refine P_bif_eq (tgt := 41) dX7_memberOf_36 (by decide) (fun q9 => Bool.noConfusion q9) (fun _ => ?_)
    refine P_iconst (v := nI 0) dX7_memberOf_39 (by decide) ?_
    refine P_iret dX7_memberOf_40 rfl ?_
    exact qr_thr hT (if_pos c9)
set_option maxHeartbeats 4000000 in
set_option maxRecDepth 100000 in
theorem c_X7_session {σ : vS} {v : vV} {c q n : Nat} {S : mS} {t : mN} {D : List mC} {sl : Nat → Option mC} {m k w : Int32} (hq : LR σ q) (hT : RT v q ((t, n), (c, S), D, sl)) {B : Nat} (hG : GI B ((t, n), (c, S), D, sl)) (hB : B + 6000000 < 1000000000) : vC M_X7_session yX7_session [.ref (q), .int (m), .int (k), .int (w)] (σ, v) (qR σ v q (g_session ((t, n), (c, S), D, sl) m k w)) := by
  have hR : RR c v (q + 2) S := hT.r
  have hN : NB c S B := hG.1.1
  have hI : Iv c 1 S := hG.1.2
  have hc6 := hR.c6
  have htx : mTX v q t n := hT.tx
  have hlt : D.length ≤ 14 := hT.l
  refine vC_of (ls := [some (.ref (q)), some (.int (m)), some (.int (k)), some (.int (w)), none]) pn_X7 rfl rfl (Nat.le_of_ble_eq_true rfl) rfl ?_
  refine P_aload_n dX7_session_0 rfl rfl ?_
  refine P_getr (t := q + 2) dX7_session_1 kX7 fX7_13 rfl (by decide) hq.o hq.r2 hq.k2.1.2 ?_
  refine P_iload_n dX7_session_4 rfl rfl ?_
  refine P_cSp (rest := []) (As := [.ref (q + 2), .int (m)]) dX7_session_5 lX7_112 yk_X7_isMember ys_X7_isMember (by decide) rfl rfl (Nat.le_of_ble_eq_true rfl) rfl (c_X7_isMember hq.k2 hR) ?_
  refine P_bif_eq (tgt := 37) dX7_session_8 (by decide) (fun c8 => ?_) (fun c8 => ?_)
  · refine P_iconst (v := nI 0) dX7_session_37 (by decide) ?_
    refine P_istore (ls2 := [some (.ref (q)), some (.int (m)), some (.int (k)), some (.int (w)), some (.int (nI (0)))]) dX7_session_38 (by decide) rfl ?_
    refine P_aload_n dX7_session_40 rfl rfl ?_
    refine P_iload dX7_session_41 rfl ?_
    refine P_if_neN (tgt := 50) dX7_session_43 (by decide) (by decide) (fun q9 => absurd q9 (by decide)) (fun _ => ?_)
    refine P_iconst (v := nI 1) dX7_session_46 (by decide) ?_
    refine P_goto (tgt := 67) dX7_session_47 (by decide) ?_
    refine P_cVs (rest := []) (As := [.int (nI (1))]) dX7_session_67 lX7_129 yk_X7_refused yv_X7_refused kX7 rfl (by decide) hq.o rfl rfl (Nat.le_of_ble_eq_true rfl) rfl (c_X7_refused (k := 1) hq (by decide)) (fun v9 e9 => ?_)
    subst e9
    refine P_top (y := vb true) rfl ?_
    refine P_bif_eq (tgt := 75) dX7_session_70 (by decide) (fun q9 => Bool.noConfusion q9) (fun _ => ?_)
    refine P_iconst (v := nI 0) dX7_session_73 (by decide) ?_
    refine P_iret dX7_session_74 rfl ?_
    exact qr_thr hT (if_pos (by rw [c8]; rfl))
  · have hm9 := c8
    obtain ⟨mk, hmk, rfl⟩ := mb_nat hc6 c8
    refine P_iload_n dX7_session_11 rfl rfl ?_
    refine P_i2l dX7_session_12 ?_
    refine P_lconst (v := 0) dX7_session_13 (by decide) ?_
    refine P_aload_n dX7_session_14 rfl rfl ?_
    refine P_getr (t := q + 2) dX7_session_15 kX7 fX7_13 rfl (by decide) hq.o hq.r2 hq.k2.1.2 ?_
    refine P_iload_n dX7_session_18 rfl rfl ?_
    refine P_bipush (v := nI 67) dX7_session_19 (by decide) ?_
    refine P_cSp (rest := [.long ((0)), .long ((k).toInt64)]) (As := [.ref (q + 2), .int (nI (mk)), .int (nI (67))]) dX7_session_21 lX7_44 yk_X7_of ys_X7_of (by decide) rfl rfl (Nat.le_of_ble_eq_true rfl) rfl (c_X7_of hq.k2 (by omega) (by decide)) ?_
    refine P_top (y := (nI ((gH S mk).length))) (hR.hl (by omega)) ?_
    refine P_iconst (v := nI 1) dX7_session_24 (by decide) ?_
    refine P_isub dX7_session_25 ?_
    refine P_i2l dX7_session_26 ?_
    refine P_cSp (rest := []) (As := [.long ((k).toInt64), .long ((0)), .long (((nI ((gH S mk).length) - nI (1))).toInt64)]) dX7_session_27 lX7_40 yk_X7_in ys_X7_in (by decide) rfl rfl (Nat.le_of_ble_eq_true rfl) rfl (c_X7_in _ _ _) ?_
    refine P_top (y := vb (idxIn k (gH S mk).length)) (congrArg vb (in_idx (by have := hN.b.2.1 mk; omega))) ?_
    refine P_bif_eq (tgt := 37) dX7_session_30 (by decide) (fun c30 => ?_) (fun c30 => ?_)
    · refine P_iconst (v := nI 0) dX7_session_37 (by decide) ?_
      refine P_istore (ls2 := [some (.ref (q)), some (.int (nI (mk))), some (.int (k)), some (.int (w)), some (.int (nI (0)))]) dX7_session_38 (by decide) rfl ?_
      refine P_aload_n dX7_session_40 rfl rfl ?_
      refine P_iload dX7_session_41 rfl ?_
      refine P_if_neN (tgt := 50) dX7_session_43 (by decide) (by decide) (fun q9 => absurd q9 (by decide)) (fun _ => ?_)
      refine P_iconst (v := nI 1) dX7_session_46 (by decide) ?_
      refine P_goto (tgt := 67) dX7_session_47 (by decide) ?_
      refine P_cVs (rest := []) (As := [.int (nI (1))]) dX7_session_67 lX7_129 yk_X7_refused yv_X7_refused kX7 rfl (by decide) hq.o rfl rfl (Nat.le_of_ble_eq_true rfl) rfl (c_X7_refused (k := 1) hq (by decide)) (fun v9 e9 => ?_)
      subst e9
      refine P_top (y := vb true) rfl ?_
      refine P_bif_eq (tgt := 75) dX7_session_70 (by decide) (fun q9 => Bool.noConfusion q9) (fun _ => ?_)
      refine P_iconst (v := nI 0) dX7_session_73 (by decide) ?_
      refine P_iret dX7_session_74 rfl ?_
      exact qr_thr hT (if_pos (by rw [hm9, nn (by omega), c30]; rfl))
    · refine P_iconst (v := nI 1) dX7_session_33 (by decide) ?_
      refine P_goto (tgt := 38) dX7_session_34 (by decide) ?_
      refine P_istore (ls2 := [some (.ref (q)), some (.int (nI (mk))), some (.int (k)), some (.int (w)), some (.int (nI (1)))]) dX7_session_38 (by decide) rfl ?_
      refine P_aload_n dX7_session_40 rfl rfl ?_
      refine P_iload dX7_session_41 rfl ?_
      refine P_if_neN (tgt := 50) dX7_session_43 (by decide) (by decide) (fun _ => ?_) (fun q9 => absurd q9 (by decide))
      refine P_iload_n dX7_session_50 rfl rfl ?_
      refine P_i2l dX7_session_51 ?_
      refine P_lconst (v := 0) dX7_session_52 (by decide) ?_
      refine P_ldc2_w dX7_session_53 cX7_201 ?_
      refine P_cSp (rest := [.ref (q)]) (As := [.long ((w).toInt64), .long ((0)), .long ((2))]) dX7_session_56 lX7_40 yk_X7_in ys_X7_in (by decide) rfl rfl (Nat.le_of_ble_eq_true rfl) rfl (c_X7_in _ _ _) ?_
      refine P_top (y := vb (gin w 0 2)) (congrArg vb (in_gin (by decide) (by decide))) ?_
      refine P_bif_eq (tgt := 66) dX7_session_59 (by decide) (fun c59 => ?_) (fun c59 => ?_)
      · refine P_iconst (v := nI 2) dX7_session_66 (by decide) ?_
        refine P_cVs (rest := []) (As := [.int (nI (2))]) dX7_session_67 lX7_129 yk_X7_refused yv_X7_refused kX7 rfl (by decide) hq.o rfl rfl (Nat.le_of_ble_eq_true rfl) rfl (c_X7_refused (k := 2) hq (by decide)) (fun v9 e9 => ?_)
        subst e9
        refine P_top (y := vb true) rfl ?_
        refine P_bif_eq (tgt := 75) dX7_session_70 (by decide) (fun q9 => Bool.noConfusion q9) (fun _ => ?_)
        refine P_iconst (v := nI 0) dX7_session_73 (by decide) ?_
        refine P_iret dX7_session_74 rfl ?_
        exact qr_thr hT ((if_neg (gt_f (by rw [hm9, nn (by omega), c30]; rfl))).trans (if_pos c59))
      · refine P_iconst (v := nI 0) dX7_session_62 (by decide) ?_
        refine P_goto (tgt := 67) dX7_session_63 (by decide) ?_
        refine P_cVs (rest := []) (As := [.int (nI (0))]) dX7_session_67 lX7_129 yk_X7_refused yv_X7_refused kX7 rfl (by decide) hq.o rfl rfl (Nat.le_of_ble_eq_true rfl) rfl (c_X7_refused (k := 0) hq (by decide)) (fun v1 e1 => ?_)
        obtain ⟨hT1, h01, hF1⟩ : RT v1 q ((t, n), (c, S), D, sl) ∧ v1 q 0 = nI 0 ∧ vOw v v1 q 8 := by subst e1; exact ⟨hT.ref, vU_s, vOw.rf.u (by omega) (by omega)⟩
        have hR1 : RR c v1 (q + 2) S := hT1.r
        clear e1
        refine P_top (y := vb false) rfl ?_
        refine P_bif_eq (tgt := 75) dX7_session_70 (by decide) (fun _ => ?_) (fun q9 => Bool.noConfusion q9)
        have hgi9 := c59
        have hk9 := c30
        obtain ⟨kk, hkk, rfl⟩ := idx_k (by have := hN.b.2.1 mk; omega) c30
        obtain ⟨wk, wk0, wk1, rfl⟩ := gin_n (lo := 0) (hi := 2) (by decide) c59
        have hl5 := hN.b.2.1 mk
        refine P_aload_n dX7_session_75 rfl rfl ?_
        refine P_getr (t := q + 2) dX7_session_76 kX7 fX7_13 rfl (by decide) hq.o hq.r2 hq.k2.1.2 ?_
        refine P_iload_n dX7_session_79 rfl rfl ?_
        refine P_bipush (v := nI 68) dX7_session_80 (by decide) ?_
        refine P_iconst (v := nI 3) dX7_session_82 (by decide) ?_
        refine P_iload_n dX7_session_83 rfl rfl ?_
        refine P_imulN dX7_session_84 ?_
        refine P_iaddN dX7_session_85 ?_
        refine P_iload_n dX7_session_86 rfl rfl ?_
        refine P_iaddN dX7_session_87 ?_
        refine P_cSp (rest := []) (As := [.ref (q + 2), .int (nI (mk)), .int (nI (68 + 3 * kk + wk))]) dX7_session_88 lX7_44 yk_X7_of ys_X7_of (by decide) rfl rfl (Nat.le_of_ble_eq_true rfl) rfl (c_X7_of hq.k2 (by omega) (by omega)) ?_
        refine P_top (y := (nI (sOf S mk kk wk))) (by rcases (by omega : wk = 0 ∨ wk = 1 ∨ wk = 2) with rfl | rfl | rfl; (· exact hR1.s1 hmk hkk); (· exact hR1.s2 hmk hkk); (· exact hR1.s3 hmk hkk)) ?_
        refine P_iret dX7_session_91 rfl ?_
        exact qr_ret ((if_neg (gt_f (by rw [hm9, nn (by omega), hk9]; rfl))).trans ((if_neg (gt_f hgi9)).trans (by rw [nn (by omega), nn (by omega), nn (by omega)]))) h01 hT1 hF1
set_option maxHeartbeats 4000000 in
set_option maxRecDepth 100000 in
theorem c_X7_note {σ : vS} {v : vV} {c q n : Nat} {S : mS} {t : mN} {D : List mC} {sl : Nat → Option mC} {k w : Int32} (hq : LR σ q) (hT : RT v q ((t, n), (c, S), D, sl)) {B : Nat} (hG : GI B ((t, n), (c, S), D, sl)) (hB : B + 6000000 < 1000000000) : vC M_X7_note yX7_note [.ref (q), .int (k), .int (w)] (σ, v) (qR σ v q (g_note ((t, n), (c, S), D, sl) k w)) := by
  have hR : RR c v (q + 2) S := hT.r
  have hN : NB c S B := hG.1.1
  have hI : Iv c 1 S := hG.1.2
  have hc6 := hR.c6
  have htx : mTX v q t n := hT.tx
  have hlt : D.length ≤ 14 := hT.l
  refine vC_of (ls := [some (.ref (q)), some (.int (k)), some (.int (w))]) pn_X7 rfl rfl (Nat.le_of_ble_eq_true rfl) rfl ?_
  refine P_aload_n dX7_note_0 rfl rfl ?_
  refine P_iload_n dX7_note_1 rfl rfl ?_
  refine P_i2l dX7_note_2 ?_
  refine P_lconst (v := 0) dX7_note_3 (by decide) ?_
  refine P_aload_n dX7_note_4 rfl rfl ?_
  refine P_getr (t := q + 2) dX7_note_5 kX7 fX7_13 rfl (by decide) hq.o hq.r2 hq.k2.1.2 ?_
  refine P_iconst (v := nI 2) dX7_note_8 (by decide) ?_
  refine P_ialdN (x := nI ((gN S).length)) (2) dX7_note_9 hq.k2 rfl (by omega) (by decide) hR.n ?_
  refine P_iconst (v := nI 1) dX7_note_10 (by decide) ?_
  refine P_isub dX7_note_11 ?_
  refine P_i2l dX7_note_12 ?_
  refine P_cSp (rest := [.ref (q)]) (As := [.long ((k).toInt64), .long ((0)), .long (((nI ((gN S).length) - nI (1))).toInt64)]) dX7_note_13 lX7_40 yk_X7_in ys_X7_in (by decide) rfl rfl (Nat.le_of_ble_eq_true rfl) rfl (c_X7_in _ _ _) ?_
  refine P_top (y := vb (idxIn k (gN S).length)) (congrArg vb (in_idx (by have := hN.b.2.2; omega))) ?_
  refine P_bif_ne (tgt := 23) dX7_note_16 (by decide) (fun c16 => ?_) (fun c16 => ?_)
  · refine P_iload_n dX7_note_23 rfl rfl ?_
    refine P_i2l dX7_note_24 ?_
    refine P_lconst (v := 0) dX7_note_25 (by decide) ?_
    refine P_ldc2_w dX7_note_26 cX7_203 ?_
    refine P_cSp (rest := [.ref (q)]) (As := [.long ((w).toInt64), .long ((0)), .long ((5))]) dX7_note_29 lX7_40 yk_X7_in ys_X7_in (by decide) rfl rfl (Nat.le_of_ble_eq_true rfl) rfl (c_X7_in _ _ _) ?_
    refine P_top (y := vb (gin w 0 5)) (congrArg vb (in_gin (by decide) (by decide))) ?_
    refine P_bif_eq (tgt := 39) dX7_note_32 (by decide) (fun c32 => ?_) (fun c32 => ?_)
    · refine P_iconst (v := nI 2) dX7_note_39 (by decide) ?_
      refine P_cVs (rest := []) (As := [.int (nI (2))]) dX7_note_40 lX7_129 yk_X7_refused yv_X7_refused kX7 rfl (by decide) hq.o rfl rfl (Nat.le_of_ble_eq_true rfl) rfl (c_X7_refused (k := 2) hq (by decide)) (fun v9 e9 => ?_)
      subst e9
      refine P_top (y := vb true) rfl ?_
      refine P_bif_eq (tgt := 48) dX7_note_43 (by decide) (fun q9 => Bool.noConfusion q9) (fun _ => ?_)
      refine P_iconst (v := nI 0) dX7_note_46 (by decide) ?_
      refine P_iret dX7_note_47 rfl ?_
      exact qr_thr hT ((if_neg (gt_f c16)).trans (if_pos c32))
    · refine P_iconst (v := nI 0) dX7_note_35 (by decide) ?_
      refine P_goto (tgt := 40) dX7_note_36 (by decide) ?_
      refine P_cVs (rest := []) (As := [.int (nI (0))]) dX7_note_40 lX7_129 yk_X7_refused yv_X7_refused kX7 rfl (by decide) hq.o rfl rfl (Nat.le_of_ble_eq_true rfl) rfl (c_X7_refused (k := 0) hq (by decide)) (fun v1 e1 => ?_)
      obtain ⟨hT1, h01, hF1⟩ : RT v1 q ((t, n), (c, S), D, sl) ∧ v1 q 0 = nI 0 ∧ vOw v v1 q 8 := by subst e1; exact ⟨hT.ref, vU_s, vOw.rf.u (by omega) (by omega)⟩
      have hR1 : RR c v1 (q + 2) S := hT1.r
      clear e1
      refine P_top (y := vb false) rfl ?_
      refine P_bif_eq (tgt := 48) dX7_note_43 (by decide) (fun _ => ?_) (fun q9 => Bool.noConfusion q9)
      have hgi9 := c32
      have hk9 := c16
      obtain ⟨kk, hkk, rfl⟩ := idx_k (by have := hN.b.2.2; omega) c16
      obtain ⟨wk, wk0, wk1, rfl⟩ := gin_n (lo := 0) (hi := 5) (by decide) c32
      have hl5 := hN.b.2.2
      refine P_aload_n dX7_note_48 rfl rfl ?_
      refine P_getr (t := q + 2) dX7_note_49 kX7 fX7_13 rfl (by decide) hq.o hq.r2 hq.k2.1.2 ?_
      refine P_iload_n dX7_note_52 rfl rfl ?_
      refine P_iload_n dX7_note_53 rfl rfl ?_
      refine P_iconst (v := nI 5) dX7_note_54 (by decide) ?_
      refine P_icmp_neN (tgt := 63) dX7_note_55 (by decide) (by omega) (by omega) (fun c55 => ?_) (fun c55 => ?_)
      · refine P_iload_n dX7_note_63 rfl rfl ?_
        refine P_cSp (rest := []) (As := [.ref (q + 2), .int (nI (kk)), .int (nI (wk))]) dX7_note_64 lX7_55 yk_X7_ofNote ys_X7_ofNote (by decide) rfl rfl (Nat.le_of_ble_eq_true rfl) rfl (c_X7_ofNote hq.k2 (by omega) (by omega)) ?_
        refine P_top (y := (nI (((gN S).getD kk n0) wk))) (hR1.xd hkk (by omega)) ?_
        refine P_iret dX7_note_67 rfl ?_
        exact qr_ret ((if_neg (gt_f hk9)).trans ((if_neg (gt_f hgi9)).trans (by rw [nn (by omega), nn (by omega), show xc ((gN S).getD kk n0) wk = ((gN S).getD kk n0) wk from if_pos (by omega)]))) h01 hT1 hF1
      · refine P_bipush (v := nI 6) dX7_note_58 (by decide) ?_
        refine P_goto (tgt := 64) dX7_note_60 (by decide) ?_
        refine P_cSp (rest := []) (As := [.ref (q + 2), .int (nI (kk)), .int (nI (6))]) dX7_note_64 lX7_55 yk_X7_ofNote ys_X7_ofNote (by decide) rfl rfl (Nat.le_of_ble_eq_true rfl) rfl (c_X7_ofNote hq.k2 (by omega) (by decide)) ?_
        refine P_top (y := (nI (((gN S).getD kk n0) 6))) (hR1.xd hkk (by omega)) ?_
        refine P_iret dX7_note_67 rfl ?_
        exact qr_ret ((if_neg (gt_f hk9)).trans ((if_neg (gt_f hgi9)).trans (by rw [nn (by omega), nn (by omega), show wk = 5 by omega]; rfl))) h01 hT1 hF1
  · refine P_iconst (v := nI 1) dX7_note_19 (by decide) ?_
    refine P_goto (tgt := 40) dX7_note_20 (by decide) ?_
    refine P_cVs (rest := []) (As := [.int (nI (1))]) dX7_note_40 lX7_129 yk_X7_refused yv_X7_refused kX7 rfl (by decide) hq.o rfl rfl (Nat.le_of_ble_eq_true rfl) rfl (c_X7_refused (k := 1) hq (by decide)) (fun v9 e9 => ?_)
    subst e9
    refine P_top (y := vb true) rfl ?_
    refine P_bif_eq (tgt := 48) dX7_note_43 (by decide) (fun q9 => Bool.noConfusion q9) (fun _ => ?_)
    refine P_iconst (v := nI 0) dX7_note_46 (by decide) ?_
    refine P_iret dX7_note_47 rfl ?_
    exact qr_thr hT (if_pos c16)
set_option maxHeartbeats 4000000 in
set_option maxRecDepth 100000 in
theorem c_X7_isCut {σ : vS} {v : vV} {c q n : Nat} {S : mS} {t : mN} {D : List mC} {sl : Nat → Option mC} {a d : Int32} (hq : LR σ q) (hT : RT v q ((t, n), (c, S), D, sl)) {B : Nat} (hG : GI B ((t, n), (c, S), D, sl)) (hB : B + 6000000 < 1000000000) : vC M_X7_isCut yX7_isCut [.ref (q), .int (a), .int (d)] (σ, v) (qR σ v q (g_isCut ((t, n), (c, S), D, sl) a d)) := by
  have hR : RR c v (q + 2) S := hT.r
  have hN : NB c S B := hG.1.1
  have hI : Iv c 1 S := hG.1.2
  have hc6 := hR.c6
  have htx : mTX v q t n := hT.tx
  have hlt : D.length ≤ 14 := hT.l
  refine vC_of (ls := [some (.ref (q)), some (.int (a)), some (.int (d))]) pn_X7 rfl rfl (Nat.le_of_ble_eq_true rfl) rfl ?_
  refine P_aload_n dX7_isCut_0 rfl rfl ?_
  refine P_aload_n dX7_isCut_1 rfl rfl ?_
  refine P_getr (t := q + 2) dX7_isCut_2 kX7 fX7_13 rfl (by decide) hq.o hq.r2 hq.k2.1.2 ?_
  refine P_iload_n dX7_isCut_5 rfl rfl ?_
  refine P_cSp (rest := [.ref (q)]) (As := [.ref (q + 2), .int (a)]) dX7_isCut_6 lX7_112 yk_X7_isMember ys_X7_isMember (by decide) rfl rfl (Nat.le_of_ble_eq_true rfl) rfl (c_X7_isMember hq.k2 hR) ?_
  refine P_bif_eq (tgt := 27) dX7_isCut_9 (by decide) (fun c9 => ?_) (fun c9 => ?_)
  · refine P_iconst (v := nI 1) dX7_isCut_27 (by decide) ?_
    refine P_cVs (rest := []) (As := [.int (nI (1))]) dX7_isCut_28 lX7_129 yk_X7_refused yv_X7_refused kX7 rfl (by decide) hq.o rfl rfl (Nat.le_of_ble_eq_true rfl) rfl (c_X7_refused (k := 1) hq (by decide)) (fun v9 e9 => ?_)
    subst e9
    refine P_top (y := vb true) rfl ?_
    refine P_bif_eq (tgt := 36) dX7_isCut_31 (by decide) (fun q9 => Bool.noConfusion q9) (fun _ => ?_)
    refine P_iconst (v := nI 0) dX7_isCut_34 (by decide) ?_
    refine P_iret dX7_isCut_35 rfl ?_
    exact qr_thr hT (if_pos (by rw [c9]; rfl))
  · refine P_aload_n dX7_isCut_12 rfl rfl ?_
    refine P_getr (t := q + 2) dX7_isCut_13 kX7 fX7_13 rfl (by decide) hq.o hq.r2 hq.k2.1.2 ?_
    refine P_iload_n dX7_isCut_16 rfl rfl ?_
    refine P_cSp (rest := [.ref (q)]) (As := [.ref (q + 2), .int (d)]) dX7_isCut_17 lX7_112 yk_X7_isMember ys_X7_isMember (by decide) rfl rfl (Nat.le_of_ble_eq_true rfl) rfl (c_X7_isMember hq.k2 hR) ?_
    refine P_bif_eq (tgt := 27) dX7_isCut_20 (by decide) (fun c20 => ?_) (fun c20 => ?_)
    · refine P_iconst (v := nI 1) dX7_isCut_27 (by decide) ?_
      refine P_cVs (rest := []) (As := [.int (nI (1))]) dX7_isCut_28 lX7_129 yk_X7_refused yv_X7_refused kX7 rfl (by decide) hq.o rfl rfl (Nat.le_of_ble_eq_true rfl) rfl (c_X7_refused (k := 1) hq (by decide)) (fun v9 e9 => ?_)
      subst e9
      refine P_top (y := vb true) rfl ?_
      refine P_bif_eq (tgt := 36) dX7_isCut_31 (by decide) (fun q9 => Bool.noConfusion q9) (fun _ => ?_)
      refine P_iconst (v := nI 0) dX7_isCut_34 (by decide) ?_
      refine P_iret dX7_isCut_35 rfl ?_
      exact qr_thr hT (if_pos (by rw [c9, c20]; rfl))
    · refine P_iconst (v := nI 0) dX7_isCut_23 (by decide) ?_
      refine P_goto (tgt := 28) dX7_isCut_24 (by decide) ?_
      refine P_cVs (rest := []) (As := [.int (nI (0))]) dX7_isCut_28 lX7_129 yk_X7_refused yv_X7_refused kX7 rfl (by decide) hq.o rfl rfl (Nat.le_of_ble_eq_true rfl) rfl (c_X7_refused (k := 0) hq (by decide)) (fun v1 e1 => ?_)
      obtain ⟨hT1, h01, hF1⟩ : RT v1 q ((t, n), (c, S), D, sl) ∧ v1 q 0 = nI 0 ∧ vOw v v1 q 8 := by subst e1; exact ⟨hT.ref, vU_s, vOw.rf.u (by omega) (by omega)⟩
      have hR1 : RR c v1 (q + 2) S := hT1.r
      clear e1
      refine P_top (y := vb false) rfl ?_
      refine P_bif_eq (tgt := 36) dX7_isCut_31 (by decide) (fun _ => ?_) (fun q9 => Bool.noConfusion q9)
      have ha9 := c9
      have hd9 := c20
      obtain ⟨ak, hak, rfl⟩ := mb_nat hc6 c9
      obtain ⟨dk, hdk, rfl⟩ := mb_nat hc6 c20
      refine P_aload_n dX7_isCut_36 rfl rfl ?_
      refine P_getr (t := q + 2) dX7_isCut_37 kX7 fX7_13 rfl (by decide) hq.o hq.r2 hq.k2.1.2 ?_
      refine P_bipush (v := nI 8) dX7_isCut_40 (by decide) ?_
      refine P_iload_n dX7_isCut_42 rfl rfl ?_
      refine P_iaddN dX7_isCut_43 ?_
      refine P_ialdN (x := nI (gG S (8 + ak))) (8 + ak) dX7_isCut_44 hq.k2 rfl (by omega) (by decide) (hR1.g (by omega) (by omega)) ?_
      refine P_iload_n dX7_isCut_45 rfl rfl ?_
      refine P_cSp (rest := []) (As := [.int (nI (gG S (8 + ak))), .int (nI (dk))]) dX7_isCut_46 lX7_48 yk_X7_has ys_X7_has (by decide) rfl rfl (Nat.le_of_ble_eq_true rfl) rfl (c_X7_has (by have := hN.cut (i := ak) (by omega); omega) (by omega)) ?_
      refine P_bif_eq (tgt := 56) dX7_isCut_49 (by decide) (fun c49 => ?_) (fun c49 => ?_)
      · refine P_iconst (v := nI 0) dX7_isCut_56 (by decide) ?_
        refine P_iret dX7_isCut_57 rfl ?_
        exact qr_ret ((if_neg (gt_f (by rw [ha9, hd9]; rfl))).trans (by rw [nn (by omega), nn (by omega), c49]; rfl)) h01 hT1 hF1
      · refine P_iconst (v := nI 1) dX7_isCut_52 (by decide) ?_
        refine P_goto (tgt := 57) dX7_isCut_53 (by decide) ?_
        refine P_iret dX7_isCut_57 rfl ?_
        exact qr_ret ((if_neg (gt_f (by rw [ha9, hd9]; rfl))).trans (by rw [nn (by omega), nn (by omega), c49]; rfl)) h01 hT1 hF1
set_option maxHeartbeats 4000000 in
set_option maxRecDepth 100000 in
theorem c_X7_member {σ : vS} {v : vV} {c q n : Nat} {S : mS} {t : mN} {D : List mC} {sl : Nat → Option mC} {p : Int32} (hq : LR σ q) (hT : RT v q ((t, n), (c, S), D, sl)) {B : Nat} (hG : GI B ((t, n), (c, S), D, sl)) (hB : B + 6000000 < 1000000000) : vC M_X7_member yX7_member [.ref (q), .int (p)] (σ, v) (qR σ v q (g_member ((t, n), (c, S), D, sl) p)) := by
  have hR : RR c v (q + 2) S := hT.r
  have hN : NB c S B := hG.1.1
  have hI : Iv c 1 S := hG.1.2
  have hc6 := hR.c6
  have htx : mTX v q t n := hT.tx
  have hlt : D.length ≤ 14 := hT.l
  refine vC_of (ls := [some (.ref (q)), some (.int (p))]) pn_X7 rfl rfl (Nat.le_of_ble_eq_true rfl) rfl ?_
  refine P_aload_n dX7_member_0 rfl rfl ?_
  refine P_iload_n dX7_member_1 rfl rfl ?_
  refine P_i2l dX7_member_2 ?_
  refine P_lconst (v := 0) dX7_member_3 (by decide) ?_
  refine P_ldc2_w dX7_member_4 cX7_136 ?_
  refine P_cSp (rest := [.ref (q)]) (As := [.long ((p).toInt64), .long ((0)), .long ((9))]) dX7_member_7 lX7_40 yk_X7_in ys_X7_in (by decide) rfl rfl (Nat.le_of_ble_eq_true rfl) rfl (c_X7_in _ _ _) ?_
  refine P_top (y := vb (gin p 0 9)) (congrArg vb (in_gin (by decide) (by decide))) ?_
  refine P_bif_ne (tgt := 17) dX7_member_10 (by decide) (fun c10 => ?_) (fun c10 => ?_)
  · refine P_aload_n dX7_member_17 rfl rfl ?_
    refine P_getr (t := q + 2) dX7_member_18 kX7 fX7_13 rfl (by decide) hq.o hq.r2 hq.k2.1.2 ?_
    refine P_iconst (v := nI 0) dX7_member_21 (by decide) ?_
    refine P_ialdN (x := nI (c)) (0) dX7_member_22 hq.k2 rfl (by omega) (by decide) hR.cc ?_
    refine P_bipush (v := nI 6) dX7_member_23 (by decide) ?_
    refine P_icmp_geN (tgt := 32) dX7_member_25 (by decide) (by omega) (by omega) (fun c25 => ?_) (fun c25 => ?_)
    · refine P_iconst (v := nI 2) dX7_member_32 (by decide) ?_
      refine P_cVs (rest := []) (As := [.int (nI (2))]) dX7_member_33 lX7_129 yk_X7_refused yv_X7_refused kX7 rfl (by decide) hq.o rfl rfl (Nat.le_of_ble_eq_true rfl) rfl (c_X7_refused (k := 2) hq (by decide)) (fun v9 e9 => ?_)
      subst e9
      refine P_top (y := vb true) rfl ?_
      refine P_bif_eq (tgt := 41) dX7_member_36 (by decide) (fun q9 => Bool.noConfusion q9) (fun _ => ?_)
      refine P_iconst (v := nI 0) dX7_member_39 (by decide) ?_
      refine P_iret dX7_member_40 rfl ?_
      exact qr_thr hT ((if_neg (gt_f c10)).trans (if_pos (by omega)))
    · refine P_iconst (v := nI 0) dX7_member_28 (by decide) ?_
      refine P_goto (tgt := 33) dX7_member_29 (by decide) ?_
      refine P_cVs (rest := []) (As := [.int (nI (0))]) dX7_member_33 lX7_129 yk_X7_refused yv_X7_refused kX7 rfl (by decide) hq.o rfl rfl (Nat.le_of_ble_eq_true rfl) rfl (c_X7_refused (k := 0) hq (by decide)) (fun v1 e1 => ?_)
      obtain ⟨hT1, h01, hF1⟩ : RT v1 q ((t, n), (c, S), D, sl) ∧ v1 q 0 = nI 0 ∧ vOw v v1 q 8 := by subst e1; exact ⟨hT.ref, vU_s, vOw.rf.u (by omega) (by omega)⟩
      have hR1 : RR c v1 (q + 2) S := hT1.r
      clear e1
      refine P_top (y := vb false) rfl ?_
      refine P_bif_eq (tgt := 41) dX7_member_36 (by decide) (fun _ => ?_) (fun q9 => Bool.noConfusion q9)
      have hgi9 := c10
      obtain ⟨pk, pk0, pk1, rfl⟩ := gin_n (lo := 0) (hi := 9) (by decide) c10
      refine P_aload_n dX7_member_41 rfl rfl ?_
      refine P_cVs (rest := []) (As := []) dX7_member_42 lX7_205 yk_X7_remember yv_X7_remember kX7 rfl (by decide) hq.o rfl rfl (Nat.le_of_ble_eq_true rfl) rfl (c_X7_remember hq hT1) (fun v2 ⟨hT2, e2, hw2⟩ => ?_)
      have h02 : v2 q 0 = nI 0 := e2.trans h01
      have hF2 := hF1.tr hw2
      have hR2 : RR c v2 (q + 2) S := hT2.r
      refine P_aload_n dX7_member_45 rfl rfl ?_
      refine P_getr (t := q + 2) dX7_member_46 kX7 fX7_13 rfl (by decide) hq.o hq.r2 hq.k2.1.2 ?_
      refine P_iload_n dX7_member_49 rfl rfl ?_
      refine P_cSs (rest := []) (As := [.ref (q + 2), .int (nI (pk))]) dX7_member_50 lX7_145 yk_X7_memberOn ys_X7_memberOn (by decide) rfl rfl (Nat.le_of_ble_eq_true rfl) rfl (c_X7_memberOn hq.k2 hR2 (by omega) hI.1.2.1) (fun v3 ⟨hR3, hO3⟩ => ?_)
      have hT3 := hT2.now (X := (c + 1, madd S pk)) hR3 (fun j _ _ _ => by rw [hO3 q (by omega)]) (fun m g1 g2 g3 _ => hO3 m g3)
      have h03 : v3 q 0 = nI 0 := by rw [hO3 q (by omega)]; exact h02
      have hF3 := hF2.tr (hO3.ow (q := q) (w := 8) (by omega) (by omega))
      refine P_iret dX7_member_53 rfl ?_
      exact qr_ret ((if_neg (gt_f hgi9)).trans ((if_neg (by omega)).trans (by rw [nn (by omega)]; rfl))) h03 hT3 hF3
  · refine P_iconst (v := nI 1) dX7_member_13 (by decide) ?_
    refine P_goto (tgt := 33) dX7_member_14 (by decide) ?_
    refine P_cVs (rest := []) (As := [.int (nI (1))]) dX7_member_33 lX7_129 yk_X7_refused yv_X7_refused kX7 rfl (by decide) hq.o rfl rfl (Nat.le_of_ble_eq_true rfl) rfl (c_X7_refused (k := 1) hq (by decide)) (fun v9 e9 => ?_)
    subst e9
    refine P_top (y := vb true) rfl ?_
    refine P_bif_eq (tgt := 41) dX7_member_36 (by decide) (fun q9 => Bool.noConfusion q9) (fun _ => ?_)
    refine P_iconst (v := nI 0) dX7_member_39 (by decide) ?_
    refine P_iret dX7_member_40 rfl ?_
    exact qr_thr hT (if_pos c10)
set_option maxHeartbeats 4000000 in
set_option maxRecDepth 100000 in
theorem c_X7_say {σ : vS} {v : vV} {c q n : Nat} {S : mS} {t : mN} {D : List mC} {sl : Nat → Option mC} {m : Int32} (hq : LR σ q) (hT : RT v q ((t, n), (c, S), D, sl)) {B : Nat} (hG : GI B ((t, n), (c, S), D, sl)) (hB : B + 6000000 < 1000000000) : vC M_X7_say yX7_say [.ref (q), .int (m)] (σ, v) (qR σ v q (g_say ((t, n), (c, S), D, sl) m)) := by
  have hR : RR c v (q + 2) S := hT.r
  have hN : NB c S B := hG.1.1
  have hI : Iv c 1 S := hG.1.2
  have hc6 := hR.c6
  have htx : mTX v q t n := hT.tx
  have hlt : D.length ≤ 14 := hT.l
  refine vC_of (ls := [some (.ref (q)), some (.int (m))]) pn_X7 rfl rfl (Nat.le_of_ble_eq_true rfl) rfl ?_
  refine P_aload_n dX7_say_0 rfl rfl ?_
  refine P_aload_n dX7_say_1 rfl rfl ?_
  refine P_getr (t := q + 2) dX7_say_2 kX7 fX7_13 rfl (by decide) hq.o hq.r2 hq.k2.1.2 ?_
  refine P_iload_n dX7_say_5 rfl rfl ?_
  refine P_cSp (rest := [.ref (q)]) (As := [.ref (q + 2), .int (m)]) dX7_say_6 lX7_112 yk_X7_isMember ys_X7_isMember (by decide) rfl rfl (Nat.le_of_ble_eq_true rfl) rfl (c_X7_isMember hq.k2 hR) ?_
  refine P_bif_ne (tgt := 16) dX7_say_9 (by decide) (fun c9 => ?_) (fun c9 => ?_)
  · have hm9 := c9
    obtain ⟨mk, hmk, rfl⟩ := mb_nat hc6 c9
    refine P_aload_n dX7_say_16 rfl rfl ?_
    refine P_getr (t := q + 2) dX7_say_17 kX7 fX7_13 rfl (by decide) hq.o hq.r2 hq.k2.1.2 ?_
    refine P_iload_n dX7_say_20 rfl rfl ?_
    refine P_cSp (rest := [.ref (q)]) (As := [.ref (q + 2), .int (nI (mk))]) dX7_say_21 lX7_156 yk_X7_canSay ys_X7_canSay (by decide) rfl rfl (Nat.le_of_ble_eq_true rfl) rfl (c_X7_canSay hq.k2 hR hN) ?_
    refine P_top (y := vb (decide (mk < c ∧ gM S mk 1 = 0 ∧ gM S mk 7 < 4))) (by rw [mcsay_k hc6 (by omega)]) ?_
    refine P_bif_eq (tgt := 31) dX7_say_24 (by decide) (fun c24 => ?_) (fun c24 => ?_)
    · refine P_iconst (v := nI 2) dX7_say_31 (by decide) ?_
      refine P_cVs (rest := []) (As := [.int (nI (2))]) dX7_say_32 lX7_129 yk_X7_refused yv_X7_refused kX7 rfl (by decide) hq.o rfl rfl (Nat.le_of_ble_eq_true rfl) rfl (c_X7_refused (k := 2) hq (by decide)) (fun v9 e9 => ?_)
      subst e9
      refine P_top (y := vb true) rfl ?_
      refine P_bif_eq (tgt := 40) dX7_say_35 (by decide) (fun q9 => Bool.noConfusion q9) (fun _ => ?_)
      refine P_iconst (v := nI 0) dX7_say_38 (by decide) ?_
      refine P_iret dX7_say_39 rfl ?_
      exact qr_thr hT ((if_neg (gt_f hm9)).trans (if_pos (by rw [nn (by omega)]; exact fun q9 => of_decide_eq_false c24 ⟨hmk, q9.1, q9.2⟩)))
    · refine P_iconst (v := nI 0) dX7_say_27 (by decide) ?_
      refine P_goto (tgt := 32) dX7_say_28 (by decide) ?_
      refine P_cVs (rest := []) (As := [.int (nI (0))]) dX7_say_32 lX7_129 yk_X7_refused yv_X7_refused kX7 rfl (by decide) hq.o rfl rfl (Nat.le_of_ble_eq_true rfl) rfl (c_X7_refused (k := 0) hq (by decide)) (fun v1 e1 => ?_)
      obtain ⟨hT1, h01, hF1⟩ : RT v1 q ((t, n), (c, S), D, sl) ∧ v1 q 0 = nI 0 ∧ vOw v v1 q 8 := by subst e1; exact ⟨hT.ref, vU_s, vOw.rf.u (by omega) (by omega)⟩
      have hR1 : RR c v1 (q + 2) S := hT1.r
      clear e1
      refine P_top (y := vb false) rfl ?_
      refine P_bif_eq (tgt := 40) dX7_say_35 (by decide) (fun _ => ?_) (fun q9 => Bool.noConfusion q9)
      obtain ⟨z1, z2, z3⟩ := of_decide_eq_true c24
      refine P_aload_n dX7_say_40 rfl rfl ?_
      refine P_cVs (rest := []) (As := []) dX7_say_41 lX7_205 yk_X7_remember yv_X7_remember kX7 rfl (by decide) hq.o rfl rfl (Nat.le_of_ble_eq_true rfl) rfl (c_X7_remember hq hT1) (fun v2 ⟨hT2, e2, hw2⟩ => ?_)
      have h02 : v2 q 0 = nI 0 := e2.trans h01
      have hF2 := hF1.tr hw2
      have hR2 : RR c v2 (q + 2) S := hT2.r
      refine P_aload_n dX7_say_44 rfl rfl ?_
      refine P_getr (t := q + 2) dX7_say_45 kX7 fX7_13 rfl (by decide) hq.o hq.r2 hq.k2.1.2 ?_
      refine P_iload_n dX7_say_48 rfl rfl ?_
      refine P_cSs (rest := []) (As := [.ref (q + 2), .int (nI (mk))]) dX7_say_49 lX7_159 yk_X7_sayOn ys_X7_sayOn (by decide) rfl rfl (Nat.le_of_ble_eq_true rfl) rfl (c_X7_sayOn hq.k2 hR2 hN (by omega) z1 z3) (fun v3 ⟨hR3, hO3⟩ => ?_)
      have hT3 := hT2.now (X := (c, msay S mk)) hR3 (fun j _ _ _ => by rw [hO3 q (by omega)]) (fun m g1 g2 g3 _ => hO3 m g3)
      have h03 : v3 q 0 = nI 0 := by rw [hO3 q (by omega)]; exact h02
      have hF3 := hF2.tr (hO3.ow (q := q) (w := 8) (by omega) (by omega))
      refine P_iret dX7_say_52 rfl ?_
      exact qr_ret ((if_neg (gt_f hm9)).trans ((if_neg (by rw [nn (by omega)]; exact fun q9 => q9 ⟨z2, z3⟩)).trans (by rw [nn (by omega)]; rfl))) h03 hT3 hF3
  · refine P_iconst (v := nI 1) dX7_say_12 (by decide) ?_
    refine P_goto (tgt := 32) dX7_say_13 (by decide) ?_
    refine P_cVs (rest := []) (As := [.int (nI (1))]) dX7_say_32 lX7_129 yk_X7_refused yv_X7_refused kX7 rfl (by decide) hq.o rfl rfl (Nat.le_of_ble_eq_true rfl) rfl (c_X7_refused (k := 1) hq (by decide)) (fun v9 e9 => ?_)
    subst e9
    refine P_top (y := vb true) rfl ?_
    refine P_bif_eq (tgt := 40) dX7_say_35 (by decide) (fun q9 => Bool.noConfusion q9) (fun _ => ?_)
    refine P_iconst (v := nI 0) dX7_say_38 (by decide) ?_
    refine P_iret dX7_say_39 rfl ?_
    exact qr_thr hT (if_pos c9)
set_option maxHeartbeats 4000000 in
set_option maxRecDepth 100000 in
theorem c_X7_call {σ : vS} {v : vV} {c q n : Nat} {S : mS} {t : mN} {D : List mC} {sl : Nat → Option mC} {m s : Int32} (hq : LR σ q) (hT : RT v q ((t, n), (c, S), D, sl)) {B : Nat} (hG : GI B ((t, n), (c, S), D, sl)) (hB : B + 6000000 < 1000000000) : vC M_X7_call yX7_call [.ref (q), .int (m), .int (s)] (σ, v) (qR σ v q (g_call ((t, n), (c, S), D, sl) m s)) := by
  have hR : RR c v (q + 2) S := hT.r
  have hN : NB c S B := hG.1.1
  have hI : Iv c 1 S := hG.1.2
  have hc6 := hR.c6
  have htx : mTX v q t n := hT.tx
  have hlt : D.length ≤ 14 := hT.l
  refine vC_of (ls := [some (.ref (q)), some (.int (m)), some (.int (s))]) pn_X7 rfl rfl (Nat.le_of_ble_eq_true rfl) rfl ?_
  refine P_aload_n dX7_call_0 rfl rfl ?_
  refine P_aload_n dX7_call_1 rfl rfl ?_
  refine P_getr (t := q + 2) dX7_call_2 kX7 fX7_13 rfl (by decide) hq.o hq.r2 hq.k2.1.2 ?_
  refine P_iload_n dX7_call_5 rfl rfl ?_
  refine P_cSp (rest := [.ref (q)]) (As := [.ref (q + 2), .int (m)]) dX7_call_6 lX7_112 yk_X7_isMember ys_X7_isMember (by decide) rfl rfl (Nat.le_of_ble_eq_true rfl) rfl (c_X7_isMember hq.k2 hR) ?_
  refine P_bif_ne (tgt := 16) dX7_call_9 (by decide) (fun c9 => ?_) (fun c9 => ?_)
  · have hm9 := c9
    obtain ⟨mk, hmk, rfl⟩ := mb_nat hc6 c9
    refine P_aload_n dX7_call_16 rfl rfl ?_
    refine P_getr (t := q + 2) dX7_call_17 kX7 fX7_13 rfl (by decide) hq.o hq.r2 hq.k2.1.2 ?_
    refine P_iload_n dX7_call_20 rfl rfl ?_
    refine P_iload_n dX7_call_21 rfl rfl ?_
    refine P_cSp (rest := [.ref (q)]) (As := [.ref (q + 2), .int (nI (mk)), .int (s)]) dX7_call_22 lX7_116 yk_X7_isSet ys_X7_isSet (by decide) rfl rfl (Nat.le_of_ble_eq_true rfl) rfl (c_X7_isSet hq.k2 hR (by omega)) ?_
    refine P_bif_ne (tgt := 32) dX7_call_25 (by decide) (fun c25 => ?_) (fun c25 => ?_)
    · refine P_aload_n dX7_call_32 rfl rfl ?_
      refine P_getr (t := q + 2) dX7_call_33 kX7 fX7_13 rfl (by decide) hq.o hq.r2 hq.k2.1.2 ?_
      refine P_iload_n dX7_call_36 rfl rfl ?_
      refine P_iconst (v := nI 1) dX7_call_37 (by decide) ?_
      refine P_cSp (rest := [.ref (q)]) (As := [.ref (q + 2), .int (nI (mk)), .int (nI (1))]) dX7_call_38 lX7_44 yk_X7_of ys_X7_of (by decide) rfl rfl (Nat.le_of_ble_eq_true rfl) rfl (c_X7_of hq.k2 (by omega) (by decide)) ?_
      refine P_top (y := (nI (gM S mk 1))) (hR.m (by omega) (by decide)) ?_
      refine P_iconst (v := nI 2) dX7_call_41 (by decide) ?_
      refine P_icmp_neN (tgt := 49) dX7_call_42 (by decide) (by first | omega | (have := hN.m1 mk; omega)) (by first | omega | (have := hN.m1 mk; omega)) (fun c42 => ?_) (fun c42 => ?_)
      · refine P_iconst (v := nI 0) dX7_call_49 (by decide) ?_
        refine P_cVs (rest := []) (As := [.int (nI (0))]) dX7_call_50 lX7_129 yk_X7_refused yv_X7_refused kX7 rfl (by decide) hq.o rfl rfl (Nat.le_of_ble_eq_true rfl) rfl (c_X7_refused (k := 0) hq (by decide)) (fun v1 e1 => ?_)
        obtain ⟨hT1, h01, hF1⟩ : RT v1 q ((t, n), (c, S), D, sl) ∧ v1 q 0 = nI 0 ∧ vOw v v1 q 8 := by subst e1; exact ⟨hT.ref, vU_s, vOw.rf.u (by omega) (by omega)⟩
        have hR1 : RR c v1 (q + 2) S := hT1.r
        clear e1
        refine P_top (y := vb false) rfl ?_
        refine P_bif_eq (tgt := 58) dX7_call_53 (by decide) (fun _ => ?_) (fun q9 => Bool.noConfusion q9)
        have hs9 : ¬ mset c (nI mk).toInt.toNat s = false := by rw [nn (by omega), c25]; exact Bool.noConfusion
        obtain ⟨sk, sk1, sk2, rfl, hst⟩ := kset_nat (m := nI mk) hc6 (by rw [nn (by omega)]; exact c25)
        refine P_aload_n dX7_call_58 rfl rfl ?_
        refine P_cVs (rest := []) (As := []) dX7_call_59 lX7_205 yk_X7_remember yv_X7_remember kX7 rfl (by decide) hq.o rfl rfl (Nat.le_of_ble_eq_true rfl) rfl (c_X7_remember hq hT1) (fun v2 ⟨hT2, e2, hw2⟩ => ?_)
        have h02 : v2 q 0 = nI 0 := e2.trans h01
        have hF2 := hF1.tr hw2
        have hR2 : RR c v2 (q + 2) S := hT2.r
        refine P_aload_n dX7_call_62 rfl rfl ?_
        refine P_getr (t := q + 2) dX7_call_63 kX7 fX7_13 rfl (by decide) hq.o hq.r2 hq.k2.1.2 ?_
        refine P_iload_n dX7_call_66 rfl rfl ?_
        refine P_iload_n dX7_call_67 rfl rfl ?_
        refine P_cSs (rest := []) (As := [.ref (q + 2), .int (nI (mk)), .int (nI (sk))]) dX7_call_68 lX7_106 yk_X7_callOn ys_X7_callOn (by decide) rfl rfl (Nat.le_of_ble_eq_true rfl) rfl (c_X7_callOn hq.k2 hR2 hN (by omega) (by omega) (by omega)) (fun v3 ⟨hR3, hO3⟩ => ?_)
        have hT3 := hT2.now (X := (c, mcall S mk sk)) hR3 (fun j _ _ _ => by rw [hO3 q (by omega)]) (fun m g1 g2 g3 _ => hO3 m g3)
        have h03 : v3 q 0 = nI 0 := by rw [hO3 q (by omega)]; exact h02
        have hF3 := hF2.tr (hO3.ow (q := q) (w := 8) (by omega) (by omega))
        refine P_iret dX7_call_71 rfl ?_
        exact qr_ret ((if_neg (gt_f hm9)).trans ((if_neg hs9).trans ((if_neg (by rw [nn (by omega)]; omega)).trans (by rw [nn (by omega), nn (by omega)]; rfl)))) h03 hT3 hF3
      · refine P_iconst (v := nI 3) dX7_call_45 (by decide) ?_
        refine P_goto (tgt := 50) dX7_call_46 (by decide) ?_
        refine P_cVs (rest := []) (As := [.int (nI (3))]) dX7_call_50 lX7_129 yk_X7_refused yv_X7_refused kX7 rfl (by decide) hq.o rfl rfl (Nat.le_of_ble_eq_true rfl) rfl (c_X7_refused (k := 3) hq (by decide)) (fun v9 e9 => ?_)
        subst e9
        refine P_top (y := vb true) rfl ?_
        refine P_bif_eq (tgt := 58) dX7_call_53 (by decide) (fun q9 => Bool.noConfusion q9) (fun _ => ?_)
        refine P_iconst (v := nI 0) dX7_call_56 (by decide) ?_
        refine P_iret dX7_call_57 rfl ?_
        exact qr_thr hT ((if_neg (gt_f hm9)).trans ((if_neg (gt_f (by rw [nn (by omega)]; exact c25))).trans (if_pos (by rw [nn (by omega)]; omega))))
    · refine P_iconst (v := nI 2) dX7_call_28 (by decide) ?_
      refine P_goto (tgt := 50) dX7_call_29 (by decide) ?_
      refine P_cVs (rest := []) (As := [.int (nI (2))]) dX7_call_50 lX7_129 yk_X7_refused yv_X7_refused kX7 rfl (by decide) hq.o rfl rfl (Nat.le_of_ble_eq_true rfl) rfl (c_X7_refused (k := 2) hq (by decide)) (fun v9 e9 => ?_)
      subst e9
      refine P_top (y := vb true) rfl ?_
      refine P_bif_eq (tgt := 58) dX7_call_53 (by decide) (fun q9 => Bool.noConfusion q9) (fun _ => ?_)
      refine P_iconst (v := nI 0) dX7_call_56 (by decide) ?_
      refine P_iret dX7_call_57 rfl ?_
      exact qr_thr hT ((if_neg (gt_f hm9)).trans (if_pos (by rw [nn (by omega)]; exact c25)))
  · refine P_iconst (v := nI 1) dX7_call_12 (by decide) ?_
    refine P_goto (tgt := 50) dX7_call_13 (by decide) ?_
    refine P_cVs (rest := []) (As := [.int (nI (1))]) dX7_call_50 lX7_129 yk_X7_refused yv_X7_refused kX7 rfl (by decide) hq.o rfl rfl (Nat.le_of_ble_eq_true rfl) rfl (c_X7_refused (k := 1) hq (by decide)) (fun v9 e9 => ?_)
    subst e9
    refine P_top (y := vb true) rfl ?_
    refine P_bif_eq (tgt := 58) dX7_call_53 (by decide) (fun q9 => Bool.noConfusion q9) (fun _ => ?_)
    refine P_iconst (v := nI 0) dX7_call_56 (by decide) ?_
    refine P_iret dX7_call_57 rfl ?_
    exact qr_thr hT (if_pos c9)
set_option maxHeartbeats 4000000 in
set_option maxRecDepth 100000 in
theorem c_X7_cut {σ : vS} {v : vV} {c q n : Nat} {S : mS} {t : mN} {D : List mC} {sl : Nat → Option mC} {a d : Int32} {z : Bool} (hq : LR σ q) (hT : RT v q ((t, n), (c, S), D, sl)) {B : Nat} (hG : GI B ((t, n), (c, S), D, sl)) (hB : B + 6000000 < 1000000000) : vC M_X7_cut yX7_cut [.ref (q), .int (a), .int (d), .int (vb (z))] (σ, v) (qR σ v q (g_cut ((t, n), (c, S), D, sl) a d z)) := by
  have hR : RR c v (q + 2) S := hT.r
  have hN : NB c S B := hG.1.1
  have hI : Iv c 1 S := hG.1.2
  have hc6 := hR.c6
  have htx : mTX v q t n := hT.tx
  have hlt : D.length ≤ 14 := hT.l
  refine vC_of (ls := [some (.ref (q)), some (.int (a)), some (.int (d)), some (.int (vb (z)))]) pn_X7 rfl rfl (Nat.le_of_ble_eq_true rfl) rfl ?_
  refine P_aload_n dX7_cut_0 rfl rfl ?_
  refine P_aload_n dX7_cut_1 rfl rfl ?_
  refine P_getr (t := q + 2) dX7_cut_2 kX7 fX7_13 rfl (by decide) hq.o hq.r2 hq.k2.1.2 ?_
  refine P_iload_n dX7_cut_5 rfl rfl ?_
  refine P_cSp (rest := [.ref (q)]) (As := [.ref (q + 2), .int (a)]) dX7_cut_6 lX7_112 yk_X7_isMember ys_X7_isMember (by decide) rfl rfl (Nat.le_of_ble_eq_true rfl) rfl (c_X7_isMember hq.k2 hR) ?_
  refine P_bif_eq (tgt := 23) dX7_cut_9 (by decide) (fun c9 => ?_) (fun c9 => ?_)
  · refine P_iconst (v := nI 1) dX7_cut_23 (by decide) ?_
    refine P_goto (tgt := 37) dX7_cut_24 (by decide) ?_
    refine P_cVs (rest := []) (As := [.int (nI (1))]) dX7_cut_37 lX7_129 yk_X7_refused yv_X7_refused kX7 rfl (by decide) hq.o rfl rfl (Nat.le_of_ble_eq_true rfl) rfl (c_X7_refused (k := 1) hq (by decide)) (fun v9 e9 => ?_)
    subst e9
    refine P_top (y := vb true) rfl ?_
    refine P_bif_eq (tgt := 45) dX7_cut_40 (by decide) (fun q9 => Bool.noConfusion q9) (fun _ => ?_)
    refine P_iconst (v := nI 0) dX7_cut_43 (by decide) ?_
    refine P_iret dX7_cut_44 rfl ?_
    exact qr_thr hT (if_pos (by rw [c9]; rfl))
  · refine P_aload_n dX7_cut_12 rfl rfl ?_
    refine P_getr (t := q + 2) dX7_cut_13 kX7 fX7_13 rfl (by decide) hq.o hq.r2 hq.k2.1.2 ?_
    refine P_iload_n dX7_cut_16 rfl rfl ?_
    refine P_cSp (rest := [.ref (q)]) (As := [.ref (q + 2), .int (d)]) dX7_cut_17 lX7_112 yk_X7_isMember ys_X7_isMember (by decide) rfl rfl (Nat.le_of_ble_eq_true rfl) rfl (c_X7_isMember hq.k2 hR) ?_
    refine P_bif_ne (tgt := 27) dX7_cut_20 (by decide) (fun c20 => ?_) (fun c20 => ?_)
    · have ha9 := c9
      have hd9 := c20
      refine P_iload_n dX7_cut_27 rfl rfl ?_
      refine P_iload_n dX7_cut_28 rfl rfl ?_
      refine P_icmp_ne (tgt := 36) dX7_cut_29 (by decide) (fun c29 => ?_) (fun c29 => ?_)
      · refine P_iconst (v := nI 0) dX7_cut_36 (by decide) ?_
        refine P_cVs (rest := []) (As := [.int (nI (0))]) dX7_cut_37 lX7_129 yk_X7_refused yv_X7_refused kX7 rfl (by decide) hq.o rfl rfl (Nat.le_of_ble_eq_true rfl) rfl (c_X7_refused (k := 0) hq (by decide)) (fun v1 e1 => ?_)
        obtain ⟨hT1, h01, hF1⟩ : RT v1 q ((t, n), (c, S), D, sl) ∧ v1 q 0 = nI 0 ∧ vOw v v1 q 8 := by subst e1; exact ⟨hT.ref, vU_s, vOw.rf.u (by omega) (by omega)⟩
        have hR1 : RR c v1 (q + 2) S := hT1.r
        clear e1
        refine P_top (y := vb false) rfl ?_
        refine P_bif_eq (tgt := 45) dX7_cut_40 (by decide) (fun _ => ?_) (fun q9 => Bool.noConfusion q9)
        have hne := c29
        obtain ⟨ak, hak, rfl⟩ := mb_nat hc6 c9
        obtain ⟨dk, hdk, rfl⟩ := mb_nat hc6 c20
        refine P_aload_n dX7_cut_45 rfl rfl ?_
        refine P_cVs (rest := []) (As := []) dX7_cut_46 lX7_205 yk_X7_remember yv_X7_remember kX7 rfl (by decide) hq.o rfl rfl (Nat.le_of_ble_eq_true rfl) rfl (c_X7_remember hq hT1) (fun v2 ⟨hT2, e2, hw2⟩ => ?_)
        have h02 : v2 q 0 = nI 0 := e2.trans h01
        have hF2 := hF1.tr hw2
        have hR2 : RR c v2 (q + 2) S := hT2.r
        refine P_aload_n dX7_cut_49 rfl rfl ?_
        refine P_getr (t := q + 2) dX7_cut_50 kX7 fX7_13 rfl (by decide) hq.o hq.r2 hq.k2.1.2 ?_
        refine P_iload_n dX7_cut_53 rfl rfl ?_
        refine P_iload_n dX7_cut_54 rfl rfl ?_
        refine P_iload_n dX7_cut_55 rfl rfl ?_
        refine P_cSs (rest := []) (As := [.ref (q + 2), .int (nI (ak)), .int (nI (dk)), .int (vb (z))]) dX7_cut_56 lX7_165 yk_X7_cutOn ys_X7_cutOn (by decide) rfl rfl (Nat.le_of_ble_eq_true rfl) rfl (c_X7_cutOn (cut := z) hq.k2 hR2 hN hak hdk (fun e => hne (by rw [e]))) (fun v3 ⟨hR3, hO3⟩ => ?_)
        have hT3 := hT2.now (X := (c, mcut S ak dk z)) hR3 (fun j _ _ _ => by rw [hO3 q (by omega)]) (fun m g1 g2 g3 _ => hO3 m g3)
        have h03 : v3 q 0 = nI 0 := by rw [hO3 q (by omega)]; exact h02
        have hF3 := hF2.tr (hO3.ow (q := q) (w := 8) (by omega) (by omega))
        refine P_iret dX7_cut_59 rfl ?_
        exact qr_ret ((if_neg (gt_f (by rw [ha9, hd9]; rfl))).trans ((if_neg hne).trans (by rw [nn (by omega), nn (by omega)]; rfl))) h03 hT3 hF3
      · refine P_iconst (v := nI 2) dX7_cut_32 (by decide) ?_
        refine P_goto (tgt := 37) dX7_cut_33 (by decide) ?_
        refine P_cVs (rest := []) (As := [.int (nI (2))]) dX7_cut_37 lX7_129 yk_X7_refused yv_X7_refused kX7 rfl (by decide) hq.o rfl rfl (Nat.le_of_ble_eq_true rfl) rfl (c_X7_refused (k := 2) hq (by decide)) (fun v9 e9 => ?_)
        subst e9
        refine P_top (y := vb true) rfl ?_
        refine P_bif_eq (tgt := 45) dX7_cut_40 (by decide) (fun q9 => Bool.noConfusion q9) (fun _ => ?_)
        refine P_iconst (v := nI 0) dX7_cut_43 (by decide) ?_
        refine P_iret dX7_cut_44 rfl ?_
        exact qr_thr hT ((if_neg (gt_f (by rw [ha9, hd9]; rfl))).trans (if_pos (by first | exact c29 | exact Classical.not_not.mp c29)))
    · refine P_iconst (v := nI 1) dX7_cut_23 (by decide) ?_
      refine P_goto (tgt := 37) dX7_cut_24 (by decide) ?_
      refine P_cVs (rest := []) (As := [.int (nI (1))]) dX7_cut_37 lX7_129 yk_X7_refused yv_X7_refused kX7 rfl (by decide) hq.o rfl rfl (Nat.le_of_ble_eq_true rfl) rfl (c_X7_refused (k := 1) hq (by decide)) (fun v9 e9 => ?_)
      subst e9
      refine P_top (y := vb true) rfl ?_
      refine P_bif_eq (tgt := 45) dX7_cut_40 (by decide) (fun q9 => Bool.noConfusion q9) (fun _ => ?_)
      refine P_iconst (v := nI 0) dX7_cut_43 (by decide) ?_
      refine P_iret dX7_cut_44 rfl ?_
      exact qr_thr hT (if_pos (by rw [c9, c20]; rfl))
set_option maxHeartbeats 4000000 in
set_option maxRecDepth 100000 in
theorem c_X7_leave {σ : vS} {v : vV} {c q n : Nat} {S : mS} {t : mN} {D : List mC} {sl : Nat → Option mC} {m : Int32} (hq : LR σ q) (hT : RT v q ((t, n), (c, S), D, sl)) {B : Nat} (hG : GI B ((t, n), (c, S), D, sl)) (hB : B + 6000000 < 1000000000) : vC M_X7_leave yX7_leave [.ref (q), .int (m)] (σ, v) (qR σ v q (g_leave ((t, n), (c, S), D, sl) m)) := by
  have hR : RR c v (q + 2) S := hT.r
  have hN : NB c S B := hG.1.1
  have hI : Iv c 1 S := hG.1.2
  have hc6 := hR.c6
  have htx : mTX v q t n := hT.tx
  have hlt : D.length ≤ 14 := hT.l
  refine vC_of (ls := [some (.ref (q)), some (.int (m))]) pn_X7 rfl rfl (Nat.le_of_ble_eq_true rfl) rfl ?_
  refine P_aload_n dX7_leave_0 rfl rfl ?_
  refine P_aload_n dX7_leave_1 rfl rfl ?_
  refine P_getr (t := q + 2) dX7_leave_2 kX7 fX7_13 rfl (by decide) hq.o hq.r2 hq.k2.1.2 ?_
  refine P_iload_n dX7_leave_5 rfl rfl ?_
  refine P_cSp (rest := [.ref (q)]) (As := [.ref (q + 2), .int (m)]) dX7_leave_6 lX7_112 yk_X7_isMember ys_X7_isMember (by decide) rfl rfl (Nat.le_of_ble_eq_true rfl) rfl (c_X7_isMember hq.k2 hR) ?_
  refine P_bif_ne (tgt := 16) dX7_leave_9 (by decide) (fun c9 => ?_) (fun c9 => ?_)
  · have hm9 := c9
    obtain ⟨mk, hmk, rfl⟩ := mb_nat hc6 c9
    refine P_aload_n dX7_leave_16 rfl rfl ?_
    refine P_getr (t := q + 2) dX7_leave_17 kX7 fX7_13 rfl (by decide) hq.o hq.r2 hq.k2.1.2 ?_
    refine P_iload_n dX7_leave_20 rfl rfl ?_
    refine P_cSp (rest := [.ref (q)]) (As := [.ref (q + 2), .int (nI (mk))]) dX7_leave_21 lX7_169 yk_X7_isGone ys_X7_isGone (by decide) rfl rfl (Nat.le_of_ble_eq_true rfl) rfl (c_X7_isGone hq.k2 hR hN) ?_
    refine P_top (y := vb (decide (mk < c ∧ gM S mk 1 = 2))) (by rw [mgone_k hc6 (by omega)]) ?_
    refine P_bif_eq (tgt := 31) dX7_leave_24 (by decide) (fun c24 => ?_) (fun c24 => ?_)
    · refine P_iconst (v := nI 0) dX7_leave_31 (by decide) ?_
      refine P_cVs (rest := []) (As := [.int (nI (0))]) dX7_leave_32 lX7_129 yk_X7_refused yv_X7_refused kX7 rfl (by decide) hq.o rfl rfl (Nat.le_of_ble_eq_true rfl) rfl (c_X7_refused (k := 0) hq (by decide)) (fun v1 e1 => ?_)
      obtain ⟨hT1, h01, hF1⟩ : RT v1 q ((t, n), (c, S), D, sl) ∧ v1 q 0 = nI 0 ∧ vOw v v1 q 8 := by subst e1; exact ⟨hT.ref, vU_s, vOw.rf.u (by omega) (by omega)⟩
      have hR1 : RR c v1 (q + 2) S := hT1.r
      clear e1
      refine P_top (y := vb false) rfl ?_
      refine P_bif_eq (tgt := 40) dX7_leave_35 (by decide) (fun _ => ?_) (fun q9 => Bool.noConfusion q9)
      refine P_aload_n dX7_leave_40 rfl rfl ?_
      refine P_cVs (rest := []) (As := []) dX7_leave_41 lX7_205 yk_X7_remember yv_X7_remember kX7 rfl (by decide) hq.o rfl rfl (Nat.le_of_ble_eq_true rfl) rfl (c_X7_remember hq hT1) (fun v2 ⟨hT2, e2, hw2⟩ => ?_)
      have h02 : v2 q 0 = nI 0 := e2.trans h01
      have hF2 := hF1.tr hw2
      have hR2 : RR c v2 (q + 2) S := hT2.r
      refine P_aload_n dX7_leave_44 rfl rfl ?_
      refine P_getr (t := q + 2) dX7_leave_45 kX7 fX7_13 rfl (by decide) hq.o hq.r2 hq.k2.1.2 ?_
      refine P_iload_n dX7_leave_48 rfl rfl ?_
      refine P_cSs (rest := []) (As := [.ref (q + 2), .int (nI (mk))]) dX7_leave_49 lX7_172 yk_X7_leaveOn ys_X7_leaveOn (by decide) rfl rfl (Nat.le_of_ble_eq_true rfl) rfl (c_X7_leaveOn hq.k2 hR2 hmk) (fun v3 ⟨hR3, hO3⟩ => ?_)
      have hT3 := hT2.now (X := (c, mleave S mk)) hR3 (fun j _ _ _ => by rw [hO3 q (by omega)]) (fun m g1 g2 g3 _ => hO3 m g3)
      have h03 : v3 q 0 = nI 0 := by rw [hO3 q (by omega)]; exact h02
      have hF3 := hF2.tr (hO3.ow (q := q) (w := 8) (by omega) (by omega))
      refine P_iret dX7_leave_52 rfl ?_
      exact qr_ret ((if_neg (gt_f hm9)).trans ((if_neg (by rw [nn (by omega)]; exact fun q9 => of_decide_eq_false c24 ⟨hmk, q9⟩)).trans (by rw [nn (by omega)]; rfl))) h03 hT3 hF3
    · refine P_iconst (v := nI 2) dX7_leave_27 (by decide) ?_
      refine P_goto (tgt := 32) dX7_leave_28 (by decide) ?_
      refine P_cVs (rest := []) (As := [.int (nI (2))]) dX7_leave_32 lX7_129 yk_X7_refused yv_X7_refused kX7 rfl (by decide) hq.o rfl rfl (Nat.le_of_ble_eq_true rfl) rfl (c_X7_refused (k := 2) hq (by decide)) (fun v9 e9 => ?_)
      subst e9
      refine P_top (y := vb true) rfl ?_
      refine P_bif_eq (tgt := 40) dX7_leave_35 (by decide) (fun q9 => Bool.noConfusion q9) (fun _ => ?_)
      refine P_iconst (v := nI 0) dX7_leave_38 (by decide) ?_
      refine P_iret dX7_leave_39 rfl ?_
      exact qr_thr hT ((if_neg (gt_f hm9)).trans (if_pos (by rw [nn (by omega)]; exact (of_decide_eq_true c24).2)))
  · refine P_iconst (v := nI 1) dX7_leave_12 (by decide) ?_
    refine P_goto (tgt := 32) dX7_leave_13 (by decide) ?_
    refine P_cVs (rest := []) (As := [.int (nI (1))]) dX7_leave_32 lX7_129 yk_X7_refused yv_X7_refused kX7 rfl (by decide) hq.o rfl rfl (Nat.le_of_ble_eq_true rfl) rfl (c_X7_refused (k := 1) hq (by decide)) (fun v9 e9 => ?_)
    subst e9
    refine P_top (y := vb true) rfl ?_
    refine P_bif_eq (tgt := 40) dX7_leave_35 (by decide) (fun q9 => Bool.noConfusion q9) (fun _ => ?_)
    refine P_iconst (v := nI 0) dX7_leave_38 (by decide) ?_
    refine P_iret dX7_leave_39 rfl ?_
    exact qr_thr hT (if_pos c9)
set_option maxHeartbeats 4000000 in
set_option maxRecDepth 100000 in
theorem c_X7_back {σ : vS} {v : vV} {c q n : Nat} {S : mS} {t : mN} {D : List mC} {sl : Nat → Option mC} {m : Int32} (hq : LR σ q) (hT : RT v q ((t, n), (c, S), D, sl)) {B : Nat} (hG : GI B ((t, n), (c, S), D, sl)) (hB : B + 6000000 < 1000000000) : vC M_X7_back yX7_back [.ref (q), .int (m)] (σ, v) (qR σ v q (g_back ((t, n), (c, S), D, sl) m)) := by
  have hR : RR c v (q + 2) S := hT.r
  have hN : NB c S B := hG.1.1
  have hI : Iv c 1 S := hG.1.2
  have hc6 := hR.c6
  have htx : mTX v q t n := hT.tx
  have hlt : D.length ≤ 14 := hT.l
  refine vC_of (ls := [some (.ref (q)), some (.int (m))]) pn_X7 rfl rfl (Nat.le_of_ble_eq_true rfl) rfl ?_
  refine P_aload_n dX7_back_0 rfl rfl ?_
  refine P_aload_n dX7_back_1 rfl rfl ?_
  refine P_getr (t := q + 2) dX7_back_2 kX7 fX7_13 rfl (by decide) hq.o hq.r2 hq.k2.1.2 ?_
  refine P_iload_n dX7_back_5 rfl rfl ?_
  refine P_cSp (rest := [.ref (q)]) (As := [.ref (q + 2), .int (m)]) dX7_back_6 lX7_112 yk_X7_isMember ys_X7_isMember (by decide) rfl rfl (Nat.le_of_ble_eq_true rfl) rfl (c_X7_isMember hq.k2 hR) ?_
  refine P_bif_ne (tgt := 16) dX7_back_9 (by decide) (fun c9 => ?_) (fun c9 => ?_)
  · have hm9 := c9
    obtain ⟨mk, hmk, rfl⟩ := mb_nat hc6 c9
    refine P_aload_n dX7_back_16 rfl rfl ?_
    refine P_getr (t := q + 2) dX7_back_17 kX7 fX7_13 rfl (by decide) hq.o hq.r2 hq.k2.1.2 ?_
    refine P_iload_n dX7_back_20 rfl rfl ?_
    refine P_cSp (rest := [.ref (q)]) (As := [.ref (q + 2), .int (nI (mk))]) dX7_back_21 lX7_169 yk_X7_isGone ys_X7_isGone (by decide) rfl rfl (Nat.le_of_ble_eq_true rfl) rfl (c_X7_isGone hq.k2 hR hN) ?_
    refine P_top (y := vb (decide (mk < c ∧ gM S mk 1 = 2))) (by rw [mgone_k hc6 (by omega)]) ?_
    refine P_bif_eq (tgt := 31) dX7_back_24 (by decide) (fun c24 => ?_) (fun c24 => ?_)
    · refine P_iconst (v := nI 2) dX7_back_31 (by decide) ?_
      refine P_cVs (rest := []) (As := [.int (nI (2))]) dX7_back_32 lX7_129 yk_X7_refused yv_X7_refused kX7 rfl (by decide) hq.o rfl rfl (Nat.le_of_ble_eq_true rfl) rfl (c_X7_refused (k := 2) hq (by decide)) (fun v9 e9 => ?_)
      subst e9
      refine P_top (y := vb true) rfl ?_
      refine P_bif_eq (tgt := 40) dX7_back_35 (by decide) (fun q9 => Bool.noConfusion q9) (fun _ => ?_)
      refine P_iconst (v := nI 0) dX7_back_38 (by decide) ?_
      refine P_iret dX7_back_39 rfl ?_
      exact qr_thr hT ((if_neg (gt_f hm9)).trans (if_pos (by rw [nn (by omega)]; exact fun q9 => of_decide_eq_false c24 ⟨hmk, q9⟩)))
    · refine P_iconst (v := nI 0) dX7_back_27 (by decide) ?_
      refine P_goto (tgt := 32) dX7_back_28 (by decide) ?_
      refine P_cVs (rest := []) (As := [.int (nI (0))]) dX7_back_32 lX7_129 yk_X7_refused yv_X7_refused kX7 rfl (by decide) hq.o rfl rfl (Nat.le_of_ble_eq_true rfl) rfl (c_X7_refused (k := 0) hq (by decide)) (fun v1 e1 => ?_)
      obtain ⟨hT1, h01, hF1⟩ : RT v1 q ((t, n), (c, S), D, sl) ∧ v1 q 0 = nI 0 ∧ vOw v v1 q 8 := by subst e1; exact ⟨hT.ref, vU_s, vOw.rf.u (by omega) (by omega)⟩
      have hR1 : RR c v1 (q + 2) S := hT1.r
      clear e1
      refine P_top (y := vb false) rfl ?_
      refine P_bif_eq (tgt := 40) dX7_back_35 (by decide) (fun _ => ?_) (fun q9 => Bool.noConfusion q9)
      refine P_aload_n dX7_back_40 rfl rfl ?_
      refine P_cVs (rest := []) (As := []) dX7_back_41 lX7_205 yk_X7_remember yv_X7_remember kX7 rfl (by decide) hq.o rfl rfl (Nat.le_of_ble_eq_true rfl) rfl (c_X7_remember hq hT1) (fun v2 ⟨hT2, e2, hw2⟩ => ?_)
      have h02 : v2 q 0 = nI 0 := e2.trans h01
      have hF2 := hF1.tr hw2
      have hR2 : RR c v2 (q + 2) S := hT2.r
      refine P_aload_n dX7_back_44 rfl rfl ?_
      refine P_getr (t := q + 2) dX7_back_45 kX7 fX7_13 rfl (by decide) hq.o hq.r2 hq.k2.1.2 ?_
      refine P_iload_n dX7_back_48 rfl rfl ?_
      refine P_cSs (rest := []) (As := [.ref (q + 2), .int (nI (mk))]) dX7_back_49 lX7_175 yk_X7_backOn ys_X7_backOn (by decide) rfl rfl (Nat.le_of_ble_eq_true rfl) rfl (c_X7_backOn hq.k2 hR2 hmk) (fun v3 ⟨hR3, hO3⟩ => ?_)
      have hT3 := hT2.now (X := (c, mback S mk)) hR3 (fun j _ _ _ => by rw [hO3 q (by omega)]) (fun m g1 g2 g3 _ => hO3 m g3)
      have h03 : v3 q 0 = nI 0 := by rw [hO3 q (by omega)]; exact h02
      have hF3 := hF2.tr (hO3.ow (q := q) (w := 8) (by omega) (by omega))
      refine P_iret dX7_back_52 rfl ?_
      exact qr_ret ((if_neg (gt_f hm9)).trans ((if_neg (by rw [nn (by omega)]; exact fun q9 => q9 (of_decide_eq_true c24).2)).trans (by rw [nn (by omega)]; rfl))) h03 hT3 hF3
  · refine P_iconst (v := nI 1) dX7_back_12 (by decide) ?_
    refine P_goto (tgt := 32) dX7_back_13 (by decide) ?_
    refine P_cVs (rest := []) (As := [.int (nI (1))]) dX7_back_32 lX7_129 yk_X7_refused yv_X7_refused kX7 rfl (by decide) hq.o rfl rfl (Nat.le_of_ble_eq_true rfl) rfl (c_X7_refused (k := 1) hq (by decide)) (fun v9 e9 => ?_)
    subst e9
    refine P_top (y := vb true) rfl ?_
    refine P_bif_eq (tgt := 40) dX7_back_35 (by decide) (fun q9 => Bool.noConfusion q9) (fun _ => ?_)
    refine P_iconst (v := nI 0) dX7_back_38 (by decide) ?_
    refine P_iret dX7_back_39 rfl ?_
    exact qr_thr hT (if_pos c9)
set_option maxHeartbeats 4000000 in
set_option maxRecDepth 100000 in
theorem c_X7_set {σ : vS} {v : vV} {c q n : Nat} {S : mS} {t : mN} {D : List mC} {sl : Nat → Option mC} {a : Int32} (hq : LR σ q) (hT : RT v q ((t, n), (c, S), D, sl)) {B : Nat} (hG : GI B ((t, n), (c, S), D, sl)) (hB : B + 6000000 < 1000000000) : vC M_X7_set yX7_set [.ref (q), .int (a)] (σ, v) (qR σ v q (g_set ((t, n), (c, S), D, sl) a)) := by
  have hR : RR c v (q + 2) S := hT.r
  have hN : NB c S B := hG.1.1
  have hI : Iv c 1 S := hG.1.2
  have hc6 := hR.c6
  have htx : mTX v q t n := hT.tx
  have hlt : D.length ≤ 14 := hT.l
  refine vC_of (ls := [some (.ref (q)), some (.int (a)), none]) pn_X7 rfl rfl (Nat.le_of_ble_eq_true rfl) rfl ?_
  refine P_aload_n dX7_set_0 rfl rfl ?_
  refine P_iload_n dX7_set_1 rfl rfl ?_
  refine P_i2l dX7_set_2 ?_
  refine P_lconst (v := 0) dX7_set_3 (by decide) ?_
  refine P_ldc2_w dX7_set_4 cX7_208 ?_
  refine P_cSp (rest := [.ref (q)]) (As := [.long ((a).toInt64), .long ((0)), .long ((40))]) dX7_set_7 lX7_40 yk_X7_in ys_X7_in (by decide) rfl rfl (Nat.le_of_ble_eq_true rfl) rfl (c_X7_in _ _ _) ?_
  refine P_top (y := vb (gin a 0 40)) (congrArg vb (in_gin (by decide) (by decide))) ?_
  refine P_bif_eq (tgt := 17) dX7_set_10 (by decide) (fun c10 => ?_) (fun c10 => ?_)
  · refine P_iconst (v := nI 1) dX7_set_17 (by decide) ?_
    refine P_cVs (rest := []) (As := [.int (nI (1))]) dX7_set_18 lX7_129 yk_X7_refused yv_X7_refused kX7 rfl (by decide) hq.o rfl rfl (Nat.le_of_ble_eq_true rfl) rfl (c_X7_refused (k := 1) hq (by decide)) (fun v9 e9 => ?_)
    subst e9
    refine P_top (y := vb true) rfl ?_
    refine P_bif_eq (tgt := 26) dX7_set_21 (by decide) (fun q9 => Bool.noConfusion q9) (fun _ => ?_)
    refine P_iconst (v := nI 0) dX7_set_24 (by decide) ?_
    refine P_iret dX7_set_25 rfl ?_
    exact qr_thr hT (if_pos c10)
  · refine P_iconst (v := nI 0) dX7_set_13 (by decide) ?_
    refine P_goto (tgt := 18) dX7_set_14 (by decide) ?_
    refine P_cVs (rest := []) (As := [.int (nI (0))]) dX7_set_18 lX7_129 yk_X7_refused yv_X7_refused kX7 rfl (by decide) hq.o rfl rfl (Nat.le_of_ble_eq_true rfl) rfl (c_X7_refused (k := 0) hq (by decide)) (fun v1 e1 => ?_)
    obtain ⟨hT1, h01, hF1⟩ : RT v1 q ((t, n), (c, S), D, sl) ∧ v1 q 0 = nI 0 ∧ vOw v v1 q 8 := by subst e1; exact ⟨hT.ref, vU_s, vOw.rf.u (by omega) (by omega)⟩
    have hR1 : RR c v1 (q + 2) S := hT1.r
    clear e1
    refine P_top (y := vb false) rfl ?_
    refine P_bif_eq (tgt := 26) dX7_set_21 (by decide) (fun _ => ?_) (fun q9 => Bool.noConfusion q9)
    have hgi9 := c10
    obtain ⟨ak, ak0, ak1, rfl⟩ := gin_n (lo := 0) (hi := 40) (by decide) c10
    refine P_aload_n dX7_set_26 rfl rfl ?_
    refine P_cVs (rest := []) (As := []) dX7_set_27 lX7_205 yk_X7_remember yv_X7_remember kX7 rfl (by decide) hq.o rfl rfl (Nat.le_of_ble_eq_true rfl) rfl (c_X7_remember hq hT1) (fun v2 ⟨hT2, e2, hw2⟩ => ?_)
    have h02 : v2 q 0 = nI 0 := e2.trans h01
    have hF2 := hF1.tr hw2
    have hR2 : RR c v2 (q + 2) S := hT2.r
    refine P_aload_n dX7_set_30 rfl rfl ?_
    refine P_getr (t := q + 2) dX7_set_31 kX7 fX7_13 rfl (by decide) hq.o hq.r2 hq.k2.1.2 ?_
    refine P_bipush (v := nI 7) dX7_set_34 (by decide) ?_
    refine P_ialdN (x := nI (gG S 7)) (7) dX7_set_36 hq.k2 rfl (by omega) (by decide) (hR2.g (by decide) (by decide)) ?_
    refine P_istore_n (ls2 := [some (.ref (q)), some (.int (nI (ak))), some (.int (nI (gG S 7)))]) dX7_set_37 rfl (by decide) rfl ?_
    refine P_aload_n dX7_set_38 rfl rfl ?_
    refine P_getr (t := q + 2) dX7_set_39 kX7 fX7_13 rfl (by decide) hq.o hq.r2 hq.k2.1.2 ?_
    refine P_bipush (v := nI 7) dX7_set_42 (by decide) ?_
    refine P_iload_n dX7_set_44 rfl rfl ?_
    refine P_iast (7) dX7_set_45 hq.k2 rfl (by omega) (by decide) ?_
    have hR3 : RR c (vU v2 (q + 2) 7 (nI ak)) (q + 2) (sG S 7 ak) := hR2.G (by decide) (by decide) (by decide)
    have hT3 := hT2.now (X := (c, sG S 7 ak)) hR3 (fun j _ _ _ => by rw [vU_ne (by omega)]) (fun m g1 g2 g3 _ => vU_ne g3)
    have h03 : vU v2 (q + 2) 7 (nI ak) q 0 = nI 0 := (vU_o (by omega)).trans h02
    have hF3 := hF2.u (n := q + 2) (k := 7) (x := nI ak) (by omega) (by omega)
    refine P_iload_n dX7_set_46 rfl rfl ?_
    refine P_iret dX7_set_47 rfl ?_
    exact qr_ret ((if_neg (gt_f hgi9)).trans (by rw [nn (by omega)]; rfl)) h03 hT3 hF3
set_option maxHeartbeats 4000000 in
set_option maxRecDepth 100000 in
theorem c_X7_ticks {σ : vS} {v : vV} {c q n : Nat} {S : mS} {t : mN} {D : List mC} {sl : Nat → Option mC} {a : Int32} (hq : LR σ q) (hT : RT v q ((t, n), (c, S), D, sl)) {B : Nat} (hG : GI B ((t, n), (c, S), D, sl)) (hB : B + 6000000 < 1000000000) : vC M_X7_ticks yX7_ticks [.ref (q), .int (a)] (σ, v) (qR σ v q (g_ticks ((t, n), (c, S), D, sl) a)) := by
  have hR : RR c v (q + 2) S := hT.r
  have hN : NB c S B := hG.1.1
  have hI : Iv c 1 S := hG.1.2
  have hc6 := hR.c6
  have htx : mTX v q t n := hT.tx
  have hlt : D.length ≤ 14 := hT.l
  refine vC_of (ls := [some (.ref (q)), some (.int (a))]) pn_X7 rfl rfl (Nat.le_of_ble_eq_true rfl) rfl ?_
  refine P_aload_n dX7_ticks_0 rfl rfl ?_
  refine P_iload_n dX7_ticks_1 rfl rfl ?_
  refine P_i2l dX7_ticks_2 ?_
  refine P_lconst (v := 1) dX7_ticks_3 (by decide) ?_
  refine P_ldc2_w dX7_ticks_4 cX7_210 ?_
  refine P_cSp (rest := [.ref (q)]) (As := [.long ((a).toInt64), .long ((1)), .long ((60))]) dX7_ticks_7 lX7_40 yk_X7_in ys_X7_in (by decide) rfl rfl (Nat.le_of_ble_eq_true rfl) rfl (c_X7_in _ _ _) ?_
  refine P_top (y := vb (gin a 1 60)) (congrArg vb (in_gin (by decide) (by decide))) ?_
  refine P_bif_eq (tgt := 17) dX7_ticks_10 (by decide) (fun c10 => ?_) (fun c10 => ?_)
  · refine P_iconst (v := nI 1) dX7_ticks_17 (by decide) ?_
    refine P_cVs (rest := []) (As := [.int (nI (1))]) dX7_ticks_18 lX7_129 yk_X7_refused yv_X7_refused kX7 rfl (by decide) hq.o rfl rfl (Nat.le_of_ble_eq_true rfl) rfl (c_X7_refused (k := 1) hq (by decide)) (fun v9 e9 => ?_)
    subst e9
    refine P_top (y := vb true) rfl ?_
    refine P_bif_eq (tgt := 26) dX7_ticks_21 (by decide) (fun q9 => Bool.noConfusion q9) (fun _ => ?_)
    refine P_iconst (v := nI 0) dX7_ticks_24 (by decide) ?_
    refine P_iret dX7_ticks_25 rfl ?_
    exact qr_thr hT (if_pos c10)
  · refine P_iconst (v := nI 0) dX7_ticks_13 (by decide) ?_
    refine P_goto (tgt := 18) dX7_ticks_14 (by decide) ?_
    refine P_cVs (rest := []) (As := [.int (nI (0))]) dX7_ticks_18 lX7_129 yk_X7_refused yv_X7_refused kX7 rfl (by decide) hq.o rfl rfl (Nat.le_of_ble_eq_true rfl) rfl (c_X7_refused (k := 0) hq (by decide)) (fun v1 e1 => ?_)
    obtain ⟨hT1, h01, hF1⟩ : RT v1 q ((t, n), (c, S), D, sl) ∧ v1 q 0 = nI 0 ∧ vOw v v1 q 8 := by subst e1; exact ⟨hT.ref, vU_s, vOw.rf.u (by omega) (by omega)⟩
    have hR1 : RR c v1 (q + 2) S := hT1.r
    clear e1
    refine P_top (y := vb false) rfl ?_
    refine P_bif_eq (tgt := 26) dX7_ticks_21 (by decide) (fun _ => ?_) (fun q9 => Bool.noConfusion q9)
    have hgi9 := c10
    obtain ⟨ak, ak0, ak1, rfl⟩ := gin_n (lo := 1) (hi := 60) (by decide) c10
    refine P_aload_n dX7_ticks_26 rfl rfl ?_
    refine P_cVs (rest := []) (As := []) dX7_ticks_27 lX7_205 yk_X7_remember yv_X7_remember kX7 rfl (by decide) hq.o rfl rfl (Nat.le_of_ble_eq_true rfl) rfl (c_X7_remember hq hT1) (fun v2 ⟨hT2, e2, hw2⟩ => ?_)
    have h02 : v2 q 0 = nI 0 := e2.trans h01
    have hF2 := hF1.tr hw2
    have hR2 : RR c v2 (q + 2) S := hT2.r
    refine P_aload_n dX7_ticks_30 rfl rfl ?_
    refine P_aload_n dX7_ticks_31 rfl rfl ?_
    refine P_getr (t := q + 2) dX7_ticks_32 kX7 fX7_13 rfl (by decide) hq.o hq.r2 hq.k2.1.2 ?_
    refine P_iload_n dX7_ticks_35 rfl rfl ?_
    refine P_cVs (rest := []) (As := [.ref (q + 2), .int (nI (ak))]) dX7_ticks_36 lX7_178 yk_X7_ticksOn yv_X7_ticksOn kX7 rfl (by decide) hq.o rfl rfl (Nat.le_of_ble_eq_true rfl) rfl (c_X7_ticksOn hq hq.k2 hR2 (by omega) hN (by omega) hI (by omega)) (fun v3 ⟨hR3, hO3⟩ => ?_)
    have hT3 := hT2.now (X := (c, mticks ak S)) hR3 (fun j _ _ _ => by rw [hO3 q (by omega) (by omega)]) (fun m g1 g2 g3 _ => hO3 m g3 (by omega))
    have h03 : v3 q 0 = nI 0 := by rw [hO3 q (by omega) (by omega)]; exact h02
    have hF3 := hF2.tr (hO3.ow (q := q) (w := 8) (by omega) (by omega) (by omega) (by omega))
    refine P_iret dX7_ticks_39 rfl ?_
    exact qr_ret ((if_neg (gt_f hgi9)).trans (by rw [nn (by omega)]; rfl)) h03 hT3 hF3
set_option maxHeartbeats 4000000 in
set_option maxRecDepth 100000 in
theorem c_X7_compare {σ : vS} {v : vV} {c q n : Nat} {S : mS} {t : mN} {D : List mC} {sl : Nat → Option mC} {a d w : Int32} (hq : LR σ q) (hT : RT v q ((t, n), (c, S), D, sl)) {B : Nat} (hG : GI B ((t, n), (c, S), D, sl)) (hB : B + 6000000 < 1000000000) : vC M_X7_compare yX7_compare [.ref (q), .int (a), .int (d), .int (w)] (σ, v) (qR σ v q (g_compare ((t, n), (c, S), D, sl) a d w)) := by
  have hR : RR c v (q + 2) S := hT.r
  have hN : NB c S B := hG.1.1
  have hI : Iv c 1 S := hG.1.2
  have hc6 := hR.c6
  have htx : mTX v q t n := hT.tx
  have hlt : D.length ≤ 14 := hT.l
  refine vC_of (ls := [some (.ref (q)), some (.int (a)), some (.int (d)), some (.int (w))]) pn_X7 rfl rfl (Nat.le_of_ble_eq_true rfl) rfl ?_
  refine P_aload_n dX7_compare_0 rfl rfl ?_
  refine P_aload_n dX7_compare_1 rfl rfl ?_
  refine P_getr (t := q + 2) dX7_compare_2 kX7 fX7_13 rfl (by decide) hq.o hq.r2 hq.k2.1.2 ?_
  refine P_iload_n dX7_compare_5 rfl rfl ?_
  refine P_cSp (rest := [.ref (q)]) (As := [.ref (q + 2), .int (a)]) dX7_compare_6 lX7_112 yk_X7_isMember ys_X7_isMember (by decide) rfl rfl (Nat.le_of_ble_eq_true rfl) rfl (c_X7_isMember hq.k2 hR) ?_
  refine P_bif_eq (tgt := 23) dX7_compare_9 (by decide) (fun c9 => ?_) (fun c9 => ?_)
  · refine P_iconst (v := nI 1) dX7_compare_23 (by decide) ?_
    refine P_goto (tgt := 42) dX7_compare_24 (by decide) ?_
    refine P_cVs (rest := []) (As := [.int (nI (1))]) dX7_compare_42 lX7_129 yk_X7_refused yv_X7_refused kX7 rfl (by decide) hq.o rfl rfl (Nat.le_of_ble_eq_true rfl) rfl (c_X7_refused (k := 1) hq (by decide)) (fun v9 e9 => ?_)
    subst e9
    refine P_top (y := vb true) rfl ?_
    refine P_bif_eq (tgt := 50) dX7_compare_45 (by decide) (fun q9 => Bool.noConfusion q9) (fun _ => ?_)
    refine P_iconst (v := nI 0) dX7_compare_48 (by decide) ?_
    refine P_iret dX7_compare_49 rfl ?_
    exact qr_thr hT (if_pos (by rw [c9]; rfl))
  · refine P_aload_n dX7_compare_12 rfl rfl ?_
    refine P_getr (t := q + 2) dX7_compare_13 kX7 fX7_13 rfl (by decide) hq.o hq.r2 hq.k2.1.2 ?_
    refine P_iload_n dX7_compare_16 rfl rfl ?_
    refine P_cSp (rest := [.ref (q)]) (As := [.ref (q + 2), .int (d)]) dX7_compare_17 lX7_112 yk_X7_isMember ys_X7_isMember (by decide) rfl rfl (Nat.le_of_ble_eq_true rfl) rfl (c_X7_isMember hq.k2 hR) ?_
    refine P_bif_ne (tgt := 27) dX7_compare_20 (by decide) (fun c20 => ?_) (fun c20 => ?_)
    · refine P_iload_n dX7_compare_27 rfl rfl ?_
      refine P_i2l dX7_compare_28 ?_
      refine P_lconst (v := 0) dX7_compare_29 (by decide) ?_
      refine P_lconst (v := 1) dX7_compare_30 (by decide) ?_
      refine P_cSp (rest := [.ref (q)]) (As := [.long ((w).toInt64), .long ((0)), .long ((1))]) dX7_compare_31 lX7_40 yk_X7_in ys_X7_in (by decide) rfl rfl (Nat.le_of_ble_eq_true rfl) rfl (c_X7_in _ _ _) ?_
      refine P_top (y := vb (gin w 0 1)) (congrArg vb (in_gin (by decide) (by decide))) ?_
      refine P_bif_eq (tgt := 41) dX7_compare_34 (by decide) (fun c34 => ?_) (fun c34 => ?_)
      · refine P_iconst (v := nI 2) dX7_compare_41 (by decide) ?_
        refine P_cVs (rest := []) (As := [.int (nI (2))]) dX7_compare_42 lX7_129 yk_X7_refused yv_X7_refused kX7 rfl (by decide) hq.o rfl rfl (Nat.le_of_ble_eq_true rfl) rfl (c_X7_refused (k := 2) hq (by decide)) (fun v9 e9 => ?_)
        subst e9
        refine P_top (y := vb true) rfl ?_
        refine P_bif_eq (tgt := 50) dX7_compare_45 (by decide) (fun q9 => Bool.noConfusion q9) (fun _ => ?_)
        refine P_iconst (v := nI 0) dX7_compare_48 (by decide) ?_
        refine P_iret dX7_compare_49 rfl ?_
        exact qr_thr hT ((if_neg (gt_f (by rw [c9, c20]; rfl))).trans (if_pos c34))
      · refine P_iconst (v := nI 0) dX7_compare_37 (by decide) ?_
        refine P_goto (tgt := 42) dX7_compare_38 (by decide) ?_
        refine P_cVs (rest := []) (As := [.int (nI (0))]) dX7_compare_42 lX7_129 yk_X7_refused yv_X7_refused kX7 rfl (by decide) hq.o rfl rfl (Nat.le_of_ble_eq_true rfl) rfl (c_X7_refused (k := 0) hq (by decide)) (fun v1 e1 => ?_)
        obtain ⟨hT1, h01, hF1⟩ : RT v1 q ((t, n), (c, S), D, sl) ∧ v1 q 0 = nI 0 ∧ vOw v v1 q 8 := by subst e1; exact ⟨hT.ref, vU_s, vOw.rf.u (by omega) (by omega)⟩
        have hR1 : RR c v1 (q + 2) S := hT1.r
        clear e1
        refine P_top (y := vb false) rfl ?_
        refine P_bif_eq (tgt := 50) dX7_compare_45 (by decide) (fun _ => ?_) (fun q9 => Bool.noConfusion q9)
        have hgi9 := c34
        have ha9 := c9
        have hd9 := c20
        obtain ⟨ak, hak, rfl⟩ := mb_nat hc6 c9
        obtain ⟨dk, hdk, rfl⟩ := mb_nat hc6 c20
        obtain ⟨wk, wk0, wk1, rfl⟩ := gin_n (lo := 0) (hi := 1) (by decide) c34
        refine P_aload_n dX7_compare_50 rfl rfl ?_
        refine P_getr (t := q + 2) dX7_compare_51 kX7 fX7_13 rfl (by decide) hq.o hq.r2 hq.k2.1.2 ?_
        refine P_iload_n dX7_compare_54 rfl rfl ?_
        refine P_iload_n dX7_compare_55 rfl rfl ?_
        refine P_iload_n dX7_compare_56 rfl rfl ?_
        refine P_cSp (rest := []) (As := [.ref (q + 2), .int (nI (ak)), .int (nI (dk)), .int (nI (wk))]) dX7_compare_57 lX7_219 yk_X7_compared ys_X7_compared (by decide) rfl rfl (Nat.le_of_ble_eq_true rfl) rfl (c_X7_compared hq.k2 hR1 hN (by omega) hak hdk (by omega)) ?_
        refine P_iret dX7_compare_60 rfl ?_
        exact qr_ret ((if_neg (gt_f (by rw [ha9, hd9]; rfl))).trans ((if_neg (gt_f hgi9)).trans (by rw [nn (by omega), nn (by omega), nn (by omega)]))) h01 hT1 hF1
    · refine P_iconst (v := nI 1) dX7_compare_23 (by decide) ?_
      refine P_goto (tgt := 42) dX7_compare_24 (by decide) ?_
      refine P_cVs (rest := []) (As := [.int (nI (1))]) dX7_compare_42 lX7_129 yk_X7_refused yv_X7_refused kX7 rfl (by decide) hq.o rfl rfl (Nat.le_of_ble_eq_true rfl) rfl (c_X7_refused (k := 1) hq (by decide)) (fun v9 e9 => ?_)
      subst e9
      refine P_top (y := vb true) rfl ?_
      refine P_bif_eq (tgt := 50) dX7_compare_45 (by decide) (fun q9 => Bool.noConfusion q9) (fun _ => ?_)
      refine P_iconst (v := nI 0) dX7_compare_48 (by decide) ?_
      refine P_iret dX7_compare_49 rfl ?_
      exact qr_thr hT (if_pos (by rw [c9, c20]; rfl))
