
theorem RT.slots {v v' : vV} {q : Nat} {T : gT} {sl : Nat → Option mC} (h : RT v q T) (e0 : ∀ j, j = 2 ∨ j = 6 → v' q j = v q j) (e : ∀ m, q + 1 ≤ m → m < q + 5 → m ≠ q + 3 → v' m = v m) (hs : ∀ i, i < 2 → v' (q + 6) i = vb (sl i).isSome ∧ ∀ Y, sl i = some Y → RD v' (q + 5) i Y) : RT v' q (T.1, T.2.1, T.2.2.1, sl) :=
  ⟨h.tx.of (e0 2 (Or.inl rfl)) (fun i => by rw [e (q + 1) (by omega) (by omega) (by omega)]), h.r.sh (fun i _ => by rw [e (q + 2) (by omega) (by omega) (by omega)]), ⟨h.l, (e0 6 (Or.inr rfl)).trans h.a, fun j Y hj => (h.d hj).of (e (q + 4) (by omega) (by omega) (by omega))⟩, hs⟩
/-- the club that is tried is another -/
theorem RT.trial {v v' : vV} {q : Nat} {T : gT} (h : RT v q T) (e : vO4 v v' (q + 3) q) (e0 : v' q = v q) : RT v' q T := h.of (fun j _ _ _ => by rw [e0]) (fun m a b d => e.1 m d (by omega) (by omega))
theorem mbest_s {c k : Nat} {S : mS} (h : mbits (mbest c S k) 24 < mbits (mgrp S k c) 24) : mbest c S (k + 1) = mgrp S k c := by rw [mbest, if_pos h]
theorem mbest_k {c k : Nat} {S : mS} (h : ¬ mbits (mbest c S k) 24 < mbits (mgrp S k c) 24) : mbest c S (k + 1) = mbest c S k := by rw [mbest, if_neg h]
set_option maxHeartbeats 4000000 in
set_option maxRecDepth 100000 in
theorem c_X7_undo {σ : vS} {v : vV} {c q n : Nat} {S : mS} {t : mN} {D : List mC} {sl : Nat → Option mC} (hq : LR σ q) (hT : RT v q ((t, n), (c, S), D, sl)) {B : Nat} (hG : GI B ((t, n), (c, S), D, sl)) (hB : B + 6000000 < 1000000000) : vC M_X7_undo yX7_undo [.ref (q)] (σ, v) (qR σ v q (g_undo ((t, n), (c, S), D, sl))) := by
  have hR : RR c v (q + 2) S := hT.r
  have hN : NB c S B := hG.1.1
  have hI : Iv c 1 S := hG.1.2
  have hc6 := hR.c6
  have htx : mTX v q t n := hT.tx
  have hlt : D.length ≤ 14 := hT.l
  refine vC_of (ls := [some (.ref (q))]) pn_X7 rfl rfl (Nat.le_of_ble_eq_true rfl) rfl ?_
  refine P_aload_n dX7_undo_0 rfl rfl ?_
  refine P_aload_n dX7_undo_1 rfl rfl ?_
  refine P_getiN (x := nI (D.length)) dX7_undo_2 kX7 fX7_193 rfl (by decide) hq.o hT.a ?_
  refine P_if_neN (tgt := 12) dX7_undo_5 (by decide) (by omega) (fun c5 => ?_) (fun c5 => ?_)
  · refine P_iconst (v := nI 0) dX7_undo_12 (by decide) ?_
    refine P_cVs (rest := []) (As := [.int (nI (0))]) dX7_undo_13 lX7_129 yk_X7_refused yv_X7_refused kX7 rfl (by decide) hq.o rfl rfl (Nat.le_of_ble_eq_true rfl) rfl (c_X7_refused (k := 0) hq (by decide)) (fun v1 e1 => ?_)
    obtain ⟨hT1, h01, hF1⟩ : RT v1 q ((t, n), (c, S), D, sl) ∧ v1 q 0 = nI 0 ∧ vOw v v1 q 8 := by subst e1; exact ⟨hT.ref, vU_s, vOw.rf.u (by omega) (by omega)⟩
    have hR1 : RR c v1 (q + 2) S := hT1.r
    clear e1
    refine P_top (y := vb false) rfl ?_
    refine P_bif_eq (tgt := 21) dX7_undo_16 (by decide) (fun _ => ?_) (fun q9 => Bool.noConfusion q9)
    obtain ⟨D0, Y, rfl⟩ := last_of (l := D) (by omega)
    have hl1 : (D0 ++ [Y]).length = D0.length + 1 := by rw [List.length_append]; rfl
    have hl2 : D0.length + 1 ≤ 14 := by rw [← hl1]; exact hT.l
    refine P_aload_n dX7_undo_21 rfl rfl ?_
    refine P_dup dX7_undo_22 rfl ?_
    refine P_getiN (x := nI (D0.length + 1)) dX7_undo_23 kX7 fX7_193 rfl (by decide) hq.o (by rw [hT1.a, hl1]) ?_
    refine P_iconst (v := nI 1) dX7_undo_26 (by decide) ?_
    refine P_isubN dX7_undo_27 (by omega) ?_
    refine P_puti dX7_undo_28 kX7 fX7_193 rfl (by decide) rfl hq.o ?_
    generalize hv2 : vU v1 q 6 (nI (D0.length + 1 - 1)) = v2
    have h26 : v2 q 6 = nI D0.length := by rw [← hv2, Nat.add_sub_cancel]; exact vU_s
    have hT2 := hT1.diary (v' := v2) (D := D0) (by omega) h26 (fun j Z hj => (hT1.d (j := j) (by rw [List.getElem?_append_left (List.getElem?_eq_some_iff.mp hj).1]; exact hj)).of (by rw [← hv2]; exact vU_ne (by omega))) (by rw [← hv2]; exact vU_o (by omega)) (fun m g1 g2 g3 => by rw [← hv2]; exact vU_ne (by omega))
    have h02 : v2 q 0 = nI 0 := by rw [← hv2]; exact (vU_o (by omega)).trans h01
    have hF2 : vOw v v2 q 8 := by rw [← hv2]; exact hF1.u (by omega) (by omega)
    have hY2 : RD v2 (q + 4) D0.length Y := (hT1.d (j := D0.length) (by rw [List.getElem?_append_right (Nat.le_refl _), Nat.sub_self]; rfl)).of (by rw [← hv2]; exact vU_ne (by omega))
    refine P_aload_n dX7_undo_31 rfl rfl ?_
    refine P_getr (t := q + 4) dX7_undo_32 kX7 fX7_19 rfl (by decide) hq.o hq.r4 hq.k4.1.2 ?_
    refine P_sipush (v := nI 2012) dX7_undo_35 (by decide) ?_
    refine P_aload_n dX7_undo_38 rfl rfl ?_
    refine P_getiN (x := nI (D0.length)) dX7_undo_39 kX7 fX7_193 rfl (by decide) hq.o h26 ?_
    refine P_imulN dX7_undo_42 ?_
    refine P_aload_n dX7_undo_43 rfl rfl ?_
    refine P_getr (t := q + 2) dX7_undo_44 kX7 fX7_13 rfl (by decide) hq.o hq.r2 hq.k2.1.2 ?_
    refine P_iconst (v := nI 0) dX7_undo_47 (by decide) ?_
    refine P_cSs (rest := []) (As := [.ref (q + 4), .int (nI (2012 * D0.length)), .ref (q + 2), .int (nI (0))]) dX7_undo_48 lX7_189 yk_X7_copyState ys_X7_copyState (by decide) rfl rfl (Nat.le_of_ble_eq_true rfl) rfl (c_X7_copyState (fa := 2012 * D0.length) (ta := 0) hq.k4 hq.k2 (by omega) (by omega) (by omega) (by decide) (by decide)) (fun v3 ⟨hO3, hs3⟩ => ?_)
    have hR3 : RR Y.1 v3 (q + 2) Y.2 := hY2.sh (fun i hi => by show v3 (q + 2) i = v2 (q + 4) (2012 * D0.length + i); rw [hs3, if_pos (by omega), show i - 0 = i by omega])
    have hT3 := hT2.now (X := Y) hR3 (fun j _ _ _ => by rw [hO3 q (by omega)]) (fun m g1 g2 g3 _ => hO3 m g3)
    have h03 : v3 q 0 = nI 0 := by rw [hO3 q (by omega)]; exact h02
    have hF3 := hF2.tr (hO3.ow (q := q) (w := 8) (by omega) (by omega))
    refine P_aload_n dX7_undo_51 rfl rfl ?_
    refine P_getiN (x := nI (D0.length)) dX7_undo_52 kX7 fX7_193 rfl (by decide) hq.o (by rw [hO3 q (by omega)]; exact h26) ?_
    refine P_iret dX7_undo_55 rfl ?_
    exact qr_ret ((if_neg (by rw [hl1]; omega)).trans (by rw [hl1, Nat.add_sub_cancel, List.getLast?_append, List.dropLast_concat]; rfl)) h03 hT3 hF3
  · refine P_iconst (v := nI 1) dX7_undo_8 (by decide) ?_
    refine P_goto (tgt := 13) dX7_undo_9 (by decide) ?_
    refine P_cVs (rest := []) (As := [.int (nI (1))]) dX7_undo_13 lX7_129 yk_X7_refused yv_X7_refused kX7 rfl (by decide) hq.o rfl rfl (Nat.le_of_ble_eq_true rfl) rfl (c_X7_refused (k := 1) hq (by decide)) (fun v9 e9 => ?_)
    subst e9
    refine P_top (y := vb true) rfl ?_
    refine P_bif_eq (tgt := 21) dX7_undo_16 (by decide) (fun q9 => Bool.noConfusion q9) (fun _ => ?_)
    refine P_iconst (v := nI 0) dX7_undo_19 (by decide) ?_
    refine P_iret dX7_undo_20 rfl ?_
    exact qr_thr hT (if_pos (by omega))
set_option maxHeartbeats 4000000 in
set_option maxRecDepth 100000 in
theorem c_X7_save {σ : vS} {v : vV} {c q n : Nat} {S : mS} {t : mN} {D : List mC} {sl : Nat → Option mC} {s : Int32} (hq : LR σ q) (hT : RT v q ((t, n), (c, S), D, sl)) {B : Nat} (hG : GI B ((t, n), (c, S), D, sl)) (hB : B + 6000000 < 1000000000) : vC M_X7_save yX7_save [.ref (q), .int (s)] (σ, v) (qR σ v q (g_save ((t, n), (c, S), D, sl) s)) := by
  have hR : RR c v (q + 2) S := hT.r
  have hN : NB c S B := hG.1.1
  have hI : Iv c 1 S := hG.1.2
  have hc6 := hR.c6
  have htx : mTX v q t n := hT.tx
  have hlt : D.length ≤ 14 := hT.l
  refine vC_of (ls := [some (.ref (q)), some (.int (s))]) pn_X7 rfl rfl (Nat.le_of_ble_eq_true rfl) rfl ?_
  refine P_aload_n dX7_save_0 rfl rfl ?_
  refine P_iload_n dX7_save_1 rfl rfl ?_
  refine P_i2l dX7_save_2 ?_
  refine P_lconst (v := 0) dX7_save_3 (by decide) ?_
  refine P_lconst (v := 1) dX7_save_4 (by decide) ?_
  refine P_cSp (rest := [.ref (q)]) (As := [.long ((s).toInt64), .long ((0)), .long ((1))]) dX7_save_5 lX7_40 yk_X7_in ys_X7_in (by decide) rfl rfl (Nat.le_of_ble_eq_true rfl) rfl (c_X7_in _ _ _) ?_
  refine P_top (y := vb (gin s 0 1)) (congrArg vb (in_gin (by decide) (by decide))) ?_
  refine P_bif_eq (tgt := 15) dX7_save_8 (by decide) (fun c8 => ?_) (fun c8 => ?_)
  · refine P_iconst (v := nI 1) dX7_save_15 (by decide) ?_
    refine P_cVs (rest := []) (As := [.int (nI (1))]) dX7_save_16 lX7_129 yk_X7_refused yv_X7_refused kX7 rfl (by decide) hq.o rfl rfl (Nat.le_of_ble_eq_true rfl) rfl (c_X7_refused (k := 1) hq (by decide)) (fun v9 e9 => ?_)
    subst e9
    refine P_top (y := vb true) rfl ?_
    refine P_bif_eq (tgt := 24) dX7_save_19 (by decide) (fun q9 => Bool.noConfusion q9) (fun _ => ?_)
    refine P_iconst (v := nI 0) dX7_save_22 (by decide) ?_
    refine P_iret dX7_save_23 rfl ?_
    exact qr_thr hT (if_pos c8)
  · refine P_iconst (v := nI 0) dX7_save_11 (by decide) ?_
    refine P_goto (tgt := 16) dX7_save_12 (by decide) ?_
    refine P_cVs (rest := []) (As := [.int (nI (0))]) dX7_save_16 lX7_129 yk_X7_refused yv_X7_refused kX7 rfl (by decide) hq.o rfl rfl (Nat.le_of_ble_eq_true rfl) rfl (c_X7_refused (k := 0) hq (by decide)) (fun v1 e1 => ?_)
    obtain ⟨hT1, h01, hF1⟩ : RT v1 q ((t, n), (c, S), D, sl) ∧ v1 q 0 = nI 0 ∧ vOw v v1 q 8 := by subst e1; exact ⟨hT.ref, vU_s, vOw.rf.u (by omega) (by omega)⟩
    have hR1 : RR c v1 (q + 2) S := hT1.r
    clear e1
    refine P_top (y := vb false) rfl ?_
    refine P_bif_eq (tgt := 24) dX7_save_19 (by decide) (fun _ => ?_) (fun q9 => Bool.noConfusion q9)
    have hgi9 := c8
    obtain ⟨sk, sk0, sk1, rfl⟩ := gin_n (lo := 0) (hi := 1) (by decide) c8
    refine P_aload_n dX7_save_24 rfl rfl ?_
    refine P_getr (t := q + 2) dX7_save_25 kX7 fX7_13 rfl (by decide) hq.o hq.r2 hq.k2.1.2 ?_
    refine P_iconst (v := nI 0) dX7_save_28 (by decide) ?_
    refine P_aload_n dX7_save_29 rfl rfl ?_
    refine P_getr (t := q + 5) dX7_save_30 kX7 fX7_22 rfl (by decide) hq.o hq.r5 hq.k5.1.2 ?_
    refine P_sipush (v := nI 2012) dX7_save_33 (by decide) ?_
    refine P_iload_n dX7_save_36 rfl rfl ?_
    refine P_imulN dX7_save_37 ?_
    refine P_cSs (rest := []) (As := [.ref (q + 2), .int (nI (0)), .ref (q + 5), .int (nI (2012 * sk))]) dX7_save_38 lX7_189 yk_X7_copyState ys_X7_copyState (by decide) rfl rfl (Nat.le_of_ble_eq_true rfl) rfl (c_X7_copyState (fa := 0) (ta := 2012 * sk) hq.k2 hq.k5 (by omega) (by omega) (by omega) (by decide) (by decide)) (fun v3 ⟨hO3, hs3⟩ => ?_)
    refine P_aload_n dX7_save_41 rfl rfl ?_
    refine P_getr (t := q + 6) dX7_save_42 kX7 fX7_25 rfl (by decide) hq.o hq.r6 hq.k6.1.2 ?_
    refine P_iload_n dX7_save_45 rfl rfl ?_
    refine P_iconst (v := nI 1) dX7_save_46 (by decide) ?_
    refine P_zast (sk) dX7_save_47 hq.k6 rfl (by omega) (by decide) rfl ?_
    generalize hv2 : vU v3 (q + 6) sk (nI 1) = v4
    have hT4 : RT v4 q ((t, n), (c, S), D, fun i => if i = sk then some (c, S) else sl i) := hT1.slots (fun j _ => by rw [← hv2, vU_ne (by omega), hO3 q (by omega)]) (fun m g1 g2 g3 => by rw [← hv2, vU_ne (by omega), hO3 m (by omega)]) (fun i hi => by
      by_cases e9 : i = sk
      · subst e9
        refine ⟨by rw [← hv2, vU_s, if_pos rfl]; rfl, fun Y hY => ?_⟩
        rw [if_pos rfl] at hY
        cases hY
        refine hR1.sh (fun i9 hi9 => ?_)
        show v4 (q + 5) (2012 * i + i9) = v1 (q + 2) i9
        rw [← hv2, vU_ne (by omega), hs3, if_pos (by omega), show 0 + (2012 * i + i9 - 2012 * i) = i9 by omega]
      · refine ⟨by rw [← hv2, vU_o (Or.inr e9), hO3 (q + 6) (by omega), if_neg e9]; exact (hT1.s hi).1, fun Y hY => ?_⟩
        rw [if_neg e9] at hY
        refine ((hT1.s hi).2 Y hY).sh (fun i9 hi9 => ?_)
        show v4 (q + 5) (2012 * i + i9) = v1 (q + 5) (2012 * i + i9)
        rw [← hv2, vU_ne (by omega), hs3, if_neg (by omega)])
    have h04 : v4 q 0 = nI 0 := by rw [← hv2, vU_ne (by omega), hO3 q (by omega)]; exact h01
    have hF4 : vOw v v4 q 8 := by rw [← hv2]; exact (hF1.tr (hO3.ow (q := q) (w := 8) (by omega) (by omega))).u (by omega) (by omega)
    refine P_aload_n dX7_save_48 rfl rfl ?_
    refine P_getr (t := q + 2) dX7_save_49 kX7 fX7_13 rfl (by decide) hq.o hq.r2 hq.k2.1.2 ?_
    refine P_iconst (v := nI 1) dX7_save_52 (by decide) ?_
    refine P_ialdN (x := nI (gG S 1)) (1) dX7_save_53 hq.k2 rfl (by omega) (by decide) (hT4.r.g (by decide) (by decide)) ?_
    refine P_iret dX7_save_54 rfl ?_
    exact qr_ret ((if_neg (gt_f hgi9)).trans (by rw [nn (by omega)])) h04 hT4 hF4
set_option maxHeartbeats 4000000 in
set_option maxRecDepth 100000 in
theorem c_X7_restore {σ : vS} {v : vV} {c q n : Nat} {S : mS} {t : mN} {D : List mC} {sl : Nat → Option mC} {s : Int32} (hq : LR σ q) (hT : RT v q ((t, n), (c, S), D, sl)) {B : Nat} (hG : GI B ((t, n), (c, S), D, sl)) (hB : B + 6000000 < 1000000000) : vC M_X7_restore yX7_restore [.ref (q), .int (s)] (σ, v) (qR σ v q (g_restore ((t, n), (c, S), D, sl) s)) := by
  have hR : RR c v (q + 2) S := hT.r
  have hN : NB c S B := hG.1.1
  have hI : Iv c 1 S := hG.1.2
  have hc6 := hR.c6
  have htx : mTX v q t n := hT.tx
  have hlt : D.length ≤ 14 := hT.l
  refine vC_of (ls := [some (.ref (q)), some (.int (s))]) pn_X7 rfl rfl (Nat.le_of_ble_eq_true rfl) rfl ?_
  refine P_aload_n dX7_restore_0 rfl rfl ?_
  refine P_iload_n dX7_restore_1 rfl rfl ?_
  refine P_i2l dX7_restore_2 ?_
  refine P_lconst (v := 0) dX7_restore_3 (by decide) ?_
  refine P_lconst (v := 1) dX7_restore_4 (by decide) ?_
  refine P_cSp (rest := [.ref (q)]) (As := [.long ((s).toInt64), .long ((0)), .long ((1))]) dX7_restore_5 lX7_40 yk_X7_in ys_X7_in (by decide) rfl rfl (Nat.le_of_ble_eq_true rfl) rfl (c_X7_in _ _ _) ?_
  refine P_top (y := vb (gin s 0 1)) (congrArg vb (in_gin (by decide) (by decide))) ?_
  refine P_bif_ne (tgt := 15) dX7_restore_8 (by decide) (fun c8 => ?_) (fun c8 => ?_)
  · have hgi9 := c8
    obtain ⟨sk, sk0, sk1, rfl⟩ := gin_n (lo := 0) (hi := 1) (by decide) c8
    refine P_aload_n dX7_restore_15 rfl rfl ?_
    refine P_getr (t := q + 6) dX7_restore_16 kX7 fX7_25 rfl (by decide) hq.o hq.r6 hq.k6.1.2 ?_
    refine P_iload_n dX7_restore_19 rfl rfl ?_
    refine P_zaldN (x := vb ((sl sk).isSome)) (sk) dX7_restore_20 hq.k6 rfl (by omega) (by decide) (hT.s (i := sk) (by omega)).1 ?_
    refine P_bif_ne (tgt := 28) dX7_restore_21 (by decide) (fun c21 => ?_) (fun c21 => ?_)
    · refine P_iconst (v := nI 0) dX7_restore_28 (by decide) ?_
      refine P_cVs (rest := []) (As := [.int (nI (0))]) dX7_restore_29 lX7_129 yk_X7_refused yv_X7_refused kX7 rfl (by decide) hq.o rfl rfl (Nat.le_of_ble_eq_true rfl) rfl (c_X7_refused (k := 0) hq (by decide)) (fun v1 e1 => ?_)
      obtain ⟨hT1, h01, hF1⟩ : RT v1 q ((t, n), (c, S), D, sl) ∧ v1 q 0 = nI 0 ∧ vOw v v1 q 8 := by subst e1; exact ⟨hT.ref, vU_s, vOw.rf.u (by omega) (by omega)⟩
      have hR1 : RR c v1 (q + 2) S := hT1.r
      clear e1
      refine P_top (y := vb false) rfl ?_
      refine P_bif_eq (tgt := 37) dX7_restore_32 (by decide) (fun _ => ?_) (fun q9 => Bool.noConfusion q9)
      obtain ⟨Y, hY⟩ := Option.isSome_iff_exists.mp c21
      refine P_aload_n dX7_restore_37 rfl rfl ?_
      refine P_getr (t := q + 5) dX7_restore_38 kX7 fX7_22 rfl (by decide) hq.o hq.r5 hq.k5.1.2 ?_
      refine P_sipush (v := nI 2012) dX7_restore_41 (by decide) ?_
      refine P_iload_n dX7_restore_44 rfl rfl ?_
      refine P_imulN dX7_restore_45 ?_
      refine P_aload_n dX7_restore_46 rfl rfl ?_
      refine P_getr (t := q + 2) dX7_restore_47 kX7 fX7_13 rfl (by decide) hq.o hq.r2 hq.k2.1.2 ?_
      refine P_iconst (v := nI 0) dX7_restore_50 (by decide) ?_
      refine P_cSs (rest := []) (As := [.ref (q + 5), .int (nI (2012 * sk)), .ref (q + 2), .int (nI (0))]) dX7_restore_51 lX7_189 yk_X7_copyState ys_X7_copyState (by decide) rfl rfl (Nat.le_of_ble_eq_true rfl) rfl (c_X7_copyState (fa := 2012 * sk) (ta := 0) hq.k5 hq.k2 (by omega) (by omega) (by omega) (by decide) (by decide)) (fun v3 ⟨hO3, hs3⟩ => ?_)
      have hR3 : RR Y.1 v3 (q + 2) Y.2 := ((hT1.s (i := sk) (by omega)).2 Y hY).sh (fun i hi => by show v3 (q + 2) i = v1 (q + 5) (2012 * sk + i); rw [hs3, if_pos (by omega), show i - 0 = i by omega])
      have hT3 := hT1.now (X := Y) hR3 (fun j _ _ _ => by rw [hO3 q (by omega)]) (fun m g1 g2 g3 _ => hO3 m g3)
      have h03 : v3 q 0 = nI 0 := by rw [hO3 q (by omega)]; exact h01
      have hF3 := hF1.tr (hO3.ow (q := q) (w := 8) (by omega) (by omega))
      refine P_aload_n dX7_restore_54 rfl rfl ?_
      refine P_iconst (v := nI 0) dX7_restore_55 (by decide) ?_
      refine P_puti dX7_restore_56 kX7 fX7_193 rfl (by decide) rfl hq.o ?_
      have hT4 := hT3.diary (v' := vU v3 q 6 (nI 0)) (D := []) (Nat.zero_le _) vU_s (fun j Z hj => by cases hj) (vU_o (by omega)) (fun m g1 g2 g3 => vU_ne (by omega))
      have h04 : vU v3 q 6 (nI 0) q 0 = nI 0 := (vU_o (by omega)).trans h03
      have hF4 := hF3.u (n := q) (k := 6) (x := nI 0) (by omega) (by omega)
      generalize vU v3 q 6 (nI 0) = v4 at hT4 h04 hF4 ⊢
      refine P_aload_n dX7_restore_59 rfl rfl ?_
      refine P_getr (t := q + 2) dX7_restore_60 kX7 fX7_13 rfl (by decide) hq.o hq.r2 hq.k2.1.2 ?_
      refine P_iconst (v := nI 1) dX7_restore_63 (by decide) ?_
      refine P_ialdN (x := nI (gG Y.2 1)) (1) dX7_restore_64 hq.k2 rfl (by omega) (by decide) (hT4.r.g (by decide) (by decide)) ?_
      refine P_iret dX7_restore_65 rfl ?_
      exact qr_ret ((if_neg (gt_f hgi9)).trans (by rw [nn (by omega), hY]; rfl)) h04 hT4 hF4
    · refine P_iconst (v := nI 2) dX7_restore_24 (by decide) ?_
      refine P_goto (tgt := 29) dX7_restore_25 (by decide) ?_
      refine P_cVs (rest := []) (As := [.int (nI (2))]) dX7_restore_29 lX7_129 yk_X7_refused yv_X7_refused kX7 rfl (by decide) hq.o rfl rfl (Nat.le_of_ble_eq_true rfl) rfl (c_X7_refused (k := 2) hq (by decide)) (fun v9 e9 => ?_)
      subst e9
      refine P_top (y := vb true) rfl ?_
      refine P_bif_eq (tgt := 37) dX7_restore_32 (by decide) (fun q9 => Bool.noConfusion q9) (fun _ => ?_)
      refine P_iconst (v := nI 0) dX7_restore_35 (by decide) ?_
      refine P_iret dX7_restore_36 rfl ?_
      exact qr_thr hT ((if_neg (gt_f hgi9)).trans (by rw [nn (by omega), none_of c21]; rfl))
  · refine P_iconst (v := nI 1) dX7_restore_11 (by decide) ?_
    refine P_goto (tgt := 29) dX7_restore_12 (by decide) ?_
    refine P_cVs (rest := []) (As := [.int (nI (1))]) dX7_restore_29 lX7_129 yk_X7_refused yv_X7_refused kX7 rfl (by decide) hq.o rfl rfl (Nat.le_of_ble_eq_true rfl) rfl (c_X7_refused (k := 1) hq (by decide)) (fun v9 e9 => ?_)
    subst e9
    refine P_top (y := vb true) rfl ?_
    refine P_bif_eq (tgt := 37) dX7_restore_32 (by decide) (fun q9 => Bool.noConfusion q9) (fun _ => ?_)
    refine P_iconst (v := nI 0) dX7_restore_35 (by decide) ?_
    refine P_iret dX7_restore_36 rfl ?_
    exact qr_thr hT (if_pos c8)
set_option maxHeartbeats 4000000 in
set_option maxRecDepth 100000 in
theorem c_X7_lacks {σ : vS} {v : vV} {c q n : Nat} {S : mS} {t : mN} {D : List mC} {sl : Nat → Option mC} {m : Int32} (hq : LR σ q) (hT : RT v q ((t, n), (c, S), D, sl)) {B : Nat} (hG : GI B ((t, n), (c, S), D, sl)) (hB : B + 6000000 < 1000000000) : vC M_X7_lacks yX7_lacks [.ref (q), .int (m)] (σ, v) (qR σ v q (g_lacks ((t, n), (c, S), D, sl) m)) := by
  have hR : RR c v (q + 2) S := hT.r
  have hN : NB c S B := hG.1.1
  have hI : Iv c 1 S := hG.1.2
  have hc6 := hR.c6
  have htx : mTX v q t n := hT.tx
  have hlt : D.length ≤ 14 := hT.l
  refine vC_of (ls := [some (.ref (q)), some (.int (m)), none, none]) pn_X7 rfl rfl (Nat.le_of_ble_eq_true rfl) rfl ?_
  refine P_aload_n dX7_lacks_0 rfl rfl ?_
  refine P_aload_n dX7_lacks_1 rfl rfl ?_
  refine P_getr (t := q + 2) dX7_lacks_2 kX7 fX7_13 rfl (by decide) hq.o hq.r2 hq.k2.1.2 ?_
  refine P_iload_n dX7_lacks_5 rfl rfl ?_
  refine P_cSp (rest := [.ref (q)]) (As := [.ref (q + 2), .int (m)]) dX7_lacks_6 lX7_112 yk_X7_isMember ys_X7_isMember (by decide) rfl rfl (Nat.le_of_ble_eq_true rfl) rfl (c_X7_isMember hq.k2 hR) ?_
  refine P_bif_eq (tgt := 16) dX7_lacks_9 (by decide) (fun c9 => ?_) (fun c9 => ?_)
  · refine P_iconst (v := nI 1) dX7_lacks_16 (by decide) ?_
    refine P_cVs (rest := []) (As := [.int (nI (1))]) dX7_lacks_17 lX7_129 yk_X7_refused yv_X7_refused kX7 rfl (by decide) hq.o rfl rfl (Nat.le_of_ble_eq_true rfl) rfl (c_X7_refused (k := 1) hq (by decide)) (fun v9 e9 => ?_)
    subst e9
    refine P_top (y := vb true) rfl ?_
    refine P_bif_eq (tgt := 25) dX7_lacks_20 (by decide) (fun q9 => Bool.noConfusion q9) (fun _ => ?_)
    refine P_iconst (v := nI 0) dX7_lacks_23 (by decide) ?_
    refine P_iret dX7_lacks_24 rfl ?_
    exact qr_thr hT (if_pos c9)
  · refine P_iconst (v := nI 0) dX7_lacks_12 (by decide) ?_
    refine P_goto (tgt := 17) dX7_lacks_13 (by decide) ?_
    refine P_cVs (rest := []) (As := [.int (nI (0))]) dX7_lacks_17 lX7_129 yk_X7_refused yv_X7_refused kX7 rfl (by decide) hq.o rfl rfl (Nat.le_of_ble_eq_true rfl) rfl (c_X7_refused (k := 0) hq (by decide)) (fun v1 e1 => ?_)
    obtain ⟨hT1, h01, hF1⟩ : RT v1 q ((t, n), (c, S), D, sl) ∧ v1 q 0 = nI 0 ∧ vOw v v1 q 8 := by subst e1; exact ⟨hT.ref, vU_s, vOw.rf.u (by omega) (by omega)⟩
    have hR1 : RR c v1 (q + 2) S := hT1.r
    clear e1
    refine P_top (y := vb false) rfl ?_
    refine P_bif_eq (tgt := 25) dX7_lacks_20 (by decide) (fun _ => ?_) (fun q9 => Bool.noConfusion q9)
    have hm9 := c9
    obtain ⟨mk, hmk, rfl⟩ := mb_nat hc6 c9
    refine P_iconst (v := nI 0) dX7_lacks_25 (by decide) ?_
    refine P_istore_n (ls2 := [some (.ref (q)), some (.int (nI (mk))), some (.int (nI (0))), none]) dX7_lacks_26 rfl (by decide) rfl ?_
    refine P_iconst (v := nI 0) dX7_lacks_27 (by decide) ?_
    refine P_istore_n (ls2 := [some (.ref (q)), some (.int (nI (mk))), some (.int (nI (0))), some (.int (nI (0)))]) dX7_lacks_28 rfl (by decide) rfl ?_
    have hL29 : ∀ (n29 : Nat) (k : Nat), (k ≤ c) → (k + n29 = c + 1) → vP M_X7_lacks 29 [some (.ref (q)), some (.int (nI (mk))), some (.int (nI (mlck S mk k))), some (.int (nI (k)))] [] ((vRm M_X7_lacks).cells, (vRm M_X7_lacks).slots) (σ, v1) (vN (qR σ v q (g_lacks ((t, n), (c, S), D, sl) (nI mk)))) := by
      intro n29
      induction n29 with
      | zero =>
        intro k h1 h2
        exact absurd h2 (by omega)
      | succ n29 ih29 =>
        intro k h1 h2
        refine P_iload_n dX7_lacks_29 rfl rfl ?_
        refine P_aload_n dX7_lacks_30 rfl rfl ?_
        refine P_getr (t := q + 2) dX7_lacks_31 kX7 fX7_13 rfl (by decide) hq.o hq.r2 hq.k2.1.2 ?_
        refine P_iconst (v := nI 0) dX7_lacks_34 (by decide) ?_
        refine P_ialdN (x := nI (c)) (0) dX7_lacks_35 hq.k2 rfl (by omega) (by decide) hR1.cc ?_
        refine P_icmp_geN (tgt := 73) dX7_lacks_36 (by decide) (by omega) (by omega) (fun c36 => ?_) (fun c36 => ?_)
        · refine P_iload_n dX7_lacks_73 rfl rfl ?_
          refine P_aload_n dX7_lacks_74 rfl rfl ?_
          refine P_getr (t := q + 2) dX7_lacks_75 kX7 fX7_13 rfl (by decide) hq.o hq.r2 hq.k2.1.2 ?_
          refine P_iload_n dX7_lacks_78 rfl rfl ?_
          refine P_iconst (v := nI 5) dX7_lacks_79 (by decide) ?_
          refine P_cSp (rest := [.int (nI (mlck S mk k))]) (As := [.ref (q + 2), .int (nI (mk)), .int (nI (5))]) dX7_lacks_80 lX7_44 yk_X7_of ys_X7_of (by decide) rfl rfl (Nat.le_of_ble_eq_true rfl) rfl (c_X7_of hq.k2 (by omega) (by decide)) ?_
          refine P_top (y := (nI (gM S mk 5))) (hR1.m (by omega) (by decide)) ?_
          refine P_iconst (v := -1) dX7_lacks_83 (by decide) ?_
          refine P_ixor dX7_lacks_84 ?_
          refine P_iand dX7_lacks_85 ?_
          refine P_top (y := nI (mdif (mlck S mk k) (gM S mk 5))) (mdif_i (mlck_lt hN k) (hN.m5 mk)) ?_
          refine P_cSp (rest := []) (As := [.int (nI (mdif (mlck S mk k) (gM S mk 5)))]) dX7_lacks_86 lX7_120 yk_X7_bits ys_X7_bits (by decide) rfl rfl (Nat.le_of_ble_eq_true rfl) rfl (c_X7_bits (by have := mdif_lt (y := gM S mk 5) (mlck_lt hN (m := mk) k); omega)) ?_
          refine P_iret dX7_lacks_89 rfl ?_
          exact qr_ret ((if_neg (gt_f hm9)).trans (by rw [nn (by omega), show k = c by omega])) h01 hT1 hF1
        · refine P_iload_n dX7_lacks_39 rfl rfl ?_
          refine P_aload_n dX7_lacks_40 rfl rfl ?_
          refine P_getr (t := q + 2) dX7_lacks_41 kX7 fX7_13 rfl (by decide) hq.o hq.r2 hq.k2.1.2 ?_
          refine P_iload_n dX7_lacks_44 rfl rfl ?_
          refine P_iload_n dX7_lacks_45 rfl rfl ?_
          refine P_cSp (rest := [.int (nI (mlck S mk k))]) (As := [.ref (q + 2), .int (nI (mk)), .int (nI (k))]) dX7_lacks_46 lX7_223 yk_X7_isOneRoll ys_X7_isOneRoll (by decide) rfl rfl (Nat.le_of_ble_eq_true rfl) rfl (c_X7_isOneRoll hq.k2 hR1 hN (by omega) (by omega) (by omega)) ?_
          refine P_bif_eq (tgt := 64) dX7_lacks_49 (by decide) (fun c49 => ?_) (fun c49 => ?_)
          · refine P_iconst (v := nI 0) dX7_lacks_64 (by decide) ?_
            refine P_iorN dX7_lacks_65 ?_
            refine P_top (y := nI (mlck S mk (k + 1))) (by rw [mlck, if_neg (of_decide_eq_false c49)]) ?_
            refine P_istore_n (ls2 := [some (.ref (q)), some (.int (nI (mk))), some (.int (nI (mlck S mk (k + 1)))), some (.int (nI (k)))]) dX7_lacks_66 rfl (by decide) rfl ?_
            refine P_iinc (v := nI (k + 1)) (ls2 := [some (.ref (q)), some (.int (nI (mk))), some (.int (nI (mlck S mk (k + 1)))), some (.int (nI (k + 1)))]) dX7_lacks_67 rfl (nI_inc _ 1) (by decide) rfl ?_
            refine P_goto (tgt := 29) dX7_lacks_70 (by decide) ?_
            exact ih29 (k + 1) (by omega) (by omega)
          · refine P_aload_n dX7_lacks_52 rfl rfl ?_
            refine P_getr (t := q + 2) dX7_lacks_53 kX7 fX7_13 rfl (by decide) hq.o hq.r2 hq.k2.1.2 ?_
            refine P_iload_n dX7_lacks_56 rfl rfl ?_
            refine P_iconst (v := nI 5) dX7_lacks_57 (by decide) ?_
            refine P_cSp (rest := [.int (nI (mlck S mk k))]) (As := [.ref (q + 2), .int (nI (k)), .int (nI (5))]) dX7_lacks_58 lX7_44 yk_X7_of ys_X7_of (by decide) rfl rfl (Nat.le_of_ble_eq_true rfl) rfl (c_X7_of hq.k2 (by omega) (by decide)) ?_
            refine P_top (y := (nI (gM S k 5))) (hR1.m (by omega) (by decide)) ?_
            refine P_goto (tgt := 65) dX7_lacks_61 (by decide) ?_
            refine P_iorN dX7_lacks_65 ?_
            refine P_top (y := nI (mlck S mk (k + 1))) (by rw [mlck, if_pos (of_decide_eq_true c49)]) ?_
            refine P_istore_n (ls2 := [some (.ref (q)), some (.int (nI (mk))), some (.int (nI (mlck S mk (k + 1)))), some (.int (nI (k)))]) dX7_lacks_66 rfl (by decide) rfl ?_
            refine P_iinc (v := nI (k + 1)) (ls2 := [some (.ref (q)), some (.int (nI (mk))), some (.int (nI (mlck S mk (k + 1)))), some (.int (nI (k + 1)))]) dX7_lacks_67 rfl (nI_inc _ 1) (by decide) rfl ?_
            refine P_goto (tgt := 29) dX7_lacks_70 (by decide) ?_
            exact ih29 (k + 1) (by omega) (by omega)
    exact hL29 (c + 1) 0 (by omega) (by omega)
set_option maxHeartbeats 4000000 in
set_option maxRecDepth 100000 in
theorem c_X7_together {σ : vS} {v : vV} {c q n : Nat} {S : mS} {t : mN} {D : List mC} {sl : Nat → Option mC} (hq : LR σ q) (hT : RT v q ((t, n), (c, S), D, sl)) {B : Nat} (hG : GI B ((t, n), (c, S), D, sl)) (hB : B + 6000000 < 1000000000) : vC M_X7_together yX7_together [.ref (q)] (σ, v) (qR σ v q (g_together ((t, n), (c, S), D, sl))) := by
  have hR : RR c v (q + 2) S := hT.r
  have hN : NB c S B := hG.1.1
  have hI : Iv c 1 S := hG.1.2
  have hc6 := hR.c6
  have htx : mTX v q t n := hT.tx
  have hlt : D.length ≤ 14 := hT.l
  refine vC_of (ls := [some (.ref (q)), none, none, none, none]) pn_X7 rfl rfl (Nat.le_of_ble_eq_true rfl) rfl ?_
  refine P_aload_n dX7_together_0 rfl rfl ?_
  refine P_iconst (v := nI 0) dX7_together_1 (by decide) ?_
  refine P_puti dX7_together_2 kX7 fX7_36 rfl (by decide) rfl hq.o ?_
  obtain ⟨v1, ev1⟩ : ∃ v1, v1 = vU v q 0 (nI 0) := ⟨_, rfl⟩
  rw [← ev1]
  obtain ⟨hT1, h01, hF1⟩ : RT v1 q ((t, n), (c, S), D, sl) ∧ v1 q 0 = nI 0 ∧ vOw v v1 q 8 := by subst ev1; exact ⟨hT.ref, vU_s, vOw.rf.u (by omega) (by omega)⟩
  have hR1 : RR c v1 (q + 2) S := hT1.r
  refine P_iconst (v := nI 0) dX7_together_5 (by decide) ?_
  refine P_istore_n (ls2 := [some (.ref (q)), some (.int (nI (0))), none, none, none]) dX7_together_6 rfl (by decide) rfl ?_
  refine P_iconst (v := nI 0) dX7_together_7 (by decide) ?_
  refine P_istore_n (ls2 := [some (.ref (q)), some (.int (nI (0))), some (.int (nI (0))), none, none]) dX7_together_8 rfl (by decide) rfl ?_
  have hL9 : ∀ (n9 : Nat) (k : Nat), (k ≤ c) → (k + n9 = c + 1) → vP M_X7_together 9 [some (.ref (q)), some (.int (nI (mbest c S k))), some (.int (nI (k))), none, none] [] ((vRm M_X7_together).cells, (vRm M_X7_together).slots) (σ, v1) (vN (qR σ v q (g_together ((t, n), (c, S), D, sl)))) := by
    intro n9
    induction n9 with
    | zero =>
      intro k h1 h2
      exact absurd h2 (by omega)
    | succ n9 ih9 =>
      intro k h1 h2
      refine P_iload_n dX7_together_9 rfl rfl ?_
      refine P_aload_n dX7_together_10 rfl rfl ?_
      refine P_getr (t := q + 2) dX7_together_11 kX7 fX7_13 rfl (by decide) hq.o hq.r2 hq.k2.1.2 ?_
      refine P_iconst (v := nI 0) dX7_together_14 (by decide) ?_
      refine P_ialdN (x := nI (c)) (0) dX7_together_15 hq.k2 rfl (by omega) (by decide) hR1.cc ?_
      refine P_icmp_geN (tgt := 111) dX7_together_16 (by decide) (by omega) (by omega) (fun c16 => ?_) (fun c16 => ?_)
      · refine P_iload_n dX7_together_111 rfl rfl ?_
        refine P_iret dX7_together_112 rfl ?_
        exact qr_ret (by rw [show k = c by omega]; rfl) h01 hT1 hF1
      · refine P_iconst (v := nI 0) dX7_together_19 (by decide) ?_
        refine P_istore_n (ls2 := [some (.ref (q)), some (.int (nI (mbest c S k))), some (.int (nI (k))), some (.int (nI (0))), none]) dX7_together_20 rfl (by decide) rfl ?_
        refine P_iconst (v := nI 0) dX7_together_21 (by decide) ?_
        refine P_istore (ls2 := [some (.ref (q)), some (.int (nI (mbest c S k))), some (.int (nI (k))), some (.int (nI (0))), some (.int (nI (0)))]) dX7_together_22 (by decide) rfl ?_
        have hL24 : ∀ (n24 : Nat) (j : Nat), (j ≤ c) → (j + n24 = c + 1) → vP M_X7_together 24 [some (.ref (q)), some (.int (nI (mbest c S k))), some (.int (nI (k))), some (.int (nI (mgrp S k j))), some (.int (nI (j)))] [] ((vRm M_X7_together).cells, (vRm M_X7_together).slots) (σ, v1) (vN (qR σ v q (g_together ((t, n), (c, S), D, sl)))) := by
          intro n24
          induction n24 with
          | zero =>
            intro j h3 h4
            exact absurd h4 (by omega)
          | succ n24 ih24 =>
            intro j h3 h4
            refine P_iload dX7_together_24 rfl ?_
            refine P_aload_n dX7_together_26 rfl rfl ?_
            refine P_getr (t := q + 2) dX7_together_27 kX7 fX7_13 rfl (by decide) hq.o hq.r2 hq.k2.1.2 ?_
            refine P_iconst (v := nI 0) dX7_together_30 (by decide) ?_
            refine P_ialdN (x := nI (c)) (0) dX7_together_31 hq.k2 rfl (by omega) (by decide) hR1.cc ?_
            refine P_icmp_geN (tgt := 88) dX7_together_32 (by decide) (by omega) (by omega) (fun c32 => ?_) (fun c32 => ?_)
            · refine P_iload_n dX7_together_88 rfl rfl ?_
              refine P_cSp (rest := []) (As := [.int (nI (mgrp S k j))]) dX7_together_89 lX7_120 yk_X7_bits ys_X7_bits (by decide) rfl rfl (Nat.le_of_ble_eq_true rfl) rfl (c_X7_bits (by have := mgrp_lt (S := S) (m := k) j (by omega); omega)) ?_
              refine P_iload_n dX7_together_92 rfl rfl ?_
              refine P_cSp (rest := [.int (nI (mbits (mgrp S k j) 24))]) (As := [.int (nI (mbest c S k))]) dX7_together_93 lX7_120 yk_X7_bits ys_X7_bits (by decide) rfl rfl (Nat.le_of_ble_eq_true rfl) rfl (c_X7_bits (by have := mbest_lt (S := S) hc6 k; omega)) ?_
              refine P_icmp_leN (tgt := 103) dX7_together_96 (by decide) (by first | (have := mbits_le (s := mgrp S k j) 24; omega) | (have := mbits_le (s := mbest c S k) 24; omega)) (by first | (have := mbits_le (s := mgrp S k j) 24; omega) | (have := mbits_le (s := mbest c S k) 24; omega)) (fun c96 => ?_) (fun c96 => ?_)
              · refine P_iload_n dX7_together_103 rfl rfl ?_
                refine P_istore_n (ls2 := [some (.ref (q)), some (.int (nI (mbest c S k))), some (.int (nI (k))), some (.int (nI (mgrp S k j))), some (.int (nI (j)))]) dX7_together_104 rfl (by decide) rfl ?_
                refine P_iinc (v := nI (k + 1)) (ls2 := [some (.ref (q)), some (.int (nI (mbest c S k))), some (.int (nI (k + 1))), some (.int (nI (mgrp S k j))), some (.int (nI (j)))]) dX7_together_105 rfl (nI_inc _ 1) (by decide) rfl ?_
                refine P_goto (tgt := 9) dX7_together_108 (by decide) ?_
                refine P_weak (ls2 := [some (.ref (q)), some (.int (nI (mbest c S k))), some (.int (nI (k + 1))), none, none]) ⟨rfl, rfl, rfl, trivial⟩ ?_
                have ej : j = c := by omega
                subst ej
                have e9 := mbest_k (S := S) (c := j) (k := k) (by omega)
                rw [← e9]
                exact ih9 (k + 1) (by omega) (by omega)
              · refine P_iload_n dX7_together_99 rfl rfl ?_
                refine P_goto (tgt := 104) dX7_together_100 (by decide) ?_
                refine P_istore_n (ls2 := [some (.ref (q)), some (.int (nI (mgrp S k j))), some (.int (nI (k))), some (.int (nI (mgrp S k j))), some (.int (nI (j)))]) dX7_together_104 rfl (by decide) rfl ?_
                refine P_iinc (v := nI (k + 1)) (ls2 := [some (.ref (q)), some (.int (nI (mgrp S k j))), some (.int (nI (k + 1))), some (.int (nI (mgrp S k j))), some (.int (nI (j)))]) dX7_together_105 rfl (nI_inc _ 1) (by decide) rfl ?_
                refine P_goto (tgt := 9) dX7_together_108 (by decide) ?_
                refine P_weak (ls2 := [some (.ref (q)), some (.int (nI (mgrp S k j))), some (.int (nI (k + 1))), none, none]) ⟨rfl, rfl, rfl, trivial⟩ ?_
                have ej : j = c := by omega
                subst ej
                have e9 := mbest_s (S := S) (c := j) (k := k) (by omega)
                rw [← e9]
                exact ih9 (k + 1) (by omega) (by omega)
            · refine P_iload_n dX7_together_35 rfl rfl ?_
              refine P_aload_n dX7_together_36 rfl rfl ?_
              refine P_getr (t := q + 2) dX7_together_37 kX7 fX7_13 rfl (by decide) hq.o hq.r2 hq.k2.1.2 ?_
              refine P_iload_n dX7_together_40 rfl rfl ?_
              refine P_cSp (rest := [.int (nI (mgrp S k j))]) (As := [.ref (q + 2), .int (nI (k))]) dX7_together_41 lX7_169 yk_X7_isGone ys_X7_isGone (by decide) rfl rfl (Nat.le_of_ble_eq_true rfl) rfl (c_X7_isGone hq.k2 hR1 hN) ?_
              refine P_top (y := vb (decide (gM S k 1 = 2))) (by rw [mgone_n (by omega) hc6]) ?_
              refine P_bif_ne (tgt := 79) dX7_together_44 (by decide) (fun c44 => ?_) (fun c44 => ?_)
              · refine P_iconst (v := nI 0) dX7_together_79 (by decide) ?_
                refine P_iorN dX7_together_80 ?_
                refine P_top (y := nI (mgrp S k (j + 1))) (by rw [mgrp, if_neg (fun q9 => q9.1.1 (of_decide_eq_true c44))]) ?_
                refine P_istore_n (ls2 := [some (.ref (q)), some (.int (nI (mbest c S k))), some (.int (nI (k))), some (.int (nI (mgrp S k (j + 1)))), some (.int (nI (j)))]) dX7_together_81 rfl (by decide) rfl ?_
                refine P_iinc (v := nI (j + 1)) (ls2 := [some (.ref (q)), some (.int (nI (mbest c S k))), some (.int (nI (k))), some (.int (nI (mgrp S k (j + 1)))), some (.int (nI (j + 1)))]) dX7_together_82 rfl (nI_inc _ 1) (by decide) rfl ?_
                refine P_goto (tgt := 24) dX7_together_85 (by decide) ?_
                exact ih24 (j + 1) (by omega) (by omega)
              · refine P_aload_n dX7_together_47 rfl rfl ?_
                refine P_getr (t := q + 2) dX7_together_48 kX7 fX7_13 rfl (by decide) hq.o hq.r2 hq.k2.1.2 ?_
                refine P_iload dX7_together_51 rfl ?_
                refine P_cSp (rest := [.int (nI (mgrp S k j))]) (As := [.ref (q + 2), .int (nI (j))]) dX7_together_53 lX7_169 yk_X7_isGone ys_X7_isGone (by decide) rfl rfl (Nat.le_of_ble_eq_true rfl) rfl (c_X7_isGone hq.k2 hR1 hN) ?_
                refine P_top (y := vb (decide (gM S j 1 = 2))) (by rw [mgone_n (by omega) hc6]) ?_
                refine P_bif_ne (tgt := 79) dX7_together_56 (by decide) (fun c56 => ?_) (fun c56 => ?_)
                · refine P_iconst (v := nI 0) dX7_together_79 (by decide) ?_
                  refine P_iorN dX7_together_80 ?_
                  refine P_top (y := nI (mgrp S k (j + 1))) (by rw [mgrp, if_neg (fun q9 => q9.1.2 (of_decide_eq_true c56))]) ?_
                  refine P_istore_n (ls2 := [some (.ref (q)), some (.int (nI (mbest c S k))), some (.int (nI (k))), some (.int (nI (mgrp S k (j + 1)))), some (.int (nI (j)))]) dX7_together_81 rfl (by decide) rfl ?_
                  refine P_iinc (v := nI (j + 1)) (ls2 := [some (.ref (q)), some (.int (nI (mbest c S k))), some (.int (nI (k))), some (.int (nI (mgrp S k (j + 1)))), some (.int (nI (j + 1)))]) dX7_together_82 rfl (nI_inc _ 1) (by decide) rfl ?_
                  refine P_goto (tgt := 24) dX7_together_85 (by decide) ?_
                  exact ih24 (j + 1) (by omega) (by omega)
                · refine P_aload_n dX7_together_59 rfl rfl ?_
                  refine P_getr (t := q + 2) dX7_together_60 kX7 fX7_13 rfl (by decide) hq.o hq.r2 hq.k2.1.2 ?_
                  refine P_iload_n dX7_together_63 rfl rfl ?_
                  refine P_iload dX7_together_64 rfl ?_
                  refine P_cSp (rest := [.int (nI (mgrp S k j))]) (As := [.ref (q + 2), .int (nI (k)), .int (nI (j))]) dX7_together_66 lX7_223 yk_X7_isOneRoll ys_X7_isOneRoll (by decide) rfl rfl (Nat.le_of_ble_eq_true rfl) rfl (c_X7_isOneRoll hq.k2 hR1 hN (by omega) (by omega) (by omega)) ?_
                  refine P_bif_eq (tgt := 79) dX7_together_69 (by decide) (fun c69 => ?_) (fun c69 => ?_)
                  · refine P_iconst (v := nI 0) dX7_together_79 (by decide) ?_
                    refine P_iorN dX7_together_80 ?_
                    refine P_top (y := nI (mgrp S k (j + 1))) (by rw [mgrp, if_neg (fun q9 => of_decide_eq_false c69 ⟨q9.2.1.symm, q9.2.2.symm⟩)]) ?_
                    refine P_istore_n (ls2 := [some (.ref (q)), some (.int (nI (mbest c S k))), some (.int (nI (k))), some (.int (nI (mgrp S k (j + 1)))), some (.int (nI (j)))]) dX7_together_81 rfl (by decide) rfl ?_
                    refine P_iinc (v := nI (j + 1)) (ls2 := [some (.ref (q)), some (.int (nI (mbest c S k))), some (.int (nI (k))), some (.int (nI (mgrp S k (j + 1)))), some (.int (nI (j + 1)))]) dX7_together_82 rfl (nI_inc _ 1) (by decide) rfl ?_
                    refine P_goto (tgt := 24) dX7_together_85 (by decide) ?_
                    exact ih24 (j + 1) (by omega) (by omega)
                  · refine P_iconst (v := nI 1) dX7_together_72 (by decide) ?_
                    refine P_iload dX7_together_73 rfl ?_
                    refine P_ishlN dX7_together_75 (by omega) ?_
                    refine P_goto (tgt := 80) dX7_together_76 (by decide) ?_
                    refine P_iorN dX7_together_80 ?_
                    refine P_top (y := nI (mgrp S k (j + 1))) (by rw [mgrp, if_pos ⟨⟨of_decide_eq_false c44, of_decide_eq_false c56⟩, (of_decide_eq_true c69).1.symm, (of_decide_eq_true c69).2.symm⟩]) ?_
                    refine P_istore_n (ls2 := [some (.ref (q)), some (.int (nI (mbest c S k))), some (.int (nI (k))), some (.int (nI (mgrp S k (j + 1)))), some (.int (nI (j)))]) dX7_together_81 rfl (by decide) rfl ?_
                    refine P_iinc (v := nI (j + 1)) (ls2 := [some (.ref (q)), some (.int (nI (mbest c S k))), some (.int (nI (k))), some (.int (nI (mgrp S k (j + 1)))), some (.int (nI (j + 1)))]) dX7_together_82 rfl (nI_inc _ 1) (by decide) rfl ?_
                    refine P_goto (tgt := 24) dX7_together_85 (by decide) ?_
                    exact ih24 (j + 1) (by omega) (by omega)
        exact hL24 (c + 1) 0 (by omega) (by omega)
  exact hL9 (c + 1) 0 (by omega) (by omega)
