
theorem mheard_G {S : mS} {i x m k : Nat} : mheard (sG S i x) m k = mheard S m k := rfl
theorem mA10 {S : mS} {m k a b d : Nat} : gM (sM (sM (sM S m (12 + 3 * k) a) m (13 + 3 * k) b) m (14 + 3 * k) d) m 10 = gM S m 10 := by
  have h1 : ¬ 10 = 14 + 3 * k := by omega
  have h2 : ¬ 10 = 13 + 3 * k := by omega
  have h3 : ¬ 10 = 12 + 3 * k := by omega
  simp [gM, sM, h1, h2, h3]
theorem msends_m {S : mS} {m set w : Nat} (hw : w = 2 ∨ w = 3 ∨ w = 5) : gM (msends S m set) m w = gM S m w := by
  unfold msends; rw [msends_M, mstart_M hw]
theorem mcalled5 {S : mS} {m a : Nat} : gM (mnone (sM (sM S m 6 a) m 1 1) m) m 5 = gM S m 5 := by simp [gM, sM, mnone]
theorem RR.setK0 {c : Nat} {v v3 : vV} {r : Nat} {S : mS} {m : Nat} {l : List mT} (h : RR c v r S) (hm : m < c) (hl : l.length ≤ 12) (e30 : v3 r (14 + 83 * m + 30) = nI l.length) (er : ∀ (k : Nat) (t : mT), l[k]? = some t → v3 r (14 + 83 * m + 31 + 3 * k) = nI t.1 ∧ v3 r (14 + 83 * m + 31 + 3 * k + 1) = nI t.2.1 ∧ v3 r (14 + 83 * m + 31 + 3 * k + 2) = nI t.2.2) (eo : ∀ i, (i < 14 + 83 * m + 30 ∨ 14 + 83 * m + 67 ≤ i) → v3 r i = v r i) : RR c v3 r (sK S m l) := by
  have h1 := RR.setK (x := gM S m 5) h hm hl (by rw [eo _ (by omega)]; exact h.m hm (by decide)) e30 er (fun i _ q => eo i q)
  have e : sM S m 5 (gM S m 5) = S := by
    have e1 : (fun a b => if a = m then (if b = 5 then gM S m 5 else S.2.1 a b) else S.2.1 a b) = S.2.1 := by
      funext a b
      by_cases h1 : a = m
      · by_cases h2 : b = 5
        · simp [h1, h2, gM]
        · simp [h1, h2]
      · simp [h1]
    unfold sM; rw [e1]
  rw [e] at h1
  exact h1
set_option maxHeartbeats 4000000 in
set_option maxRecDepth 100000 in
theorem c_X7_stands {σ : vS} {v : vV} {c r : Nat} {S : mS} {m B : Nat} (hr : vK σ r 8 2012) (hR : RR c v r S) (hN : NB c S B) (hB : B + 100 < 1000000000) (hm : m < c) : vC M_X7_stands yX7_stands [.ref (r), .int (nI (m))] (σ, v) (qS σ none (rP c v r (mstands S m))) := by
  have hc6 := hR.c6
  have hO : vO9 v v r := vO9.rf
  refine vC_of (ls := [some (.ref (r)), some (.int (nI (m))), none, none, none]) pn_X7 rfl rfl (Nat.le_of_ble_eq_true rfl) rfl ?_
  refine P_aload_n dX7_stands_0 rfl rfl ?_
  refine P_iload_n dX7_stands_1 rfl rfl ?_
  refine P_bipush (v := nI 8) dX7_stands_2 (by decide) ?_
  refine P_cSp (rest := []) (As := [.ref (r), .int (nI (m)), .int (nI (8))]) dX7_stands_4 lX7_44 yk_X7_of ys_X7_of (by decide) rfl rfl (Nat.le_of_ble_eq_true rfl) rfl (c_X7_of hr (by omega) (by decide)) ?_
  refine P_top (y := (nI (gM S m 8))) (hR.m (by omega) (by decide)) ?_
  refine P_istore_n (ls2 := [some (.ref (r)), some (.int (nI (m))), some (.int (nI (gM S m 8))), none, none]) dX7_stands_7 rfl (by decide) rfl ?_
  refine P_aload_n dX7_stands_8 rfl rfl ?_
  refine P_iload_n dX7_stands_9 rfl rfl ?_
  refine P_bipush (v := nI 9) dX7_stands_10 (by decide) ?_
  refine P_cSp (rest := []) (As := [.ref (r), .int (nI (m)), .int (nI (9))]) dX7_stands_12 lX7_44 yk_X7_of ys_X7_of (by decide) rfl rfl (Nat.le_of_ble_eq_true rfl) rfl (c_X7_of hr (by omega) (by decide)) ?_
  refine P_top (y := (nI (gM S m 9))) (hR.m (by omega) (by decide)) ?_
  refine P_istore_n (ls2 := [some (.ref (r)), some (.int (nI (m))), some (.int (nI (gM S m 8))), some (.int (nI (gM S m 9))), none]) dX7_stands_15 rfl (by decide) rfl ?_
  refine P_aload_n dX7_stands_16 rfl rfl ?_
  refine P_bipush (v := nI 6) dX7_stands_17 (by decide) ?_
  refine P_dup2 dX7_stands_19 rfl rfl ?_
  refine P_ialdN (x := nI (gG S 6)) (6) dX7_stands_20 hr rfl (by omega) (by decide) (hR.g (by decide) (by decide)) ?_
  refine P_iconst (v := nI 1) dX7_stands_21 (by decide) ?_
  refine P_iaddN dX7_stands_22 ?_
  refine P_iast (6) dX7_stands_23 hr rfl (by omega) (by decide) ?_
  have hR1 : RR c (vU v r (6) (nI (gG S 6 + 1))) r (sG S 6 (gG S 6 + 1)) := (hR.G (x := gG S 6 + 1) (by decide) (by decide) (by decide))
  have hO2 : vO9 v (vU v r (6) (nI (gG S 6 + 1))) r := hO.u
  generalize vU v r (6) (nI (gG S 6 + 1)) = v3 at hR1 hO2 ⊢
  have hN1 : NB c (sG S 6 (gG S 6 + 1)) (B + 1) := (hN.up (Nat.le_succ B)).G (by decide) (by have := hN.g (i := 6) (by decide); show gG S 6 + 1 ≤ B + 1; omega)
  have h8 := hN.m8 m
  refine P_aload_n dX7_stands_24 rfl rfl ?_
  refine P_iload_n dX7_stands_25 rfl rfl ?_
  refine P_iload_n dX7_stands_26 rfl rfl ?_
  refine P_iload_n dX7_stands_27 rfl rfl ?_
  refine P_iload_n dX7_stands_28 rfl rfl ?_
  refine P_aload_n dX7_stands_29 rfl rfl ?_
  refine P_iload_n dX7_stands_30 rfl rfl ?_
  refine P_iload_n dX7_stands_31 rfl rfl ?_
  refine P_cSp (rest := [.int (nI (gM S m 9)), .int (nI (m)), .int (nI (gM S m 8)), .int (nI (m)), .ref (r)]) (As := [.ref (r), .int (nI (m)), .int (nI (m))]) dX7_stands_32 lX7_74 yk_X7_heardBy ys_X7_heardBy (by decide) rfl rfl (Nat.le_of_ble_eq_true rfl) rfl (c_X7_heardBy hr hR1 hN1 (by omega) hm (by omega)) ?_
  refine P_top (y := nI (mheard S m m)) (by rw [mheard_G]) ?_
  refine P_cSs (rest := []) (As := [.ref (r), .int (nI (m)), .int (nI (gM S m 8)), .int (nI (m)), .int (nI (gM S m 9)), .int (nI (mheard S m m))]) dX7_stands_35 lX7_77 yk_X7_told ys_X7_told (by decide) rfl rfl (Nat.le_of_ble_eq_true rfl) rfl (c_X7_told hr hR1 hN1 (by omega) hm (by omega) (by omega)) (fun v6 ⟨hR4, hO5⟩ => ?_)
  replace hO5 := hO2.tr hO5
  refine P_iconst (v := nI 0) dX7_stands_38 (by decide) ?_
  refine P_istore (ls2 := [some (.ref (r)), some (.int (nI (m))), some (.int (nI (gM S m 8))), some (.int (nI (gM S m 9))), some (.int (nI (0)))]) dX7_stands_39 (by decide) rfl ?_
  have hL41 : ∀ (n41 : Nat) (k : Nat) (v1 : vV), (k ≤ c) → (k + n41 = c + 1) → (RR c v1 r (mup (mstandsF m (gM S m 8) (gM S m 9)) k (mtold (sG S 6 (gG S 6 + 1)) m (gM S m 8) m (gM S m 9) (mheard S m m)))) → (vO9 v v1 r) → vP M_X7_stands 41 [some (.ref (r)), some (.int (nI (m))), some (.int (nI (gM S m 8))), some (.int (nI (gM S m 9))), some (.int (nI (k)))] [] ((vRm M_X7_stands).cells, (vRm M_X7_stands).slots) (σ, v1) (vN (qS σ none (rP c v r (mstands S m)))) := by
    intro n41
    induction n41 with
    | zero =>
      intro k v1 h1 h2 hRk hOk
      exact absurd h2 (by omega)
    | succ n41 ih41 =>
      intro k v1 h1 h2 hRk hOk
      have hNk : NB c (mup (mstandsF m (gM S m 8) (gM S m 9)) k (mtold (sG S 6 (gG S 6 + 1)) m (gM S m 8) m (gM S m 9) (mheard S m m))) (B + 7) := hN.stN hm k h1
      refine P_iload dX7_stands_41 rfl ?_
      refine P_aload_n dX7_stands_43 rfl rfl ?_
      refine P_iconst (v := nI 0) dX7_stands_44 (by decide) ?_
      refine P_ialdN (x := nI (c)) (0) dX7_stands_45 hr rfl (by omega) (by decide) hRk.cc ?_
      refine P_icmp_geN (tgt := 87) dX7_stands_46 (by decide) (by omega) (by omega) (fun c46 => ?_) (fun c46 => ?_)
      · refine P_aload_n dX7_stands_87 rfl rfl ?_
        refine P_iload_n dX7_stands_88 rfl rfl ?_
        refine P_cSs (rest := []) (As := [.ref (r), .int (nI (m))]) dX7_stands_89 lX7_85 yk_X7_callsNone ys_X7_callsNone (by decide) rfl rfl (Nat.le_of_ble_eq_true rfl) rfl (c_X7_callsNone hr hRk hm) (fun v9 ⟨hR7, hO8⟩ => ?_)
        replace hO8 := hOk.tr hO8
        refine P_vret dX7_stands_92 rfl ?_
        refine q_s rfl ⟨?_, hO8⟩
        unfold mstands
        rw [hR.c0]
        have ek : k = c := by omega
        rw [ek] at hR7
        exact hR7
      · refine P_iload dX7_stands_49 rfl ?_
        refine P_iload_n dX7_stands_51 rfl rfl ?_
        refine P_icmp_eqN (tgt := 81) dX7_stands_52 (by decide) (by omega) (by omega) (fun c52 => ?_) (fun c52 => ?_)
        · refine P_iinc (v := nI (k + 1)) (ls2 := [some (.ref (r)), some (.int (nI (m))), some (.int (nI (gM S m 8))), some (.int (nI (gM S m 9))), some (.int (nI (k + 1)))]) dX7_stands_81 rfl (nI_inc _ 1) (by decide) rfl ?_
          refine P_goto (tgt := 41) dX7_stands_84 (by decide) ?_
          refine ih41 (k + 1) v1 (by omega) (by omega) ?_ hOk
          show RR c v1 r (mstandsF m (gM S m 8) (gM S m 9) k (mup (mstandsF m (gM S m 8) (gM S m 9)) k (mtold (sG S 6 (gG S 6 + 1)) m (gM S m 8) m (gM S m 9) (mheard S m m))))
          unfold mstandsF
          rw [if_neg (fun q => q.1 c52)]
          exact hRk
        · refine P_iload_n dX7_stands_55 rfl rfl ?_
          refine P_iload dX7_stands_56 rfl ?_
          refine P_cSp (rest := []) (As := [.int (nI (gM S m 9)), .int (nI (k))]) dX7_stands_58 lX7_48 yk_X7_has ys_X7_has (by decide) rfl rfl (Nat.le_of_ble_eq_true rfl) rfl (c_X7_has (by have := hN.m9 m; omega) (by omega)) ?_
          refine P_bif_eq (tgt := 81) dX7_stands_61 (by decide) (fun c61 => ?_) (fun c61 => ?_)
          · refine P_iinc (v := nI (k + 1)) (ls2 := [some (.ref (r)), some (.int (nI (m))), some (.int (nI (gM S m 8))), some (.int (nI (gM S m 9))), some (.int (nI (k + 1)))]) dX7_stands_81 rfl (nI_inc _ 1) (by decide) rfl ?_
            refine P_goto (tgt := 41) dX7_stands_84 (by decide) ?_
            refine ih41 (k + 1) v1 (by omega) (by omega) ?_ hOk
            show RR c v1 r (mstandsF m (gM S m 8) (gM S m 9) k (mup (mstandsF m (gM S m 8) (gM S m 9)) k (mtold (sG S 6 (gG S 6 + 1)) m (gM S m 8) m (gM S m 9) (mheard S m m))))
            unfold mstandsF
            rw [if_neg (fun q => by rw [c61] at q; exact Bool.false_ne_true q.2)]
            exact hRk
          · refine P_aload_n dX7_stands_64 rfl rfl ?_
            refine P_iconst (v := nI 3) dX7_stands_65 (by decide) ?_
            refine P_iload_n dX7_stands_66 rfl rfl ?_
            refine P_iload dX7_stands_67 rfl ?_
            refine P_iload_n dX7_stands_69 rfl rfl ?_
            refine P_iload_n dX7_stands_70 rfl rfl ?_
            refine P_aload_n dX7_stands_71 rfl rfl ?_
            refine P_iload_n dX7_stands_72 rfl rfl ?_
            refine P_iload dX7_stands_73 rfl ?_
            refine P_cSp (rest := [.int (nI (m)), .int (nI (gM S m 8)), .int (nI (k)), .int (nI (m)), .int (nI (3)), .ref (r)]) (As := [.ref (r), .int (nI (m)), .int (nI (k))]) dX7_stands_75 lX7_74 yk_X7_heardBy ys_X7_heardBy (by decide) rfl rfl (Nat.le_of_ble_eq_true rfl) rfl (c_X7_heardBy hr hRk hNk (by omega) hm (by omega)) ?_
            refine P_cSs (rest := []) (As := [.ref (r), .int (nI (3)), .int (nI (m)), .int (nI (k)), .int (nI (gM S m 8)), .int (nI (m)), .int (nI (mheard (mup (mstandsF m (gM S m 8) (gM S m 9)) k (mtold (sG S 6 (gG S 6 + 1)) m (gM S m 8) m (gM S m 9) (mheard S m m))) m k))]) dX7_stands_78 lX7_81 yk_X7_send ys_X7_send (by decide) rfl rfl (Nat.le_of_ble_eq_true rfl) rfl (c_X7_send hr hRk hNk (by omega) hm (by omega)) (fun v12 ⟨hR10, hO11⟩ => ?_)
            replace hO11 := hOk.tr hO11
            refine P_iinc (v := nI (k + 1)) (ls2 := [some (.ref (r)), some (.int (nI (m))), some (.int (nI (gM S m 8))), some (.int (nI (gM S m 9))), some (.int (nI (k + 1)))]) dX7_stands_81 rfl (nI_inc _ 1) (by decide) rfl ?_
            refine P_goto (tgt := 41) dX7_stands_84 (by decide) ?_
            refine ih41 (k + 1) v12 (by omega) (by omega) ?_ hO11
            show RR c v12 r (mstandsF m (gM S m 8) (gM S m 9) k (mup (mstandsF m (gM S m 8) (gM S m 9)) k (mtold (sG S 6 (gG S 6 + 1)) m (gM S m 8) m (gM S m 9) (mheard S m m))))
            unfold mstandsF
            rw [if_pos ⟨c52, c61⟩]
            exact hR10
  exact hL41 (c + 1) 0 v6 (by omega) (by omega) hR4 hO5
set_option maxHeartbeats 4000000 in
set_option maxRecDepth 100000 in
theorem c_X7_answers {σ : vS} {v : vV} {c r : Nat} {S : mS} {m frm num by9 heard B : Nat} (hr : vK σ r 8 2012) (hR : RR c v r S) (hN : NB c S B) (hB : B + 100 < 1000000000) (hm : m < c) (hf : frm < 6) (h1 : num ≤ B) (h2 : by9 < 6) (h3 : heard < 16777216) : vC M_X7_answers yX7_answers [.ref (r), .int (nI (m)), .int (nI (frm)), .int (nI (num)), .int (nI (by9)), .int (nI (heard))] (σ, v) (qS σ none (rP c v r (mans S m frm num by9 heard))) := by
  have hc6 := hR.c6
  have hO : vO9 v v r := vO9.rf
  refine vC_of (ls := [some (.ref (r)), some (.int (nI (m))), some (.int (nI (frm))), some (.int (nI (num))), some (.int (nI (by9))), some (.int (nI (heard))), none]) pn_X7 rfl rfl (Nat.le_of_ble_eq_true rfl) rfl ?_
  refine P_bipush (v := nI 14) dX7_answers_0 (by decide) ?_
  refine P_bipush (v := nI 83) dX7_answers_2 (by decide) ?_
  refine P_iload_n dX7_answers_4 rfl rfl ?_
  refine P_imulN dX7_answers_5 ?_
  refine P_iaddN dX7_answers_6 ?_
  refine P_bipush (v := nI 12) dX7_answers_7 (by decide) ?_
  refine P_iaddN dX7_answers_9 ?_
  refine P_iconst (v := nI 3) dX7_answers_10 (by decide) ?_
  refine P_iload_n dX7_answers_11 rfl rfl ?_
  refine P_imulN dX7_answers_12 ?_
  refine P_iaddN dX7_answers_13 ?_
  refine P_istore (ls2 := [some (.ref (r)), some (.int (nI (m))), some (.int (nI (frm))), some (.int (nI (num))), some (.int (nI (by9))), some (.int (nI (heard))), some (.int (nI (14 + 83 * m + 12 + 3 * frm)))]) dX7_answers_14 (by decide) rfl ?_
  refine P_aload_n dX7_answers_16 rfl rfl ?_
  refine P_iload dX7_answers_17 rfl ?_
  refine P_iload_n dX7_answers_19 rfl rfl ?_
  refine P_iast (14 + 83 * m + 12 + 3 * frm) dX7_answers_20 hr rfl (by omega) (by decide) ?_
  have hR1 : RR c (vU v r (14 + 83 * m + 12 + 3 * frm) (nI (num))) r (sM S m (12 + 3 * frm) num) := hR.A1 (m := m) (k := frm) (x := num) hm hf
  have hO2 : vO9 v (vU v r (14 + 83 * m + 12 + 3 * frm) (nI (num))) r := hO.u
  generalize vU v r (14 + 83 * m + 12 + 3 * frm) (nI (num)) = v3 at hR1 hO2 ⊢
  refine P_aload_n dX7_answers_21 rfl rfl ?_
  refine P_iload dX7_answers_22 rfl ?_
  refine P_iconst (v := nI 1) dX7_answers_24 (by decide) ?_
  refine P_iaddN dX7_answers_25 ?_
  refine P_iload dX7_answers_26 rfl ?_
  refine P_iast (14 + 83 * m + 12 + 3 * frm + 1) dX7_answers_28 hr rfl (by omega) (by decide) ?_
  have hR4 : RR c (vU v3 r (14 + 83 * m + 12 + 3 * frm + 1) (nI (by9))) r (sM (sM S m (12 + 3 * frm) num) m (13 + 3 * frm) by9) := hR1.A2 (m := m) (k := frm) (x := by9) hm hf
  have hO5 : vO9 v (vU v3 r (14 + 83 * m + 12 + 3 * frm + 1) (nI (by9))) r := hO2.u
  generalize vU v3 r (14 + 83 * m + 12 + 3 * frm + 1) (nI (by9)) = v6 at hR4 hO5 ⊢
  refine P_aload_n dX7_answers_29 rfl rfl ?_
  refine P_iload dX7_answers_30 rfl ?_
  refine P_iconst (v := nI 2) dX7_answers_32 (by decide) ?_
  refine P_iaddN dX7_answers_33 ?_
  refine P_iload dX7_answers_34 rfl ?_
  refine P_iast (14 + 83 * m + 12 + 3 * frm + 2) dX7_answers_36 hr rfl (by omega) (by decide) ?_
  have hR7 : RR c (vU v6 r (14 + 83 * m + 12 + 3 * frm + 2) (nI (heard))) r (sM (sM (sM S m (12 + 3 * frm) num) m (13 + 3 * frm) by9) m (14 + 3 * frm) heard) := hR4.A3 (m := m) (k := frm) (x := heard) hm hf
  have hO8 : vO9 v (vU v6 r (14 + 83 * m + 12 + 3 * frm + 2) (nI (heard))) r := hO5.u
  generalize vU v6 r (14 + 83 * m + 12 + 3 * frm + 2) (nI (heard)) = v9 at hR7 hO8 ⊢
  refine P_aload_n dX7_answers_37 rfl rfl ?_
  refine P_iload_n dX7_answers_38 rfl rfl ?_
  refine P_bipush (v := nI 10) dX7_answers_39 (by decide) ?_
  refine P_aload_n dX7_answers_41 rfl rfl ?_
  refine P_iload_n dX7_answers_42 rfl rfl ?_
  refine P_bipush (v := nI 10) dX7_answers_43 (by decide) ?_
  refine P_cSp (rest := [.int (nI (10)), .int (nI (m)), .ref (r)]) (As := [.ref (r), .int (nI (m)), .int (nI (10))]) dX7_answers_45 lX7_44 yk_X7_of ys_X7_of (by decide) rfl rfl (Nat.le_of_ble_eq_true rfl) rfl (c_X7_of hr (by omega) (by decide)) ?_
  refine P_top (y := nI (gM S m 10)) (by rw [hR7.m hm (by decide), mA10]) ?_
  refine P_iconst (v := nI 1) dX7_answers_48 (by decide) ?_
  refine P_iload_n dX7_answers_49 rfl rfl ?_
  refine P_ishlN dX7_answers_50 (by omega) ?_
  refine P_iorN dX7_answers_51 ?_
  refine P_cSs (rest := []) (As := [.ref (r), .int (nI (m)), .int (nI (10)), .int (nI ((gM S m 10) ||| (1 <<< frm)))]) dX7_answers_52 lX7_58 yk_X7_lay ys_X7_lay (by decide) rfl rfl (Nat.le_of_ble_eq_true rfl) rfl (c_X7_lay hr (by omega) (by decide)) (fun v12 e13 => ?_)
  have hR10 : RR c v12 r (sM (sM (sM (sM S m (12 + 3 * frm) num) m (13 + 3 * frm) by9) m (14 + 3 * frm) heard) m 10 ((gM S m 10) ||| (1 <<< frm))) := by rw [e13]; exact hR7.M (by omega) (by decide)
  have hO11 : vO9 v v12 r := by rw [e13]; exact hO8.u
  clear e13
  have hRp : RR c v12 r (mputA S m frm num by9 heard) := hR10
  have hNp := hN.putA (m := m) (num := num) (by9 := by9) (heard := heard) hf h1 h2 h3
  refine P_aload_n dX7_answers_55 rfl rfl ?_
  refine P_iload_n dX7_answers_56 rfl rfl ?_
  refine P_bipush (v := nI 10) dX7_answers_57 (by decide) ?_
  refine P_cSp (rest := []) (As := [.ref (r), .int (nI (m)), .int (nI (10))]) dX7_answers_59 lX7_44 yk_X7_of ys_X7_of (by decide) rfl rfl (Nat.le_of_ble_eq_true rfl) rfl (c_X7_of hr (by omega) (by decide)) ?_
  refine P_top (y := (nI (gM (mputA S m frm num by9 heard) m 10))) (hRp.m (by omega) (by decide)) ?_
  refine P_aload_n dX7_answers_62 rfl rfl ?_
  refine P_iload_n dX7_answers_63 rfl rfl ?_
  refine P_bipush (v := nI 9) dX7_answers_64 (by decide) ?_
  refine P_cSp (rest := [.int (nI (gM (mputA S m frm num by9 heard) m 10))]) (As := [.ref (r), .int (nI (m)), .int (nI (9))]) dX7_answers_66 lX7_44 yk_X7_of ys_X7_of (by decide) rfl rfl (Nat.le_of_ble_eq_true rfl) rfl (c_X7_of hr (by omega) (by decide)) ?_
  refine P_top (y := (nI (gM (mputA S m frm num by9 heard) m 9))) (hRp.m (by omega) (by decide)) ?_
  refine P_icmp_neN (tgt := 77) dX7_answers_69 (by decide) (by have := hNp.m10 m; omega) (by have := hNp.m9 m; omega) (fun c69 => ?_) (fun c69 => ?_)
  · refine P_vret dX7_answers_77 rfl ?_
    refine q_s rfl ⟨?_, hO11⟩
    unfold mans
    rw [if_neg c69]
    exact hRp
  · refine P_aload_n dX7_answers_72 rfl rfl ?_
    refine P_iload_n dX7_answers_73 rfl rfl ?_
    refine P_cSs (rest := []) (As := [.ref (r), .int (nI (m))]) dX7_answers_74 lX7_70 yk_X7_stands ys_X7_stands (by decide) rfl rfl (Nat.le_of_ble_eq_true rfl) rfl (c_X7_stands hr hRp hNp (by omega) hm) (fun v16 ⟨hR14, hO15⟩ => ?_)
    replace hO15 := hO11.tr hO15
    refine P_vret dX7_answers_77 rfl ?_
    refine q_s rfl ⟨?_, hO15⟩
    unfold mans
    rw [if_pos c69]
    exact hR14
set_option maxHeartbeats 4000000 in
set_option maxRecDepth 100000 in
theorem c_X7_callOn {σ : vS} {v : vV} {c r : Nat} {S : mS} {m set B : Nat} (hr : vK σ r 8 2012) (hR : RR c v r S) (hN : NB c S B) (hB : B + 200 < 1000000000) (hm : m < c) (hs : set < 64) : vC M_X7_callOn yX7_callOn [.ref (r), .int (nI (m)), .int (nI (set))] (σ, v) (qS σ (some (.int (nI (gM S m 6 + 1)))) (rP c v r (mcall S m set))) := by
  have hc6 := hR.c6
  have hO : vO9 v v r := vO9.rf
  refine vC_of (ls := [some (.ref (r)), some (.int (nI (m))), some (.int (nI (set))), none, none]) pn_X7 rfl rfl (Nat.le_of_ble_eq_true rfl) rfl ?_
  refine P_aload_n dX7_callOn_0 rfl rfl ?_
  refine P_iload_n dX7_callOn_1 rfl rfl ?_
  refine P_bipush (v := nI 6) dX7_callOn_2 (by decide) ?_
  refine P_cSp (rest := []) (As := [.ref (r), .int (nI (m)), .int (nI (6))]) dX7_callOn_4 lX7_44 yk_X7_of ys_X7_of (by decide) rfl rfl (Nat.le_of_ble_eq_true rfl) rfl (c_X7_of hr (by omega) (by decide)) ?_
  refine P_top (y := (nI (gM S m 6))) (hR.m (by omega) (by decide)) ?_
  refine P_iconst (v := nI 1) dX7_callOn_7 (by decide) ?_
  refine P_iaddN dX7_callOn_8 ?_
  refine P_istore_n (ls2 := [some (.ref (r)), some (.int (nI (m))), some (.int (nI (set))), some (.int (nI (gM S m 6 + 1))), none]) dX7_callOn_9 rfl (by decide) rfl ?_
  refine P_aload_n dX7_callOn_10 rfl rfl ?_
  refine P_iload_n dX7_callOn_11 rfl rfl ?_
  refine P_bipush (v := nI 6) dX7_callOn_12 (by decide) ?_
  refine P_iload_n dX7_callOn_14 rfl rfl ?_
  refine P_cSs (rest := []) (As := [.ref (r), .int (nI (m)), .int (nI (6)), .int (nI (gM S m 6 + 1))]) dX7_callOn_15 lX7_58 yk_X7_lay ys_X7_lay (by decide) rfl rfl (Nat.le_of_ble_eq_true rfl) rfl (c_X7_lay hr (by omega) (by decide)) (fun v3 e4 => ?_)
  have hR1 : RR c v3 r (sM S m 6 (gM S m 6 + 1)) := by rw [e4]; exact hR.M (by omega) (by decide)
  have hO2 : vO9 v v3 r := by rw [e4]; exact hO.u
  clear e4
  refine P_aload_n dX7_callOn_18 rfl rfl ?_
  refine P_iload_n dX7_callOn_19 rfl rfl ?_
  refine P_iconst (v := nI 1) dX7_callOn_20 (by decide) ?_
  refine P_iconst (v := nI 1) dX7_callOn_21 (by decide) ?_
  refine P_cSs (rest := []) (As := [.ref (r), .int (nI (m)), .int (nI (1)), .int (nI (1))]) dX7_callOn_22 lX7_58 yk_X7_lay ys_X7_lay (by decide) rfl rfl (Nat.le_of_ble_eq_true rfl) rfl (c_X7_lay hr (by omega) (by decide)) (fun v7 e8 => ?_)
  have hR5 : RR c v7 r (sM (sM S m 6 (gM S m 6 + 1)) m 1 1) := by rw [e8]; exact hR1.M (by omega) (by decide)
  have hO6 : vO9 v v7 r := by rw [e8]; exact hO2.u
  clear e8
  refine P_aload_n dX7_callOn_25 rfl rfl ?_
  refine P_iload_n dX7_callOn_26 rfl rfl ?_
  refine P_bipush (v := nI 8) dX7_callOn_27 (by decide) ?_
  refine P_iload_n dX7_callOn_29 rfl rfl ?_
  refine P_cSs (rest := []) (As := [.ref (r), .int (nI (m)), .int (nI (8)), .int (nI (gM S m 6 + 1))]) dX7_callOn_30 lX7_58 yk_X7_lay ys_X7_lay (by decide) rfl rfl (Nat.le_of_ble_eq_true rfl) rfl (c_X7_lay hr (by omega) (by decide)) (fun v11 e12 => ?_)
  have hR9 : RR c v11 r (sM (sM (sM S m 6 (gM S m 6 + 1)) m 1 1) m 8 (gM S m 6 + 1)) := by rw [e12]; exact hR5.M (by omega) (by decide)
  have hO10 : vO9 v v11 r := by rw [e12]; exact hO6.u
  clear e12
  refine P_aload_n dX7_callOn_33 rfl rfl ?_
  refine P_iload_n dX7_callOn_34 rfl rfl ?_
  refine P_bipush (v := nI 9) dX7_callOn_35 (by decide) ?_
  refine P_iload_n dX7_callOn_37 rfl rfl ?_
  refine P_cSs (rest := []) (As := [.ref (r), .int (nI (m)), .int (nI (9)), .int (nI (set))]) dX7_callOn_38 lX7_58 yk_X7_lay ys_X7_lay (by decide) rfl rfl (Nat.le_of_ble_eq_true rfl) rfl (c_X7_lay hr (by omega) (by decide)) (fun v15 e16 => ?_)
  have hR13 : RR c v15 r (sM (sM (sM (sM S m 6 (gM S m 6 + 1)) m 1 1) m 8 (gM S m 6 + 1)) m 9 set) := by rw [e16]; exact hR9.M (by omega) (by decide)
  have hO14 : vO9 v v15 r := by rw [e16]; exact hO10.u
  clear e16
  refine P_aload_n dX7_callOn_41 rfl rfl ?_
  refine P_iload_n dX7_callOn_42 rfl rfl ?_
  refine P_bipush (v := nI 10) dX7_callOn_43 (by decide) ?_
  refine P_iconst (v := nI 0) dX7_callOn_45 (by decide) ?_
  refine P_cSs (rest := []) (As := [.ref (r), .int (nI (m)), .int (nI (10)), .int (nI (0))]) dX7_callOn_46 lX7_58 yk_X7_lay ys_X7_lay (by decide) rfl rfl (Nat.le_of_ble_eq_true rfl) rfl (c_X7_lay hr (by omega) (by decide)) (fun v19 e20 => ?_)
  have hR17 : RR c v19 r (sM (sM (sM (sM (sM S m 6 (gM S m 6 + 1)) m 1 1) m 8 (gM S m 6 + 1)) m 9 set) m 10 0) := by rw [e20]; exact hR13.M (by omega) (by decide)
  have hO18 : vO9 v v19 r := by rw [e20]; exact hO14.u
  clear e20
  refine P_aload_n dX7_callOn_49 rfl rfl ?_
  refine P_iload_n dX7_callOn_50 rfl rfl ?_
  refine P_bipush (v := nI 11) dX7_callOn_51 (by decide) ?_
  refine P_aload_n dX7_callOn_53 rfl rfl ?_
  refine P_iconst (v := nI 1) dX7_callOn_54 (by decide) ?_
  refine P_ialdN (x := nI (gG (sM (sM (sM (sM (sM S m 6 (gM S m 6 + 1)) m 1 1) m 8 (gM S m 6 + 1)) m 9 set) m 10 0) 1)) (1) dX7_callOn_55 hr rfl (by omega) (by decide) (hR17.g (by decide) (by decide)) ?_
  refine P_cSs (rest := []) (As := [.ref (r), .int (nI (m)), .int (nI (11)), .int (nI (gG (sM (sM (sM (sM (sM S m 6 (gM S m 6 + 1)) m 1 1) m 8 (gM S m 6 + 1)) m 9 set) m 10 0) 1))]) dX7_callOn_56 lX7_58 yk_X7_lay ys_X7_lay (by decide) rfl rfl (Nat.le_of_ble_eq_true rfl) rfl (c_X7_lay hr (by omega) (by decide)) (fun v23 e24 => ?_)
  have hR21 : RR c v23 r (sM (sM (sM (sM (sM (sM S m 6 (gM S m 6 + 1)) m 1 1) m 8 (gM S m 6 + 1)) m 9 set) m 10 0) m 11 (gG (sM (sM (sM (sM (sM S m 6 (gM S m 6 + 1)) m 1 1) m 8 (gM S m 6 + 1)) m 9 set) m 10 0) 1)) := by rw [e24]; exact hR17.M (by omega) (by decide)
  have hO22 : vO9 v v23 r := by rw [e24]; exact hO18.u
  clear e24
  have hRs : RR c v23 r (mstart S m set) := hR21
  have hJ109 : ∀ (v1 : vV), (RR c v1 r (msends S m set)) → (vO9 v v1 r) → vP M_X7_callOn 109 [some (.ref (r)), some (.int (nI (m))), some (.int (nI (set))), some (.int (nI (gM S m 6 + 1))), none] [] ((vRm M_X7_callOn).cells, (vRm M_X7_callOn).slots) (σ, v1) (vN (qS σ (some (.int (nI (gM S m 6 + 1)))) (rP c v r (mcall S m set)))) := by
    intro v1 hRj hOj
    refine P_aload_n dX7_callOn_109 rfl rfl ?_
    refine P_iload_n dX7_callOn_110 rfl rfl ?_
    refine P_iload_n dX7_callOn_111 rfl rfl ?_
    refine P_aload_n dX7_callOn_112 rfl rfl ?_
    refine P_iload_n dX7_callOn_113 rfl rfl ?_
    refine P_iconst (v := nI 2) dX7_callOn_114 (by decide) ?_
    refine P_cSp (rest := [.int (nI (m)), .int (nI (m)), .ref (r)]) (As := [.ref (r), .int (nI (m)), .int (nI (2))]) dX7_callOn_115 lX7_44 yk_X7_of ys_X7_of (by decide) rfl rfl (Nat.le_of_ble_eq_true rfl) rfl (c_X7_of hr (by omega) (by decide)) ?_
    refine P_top (y := nI (gM S m 2)) (by rw [hRj.m hm (by decide), msends_m (by decide)]) ?_
    refine P_aload_n dX7_callOn_118 rfl rfl ?_
    refine P_iload_n dX7_callOn_119 rfl rfl ?_
    refine P_iconst (v := nI 3) dX7_callOn_120 (by decide) ?_
    refine P_cSp (rest := [.int (nI (gM S m 2)), .int (nI (m)), .int (nI (m)), .ref (r)]) (As := [.ref (r), .int (nI (m)), .int (nI (3))]) dX7_callOn_121 lX7_44 yk_X7_of ys_X7_of (by decide) rfl rfl (Nat.le_of_ble_eq_true rfl) rfl (c_X7_of hr (by omega) (by decide)) ?_
    refine P_top (y := nI (gM S m 3)) (by rw [hRj.m hm (by decide), msends_m (by decide)]) ?_
    refine P_aload_n dX7_callOn_124 rfl rfl ?_
    refine P_iload_n dX7_callOn_125 rfl rfl ?_
    refine P_iconst (v := nI 5) dX7_callOn_126 (by decide) ?_
    refine P_cSp (rest := [.int (nI (gM S m 3)), .int (nI (gM S m 2)), .int (nI (m)), .int (nI (m)), .ref (r)]) (As := [.ref (r), .int (nI (m)), .int (nI (5))]) dX7_callOn_127 lX7_44 yk_X7_of ys_X7_of (by decide) rfl rfl (Nat.le_of_ble_eq_true rfl) rfl (c_X7_of hr (by omega) (by decide)) ?_
    refine P_top (y := nI (gM S m 5)) (by rw [hRj.m hm (by decide), msends_m (by decide)]) ?_
    refine P_cSs (rest := []) (As := [.ref (r), .int (nI (m)), .int (nI (m)), .int (nI (gM S m 2)), .int (nI (gM S m 3)), .int (nI (gM S m 5))]) dX7_callOn_130 lX7_88 yk_X7_answers ys_X7_answers (by decide) rfl rfl (Nat.le_of_ble_eq_true rfl) rfl (c_X7_answers hr hRj (by unfold msends; rw [hR.c0]; exact hN.sends hm hs c (Nat.le_refl c)) (by omega) hm (by omega) (by have := hN.m2 m; omega) (hN.m3 m) (hN.m5 m)) (fun v27 ⟨hR25, hO26⟩ => ?_)
    replace hO26 := hOj.tr hO26
    refine P_iload_n dX7_callOn_133 rfl rfl ?_
    refine P_iret dX7_callOn_134 rfl ?_
    exact q_s rfl ⟨hR25, hO26⟩
  refine P_iload_n dX7_callOn_59 rfl rfl ?_
  refine P_iconst (v := nI 1) dX7_callOn_60 (by decide) ?_
  refine P_iload_n dX7_callOn_61 rfl rfl ?_
  refine P_ishlN dX7_callOn_62 (by omega) ?_
  refine P_icmp_eqN (tgt := 109) dX7_callOn_63 (by decide) (by first | omega | exact Nat.lt_trans (sh6 (by omega)) (by decide)) (by first | omega | exact Nat.lt_trans (sh6 (by omega)) (by decide)) (fun c63 => ?_) (fun c63 => ?_)
  · exact hJ109 v23 (by rw [c63, mcall_one, ← c63]; exact hRs) hO22
  · refine P_iconst (v := nI 0) dX7_callOn_66 (by decide) ?_
    refine P_istore (ls2 := [some (.ref (r)), some (.int (nI (m))), some (.int (nI (set))), some (.int (nI (gM S m 6 + 1))), some (.int (nI (0)))]) dX7_callOn_67 (by decide) rfl ?_
    have hL69 : ∀ (n69 : Nat) (k : Nat) (v1 : vV), (k ≤ c) → (k + n69 = c + 1) → (RR c v1 r (mup (mcallF m (gM S m 6 + 1) set) k (mstart S m set))) → (vO9 v v1 r) → vP M_X7_callOn 69 [some (.ref (r)), some (.int (nI (m))), some (.int (nI (set))), some (.int (nI (gM S m 6 + 1))), some (.int (nI (k)))] [] ((vRm M_X7_callOn).cells, (vRm M_X7_callOn).slots) (σ, v1) (vN (qS σ (some (.int (nI (gM S m 6 + 1)))) (rP c v r (mcall S m set)))) := by
      intro n69
      induction n69 with
      | zero =>
        intro k v1 h1 h2 hRk hOk
        exact absurd h2 (by omega)
      | succ n69 ih69 =>
        intro k v1 h1 h2 hRk hOk
        have hNk : NB c (mup (mcallF m (gM S m 6 + 1) set) k (mstart S m set)) (B + 7) := hN.sends hm hs k h1
        refine P_iload dX7_callOn_69 rfl ?_
        refine P_aload_n dX7_callOn_71 rfl rfl ?_
        refine P_iconst (v := nI 0) dX7_callOn_72 (by decide) ?_
        refine P_ialdN (x := nI (c)) (0) dX7_callOn_73 hr rfl (by omega) (by decide) hRk.cc ?_
        refine P_icmp_geN (tgt := 109) dX7_callOn_74 (by decide) (by omega) (by omega) (fun c74 => ?_) (fun c74 => ?_)
        · refine P_weak (ls2 := [some (.ref (r)), some (.int (nI (m))), some (.int (nI (set))), some (.int (nI (gM S m 6 + 1))), none]) ⟨rfl, rfl, rfl, rfl, trivial⟩ ?_
          exact hJ109 v1 (by have ek : k = c := (by omega); rw [ek] at hRk; unfold msends; rw [hR.c0]; exact hRk) hOk
        · refine P_iload dX7_callOn_77 rfl ?_
          refine P_iload_n dX7_callOn_79 rfl rfl ?_
          refine P_icmp_eqN (tgt := 103) dX7_callOn_80 (by decide) (by omega) (by omega) (fun c80 => ?_) (fun c80 => ?_)
          · refine P_iinc (v := nI (k + 1)) (ls2 := [some (.ref (r)), some (.int (nI (m))), some (.int (nI (set))), some (.int (nI (gM S m 6 + 1))), some (.int (nI (k + 1)))]) dX7_callOn_103 rfl (nI_inc _ 1) (by decide) rfl ?_
            refine P_goto (tgt := 69) dX7_callOn_106 (by decide) ?_
            refine ih69 (k + 1) v1 (by omega) (by omega) ?_ hOk
            show RR c v1 r (mcallF m (gM S m 6 + 1) set k (mup (mcallF m (gM S m 6 + 1) set) k (mstart S m set)))
            unfold mcallF
            rw [if_neg (fun q => q.1 c80)]
            exact hRk
          · refine P_iload_n dX7_callOn_83 rfl rfl ?_
            refine P_iload dX7_callOn_84 rfl ?_
            refine P_cSp (rest := []) (As := [.int (nI (set)), .int (nI (k))]) dX7_callOn_86 lX7_48 yk_X7_has ys_X7_has (by decide) rfl rfl (Nat.le_of_ble_eq_true rfl) rfl (c_X7_has (by omega) (by omega)) ?_
            refine P_bif_eq (tgt := 103) dX7_callOn_89 (by decide) (fun c89 => ?_) (fun c89 => ?_)
            · refine P_iinc (v := nI (k + 1)) (ls2 := [some (.ref (r)), some (.int (nI (m))), some (.int (nI (set))), some (.int (nI (gM S m 6 + 1))), some (.int (nI (k + 1)))]) dX7_callOn_103 rfl (nI_inc _ 1) (by decide) rfl ?_
              refine P_goto (tgt := 69) dX7_callOn_106 (by decide) ?_
              refine ih69 (k + 1) v1 (by omega) (by omega) ?_ hOk
              show RR c v1 r (mcallF m (gM S m 6 + 1) set k (mup (mcallF m (gM S m 6 + 1) set) k (mstart S m set)))
              unfold mcallF
              rw [if_neg (fun q => by rw [c89] at q; exact Bool.false_ne_true q.2)]
              exact hRk
            · refine P_aload_n dX7_callOn_92 rfl rfl ?_
              refine P_iconst (v := nI 1) dX7_callOn_93 (by decide) ?_
              refine P_iload_n dX7_callOn_94 rfl rfl ?_
              refine P_iload dX7_callOn_95 rfl ?_
              refine P_iload_n dX7_callOn_97 rfl rfl ?_
              refine P_iload_n dX7_callOn_98 rfl rfl ?_
              refine P_iload_n dX7_callOn_99 rfl rfl ?_
              refine P_cSs (rest := []) (As := [.ref (r), .int (nI (1)), .int (nI (m)), .int (nI (k)), .int (nI (gM S m 6 + 1)), .int (nI (m)), .int (nI (set))]) dX7_callOn_100 lX7_81 yk_X7_send ys_X7_send (by decide) rfl rfl (Nat.le_of_ble_eq_true rfl) rfl (c_X7_send hr hRk hNk (by omega) hm (by omega)) (fun v30 ⟨hR28, hO29⟩ => ?_)
              replace hO29 := hOk.tr hO29
              refine P_iinc (v := nI (k + 1)) (ls2 := [some (.ref (r)), some (.int (nI (m))), some (.int (nI (set))), some (.int (nI (gM S m 6 + 1))), some (.int (nI (k + 1)))]) dX7_callOn_103 rfl (nI_inc _ 1) (by decide) rfl ?_
              refine P_goto (tgt := 69) dX7_callOn_106 (by decide) ?_
              refine ih69 (k + 1) v30 (by omega) (by omega) ?_ hO29
              show RR c v30 r (mcallF m (gM S m 6 + 1) set k (mup (mcallF m (gM S m 6 + 1) set) k (mstart S m set)))
              unfold mcallF
              rw [if_pos ⟨c80, c89⟩]
              exact hR28
    exact hL69 (c + 1) 0 v23 (by omega) (by omega) hRs hO22
