set_option maxHeartbeats 4000000 in
set_option maxRecDepth 100000 in
theorem b_cut {σ : vS} {v : vV} {a L i c n B : Nat} {xs : Nat → Int32} {S : mS} {t : mN} {D : List mC} {sl : Nat → Option mC} {Q : vO → vM → Prop} {b : Nat × Nat} (hT : kLT σ 0) (hK : KT v 0 ((t, n), (c, S), D, sl)) (hq : LR σ 1603) (hR0 : RT v 1603 ((t, n), (c, S), D, sl)) (hG : GI B ((t, n), (c, S), D, sl)) (hB1 : 8400100 ≤ B) (hB : B + 6000000 < 1000000000) (hf : σ.2.2.2 = false) (ho : vK σ 1611 12 1) (hi : i + 4 ≤ L) (hL : L ≤ 2048) (hb : 4 ≤ b.1 ∧ 24 ≤ b.2) (k : ∀ (v9 : vV) (T9 : gT), KT v9 0 T9 → RT v9 1603 T9 → GI (B + 70000) T9 → vG (kZl a L xs) M_L_law 1707 [some (.ref (a + 1000000)), some (.ref (0)), some (.ref (1603)), some (.ref (1611)), some (.int (nI (i))), none, none] [] (b.1 - 4, b.2 - 24) (σ, v9) Q) : vG (kZl a L xs) M_L_law 802 [some (.ref (a + 1000000)), some (.ref (0)), some (.ref (1603)), some (.ref (1611)), some (.int (nI (i))), none, none] [] b (σ, v) Q := by
  have hZ : ∀ s args c hz, kZl a L xs s args c hz → a < hz ∧ va_X a L xs s s.heap := fun _ _ _ _ z9 => ⟨z9.1, z9.2.1⟩
  have hk9 := (k_cut (t := t) (n := n) (c := c) (S := S) (D := D) (sl := sl) (a := xs (i + 1)) (d := xs (i + 2)) (z := decide (¬ xs (i + 3) = 0))).1
  have hI : GI (B + 70000) (g_cut ((t, n), (c, S), D, sl) (xs (i + 1)) (xs (i + 2)) (decide (¬ xs (i + 3) = 0))).2.2 := I_cut hG hB1
  refine G_aload_n dL_law_802 rfl rfl ?_
  refine G_aload_n dL_law_803 rfl rfl ?_
  refine G_iload dL_law_804 rfl ?_
  refine G_iconst (v := nI 1) dL_law_806 (by decide) ?_
  refine G_iaddN dL_law_807 ?_
  refine G_sld (i + 1) hZ dL_law_808 rfl (by omega) (by omega) ?_
  refine G_aload_n dL_law_809 rfl rfl ?_
  refine G_iload dL_law_810 rfl ?_
  refine G_iconst (v := nI 2) dL_law_812 (by decide) ?_
  refine G_iaddN dL_law_813 ?_
  refine G_sld (i + 2) hZ dL_law_814 rfl (by omega) (by omega) ?_
  refine G_aload_n dL_law_815 rfl rfl ?_
  refine G_iload dL_law_816 rfl ?_
  refine G_iconst (v := nI 3) dL_law_818 (by decide) ?_
  refine G_iaddN dL_law_819 ?_
  refine G_sld (i + 3) hZ dL_law_820 rfl (by omega) (by omega) ?_
  refine G_if_eq (tgt := 828) dL_law_821 (by decide) (fun c821 => ?_) (fun c821 => ?_)
  · refine G_iconst (v := nI 0) dL_law_828 (by decide) ?_
    refine G_top (y := vb (decide (¬ xs (i + 3) = 0))) (by rw [show decide (¬ xs (i + 3) = 0) = false from decide_eq_false (fun z9 => z9 c821)]; rfl) ?_
    refine G_aload_n dL_law_829 rfl rfl ?_
    refine G_callSW (np := 5) (hh := [(0, 12, 15, 28), (0, 12, 19, 13)]) (rest := []) (As := [.ref (0), .int ((xs (i + 1))), .int ((xs (i + 2))), .int (vb (decide (¬ xs (i + 3) = 0))), .ref (1611)]) (fun _ _ _ _ z9 => z9.2.2) dL_law_830 lL_142 (aw_t 721 (by decide +kernel) (by decide +kernel)) (aw_t 0 (by decide +kernel) (by decide +kernel)) ⟨by decide +kernel, by decide +kernel, by decide +kernel⟩ ys_L_cut ⟨Nat.le_of_ble_eq_true rfl, Nat.le_of_ble_eq_true rfl⟩ rfl rfl (Nat.le_of_ble_eq_true rfl) hb (c_L_cut hT hK hG hB hf ho (by omega)) (fun o9 μ9 h9 hf9 => by obtain ⟨-, v9, rfl, -⟩ := h9; exact absurd (hf.symm.trans hf9) Bool.false_ne_true) ?_
    rintro o9 μ9 ⟨rfl, v1, rfl, hK1, hout, hfr⟩
    have hR1 : RT v1 1603 ((t, n), (c, S), D, sl) := hR0.of (fun j _ _ _ => by rw [hfr 1603 (by omega) (by omega)]) (fun m g1 g2 _ => hfr m (by omega) (by omega))
    refine G_istore (ls2 := [some (.ref (a + 1000000)), some (.ref (0)), some (.ref (1603)), some (.ref (1611)), some (.int (nI (i))), some (.int (nI ((g_cut ((t, n), (c, S), D, sl) (xs (i + 1)) (xs (i + 2)) (decide (¬ xs (i + 3) = 0))).1))), none]) dL_law_833 (by decide) rfl ?_
    refine G_aload_n dL_law_835 rfl rfl ?_
    refine G_aload_n dL_law_836 rfl rfl ?_
    refine G_iload dL_law_837 rfl ?_
    refine G_iconst (v := nI 1) dL_law_839 (by decide) ?_
    refine G_iaddN dL_law_840 ?_
    refine G_sld (i + 1) hZ dL_law_841 rfl (by omega) (by omega) ?_
    refine G_aload_n dL_law_842 rfl rfl ?_
    refine G_iload dL_law_843 rfl ?_
    refine G_iconst (v := nI 2) dL_law_845 (by decide) ?_
    refine G_iaddN dL_law_846 ?_
    refine G_sld (i + 2) hZ dL_law_847 rfl (by omega) (by omega) ?_
    refine G_aload_n dL_law_848 rfl rfl ?_
    refine G_iload dL_law_849 rfl ?_
    refine G_iconst (v := nI 3) dL_law_851 (by decide) ?_
    refine G_iaddN dL_law_852 ?_
    refine G_sld (i + 3) hZ dL_law_853 rfl (by omega) (by omega) ?_
    refine G_if_eq (tgt := 861) dL_law_854 (by decide) (fun c854 => ?_) (fun c854 => ?_)
    · refine G_iconst (v := nI 0) dL_law_861 (by decide) ?_
      refine G_top (y := vb (decide (¬ xs (i + 3) = 0))) (by rw [show decide (¬ xs (i + 3) = 0) = false from decide_eq_false (fun z9 => z9 c854)]; rfl) ?_
      refine G_cVs (rest := []) (As := [.int ((xs (i + 1))), .int ((xs (i + 2))), .int (vb (decide (¬ xs (i + 3) = 0)))]) dL_law_862 lL_145 yk_X7_cut yv_X7_cut kX7 rfl (by decide) hq.o rfl rfl (Nat.le_of_ble_eq_true rfl) rfl (c_X7_cut hq hR1 hG hB) (fun v2 hq2 => ?_)
      obtain ⟨h20, hR2, hw2⟩ := hq2
      have hK2 := hK1.out hw2 (Or.inl (by omega))
      have hout2 : (g_cut ((t, n), (c, S), D, sl) (xs (i + 1)) (xs (i + 2)) (decide (¬ xs (i + 3) = 0))).1 = 0 → v2 1611 0 = (g_cut ((t, n), (c, S), D, sl) (xs (i + 1)) (xs (i + 2)) (decide (¬ xs (i + 3) = 0))).2.1 := fun z9 => by rw [hw2 1611 (by omega)]; exact hout z9
      refine G_istore (ls2 := [some (.ref (a + 1000000)), some (.ref (0)), some (.ref (1603)), some (.ref (1611)), some (.int (nI (i))), some (.int (nI ((g_cut ((t, n), (c, S), D, sl) (xs (i + 1)) (xs (i + 2)) (decide (¬ xs (i + 3) = 0))).1))), some (.int (((g_cut ((t, n), (c, S), D, sl) (xs (i + 1)) (xs (i + 2)) (decide (¬ xs (i + 3) = 0))).2.1)))]) dL_law_865 (by decide) rfl ?_
      refine G_aload_n dL_law_867 rfl rfl ?_
      refine G_cVp (rest := []) (As := []) dL_law_868 lL_101 yk_X7_thrown yv_X7_thrown kX7 rfl (by decide) hq.o rfl rfl (Nat.le_of_ble_eq_true rfl) rfl (c_X7_thrown hq) ?_
      refine G_top (y := nI ((g_cut ((t, n), (c, S), D, sl) (xs (i + 1)) (xs (i + 2)) (decide (¬ xs (i + 3) = 0))).1)) h20 ?_
      refine G_iload dL_law_871 rfl ?_
      refine G_icmp_eqN (tgt := 878) dL_law_873 (by decide) (by omega) (by omega) (fun c873 => ?_) (fun c873 => ?_)
      · refine G_iload dL_law_878 rfl ?_
        refine G_if_neN (tgt := 895) dL_law_880 (by decide) (by omega) (fun c880 => ?_) (fun c880 => ?_)
        · refine G_goto (tgt := 1707) dL_law_895 (by decide) ?_
          refine G_weak (ls2 := [some (.ref (a + 1000000)), some (.ref (0)), some (.ref (1603)), some (.ref (1611)), some (.int (nI (i))), none, none]) ⟨rfl, rfl, rfl, rfl, rfl, trivial⟩ ?_
          exact k v2 _ hK2 hR2 hI
        · refine G_aload_n dL_law_883 rfl rfl ?_
          refine G_iconst (v := nI 0) dL_law_884 (by decide) ?_
          refine G_lald (0) dL_law_885 ho rfl (by omega) (by decide) ?_
          refine G_iload dL_law_886 rfl ?_
          refine G_i2l dL_law_888 ?_
          refine G_lcmp dL_law_889 ?_
          refine G_if_eq (tgt := 895) dL_law_890 (by decide) (fun c890 => ?_) (fun c890 => ?_)
          · refine G_goto (tgt := 1707) dL_law_895 (by decide) ?_
            refine G_weak (ls2 := [some (.ref (a + 1000000)), some (.ref (0)), some (.ref (1603)), some (.ref (1611)), some (.int (nI (i))), none, none]) ⟨rfl, rfl, rfl, rfl, rfl, trivial⟩ ?_
            exact k v2 _ hK2 hR2 hI
          · exact absurd (by rw [hout2 (by omega)]; exact lg_same _) c890
      · exact absurd rfl c873
    · exact absurd c821 c854
  · refine G_iconst (v := nI 1) dL_law_824 (by decide) ?_
    refine G_goto (tgt := 829) dL_law_825 (by decide) ?_
    refine G_top (y := vb (decide (¬ xs (i + 3) = 0))) (by rw [show decide (¬ xs (i + 3) = 0) = true from decide_eq_true c821]; rfl) ?_
    refine G_aload_n dL_law_829 rfl rfl ?_
    refine G_callSW (np := 5) (hh := [(0, 12, 15, 28), (0, 12, 19, 13)]) (rest := []) (As := [.ref (0), .int ((xs (i + 1))), .int ((xs (i + 2))), .int (vb (decide (¬ xs (i + 3) = 0))), .ref (1611)]) (fun _ _ _ _ z9 => z9.2.2) dL_law_830 lL_142 (aw_t 721 (by decide +kernel) (by decide +kernel)) (aw_t 0 (by decide +kernel) (by decide +kernel)) ⟨by decide +kernel, by decide +kernel, by decide +kernel⟩ ys_L_cut ⟨Nat.le_of_ble_eq_true rfl, Nat.le_of_ble_eq_true rfl⟩ rfl rfl (Nat.le_of_ble_eq_true rfl) hb (c_L_cut hT hK hG hB hf ho (by omega)) (fun o9 μ9 h9 hf9 => by obtain ⟨-, v9, rfl, -⟩ := h9; exact absurd (hf.symm.trans hf9) Bool.false_ne_true) ?_
    rintro o9 μ9 ⟨rfl, v1, rfl, hK1, hout, hfr⟩
    have hR1 : RT v1 1603 ((t, n), (c, S), D, sl) := hR0.of (fun j _ _ _ => by rw [hfr 1603 (by omega) (by omega)]) (fun m g1 g2 _ => hfr m (by omega) (by omega))
    refine G_istore (ls2 := [some (.ref (a + 1000000)), some (.ref (0)), some (.ref (1603)), some (.ref (1611)), some (.int (nI (i))), some (.int (nI ((g_cut ((t, n), (c, S), D, sl) (xs (i + 1)) (xs (i + 2)) (decide (¬ xs (i + 3) = 0))).1))), none]) dL_law_833 (by decide) rfl ?_
    refine G_aload_n dL_law_835 rfl rfl ?_
    refine G_aload_n dL_law_836 rfl rfl ?_
    refine G_iload dL_law_837 rfl ?_
    refine G_iconst (v := nI 1) dL_law_839 (by decide) ?_
    refine G_iaddN dL_law_840 ?_
    refine G_sld (i + 1) hZ dL_law_841 rfl (by omega) (by omega) ?_
    refine G_aload_n dL_law_842 rfl rfl ?_
    refine G_iload dL_law_843 rfl ?_
    refine G_iconst (v := nI 2) dL_law_845 (by decide) ?_
    refine G_iaddN dL_law_846 ?_
    refine G_sld (i + 2) hZ dL_law_847 rfl (by omega) (by omega) ?_
    refine G_aload_n dL_law_848 rfl rfl ?_
    refine G_iload dL_law_849 rfl ?_
    refine G_iconst (v := nI 3) dL_law_851 (by decide) ?_
    refine G_iaddN dL_law_852 ?_
    refine G_sld (i + 3) hZ dL_law_853 rfl (by omega) (by omega) ?_
    refine G_if_eq (tgt := 861) dL_law_854 (by decide) (fun c854 => ?_) (fun c854 => ?_)
    · exact absurd c854 c821
    · refine G_iconst (v := nI 1) dL_law_857 (by decide) ?_
      refine G_goto (tgt := 862) dL_law_858 (by decide) ?_
      refine G_top (y := vb (decide (¬ xs (i + 3) = 0))) (by rw [show decide (¬ xs (i + 3) = 0) = true from decide_eq_true c854]; rfl) ?_
      refine G_cVs (rest := []) (As := [.int ((xs (i + 1))), .int ((xs (i + 2))), .int (vb (decide (¬ xs (i + 3) = 0)))]) dL_law_862 lL_145 yk_X7_cut yv_X7_cut kX7 rfl (by decide) hq.o rfl rfl (Nat.le_of_ble_eq_true rfl) rfl (c_X7_cut hq hR1 hG hB) (fun v2 hq2 => ?_)
      obtain ⟨h20, hR2, hw2⟩ := hq2
      have hK2 := hK1.out hw2 (Or.inl (by omega))
      have hout2 : (g_cut ((t, n), (c, S), D, sl) (xs (i + 1)) (xs (i + 2)) (decide (¬ xs (i + 3) = 0))).1 = 0 → v2 1611 0 = (g_cut ((t, n), (c, S), D, sl) (xs (i + 1)) (xs (i + 2)) (decide (¬ xs (i + 3) = 0))).2.1 := fun z9 => by rw [hw2 1611 (by omega)]; exact hout z9
      refine G_istore (ls2 := [some (.ref (a + 1000000)), some (.ref (0)), some (.ref (1603)), some (.ref (1611)), some (.int (nI (i))), some (.int (nI ((g_cut ((t, n), (c, S), D, sl) (xs (i + 1)) (xs (i + 2)) (decide (¬ xs (i + 3) = 0))).1))), some (.int (((g_cut ((t, n), (c, S), D, sl) (xs (i + 1)) (xs (i + 2)) (decide (¬ xs (i + 3) = 0))).2.1)))]) dL_law_865 (by decide) rfl ?_
      refine G_aload_n dL_law_867 rfl rfl ?_
      refine G_cVp (rest := []) (As := []) dL_law_868 lL_101 yk_X7_thrown yv_X7_thrown kX7 rfl (by decide) hq.o rfl rfl (Nat.le_of_ble_eq_true rfl) rfl (c_X7_thrown hq) ?_
      refine G_top (y := nI ((g_cut ((t, n), (c, S), D, sl) (xs (i + 1)) (xs (i + 2)) (decide (¬ xs (i + 3) = 0))).1)) h20 ?_
      refine G_iload dL_law_871 rfl ?_
      refine G_icmp_eqN (tgt := 878) dL_law_873 (by decide) (by omega) (by omega) (fun c873 => ?_) (fun c873 => ?_)
      · refine G_iload dL_law_878 rfl ?_
        refine G_if_neN (tgt := 895) dL_law_880 (by decide) (by omega) (fun c880 => ?_) (fun c880 => ?_)
        · refine G_goto (tgt := 1707) dL_law_895 (by decide) ?_
          refine G_weak (ls2 := [some (.ref (a + 1000000)), some (.ref (0)), some (.ref (1603)), some (.ref (1611)), some (.int (nI (i))), none, none]) ⟨rfl, rfl, rfl, rfl, rfl, trivial⟩ ?_
          exact k v2 _ hK2 hR2 hI
        · refine G_aload_n dL_law_883 rfl rfl ?_
          refine G_iconst (v := nI 0) dL_law_884 (by decide) ?_
          refine G_lald (0) dL_law_885 ho rfl (by omega) (by decide) ?_
          refine G_iload dL_law_886 rfl ?_
          refine G_i2l dL_law_888 ?_
          refine G_lcmp dL_law_889 ?_
          refine G_if_eq (tgt := 895) dL_law_890 (by decide) (fun c890 => ?_) (fun c890 => ?_)
          · refine G_goto (tgt := 1707) dL_law_895 (by decide) ?_
            refine G_weak (ls2 := [some (.ref (a + 1000000)), some (.ref (0)), some (.ref (1603)), some (.ref (1611)), some (.int (nI (i))), none, none]) ⟨rfl, rfl, rfl, rfl, rfl, trivial⟩ ?_
            exact k v2 _ hK2 hR2 hI
          · exact absurd (by rw [hout2 (by omega)]; exact lg_same _) c890
      · exact absurd rfl c873
set_option maxHeartbeats 4000000 in
set_option maxRecDepth 100000 in
theorem b_runScript {σ : vS} {v : vV} {a L i c n B : Nat} {xs : Nat → Int32} {S : mS} {t : mN} {D : List mC} {sl : Nat → Option mC} {Q : vO → vM → Prop} {b : Nat × Nat} (hT : kLT σ 0) (hK : KT v 0 ((t, n), (c, S), D, sl)) (hq : LR σ 1603) (hR0 : RT v 1603 ((t, n), (c, S), D, sl)) (hG : GI B ((t, n), (c, S), D, sl)) (hB1 : 8400100 ≤ B) (hB : B + 6000000 < 1000000000) (hf : σ.2.2.2 = false) (ho : vK σ 1611 12 1) (hi : i + 4 ≤ L) (hL : L ≤ 2048) (hb : 4 ≤ b.1 ∧ 24 ≤ b.2) (k : ∀ (v9 : vV) (T9 : gT), KT v9 0 T9 → RT v9 1603 T9 → GI (B + 70000) T9 → vG (kZl a L xs) M_L_law 1707 [some (.ref (a + 1000000)), some (.ref (0)), some (.ref (1603)), some (.ref (1611)), some (.int (nI (i))), none, none] [] (b.1 - 4, b.2 - 24) (σ, v9) Q) : vG (kZl a L xs) M_L_law 1395 [some (.ref (a + 1000000)), some (.ref (0)), some (.ref (1603)), some (.ref (1611)), some (.int (nI (i))), none, none] [] b (σ, v) Q := by
  have hZ : ∀ s args c hz, kZl a L xs s args c hz → a < hz ∧ va_X a L xs s s.heap := fun _ _ _ _ z9 => ⟨z9.1, z9.2.1⟩
  have hk9 := (k_runScript (t := t) (n := n) (c := c) (S := S) (D := D) (sl := sl) (n9 := xs (i + 1)) (s := ((xs (i + 2)).toInt64 <<< ((nI (32)).toInt64 &&& 63) ||| (xs (i + 3)).toInt64 &&& (4294967295)))).1
  have hI : GI (B + 70000) (g_runScript ((t, n), (c, S), D, sl) (xs (i + 1)) (((xs (i + 2)).toInt64 <<< ((nI (32)).toInt64 &&& 63) ||| (xs (i + 3)).toInt64 &&& (4294967295)))).2.2 := I_runScript hG hB1
  refine G_aload_n dL_law_1395 rfl rfl ?_
  refine G_aload_n dL_law_1396 rfl rfl ?_
  refine G_iload dL_law_1397 rfl ?_
  refine G_iconst (v := nI 1) dL_law_1399 (by decide) ?_
  refine G_iaddN dL_law_1400 ?_
  refine G_sld (i + 1) hZ dL_law_1401 rfl (by omega) (by omega) ?_
  refine G_aload_n dL_law_1402 rfl rfl ?_
  refine G_iload dL_law_1403 rfl ?_
  refine G_iconst (v := nI 2) dL_law_1405 (by decide) ?_
  refine G_iaddN dL_law_1406 ?_
  refine G_sld (i + 2) hZ dL_law_1407 rfl (by omega) (by omega) ?_
  refine G_i2l dL_law_1408 ?_
  refine G_bipush (v := nI 32) dL_law_1409 (by decide) ?_
  refine G_lshl dL_law_1411 ?_
  refine G_aload_n dL_law_1412 rfl rfl ?_
  refine G_iload dL_law_1413 rfl ?_
  refine G_iconst (v := nI 3) dL_law_1415 (by decide) ?_
  refine G_iaddN dL_law_1416 ?_
  refine G_sld (i + 3) hZ dL_law_1417 rfl (by omega) (by omega) ?_
  refine G_i2l dL_law_1418 ?_
  refine G_ldc2_w dL_law_1419 cL_174 ?_
  refine G_land dL_law_1422 ?_
  refine G_lor dL_law_1423 ?_
  refine G_aload_n dL_law_1424 rfl rfl ?_
  refine G_callSW (np := 4) (hh := [(0, 11, 14, 13)]) (rest := []) (As := [.ref (0), .int ((xs (i + 1))), .long (((((xs (i + 2))).toInt64 <<< ((nI (32)).toInt64 &&& 63)) ||| (((xs (i + 3))).toInt64 &&& (4294967295)))), .ref (1611)]) (fun _ _ _ _ z9 => z9.2.2) dL_law_1425 lL_176 (aw_t 814 (by decide +kernel) (by decide +kernel)) (aw_t 0 (by decide +kernel) (by decide +kernel)) ⟨by decide +kernel, by decide +kernel, by decide +kernel⟩ ys_L_runScript ⟨Nat.le_of_ble_eq_true rfl, Nat.le_of_ble_eq_true rfl⟩ rfl rfl (Nat.le_of_ble_eq_true rfl) hb (c_L_runScript hT hK hG hB hf ho (by omega)) (fun o9 μ9 h9 hf9 => by obtain ⟨-, v9, rfl, -⟩ := h9; exact absurd (hf.symm.trans hf9) Bool.false_ne_true) ?_
  rintro o9 μ9 ⟨rfl, v1, rfl, hK1, hout, hfr⟩
  have hR1 : RT v1 1603 ((t, n), (c, S), D, sl) := hR0.of (fun j _ _ _ => by rw [hfr 1603 (by omega) (by omega)]) (fun m g1 g2 _ => hfr m (by omega) (by omega))
  refine G_istore (ls2 := [some (.ref (a + 1000000)), some (.ref (0)), some (.ref (1603)), some (.ref (1611)), some (.int (nI (i))), some (.int (nI ((g_runScript ((t, n), (c, S), D, sl) (xs (i + 1)) (((xs (i + 2)).toInt64 <<< ((nI (32)).toInt64 &&& 63) ||| (xs (i + 3)).toInt64 &&& (4294967295)))).1))), none]) dL_law_1428 (by decide) rfl ?_
  refine G_aload_n dL_law_1430 rfl rfl ?_
  refine G_aload_n dL_law_1431 rfl rfl ?_
  refine G_iload dL_law_1432 rfl ?_
  refine G_iconst (v := nI 1) dL_law_1434 (by decide) ?_
  refine G_iaddN dL_law_1435 ?_
  refine G_sld (i + 1) hZ dL_law_1436 rfl (by omega) (by omega) ?_
  refine G_aload_n dL_law_1437 rfl rfl ?_
  refine G_iload dL_law_1438 rfl ?_
  refine G_iconst (v := nI 2) dL_law_1440 (by decide) ?_
  refine G_iaddN dL_law_1441 ?_
  refine G_sld (i + 2) hZ dL_law_1442 rfl (by omega) (by omega) ?_
  refine G_i2l dL_law_1443 ?_
  refine G_bipush (v := nI 32) dL_law_1444 (by decide) ?_
  refine G_lshl dL_law_1446 ?_
  refine G_aload_n dL_law_1447 rfl rfl ?_
  refine G_iload dL_law_1448 rfl ?_
  refine G_iconst (v := nI 3) dL_law_1450 (by decide) ?_
  refine G_iaddN dL_law_1451 ?_
  refine G_sld (i + 3) hZ dL_law_1452 rfl (by omega) (by omega) ?_
  refine G_i2l dL_law_1453 ?_
  refine G_ldc2_w dL_law_1454 cL_174 ?_
  refine G_land dL_law_1457 ?_
  refine G_lor dL_law_1458 ?_
  refine G_cVs (rest := []) (As := [.int ((xs (i + 1))), .long (((((xs (i + 2))).toInt64 <<< ((nI (32)).toInt64 &&& 63)) ||| (((xs (i + 3))).toInt64 &&& (4294967295))))]) dL_law_1459 lL_179 yk_X7_runScript yv_X7_runScript kX7 rfl (by decide) hq.o rfl rfl (Nat.le_of_ble_eq_true rfl) rfl (c_X7_runScript hq hR1 hG hB) (fun v2 hq2 => ?_)
  obtain ⟨h20, hR2, hw2⟩ := hq2
  have hK2 := hK1.out hw2 (Or.inl (by omega))
  have hout2 : (g_runScript ((t, n), (c, S), D, sl) (xs (i + 1)) (((xs (i + 2)).toInt64 <<< ((nI (32)).toInt64 &&& 63) ||| (xs (i + 3)).toInt64 &&& (4294967295)))).1 = 0 → v2 1611 0 = (g_runScript ((t, n), (c, S), D, sl) (xs (i + 1)) (((xs (i + 2)).toInt64 <<< ((nI (32)).toInt64 &&& 63) ||| (xs (i + 3)).toInt64 &&& (4294967295)))).2.1 := fun z9 => by rw [hw2 1611 (by omega)]; exact hout z9
  refine G_istore (ls2 := [some (.ref (a + 1000000)), some (.ref (0)), some (.ref (1603)), some (.ref (1611)), some (.int (nI (i))), some (.int (nI ((g_runScript ((t, n), (c, S), D, sl) (xs (i + 1)) (((xs (i + 2)).toInt64 <<< ((nI (32)).toInt64 &&& 63) ||| (xs (i + 3)).toInt64 &&& (4294967295)))).1))), some (.int (((g_runScript ((t, n), (c, S), D, sl) (xs (i + 1)) (((xs (i + 2)).toInt64 <<< ((nI (32)).toInt64 &&& 63) ||| (xs (i + 3)).toInt64 &&& (4294967295)))).2.1)))]) dL_law_1462 (by decide) rfl ?_
  refine G_aload_n dL_law_1464 rfl rfl ?_
  refine G_cVp (rest := []) (As := []) dL_law_1465 lL_101 yk_X7_thrown yv_X7_thrown kX7 rfl (by decide) hq.o rfl rfl (Nat.le_of_ble_eq_true rfl) rfl (c_X7_thrown hq) ?_
  refine G_top (y := nI ((g_runScript ((t, n), (c, S), D, sl) (xs (i + 1)) (((xs (i + 2)).toInt64 <<< ((nI (32)).toInt64 &&& 63) ||| (xs (i + 3)).toInt64 &&& (4294967295)))).1)) h20 ?_
  refine G_iload dL_law_1468 rfl ?_
  refine G_icmp_eqN (tgt := 1475) dL_law_1470 (by decide) (by omega) (by omega) (fun c1470 => ?_) (fun c1470 => ?_)
  · refine G_iload dL_law_1475 rfl ?_
    refine G_if_neN (tgt := 1492) dL_law_1477 (by decide) (by omega) (fun c1477 => ?_) (fun c1477 => ?_)
    · refine G_goto (tgt := 1707) dL_law_1492 (by decide) ?_
      refine G_weak (ls2 := [some (.ref (a + 1000000)), some (.ref (0)), some (.ref (1603)), some (.ref (1611)), some (.int (nI (i))), none, none]) ⟨rfl, rfl, rfl, rfl, rfl, trivial⟩ ?_
      exact k v2 _ hK2 hR2 hI
    · refine G_aload_n dL_law_1480 rfl rfl ?_
      refine G_iconst (v := nI 0) dL_law_1481 (by decide) ?_
      refine G_lald (0) dL_law_1482 ho rfl (by omega) (by decide) ?_
      refine G_iload dL_law_1483 rfl ?_
      refine G_i2l dL_law_1485 ?_
      refine G_lcmp dL_law_1486 ?_
      refine G_if_eq (tgt := 1492) dL_law_1487 (by decide) (fun c1487 => ?_) (fun c1487 => ?_)
      · refine G_goto (tgt := 1707) dL_law_1492 (by decide) ?_
        refine G_weak (ls2 := [some (.ref (a + 1000000)), some (.ref (0)), some (.ref (1603)), some (.ref (1611)), some (.int (nI (i))), none, none]) ⟨rfl, rfl, rfl, rfl, rfl, trivial⟩ ?_
        exact k v2 _ hK2 hR2 hI
      · exact absurd (by rw [hout2 (by omega)]; exact lg_same _) c1487
  · exact absurd rfl c1470
set_option maxHeartbeats 4000000 in
set_option maxRecDepth 100000 in
theorem b_simulate {σ : vS} {v : vV} {a L i c n B : Nat} {xs : Nat → Int32} {S : mS} {t : mN} {D : List mC} {sl : Nat → Option mC} {Q : vO → vM → Prop} {b : Nat × Nat} (hT : kLT σ 0) (hK : KT v 0 ((t, n), (c, S), D, sl)) (hq : LR σ 1603) (hR0 : RT v 1603 ((t, n), (c, S), D, sl)) (hG : GI B ((t, n), (c, S), D, sl)) (hB1 : 8400100 ≤ B) (hB : B + 6000000 < 1000000000) (hf : σ.2.2.2 = false) (ho : vK σ 1611 12 1) (hi : i + 4 ≤ L) (hL : L ≤ 2048) (hb : 4 ≤ b.1 ∧ 24 ≤ b.2) (k : ∀ (v9 : vV) (T9 : gT), KT v9 0 T9 → RT v9 1603 T9 → GI (B + 70000) T9 → vG (kZl a L xs) M_L_law 1707 [some (.ref (a + 1000000)), some (.ref (0)), some (.ref (1603)), some (.ref (1611)), some (.int (nI (i))), none, none] [] (b.1 - 4, b.2 - 24) (σ, v9) Q) : vG (kZl a L xs) M_L_law 1495 [some (.ref (a + 1000000)), some (.ref (0)), some (.ref (1603)), some (.ref (1611)), some (.int (nI (i))), none, none] [] b (σ, v) Q := by
  have hZ : ∀ s args c hz, kZl a L xs s args c hz → a < hz ∧ va_X a L xs s s.heap := fun _ _ _ _ z9 => ⟨z9.1, z9.2.1⟩
  have hk9 := (k_simulate (t := t) (n := n) (c := c) (S := S) (D := D) (sl := sl) (x := ((xs (i + 1)).toInt64 <<< ((nI (32)).toInt64 &&& 63) ||| (xs (i + 2)).toInt64 &&& (4294967295))) (n8 := xs (i + 3))).1
  have hI : GI (B + 70000) (g_simulate ((t, n), (c, S), D, sl) (((xs (i + 1)).toInt64 <<< ((nI (32)).toInt64 &&& 63) ||| (xs (i + 2)).toInt64 &&& (4294967295))) (xs (i + 3))).2.2 := I_simulate hG hB1
  refine G_aload_n dL_law_1495 rfl rfl ?_
  refine G_aload_n dL_law_1496 rfl rfl ?_
  refine G_iload dL_law_1497 rfl ?_
  refine G_iconst (v := nI 1) dL_law_1499 (by decide) ?_
  refine G_iaddN dL_law_1500 ?_
  refine G_sld (i + 1) hZ dL_law_1501 rfl (by omega) (by omega) ?_
  refine G_i2l dL_law_1502 ?_
  refine G_bipush (v := nI 32) dL_law_1503 (by decide) ?_
  refine G_lshl dL_law_1505 ?_
  refine G_aload_n dL_law_1506 rfl rfl ?_
  refine G_iload dL_law_1507 rfl ?_
  refine G_iconst (v := nI 2) dL_law_1509 (by decide) ?_
  refine G_iaddN dL_law_1510 ?_
  refine G_sld (i + 2) hZ dL_law_1511 rfl (by omega) (by omega) ?_
  refine G_i2l dL_law_1512 ?_
  refine G_ldc2_w dL_law_1513 cL_174 ?_
  refine G_land dL_law_1516 ?_
  refine G_lor dL_law_1517 ?_
  refine G_aload_n dL_law_1518 rfl rfl ?_
  refine G_iload dL_law_1519 rfl ?_
  refine G_iconst (v := nI 3) dL_law_1521 (by decide) ?_
  refine G_iaddN dL_law_1522 ?_
  refine G_sld (i + 3) hZ dL_law_1523 rfl (by omega) (by omega) ?_
  refine G_aload_n dL_law_1524 rfl rfl ?_
  refine G_callSW (np := 4) (hh := [(0, 11, 14, 13)]) (rest := []) (As := [.ref (0), .long (((((xs (i + 1))).toInt64 <<< ((nI (32)).toInt64 &&& 63)) ||| (((xs (i + 2))).toInt64 &&& (4294967295)))), .int ((xs (i + 3))), .ref (1611)]) (fun _ _ _ _ z9 => z9.2.2) dL_law_1525 lL_180 (aw_t 829 (by decide +kernel) (by decide +kernel)) (aw_t 0 (by decide +kernel) (by decide +kernel)) ⟨by decide +kernel, by decide +kernel, by decide +kernel⟩ ys_L_simulate ⟨Nat.le_of_ble_eq_true rfl, Nat.le_of_ble_eq_true rfl⟩ rfl rfl (Nat.le_of_ble_eq_true rfl) hb (c_L_simulate hT hK hG hB hf ho (by omega)) (fun o9 μ9 h9 hf9 => by obtain ⟨-, v9, rfl, -⟩ := h9; exact absurd (hf.symm.trans hf9) Bool.false_ne_true) ?_
  rintro o9 μ9 ⟨rfl, v1, rfl, hK1, hout, hfr⟩
  have hR1 : RT v1 1603 ((t, n), (c, S), D, sl) := hR0.of (fun j _ _ _ => by rw [hfr 1603 (by omega) (by omega)]) (fun m g1 g2 _ => hfr m (by omega) (by omega))
  refine G_istore (ls2 := [some (.ref (a + 1000000)), some (.ref (0)), some (.ref (1603)), some (.ref (1611)), some (.int (nI (i))), some (.int (nI ((g_simulate ((t, n), (c, S), D, sl) (((xs (i + 1)).toInt64 <<< ((nI (32)).toInt64 &&& 63) ||| (xs (i + 2)).toInt64 &&& (4294967295))) (xs (i + 3))).1))), none]) dL_law_1528 (by decide) rfl ?_
  refine G_aload_n dL_law_1530 rfl rfl ?_
  refine G_aload_n dL_law_1531 rfl rfl ?_
  refine G_iload dL_law_1532 rfl ?_
  refine G_iconst (v := nI 1) dL_law_1534 (by decide) ?_
  refine G_iaddN dL_law_1535 ?_
  refine G_sld (i + 1) hZ dL_law_1536 rfl (by omega) (by omega) ?_
  refine G_i2l dL_law_1537 ?_
  refine G_bipush (v := nI 32) dL_law_1538 (by decide) ?_
  refine G_lshl dL_law_1540 ?_
  refine G_aload_n dL_law_1541 rfl rfl ?_
  refine G_iload dL_law_1542 rfl ?_
  refine G_iconst (v := nI 2) dL_law_1544 (by decide) ?_
  refine G_iaddN dL_law_1545 ?_
  refine G_sld (i + 2) hZ dL_law_1546 rfl (by omega) (by omega) ?_
  refine G_i2l dL_law_1547 ?_
  refine G_ldc2_w dL_law_1548 cL_174 ?_
  refine G_land dL_law_1551 ?_
  refine G_lor dL_law_1552 ?_
  refine G_aload_n dL_law_1553 rfl rfl ?_
  refine G_iload dL_law_1554 rfl ?_
  refine G_iconst (v := nI 3) dL_law_1556 (by decide) ?_
  refine G_iaddN dL_law_1557 ?_
  refine G_sld (i + 3) hZ dL_law_1558 rfl (by omega) (by omega) ?_
  refine G_cVs (rest := []) (As := [.long (((((xs (i + 1))).toInt64 <<< ((nI (32)).toInt64 &&& 63)) ||| (((xs (i + 2))).toInt64 &&& (4294967295)))), .int ((xs (i + 3)))]) dL_law_1559 lL_183 yk_X7_simulate yv_X7_simulate kX7 rfl (by decide) hq.o rfl rfl (Nat.le_of_ble_eq_true rfl) rfl (c_X7_simulate hq hR1 hG hB) (fun v2 hq2 => ?_)
  obtain ⟨h20, hR2, hw2⟩ := hq2
  have hK2 := hK1.out hw2 (Or.inl (by omega))
  have hout2 : (g_simulate ((t, n), (c, S), D, sl) (((xs (i + 1)).toInt64 <<< ((nI (32)).toInt64 &&& 63) ||| (xs (i + 2)).toInt64 &&& (4294967295))) (xs (i + 3))).1 = 0 → v2 1611 0 = (g_simulate ((t, n), (c, S), D, sl) (((xs (i + 1)).toInt64 <<< ((nI (32)).toInt64 &&& 63) ||| (xs (i + 2)).toInt64 &&& (4294967295))) (xs (i + 3))).2.1 := fun z9 => by rw [hw2 1611 (by omega)]; exact hout z9
  refine G_istore (ls2 := [some (.ref (a + 1000000)), some (.ref (0)), some (.ref (1603)), some (.ref (1611)), some (.int (nI (i))), some (.int (nI ((g_simulate ((t, n), (c, S), D, sl) (((xs (i + 1)).toInt64 <<< ((nI (32)).toInt64 &&& 63) ||| (xs (i + 2)).toInt64 &&& (4294967295))) (xs (i + 3))).1))), some (.int (((g_simulate ((t, n), (c, S), D, sl) (((xs (i + 1)).toInt64 <<< ((nI (32)).toInt64 &&& 63) ||| (xs (i + 2)).toInt64 &&& (4294967295))) (xs (i + 3))).2.1)))]) dL_law_1562 (by decide) rfl ?_
  refine G_aload_n dL_law_1564 rfl rfl ?_
  refine G_cVp (rest := []) (As := []) dL_law_1565 lL_101 yk_X7_thrown yv_X7_thrown kX7 rfl (by decide) hq.o rfl rfl (Nat.le_of_ble_eq_true rfl) rfl (c_X7_thrown hq) ?_
  refine G_top (y := nI ((g_simulate ((t, n), (c, S), D, sl) (((xs (i + 1)).toInt64 <<< ((nI (32)).toInt64 &&& 63) ||| (xs (i + 2)).toInt64 &&& (4294967295))) (xs (i + 3))).1)) h20 ?_
  refine G_iload dL_law_1568 rfl ?_
  refine G_icmp_eqN (tgt := 1575) dL_law_1570 (by decide) (by omega) (by omega) (fun c1570 => ?_) (fun c1570 => ?_)
  · refine G_iload dL_law_1575 rfl ?_
    refine G_if_neN (tgt := 1592) dL_law_1577 (by decide) (by omega) (fun c1577 => ?_) (fun c1577 => ?_)
    · refine G_goto (tgt := 1707) dL_law_1592 (by decide) ?_
      refine G_weak (ls2 := [some (.ref (a + 1000000)), some (.ref (0)), some (.ref (1603)), some (.ref (1611)), some (.int (nI (i))), none, none]) ⟨rfl, rfl, rfl, rfl, rfl, trivial⟩ ?_
      exact k v2 _ hK2 hR2 hI
    · refine G_aload_n dL_law_1580 rfl rfl ?_
      refine G_iconst (v := nI 0) dL_law_1581 (by decide) ?_
      refine G_lald (0) dL_law_1582 ho rfl (by omega) (by decide) ?_
      refine G_iload dL_law_1583 rfl ?_
      refine G_i2l dL_law_1585 ?_
      refine G_lcmp dL_law_1586 ?_
      refine G_if_eq (tgt := 1592) dL_law_1587 (by decide) (fun c1587 => ?_) (fun c1587 => ?_)
      · refine G_goto (tgt := 1707) dL_law_1592 (by decide) ?_
        refine G_weak (ls2 := [some (.ref (a + 1000000)), some (.ref (0)), some (.ref (1603)), some (.ref (1611)), some (.int (nI (i))), none, none]) ⟨rfl, rfl, rfl, rfl, rfl, trivial⟩ ?_
        exact k v2 _ hK2 hR2 hI
      · exact absurd (by rw [hout2 (by omega)]; exact lg_same _) c1587
  · exact absurd rfl c1570
set_option maxHeartbeats 4000000 in
set_option maxRecDepth 100000 in
theorem b_clearText {σ : vS} {v : vV} {a L i c n B : Nat} {xs : Nat → Int32} {S : mS} {t : mN} {D : List mC} {sl : Nat → Option mC} {Q : vO → vM → Prop} {b : Nat × Nat} (hT : kLT σ 0) (hK : KT v 0 ((t, n), (c, S), D, sl)) (hq : LR σ 1603) (hR0 : RT v 1603 ((t, n), (c, S), D, sl)) (hG : GI B ((t, n), (c, S), D, sl)) (hB1 : 8400100 ≤ B) (hB : B + 6000000 < 1000000000) (hf : σ.2.2.2 = false) (ho : vK σ 1611 12 1) (hi : i + 4 ≤ L) (hL : L ≤ 2048) (hb : 4 ≤ b.1 ∧ 24 ≤ b.2) (k : ∀ (v9 : vV) (T9 : gT), KT v9 0 T9 → RT v9 1603 T9 → GI (B + 70000) T9 → vG (kZl a L xs) M_L_law 1707 [some (.ref (a + 1000000)), some (.ref (0)), some (.ref (1603)), some (.ref (1611)), some (.int (nI (i))), none, none] [] (b.1 - 4, b.2 - 24) (σ, v9) Q) : vG (kZl a L xs) M_L_law 212 [some (.ref (a + 1000000)), some (.ref (0)), some (.ref (1603)), some (.ref (1611)), some (.int (nI (i))), none, none] [] b (σ, v) Q := by
  have hZ : ∀ s args c hz, kZl a L xs s args c hz → a < hz ∧ va_X a L xs s s.heap := fun _ _ _ _ z9 => ⟨z9.1, z9.2.1⟩
  have hI : GI (B + 70000) (g_clearText ((t, n), (c, S), D, sl)).2.2 := I_clearText hG hB1
  refine G_aload_n dL_law_212 rfl rfl ?_
  refine G_cVs (rest := []) (As := []) dL_law_213 lL_104 yk_X6_clearText yv_X6_clearText kX6 rfl (by decide) hT.o rfl rfl (Nat.le_of_ble_eq_true rfl) rfl (c_X6_clearText hT hK hG hB hf) (fun v1 hq1 => ?_)
  obtain ⟨hK1, hw1⟩ := hq1
  have hR1 : RT v1 1603 ((t, n), (c, S), D, sl) := hR0.of (fun j _ _ _ => by rw [hw1 1603 (by omega)]) (fun m g1 g2 _ => hw1 m (by omega))
  refine G_aload_n dL_law_216 rfl rfl ?_
  refine G_cVs (rest := [.int (((g_clearText ((t, n), (c, S), D, sl)).2.1))]) (As := []) dL_law_217 lL_107 yk_X7_clearText yv_X7_clearText kX7 rfl (by decide) hq.o rfl rfl (Nat.le_of_ble_eq_true rfl) rfl (c_X7_clearText hq hR1 hG hB) (fun v2 hq2 => ?_)
  obtain ⟨h20, hR2, hw2⟩ := hq2
  have hK2 := hK1.out hw2 (Or.inl (by omega))
  refine G_icmp_eq (tgt := 1707) dL_law_220 (by decide) (fun c220 => ?_) (fun c220 => ?_)
  · refine G_bud (b2 := (b.1 - 4, b.2 - 24)) ⟨Nat.sub_le _ _, Nat.sub_le _ _⟩ ?_
    exact k v2 _ hK2 hR2 hI
  · exact absurd rfl c220
set_option maxHeartbeats 4000000 in
set_option maxRecDepth 100000 in
theorem b_errorPosition {σ : vS} {v : vV} {a L i c n B : Nat} {xs : Nat → Int32} {S : mS} {t : mN} {D : List mC} {sl : Nat → Option mC} {Q : vO → vM → Prop} {b : Nat × Nat} (hT : kLT σ 0) (hK : KT v 0 ((t, n), (c, S), D, sl)) (hq : LR σ 1603) (hR0 : RT v 1603 ((t, n), (c, S), D, sl)) (hG : GI B ((t, n), (c, S), D, sl)) (hB1 : 8400100 ≤ B) (hB : B + 6000000 < 1000000000) (hf : σ.2.2.2 = false) (ho : vK σ 1611 12 1) (hi : i + 4 ≤ L) (hL : L ≤ 2048) (hb : 4 ≤ b.1 ∧ 24 ≤ b.2) (k : ∀ (v9 : vV) (T9 : gT), KT v9 0 T9 → RT v9 1603 T9 → GI (B + 70000) T9 → vG (kZl a L xs) M_L_law 1707 [some (.ref (a + 1000000)), some (.ref (0)), some (.ref (1603)), some (.ref (1611)), some (.int (nI (i))), none, none] [] (b.1 - 4, b.2 - 24) (σ, v9) Q) : vG (kZl a L xs) M_L_law 225 [some (.ref (a + 1000000)), some (.ref (0)), some (.ref (1603)), some (.ref (1611)), some (.int (nI (i))), none, none] [] b (σ, v) Q := by
  have hZ : ∀ s args c hz, kZl a L xs s args c hz → a < hz ∧ va_X a L xs s s.heap := fun _ _ _ _ z9 => ⟨z9.1, z9.2.1⟩
  have hI : GI (B + 70000) (g_errorPosition ((t, n), (c, S), D, sl)).2.2 := I_errorPosition hG hB1
  refine G_aload_n dL_law_225 rfl rfl ?_
  refine G_cVs (rest := []) (As := []) dL_law_226 lL_108 yk_X6_errorPosition yv_X6_errorPosition kX6 rfl (by decide) hT.o rfl rfl (Nat.le_of_ble_eq_true rfl) rfl (c_X6_errorPosition hT hK hG hB hf) (fun v1 hq1 => ?_)
  obtain ⟨hK1, hw1⟩ := hq1
  have hR1 : RT v1 1603 ((t, n), (c, S), D, sl) := hR0.of (fun j _ _ _ => by rw [hw1 1603 (by omega)]) (fun m g1 g2 _ => hw1 m (by omega))
  refine G_aload_n dL_law_229 rfl rfl ?_
  refine G_cVs (rest := [.int (((g_errorPosition ((t, n), (c, S), D, sl)).2.1))]) (As := []) dL_law_230 lL_111 yk_X7_errorPosition yv_X7_errorPosition kX7 rfl (by decide) hq.o rfl rfl (Nat.le_of_ble_eq_true rfl) rfl (c_X7_errorPosition hq hR1 hG hB) (fun v2 hq2 => ?_)
  obtain ⟨h20, hR2, hw2⟩ := hq2
  have hK2 := hK1.out hw2 (Or.inl (by omega))
  refine G_icmp_eq (tgt := 1707) dL_law_233 (by decide) (fun c233 => ?_) (fun c233 => ?_)
  · refine G_bud (b2 := (b.1 - 4, b.2 - 24)) ⟨Nat.sub_le _ _, Nat.sub_le _ _⟩ ?_
    exact k v2 _ hK2 hR2 hI
  · exact absurd rfl c233
set_option maxHeartbeats 4000000 in
set_option maxRecDepth 100000 in
theorem b_together {σ : vS} {v : vV} {a L i c n B : Nat} {xs : Nat → Int32} {S : mS} {t : mN} {D : List mC} {sl : Nat → Option mC} {Q : vO → vM → Prop} {b : Nat × Nat} (hT : kLT σ 0) (hK : KT v 0 ((t, n), (c, S), D, sl)) (hq : LR σ 1603) (hR0 : RT v 1603 ((t, n), (c, S), D, sl)) (hG : GI B ((t, n), (c, S), D, sl)) (hB1 : 8400100 ≤ B) (hB : B + 6000000 < 1000000000) (hf : σ.2.2.2 = false) (ho : vK σ 1611 12 1) (hi : i + 4 ≤ L) (hL : L ≤ 2048) (hb : 4 ≤ b.1 ∧ 24 ≤ b.2) (k : ∀ (v9 : vV) (T9 : gT), KT v9 0 T9 → RT v9 1603 T9 → GI (B + 70000) T9 → vG (kZl a L xs) M_L_law 1707 [some (.ref (a + 1000000)), some (.ref (0)), some (.ref (1603)), some (.ref (1611)), some (.int (nI (i))), none, none] [] (b.1 - 4, b.2 - 24) (σ, v9) Q) : vG (kZl a L xs) M_L_law 1382 [some (.ref (a + 1000000)), some (.ref (0)), some (.ref (1603)), some (.ref (1611)), some (.int (nI (i))), none, none] [] b (σ, v) Q := by
  have hZ : ∀ s args c hz, kZl a L xs s args c hz → a < hz ∧ va_X a L xs s s.heap := fun _ _ _ _ z9 => ⟨z9.1, z9.2.1⟩
  have hI : GI (B + 70000) (g_together ((t, n), (c, S), D, sl)).2.2 := I_together hG hB1
  refine G_aload_n dL_law_1382 rfl rfl ?_
  refine G_cVs (rest := []) (As := []) dL_law_1383 lL_170 yk_X6_together yv_X6_together kX6 rfl (by decide) hT.o rfl rfl (Nat.le_of_ble_eq_true rfl) rfl (c_X6_together hT hK hG hB hf) (fun v1 hq1 => ?_)
  obtain ⟨hK1, hw1⟩ := hq1
  have hR1 : RT v1 1603 ((t, n), (c, S), D, sl) := hR0.of (fun j _ _ _ => by rw [hw1 1603 (by omega)]) (fun m g1 g2 _ => hw1 m (by omega))
  refine G_aload_n dL_law_1386 rfl rfl ?_
  refine G_cVs (rest := [.int (((g_together ((t, n), (c, S), D, sl)).2.1))]) (As := []) dL_law_1387 lL_173 yk_X7_together yv_X7_together kX7 rfl (by decide) hq.o rfl rfl (Nat.le_of_ble_eq_true rfl) rfl (c_X7_together hq hR1 hG hB) (fun v2 hq2 => ?_)
  obtain ⟨h20, hR2, hw2⟩ := hq2
  have hK2 := hK1.out hw2 (Or.inl (by omega))
  refine G_icmp_eq (tgt := 1707) dL_law_1390 (by decide) (fun c1390 => ?_) (fun c1390 => ?_)
  · refine G_bud (b2 := (b.1 - 4, b.2 - 24)) ⟨Nat.sub_le _ _, Nat.sub_le _ _⟩ ?_
    exact k v2 _ hK2 hR2 hI
  · exact absurd rfl c1390
