
/-! THE LAW'S CASES -/
abbrev M_L_law : vR := (RL, cL_law, 7, some .boolean, { frames := 12, cells := 601024, slots := 7293033, locals := 281 }, "law")
def kZl (a L : Nat) (xs : Nat → Int32) : kZ9 := fun s _ c hz => a < hz ∧ va_X a L xs s s.heap ∧ vNcs s ∧ ∀ x ∈ c.exceptionTable.toList, False
theorem nL_iK {k : Nat} (h : k < 4) : k = 0 ∨ k = 1 ∨ k = 2 ∨ k = 3 := by omega
theorem lg_same (x : Int64) : lg_cmp x x = 0 := by
  have h1 := lg_lt x x
  have h2 := lg_gt x x
  rw [Int64.lt_iff_toInt_lt] at h1 h2
  have h3 : ¬ lg_cmp x x < 0 := fun q => absurd (h1.mp q) (by omega)
  have h4 : ¬ 0 < lg_cmp x x := fun q => absurd (h2.mp q) (by omega)
  rw [i_lt, i_0] at h3
  rw [i_lt, i_0] at h4
  apply Int32.toInt_inj.mp
  rw [i_0]
  omega
set_option maxHeartbeats 4000000 in
set_option maxRecDepth 100000 in
theorem b_append {σ : vS} {v : vV} {a L i c n B : Nat} {xs : Nat → Int32} {S : mS} {t : mN} {D : List mC} {sl : Nat → Option mC} {Q : vO → vM → Prop} {b : Nat × Nat} (hT : kLT σ 0) (hK : KT v 0 ((t, n), (c, S), D, sl)) (hq : LR σ 1603) (hR0 : RT v 1603 ((t, n), (c, S), D, sl)) (hG : GI B ((t, n), (c, S), D, sl)) (hB1 : 8400100 ≤ B) (hB : B + 6000000 < 1000000000) (hf : σ.2.2.2 = false) (ho : vK σ 1611 12 1) (hi : i + 4 ≤ L) (hL : L ≤ 2048) (hb : 4 ≤ b.1 ∧ 24 ≤ b.2) (k : ∀ (v9 : vV) (T9 : gT), KT v9 0 T9 → RT v9 1603 T9 → GI (B + 70000) T9 → vG (kZl a L xs) M_L_law 1707 [some (.ref (a + 1000000)), some (.ref (0)), some (.ref (1603)), some (.ref (1611)), some (.int (nI (i))), none, none] [] (b.1 - 4, b.2 - 24) (σ, v9) Q) : vG (kZl a L xs) M_L_law 156 [some (.ref (a + 1000000)), some (.ref (0)), some (.ref (1603)), some (.ref (1611)), some (.int (nI (i))), none, none] [] b (σ, v) Q := by
  have hZ : ∀ s args c hz, kZl a L xs s args c hz → a < hz ∧ va_X a L xs s s.heap := fun _ _ _ _ z9 => ⟨z9.1, z9.2.1⟩
  have hk9 := (k_append (t := t) (n := n) (c := c) (S := S) (D := D) (sl := sl) (a := xs (i + 1))).1
  have hI : GI (B + 70000) (g_append ((t, n), (c, S), D, sl) (xs (i + 1))).2.2 := I_append hG hB1
  refine G_aload_n dL_law_156 rfl rfl ?_
  refine G_aload_n dL_law_157 rfl rfl ?_
  refine G_iload dL_law_158 rfl ?_
  refine G_iconst (v := nI 1) dL_law_160 (by decide) ?_
  refine G_iaddN dL_law_161 ?_
  refine G_sld (i + 1) hZ dL_law_162 rfl (by omega) (by omega) ?_
  refine G_aload_n dL_law_163 rfl rfl ?_
  refine G_callSW (np := 3) (hh := [(0, 9, 12, 13), (0, 9, 15, 15)]) (rest := []) (As := [.ref (0), .int ((xs (i + 1))), .ref (1611)]) (fun _ _ _ _ z9 => z9.2.2.1) dL_law_164 lL_95 (aw_t 324 (by decide +kernel) (by decide +kernel)) (aw_t 0 (by decide +kernel) (by decide +kernel)) ⟨by decide +kernel, by decide +kernel, by decide +kernel⟩ ys_L_append ⟨Nat.le_of_ble_eq_true rfl, Nat.le_of_ble_eq_true rfl⟩ rfl rfl (Nat.le_of_ble_eq_true rfl) hb (c_L_append hT hK hG hB hf ho (by omega)) (fun o9 μ9 h9 hf9 => by obtain ⟨-, v9, rfl, -⟩ := h9; exact absurd (hf.symm.trans hf9) Bool.false_ne_true) ?_
  rintro o9 μ9 ⟨rfl, v1, rfl, hK1, hout, hfr⟩
  have hR1 : RT v1 1603 ((t, n), (c, S), D, sl) := hR0.of (fun j _ _ _ => by rw [hfr 1603 (by omega) (by omega)]) (fun m g1 g2 _ => hfr m (by omega) (by omega))
  refine G_istore (ls2 := [some (.ref (a + 1000000)), some (.ref (0)), some (.ref (1603)), some (.ref (1611)), some (.int (nI (i))), some (.int (nI ((g_append ((t, n), (c, S), D, sl) (xs (i + 1))).1))), none]) dL_law_167 (by decide) rfl ?_
  refine G_aload_n dL_law_169 rfl rfl ?_
  refine G_aload_n dL_law_170 rfl rfl ?_
  refine G_iload dL_law_171 rfl ?_
  refine G_iconst (v := nI 1) dL_law_173 (by decide) ?_
  refine G_iaddN dL_law_174 ?_
  refine G_sld (i + 1) hZ dL_law_175 rfl (by omega) (by omega) ?_
  refine G_cVs (rest := []) (As := [.int ((xs (i + 1)))]) dL_law_176 lL_100 yk_X7_append yv_X7_append kX7 rfl (by decide) hq.o rfl rfl (Nat.le_of_ble_eq_true rfl) rfl (c_X7_append hq hR1 hG hB) (fun v2 hq2 => ?_)
  obtain ⟨h20, hR2, hw2⟩ := hq2
  have hK2 := hK1.out hw2 (Or.inl (by omega))
  have hout2 : (g_append ((t, n), (c, S), D, sl) (xs (i + 1))).1 = 0 → v2 1611 0 = (g_append ((t, n), (c, S), D, sl) (xs (i + 1))).2.1 := fun z9 => by rw [hw2 1611 (by omega)]; exact hout z9
  refine G_istore (ls2 := [some (.ref (a + 1000000)), some (.ref (0)), some (.ref (1603)), some (.ref (1611)), some (.int (nI (i))), some (.int (nI ((g_append ((t, n), (c, S), D, sl) (xs (i + 1))).1))), some (.int (((g_append ((t, n), (c, S), D, sl) (xs (i + 1))).2.1)))]) dL_law_179 (by decide) rfl ?_
  refine G_aload_n dL_law_181 rfl rfl ?_
  refine G_cVp (rest := []) (As := []) dL_law_182 lL_101 yk_X7_thrown yv_X7_thrown kX7 rfl (by decide) hq.o rfl rfl (Nat.le_of_ble_eq_true rfl) rfl (c_X7_thrown hq) ?_
  refine G_top (y := nI ((g_append ((t, n), (c, S), D, sl) (xs (i + 1))).1)) h20 ?_
  refine G_iload dL_law_185 rfl ?_
  refine G_icmp_eqN (tgt := 192) dL_law_187 (by decide) (by omega) (by omega) (fun c187 => ?_) (fun c187 => ?_)
  · refine G_iload dL_law_192 rfl ?_
    refine G_if_neN (tgt := 209) dL_law_194 (by decide) (by omega) (fun c194 => ?_) (fun c194 => ?_)
    · refine G_goto (tgt := 1707) dL_law_209 (by decide) ?_
      refine G_weak (ls2 := [some (.ref (a + 1000000)), some (.ref (0)), some (.ref (1603)), some (.ref (1611)), some (.int (nI (i))), none, none]) ⟨rfl, rfl, rfl, rfl, rfl, trivial⟩ ?_
      exact k v2 _ hK2 hR2 hI
    · refine G_aload_n dL_law_197 rfl rfl ?_
      refine G_iconst (v := nI 0) dL_law_198 (by decide) ?_
      refine G_lald (0) dL_law_199 ho rfl (by omega) (by decide) ?_
      refine G_iload dL_law_200 rfl ?_
      refine G_i2l dL_law_202 ?_
      refine G_lcmp dL_law_203 ?_
      refine G_if_eq (tgt := 209) dL_law_204 (by decide) (fun c204 => ?_) (fun c204 => ?_)
      · refine G_goto (tgt := 1707) dL_law_209 (by decide) ?_
        refine G_weak (ls2 := [some (.ref (a + 1000000)), some (.ref (0)), some (.ref (1603)), some (.ref (1611)), some (.int (nI (i))), none, none]) ⟨rfl, rfl, rfl, rfl, rfl, trivial⟩ ?_
        exact k v2 _ hK2 hR2 hI
      · exact absurd (by rw [hout2 (by omega)]; exact lg_same _) c204
  · exact absurd rfl c187
