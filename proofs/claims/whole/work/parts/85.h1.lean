
/-! THE LAW'S CASES -/
abbrev M_L_law : vR := (RL, cL_law, 7, some .boolean, { frames := 14, cells := 601024, slots := 7293033, locals := 564 }, "law")
def kZl (a L : Nat) (xs : Nat → Int32) : kZ9 := fun s _ _ hz => a < hz ∧ va_X a L xs s s.heap ∧ vNcs s
theorem nL_iK {k : Nat} (h : k < 4) : k = 0 ∨ k = 1 ∨ k = 2 ∨ k = 3 := by omega
theorem lg_same (x : Int64) : lg_cmp x x = 0 := by
  have h1 := lg_lt x x
  have h2 := lg_gt x x
  rw [Int64.lt_iff_toInt_lt] at h1 h2
  have h3 : ¬ lg_cmp x x < 0 := fun q => absurd (h1.mp q) (by omega)
  have h4 : ¬ 0 < lg_cmp x x := fun q => absurd (h2.mp q) (by omega)
  rw [i_lt, i_0] at h3
  rw [i_lt, i_0] at h4
  apply Int32.toInt_inj.mp
  rw [i_0]
  omega
set_option maxHeartbeats 4000000 in
set_option maxRecDepth 100000 in
theorem b_append {σ : vS} {v : vV} {a L i c n B : Nat} {xs : Nat → Int32} {S : mS} {t : mN} {D : List mC} {sl : Nat → Option mC} {Q : vO → vM → Prop} {b : Nat × Nat} (hT : kLT σ 0) (hK : KT v 0 ((t, n), (c, S), D, sl)) (hq : LR σ 1603) (hR0 : RT v 1603 ((t, n), (c, S), D, sl)) (hG : GI B ((t, n), (c, S), D, sl)) (hB1 : 8400100 ≤ B) (hB : B + 6000000 < 1000000000) (hf : σ.2.2.2 = false) (ho : vK σ 1611 12 1) (hi : i + 4 ≤ L) (hL : L ≤ 2048) (hb : 4 ≤ b.1 ∧ 24 ≤ b.2) (k : ∀ (v9 : vV) (T9 : gT), KT v9 0 T9 → RT v9 1603 T9 → GI (B + 70000) T9 → vG (kZl a L xs) M_L_law 1707 [some (.ref (a + 1000000)), some (.ref (0)), some (.ref (1603)), some (.ref (1611)), some (.int (nI (i))), none, none] [] (b.1 - 4, b.2 - 24) (σ, v9) Q) : vG (kZl a L xs) M_L_law 156 [some (.ref (a + 1000000)), some (.ref (0)), some (.ref (1603)), some (.ref (1611)), some (.int (nI (i))), none, none] [] b (σ, v) Q := by
  have hZ : ∀ s args c hz, kZl a L xs s args c hz → a < hz ∧ va_X a L xs s s.heap := fun _ _ _ _ z9 => ⟨z9.1, z9.2.1⟩
  have hk9 := (k_append (t := t) (n := n) (c := c) (S := S) (D := D) (sl := sl) (a := xs (i + 1))).1
  have hI : GI (B + 70000) (g_append ((t, n), (c, S), D, sl) (xs (i + 1))).2.2 := I_append hG hB1
  refine G_aload_n dL_law_156 rfl rfl ?_
  refine G_aload_n dL_law_157 rfl rfl ?_
  refine G_iload dL_law_158 rfl ?_
  refine G_iconst (v := nI 1) dL_law_160 (by decide) ?_
  refine G_iaddN dL_law_161 ?_
  refine G_sld (i + 1) hZ dL_law_162 rfl (by omega) (by omega) ?_
  refine G_aload_n dL_law_163 rfl rfl ?_
  refine G_callSW (np := 3) (hh := [(0, 9, 12, 13), (0, 9, 15, 15)]) (rest := []) (As := [.ref (0), .int ((xs (i + 1))), .ref (1611)]) (fun _ _ _ _ z9 => z9.2.2) dL_law_164 lL_95 (aw_t 324 (by decide +kernel) (by decide +kernel)) (aw_t 0 (by decide +kernel) (by decide +kernel)) ⟨by decide +kernel, by decide +kernel, by decide +kernel⟩ ys_L_append ⟨Nat.le_of_ble_eq_true rfl, Nat.le_of_ble_eq_true rfl⟩ rfl rfl (Nat.le_of_ble_eq_true rfl) hb (c_L_append hT hK hG hB hf ho (by omega)) (fun o9 μ9 h9 hf9 => by obtain ⟨-, v9, rfl, -⟩ := h9; exact absurd (hf.symm.trans hf9) Bool.false_ne_true) ?_
  rintro o9 μ9 ⟨rfl, v1, rfl, hK1, hout, hfr⟩
  have hR1 : RT v1 1603 ((t, n), (c, S), D, sl) := hR0.of (fun j _ _ _ => by rw [hfr 1603 (by omega) (by omega)]) (fun m g1 g2 _ => hfr m (by omega) (by omega))
  refine G_istore (ls2 := [some (.ref (a + 1000000)), some (.ref (0)), some (.ref (1603)), some (.ref (1611)), some (.int (nI (i))), some (.int (nI ((g_append ((t, n), (c, S), D, sl) (xs (i + 1))).1))), none]) dL_law_167 (by decide) rfl ?_
  refine G_aload_n dL_law_169 rfl rfl ?_
  refine G_aload_n dL_law_170 rfl rfl ?_
  refine G_iload dL_law_171 rfl ?_
  refine G_iconst (v := nI 1) dL_law_173 (by decide) ?_
  refine G_iaddN dL_law_174 ?_
  refine G_sld (i + 1) hZ dL_law_175 rfl (by omega) (by omega) ?_
  refine G_cVs (rest := []) (As := [.int ((xs (i + 1)))]) dL_law_176 lL_100 yk_X7_append yv_X7_append kX7 rfl (by decide) hq.o rfl rfl (Nat.le_of_ble_eq_true rfl) rfl (c_X7_append hq hR1 hG hB) (fun v2 hq2 => ?_)
  obtain ⟨h20, hR2, hw2⟩ := hq2
  have hK2 := hK1.out hw2 (Or.inl (by omega))
  have hout2 : (g_append ((t, n), (c, S), D, sl) (xs (i + 1))).1 = 0 → v2 1611 0 = (g_append ((t, n), (c, S), D, sl) (xs (i + 1))).2.1 := fun z9 => by rw [hw2 1611 (by omega)]; exact hout z9
  refine G_istore (ls2 := [some (.ref (a + 1000000)), some (.ref (0)), some (.ref (1603)), some (.ref (1611)), some (.int (nI (i))), some (.int (nI ((g_append ((t, n), (c, S), D, sl) (xs (i + 1))).1))), some (.int (((g_append ((t, n), (c, S), D, sl) (xs (i + 1))).2.1)))]) dL_law_179 (by decide) rfl ?_
  refine G_aload_n dL_law_181 rfl rfl ?_
  refine G_cVp (rest := []) (As := []) dL_law_182 lL_101 yk_X7_thrown yv_X7_thrown kX7 rfl (by decide) hq.o rfl rfl (Nat.le_of_ble_eq_true rfl) rfl (c_X7_thrown hq) ?_
  refine G_top (y := nI ((g_append ((t, n), (c, S), D, sl) (xs (i + 1))).1)) h20 ?_
  refine G_iload dL_law_185 rfl ?_
  refine G_icmp_eqN (tgt := 192) dL_law_187 (by decide) (by omega) (by omega) (fun c187 => ?_) (fun c187 => ?_)
  · refine G_iload dL_law_192 rfl ?_
    refine G_if_neN (tgt := 209) dL_law_194 (by decide) (by omega) (fun c194 => ?_) (fun c194 => ?_)
    · refine G_goto (tgt := 1707) dL_law_209 (by decide) ?_
      refine G_weak (ls2 := [some (.ref (a + 1000000)), some (.ref (0)), some (.ref (1603)), some (.ref (1611)), some (.int (nI (i))), none, none]) ⟨rfl, rfl, rfl, rfl, rfl, trivial⟩ ?_
      exact k v2 _ hK2 hR2 hI
    · refine G_aload_n dL_law_197 rfl rfl ?_
      refine G_iconst (v := nI 0) dL_law_198 (by decide) ?_
      refine G_lald (0) dL_law_199 ho rfl (by omega) (by decide) ?_
      refine G_iload dL_law_200 rfl ?_
      refine G_i2l dL_law_202 ?_
      refine G_lcmp dL_law_203 ?_
      refine G_if_eq (tgt := 209) dL_law_204 (by decide) (fun c204 => ?_) (fun c204 => ?_)
      · refine G_goto (tgt := 1707) dL_law_209 (by decide) ?_
        refine G_weak (ls2 := [some (.ref (a + 1000000)), some (.ref (0)), some (.ref (1603)), some (.ref (1611)), some (.int (nI (i))), none, none]) ⟨rfl, rfl, rfl, rfl, rfl, trivial⟩ ?_
        exact k v2 _ hK2 hR2 hI
      · exact absurd (by rw [hout2 (by omega)]; exact lg_same _) c204
  · exact absurd rfl c187
set_option maxHeartbeats 4000000 in
set_option maxRecDepth 100000 in
theorem b_load {σ : vS} {v : vV} {a L i c n B : Nat} {xs : Nat → Int32} {S : mS} {t : mN} {D : List mC} {sl : Nat → Option mC} {Q : vO → vM → Prop} {b : Nat × Nat} (hT : kLT σ 0) (hK : KT v 0 ((t, n), (c, S), D, sl)) (hq : LR σ 1603) (hR0 : RT v 1603 ((t, n), (c, S), D, sl)) (hG : GI B ((t, n), (c, S), D, sl)) (hB1 : 8400100 ≤ B) (hB : B + 6000000 < 1000000000) (hf : σ.2.2.2 = false) (ho : vK σ 1611 12 1) (hi : i + 4 ≤ L) (hL : L ≤ 2048) (hb : 4 ≤ b.1 ∧ 24 ≤ b.2) (k : ∀ (v9 : vV) (T9 : gT), KT v9 0 T9 → RT v9 1603 T9 → GI (B + 70000) T9 → vG (kZl a L xs) M_L_law 1707 [some (.ref (a + 1000000)), some (.ref (0)), some (.ref (1603)), some (.ref (1611)), some (.int (nI (i))), none, none] [] (b.1 - 4, b.2 - 24) (σ, v9) Q) : vG (kZl a L xs) M_L_law 238 [some (.ref (a + 1000000)), some (.ref (0)), some (.ref (1603)), some (.ref (1611)), some (.int (nI (i))), none, none] [] b (σ, v) Q := by
  have hZ : ∀ s args c hz, kZl a L xs s args c hz → a < hz ∧ va_X a L xs s s.heap := fun _ _ _ _ z9 => ⟨z9.1, z9.2.1⟩
  have hk9 := (k_load (t := t) (n := n) (c := c) (S := S) (D := D) (sl := sl)).1
  have hI : GI (B + 70000) (g_load ((t, n), (c, S), D, sl)).2.2 := I_load hG hB1 hK.t.1
  refine G_aload_n dL_law_238 rfl rfl ?_
  refine G_aload_n dL_law_239 rfl rfl ?_
  refine G_callSW (np := 2) (hh := [(0, 8, 11, 15)]) (rest := []) (As := [.ref (0), .ref (1611)]) (fun _ _ _ _ z9 => z9.2.2) dL_law_240 lL_112 (aw_t 421 (by decide +kernel) (by decide +kernel)) (aw_t 0 (by decide +kernel) (by decide +kernel)) ⟨by decide +kernel, by decide +kernel, by decide +kernel⟩ ys_L_load ⟨Nat.le_of_ble_eq_true rfl, Nat.le_of_ble_eq_true rfl⟩ rfl rfl (Nat.le_of_ble_eq_true rfl) hb (c_L_load hT hK hG hB hf ho (by omega)) (fun o9 μ9 h9 hf9 => by obtain ⟨-, v9, rfl, -⟩ := h9; exact absurd (hf.symm.trans hf9) Bool.false_ne_true) ?_
  rintro o9 μ9 ⟨rfl, v1, rfl, hK1, hout, hfr⟩
  have hR1 : RT v1 1603 ((t, n), (c, S), D, sl) := hR0.of (fun j _ _ _ => by rw [hfr 1603 (by omega) (by omega)]) (fun m g1 g2 _ => hfr m (by omega) (by omega))
  refine G_istore (ls2 := [some (.ref (a + 1000000)), some (.ref (0)), some (.ref (1603)), some (.ref (1611)), some (.int (nI (i))), some (.int (nI ((g_load ((t, n), (c, S), D, sl)).1))), none]) dL_law_243 (by decide) rfl ?_
  refine G_aload_n dL_law_245 rfl rfl ?_
  refine G_cVs (rest := []) (As := []) dL_law_246 lL_115 yk_X7_load yv_X7_load kX7 rfl (by decide) hq.o rfl rfl (Nat.le_of_ble_eq_true rfl) rfl (c_X7_load hq hR1 hG hB) (fun v2 hq2 => ?_)
  obtain ⟨h20, hR2, hw2⟩ := hq2
  have hK2 := hK1.out hw2 (Or.inl (by omega))
  have hout2 : (g_load ((t, n), (c, S), D, sl)).1 = 0 → v2 1611 0 = (g_load ((t, n), (c, S), D, sl)).2.1 := fun z9 => by rw [hw2 1611 (by omega)]; exact hout z9
  refine G_istore (ls2 := [some (.ref (a + 1000000)), some (.ref (0)), some (.ref (1603)), some (.ref (1611)), some (.int (nI (i))), some (.int (nI ((g_load ((t, n), (c, S), D, sl)).1))), some (.int (((g_load ((t, n), (c, S), D, sl)).2.1)))]) dL_law_249 (by decide) rfl ?_
  refine G_aload_n dL_law_251 rfl rfl ?_
  refine G_cVp (rest := []) (As := []) dL_law_252 lL_101 yk_X7_thrown yv_X7_thrown kX7 rfl (by decide) hq.o rfl rfl (Nat.le_of_ble_eq_true rfl) rfl (c_X7_thrown hq) ?_
  refine G_top (y := nI ((g_load ((t, n), (c, S), D, sl)).1)) h20 ?_
  refine G_iload dL_law_255 rfl ?_
  refine G_icmp_eqN (tgt := 262) dL_law_257 (by decide) (by omega) (by omega) (fun c257 => ?_) (fun c257 => ?_)
  · refine G_iload dL_law_262 rfl ?_
    refine G_if_neN (tgt := 279) dL_law_264 (by decide) (by omega) (fun c264 => ?_) (fun c264 => ?_)
    · refine G_goto (tgt := 1707) dL_law_279 (by decide) ?_
      refine G_weak (ls2 := [some (.ref (a + 1000000)), some (.ref (0)), some (.ref (1603)), some (.ref (1611)), some (.int (nI (i))), none, none]) ⟨rfl, rfl, rfl, rfl, rfl, trivial⟩ ?_
      exact k v2 _ hK2 hR2 hI
    · refine G_aload_n dL_law_267 rfl rfl ?_
      refine G_iconst (v := nI 0) dL_law_268 (by decide) ?_
      refine G_lald (0) dL_law_269 ho rfl (by omega) (by decide) ?_
      refine G_iload dL_law_270 rfl ?_
      refine G_i2l dL_law_272 ?_
      refine G_lcmp dL_law_273 ?_
      refine G_if_eq (tgt := 279) dL_law_274 (by decide) (fun c274 => ?_) (fun c274 => ?_)
      · refine G_goto (tgt := 1707) dL_law_279 (by decide) ?_
        refine G_weak (ls2 := [some (.ref (a + 1000000)), some (.ref (0)), some (.ref (1603)), some (.ref (1611)), some (.int (nI (i))), none, none]) ⟨rfl, rfl, rfl, rfl, rfl, trivial⟩ ?_
        exact k v2 _ hK2 hR2 hI
      · exact absurd (by rw [hout2 (by omega)]; exact lg_same _) c274
  · exact absurd rfl c257
set_option maxHeartbeats 4000000 in
set_option maxRecDepth 100000 in
theorem b_about {σ : vS} {v : vV} {a L i c n B : Nat} {xs : Nat → Int32} {S : mS} {t : mN} {D : List mC} {sl : Nat → Option mC} {Q : vO → vM → Prop} {b : Nat × Nat} (hT : kLT σ 0) (hK : KT v 0 ((t, n), (c, S), D, sl)) (hq : LR σ 1603) (hR0 : RT v 1603 ((t, n), (c, S), D, sl)) (hG : GI B ((t, n), (c, S), D, sl)) (hB1 : 8400100 ≤ B) (hB : B + 6000000 < 1000000000) (hf : σ.2.2.2 = false) (ho : vK σ 1611 12 1) (hi : i + 4 ≤ L) (hL : L ≤ 2048) (hb : 4 ≤ b.1 ∧ 24 ≤ b.2) (k : ∀ (v9 : vV) (T9 : gT), KT v9 0 T9 → RT v9 1603 T9 → GI (B + 70000) T9 → vG (kZl a L xs) M_L_law 1707 [some (.ref (a + 1000000)), some (.ref (0)), some (.ref (1603)), some (.ref (1611)), some (.int (nI (i))), none, none] [] (b.1 - 4, b.2 - 24) (σ, v9) Q) : vG (kZl a L xs) M_L_law 282 [some (.ref (a + 1000000)), some (.ref (0)), some (.ref (1603)), some (.ref (1611)), some (.int (nI (i))), none, none] [] b (σ, v) Q := by
  have hZ : ∀ s args c hz, kZl a L xs s args c hz → a < hz ∧ va_X a L xs s s.heap := fun _ _ _ _ z9 => ⟨z9.1, z9.2.1⟩
  have hk9 := (k_about (t := t) (n := n) (c := c) (S := S) (D := D) (sl := sl) (w := xs (i + 1))).1
  have hI : GI (B + 70000) (g_about ((t, n), (c, S), D, sl) (xs (i + 1))).2.2 := I_about hG hB1
  refine G_aload_n dL_law_282 rfl rfl ?_
  refine G_aload_n dL_law_283 rfl rfl ?_
  refine G_iload dL_law_284 rfl ?_
  refine G_iconst (v := nI 1) dL_law_286 (by decide) ?_
  refine G_iaddN dL_law_287 ?_
  refine G_sld (i + 1) hZ dL_law_288 rfl (by omega) (by omega) ?_
  refine G_aload_n dL_law_289 rfl rfl ?_
  refine G_callSW (np := 3) (hh := [(0, 9, 12, 13)]) (rest := []) (As := [.ref (0), .int ((xs (i + 1))), .ref (1611)]) (fun _ _ _ _ z9 => z9.2.2) dL_law_290 lL_116 (aw_t 614 (by decide +kernel) (by decide +kernel)) (aw_t 0 (by decide +kernel) (by decide +kernel)) ⟨by decide +kernel, by decide +kernel, by decide +kernel⟩ ys_L_about ⟨Nat.le_of_ble_eq_true rfl, Nat.le_of_ble_eq_true rfl⟩ rfl rfl (Nat.le_of_ble_eq_true rfl) hb (c_L_about hT hK hG hB hf ho (by omega)) (fun o9 μ9 h9 hf9 => by obtain ⟨-, v9, rfl, -⟩ := h9; exact absurd (hf.symm.trans hf9) Bool.false_ne_true) ?_
  rintro o9 μ9 ⟨rfl, v1, rfl, hK1, hout, hfr⟩
  have hR1 : RT v1 1603 ((t, n), (c, S), D, sl) := hR0.of (fun j _ _ _ => by rw [hfr 1603 (by omega) (by omega)]) (fun m g1 g2 _ => hfr m (by omega) (by omega))
  refine G_istore (ls2 := [some (.ref (a + 1000000)), some (.ref (0)), some (.ref (1603)), some (.ref (1611)), some (.int (nI (i))), some (.int (nI ((g_about ((t, n), (c, S), D, sl) (xs (i + 1))).1))), none]) dL_law_293 (by decide) rfl ?_
  refine G_aload_n dL_law_295 rfl rfl ?_
  refine G_aload_n dL_law_296 rfl rfl ?_
  refine G_iload dL_law_297 rfl ?_
  refine G_iconst (v := nI 1) dL_law_299 (by decide) ?_
  refine G_iaddN dL_law_300 ?_
  refine G_sld (i + 1) hZ dL_law_301 rfl (by omega) (by omega) ?_
  refine G_cVs (rest := []) (As := [.int ((xs (i + 1)))]) dL_law_302 lL_118 yk_X7_about yv_X7_about kX7 rfl (by decide) hq.o rfl rfl (Nat.le_of_ble_eq_true rfl) rfl (c_X7_about hq hR1 hG hB) (fun v2 hq2 => ?_)
  obtain ⟨h20, hR2, hw2⟩ := hq2
  have hK2 := hK1.out hw2 (Or.inl (by omega))
  have hout2 : (g_about ((t, n), (c, S), D, sl) (xs (i + 1))).1 = 0 → v2 1611 0 = (g_about ((t, n), (c, S), D, sl) (xs (i + 1))).2.1 := fun z9 => by rw [hw2 1611 (by omega)]; exact hout z9
  refine G_istore (ls2 := [some (.ref (a + 1000000)), some (.ref (0)), some (.ref (1603)), some (.ref (1611)), some (.int (nI (i))), some (.int (nI ((g_about ((t, n), (c, S), D, sl) (xs (i + 1))).1))), some (.int (((g_about ((t, n), (c, S), D, sl) (xs (i + 1))).2.1)))]) dL_law_305 (by decide) rfl ?_
  refine G_aload_n dL_law_307 rfl rfl ?_
  refine G_cVp (rest := []) (As := []) dL_law_308 lL_101 yk_X7_thrown yv_X7_thrown kX7 rfl (by decide) hq.o rfl rfl (Nat.le_of_ble_eq_true rfl) rfl (c_X7_thrown hq) ?_
  refine G_top (y := nI ((g_about ((t, n), (c, S), D, sl) (xs (i + 1))).1)) h20 ?_
  refine G_iload dL_law_311 rfl ?_
  refine G_icmp_eqN (tgt := 318) dL_law_313 (by decide) (by omega) (by omega) (fun c313 => ?_) (fun c313 => ?_)
  · refine G_iload dL_law_318 rfl ?_
    refine G_if_neN (tgt := 335) dL_law_320 (by decide) (by omega) (fun c320 => ?_) (fun c320 => ?_)
    · refine G_goto (tgt := 1707) dL_law_335 (by decide) ?_
      refine G_weak (ls2 := [some (.ref (a + 1000000)), some (.ref (0)), some (.ref (1603)), some (.ref (1611)), some (.int (nI (i))), none, none]) ⟨rfl, rfl, rfl, rfl, rfl, trivial⟩ ?_
      exact k v2 _ hK2 hR2 hI
    · refine G_aload_n dL_law_323 rfl rfl ?_
      refine G_iconst (v := nI 0) dL_law_324 (by decide) ?_
      refine G_lald (0) dL_law_325 ho rfl (by omega) (by decide) ?_
      refine G_iload dL_law_326 rfl ?_
      refine G_i2l dL_law_328 ?_
      refine G_lcmp dL_law_329 ?_
      refine G_if_eq (tgt := 335) dL_law_330 (by decide) (fun c330 => ?_) (fun c330 => ?_)
      · refine G_goto (tgt := 1707) dL_law_335 (by decide) ?_
        refine G_weak (ls2 := [some (.ref (a + 1000000)), some (.ref (0)), some (.ref (1603)), some (.ref (1611)), some (.int (nI (i))), none, none]) ⟨rfl, rfl, rfl, rfl, rfl, trivial⟩ ?_
        exact k v2 _ hK2 hR2 hI
      · exact absurd (by rw [hout2 (by omega)]; exact lg_same _) c330
  · exact absurd rfl c313
set_option maxHeartbeats 4000000 in
set_option maxRecDepth 100000 in
theorem b_memberOf {σ : vS} {v : vV} {a L i c n B : Nat} {xs : Nat → Int32} {S : mS} {t : mN} {D : List mC} {sl : Nat → Option mC} {Q : vO → vM → Prop} {b : Nat × Nat} (hT : kLT σ 0) (hK : KT v 0 ((t, n), (c, S), D, sl)) (hq : LR σ 1603) (hR0 : RT v 1603 ((t, n), (c, S), D, sl)) (hG : GI B ((t, n), (c, S), D, sl)) (hB1 : 8400100 ≤ B) (hB : B + 6000000 < 1000000000) (hf : σ.2.2.2 = false) (ho : vK σ 1611 12 1) (hi : i + 4 ≤ L) (hL : L ≤ 2048) (hb : 4 ≤ b.1 ∧ 24 ≤ b.2) (k : ∀ (v9 : vV) (T9 : gT), KT v9 0 T9 → RT v9 1603 T9 → GI (B + 70000) T9 → vG (kZl a L xs) M_L_law 1707 [some (.ref (a + 1000000)), some (.ref (0)), some (.ref (1603)), some (.ref (1611)), some (.int (nI (i))), none, none] [] (b.1 - 4, b.2 - 24) (σ, v9) Q) : vG (kZl a L xs) M_L_law 338 [some (.ref (a + 1000000)), some (.ref (0)), some (.ref (1603)), some (.ref (1611)), some (.int (nI (i))), none, none] [] b (σ, v) Q := by
  have hZ : ∀ s args c hz, kZl a L xs s args c hz → a < hz ∧ va_X a L xs s s.heap := fun _ _ _ _ z9 => ⟨z9.1, z9.2.1⟩
  have hk9 := (k_memberOf (t := t) (n := n) (c := c) (S := S) (D := D) (sl := sl) (m := xs (i + 1)) (w := xs (i + 2))).1
  have hI : GI (B + 70000) (g_memberOf ((t, n), (c, S), D, sl) (xs (i + 1)) (xs (i + 2))).2.2 := I_memberOf hG hB1
  refine G_aload_n dL_law_338 rfl rfl ?_
  refine G_aload_n dL_law_339 rfl rfl ?_
  refine G_iload dL_law_340 rfl ?_
  refine G_iconst (v := nI 1) dL_law_342 (by decide) ?_
  refine G_iaddN dL_law_343 ?_
  refine G_sld (i + 1) hZ dL_law_344 rfl (by omega) (by omega) ?_
  refine G_aload_n dL_law_345 rfl rfl ?_
  refine G_iload dL_law_346 rfl ?_
  refine G_iconst (v := nI 2) dL_law_348 (by decide) ?_
  refine G_iaddN dL_law_349 ?_
  refine G_sld (i + 2) hZ dL_law_350 rfl (by omega) (by omega) ?_
  refine G_aload_n dL_law_351 rfl rfl ?_
  refine G_callSW (np := 4) (hh := [(0, 10, 13, 28), (0, 10, 17, 13)]) (rest := []) (As := [.ref (0), .int ((xs (i + 1))), .int ((xs (i + 2))), .ref (1611)]) (fun _ _ _ _ z9 => z9.2.2) dL_law_352 lL_119 (aw_t 626 (by decide +kernel) (by decide +kernel)) (aw_t 0 (by decide +kernel) (by decide +kernel)) ⟨by decide +kernel, by decide +kernel, by decide +kernel⟩ ys_L_memberOf ⟨Nat.le_of_ble_eq_true rfl, Nat.le_of_ble_eq_true rfl⟩ rfl rfl (Nat.le_of_ble_eq_true rfl) hb (c_L_memberOf hT hK hG hB hf ho (by omega)) (fun o9 μ9 h9 hf9 => by obtain ⟨-, v9, rfl, -⟩ := h9; exact absurd (hf.symm.trans hf9) Bool.false_ne_true) ?_
  rintro o9 μ9 ⟨rfl, v1, rfl, hK1, hout, hfr⟩
  have hR1 : RT v1 1603 ((t, n), (c, S), D, sl) := hR0.of (fun j _ _ _ => by rw [hfr 1603 (by omega) (by omega)]) (fun m g1 g2 _ => hfr m (by omega) (by omega))
  refine G_istore (ls2 := [some (.ref (a + 1000000)), some (.ref (0)), some (.ref (1603)), some (.ref (1611)), some (.int (nI (i))), some (.int (nI ((g_memberOf ((t, n), (c, S), D, sl) (xs (i + 1)) (xs (i + 2))).1))), none]) dL_law_355 (by decide) rfl ?_
  refine G_aload_n dL_law_357 rfl rfl ?_
  refine G_aload_n dL_law_358 rfl rfl ?_
  refine G_iload dL_law_359 rfl ?_
  refine G_iconst (v := nI 1) dL_law_361 (by decide) ?_
  refine G_iaddN dL_law_362 ?_
  refine G_sld (i + 1) hZ dL_law_363 rfl (by omega) (by omega) ?_
  refine G_aload_n dL_law_364 rfl rfl ?_
  refine G_iload dL_law_365 rfl ?_
  refine G_iconst (v := nI 2) dL_law_367 (by decide) ?_
  refine G_iaddN dL_law_368 ?_
  refine G_sld (i + 2) hZ dL_law_369 rfl (by omega) (by omega) ?_
  refine G_cVs (rest := []) (As := [.int ((xs (i + 1))), .int ((xs (i + 2)))]) dL_law_370 lL_122 yk_X7_memberOf yv_X7_memberOf kX7 rfl (by decide) hq.o rfl rfl (Nat.le_of_ble_eq_true rfl) rfl (c_X7_memberOf hq hR1 hG hB) (fun v2 hq2 => ?_)
  obtain ⟨h20, hR2, hw2⟩ := hq2
  have hK2 := hK1.out hw2 (Or.inl (by omega))
  have hout2 : (g_memberOf ((t, n), (c, S), D, sl) (xs (i + 1)) (xs (i + 2))).1 = 0 → v2 1611 0 = (g_memberOf ((t, n), (c, S), D, sl) (xs (i + 1)) (xs (i + 2))).2.1 := fun z9 => by rw [hw2 1611 (by omega)]; exact hout z9
  refine G_istore (ls2 := [some (.ref (a + 1000000)), some (.ref (0)), some (.ref (1603)), some (.ref (1611)), some (.int (nI (i))), some (.int (nI ((g_memberOf ((t, n), (c, S), D, sl) (xs (i + 1)) (xs (i + 2))).1))), some (.int (((g_memberOf ((t, n), (c, S), D, sl) (xs (i + 1)) (xs (i + 2))).2.1)))]) dL_law_373 (by decide) rfl ?_
  refine G_aload_n dL_law_375 rfl rfl ?_
  refine G_cVp (rest := []) (As := []) dL_law_376 lL_101 yk_X7_thrown yv_X7_thrown kX7 rfl (by decide) hq.o rfl rfl (Nat.le_of_ble_eq_true rfl) rfl (c_X7_thrown hq) ?_
  refine G_top (y := nI ((g_memberOf ((t, n), (c, S), D, sl) (xs (i + 1)) (xs (i + 2))).1)) h20 ?_
  refine G_iload dL_law_379 rfl ?_
  refine G_icmp_eqN (tgt := 386) dL_law_381 (by decide) (by omega) (by omega) (fun c381 => ?_) (fun c381 => ?_)
  · refine G_iload dL_law_386 rfl ?_
    refine G_if_neN (tgt := 403) dL_law_388 (by decide) (by omega) (fun c388 => ?_) (fun c388 => ?_)
    · refine G_goto (tgt := 1707) dL_law_403 (by decide) ?_
      refine G_weak (ls2 := [some (.ref (a + 1000000)), some (.ref (0)), some (.ref (1603)), some (.ref (1611)), some (.int (nI (i))), none, none]) ⟨rfl, rfl, rfl, rfl, rfl, trivial⟩ ?_
      exact k v2 _ hK2 hR2 hI
    · refine G_aload_n dL_law_391 rfl rfl ?_
      refine G_iconst (v := nI 0) dL_law_392 (by decide) ?_
      refine G_lald (0) dL_law_393 ho rfl (by omega) (by decide) ?_
      refine G_iload dL_law_394 rfl ?_
      refine G_i2l dL_law_396 ?_
      refine G_lcmp dL_law_397 ?_
      refine G_if_eq (tgt := 403) dL_law_398 (by decide) (fun c398 => ?_) (fun c398 => ?_)
      · refine G_goto (tgt := 1707) dL_law_403 (by decide) ?_
        refine G_weak (ls2 := [some (.ref (a + 1000000)), some (.ref (0)), some (.ref (1603)), some (.ref (1611)), some (.int (nI (i))), none, none]) ⟨rfl, rfl, rfl, rfl, rfl, trivial⟩ ?_
        exact k v2 _ hK2 hR2 hI
      · exact absurd (by rw [hout2 (by omega)]; exact lg_same _) c398
  · exact absurd rfl c381
set_option maxHeartbeats 4000000 in
set_option maxRecDepth 100000 in
theorem b_session {σ : vS} {v : vV} {a L i c n B : Nat} {xs : Nat → Int32} {S : mS} {t : mN} {D : List mC} {sl : Nat → Option mC} {Q : vO → vM → Prop} {b : Nat × Nat} (hT : kLT σ 0) (hK : KT v 0 ((t, n), (c, S), D, sl)) (hq : LR σ 1603) (hR0 : RT v 1603 ((t, n), (c, S), D, sl)) (hG : GI B ((t, n), (c, S), D, sl)) (hB1 : 8400100 ≤ B) (hB : B + 6000000 < 1000000000) (hf : σ.2.2.2 = false) (ho : vK σ 1611 12 1) (hi : i + 4 ≤ L) (hL : L ≤ 2048) (hb : 4 ≤ b.1 ∧ 24 ≤ b.2) (k : ∀ (v9 : vV) (T9 : gT), KT v9 0 T9 → RT v9 1603 T9 → GI (B + 70000) T9 → vG (kZl a L xs) M_L_law 1707 [some (.ref (a + 1000000)), some (.ref (0)), some (.ref (1603)), some (.ref (1611)), some (.int (nI (i))), none, none] [] (b.1 - 4, b.2 - 24) (σ, v9) Q) : vG (kZl a L xs) M_L_law 406 [some (.ref (a + 1000000)), some (.ref (0)), some (.ref (1603)), some (.ref (1611)), some (.int (nI (i))), none, none] [] b (σ, v) Q := by
  have hZ : ∀ s args c hz, kZl a L xs s args c hz → a < hz ∧ va_X a L xs s s.heap := fun _ _ _ _ z9 => ⟨z9.1, z9.2.1⟩
  have hk9 := (k_session (t := t) (n := n) (c := c) (S := S) (D := D) (sl := sl) (m := xs (i + 1)) (k := xs (i + 2)) (w := xs (i + 3))).1
  have hI : GI (B + 70000) (g_session ((t, n), (c, S), D, sl) (xs (i + 1)) (xs (i + 2)) (xs (i + 3))).2.2 := I_session hG hB1
  refine G_aload_n dL_law_406 rfl rfl ?_
  refine G_aload_n dL_law_407 rfl rfl ?_
  refine G_iload dL_law_408 rfl ?_
  refine G_iconst (v := nI 1) dL_law_410 (by decide) ?_
  refine G_iaddN dL_law_411 ?_
  refine G_sld (i + 1) hZ dL_law_412 rfl (by omega) (by omega) ?_
  refine G_aload_n dL_law_413 rfl rfl ?_
  refine G_iload dL_law_414 rfl ?_
  refine G_iconst (v := nI 2) dL_law_416 (by decide) ?_
  refine G_iaddN dL_law_417 ?_
  refine G_sld (i + 2) hZ dL_law_418 rfl (by omega) (by omega) ?_
  refine G_aload_n dL_law_419 rfl rfl ?_
  refine G_iload dL_law_420 rfl ?_
  refine G_iconst (v := nI 3) dL_law_422 (by decide) ?_
  refine G_iaddN dL_law_423 ?_
  refine G_sld (i + 3) hZ dL_law_424 rfl (by omega) (by omega) ?_
  refine G_aload_n dL_law_425 rfl rfl ?_
  refine G_callSW (np := 5) (hh := [(0, 12, 15, 28), (0, 12, 19, 13)]) (rest := []) (As := [.ref (0), .int ((xs (i + 1))), .int ((xs (i + 2))), .int ((xs (i + 3))), .ref (1611)]) (fun _ _ _ _ z9 => z9.2.2) dL_law_426 lL_123 (aw_t 656 (by decide +kernel) (by decide +kernel)) (aw_t 0 (by decide +kernel) (by decide +kernel)) ⟨by decide +kernel, by decide +kernel, by decide +kernel⟩ ys_L_session ⟨Nat.le_of_ble_eq_true rfl, Nat.le_of_ble_eq_true rfl⟩ rfl rfl (Nat.le_of_ble_eq_true rfl) hb (c_L_session hT hK hG hB hf ho (by omega)) (fun o9 μ9 h9 hf9 => by obtain ⟨-, v9, rfl, -⟩ := h9; exact absurd (hf.symm.trans hf9) Bool.false_ne_true) ?_
  rintro o9 μ9 ⟨rfl, v1, rfl, hK1, hout, hfr⟩
  have hR1 : RT v1 1603 ((t, n), (c, S), D, sl) := hR0.of (fun j _ _ _ => by rw [hfr 1603 (by omega) (by omega)]) (fun m g1 g2 _ => hfr m (by omega) (by omega))
  refine G_istore (ls2 := [some (.ref (a + 1000000)), some (.ref (0)), some (.ref (1603)), some (.ref (1611)), some (.int (nI (i))), some (.int (nI ((g_session ((t, n), (c, S), D, sl) (xs (i + 1)) (xs (i + 2)) (xs (i + 3))).1))), none]) dL_law_429 (by decide) rfl ?_
  refine G_aload_n dL_law_431 rfl rfl ?_
  refine G_aload_n dL_law_432 rfl rfl ?_
  refine G_iload dL_law_433 rfl ?_
  refine G_iconst (v := nI 1) dL_law_435 (by decide) ?_
  refine G_iaddN dL_law_436 ?_
  refine G_sld (i + 1) hZ dL_law_437 rfl (by omega) (by omega) ?_
  refine G_aload_n dL_law_438 rfl rfl ?_
  refine G_iload dL_law_439 rfl ?_
  refine G_iconst (v := nI 2) dL_law_441 (by decide) ?_
  refine G_iaddN dL_law_442 ?_
  refine G_sld (i + 2) hZ dL_law_443 rfl (by omega) (by omega) ?_
  refine G_aload_n dL_law_444 rfl rfl ?_
  refine G_iload dL_law_445 rfl ?_
  refine G_iconst (v := nI 3) dL_law_447 (by decide) ?_
  refine G_iaddN dL_law_448 ?_
  refine G_sld (i + 3) hZ dL_law_449 rfl (by omega) (by omega) ?_
  refine G_cVs (rest := []) (As := [.int ((xs (i + 1))), .int ((xs (i + 2))), .int ((xs (i + 3)))]) dL_law_450 lL_126 yk_X7_session yv_X7_session kX7 rfl (by decide) hq.o rfl rfl (Nat.le_of_ble_eq_true rfl) rfl (c_X7_session hq hR1 hG hB) (fun v2 hq2 => ?_)
  obtain ⟨h20, hR2, hw2⟩ := hq2
  have hK2 := hK1.out hw2 (Or.inl (by omega))
  have hout2 : (g_session ((t, n), (c, S), D, sl) (xs (i + 1)) (xs (i + 2)) (xs (i + 3))).1 = 0 → v2 1611 0 = (g_session ((t, n), (c, S), D, sl) (xs (i + 1)) (xs (i + 2)) (xs (i + 3))).2.1 := fun z9 => by rw [hw2 1611 (by omega)]; exact hout z9
  refine G_istore (ls2 := [some (.ref (a + 1000000)), some (.ref (0)), some (.ref (1603)), some (.ref (1611)), some (.int (nI (i))), some (.int (nI ((g_session ((t, n), (c, S), D, sl) (xs (i + 1)) (xs (i + 2)) (xs (i + 3))).1))), some (.int (((g_session ((t, n), (c, S), D, sl) (xs (i + 1)) (xs (i + 2)) (xs (i + 3))).2.1)))]) dL_law_453 (by decide) rfl ?_
  refine G_aload_n dL_law_455 rfl rfl ?_
  refine G_cVp (rest := []) (As := []) dL_law_456 lL_101 yk_X7_thrown yv_X7_thrown kX7 rfl (by decide) hq.o rfl rfl (Nat.le_of_ble_eq_true rfl) rfl (c_X7_thrown hq) ?_
  refine G_top (y := nI ((g_session ((t, n), (c, S), D, sl) (xs (i + 1)) (xs (i + 2)) (xs (i + 3))).1)) h20 ?_
  refine G_iload dL_law_459 rfl ?_
  refine G_icmp_eqN (tgt := 466) dL_law_461 (by decide) (by omega) (by omega) (fun c461 => ?_) (fun c461 => ?_)
  · refine G_iload dL_law_466 rfl ?_
    refine G_if_neN (tgt := 483) dL_law_468 (by decide) (by omega) (fun c468 => ?_) (fun c468 => ?_)
    · refine G_goto (tgt := 1707) dL_law_483 (by decide) ?_
      refine G_weak (ls2 := [some (.ref (a + 1000000)), some (.ref (0)), some (.ref (1603)), some (.ref (1611)), some (.int (nI (i))), none, none]) ⟨rfl, rfl, rfl, rfl, rfl, trivial⟩ ?_
      exact k v2 _ hK2 hR2 hI
    · refine G_aload_n dL_law_471 rfl rfl ?_
      refine G_iconst (v := nI 0) dL_law_472 (by decide) ?_
      refine G_lald (0) dL_law_473 ho rfl (by omega) (by decide) ?_
      refine G_iload dL_law_474 rfl ?_
      refine G_i2l dL_law_476 ?_
      refine G_lcmp dL_law_477 ?_
      refine G_if_eq (tgt := 483) dL_law_478 (by decide) (fun c478 => ?_) (fun c478 => ?_)
      · refine G_goto (tgt := 1707) dL_law_483 (by decide) ?_
        refine G_weak (ls2 := [some (.ref (a + 1000000)), some (.ref (0)), some (.ref (1603)), some (.ref (1611)), some (.int (nI (i))), none, none]) ⟨rfl, rfl, rfl, rfl, rfl, trivial⟩ ?_
        exact k v2 _ hK2 hR2 hI
      · exact absurd (by rw [hout2 (by omega)]; exact lg_same _) c478
  · exact absurd rfl c461
set_option maxHeartbeats 4000000 in
set_option maxRecDepth 100000 in
theorem b_note {σ : vS} {v : vV} {a L i c n B : Nat} {xs : Nat → Int32} {S : mS} {t : mN} {D : List mC} {sl : Nat → Option mC} {Q : vO → vM → Prop} {b : Nat × Nat} (hT : kLT σ 0) (hK : KT v 0 ((t, n), (c, S), D, sl)) (hq : LR σ 1603) (hR0 : RT v 1603 ((t, n), (c, S), D, sl)) (hG : GI B ((t, n), (c, S), D, sl)) (hB1 : 8400100 ≤ B) (hB : B + 6000000 < 1000000000) (hf : σ.2.2.2 = false) (ho : vK σ 1611 12 1) (hi : i + 4 ≤ L) (hL : L ≤ 2048) (hb : 4 ≤ b.1 ∧ 24 ≤ b.2) (k : ∀ (v9 : vV) (T9 : gT), KT v9 0 T9 → RT v9 1603 T9 → GI (B + 70000) T9 → vG (kZl a L xs) M_L_law 1707 [some (.ref (a + 1000000)), some (.ref (0)), some (.ref (1603)), some (.ref (1611)), some (.int (nI (i))), none, none] [] (b.1 - 4, b.2 - 24) (σ, v9) Q) : vG (kZl a L xs) M_L_law 486 [some (.ref (a + 1000000)), some (.ref (0)), some (.ref (1603)), some (.ref (1611)), some (.int (nI (i))), none, none] [] b (σ, v) Q := by
  have hZ : ∀ s args c hz, kZl a L xs s args c hz → a < hz ∧ va_X a L xs s s.heap := fun _ _ _ _ z9 => ⟨z9.1, z9.2.1⟩
  have hk9 := (k_note (t := t) (n := n) (c := c) (S := S) (D := D) (sl := sl) (k := xs (i + 1)) (w := xs (i + 2))).1
  have hI : GI (B + 70000) (g_note ((t, n), (c, S), D, sl) (xs (i + 1)) (xs (i + 2))).2.2 := I_note hG hB1
  refine G_aload_n dL_law_486 rfl rfl ?_
  refine G_aload_n dL_law_487 rfl rfl ?_
  refine G_iload dL_law_488 rfl ?_
  refine G_iconst (v := nI 1) dL_law_490 (by decide) ?_
  refine G_iaddN dL_law_491 ?_
  refine G_sld (i + 1) hZ dL_law_492 rfl (by omega) (by omega) ?_
  refine G_aload_n dL_law_493 rfl rfl ?_
  refine G_iload dL_law_494 rfl ?_
  refine G_iconst (v := nI 2) dL_law_496 (by decide) ?_
  refine G_iaddN dL_law_497 ?_
  refine G_sld (i + 2) hZ dL_law_498 rfl (by omega) (by omega) ?_
  refine G_aload_n dL_law_499 rfl rfl ?_
  refine G_callSW (np := 4) (hh := [(0, 10, 13, 28), (0, 10, 17, 13)]) (rest := []) (As := [.ref (0), .int ((xs (i + 1))), .int ((xs (i + 2))), .ref (1611)]) (fun _ _ _ _ z9 => z9.2.2) dL_law_500 lL_127 (aw_t 665 (by decide +kernel) (by decide +kernel)) (aw_t 0 (by decide +kernel) (by decide +kernel)) ⟨by decide +kernel, by decide +kernel, by decide +kernel⟩ ys_L_note ⟨Nat.le_of_ble_eq_true rfl, Nat.le_of_ble_eq_true rfl⟩ rfl rfl (Nat.le_of_ble_eq_true rfl) hb (c_L_note hT hK hG hB hf ho (by omega)) (fun o9 μ9 h9 hf9 => by obtain ⟨-, v9, rfl, -⟩ := h9; exact absurd (hf.symm.trans hf9) Bool.false_ne_true) ?_
  rintro o9 μ9 ⟨rfl, v1, rfl, hK1, hout, hfr⟩
  have hR1 : RT v1 1603 ((t, n), (c, S), D, sl) := hR0.of (fun j _ _ _ => by rw [hfr 1603 (by omega) (by omega)]) (fun m g1 g2 _ => hfr m (by omega) (by omega))
  refine G_istore (ls2 := [some (.ref (a + 1000000)), some (.ref (0)), some (.ref (1603)), some (.ref (1611)), some (.int (nI (i))), some (.int (nI ((g_note ((t, n), (c, S), D, sl) (xs (i + 1)) (xs (i + 2))).1))), none]) dL_law_503 (by decide) rfl ?_
  refine G_aload_n dL_law_505 rfl rfl ?_
  refine G_aload_n dL_law_506 rfl rfl ?_
  refine G_iload dL_law_507 rfl ?_
  refine G_iconst (v := nI 1) dL_law_509 (by decide) ?_
  refine G_iaddN dL_law_510 ?_
  refine G_sld (i + 1) hZ dL_law_511 rfl (by omega) (by omega) ?_
  refine G_aload_n dL_law_512 rfl rfl ?_
  refine G_iload dL_law_513 rfl ?_
  refine G_iconst (v := nI 2) dL_law_515 (by decide) ?_
  refine G_iaddN dL_law_516 ?_
  refine G_sld (i + 2) hZ dL_law_517 rfl (by omega) (by omega) ?_
  refine G_cVs (rest := []) (As := [.int ((xs (i + 1))), .int ((xs (i + 2)))]) dL_law_518 lL_129 yk_X7_note yv_X7_note kX7 rfl (by decide) hq.o rfl rfl (Nat.le_of_ble_eq_true rfl) rfl (c_X7_note hq hR1 hG hB) (fun v2 hq2 => ?_)
  obtain ⟨h20, hR2, hw2⟩ := hq2
  have hK2 := hK1.out hw2 (Or.inl (by omega))
  have hout2 : (g_note ((t, n), (c, S), D, sl) (xs (i + 1)) (xs (i + 2))).1 = 0 → v2 1611 0 = (g_note ((t, n), (c, S), D, sl) (xs (i + 1)) (xs (i + 2))).2.1 := fun z9 => by rw [hw2 1611 (by omega)]; exact hout z9
  refine G_istore (ls2 := [some (.ref (a + 1000000)), some (.ref (0)), some (.ref (1603)), some (.ref (1611)), some (.int (nI (i))), some (.int (nI ((g_note ((t, n), (c, S), D, sl) (xs (i + 1)) (xs (i + 2))).1))), some (.int (((g_note ((t, n), (c, S), D, sl) (xs (i + 1)) (xs (i + 2))).2.1)))]) dL_law_521 (by decide) rfl ?_
  refine G_aload_n dL_law_523 rfl rfl ?_
  refine G_cVp (rest := []) (As := []) dL_law_524 lL_101 yk_X7_thrown yv_X7_thrown kX7 rfl (by decide) hq.o rfl rfl (Nat.le_of_ble_eq_true rfl) rfl (c_X7_thrown hq) ?_
  refine G_top (y := nI ((g_note ((t, n), (c, S), D, sl) (xs (i + 1)) (xs (i + 2))).1)) h20 ?_
  refine G_iload dL_law_527 rfl ?_
  refine G_icmp_eqN (tgt := 534) dL_law_529 (by decide) (by omega) (by omega) (fun c529 => ?_) (fun c529 => ?_)
  · refine G_iload dL_law_534 rfl ?_
    refine G_if_neN (tgt := 551) dL_law_536 (by decide) (by omega) (fun c536 => ?_) (fun c536 => ?_)
    · refine G_goto (tgt := 1707) dL_law_551 (by decide) ?_
      refine G_weak (ls2 := [some (.ref (a + 1000000)), some (.ref (0)), some (.ref (1603)), some (.ref (1611)), some (.int (nI (i))), none, none]) ⟨rfl, rfl, rfl, rfl, rfl, trivial⟩ ?_
      exact k v2 _ hK2 hR2 hI
    · refine G_aload_n dL_law_539 rfl rfl ?_
      refine G_iconst (v := nI 0) dL_law_540 (by decide) ?_
      refine G_lald (0) dL_law_541 ho rfl (by omega) (by decide) ?_
      refine G_iload dL_law_542 rfl ?_
      refine G_i2l dL_law_544 ?_
      refine G_lcmp dL_law_545 ?_
      refine G_if_eq (tgt := 551) dL_law_546 (by decide) (fun c546 => ?_) (fun c546 => ?_)
      · refine G_goto (tgt := 1707) dL_law_551 (by decide) ?_
        refine G_weak (ls2 := [some (.ref (a + 1000000)), some (.ref (0)), some (.ref (1603)), some (.ref (1611)), some (.int (nI (i))), none, none]) ⟨rfl, rfl, rfl, rfl, rfl, trivial⟩ ?_
        exact k v2 _ hK2 hR2 hI
      · exact absurd (by rw [hout2 (by omega)]; exact lg_same _) c546
  · exact absurd rfl c529
set_option maxHeartbeats 4000000 in
set_option maxRecDepth 100000 in
theorem b_isCut {σ : vS} {v : vV} {a L i c n B : Nat} {xs : Nat → Int32} {S : mS} {t : mN} {D : List mC} {sl : Nat → Option mC} {Q : vO → vM → Prop} {b : Nat × Nat} (hT : kLT σ 0) (hK : KT v 0 ((t, n), (c, S), D, sl)) (hq : LR σ 1603) (hR0 : RT v 1603 ((t, n), (c, S), D, sl)) (hG : GI B ((t, n), (c, S), D, sl)) (hB1 : 8400100 ≤ B) (hB : B + 6000000 < 1000000000) (hf : σ.2.2.2 = false) (ho : vK σ 1611 12 1) (hi : i + 4 ≤ L) (hL : L ≤ 2048) (hb : 4 ≤ b.1 ∧ 24 ≤ b.2) (k : ∀ (v9 : vV) (T9 : gT), KT v9 0 T9 → RT v9 1603 T9 → GI (B + 70000) T9 → vG (kZl a L xs) M_L_law 1707 [some (.ref (a + 1000000)), some (.ref (0)), some (.ref (1603)), some (.ref (1611)), some (.int (nI (i))), none, none] [] (b.1 - 4, b.2 - 24) (σ, v9) Q) : vG (kZl a L xs) M_L_law 554 [some (.ref (a + 1000000)), some (.ref (0)), some (.ref (1603)), some (.ref (1611)), some (.int (nI (i))), none, none] [] b (σ, v) Q := by
  have hZ : ∀ s args c hz, kZl a L xs s args c hz → a < hz ∧ va_X a L xs s s.heap := fun _ _ _ _ z9 => ⟨z9.1, z9.2.1⟩
  have hk9 := (k_isCut (t := t) (n := n) (c := c) (S := S) (D := D) (sl := sl) (a := xs (i + 1)) (d := xs (i + 2))).1
  have hI : GI (B + 70000) (g_isCut ((t, n), (c, S), D, sl) (xs (i + 1)) (xs (i + 2))).2.2 := I_isCut hG hB1
  refine G_aload_n dL_law_554 rfl rfl ?_
  refine G_aload_n dL_law_555 rfl rfl ?_
  refine G_iload dL_law_556 rfl ?_
  refine G_iconst (v := nI 1) dL_law_558 (by decide) ?_
  refine G_iaddN dL_law_559 ?_
  refine G_sld (i + 1) hZ dL_law_560 rfl (by omega) (by omega) ?_
  refine G_aload_n dL_law_561 rfl rfl ?_
  refine G_iload dL_law_562 rfl ?_
  refine G_iconst (v := nI 2) dL_law_564 (by decide) ?_
  refine G_iaddN dL_law_565 ?_
  refine G_sld (i + 2) hZ dL_law_566 rfl (by omega) (by omega) ?_
  refine G_aload_n dL_law_567 rfl rfl ?_
  refine G_callSW (np := 4) (hh := [(0, 10, 13, 28)]) (rest := []) (As := [.ref (0), .int ((xs (i + 1))), .int ((xs (i + 2))), .ref (1611)]) (fun _ _ _ _ z9 => z9.2.2) dL_law_568 lL_130 (aw_t 674 (by decide +kernel) (by decide +kernel)) (aw_t 0 (by decide +kernel) (by decide +kernel)) ⟨by decide +kernel, by decide +kernel, by decide +kernel⟩ ys_L_isCut ⟨Nat.le_of_ble_eq_true rfl, Nat.le_of_ble_eq_true rfl⟩ rfl rfl (Nat.le_of_ble_eq_true rfl) hb (c_L_isCut hT hK hG hB hf ho (by omega)) (fun o9 μ9 h9 hf9 => by obtain ⟨-, v9, rfl, -⟩ := h9; exact absurd (hf.symm.trans hf9) Bool.false_ne_true) ?_
  rintro o9 μ9 ⟨rfl, v1, rfl, hK1, hout, hfr⟩
  have hR1 : RT v1 1603 ((t, n), (c, S), D, sl) := hR0.of (fun j _ _ _ => by rw [hfr 1603 (by omega) (by omega)]) (fun m g1 g2 _ => hfr m (by omega) (by omega))
  refine G_istore (ls2 := [some (.ref (a + 1000000)), some (.ref (0)), some (.ref (1603)), some (.ref (1611)), some (.int (nI (i))), some (.int (nI ((g_isCut ((t, n), (c, S), D, sl) (xs (i + 1)) (xs (i + 2))).1))), none]) dL_law_571 (by decide) rfl ?_
  refine G_aload_n dL_law_573 rfl rfl ?_
  refine G_aload_n dL_law_574 rfl rfl ?_
  refine G_iload dL_law_575 rfl ?_
  refine G_iconst (v := nI 1) dL_law_577 (by decide) ?_
  refine G_iaddN dL_law_578 ?_
  refine G_sld (i + 1) hZ dL_law_579 rfl (by omega) (by omega) ?_
  refine G_aload_n dL_law_580 rfl rfl ?_
  refine G_iload dL_law_581 rfl ?_
  refine G_iconst (v := nI 2) dL_law_583 (by decide) ?_
  refine G_iaddN dL_law_584 ?_
  refine G_sld (i + 2) hZ dL_law_585 rfl (by omega) (by omega) ?_
  refine G_cVs (rest := []) (As := [.int ((xs (i + 1))), .int ((xs (i + 2)))]) dL_law_586 lL_132 yk_X7_isCut yv_X7_isCut kX7 rfl (by decide) hq.o rfl rfl (Nat.le_of_ble_eq_true rfl) rfl (c_X7_isCut hq hR1 hG hB) (fun v2 hq2 => ?_)
  obtain ⟨h20, hR2, hw2⟩ := hq2
  have hK2 := hK1.out hw2 (Or.inl (by omega))
  have hout2 : (g_isCut ((t, n), (c, S), D, sl) (xs (i + 1)) (xs (i + 2))).1 = 0 → v2 1611 0 = (g_isCut ((t, n), (c, S), D, sl) (xs (i + 1)) (xs (i + 2))).2.1 := fun z9 => by rw [hw2 1611 (by omega)]; exact hout z9
  refine G_istore (ls2 := [some (.ref (a + 1000000)), some (.ref (0)), some (.ref (1603)), some (.ref (1611)), some (.int (nI (i))), some (.int (nI ((g_isCut ((t, n), (c, S), D, sl) (xs (i + 1)) (xs (i + 2))).1))), some (.int (((g_isCut ((t, n), (c, S), D, sl) (xs (i + 1)) (xs (i + 2))).2.1)))]) dL_law_589 (by decide) rfl ?_
  refine G_aload_n dL_law_591 rfl rfl ?_
  refine G_cVp (rest := []) (As := []) dL_law_592 lL_101 yk_X7_thrown yv_X7_thrown kX7 rfl (by decide) hq.o rfl rfl (Nat.le_of_ble_eq_true rfl) rfl (c_X7_thrown hq) ?_
  refine G_top (y := nI ((g_isCut ((t, n), (c, S), D, sl) (xs (i + 1)) (xs (i + 2))).1)) h20 ?_
  refine G_iload dL_law_595 rfl ?_
  refine G_icmp_eqN (tgt := 602) dL_law_597 (by decide) (by omega) (by omega) (fun c597 => ?_) (fun c597 => ?_)
  · refine G_iload dL_law_602 rfl ?_
    refine G_if_neN (tgt := 619) dL_law_604 (by decide) (by omega) (fun c604 => ?_) (fun c604 => ?_)
    · refine G_goto (tgt := 1707) dL_law_619 (by decide) ?_
      refine G_weak (ls2 := [some (.ref (a + 1000000)), some (.ref (0)), some (.ref (1603)), some (.ref (1611)), some (.int (nI (i))), none, none]) ⟨rfl, rfl, rfl, rfl, rfl, trivial⟩ ?_
      exact k v2 _ hK2 hR2 hI
    · refine G_aload_n dL_law_607 rfl rfl ?_
      refine G_iconst (v := nI 0) dL_law_608 (by decide) ?_
      refine G_lald (0) dL_law_609 ho rfl (by omega) (by decide) ?_
      refine G_iload dL_law_610 rfl ?_
      refine G_i2l dL_law_612 ?_
      refine G_lcmp dL_law_613 ?_
      refine G_if_eq (tgt := 619) dL_law_614 (by decide) (fun c614 => ?_) (fun c614 => ?_)
      · refine G_goto (tgt := 1707) dL_law_619 (by decide) ?_
        refine G_weak (ls2 := [some (.ref (a + 1000000)), some (.ref (0)), some (.ref (1603)), some (.ref (1611)), some (.int (nI (i))), none, none]) ⟨rfl, rfl, rfl, rfl, rfl, trivial⟩ ?_
        exact k v2 _ hK2 hR2 hI
      · exact absurd (by rw [hout2 (by omega)]; exact lg_same _) c614
  · exact absurd rfl c597
set_option maxHeartbeats 4000000 in
set_option maxRecDepth 100000 in
theorem b_member {σ : vS} {v : vV} {a L i c n B : Nat} {xs : Nat → Int32} {S : mS} {t : mN} {D : List mC} {sl : Nat → Option mC} {Q : vO → vM → Prop} {b : Nat × Nat} (hT : kLT σ 0) (hK : KT v 0 ((t, n), (c, S), D, sl)) (hq : LR σ 1603) (hR0 : RT v 1603 ((t, n), (c, S), D, sl)) (hG : GI B ((t, n), (c, S), D, sl)) (hB1 : 8400100 ≤ B) (hB : B + 6000000 < 1000000000) (hf : σ.2.2.2 = false) (ho : vK σ 1611 12 1) (hi : i + 4 ≤ L) (hL : L ≤ 2048) (hb : 4 ≤ b.1 ∧ 24 ≤ b.2) (k : ∀ (v9 : vV) (T9 : gT), KT v9 0 T9 → RT v9 1603 T9 → GI (B + 70000) T9 → vG (kZl a L xs) M_L_law 1707 [some (.ref (a + 1000000)), some (.ref (0)), some (.ref (1603)), some (.ref (1611)), some (.int (nI (i))), none, none] [] (b.1 - 4, b.2 - 24) (σ, v9) Q) : vG (kZl a L xs) M_L_law 622 [some (.ref (a + 1000000)), some (.ref (0)), some (.ref (1603)), some (.ref (1611)), some (.int (nI (i))), none, none] [] b (σ, v) Q := by
  have hZ : ∀ s args c hz, kZl a L xs s args c hz → a < hz ∧ va_X a L xs s s.heap := fun _ _ _ _ z9 => ⟨z9.1, z9.2.1⟩
  have hk9 := (k_member (t := t) (n := n) (c := c) (S := S) (D := D) (sl := sl) (p := xs (i + 1))).1
  have hI : GI (B + 70000) (g_member ((t, n), (c, S), D, sl) (xs (i + 1))).2.2 := I_member hG hB1
  refine G_aload_n dL_law_622 rfl rfl ?_
  refine G_aload_n dL_law_623 rfl rfl ?_
  refine G_iload dL_law_624 rfl ?_
  refine G_iconst (v := nI 1) dL_law_626 (by decide) ?_
  refine G_iaddN dL_law_627 ?_
  refine G_sld (i + 1) hZ dL_law_628 rfl (by omega) (by omega) ?_
  refine G_aload_n dL_law_629 rfl rfl ?_
  refine G_callSW (np := 3) (hh := [(0, 9, 12, 13), (0, 9, 15, 15)]) (rest := []) (As := [.ref (0), .int ((xs (i + 1))), .ref (1611)]) (fun _ _ _ _ z9 => z9.2.2) dL_law_630 lL_133 (aw_t 682 (by decide +kernel) (by decide +kernel)) (aw_t 0 (by decide +kernel) (by decide +kernel)) ⟨by decide +kernel, by decide +kernel, by decide +kernel⟩ ys_L_member ⟨Nat.le_of_ble_eq_true rfl, Nat.le_of_ble_eq_true rfl⟩ rfl rfl (Nat.le_of_ble_eq_true rfl) hb (c_L_member hT hK hG hB hf ho (by omega)) (fun o9 μ9 h9 hf9 => by obtain ⟨-, v9, rfl, -⟩ := h9; exact absurd (hf.symm.trans hf9) Bool.false_ne_true) ?_
  rintro o9 μ9 ⟨rfl, v1, rfl, hK1, hout, hfr⟩
  have hR1 : RT v1 1603 ((t, n), (c, S), D, sl) := hR0.of (fun j _ _ _ => by rw [hfr 1603 (by omega) (by omega)]) (fun m g1 g2 _ => hfr m (by omega) (by omega))
  refine G_istore (ls2 := [some (.ref (a + 1000000)), some (.ref (0)), some (.ref (1603)), some (.ref (1611)), some (.int (nI (i))), some (.int (nI ((g_member ((t, n), (c, S), D, sl) (xs (i + 1))).1))), none]) dL_law_633 (by decide) rfl ?_
  refine G_aload_n dL_law_635 rfl rfl ?_
  refine G_aload_n dL_law_636 rfl rfl ?_
  refine G_iload dL_law_637 rfl ?_
  refine G_iconst (v := nI 1) dL_law_639 (by decide) ?_
  refine G_iaddN dL_law_640 ?_
  refine G_sld (i + 1) hZ dL_law_641 rfl (by omega) (by omega) ?_
  refine G_cVs (rest := []) (As := [.int ((xs (i + 1)))]) dL_law_642 lL_135 yk_X7_member yv_X7_member kX7 rfl (by decide) hq.o rfl rfl (Nat.le_of_ble_eq_true rfl) rfl (c_X7_member hq hR1 hG hB) (fun v2 hq2 => ?_)
  obtain ⟨h20, hR2, hw2⟩ := hq2
  have hK2 := hK1.out hw2 (Or.inl (by omega))
  have hout2 : (g_member ((t, n), (c, S), D, sl) (xs (i + 1))).1 = 0 → v2 1611 0 = (g_member ((t, n), (c, S), D, sl) (xs (i + 1))).2.1 := fun z9 => by rw [hw2 1611 (by omega)]; exact hout z9
  refine G_istore (ls2 := [some (.ref (a + 1000000)), some (.ref (0)), some (.ref (1603)), some (.ref (1611)), some (.int (nI (i))), some (.int (nI ((g_member ((t, n), (c, S), D, sl) (xs (i + 1))).1))), some (.int (((g_member ((t, n), (c, S), D, sl) (xs (i + 1))).2.1)))]) dL_law_645 (by decide) rfl ?_
  refine G_aload_n dL_law_647 rfl rfl ?_
  refine G_cVp (rest := []) (As := []) dL_law_648 lL_101 yk_X7_thrown yv_X7_thrown kX7 rfl (by decide) hq.o rfl rfl (Nat.le_of_ble_eq_true rfl) rfl (c_X7_thrown hq) ?_
  refine G_top (y := nI ((g_member ((t, n), (c, S), D, sl) (xs (i + 1))).1)) h20 ?_
  refine G_iload dL_law_651 rfl ?_
  refine G_icmp_eqN (tgt := 658) dL_law_653 (by decide) (by omega) (by omega) (fun c653 => ?_) (fun c653 => ?_)
  · refine G_iload dL_law_658 rfl ?_
    refine G_if_neN (tgt := 675) dL_law_660 (by decide) (by omega) (fun c660 => ?_) (fun c660 => ?_)
    · refine G_goto (tgt := 1707) dL_law_675 (by decide) ?_
      refine G_weak (ls2 := [some (.ref (a + 1000000)), some (.ref (0)), some (.ref (1603)), some (.ref (1611)), some (.int (nI (i))), none, none]) ⟨rfl, rfl, rfl, rfl, rfl, trivial⟩ ?_
      exact k v2 _ hK2 hR2 hI
    · refine G_aload_n dL_law_663 rfl rfl ?_
      refine G_iconst (v := nI 0) dL_law_664 (by decide) ?_
      refine G_lald (0) dL_law_665 ho rfl (by omega) (by decide) ?_
      refine G_iload dL_law_666 rfl ?_
      refine G_i2l dL_law_668 ?_
      refine G_lcmp dL_law_669 ?_
      refine G_if_eq (tgt := 675) dL_law_670 (by decide) (fun c670 => ?_) (fun c670 => ?_)
      · refine G_goto (tgt := 1707) dL_law_675 (by decide) ?_
        refine G_weak (ls2 := [some (.ref (a + 1000000)), some (.ref (0)), some (.ref (1603)), some (.ref (1611)), some (.int (nI (i))), none, none]) ⟨rfl, rfl, rfl, rfl, rfl, trivial⟩ ?_
        exact k v2 _ hK2 hR2 hI
      · exact absurd (by rw [hout2 (by omega)]; exact lg_same _) c670
  · exact absurd rfl c653
set_option maxHeartbeats 4000000 in
set_option maxRecDepth 100000 in
theorem b_say {σ : vS} {v : vV} {a L i c n B : Nat} {xs : Nat → Int32} {S : mS} {t : mN} {D : List mC} {sl : Nat → Option mC} {Q : vO → vM → Prop} {b : Nat × Nat} (hT : kLT σ 0) (hK : KT v 0 ((t, n), (c, S), D, sl)) (hq : LR σ 1603) (hR0 : RT v 1603 ((t, n), (c, S), D, sl)) (hG : GI B ((t, n), (c, S), D, sl)) (hB1 : 8400100 ≤ B) (hB : B + 6000000 < 1000000000) (hf : σ.2.2.2 = false) (ho : vK σ 1611 12 1) (hi : i + 4 ≤ L) (hL : L ≤ 2048) (hb : 4 ≤ b.1 ∧ 24 ≤ b.2) (k : ∀ (v9 : vV) (T9 : gT), KT v9 0 T9 → RT v9 1603 T9 → GI (B + 70000) T9 → vG (kZl a L xs) M_L_law 1707 [some (.ref (a + 1000000)), some (.ref (0)), some (.ref (1603)), some (.ref (1611)), some (.int (nI (i))), none, none] [] (b.1 - 4, b.2 - 24) (σ, v9) Q) : vG (kZl a L xs) M_L_law 678 [some (.ref (a + 1000000)), some (.ref (0)), some (.ref (1603)), some (.ref (1611)), some (.int (nI (i))), none, none] [] b (σ, v) Q := by
  have hZ : ∀ s args c hz, kZl a L xs s args c hz → a < hz ∧ va_X a L xs s s.heap := fun _ _ _ _ z9 => ⟨z9.1, z9.2.1⟩
  have hk9 := (k_say (t := t) (n := n) (c := c) (S := S) (D := D) (sl := sl) (m := xs (i + 1))).1
  have hI : GI (B + 70000) (g_say ((t, n), (c, S), D, sl) (xs (i + 1))).2.2 := I_say hG hB1
  refine G_aload_n dL_law_678 rfl rfl ?_
  refine G_aload_n dL_law_679 rfl rfl ?_
  refine G_iload dL_law_680 rfl ?_
  refine G_iconst (v := nI 1) dL_law_682 (by decide) ?_
  refine G_iaddN dL_law_683 ?_
  refine G_sld (i + 1) hZ dL_law_684 rfl (by omega) (by omega) ?_
  refine G_aload_n dL_law_685 rfl rfl ?_
  refine G_callSW (np := 3) (hh := [(0, 9, 12, 28), (0, 9, 15, 15)]) (rest := []) (As := [.ref (0), .int ((xs (i + 1))), .ref (1611)]) (fun _ _ _ _ z9 => z9.2.2) dL_law_686 lL_136 (aw_t 699 (by decide +kernel) (by decide +kernel)) (aw_t 0 (by decide +kernel) (by decide +kernel)) ⟨by decide +kernel, by decide +kernel, by decide +kernel⟩ ys_L_say ⟨Nat.le_of_ble_eq_true rfl, Nat.le_of_ble_eq_true rfl⟩ rfl rfl (Nat.le_of_ble_eq_true rfl) hb (c_L_say hT hK hG hB hf ho (by omega)) (fun o9 μ9 h9 hf9 => by obtain ⟨-, v9, rfl, -⟩ := h9; exact absurd (hf.symm.trans hf9) Bool.false_ne_true) ?_
  rintro o9 μ9 ⟨rfl, v1, rfl, hK1, hout, hfr⟩
  have hR1 : RT v1 1603 ((t, n), (c, S), D, sl) := hR0.of (fun j _ _ _ => by rw [hfr 1603 (by omega) (by omega)]) (fun m g1 g2 _ => hfr m (by omega) (by omega))
  refine G_istore (ls2 := [some (.ref (a + 1000000)), some (.ref (0)), some (.ref (1603)), some (.ref (1611)), some (.int (nI (i))), some (.int (nI ((g_say ((t, n), (c, S), D, sl) (xs (i + 1))).1))), none]) dL_law_689 (by decide) rfl ?_
  refine G_aload_n dL_law_691 rfl rfl ?_
  refine G_aload_n dL_law_692 rfl rfl ?_
  refine G_iload dL_law_693 rfl ?_
  refine G_iconst (v := nI 1) dL_law_695 (by decide) ?_
  refine G_iaddN dL_law_696 ?_
  refine G_sld (i + 1) hZ dL_law_697 rfl (by omega) (by omega) ?_
  refine G_cVs (rest := []) (As := [.int ((xs (i + 1)))]) dL_law_698 lL_138 yk_X7_say yv_X7_say kX7 rfl (by decide) hq.o rfl rfl (Nat.le_of_ble_eq_true rfl) rfl (c_X7_say hq hR1 hG hB) (fun v2 hq2 => ?_)
  obtain ⟨h20, hR2, hw2⟩ := hq2
  have hK2 := hK1.out hw2 (Or.inl (by omega))
  have hout2 : (g_say ((t, n), (c, S), D, sl) (xs (i + 1))).1 = 0 → v2 1611 0 = (g_say ((t, n), (c, S), D, sl) (xs (i + 1))).2.1 := fun z9 => by rw [hw2 1611 (by omega)]; exact hout z9
  refine G_istore (ls2 := [some (.ref (a + 1000000)), some (.ref (0)), some (.ref (1603)), some (.ref (1611)), some (.int (nI (i))), some (.int (nI ((g_say ((t, n), (c, S), D, sl) (xs (i + 1))).1))), some (.int (((g_say ((t, n), (c, S), D, sl) (xs (i + 1))).2.1)))]) dL_law_701 (by decide) rfl ?_
  refine G_aload_n dL_law_703 rfl rfl ?_
  refine G_cVp (rest := []) (As := []) dL_law_704 lL_101 yk_X7_thrown yv_X7_thrown kX7 rfl (by decide) hq.o rfl rfl (Nat.le_of_ble_eq_true rfl) rfl (c_X7_thrown hq) ?_
  refine G_top (y := nI ((g_say ((t, n), (c, S), D, sl) (xs (i + 1))).1)) h20 ?_
  refine G_iload dL_law_707 rfl ?_
  refine G_icmp_eqN (tgt := 714) dL_law_709 (by decide) (by omega) (by omega) (fun c709 => ?_) (fun c709 => ?_)
  · refine G_iload dL_law_714 rfl ?_
    refine G_if_neN (tgt := 731) dL_law_716 (by decide) (by omega) (fun c716 => ?_) (fun c716 => ?_)
    · refine G_goto (tgt := 1707) dL_law_731 (by decide) ?_
      refine G_weak (ls2 := [some (.ref (a + 1000000)), some (.ref (0)), some (.ref (1603)), some (.ref (1611)), some (.int (nI (i))), none, none]) ⟨rfl, rfl, rfl, rfl, rfl, trivial⟩ ?_
      exact k v2 _ hK2 hR2 hI
    · refine G_aload_n dL_law_719 rfl rfl ?_
      refine G_iconst (v := nI 0) dL_law_720 (by decide) ?_
      refine G_lald (0) dL_law_721 ho rfl (by omega) (by decide) ?_
      refine G_iload dL_law_722 rfl ?_
      refine G_i2l dL_law_724 ?_
      refine G_lcmp dL_law_725 ?_
      refine G_if_eq (tgt := 731) dL_law_726 (by decide) (fun c726 => ?_) (fun c726 => ?_)
      · refine G_goto (tgt := 1707) dL_law_731 (by decide) ?_
        refine G_weak (ls2 := [some (.ref (a + 1000000)), some (.ref (0)), some (.ref (1603)), some (.ref (1611)), some (.int (nI (i))), none, none]) ⟨rfl, rfl, rfl, rfl, rfl, trivial⟩ ?_
        exact k v2 _ hK2 hR2 hI
      · exact absurd (by rw [hout2 (by omega)]; exact lg_same _) c726
  · exact absurd rfl c709
set_option maxHeartbeats 4000000 in
set_option maxRecDepth 100000 in
theorem b_call {σ : vS} {v : vV} {a L i c n B : Nat} {xs : Nat → Int32} {S : mS} {t : mN} {D : List mC} {sl : Nat → Option mC} {Q : vO → vM → Prop} {b : Nat × Nat} (hT : kLT σ 0) (hK : KT v 0 ((t, n), (c, S), D, sl)) (hq : LR σ 1603) (hR0 : RT v 1603 ((t, n), (c, S), D, sl)) (hG : GI B ((t, n), (c, S), D, sl)) (hB1 : 8400100 ≤ B) (hB : B + 6000000 < 1000000000) (hf : σ.2.2.2 = false) (ho : vK σ 1611 12 1) (hi : i + 4 ≤ L) (hL : L ≤ 2048) (hb : 4 ≤ b.1 ∧ 24 ≤ b.2) (k : ∀ (v9 : vV) (T9 : gT), KT v9 0 T9 → RT v9 1603 T9 → GI (B + 70000) T9 → vG (kZl a L xs) M_L_law 1707 [some (.ref (a + 1000000)), some (.ref (0)), some (.ref (1603)), some (.ref (1611)), some (.int (nI (i))), none, none] [] (b.1 - 4, b.2 - 24) (σ, v9) Q) : vG (kZl a L xs) M_L_law 734 [some (.ref (a + 1000000)), some (.ref (0)), some (.ref (1603)), some (.ref (1611)), some (.int (nI (i))), none, none] [] b (σ, v) Q := by
  have hZ : ∀ s args c hz, kZl a L xs s args c hz → a < hz ∧ va_X a L xs s s.heap := fun _ _ _ _ z9 => ⟨z9.1, z9.2.1⟩
  have hk9 := (k_call (t := t) (n := n) (c := c) (S := S) (D := D) (sl := sl) (m := xs (i + 1)) (s := xs (i + 2))).1
  have hI : GI (B + 70000) (g_call ((t, n), (c, S), D, sl) (xs (i + 1)) (xs (i + 2))).2.2 := I_call hG hB1
  refine G_aload_n dL_law_734 rfl rfl ?_
  refine G_aload_n dL_law_735 rfl rfl ?_
  refine G_iload dL_law_736 rfl ?_
  refine G_iconst (v := nI 1) dL_law_738 (by decide) ?_
  refine G_iaddN dL_law_739 ?_
  refine G_sld (i + 1) hZ dL_law_740 rfl (by omega) (by omega) ?_
  refine G_aload_n dL_law_741 rfl rfl ?_
  refine G_iload dL_law_742 rfl ?_
  refine G_iconst (v := nI 2) dL_law_744 (by decide) ?_
  refine G_iaddN dL_law_745 ?_
  refine G_sld (i + 2) hZ dL_law_746 rfl (by omega) (by omega) ?_
  refine G_aload_n dL_law_747 rfl rfl ?_
  refine G_callSW (np := 4) (hh := [(0, 10, 13, 28), (0, 10, 17, 13), (0, 10, 21, 15)]) (rest := []) (As := [.ref (0), .int ((xs (i + 1))), .int ((xs (i + 2))), .ref (1611)]) (fun _ _ _ _ z9 => z9.2.2) dL_law_748 lL_139 (aw_t 709 (by decide +kernel) (by decide +kernel)) (aw_t 0 (by decide +kernel) (by decide +kernel)) ⟨by decide +kernel, by decide +kernel, by decide +kernel⟩ ys_L_call ⟨Nat.le_of_ble_eq_true rfl, Nat.le_of_ble_eq_true rfl⟩ rfl rfl (Nat.le_of_ble_eq_true rfl) hb (c_L_call hT hK hG hB hf ho (by omega)) (fun o9 μ9 h9 hf9 => by obtain ⟨-, v9, rfl, -⟩ := h9; exact absurd (hf.symm.trans hf9) Bool.false_ne_true) ?_
  rintro o9 μ9 ⟨rfl, v1, rfl, hK1, hout, hfr⟩
  have hR1 : RT v1 1603 ((t, n), (c, S), D, sl) := hR0.of (fun j _ _ _ => by rw [hfr 1603 (by omega) (by omega)]) (fun m g1 g2 _ => hfr m (by omega) (by omega))
  refine G_istore (ls2 := [some (.ref (a + 1000000)), some (.ref (0)), some (.ref (1603)), some (.ref (1611)), some (.int (nI (i))), some (.int (nI ((g_call ((t, n), (c, S), D, sl) (xs (i + 1)) (xs (i + 2))).1))), none]) dL_law_751 (by decide) rfl ?_
  refine G_aload_n dL_law_753 rfl rfl ?_
  refine G_aload_n dL_law_754 rfl rfl ?_
  refine G_iload dL_law_755 rfl ?_
  refine G_iconst (v := nI 1) dL_law_757 (by decide) ?_
  refine G_iaddN dL_law_758 ?_
  refine G_sld (i + 1) hZ dL_law_759 rfl (by omega) (by omega) ?_
  refine G_aload_n dL_law_760 rfl rfl ?_
  refine G_iload dL_law_761 rfl ?_
  refine G_iconst (v := nI 2) dL_law_763 (by decide) ?_
  refine G_iaddN dL_law_764 ?_
  refine G_sld (i + 2) hZ dL_law_765 rfl (by omega) (by omega) ?_
  refine G_cVs (rest := []) (As := [.int ((xs (i + 1))), .int ((xs (i + 2)))]) dL_law_766 lL_141 yk_X7_call yv_X7_call kX7 rfl (by decide) hq.o rfl rfl (Nat.le_of_ble_eq_true rfl) rfl (c_X7_call hq hR1 hG hB) (fun v2 hq2 => ?_)
  obtain ⟨h20, hR2, hw2⟩ := hq2
  have hK2 := hK1.out hw2 (Or.inl (by omega))
  have hout2 : (g_call ((t, n), (c, S), D, sl) (xs (i + 1)) (xs (i + 2))).1 = 0 → v2 1611 0 = (g_call ((t, n), (c, S), D, sl) (xs (i + 1)) (xs (i + 2))).2.1 := fun z9 => by rw [hw2 1611 (by omega)]; exact hout z9
  refine G_istore (ls2 := [some (.ref (a + 1000000)), some (.ref (0)), some (.ref (1603)), some (.ref (1611)), some (.int (nI (i))), some (.int (nI ((g_call ((t, n), (c, S), D, sl) (xs (i + 1)) (xs (i + 2))).1))), some (.int (((g_call ((t, n), (c, S), D, sl) (xs (i + 1)) (xs (i + 2))).2.1)))]) dL_law_769 (by decide) rfl ?_
  refine G_aload_n dL_law_771 rfl rfl ?_
  refine G_cVp (rest := []) (As := []) dL_law_772 lL_101 yk_X7_thrown yv_X7_thrown kX7 rfl (by decide) hq.o rfl rfl (Nat.le_of_ble_eq_true rfl) rfl (c_X7_thrown hq) ?_
  refine G_top (y := nI ((g_call ((t, n), (c, S), D, sl) (xs (i + 1)) (xs (i + 2))).1)) h20 ?_
  refine G_iload dL_law_775 rfl ?_
  refine G_icmp_eqN (tgt := 782) dL_law_777 (by decide) (by omega) (by omega) (fun c777 => ?_) (fun c777 => ?_)
  · refine G_iload dL_law_782 rfl ?_
    refine G_if_neN (tgt := 799) dL_law_784 (by decide) (by omega) (fun c784 => ?_) (fun c784 => ?_)
    · refine G_goto (tgt := 1707) dL_law_799 (by decide) ?_
      refine G_weak (ls2 := [some (.ref (a + 1000000)), some (.ref (0)), some (.ref (1603)), some (.ref (1611)), some (.int (nI (i))), none, none]) ⟨rfl, rfl, rfl, rfl, rfl, trivial⟩ ?_
      exact k v2 _ hK2 hR2 hI
    · refine G_aload_n dL_law_787 rfl rfl ?_
      refine G_iconst (v := nI 0) dL_law_788 (by decide) ?_
      refine G_lald (0) dL_law_789 ho rfl (by omega) (by decide) ?_
      refine G_iload dL_law_790 rfl ?_
      refine G_i2l dL_law_792 ?_
      refine G_lcmp dL_law_793 ?_
      refine G_if_eq (tgt := 799) dL_law_794 (by decide) (fun c794 => ?_) (fun c794 => ?_)
      · refine G_goto (tgt := 1707) dL_law_799 (by decide) ?_
        refine G_weak (ls2 := [some (.ref (a + 1000000)), some (.ref (0)), some (.ref (1603)), some (.ref (1611)), some (.int (nI (i))), none, none]) ⟨rfl, rfl, rfl, rfl, rfl, trivial⟩ ?_
        exact k v2 _ hK2 hR2 hI
      · exact absurd (by rw [hout2 (by omega)]; exact lg_same _) c794
  · exact absurd rfl c777
set_option maxHeartbeats 4000000 in
set_option maxRecDepth 100000 in
theorem b_leave {σ : vS} {v : vV} {a L i c n B : Nat} {xs : Nat → Int32} {S : mS} {t : mN} {D : List mC} {sl : Nat → Option mC} {Q : vO → vM → Prop} {b : Nat × Nat} (hT : kLT σ 0) (hK : KT v 0 ((t, n), (c, S), D, sl)) (hq : LR σ 1603) (hR0 : RT v 1603 ((t, n), (c, S), D, sl)) (hG : GI B ((t, n), (c, S), D, sl)) (hB1 : 8400100 ≤ B) (hB : B + 6000000 < 1000000000) (hf : σ.2.2.2 = false) (ho : vK σ 1611 12 1) (hi : i + 4 ≤ L) (hL : L ≤ 2048) (hb : 4 ≤ b.1 ∧ 24 ≤ b.2) (k : ∀ (v9 : vV) (T9 : gT), KT v9 0 T9 → RT v9 1603 T9 → GI (B + 70000) T9 → vG (kZl a L xs) M_L_law 1707 [some (.ref (a + 1000000)), some (.ref (0)), some (.ref (1603)), some (.ref (1611)), some (.int (nI (i))), none, none] [] (b.1 - 4, b.2 - 24) (σ, v9) Q) : vG (kZl a L xs) M_L_law 898 [some (.ref (a + 1000000)), some (.ref (0)), some (.ref (1603)), some (.ref (1611)), some (.int (nI (i))), none, none] [] b (σ, v) Q := by
  have hZ : ∀ s args c hz, kZl a L xs s args c hz → a < hz ∧ va_X a L xs s s.heap := fun _ _ _ _ z9 => ⟨z9.1, z9.2.1⟩
  have hk9 := (k_leave (t := t) (n := n) (c := c) (S := S) (D := D) (sl := sl) (m := xs (i + 1))).1
  have hI : GI (B + 70000) (g_leave ((t, n), (c, S), D, sl) (xs (i + 1))).2.2 := I_leave hG hB1
  refine G_aload_n dL_law_898 rfl rfl ?_
  refine G_aload_n dL_law_899 rfl rfl ?_
  refine G_iload dL_law_900 rfl ?_
  refine G_iconst (v := nI 1) dL_law_902 (by decide) ?_
  refine G_iaddN dL_law_903 ?_
  refine G_sld (i + 1) hZ dL_law_904 rfl (by omega) (by omega) ?_
  refine G_aload_n dL_law_905 rfl rfl ?_
  refine G_callSW (np := 3) (hh := [(0, 9, 12, 28), (0, 9, 15, 15)]) (rest := []) (As := [.ref (0), .int ((xs (i + 1))), .ref (1611)]) (fun _ _ _ _ z9 => z9.2.2) dL_law_906 lL_146 (aw_t 730 (by decide +kernel) (by decide +kernel)) (aw_t 0 (by decide +kernel) (by decide +kernel)) ⟨by decide +kernel, by decide +kernel, by decide +kernel⟩ ys_L_leave ⟨Nat.le_of_ble_eq_true rfl, Nat.le_of_ble_eq_true rfl⟩ rfl rfl (Nat.le_of_ble_eq_true rfl) hb (c_L_leave hT hK hG hB hf ho (by omega)) (fun o9 μ9 h9 hf9 => by obtain ⟨-, v9, rfl, -⟩ := h9; exact absurd (hf.symm.trans hf9) Bool.false_ne_true) ?_
  rintro o9 μ9 ⟨rfl, v1, rfl, hK1, hout, hfr⟩
  have hR1 : RT v1 1603 ((t, n), (c, S), D, sl) := hR0.of (fun j _ _ _ => by rw [hfr 1603 (by omega) (by omega)]) (fun m g1 g2 _ => hfr m (by omega) (by omega))
  refine G_istore (ls2 := [some (.ref (a + 1000000)), some (.ref (0)), some (.ref (1603)), some (.ref (1611)), some (.int (nI (i))), some (.int (nI ((g_leave ((t, n), (c, S), D, sl) (xs (i + 1))).1))), none]) dL_law_909 (by decide) rfl ?_
  refine G_aload_n dL_law_911 rfl rfl ?_
  refine G_aload_n dL_law_912 rfl rfl ?_
  refine G_iload dL_law_913 rfl ?_
  refine G_iconst (v := nI 1) dL_law_915 (by decide) ?_
  refine G_iaddN dL_law_916 ?_
  refine G_sld (i + 1) hZ dL_law_917 rfl (by omega) (by omega) ?_
  refine G_cVs (rest := []) (As := [.int ((xs (i + 1)))]) dL_law_918 lL_148 yk_X7_leave yv_X7_leave kX7 rfl (by decide) hq.o rfl rfl (Nat.le_of_ble_eq_true rfl) rfl (c_X7_leave hq hR1 hG hB) (fun v2 hq2 => ?_)
  obtain ⟨h20, hR2, hw2⟩ := hq2
  have hK2 := hK1.out hw2 (Or.inl (by omega))
  have hout2 : (g_leave ((t, n), (c, S), D, sl) (xs (i + 1))).1 = 0 → v2 1611 0 = (g_leave ((t, n), (c, S), D, sl) (xs (i + 1))).2.1 := fun z9 => by rw [hw2 1611 (by omega)]; exact hout z9
  refine G_istore (ls2 := [some (.ref (a + 1000000)), some (.ref (0)), some (.ref (1603)), some (.ref (1611)), some (.int (nI (i))), some (.int (nI ((g_leave ((t, n), (c, S), D, sl) (xs (i + 1))).1))), some (.int (((g_leave ((t, n), (c, S), D, sl) (xs (i + 1))).2.1)))]) dL_law_921 (by decide) rfl ?_
  refine G_aload_n dL_law_923 rfl rfl ?_
  refine G_cVp (rest := []) (As := []) dL_law_924 lL_101 yk_X7_thrown yv_X7_thrown kX7 rfl (by decide) hq.o rfl rfl (Nat.le_of_ble_eq_true rfl) rfl (c_X7_thrown hq) ?_
  refine G_top (y := nI ((g_leave ((t, n), (c, S), D, sl) (xs (i + 1))).1)) h20 ?_
  refine G_iload dL_law_927 rfl ?_
  refine G_icmp_eqN (tgt := 934) dL_law_929 (by decide) (by omega) (by omega) (fun c929 => ?_) (fun c929 => ?_)
  · refine G_iload dL_law_934 rfl ?_
    refine G_if_neN (tgt := 951) dL_law_936 (by decide) (by omega) (fun c936 => ?_) (fun c936 => ?_)
    · refine G_goto (tgt := 1707) dL_law_951 (by decide) ?_
      refine G_weak (ls2 := [some (.ref (a + 1000000)), some (.ref (0)), some (.ref (1603)), some (.ref (1611)), some (.int (nI (i))), none, none]) ⟨rfl, rfl, rfl, rfl, rfl, trivial⟩ ?_
      exact k v2 _ hK2 hR2 hI
    · refine G_aload_n dL_law_939 rfl rfl ?_
      refine G_iconst (v := nI 0) dL_law_940 (by decide) ?_
      refine G_lald (0) dL_law_941 ho rfl (by omega) (by decide) ?_
      refine G_iload dL_law_942 rfl ?_
      refine G_i2l dL_law_944 ?_
      refine G_lcmp dL_law_945 ?_
      refine G_if_eq (tgt := 951) dL_law_946 (by decide) (fun c946 => ?_) (fun c946 => ?_)
      · refine G_goto (tgt := 1707) dL_law_951 (by decide) ?_
        refine G_weak (ls2 := [some (.ref (a + 1000000)), some (.ref (0)), some (.ref (1603)), some (.ref (1611)), some (.int (nI (i))), none, none]) ⟨rfl, rfl, rfl, rfl, rfl, trivial⟩ ?_
        exact k v2 _ hK2 hR2 hI
      · exact absurd (by rw [hout2 (by omega)]; exact lg_same _) c946
  · exact absurd rfl c929
set_option maxHeartbeats 4000000 in
set_option maxRecDepth 100000 in
theorem b_back {σ : vS} {v : vV} {a L i c n B : Nat} {xs : Nat → Int32} {S : mS} {t : mN} {D : List mC} {sl : Nat → Option mC} {Q : vO → vM → Prop} {b : Nat × Nat} (hT : kLT σ 0) (hK : KT v 0 ((t, n), (c, S), D, sl)) (hq : LR σ 1603) (hR0 : RT v 1603 ((t, n), (c, S), D, sl)) (hG : GI B ((t, n), (c, S), D, sl)) (hB1 : 8400100 ≤ B) (hB : B + 6000000 < 1000000000) (hf : σ.2.2.2 = false) (ho : vK σ 1611 12 1) (hi : i + 4 ≤ L) (hL : L ≤ 2048) (hb : 4 ≤ b.1 ∧ 24 ≤ b.2) (k : ∀ (v9 : vV) (T9 : gT), KT v9 0 T9 → RT v9 1603 T9 → GI (B + 70000) T9 → vG (kZl a L xs) M_L_law 1707 [some (.ref (a + 1000000)), some (.ref (0)), some (.ref (1603)), some (.ref (1611)), some (.int (nI (i))), none, none] [] (b.1 - 4, b.2 - 24) (σ, v9) Q) : vG (kZl a L xs) M_L_law 954 [some (.ref (a + 1000000)), some (.ref (0)), some (.ref (1603)), some (.ref (1611)), some (.int (nI (i))), none, none] [] b (σ, v) Q := by
  have hZ : ∀ s args c hz, kZl a L xs s args c hz → a < hz ∧ va_X a L xs s s.heap := fun _ _ _ _ z9 => ⟨z9.1, z9.2.1⟩
  have hk9 := (k_back (t := t) (n := n) (c := c) (S := S) (D := D) (sl := sl) (m := xs (i + 1))).1
  have hI : GI (B + 70000) (g_back ((t, n), (c, S), D, sl) (xs (i + 1))).2.2 := I_back hG hB1
  refine G_aload_n dL_law_954 rfl rfl ?_
  refine G_aload_n dL_law_955 rfl rfl ?_
  refine G_iload dL_law_956 rfl ?_
  refine G_iconst (v := nI 1) dL_law_958 (by decide) ?_
  refine G_iaddN dL_law_959 ?_
  refine G_sld (i + 1) hZ dL_law_960 rfl (by omega) (by omega) ?_
  refine G_aload_n dL_law_961 rfl rfl ?_
  refine G_callSW (np := 3) (hh := [(0, 9, 12, 28), (0, 9, 15, 15)]) (rest := []) (As := [.ref (0), .int ((xs (i + 1))), .ref (1611)]) (fun _ _ _ _ z9 => z9.2.2) dL_law_962 lL_149 (aw_t 738 (by decide +kernel) (by decide +kernel)) (aw_t 0 (by decide +kernel) (by decide +kernel)) ⟨by decide +kernel, by decide +kernel, by decide +kernel⟩ ys_L_back ⟨Nat.le_of_ble_eq_true rfl, Nat.le_of_ble_eq_true rfl⟩ rfl rfl (Nat.le_of_ble_eq_true rfl) hb (c_L_back hT hK hG hB hf ho (by omega)) (fun o9 μ9 h9 hf9 => by obtain ⟨-, v9, rfl, -⟩ := h9; exact absurd (hf.symm.trans hf9) Bool.false_ne_true) ?_
  rintro o9 μ9 ⟨rfl, v1, rfl, hK1, hout, hfr⟩
  have hR1 : RT v1 1603 ((t, n), (c, S), D, sl) := hR0.of (fun j _ _ _ => by rw [hfr 1603 (by omega) (by omega)]) (fun m g1 g2 _ => hfr m (by omega) (by omega))
  refine G_istore (ls2 := [some (.ref (a + 1000000)), some (.ref (0)), some (.ref (1603)), some (.ref (1611)), some (.int (nI (i))), some (.int (nI ((g_back ((t, n), (c, S), D, sl) (xs (i + 1))).1))), none]) dL_law_965 (by decide) rfl ?_
  refine G_aload_n dL_law_967 rfl rfl ?_
  refine G_aload_n dL_law_968 rfl rfl ?_
  refine G_iload dL_law_969 rfl ?_
  refine G_iconst (v := nI 1) dL_law_971 (by decide) ?_
  refine G_iaddN dL_law_972 ?_
  refine G_sld (i + 1) hZ dL_law_973 rfl (by omega) (by omega) ?_
  refine G_cVs (rest := []) (As := [.int ((xs (i + 1)))]) dL_law_974 lL_151 yk_X7_back yv_X7_back kX7 rfl (by decide) hq.o rfl rfl (Nat.le_of_ble_eq_true rfl) rfl (c_X7_back hq hR1 hG hB) (fun v2 hq2 => ?_)
  obtain ⟨h20, hR2, hw2⟩ := hq2
  have hK2 := hK1.out hw2 (Or.inl (by omega))
  have hout2 : (g_back ((t, n), (c, S), D, sl) (xs (i + 1))).1 = 0 → v2 1611 0 = (g_back ((t, n), (c, S), D, sl) (xs (i + 1))).2.1 := fun z9 => by rw [hw2 1611 (by omega)]; exact hout z9
  refine G_istore (ls2 := [some (.ref (a + 1000000)), some (.ref (0)), some (.ref (1603)), some (.ref (1611)), some (.int (nI (i))), some (.int (nI ((g_back ((t, n), (c, S), D, sl) (xs (i + 1))).1))), some (.int (((g_back ((t, n), (c, S), D, sl) (xs (i + 1))).2.1)))]) dL_law_977 (by decide) rfl ?_
  refine G_aload_n dL_law_979 rfl rfl ?_
  refine G_cVp (rest := []) (As := []) dL_law_980 lL_101 yk_X7_thrown yv_X7_thrown kX7 rfl (by decide) hq.o rfl rfl (Nat.le_of_ble_eq_true rfl) rfl (c_X7_thrown hq) ?_
  refine G_top (y := nI ((g_back ((t, n), (c, S), D, sl) (xs (i + 1))).1)) h20 ?_
  refine G_iload dL_law_983 rfl ?_
  refine G_icmp_eqN (tgt := 990) dL_law_985 (by decide) (by omega) (by omega) (fun c985 => ?_) (fun c985 => ?_)
  · refine G_iload dL_law_990 rfl ?_
    refine G_if_neN (tgt := 1007) dL_law_992 (by decide) (by omega) (fun c992 => ?_) (fun c992 => ?_)
    · refine G_goto (tgt := 1707) dL_law_1007 (by decide) ?_
      refine G_weak (ls2 := [some (.ref (a + 1000000)), some (.ref (0)), some (.ref (1603)), some (.ref (1611)), some (.int (nI (i))), none, none]) ⟨rfl, rfl, rfl, rfl, rfl, trivial⟩ ?_
      exact k v2 _ hK2 hR2 hI
    · refine G_aload_n dL_law_995 rfl rfl ?_
      refine G_iconst (v := nI 0) dL_law_996 (by decide) ?_
      refine G_lald (0) dL_law_997 ho rfl (by omega) (by decide) ?_
      refine G_iload dL_law_998 rfl ?_
      refine G_i2l dL_law_1000 ?_
      refine G_lcmp dL_law_1001 ?_
      refine G_if_eq (tgt := 1007) dL_law_1002 (by decide) (fun c1002 => ?_) (fun c1002 => ?_)
      · refine G_goto (tgt := 1707) dL_law_1007 (by decide) ?_
        refine G_weak (ls2 := [some (.ref (a + 1000000)), some (.ref (0)), some (.ref (1603)), some (.ref (1611)), some (.int (nI (i))), none, none]) ⟨rfl, rfl, rfl, rfl, rfl, trivial⟩ ?_
        exact k v2 _ hK2 hR2 hI
      · exact absurd (by rw [hout2 (by omega)]; exact lg_same _) c1002
  · exact absurd rfl c985
set_option maxHeartbeats 4000000 in
set_option maxRecDepth 100000 in
theorem b_set {σ : vS} {v : vV} {a L i c n B : Nat} {xs : Nat → Int32} {S : mS} {t : mN} {D : List mC} {sl : Nat → Option mC} {Q : vO → vM → Prop} {b : Nat × Nat} (hT : kLT σ 0) (hK : KT v 0 ((t, n), (c, S), D, sl)) (hq : LR σ 1603) (hR0 : RT v 1603 ((t, n), (c, S), D, sl)) (hG : GI B ((t, n), (c, S), D, sl)) (hB1 : 8400100 ≤ B) (hB : B + 6000000 < 1000000000) (hf : σ.2.2.2 = false) (ho : vK σ 1611 12 1) (hi : i + 4 ≤ L) (hL : L ≤ 2048) (hb : 4 ≤ b.1 ∧ 24 ≤ b.2) (k : ∀ (v9 : vV) (T9 : gT), KT v9 0 T9 → RT v9 1603 T9 → GI (B + 70000) T9 → vG (kZl a L xs) M_L_law 1707 [some (.ref (a + 1000000)), some (.ref (0)), some (.ref (1603)), some (.ref (1611)), some (.int (nI (i))), none, none] [] (b.1 - 4, b.2 - 24) (σ, v9) Q) : vG (kZl a L xs) M_L_law 1010 [some (.ref (a + 1000000)), some (.ref (0)), some (.ref (1603)), some (.ref (1611)), some (.int (nI (i))), none, none] [] b (σ, v) Q := by
  have hZ : ∀ s args c hz, kZl a L xs s args c hz → a < hz ∧ va_X a L xs s s.heap := fun _ _ _ _ z9 => ⟨z9.1, z9.2.1⟩
  have hk9 := (k_set (t := t) (n := n) (c := c) (S := S) (D := D) (sl := sl) (a := xs (i + 1))).1
  have hI : GI (B + 70000) (g_set ((t, n), (c, S), D, sl) (xs (i + 1))).2.2 := I_set hG hB1
  refine G_aload_n dL_law_1010 rfl rfl ?_
  refine G_aload_n dL_law_1011 rfl rfl ?_
  refine G_iload dL_law_1012 rfl ?_
  refine G_iconst (v := nI 1) dL_law_1014 (by decide) ?_
  refine G_iaddN dL_law_1015 ?_
  refine G_sld (i + 1) hZ dL_law_1016 rfl (by omega) (by omega) ?_
  refine G_aload_n dL_law_1017 rfl rfl ?_
  refine G_callSW (np := 3) (hh := [(0, 9, 12, 13)]) (rest := []) (As := [.ref (0), .int ((xs (i + 1))), .ref (1611)]) (fun _ _ _ _ z9 => z9.2.2) dL_law_1018 lL_152 (aw_t 747 (by decide +kernel) (by decide +kernel)) (aw_t 0 (by decide +kernel) (by decide +kernel)) ⟨by decide +kernel, by decide +kernel, by decide +kernel⟩ ys_L_set ⟨Nat.le_of_ble_eq_true rfl, Nat.le_of_ble_eq_true rfl⟩ rfl rfl (Nat.le_of_ble_eq_true rfl) hb (c_L_set hT hK hG hB hf ho (by omega)) (fun o9 μ9 h9 hf9 => by obtain ⟨-, v9, rfl, -⟩ := h9; exact absurd (hf.symm.trans hf9) Bool.false_ne_true) ?_
  rintro o9 μ9 ⟨rfl, v1, rfl, hK1, hout, hfr⟩
  have hR1 : RT v1 1603 ((t, n), (c, S), D, sl) := hR0.of (fun j _ _ _ => by rw [hfr 1603 (by omega) (by omega)]) (fun m g1 g2 _ => hfr m (by omega) (by omega))
  refine G_istore (ls2 := [some (.ref (a + 1000000)), some (.ref (0)), some (.ref (1603)), some (.ref (1611)), some (.int (nI (i))), some (.int (nI ((g_set ((t, n), (c, S), D, sl) (xs (i + 1))).1))), none]) dL_law_1021 (by decide) rfl ?_
  refine G_aload_n dL_law_1023 rfl rfl ?_
  refine G_aload_n dL_law_1024 rfl rfl ?_
  refine G_iload dL_law_1025 rfl ?_
  refine G_iconst (v := nI 1) dL_law_1027 (by decide) ?_
  refine G_iaddN dL_law_1028 ?_
  refine G_sld (i + 1) hZ dL_law_1029 rfl (by omega) (by omega) ?_
  refine G_cVs (rest := []) (As := [.int ((xs (i + 1)))]) dL_law_1030 lL_154 yk_X7_set yv_X7_set kX7 rfl (by decide) hq.o rfl rfl (Nat.le_of_ble_eq_true rfl) rfl (c_X7_set hq hR1 hG hB) (fun v2 hq2 => ?_)
  obtain ⟨h20, hR2, hw2⟩ := hq2
  have hK2 := hK1.out hw2 (Or.inl (by omega))
  have hout2 : (g_set ((t, n), (c, S), D, sl) (xs (i + 1))).1 = 0 → v2 1611 0 = (g_set ((t, n), (c, S), D, sl) (xs (i + 1))).2.1 := fun z9 => by rw [hw2 1611 (by omega)]; exact hout z9
  refine G_istore (ls2 := [some (.ref (a + 1000000)), some (.ref (0)), some (.ref (1603)), some (.ref (1611)), some (.int (nI (i))), some (.int (nI ((g_set ((t, n), (c, S), D, sl) (xs (i + 1))).1))), some (.int (((g_set ((t, n), (c, S), D, sl) (xs (i + 1))).2.1)))]) dL_law_1033 (by decide) rfl ?_
  refine G_aload_n dL_law_1035 rfl rfl ?_
  refine G_cVp (rest := []) (As := []) dL_law_1036 lL_101 yk_X7_thrown yv_X7_thrown kX7 rfl (by decide) hq.o rfl rfl (Nat.le_of_ble_eq_true rfl) rfl (c_X7_thrown hq) ?_
  refine G_top (y := nI ((g_set ((t, n), (c, S), D, sl) (xs (i + 1))).1)) h20 ?_
  refine G_iload dL_law_1039 rfl ?_
  refine G_icmp_eqN (tgt := 1046) dL_law_1041 (by decide) (by omega) (by omega) (fun c1041 => ?_) (fun c1041 => ?_)
  · refine G_iload dL_law_1046 rfl ?_
    refine G_if_neN (tgt := 1063) dL_law_1048 (by decide) (by omega) (fun c1048 => ?_) (fun c1048 => ?_)
    · refine G_goto (tgt := 1707) dL_law_1063 (by decide) ?_
      refine G_weak (ls2 := [some (.ref (a + 1000000)), some (.ref (0)), some (.ref (1603)), some (.ref (1611)), some (.int (nI (i))), none, none]) ⟨rfl, rfl, rfl, rfl, rfl, trivial⟩ ?_
      exact k v2 _ hK2 hR2 hI
    · refine G_aload_n dL_law_1051 rfl rfl ?_
      refine G_iconst (v := nI 0) dL_law_1052 (by decide) ?_
      refine G_lald (0) dL_law_1053 ho rfl (by omega) (by decide) ?_
      refine G_iload dL_law_1054 rfl ?_
      refine G_i2l dL_law_1056 ?_
      refine G_lcmp dL_law_1057 ?_
      refine G_if_eq (tgt := 1063) dL_law_1058 (by decide) (fun c1058 => ?_) (fun c1058 => ?_)
      · refine G_goto (tgt := 1707) dL_law_1063 (by decide) ?_
        refine G_weak (ls2 := [some (.ref (a + 1000000)), some (.ref (0)), some (.ref (1603)), some (.ref (1611)), some (.int (nI (i))), none, none]) ⟨rfl, rfl, rfl, rfl, rfl, trivial⟩ ?_
        exact k v2 _ hK2 hR2 hI
      · exact absurd (by rw [hout2 (by omega)]; exact lg_same _) c1058
  · exact absurd rfl c1041
set_option maxHeartbeats 4000000 in
set_option maxRecDepth 100000 in
theorem b_ticks {σ : vS} {v : vV} {a L i c n B : Nat} {xs : Nat → Int32} {S : mS} {t : mN} {D : List mC} {sl : Nat → Option mC} {Q : vO → vM → Prop} {b : Nat × Nat} (hT : kLT σ 0) (hK : KT v 0 ((t, n), (c, S), D, sl)) (hq : LR σ 1603) (hR0 : RT v 1603 ((t, n), (c, S), D, sl)) (hG : GI B ((t, n), (c, S), D, sl)) (hB1 : 8400100 ≤ B) (hB : B + 6000000 < 1000000000) (hf : σ.2.2.2 = false) (ho : vK σ 1611 12 1) (hi : i + 4 ≤ L) (hL : L ≤ 2048) (hb : 4 ≤ b.1 ∧ 24 ≤ b.2) (k : ∀ (v9 : vV) (T9 : gT), KT v9 0 T9 → RT v9 1603 T9 → GI (B + 70000) T9 → vG (kZl a L xs) M_L_law 1707 [some (.ref (a + 1000000)), some (.ref (0)), some (.ref (1603)), some (.ref (1611)), some (.int (nI (i))), none, none] [] (b.1 - 4, b.2 - 24) (σ, v9) Q) : vG (kZl a L xs) M_L_law 1066 [some (.ref (a + 1000000)), some (.ref (0)), some (.ref (1603)), some (.ref (1611)), some (.int (nI (i))), none, none] [] b (σ, v) Q := by
  have hZ : ∀ s args c hz, kZl a L xs s args c hz → a < hz ∧ va_X a L xs s s.heap := fun _ _ _ _ z9 => ⟨z9.1, z9.2.1⟩
  have hk9 := (k_ticks (t := t) (n := n) (c := c) (S := S) (D := D) (sl := sl) (a := xs (i + 1))).1
  have hI : GI (B + 70000) (g_ticks ((t, n), (c, S), D, sl) (xs (i + 1))).2.2 := I_ticks hG hB1
  refine G_aload_n dL_law_1066 rfl rfl ?_
  refine G_aload_n dL_law_1067 rfl rfl ?_
  refine G_iload dL_law_1068 rfl ?_
  refine G_iconst (v := nI 1) dL_law_1070 (by decide) ?_
  refine G_iaddN dL_law_1071 ?_
  refine G_sld (i + 1) hZ dL_law_1072 rfl (by omega) (by omega) ?_
  refine G_aload_n dL_law_1073 rfl rfl ?_
  refine G_callSW (np := 3) (hh := [(0, 9, 12, 13)]) (rest := []) (As := [.ref (0), .int ((xs (i + 1))), .ref (1611)]) (fun _ _ _ _ z9 => z9.2.2) dL_law_1074 lL_155 (aw_t 756 (by decide +kernel) (by decide +kernel)) (aw_t 0 (by decide +kernel) (by decide +kernel)) ⟨by decide +kernel, by decide +kernel, by decide +kernel⟩ ys_L_ticks ⟨Nat.le_of_ble_eq_true rfl, Nat.le_of_ble_eq_true rfl⟩ rfl rfl (Nat.le_of_ble_eq_true rfl) hb (c_L_ticks hT hK hG hB hf ho (by omega)) (fun o9 μ9 h9 hf9 => by obtain ⟨-, v9, rfl, -⟩ := h9; exact absurd (hf.symm.trans hf9) Bool.false_ne_true) ?_
  rintro o9 μ9 ⟨rfl, v1, rfl, hK1, hout, hfr⟩
  have hR1 : RT v1 1603 ((t, n), (c, S), D, sl) := hR0.of (fun j _ _ _ => by rw [hfr 1603 (by omega) (by omega)]) (fun m g1 g2 _ => hfr m (by omega) (by omega))
  refine G_istore (ls2 := [some (.ref (a + 1000000)), some (.ref (0)), some (.ref (1603)), some (.ref (1611)), some (.int (nI (i))), some (.int (nI ((g_ticks ((t, n), (c, S), D, sl) (xs (i + 1))).1))), none]) dL_law_1077 (by decide) rfl ?_
  refine G_aload_n dL_law_1079 rfl rfl ?_
  refine G_aload_n dL_law_1080 rfl rfl ?_
  refine G_iload dL_law_1081 rfl ?_
  refine G_iconst (v := nI 1) dL_law_1083 (by decide) ?_
  refine G_iaddN dL_law_1084 ?_
  refine G_sld (i + 1) hZ dL_law_1085 rfl (by omega) (by omega) ?_
  refine G_cVs (rest := []) (As := [.int ((xs (i + 1)))]) dL_law_1086 lL_157 yk_X7_ticks yv_X7_ticks kX7 rfl (by decide) hq.o rfl rfl (Nat.le_of_ble_eq_true rfl) rfl (c_X7_ticks hq hR1 hG hB) (fun v2 hq2 => ?_)
  obtain ⟨h20, hR2, hw2⟩ := hq2
  have hK2 := hK1.out hw2 (Or.inl (by omega))
  have hout2 : (g_ticks ((t, n), (c, S), D, sl) (xs (i + 1))).1 = 0 → v2 1611 0 = (g_ticks ((t, n), (c, S), D, sl) (xs (i + 1))).2.1 := fun z9 => by rw [hw2 1611 (by omega)]; exact hout z9
  refine G_istore (ls2 := [some (.ref (a + 1000000)), some (.ref (0)), some (.ref (1603)), some (.ref (1611)), some (.int (nI (i))), some (.int (nI ((g_ticks ((t, n), (c, S), D, sl) (xs (i + 1))).1))), some (.int (((g_ticks ((t, n), (c, S), D, sl) (xs (i + 1))).2.1)))]) dL_law_1089 (by decide) rfl ?_
  refine G_aload_n dL_law_1091 rfl rfl ?_
  refine G_cVp (rest := []) (As := []) dL_law_1092 lL_101 yk_X7_thrown yv_X7_thrown kX7 rfl (by decide) hq.o rfl rfl (Nat.le_of_ble_eq_true rfl) rfl (c_X7_thrown hq) ?_
  refine G_top (y := nI ((g_ticks ((t, n), (c, S), D, sl) (xs (i + 1))).1)) h20 ?_
  refine G_iload dL_law_1095 rfl ?_
  refine G_icmp_eqN (tgt := 1102) dL_law_1097 (by decide) (by omega) (by omega) (fun c1097 => ?_) (fun c1097 => ?_)
  · refine G_iload dL_law_1102 rfl ?_
    refine G_if_neN (tgt := 1119) dL_law_1104 (by decide) (by omega) (fun c1104 => ?_) (fun c1104 => ?_)
    · refine G_goto (tgt := 1707) dL_law_1119 (by decide) ?_
      refine G_weak (ls2 := [some (.ref (a + 1000000)), some (.ref (0)), some (.ref (1603)), some (.ref (1611)), some (.int (nI (i))), none, none]) ⟨rfl, rfl, rfl, rfl, rfl, trivial⟩ ?_
      exact k v2 _ hK2 hR2 hI
    · refine G_aload_n dL_law_1107 rfl rfl ?_
      refine G_iconst (v := nI 0) dL_law_1108 (by decide) ?_
      refine G_lald (0) dL_law_1109 ho rfl (by omega) (by decide) ?_
      refine G_iload dL_law_1110 rfl ?_
      refine G_i2l dL_law_1112 ?_
      refine G_lcmp dL_law_1113 ?_
      refine G_if_eq (tgt := 1119) dL_law_1114 (by decide) (fun c1114 => ?_) (fun c1114 => ?_)
      · refine G_goto (tgt := 1707) dL_law_1119 (by decide) ?_
        refine G_weak (ls2 := [some (.ref (a + 1000000)), some (.ref (0)), some (.ref (1603)), some (.ref (1611)), some (.int (nI (i))), none, none]) ⟨rfl, rfl, rfl, rfl, rfl, trivial⟩ ?_
        exact k v2 _ hK2 hR2 hI
      · exact absurd (by rw [hout2 (by omega)]; exact lg_same _) c1114
  · exact absurd rfl c1097
set_option maxHeartbeats 4000000 in
set_option maxRecDepth 100000 in
theorem b_undo {σ : vS} {v : vV} {a L i c n B : Nat} {xs : Nat → Int32} {S : mS} {t : mN} {D : List mC} {sl : Nat → Option mC} {Q : vO → vM → Prop} {b : Nat × Nat} (hT : kLT σ 0) (hK : KT v 0 ((t, n), (c, S), D, sl)) (hq : LR σ 1603) (hR0 : RT v 1603 ((t, n), (c, S), D, sl)) (hG : GI B ((t, n), (c, S), D, sl)) (hB1 : 8400100 ≤ B) (hB : B + 6000000 < 1000000000) (hf : σ.2.2.2 = false) (ho : vK σ 1611 12 1) (hi : i + 4 ≤ L) (hL : L ≤ 2048) (hb : 4 ≤ b.1 ∧ 24 ≤ b.2) (k : ∀ (v9 : vV) (T9 : gT), KT v9 0 T9 → RT v9 1603 T9 → GI (B + 70000) T9 → vG (kZl a L xs) M_L_law 1707 [some (.ref (a + 1000000)), some (.ref (0)), some (.ref (1603)), some (.ref (1611)), some (.int (nI (i))), none, none] [] (b.1 - 4, b.2 - 24) (σ, v9) Q) : vG (kZl a L xs) M_L_law 1122 [some (.ref (a + 1000000)), some (.ref (0)), some (.ref (1603)), some (.ref (1611)), some (.int (nI (i))), none, none] [] b (σ, v) Q := by
  have hZ : ∀ s args c hz, kZl a L xs s args c hz → a < hz ∧ va_X a L xs s s.heap := fun _ _ _ _ z9 => ⟨z9.1, z9.2.1⟩
  have hk9 := (k_undo (t := t) (n := n) (c := c) (S := S) (D := D) (sl := sl)).1
  have hI : GI (B + 70000) (g_undo ((t, n), (c, S), D, sl)).2.2 := I_undo hG hB1
  refine G_aload_n dL_law_1122 rfl rfl ?_
  refine G_aload_n dL_law_1123 rfl rfl ?_
  refine G_callSW (np := 2) (hh := [(0, 8, 11, 15)]) (rest := []) (As := [.ref (0), .ref (1611)]) (fun _ _ _ _ z9 => z9.2.2) dL_law_1124 lL_158 (aw_t 766 (by decide +kernel) (by decide +kernel)) (aw_t 0 (by decide +kernel) (by decide +kernel)) ⟨by decide +kernel, by decide +kernel, by decide +kernel⟩ ys_L_undo ⟨Nat.le_of_ble_eq_true rfl, Nat.le_of_ble_eq_true rfl⟩ rfl rfl (Nat.le_of_ble_eq_true rfl) hb (c_L_undo hT hK hG hB hf ho (by omega)) (fun o9 μ9 h9 hf9 => by obtain ⟨-, v9, rfl, -⟩ := h9; exact absurd (hf.symm.trans hf9) Bool.false_ne_true) ?_
  rintro o9 μ9 ⟨rfl, v1, rfl, hK1, hout, hfr⟩
  have hR1 : RT v1 1603 ((t, n), (c, S), D, sl) := hR0.of (fun j _ _ _ => by rw [hfr 1603 (by omega) (by omega)]) (fun m g1 g2 _ => hfr m (by omega) (by omega))
  refine G_istore (ls2 := [some (.ref (a + 1000000)), some (.ref (0)), some (.ref (1603)), some (.ref (1611)), some (.int (nI (i))), some (.int (nI ((g_undo ((t, n), (c, S), D, sl)).1))), none]) dL_law_1127 (by decide) rfl ?_
  refine G_aload_n dL_law_1129 rfl rfl ?_
  refine G_cVs (rest := []) (As := []) dL_law_1130 lL_160 yk_X7_undo yv_X7_undo kX7 rfl (by decide) hq.o rfl rfl (Nat.le_of_ble_eq_true rfl) rfl (c_X7_undo hq hR1 hG hB) (fun v2 hq2 => ?_)
  obtain ⟨h20, hR2, hw2⟩ := hq2
  have hK2 := hK1.out hw2 (Or.inl (by omega))
  have hout2 : (g_undo ((t, n), (c, S), D, sl)).1 = 0 → v2 1611 0 = (g_undo ((t, n), (c, S), D, sl)).2.1 := fun z9 => by rw [hw2 1611 (by omega)]; exact hout z9
  refine G_istore (ls2 := [some (.ref (a + 1000000)), some (.ref (0)), some (.ref (1603)), some (.ref (1611)), some (.int (nI (i))), some (.int (nI ((g_undo ((t, n), (c, S), D, sl)).1))), some (.int (((g_undo ((t, n), (c, S), D, sl)).2.1)))]) dL_law_1133 (by decide) rfl ?_
  refine G_aload_n dL_law_1135 rfl rfl ?_
  refine G_cVp (rest := []) (As := []) dL_law_1136 lL_101 yk_X7_thrown yv_X7_thrown kX7 rfl (by decide) hq.o rfl rfl (Nat.le_of_ble_eq_true rfl) rfl (c_X7_thrown hq) ?_
  refine G_top (y := nI ((g_undo ((t, n), (c, S), D, sl)).1)) h20 ?_
  refine G_iload dL_law_1139 rfl ?_
  refine G_icmp_eqN (tgt := 1146) dL_law_1141 (by decide) (by omega) (by omega) (fun c1141 => ?_) (fun c1141 => ?_)
  · refine G_iload dL_law_1146 rfl ?_
    refine G_if_neN (tgt := 1163) dL_law_1148 (by decide) (by omega) (fun c1148 => ?_) (fun c1148 => ?_)
    · refine G_goto (tgt := 1707) dL_law_1163 (by decide) ?_
      refine G_weak (ls2 := [some (.ref (a + 1000000)), some (.ref (0)), some (.ref (1603)), some (.ref (1611)), some (.int (nI (i))), none, none]) ⟨rfl, rfl, rfl, rfl, rfl, trivial⟩ ?_
      exact k v2 _ hK2 hR2 hI
    · refine G_aload_n dL_law_1151 rfl rfl ?_
      refine G_iconst (v := nI 0) dL_law_1152 (by decide) ?_
      refine G_lald (0) dL_law_1153 ho rfl (by omega) (by decide) ?_
      refine G_iload dL_law_1154 rfl ?_
      refine G_i2l dL_law_1156 ?_
      refine G_lcmp dL_law_1157 ?_
      refine G_if_eq (tgt := 1163) dL_law_1158 (by decide) (fun c1158 => ?_) (fun c1158 => ?_)
      · refine G_goto (tgt := 1707) dL_law_1163 (by decide) ?_
        refine G_weak (ls2 := [some (.ref (a + 1000000)), some (.ref (0)), some (.ref (1603)), some (.ref (1611)), some (.int (nI (i))), none, none]) ⟨rfl, rfl, rfl, rfl, rfl, trivial⟩ ?_
        exact k v2 _ hK2 hR2 hI
      · exact absurd (by rw [hout2 (by omega)]; exact lg_same _) c1158
  · exact absurd rfl c1141
set_option maxHeartbeats 4000000 in
set_option maxRecDepth 100000 in
theorem b_standsIn {σ : vS} {v : vV} {a L i c n B : Nat} {xs : Nat → Int32} {S : mS} {t : mN} {D : List mC} {sl : Nat → Option mC} {Q : vO → vM → Prop} {b : Nat × Nat} (hT : kLT σ 0) (hK : KT v 0 ((t, n), (c, S), D, sl)) (hq : LR σ 1603) (hR0 : RT v 1603 ((t, n), (c, S), D, sl)) (hG : GI B ((t, n), (c, S), D, sl)) (hB1 : 8400100 ≤ B) (hB : B + 6000000 < 1000000000) (hf : σ.2.2.2 = false) (ho : vK σ 1611 12 1) (hi : i + 4 ≤ L) (hL : L ≤ 2048) (hb : 4 ≤ b.1 ∧ 24 ≤ b.2) (k : ∀ (v9 : vV) (T9 : gT), KT v9 0 T9 → RT v9 1603 T9 → GI (B + 70000) T9 → vG (kZl a L xs) M_L_law 1707 [some (.ref (a + 1000000)), some (.ref (0)), some (.ref (1603)), some (.ref (1611)), some (.int (nI (i))), none, none] [] (b.1 - 4, b.2 - 24) (σ, v9) Q) : vG (kZl a L xs) M_L_law 1166 [some (.ref (a + 1000000)), some (.ref (0)), some (.ref (1603)), some (.ref (1611)), some (.int (nI (i))), none, none] [] b (σ, v) Q := by
  have hZ : ∀ s args c hz, kZl a L xs s args c hz → a < hz ∧ va_X a L xs s s.heap := fun _ _ _ _ z9 => ⟨z9.1, z9.2.1⟩
  have hk9 := (k_standsIn (t := t) (n := n) (c := c) (S := S) (D := D) (sl := sl) (m := xs (i + 1)) (s := xs (i + 2)) (w := xs (i + 3))).1
  have hI : GI (B + 70000) (g_standsIn ((t, n), (c, S), D, sl) (xs (i + 1)) (xs (i + 2)) (xs (i + 3))).2.2 := I_standsIn hG hB1
  refine G_aload_n dL_law_1166 rfl rfl ?_
  refine G_aload_n dL_law_1167 rfl rfl ?_
  refine G_iload dL_law_1168 rfl ?_
  refine G_iconst (v := nI 1) dL_law_1170 (by decide) ?_
  refine G_iaddN dL_law_1171 ?_
  refine G_sld (i + 1) hZ dL_law_1172 rfl (by omega) (by omega) ?_
  refine G_aload_n dL_law_1173 rfl rfl ?_
  refine G_iload dL_law_1174 rfl ?_
  refine G_iconst (v := nI 2) dL_law_1176 (by decide) ?_
  refine G_iaddN dL_law_1177 ?_
  refine G_sld (i + 2) hZ dL_law_1178 rfl (by omega) (by omega) ?_
  refine G_aload_n dL_law_1179 rfl rfl ?_
  refine G_iload dL_law_1180 rfl ?_
  refine G_iconst (v := nI 3) dL_law_1182 (by decide) ?_
  refine G_iaddN dL_law_1183 ?_
  refine G_sld (i + 3) hZ dL_law_1184 rfl (by omega) (by omega) ?_
  refine G_aload_n dL_law_1185 rfl rfl ?_
  refine G_callSW (np := 5) (hh := [(0, 12, 15, 28), (0, 12, 19, 13)]) (rest := []) (As := [.ref (0), .int ((xs (i + 1))), .int ((xs (i + 2))), .int ((xs (i + 3))), .ref (1611)]) (fun _ _ _ _ z9 => z9.2.2) dL_law_1186 lL_161 (aw_t 778 (by decide +kernel) (by decide +kernel)) (aw_t 0 (by decide +kernel) (by decide +kernel)) ⟨by decide +kernel, by decide +kernel, by decide +kernel⟩ ys_L_standsIn ⟨Nat.le_of_ble_eq_true rfl, Nat.le_of_ble_eq_true rfl⟩ rfl rfl (Nat.le_of_ble_eq_true rfl) hb (c_L_standsIn hT hK hG hB hf ho (by omega)) (fun o9 μ9 h9 hf9 => by obtain ⟨-, v9, rfl, -⟩ := h9; exact absurd (hf.symm.trans hf9) Bool.false_ne_true) ?_
  rintro o9 μ9 ⟨rfl, v1, rfl, hK1, hout, hfr⟩
  have hR1 : RT v1 1603 ((t, n), (c, S), D, sl) := hR0.of (fun j _ _ _ => by rw [hfr 1603 (by omega) (by omega)]) (fun m g1 g2 _ => hfr m (by omega) (by omega))
  refine G_istore (ls2 := [some (.ref (a + 1000000)), some (.ref (0)), some (.ref (1603)), some (.ref (1611)), some (.int (nI (i))), some (.int (nI ((g_standsIn ((t, n), (c, S), D, sl) (xs (i + 1)) (xs (i + 2)) (xs (i + 3))).1))), none]) dL_law_1189 (by decide) rfl ?_
  refine G_aload_n dL_law_1191 rfl rfl ?_
  refine G_aload_n dL_law_1192 rfl rfl ?_
  refine G_iload dL_law_1193 rfl ?_
  refine G_iconst (v := nI 1) dL_law_1195 (by decide) ?_
  refine G_iaddN dL_law_1196 ?_
  refine G_sld (i + 1) hZ dL_law_1197 rfl (by omega) (by omega) ?_
  refine G_aload_n dL_law_1198 rfl rfl ?_
  refine G_iload dL_law_1199 rfl ?_
  refine G_iconst (v := nI 2) dL_law_1201 (by decide) ?_
  refine G_iaddN dL_law_1202 ?_
  refine G_sld (i + 2) hZ dL_law_1203 rfl (by omega) (by omega) ?_
  refine G_aload_n dL_law_1204 rfl rfl ?_
  refine G_iload dL_law_1205 rfl ?_
  refine G_iconst (v := nI 3) dL_law_1207 (by decide) ?_
  refine G_iaddN dL_law_1208 ?_
  refine G_sld (i + 3) hZ dL_law_1209 rfl (by omega) (by omega) ?_
  refine G_cVs (rest := []) (As := [.int ((xs (i + 1))), .int ((xs (i + 2))), .int ((xs (i + 3)))]) dL_law_1210 lL_163 yk_X7_standsIn yv_X7_standsIn kX7 rfl (by decide) hq.o rfl rfl (Nat.le_of_ble_eq_true rfl) rfl (c_X7_standsIn hq hR1 hG hB) (fun v2 hq2 => ?_)
  obtain ⟨h20, hR2, hw2⟩ := hq2
  have hK2 := hK1.out hw2 (Or.inl (by omega))
  have hout2 : (g_standsIn ((t, n), (c, S), D, sl) (xs (i + 1)) (xs (i + 2)) (xs (i + 3))).1 = 0 → v2 1611 0 = (g_standsIn ((t, n), (c, S), D, sl) (xs (i + 1)) (xs (i + 2)) (xs (i + 3))).2.1 := fun z9 => by rw [hw2 1611 (by omega)]; exact hout z9
  refine G_istore (ls2 := [some (.ref (a + 1000000)), some (.ref (0)), some (.ref (1603)), some (.ref (1611)), some (.int (nI (i))), some (.int (nI ((g_standsIn ((t, n), (c, S), D, sl) (xs (i + 1)) (xs (i + 2)) (xs (i + 3))).1))), some (.int (((g_standsIn ((t, n), (c, S), D, sl) (xs (i + 1)) (xs (i + 2)) (xs (i + 3))).2.1)))]) dL_law_1213 (by decide) rfl ?_
  refine G_aload_n dL_law_1215 rfl rfl ?_
  refine G_cVp (rest := []) (As := []) dL_law_1216 lL_101 yk_X7_thrown yv_X7_thrown kX7 rfl (by decide) hq.o rfl rfl (Nat.le_of_ble_eq_true rfl) rfl (c_X7_thrown hq) ?_
  refine G_top (y := nI ((g_standsIn ((t, n), (c, S), D, sl) (xs (i + 1)) (xs (i + 2)) (xs (i + 3))).1)) h20 ?_
  refine G_iload dL_law_1219 rfl ?_
  refine G_icmp_eqN (tgt := 1226) dL_law_1221 (by decide) (by omega) (by omega) (fun c1221 => ?_) (fun c1221 => ?_)
  · refine G_iload dL_law_1226 rfl ?_
    refine G_if_neN (tgt := 1243) dL_law_1228 (by decide) (by omega) (fun c1228 => ?_) (fun c1228 => ?_)
    · refine G_goto (tgt := 1707) dL_law_1243 (by decide) ?_
      refine G_weak (ls2 := [some (.ref (a + 1000000)), some (.ref (0)), some (.ref (1603)), some (.ref (1611)), some (.int (nI (i))), none, none]) ⟨rfl, rfl, rfl, rfl, rfl, trivial⟩ ?_
      exact k v2 _ hK2 hR2 hI
    · refine G_aload_n dL_law_1231 rfl rfl ?_
      refine G_iconst (v := nI 0) dL_law_1232 (by decide) ?_
      refine G_lald (0) dL_law_1233 ho rfl (by omega) (by decide) ?_
      refine G_iload dL_law_1234 rfl ?_
      refine G_i2l dL_law_1236 ?_
      refine G_lcmp dL_law_1237 ?_
      refine G_if_eq (tgt := 1243) dL_law_1238 (by decide) (fun c1238 => ?_) (fun c1238 => ?_)
      · refine G_goto (tgt := 1707) dL_law_1243 (by decide) ?_
        refine G_weak (ls2 := [some (.ref (a + 1000000)), some (.ref (0)), some (.ref (1603)), some (.ref (1611)), some (.int (nI (i))), none, none]) ⟨rfl, rfl, rfl, rfl, rfl, trivial⟩ ?_
        exact k v2 _ hK2 hR2 hI
      · exact absurd (by rw [hout2 (by omega)]; exact lg_same _) c1238
  · exact absurd rfl c1221
set_option maxHeartbeats 4000000 in
set_option maxRecDepth 100000 in
theorem b_compare {σ : vS} {v : vV} {a L i c n B : Nat} {xs : Nat → Int32} {S : mS} {t : mN} {D : List mC} {sl : Nat → Option mC} {Q : vO → vM → Prop} {b : Nat × Nat} (hT : kLT σ 0) (hK : KT v 0 ((t, n), (c, S), D, sl)) (hq : LR σ 1603) (hR0 : RT v 1603 ((t, n), (c, S), D, sl)) (hG : GI B ((t, n), (c, S), D, sl)) (hB1 : 8400100 ≤ B) (hB : B + 6000000 < 1000000000) (hf : σ.2.2.2 = false) (ho : vK σ 1611 12 1) (hi : i + 4 ≤ L) (hL : L ≤ 2048) (hb : 4 ≤ b.1 ∧ 24 ≤ b.2) (k : ∀ (v9 : vV) (T9 : gT), KT v9 0 T9 → RT v9 1603 T9 → GI (B + 70000) T9 → vG (kZl a L xs) M_L_law 1707 [some (.ref (a + 1000000)), some (.ref (0)), some (.ref (1603)), some (.ref (1611)), some (.int (nI (i))), none, none] [] (b.1 - 4, b.2 - 24) (σ, v9) Q) : vG (kZl a L xs) M_L_law 1246 [some (.ref (a + 1000000)), some (.ref (0)), some (.ref (1603)), some (.ref (1611)), some (.int (nI (i))), none, none] [] b (σ, v) Q := by
  have hZ : ∀ s args c hz, kZl a L xs s args c hz → a < hz ∧ va_X a L xs s s.heap := fun _ _ _ _ z9 => ⟨z9.1, z9.2.1⟩
  have hk9 := (k_compare (t := t) (n := n) (c := c) (S := S) (D := D) (sl := sl) (a := xs (i + 1)) (d := xs (i + 2)) (w := xs (i + 3))).1
  have hI : GI (B + 70000) (g_compare ((t, n), (c, S), D, sl) (xs (i + 1)) (xs (i + 2)) (xs (i + 3))).2.2 := I_compare hG hB1
  refine G_aload_n dL_law_1246 rfl rfl ?_
  refine G_aload_n dL_law_1247 rfl rfl ?_
  refine G_iload dL_law_1248 rfl ?_
  refine G_iconst (v := nI 1) dL_law_1250 (by decide) ?_
  refine G_iaddN dL_law_1251 ?_
  refine G_sld (i + 1) hZ dL_law_1252 rfl (by omega) (by omega) ?_
  refine G_aload_n dL_law_1253 rfl rfl ?_
  refine G_iload dL_law_1254 rfl ?_
  refine G_iconst (v := nI 2) dL_law_1256 (by decide) ?_
  refine G_iaddN dL_law_1257 ?_
  refine G_sld (i + 2) hZ dL_law_1258 rfl (by omega) (by omega) ?_
  refine G_aload_n dL_law_1259 rfl rfl ?_
  refine G_iload dL_law_1260 rfl ?_
  refine G_iconst (v := nI 3) dL_law_1262 (by decide) ?_
  refine G_iaddN dL_law_1263 ?_
  refine G_sld (i + 3) hZ dL_law_1264 rfl (by omega) (by omega) ?_
  refine G_aload_n dL_law_1265 rfl rfl ?_
  refine G_callSW (np := 5) (hh := [(0, 12, 15, 28), (0, 12, 19, 13)]) (rest := []) (As := [.ref (0), .int ((xs (i + 1))), .int ((xs (i + 2))), .int ((xs (i + 3))), .ref (1611)]) (fun _ _ _ _ z9 => z9.2.2) dL_law_1266 lL_164 (aw_t 791 (by decide +kernel) (by decide +kernel)) (aw_t 0 (by decide +kernel) (by decide +kernel)) ⟨by decide +kernel, by decide +kernel, by decide +kernel⟩ ys_L_compare ⟨Nat.le_of_ble_eq_true rfl, Nat.le_of_ble_eq_true rfl⟩ rfl rfl (Nat.le_of_ble_eq_true rfl) hb (c_L_compare hT hK hG hB hf ho (by omega)) (fun o9 μ9 h9 hf9 => by obtain ⟨-, v9, rfl, -⟩ := h9; exact absurd (hf.symm.trans hf9) Bool.false_ne_true) ?_
  rintro o9 μ9 ⟨rfl, v1, rfl, hK1, hout, hfr⟩
  have hR1 : RT v1 1603 ((t, n), (c, S), D, sl) := hR0.of (fun j _ _ _ => by rw [hfr 1603 (by omega) (by omega)]) (fun m g1 g2 _ => hfr m (by omega) (by omega))
  refine G_istore (ls2 := [some (.ref (a + 1000000)), some (.ref (0)), some (.ref (1603)), some (.ref (1611)), some (.int (nI (i))), some (.int (nI ((g_compare ((t, n), (c, S), D, sl) (xs (i + 1)) (xs (i + 2)) (xs (i + 3))).1))), none]) dL_law_1269 (by decide) rfl ?_
  refine G_aload_n dL_law_1271 rfl rfl ?_
  refine G_aload_n dL_law_1272 rfl rfl ?_
  refine G_iload dL_law_1273 rfl ?_
  refine G_iconst (v := nI 1) dL_law_1275 (by decide) ?_
  refine G_iaddN dL_law_1276 ?_
  refine G_sld (i + 1) hZ dL_law_1277 rfl (by omega) (by omega) ?_
  refine G_aload_n dL_law_1278 rfl rfl ?_
  refine G_iload dL_law_1279 rfl ?_
  refine G_iconst (v := nI 2) dL_law_1281 (by decide) ?_
  refine G_iaddN dL_law_1282 ?_
  refine G_sld (i + 2) hZ dL_law_1283 rfl (by omega) (by omega) ?_
  refine G_aload_n dL_law_1284 rfl rfl ?_
  refine G_iload dL_law_1285 rfl ?_
  refine G_iconst (v := nI 3) dL_law_1287 (by decide) ?_
  refine G_iaddN dL_law_1288 ?_
  refine G_sld (i + 3) hZ dL_law_1289 rfl (by omega) (by omega) ?_
  refine G_cVs (rest := []) (As := [.int ((xs (i + 1))), .int ((xs (i + 2))), .int ((xs (i + 3)))]) dL_law_1290 lL_166 yk_X7_compare yv_X7_compare kX7 rfl (by decide) hq.o rfl rfl (Nat.le_of_ble_eq_true rfl) rfl (c_X7_compare hq hR1 hG hB) (fun v2 hq2 => ?_)
  obtain ⟨h20, hR2, hw2⟩ := hq2
  have hK2 := hK1.out hw2 (Or.inl (by omega))
  have hout2 : (g_compare ((t, n), (c, S), D, sl) (xs (i + 1)) (xs (i + 2)) (xs (i + 3))).1 = 0 → v2 1611 0 = (g_compare ((t, n), (c, S), D, sl) (xs (i + 1)) (xs (i + 2)) (xs (i + 3))).2.1 := fun z9 => by rw [hw2 1611 (by omega)]; exact hout z9
  refine G_istore (ls2 := [some (.ref (a + 1000000)), some (.ref (0)), some (.ref (1603)), some (.ref (1611)), some (.int (nI (i))), some (.int (nI ((g_compare ((t, n), (c, S), D, sl) (xs (i + 1)) (xs (i + 2)) (xs (i + 3))).1))), some (.int (((g_compare ((t, n), (c, S), D, sl) (xs (i + 1)) (xs (i + 2)) (xs (i + 3))).2.1)))]) dL_law_1293 (by decide) rfl ?_
  refine G_aload_n dL_law_1295 rfl rfl ?_
  refine G_cVp (rest := []) (As := []) dL_law_1296 lL_101 yk_X7_thrown yv_X7_thrown kX7 rfl (by decide) hq.o rfl rfl (Nat.le_of_ble_eq_true rfl) rfl (c_X7_thrown hq) ?_
  refine G_top (y := nI ((g_compare ((t, n), (c, S), D, sl) (xs (i + 1)) (xs (i + 2)) (xs (i + 3))).1)) h20 ?_
  refine G_iload dL_law_1299 rfl ?_
  refine G_icmp_eqN (tgt := 1306) dL_law_1301 (by decide) (by omega) (by omega) (fun c1301 => ?_) (fun c1301 => ?_)
  · refine G_iload dL_law_1306 rfl ?_
    refine G_if_neN (tgt := 1323) dL_law_1308 (by decide) (by omega) (fun c1308 => ?_) (fun c1308 => ?_)
    · refine G_goto (tgt := 1707) dL_law_1323 (by decide) ?_
      refine G_weak (ls2 := [some (.ref (a + 1000000)), some (.ref (0)), some (.ref (1603)), some (.ref (1611)), some (.int (nI (i))), none, none]) ⟨rfl, rfl, rfl, rfl, rfl, trivial⟩ ?_
      exact k v2 _ hK2 hR2 hI
    · refine G_aload_n dL_law_1311 rfl rfl ?_
      refine G_iconst (v := nI 0) dL_law_1312 (by decide) ?_
      refine G_lald (0) dL_law_1313 ho rfl (by omega) (by decide) ?_
      refine G_iload dL_law_1314 rfl ?_
      refine G_i2l dL_law_1316 ?_
      refine G_lcmp dL_law_1317 ?_
      refine G_if_eq (tgt := 1323) dL_law_1318 (by decide) (fun c1318 => ?_) (fun c1318 => ?_)
      · refine G_goto (tgt := 1707) dL_law_1323 (by decide) ?_
        refine G_weak (ls2 := [some (.ref (a + 1000000)), some (.ref (0)), some (.ref (1603)), some (.ref (1611)), some (.int (nI (i))), none, none]) ⟨rfl, rfl, rfl, rfl, rfl, trivial⟩ ?_
        exact k v2 _ hK2 hR2 hI
      · exact absurd (by rw [hout2 (by omega)]; exact lg_same _) c1318
  · exact absurd rfl c1301
set_option maxHeartbeats 4000000 in
set_option maxRecDepth 100000 in
theorem b_lacks {σ : vS} {v : vV} {a L i c n B : Nat} {xs : Nat → Int32} {S : mS} {t : mN} {D : List mC} {sl : Nat → Option mC} {Q : vO → vM → Prop} {b : Nat × Nat} (hT : kLT σ 0) (hK : KT v 0 ((t, n), (c, S), D, sl)) (hq : LR σ 1603) (hR0 : RT v 1603 ((t, n), (c, S), D, sl)) (hG : GI B ((t, n), (c, S), D, sl)) (hB1 : 8400100 ≤ B) (hB : B + 6000000 < 1000000000) (hf : σ.2.2.2 = false) (ho : vK σ 1611 12 1) (hi : i + 4 ≤ L) (hL : L ≤ 2048) (hb : 4 ≤ b.1 ∧ 24 ≤ b.2) (k : ∀ (v9 : vV) (T9 : gT), KT v9 0 T9 → RT v9 1603 T9 → GI (B + 70000) T9 → vG (kZl a L xs) M_L_law 1707 [some (.ref (a + 1000000)), some (.ref (0)), some (.ref (1603)), some (.ref (1611)), some (.int (nI (i))), none, none] [] (b.1 - 4, b.2 - 24) (σ, v9) Q) : vG (kZl a L xs) M_L_law 1326 [some (.ref (a + 1000000)), some (.ref (0)), some (.ref (1603)), some (.ref (1611)), some (.int (nI (i))), none, none] [] b (σ, v) Q := by
  have hZ : ∀ s args c hz, kZl a L xs s args c hz → a < hz ∧ va_X a L xs s s.heap := fun _ _ _ _ z9 => ⟨z9.1, z9.2.1⟩
  have hk9 := (k_lacks (t := t) (n := n) (c := c) (S := S) (D := D) (sl := sl) (m := xs (i + 1))).1
  have hI : GI (B + 70000) (g_lacks ((t, n), (c, S), D, sl) (xs (i + 1))).2.2 := I_lacks hG hB1
  refine G_aload_n dL_law_1326 rfl rfl ?_
  refine G_aload_n dL_law_1327 rfl rfl ?_
  refine G_iload dL_law_1328 rfl ?_
  refine G_iconst (v := nI 1) dL_law_1330 (by decide) ?_
  refine G_iaddN dL_law_1331 ?_
  refine G_sld (i + 1) hZ dL_law_1332 rfl (by omega) (by omega) ?_
  refine G_aload_n dL_law_1333 rfl rfl ?_
  refine G_callSW (np := 3) (hh := [(0, 9, 12, 28)]) (rest := []) (As := [.ref (0), .int ((xs (i + 1))), .ref (1611)]) (fun _ _ _ _ z9 => z9.2.2) dL_law_1334 lL_167 (aw_t 803 (by decide +kernel) (by decide +kernel)) (aw_t 0 (by decide +kernel) (by decide +kernel)) ⟨by decide +kernel, by decide +kernel, by decide +kernel⟩ ys_L_lacks ⟨Nat.le_of_ble_eq_true rfl, Nat.le_of_ble_eq_true rfl⟩ rfl rfl (Nat.le_of_ble_eq_true rfl) hb (c_L_lacks hT hK hG hB hf ho (by omega)) (fun o9 μ9 h9 hf9 => by obtain ⟨-, v9, rfl, -⟩ := h9; exact absurd (hf.symm.trans hf9) Bool.false_ne_true) ?_
  rintro o9 μ9 ⟨rfl, v1, rfl, hK1, hout, hfr⟩
  have hR1 : RT v1 1603 ((t, n), (c, S), D, sl) := hR0.of (fun j _ _ _ => by rw [hfr 1603 (by omega) (by omega)]) (fun m g1 g2 _ => hfr m (by omega) (by omega))
  refine G_istore (ls2 := [some (.ref (a + 1000000)), some (.ref (0)), some (.ref (1603)), some (.ref (1611)), some (.int (nI (i))), some (.int (nI ((g_lacks ((t, n), (c, S), D, sl) (xs (i + 1))).1))), none]) dL_law_1337 (by decide) rfl ?_
  refine G_aload_n dL_law_1339 rfl rfl ?_
  refine G_aload_n dL_law_1340 rfl rfl ?_
  refine G_iload dL_law_1341 rfl ?_
  refine G_iconst (v := nI 1) dL_law_1343 (by decide) ?_
  refine G_iaddN dL_law_1344 ?_
  refine G_sld (i + 1) hZ dL_law_1345 rfl (by omega) (by omega) ?_
  refine G_cVs (rest := []) (As := [.int ((xs (i + 1)))]) dL_law_1346 lL_169 yk_X7_lacks yv_X7_lacks kX7 rfl (by decide) hq.o rfl rfl (Nat.le_of_ble_eq_true rfl) rfl (c_X7_lacks hq hR1 hG hB) (fun v2 hq2 => ?_)
  obtain ⟨h20, hR2, hw2⟩ := hq2
  have hK2 := hK1.out hw2 (Or.inl (by omega))
  have hout2 : (g_lacks ((t, n), (c, S), D, sl) (xs (i + 1))).1 = 0 → v2 1611 0 = (g_lacks ((t, n), (c, S), D, sl) (xs (i + 1))).2.1 := fun z9 => by rw [hw2 1611 (by omega)]; exact hout z9
  refine G_istore (ls2 := [some (.ref (a + 1000000)), some (.ref (0)), some (.ref (1603)), some (.ref (1611)), some (.int (nI (i))), some (.int (nI ((g_lacks ((t, n), (c, S), D, sl) (xs (i + 1))).1))), some (.int (((g_lacks ((t, n), (c, S), D, sl) (xs (i + 1))).2.1)))]) dL_law_1349 (by decide) rfl ?_
  refine G_aload_n dL_law_1351 rfl rfl ?_
  refine G_cVp (rest := []) (As := []) dL_law_1352 lL_101 yk_X7_thrown yv_X7_thrown kX7 rfl (by decide) hq.o rfl rfl (Nat.le_of_ble_eq_true rfl) rfl (c_X7_thrown hq) ?_
  refine G_top (y := nI ((g_lacks ((t, n), (c, S), D, sl) (xs (i + 1))).1)) h20 ?_
  refine G_iload dL_law_1355 rfl ?_
  refine G_icmp_eqN (tgt := 1362) dL_law_1357 (by decide) (by omega) (by omega) (fun c1357 => ?_) (fun c1357 => ?_)
  · refine G_iload dL_law_1362 rfl ?_
    refine G_if_neN (tgt := 1379) dL_law_1364 (by decide) (by omega) (fun c1364 => ?_) (fun c1364 => ?_)
    · refine G_goto (tgt := 1707) dL_law_1379 (by decide) ?_
      refine G_weak (ls2 := [some (.ref (a + 1000000)), some (.ref (0)), some (.ref (1603)), some (.ref (1611)), some (.int (nI (i))), none, none]) ⟨rfl, rfl, rfl, rfl, rfl, trivial⟩ ?_
      exact k v2 _ hK2 hR2 hI
    · refine G_aload_n dL_law_1367 rfl rfl ?_
      refine G_iconst (v := nI 0) dL_law_1368 (by decide) ?_
      refine G_lald (0) dL_law_1369 ho rfl (by omega) (by decide) ?_
      refine G_iload dL_law_1370 rfl ?_
      refine G_i2l dL_law_1372 ?_
      refine G_lcmp dL_law_1373 ?_
      refine G_if_eq (tgt := 1379) dL_law_1374 (by decide) (fun c1374 => ?_) (fun c1374 => ?_)
      · refine G_goto (tgt := 1707) dL_law_1379 (by decide) ?_
        refine G_weak (ls2 := [some (.ref (a + 1000000)), some (.ref (0)), some (.ref (1603)), some (.ref (1611)), some (.int (nI (i))), none, none]) ⟨rfl, rfl, rfl, rfl, rfl, trivial⟩ ?_
        exact k v2 _ hK2 hR2 hI
      · exact absurd (by rw [hout2 (by omega)]; exact lg_same _) c1374
  · exact absurd rfl c1357
set_option maxHeartbeats 4000000 in
set_option maxRecDepth 100000 in
theorem b_save {σ : vS} {v : vV} {a L i c n B : Nat} {xs : Nat → Int32} {S : mS} {t : mN} {D : List mC} {sl : Nat → Option mC} {Q : vO → vM → Prop} {b : Nat × Nat} (hT : kLT σ 0) (hK : KT v 0 ((t, n), (c, S), D, sl)) (hq : LR σ 1603) (hR0 : RT v 1603 ((t, n), (c, S), D, sl)) (hG : GI B ((t, n), (c, S), D, sl)) (hB1 : 8400100 ≤ B) (hB : B + 6000000 < 1000000000) (hf : σ.2.2.2 = false) (ho : vK σ 1611 12 1) (hi : i + 4 ≤ L) (hL : L ≤ 2048) (hb : 4 ≤ b.1 ∧ 24 ≤ b.2) (k : ∀ (v9 : vV) (T9 : gT), KT v9 0 T9 → RT v9 1603 T9 → GI (B + 70000) T9 → vG (kZl a L xs) M_L_law 1707 [some (.ref (a + 1000000)), some (.ref (0)), some (.ref (1603)), some (.ref (1611)), some (.int (nI (i))), none, none] [] (b.1 - 4, b.2 - 24) (σ, v9) Q) : vG (kZl a L xs) M_L_law 1595 [some (.ref (a + 1000000)), some (.ref (0)), some (.ref (1603)), some (.ref (1611)), some (.int (nI (i))), none, none] [] b (σ, v) Q := by
  have hZ : ∀ s args c hz, kZl a L xs s args c hz → a < hz ∧ va_X a L xs s s.heap := fun _ _ _ _ z9 => ⟨z9.1, z9.2.1⟩
  have hk9 := (k_save (t := t) (n := n) (c := c) (S := S) (D := D) (sl := sl) (s := xs (i + 1))).1
  have hI : GI (B + 70000) (g_save ((t, n), (c, S), D, sl) (xs (i + 1))).2.2 := I_save hG hB1
  refine G_aload_n dL_law_1595 rfl rfl ?_
  refine G_aload_n dL_law_1596 rfl rfl ?_
  refine G_iload dL_law_1597 rfl ?_
  refine G_iconst (v := nI 1) dL_law_1599 (by decide) ?_
  refine G_iaddN dL_law_1600 ?_
  refine G_sld (i + 1) hZ dL_law_1601 rfl (by omega) (by omega) ?_
  refine G_aload_n dL_law_1602 rfl rfl ?_
  refine G_callSW (np := 3) (hh := [(0, 9, 12, 28)]) (rest := []) (As := [.ref (0), .int ((xs (i + 1))), .ref (1611)]) (fun _ _ _ _ z9 => z9.2.2) dL_law_1603 lL_184 (aw_t 845 (by decide +kernel) (by decide +kernel)) (aw_t 0 (by decide +kernel) (by decide +kernel)) ⟨by decide +kernel, by decide +kernel, by decide +kernel⟩ ys_L_save ⟨Nat.le_of_ble_eq_true rfl, Nat.le_of_ble_eq_true rfl⟩ rfl rfl (Nat.le_of_ble_eq_true rfl) hb (c_L_save hT hK hG hB hf ho (by omega)) (fun o9 μ9 h9 hf9 => by obtain ⟨-, v9, rfl, -⟩ := h9; exact absurd (hf.symm.trans hf9) Bool.false_ne_true) ?_
  rintro o9 μ9 ⟨rfl, v1, rfl, hK1, hout, hfr⟩
  have hR1 : RT v1 1603 ((t, n), (c, S), D, sl) := hR0.of (fun j _ _ _ => by rw [hfr 1603 (by omega) (by omega)]) (fun m g1 g2 _ => hfr m (by omega) (by omega))
  refine G_istore (ls2 := [some (.ref (a + 1000000)), some (.ref (0)), some (.ref (1603)), some (.ref (1611)), some (.int (nI (i))), some (.int (nI ((g_save ((t, n), (c, S), D, sl) (xs (i + 1))).1))), none]) dL_law_1606 (by decide) rfl ?_
  refine G_aload_n dL_law_1608 rfl rfl ?_
  refine G_aload_n dL_law_1609 rfl rfl ?_
  refine G_iload dL_law_1610 rfl ?_
  refine G_iconst (v := nI 1) dL_law_1612 (by decide) ?_
  refine G_iaddN dL_law_1613 ?_
  refine G_sld (i + 1) hZ dL_law_1614 rfl (by omega) (by omega) ?_
  refine G_cVs (rest := []) (As := [.int ((xs (i + 1)))]) dL_law_1615 lL_186 yk_X7_save yv_X7_save kX7 rfl (by decide) hq.o rfl rfl (Nat.le_of_ble_eq_true rfl) rfl (c_X7_save hq hR1 hG hB) (fun v2 hq2 => ?_)
  obtain ⟨h20, hR2, hw2⟩ := hq2
  have hK2 := hK1.out hw2 (Or.inl (by omega))
  have hout2 : (g_save ((t, n), (c, S), D, sl) (xs (i + 1))).1 = 0 → v2 1611 0 = (g_save ((t, n), (c, S), D, sl) (xs (i + 1))).2.1 := fun z9 => by rw [hw2 1611 (by omega)]; exact hout z9
  refine G_istore (ls2 := [some (.ref (a + 1000000)), some (.ref (0)), some (.ref (1603)), some (.ref (1611)), some (.int (nI (i))), some (.int (nI ((g_save ((t, n), (c, S), D, sl) (xs (i + 1))).1))), some (.int (((g_save ((t, n), (c, S), D, sl) (xs (i + 1))).2.1)))]) dL_law_1618 (by decide) rfl ?_
  refine G_aload_n dL_law_1620 rfl rfl ?_
  refine G_cVp (rest := []) (As := []) dL_law_1621 lL_101 yk_X7_thrown yv_X7_thrown kX7 rfl (by decide) hq.o rfl rfl (Nat.le_of_ble_eq_true rfl) rfl (c_X7_thrown hq) ?_
  refine G_top (y := nI ((g_save ((t, n), (c, S), D, sl) (xs (i + 1))).1)) h20 ?_
  refine G_iload dL_law_1624 rfl ?_
  refine G_icmp_eqN (tgt := 1631) dL_law_1626 (by decide) (by omega) (by omega) (fun c1626 => ?_) (fun c1626 => ?_)
  · refine G_iload dL_law_1631 rfl ?_
    refine G_if_neN (tgt := 1648) dL_law_1633 (by decide) (by omega) (fun c1633 => ?_) (fun c1633 => ?_)
    · refine G_goto (tgt := 1707) dL_law_1648 (by decide) ?_
      refine G_weak (ls2 := [some (.ref (a + 1000000)), some (.ref (0)), some (.ref (1603)), some (.ref (1611)), some (.int (nI (i))), none, none]) ⟨rfl, rfl, rfl, rfl, rfl, trivial⟩ ?_
      exact k v2 _ hK2 hR2 hI
    · refine G_aload_n dL_law_1636 rfl rfl ?_
      refine G_iconst (v := nI 0) dL_law_1637 (by decide) ?_
      refine G_lald (0) dL_law_1638 ho rfl (by omega) (by decide) ?_
      refine G_iload dL_law_1639 rfl ?_
      refine G_i2l dL_law_1641 ?_
      refine G_lcmp dL_law_1642 ?_
      refine G_if_eq (tgt := 1648) dL_law_1643 (by decide) (fun c1643 => ?_) (fun c1643 => ?_)
      · refine G_goto (tgt := 1707) dL_law_1648 (by decide) ?_
        refine G_weak (ls2 := [some (.ref (a + 1000000)), some (.ref (0)), some (.ref (1603)), some (.ref (1611)), some (.int (nI (i))), none, none]) ⟨rfl, rfl, rfl, rfl, rfl, trivial⟩ ?_
        exact k v2 _ hK2 hR2 hI
      · exact absurd (by rw [hout2 (by omega)]; exact lg_same _) c1643
  · exact absurd rfl c1626
set_option maxHeartbeats 4000000 in
set_option maxRecDepth 100000 in
theorem b_restore {σ : vS} {v : vV} {a L i c n B : Nat} {xs : Nat → Int32} {S : mS} {t : mN} {D : List mC} {sl : Nat → Option mC} {Q : vO → vM → Prop} {b : Nat × Nat} (hT : kLT σ 0) (hK : KT v 0 ((t, n), (c, S), D, sl)) (hq : LR σ 1603) (hR0 : RT v 1603 ((t, n), (c, S), D, sl)) (hG : GI B ((t, n), (c, S), D, sl)) (hB1 : 8400100 ≤ B) (hB : B + 6000000 < 1000000000) (hf : σ.2.2.2 = false) (ho : vK σ 1611 12 1) (hi : i + 4 ≤ L) (hL : L ≤ 2048) (hb : 4 ≤ b.1 ∧ 24 ≤ b.2) (k : ∀ (v9 : vV) (T9 : gT), KT v9 0 T9 → RT v9 1603 T9 → GI (B + 70000) T9 → vG (kZl a L xs) M_L_law 1707 [some (.ref (a + 1000000)), some (.ref (0)), some (.ref (1603)), some (.ref (1611)), some (.int (nI (i))), none, none] [] (b.1 - 4, b.2 - 24) (σ, v9) Q) : vG (kZl a L xs) M_L_law 1651 [some (.ref (a + 1000000)), some (.ref (0)), some (.ref (1603)), some (.ref (1611)), some (.int (nI (i))), none, none] [] b (σ, v) Q := by
  have hZ : ∀ s args c hz, kZl a L xs s args c hz → a < hz ∧ va_X a L xs s s.heap := fun _ _ _ _ z9 => ⟨z9.1, z9.2.1⟩
  have hk9 := (k_restore (t := t) (n := n) (c := c) (S := S) (D := D) (sl := sl) (s := xs (i + 1))).1
  have hI : GI (B + 70000) (g_restore ((t, n), (c, S), D, sl) (xs (i + 1))).2.2 := I_restore hG hB1
  refine G_aload_n dL_law_1651 rfl rfl ?_
  refine G_aload_n dL_law_1652 rfl rfl ?_
  refine G_iload dL_law_1653 rfl ?_
  refine G_iconst (v := nI 1) dL_law_1655 (by decide) ?_
  refine G_iaddN dL_law_1656 ?_
  refine G_sld (i + 1) hZ dL_law_1657 rfl (by omega) (by omega) ?_
  refine G_aload_n dL_law_1658 rfl rfl ?_
  refine G_callSW (np := 3) (hh := [(0, 9, 12, 28), (0, 9, 15, 15)]) (rest := []) (As := [.ref (0), .int ((xs (i + 1))), .ref (1611)]) (fun _ _ _ _ z9 => z9.2.2) dL_law_1659 lL_187 (aw_t 856 (by decide +kernel) (by decide +kernel)) (aw_t 0 (by decide +kernel) (by decide +kernel)) ⟨by decide +kernel, by decide +kernel, by decide +kernel⟩ ys_L_restore ⟨Nat.le_of_ble_eq_true rfl, Nat.le_of_ble_eq_true rfl⟩ rfl rfl (Nat.le_of_ble_eq_true rfl) hb (c_L_restore hT hK hG hB hf ho (by omega)) (fun o9 μ9 h9 hf9 => by obtain ⟨-, v9, rfl, -⟩ := h9; exact absurd (hf.symm.trans hf9) Bool.false_ne_true) ?_
  rintro o9 μ9 ⟨rfl, v1, rfl, hK1, hout, hfr⟩
  have hR1 : RT v1 1603 ((t, n), (c, S), D, sl) := hR0.of (fun j _ _ _ => by rw [hfr 1603 (by omega) (by omega)]) (fun m g1 g2 _ => hfr m (by omega) (by omega))
  refine G_istore (ls2 := [some (.ref (a + 1000000)), some (.ref (0)), some (.ref (1603)), some (.ref (1611)), some (.int (nI (i))), some (.int (nI ((g_restore ((t, n), (c, S), D, sl) (xs (i + 1))).1))), none]) dL_law_1662 (by decide) rfl ?_
  refine G_aload_n dL_law_1664 rfl rfl ?_
  refine G_aload_n dL_law_1665 rfl rfl ?_
  refine G_iload dL_law_1666 rfl ?_
  refine G_iconst (v := nI 1) dL_law_1668 (by decide) ?_
  refine G_iaddN dL_law_1669 ?_
  refine G_sld (i + 1) hZ dL_law_1670 rfl (by omega) (by omega) ?_
  refine G_cVs (rest := []) (As := [.int ((xs (i + 1)))]) dL_law_1671 lL_189 yk_X7_restore yv_X7_restore kX7 rfl (by decide) hq.o rfl rfl (Nat.le_of_ble_eq_true rfl) rfl (c_X7_restore hq hR1 hG hB) (fun v2 hq2 => ?_)
  obtain ⟨h20, hR2, hw2⟩ := hq2
  have hK2 := hK1.out hw2 (Or.inl (by omega))
  have hout2 : (g_restore ((t, n), (c, S), D, sl) (xs (i + 1))).1 = 0 → v2 1611 0 = (g_restore ((t, n), (c, S), D, sl) (xs (i + 1))).2.1 := fun z9 => by rw [hw2 1611 (by omega)]; exact hout z9
  refine G_istore (ls2 := [some (.ref (a + 1000000)), some (.ref (0)), some (.ref (1603)), some (.ref (1611)), some (.int (nI (i))), some (.int (nI ((g_restore ((t, n), (c, S), D, sl) (xs (i + 1))).1))), some (.int (((g_restore ((t, n), (c, S), D, sl) (xs (i + 1))).2.1)))]) dL_law_1674 (by decide) rfl ?_
  refine G_aload_n dL_law_1676 rfl rfl ?_
  refine G_cVp (rest := []) (As := []) dL_law_1677 lL_101 yk_X7_thrown yv_X7_thrown kX7 rfl (by decide) hq.o rfl rfl (Nat.le_of_ble_eq_true rfl) rfl (c_X7_thrown hq) ?_
  refine G_top (y := nI ((g_restore ((t, n), (c, S), D, sl) (xs (i + 1))).1)) h20 ?_
  refine G_iload dL_law_1680 rfl ?_
  refine G_icmp_eqN (tgt := 1687) dL_law_1682 (by decide) (by omega) (by omega) (fun c1682 => ?_) (fun c1682 => ?_)
  · refine G_iload dL_law_1687 rfl ?_
    refine G_if_neN (tgt := 1704) dL_law_1689 (by decide) (by omega) (fun c1689 => ?_) (fun c1689 => ?_)
    · refine G_goto (tgt := 1707) dL_law_1704 (by decide) ?_
      refine G_weak (ls2 := [some (.ref (a + 1000000)), some (.ref (0)), some (.ref (1603)), some (.ref (1611)), some (.int (nI (i))), none, none]) ⟨rfl, rfl, rfl, rfl, rfl, trivial⟩ ?_
      exact k v2 _ hK2 hR2 hI
    · refine G_aload_n dL_law_1692 rfl rfl ?_
      refine G_iconst (v := nI 0) dL_law_1693 (by decide) ?_
      refine G_lald (0) dL_law_1694 ho rfl (by omega) (by decide) ?_
      refine G_iload dL_law_1695 rfl ?_
      refine G_i2l dL_law_1697 ?_
      refine G_lcmp dL_law_1698 ?_
      refine G_if_eq (tgt := 1704) dL_law_1699 (by decide) (fun c1699 => ?_) (fun c1699 => ?_)
      · refine G_goto (tgt := 1707) dL_law_1704 (by decide) ?_
        refine G_weak (ls2 := [some (.ref (a + 1000000)), some (.ref (0)), some (.ref (1603)), some (.ref (1611)), some (.int (nI (i))), none, none]) ⟨rfl, rfl, rfl, rfl, rfl, trivial⟩ ?_
        exact k v2 _ hK2 hR2 hI
      · exact absurd (by rw [hout2 (by omega)]; exact lg_same _) c1699
  · exact absurd rfl c1682
