
/-! THE SCRIPT'S NUMBERS; the law -/
abbrev M_L_law : vR := (RL, cL_law, 9, some .boolean, { frames := 15, cells := 670987, slots := 7088507, locals := 614 }, "law")
def kZl (a L : Nat) (xs : Nat → Int32) : kZ9 := fun s _ _ hz => a < hz ∧ va_X a L xs s s.heap ∧ vNcs s
theorem zGoX {a L : Nat} {xs : Nat → Int32} : zGo (kZl a L xs) (zX a L xs) := fun _ _ _ _ _ z hv hh => ⟨z.1, va_X.moved hv (va_X.kept z.2.1 (hh a z.1))⟩
theorem zGoN {a L : Nat} {xs : Nat → Int32} : zGo (kZl a L xs) zN := fun _ _ _ _ _ z hv _ w hw => va_Nc.moved hv (z.2.2 w hw)
theorem and_pos (x : Int32) : ∃ j, j < 2147483648 ∧ x &&& 2147483647 = nI j := by
  have h : (x &&& 2147483647).toBitVec.toNat < 2147483648 := by
    rw [Int32.toBitVec_and, BitVec.toNat_and]
    exact Nat.lt_of_le_of_lt Nat.and_le_right (by decide)
  refine ⟨(x &&& 2147483647).toBitVec.toNat, h, ?_⟩
  apply nI_ext
  rw [nI_bv, BitVec.toNat_ofNat, Nat.mod_eq_of_lt (by omega)]
set_option maxRecDepth 100000 in
theorem c_L_cell {μ : vM} {a L k : Nat} {xs : Nat → Int32} (hk : k < 2147483648) (hL : L < 2147483648) : vCZ (zX a L xs) M_L_cell yL_cell [.ref (a + 1000000), .int (nI k)] μ (fun r μ' => (∃ n, n < 2147483648 ∧ r = some (.int (nI n))) ∧ μ' = μ) := by
  refine vCZ_of (ls := [some (.ref (a + 1000000)), some (.int (nI k))]) pn_L rfl rfl (Nat.le_of_ble_eq_true rfl) rfl ?_
  refine G_iload_n dL_cell_0 rfl rfl ?_
  refine G_aload_n dL_cell_1 rfl rfl ?_
  refine G_slen (fun _ _ _ _ z => z) dL_cell_2 ?_
  refine G_icmp_geN (tgt := 12) dL_cell_3 (by decide) (by omega) (by omega) (fun c3 => ?_) (fun c3 => ?_)
  · refine G_ldc dL_cell_12 cL_160 ?_
    refine G_iload_n dL_cell_14 rfl rfl ?_
    refine G_iconst (v := nI 3) dL_cell_15 (by decide) ?_
    refine G_iadd dL_cell_16 ?_
    refine G_imul dL_cell_17 ?_
    refine G_sipush (v := nI 11719) dL_cell_18 (by decide) ?_
    refine G_iadd dL_cell_21 ?_
    refine G_ldc dL_cell_22 cL_161 ?_
    refine G_iand dL_cell_24 ?_
    obtain ⟨j, hj, ej⟩ := and_pos (15519709 * (nI k + nI 3) + nI 11719)
    rw [ej]
    refine G_iret dL_cell_25 rfl ?_
    exact ⟨⟨j, hj, rfl⟩, rfl⟩
  · refine G_aload_n dL_cell_6 rfl rfl ?_
    refine G_iload_n dL_cell_7 rfl rfl ?_
    refine G_sld (k) (fun _ _ _ _ z => z) dL_cell_8 rfl (by omega) (by omega) ?_
    refine G_goto (tgt := 22) dL_cell_9 (by decide) ?_
    refine G_ldc dL_cell_22 cL_161 ?_
    refine G_iand dL_cell_24 ?_
    obtain ⟨j, hj, ej⟩ := and_pos (xs k)
    rw [ej]
    refine G_iret dL_cell_25 rfl ?_
    exact ⟨⟨j, hj, rfl⟩, rfl⟩
theorem G_cell {a L k pc : Nat} {xs : Nat → Int32} {ls : List (Option Value)} {rest : List Value} {b : Nat × Nat} {μ : vM} {Q : vO → vM → Prop} (hd : decode cL_law pc = .ok (.invokestatic 192, 3)) (hk : k < 2147483648) (hL : L < 2147483648) (hcat : (rest.map fun v => v.category).sum ≤ 8) (K : ∀ n, n < 2147483648 → vG (kZl a L xs) M_L_law (pc + 3) ls (.int (nI n) :: rest) b μ Q) : vG (kZl a L xs) M_L_law pc ls (.int (nI k) :: .ref (a + 1000000) :: rest) b μ Q := by
  refine G_callZ (As := [.ref (a + 1000000), .int (nI k)]) zGoX zX_bl hd lL_192 yk_L_cell ys_L_cell ⟨Nat.le_of_ble_eq_true rfl, Nat.le_of_ble_eq_true rfl⟩ rfl rfl hcat ⟨Nat.zero_le _, Nat.zero_le _⟩ (c_L_cell hk hL) ?_ ?_
  · rintro o μ' ⟨-, rfl⟩ g
    exact ⟨g, rfl⟩
  · rintro o μ' ⟨⟨n, hn, rfl⟩, rfl⟩
    exact K n hn
theorem t_member {t : mN} {n c p : Nat} {S : mS} {D : List mC} {sl : Nat → Option mC} (hc : c < 6) (hp : p ≤ 9) : gP [eIA, eIS] (g_member ((t, n), (c, S), D, sl) (nI p)) = (nI c, ((t, n), (c + 1, madd S p), dr1 D ++ [(c, S)], sl)) := by
  dsimp only [g_member]
  rw [nn (by omega), if_neg (gt_f (gin_t (Nat.zero_le _) hp (by decide))), if_neg (fun z => z hc)]
  rfl
theorem LI.sR1 {B x : Nat} {t : mN} {n c : Nat} {S : mS} {D : List mC} {sl : Nat → Option mC} (h : LI B ((t, n), (c, S), D, sl)) : LI B (sR ((t, n), (c, S), D, sl) x) ∧ (sR ((t, n), (c, S), D, sl) x).2.1.1 = c := by
  dsimp only [sR]
  split
  · unfold dr1
    split
    · exact ⟨h.dp 1, rfl⟩
    · exact ⟨h, rfl⟩
  · exact ⟨h, rfl⟩
set_option maxHeartbeats 8000000 in
set_option maxRecDepth 100000 in
theorem law_loop {σ : vS} {v : vV} {a L : Nat} {xs : Nat → Int32} (hTo : kLT σ 0) (hTq : kLT σ 1603) (hf : σ.2.2.2 = false) (hL9 : L ≤ 260) (hW : LW v gT0 gT0) : vG (kZl a L xs) M_L_law 16 [some (.ref (a + 1000000)), some (.ref (0)), some (.ref (1603)), none, none, none, none, none, none] [] (4 * (112720 - 0), 24 * (112720 - 0)) (σ, v) (vN (fun o _ => o = some (.int (nI 1)))) := by
  refine G_bipush (v := nI 14) dL_law_16 (by decide) ?_
  refine G_aload_n dL_law_18 rfl rfl ?_
  refine G_iconst (v := nI 0) dL_law_19 (by decide) ?_
  refine G_cell (rest := [.int (nI (14))]) dL_law_20 (by omega) (by omega) (Nat.le_of_ble_eq_true rfl) (fun x8 hx8 => ?_)
  refine G_bipush (v := nI 23) dL_law_23 (by decide) ?_
  refine G_iremN dL_law_25 (by omega) (by decide) (by decide) ?_
  refine G_iaddN dL_law_26 ?_
  refine G_istore_n (ls2 := [some (.ref (a + 1000000)), some (.ref (0)), some (.ref (1603)), some (.int (nI (14 + (x8 % 23)))), none, none, none, none, none]) dL_law_27 rfl (by decide) rfl ?_
  refine G_aload_n dL_law_28 rfl rfl ?_
  refine G_iconst (v := nI 1) dL_law_29 (by decide) ?_
  refine G_cell (rest := []) dL_law_30 (by omega) (by omega) (Nat.le_of_ble_eq_true rfl) (fun x0 hx0 => ?_)
  refine G_istore (ls2 := [some (.ref (a + 1000000)), some (.ref (0)), some (.ref (1603)), some (.int (nI (14 + (x8 % 23)))), some (.int (nI (x0))), none, none, none, none]) dL_law_33 (by decide) rfl ?_
  refine G_iconst (v := nI 1) dL_law_35 (by decide) ?_
  refine G_istore (ls2 := [some (.ref (a + 1000000)), some (.ref (0)), some (.ref (1603)), some (.int (nI (14 + (x8 % 23)))), some (.int (nI (x0))), some (.int (nI (1))), none, none, none]) dL_law_36 (by decide) rfl ?_
  refine G_iconst (v := nI 0) dL_law_38 (by decide) ?_
  refine G_istore (ls2 := [some (.ref (a + 1000000)), some (.ref (0)), some (.ref (1603)), some (.int (nI (14 + (x8 % 23)))), some (.int (nI (x0))), some (.int (nI (1))), some (.int (nI (0))), none, none]) dL_law_39 (by decide) rfl ?_
  have hL41 : ∀ (n41 : Nat) (k B : Nat) (T : gT) (w41 : vV), (LW w41 T T) → (LI B T) → (T.2.1.1 = k) → (gG T.2.1.2 1 = 0) → (100 ≤ B ∧ B ≤ 100 + 70000 * k) → (k ≤ 2 + x0 % 4) → (k + n41 = 3 + x0 % 4) → vG (kZl a L xs) M_L_law 41 [some (.ref (a + 1000000)), some (.ref (0)), some (.ref (1603)), some (.int (nI (14 + (x8 % 23)))), some (.int (nI (x0))), some (.int (nI (1))), some (.int (nI (k))), none, none] [] (4 * (2 * n41 + 112700 - 0), 24 * (2 * n41 + 112700 - 0)) (σ, w41) (vN (fun o _ => o = some (.int (nI 1)))) := by
    intro n41
    induction n41 with
    | zero =>
      intro k B T w41 W41 hL hck h0 hB1 h1 h2
      exact absurd h2 (by omega)
    | succ n41 ih41 =>
      intro k B T w41 W41 hL hck h0 hB1 h1 h2
      obtain ⟨⟨t, n⟩, ⟨c, S⟩, D, sl⟩ := T
      replace hck : c = k := hck
      replace h0 : gG S 1 = 0 := h0
      have hx4 : x0 % 4 < 4 := Nat.mod_lt _ (by decide)
      refine G_iload dL_law_41 rfl ?_
      refine G_iconst (v := nI 2) dL_law_43 (by decide) ?_
      refine G_iload dL_law_44 rfl ?_
      refine G_iconst (v := nI 4) dL_law_46 (by decide) ?_
      refine G_iremN dL_law_47 (by omega) (by decide) (by decide) ?_
      refine G_iaddN dL_law_48 ?_
      refine G_icmp_geN (tgt := 122) dL_law_49 (by decide) (by omega) (by omega) (fun c49 => ?_) (fun c49 => ?_)
      · refine G_iconst (v := nI 0) dL_law_122 (by decide) ?_
        refine G_istore (ls2 := [some (.ref (a + 1000000)), some (.ref (0)), some (.ref (1603)), some (.int (nI (14 + (x8 % 23)))), some (.int (nI (x0))), some (.int (nI (1))), some (.int (nI (0))), none, none]) dL_law_123 (by decide) rfl ?_
        have hL125 : ∀ (n125 : Nat) (q A : Nat) (T : gT) (w125 : vV), (LW w125 T T) → (LI A T) → (2 ≤ T.2.1.1) → (100 ≤ A) → (A + 70000 * n125 ≤ 100000000) → (q ≤ 14 + (x8 % 23)) → (q + n125 = 14 + (x8 % 23)) → vG (kZl a L xs) M_L_law 125 [some (.ref (a + 1000000)), some (.ref (0)), some (.ref (1603)), some (.int (nI (14 + (x8 % 23)))), none, some (.int (nI (1))), some (.int (nI (q))), none, none] [] (4 * (3130 * n125 - 0), 24 * (3130 * n125 - 0)) (σ, w125) (vN (fun o _ => o = some (.int (nI 1)))) := by
          intro n125
          induction n125 with
          | zero =>
            intro q A T w125 W125 hLx hc29 hA1 hA2 h1 h2
            refine G_iload dL_law_125 rfl ?_
            refine G_iload_n dL_law_127 rfl rfl ?_
            refine G_icmp_geN (tgt := 275) dL_law_128 (by decide) (by omega) (by omega) (fun c128 => ?_) (fun c128 => ((by omega : False)).elim)
            refine G_iload dL_law_275 rfl ?_
            refine G_zret dL_law_277 rfl (by decide) ?_
            exact rfl
          | succ n125 ih125 =>
            intro q A T w125 W125 hLx hc29 hA1 hA2 h1 h2
            obtain ⟨⟨t, n⟩, ⟨c, S⟩, D, sl⟩ := T
            replace hc29 : 2 ≤ c := hc29
            have hA4 : A + 70000 + 70000 * n125 ≤ 100000000 := by rw [Nat.mul_succ] at hA2; omega
            clear hA2
            have hA3 : A + 70000 ≤ 200000000 := by omega
            refine G_iload dL_law_125 rfl ?_
            refine G_iload_n dL_law_127 rfl rfl ?_
            refine G_icmp_geN (tgt := 275) dL_law_128 (by decide) (by omega) (by omega) (fun c128 => ?_) (fun c128 => ?_)
            · refine G_iload dL_law_275 rfl ?_
              refine G_zret dL_law_277 rfl (by decide) ?_
              exact rfl
            · refine G_iload dL_law_131 rfl ?_
              refine G_if_eqN (tgt := 275) dL_law_133 (by decide) (by decide) (fun q9 => absurd q9 (by decide)) (fun _ => ?_)
              refine G_aload_n dL_law_136 rfl rfl ?_
              refine G_iconst (v := nI 2) dL_law_137 (by decide) ?_
              refine G_iload dL_law_138 rfl ?_
              refine G_iaddN dL_law_140 ?_
              refine G_cell (rest := []) dL_law_141 (by omega) (by omega) (Nat.le_of_ble_eq_true rfl) (fun y7 hy7 => ?_)
              refine G_istore (ls2 := [some (.ref (a + 1000000)), some (.ref (0)), some (.ref (1603)), some (.int (nI (14 + (x8 % 23)))), none, some (.int (nI (1))), some (.int (nI (q))), some (.int (nI (y7))), none]) dL_law_144 (by decide) rfl ?_
              refine G_aload_n dL_law_146 rfl rfl ?_
              refine G_iload dL_law_147 rfl ?_
              refine G_lz (K := 6) (E := 3130 * (n125 + 1)) (u := 0) (u2 := 6) (rest := []) (As := [.ref (0), .int (nI (y7))]) zGoN dL_law_149 lL_196 yk_L_act ys_L_act ⟨Nat.le_of_ble_eq_true rfl, Nat.le_of_ble_eq_true rfl⟩ rfl rfl (Nat.le_of_ble_eq_true rfl) rfl hf ⟨by omega, rfl⟩ (vOw.rf (v := w125)) (c_L_act (by omega) hc29 hTo W125.1 hLx.1 (by omega) (by omega) hf) (fun v1 rv2 => ?_)
              have W3 : LW v1 ((gact y7 ((t, n), (c, S), D, sl)).2) ((t, n), (c, S), D, sl) := W125.o rv2
              refine G_istore (ls2 := [some (.ref (a + 1000000)), some (.ref (0)), some (.ref (1603)), some (.int (nI (14 + (x8 % 23)))), none, some (.int (nI (1))), some (.int (nI (q))), some (.int (nI (y7))), some (.int (((gact y7 ((t, n), (c, S), D, sl)).1)))]) dL_law_152 (by decide) rfl ?_
              refine G_aload_n dL_law_154 rfl rfl ?_
              refine G_iload dL_law_155 rfl ?_
              refine G_ldc dL_law_157 cL_199 ?_
              refine G_top (y := nI 100000) (by decide) ?_
              refine G_iremN dL_law_159 (by omega) (by decide) (by decide) ?_
              refine G_lz (K := 70) (E := 3130 * (n125 + 1)) (u := 6) (u2 := 76) (rest := []) (As := [.ref (1603), .int (nI (y7 % 100000))]) zGoN dL_law_160 lL_200 yk_L_refuses ys_L_refuses ⟨Nat.le_of_ble_eq_true rfl, Nat.le_of_ble_eq_true rfl⟩ rfl rfl (Nat.le_of_ble_eq_true rfl) rfl hf ⟨by omega, rfl⟩ (vOw.rf (v := v1)) (c_L_refuses (by omega) hc29 hTq W3.2 hLx.1 (by omega) (by omega) hf) (fun v4 rv5 => ?_)
              have W6 : LW v4 ((gact y7 ((t, n), (c, S), D, sl)).2) ((t, n), (c, S), D, sl) := W3.q rv5
              refine G_top (y := nI (1)) rfl ?_
              refine G_if_eqN (tgt := 266) dL_law_163 (by decide) (by decide) (fun q9 => absurd q9 (by decide)) (fun _ => ?_)
              refine G_aload_n dL_law_166 rfl rfl ?_
              refine G_iload dL_law_167 rfl ?_
              refine G_lz (K := 6) (E := 3130 * (n125 + 1)) (u := 76) (u2 := 82) (rest := []) (As := [.ref (1603), .int (nI (y7))]) zGoN dL_law_169 lL_196 yk_L_act ys_L_act ⟨Nat.le_of_ble_eq_true rfl, Nat.le_of_ble_eq_true rfl⟩ rfl rfl (Nat.le_of_ble_eq_true rfl) rfl hf ⟨by omega, rfl⟩ (vOw.rf (v := v4)) (c_L_act (by omega) hc29 hTq W6.2 hLx.1 (by omega) (by omega) hf) (fun v7 rv8 => ?_)
              have W9 : LW v7 ((gact y7 ((t, n), (c, S), D, sl)).2) ((gact y7 ((t, n), (c, S), D, sl)).2) := W6.q rv8
              refine G_iload dL_law_172 rfl ?_
              refine G_icmp_ne (tgt := 266) dL_law_174 (by decide) (fun c174 => (c174 rfl).elim) (fun c174 => ?_)
              clear c174
              obtain ⟨hL2, hc22⟩ := LI_gact (x := y7) hLx hc29 hA1
              generalize (gact y7 ((t, n), (c, S), D, sl)).2 = T2 at hL2 hc22 W9
              obtain ⟨⟨t2, n2⟩, ⟨c2, S2⟩, D2, sl2⟩ := T2
              replace hc22 : 2 ≤ c2 := hc22
              refine G_aload_n dL_law_177 rfl rfl ?_
              refine G_iload dL_law_178 rfl ?_
              refine G_sipush (v := nI 1000) dL_law_180 (by decide) ?_
              refine G_iremN dL_law_183 (by omega) (by decide) (by decide) ?_
              refine G_lz (K := 70) (E := 3130 * (n125 + 1)) (u := 82) (u2 := 152) (rest := []) (As := [.ref (1603), .int (nI (y7 % 1000))]) zGoN dL_law_184 lL_200 yk_L_refuses ys_L_refuses ⟨Nat.le_of_ble_eq_true rfl, Nat.le_of_ble_eq_true rfl⟩ rfl rfl (Nat.le_of_ble_eq_true rfl) rfl hf ⟨by omega, rfl⟩ (vOw.rf (v := v7)) (c_L_refuses (by omega) hc22 hTq W9.2 hL2.1 (by omega) hA3 hf) (fun v10 rv11 => ?_)
              have W12 : LW v10 ((t2, n2), (c2, S2), D2, sl2) ((t2, n2), (c2, S2), D2, sl2) := W9.q rv11
              refine G_top (y := nI (1)) rfl ?_
              refine G_if_eqN (tgt := 266) dL_law_187 (by decide) (by decide) (fun q9 => absurd q9 (by decide)) (fun _ => ?_)
              refine G_aload_n dL_law_190 rfl rfl ?_
              refine G_aload_n dL_law_191 rfl rfl ?_
              refine G_iload dL_law_192 rfl ?_
              refine G_sipush (v := nI 5000) dL_law_194 (by decide) ?_
              refine G_iremN dL_law_197 (by omega) (by decide) (by decide) ?_
              refine G_l2 (K := 130) (E := 3130 * (n125 + 1)) (u := 152) (u2 := 282) (rest := []) (As := [.ref (0), .ref (1603), .int (nI (y7 % 5000))]) zGoN dL_law_198 lL_204 yk_L_alike ys_L_alike ⟨Nat.le_of_ble_eq_true rfl, Nat.le_of_ble_eq_true rfl⟩ rfl rfl (Nat.le_of_ble_eq_true rfl) rfl hf ⟨by omega, rfl⟩ (c_L_alike hTo hTq W12 hL2.1 (by omega) hf (by omega)) (fun v13 W14 => ?_)
              refine G_if_eqN (tgt := 266) dL_law_201 (by decide) (by decide) (fun q9 => absurd q9 (by decide)) (fun _ => ?_)
              refine G_iload dL_law_204 rfl ?_
              refine G_iconst (v := nI 2) dL_law_206 (by decide) ?_
              refine G_iremN dL_law_207 (by omega) (by decide) (by decide) ?_
              refine G_if_neN (tgt := 225) dL_law_208 (by decide) (by omega) (fun c208 => ?_) (fun c208 => ?_)
              · refine G_aload_n dL_law_225 rfl rfl ?_
                refine G_iload dL_law_226 rfl ?_
                refine G_iconst (v := nI 3) dL_law_228 (by decide) ?_
                refine G_idivN dL_law_229 (by omega) (by decide) (by decide) ?_
                refine G_lz (K := 2700) (E := 3130 * (n125 + 1)) (u := 282) (u2 := 2982) (rest := []) (As := [.ref (1603), .int (nI (y7 / 3))]) zGoN dL_law_230 lL_208 yk_L_holds ys_L_holds ⟨Nat.le_of_ble_eq_true rfl, Nat.le_of_ble_eq_true rfl⟩ rfl rfl (Nat.le_of_ble_eq_true rfl) rfl hf ⟨by omega, rfl⟩ (vOw.rf (v := v13)) (c_L_holds (by omega) hc22 hL2.2.1 hTq W14.2 hL2.1 (by omega) hA3 hf) (fun v15 rv16 => ?_)
                have W17 : LW v15 ((t2, n2), (c2, S2), D2, sl2) ((t2, n2), (c2, S2), D2, sl2) := W14.q rv16
                refine G_top (y := nI (1)) rfl ?_
                refine G_if_eqN (tgt := 266) dL_law_233 (by decide) (by decide) (fun q9 => absurd q9 (by decide)) (fun _ => ?_)
                refine G_aload_n dL_law_236 rfl rfl ?_
                refine G_aload_n dL_law_237 rfl rfl ?_
                refine G_iload dL_law_238 rfl ?_
                refine G_bipush (v := nI 7) dL_law_240 (by decide) ?_
                refine G_idivN dL_law_242 (by omega) (by decide) (by decide) ?_
                refine G_l3 (K := 120) (E := 3130 * (n125 + 1)) (u := 2982) (u2 := 3102) (rest := []) (As := [.ref (0), .ref (1603), .int (nI (y7 / 7))]) zGoN dL_law_243 lL_211 yk_L_stands ys_L_stands ⟨Nat.le_of_ble_eq_true rfl, Nat.le_of_ble_eq_true rfl⟩ rfl rfl (Nat.le_of_ble_eq_true rfl) rfl hf ⟨by omega, rfl⟩ (c_L_stands hTo hTq W17 hL2.1 (by omega) hf (by omega) hc22 hL2.2.1 hA3) (fun v18 T9 W19 h9T => ?_)
                obtain ⟨i9, rfl⟩ := h9T
                refine G_if_eqN (tgt := 266) dL_law_246 (by decide) (by decide) (fun q9 => absurd q9 (by decide)) (fun _ => ?_)
                refine G_aload_n dL_law_249 rfl rfl ?_
                refine G_aload_n dL_law_250 rfl rfl ?_
                refine G_iload dL_law_251 rfl ?_
                refine G_bipush (v := nI 11) dL_law_253 (by decide) ?_
                refine G_idivN dL_law_255 (by omega) (by decide) (by decide) ?_
                refine G_l2 (K := 20) (E := 3130 * (n125 + 1)) (u := 3102) (u2 := 3122) (rest := []) (As := [.ref (0), .ref (1603), .int (nI (y7 / 11))]) zGoN dL_law_256 lL_214 yk_L_says ys_L_says ⟨Nat.le_of_ble_eq_true rfl, Nat.le_of_ble_eq_true rfl⟩ rfl rfl (Nat.le_of_ble_eq_true rfl) rfl hf ⟨by omega, rfl⟩ (c_L_says hTo hTq W19 (hL2.dp i9).1 (by omega) hf (by omega) hc22 hL2.2.1 hA3) (fun v20 W21 => ?_)
                refine G_if_eqN (tgt := 266) dL_law_259 (by decide) (by decide) (fun q9 => absurd q9 (by decide)) (fun _ => ?_)
                refine G_iconst (v := nI 1) dL_law_262 (by decide) ?_
                refine G_goto (tgt := 267) dL_law_263 (by decide) ?_
                refine G_istore (ls2 := [some (.ref (a + 1000000)), some (.ref (0)), some (.ref (1603)), some (.int (nI (14 + (x8 % 23)))), none, some (.int (nI (1))), some (.int (nI (q))), some (.int (nI (y7))), some (.int (((gact y7 ((t, n), (c, S), D, sl)).1)))]) dL_law_267 (by decide) rfl ?_
                refine G_iinc (v := nI (q + 1)) (ls2 := [some (.ref (a + 1000000)), some (.ref (0)), some (.ref (1603)), some (.int (nI (14 + (x8 % 23)))), none, some (.int (nI (1))), some (.int (nI (q + 1))), some (.int (nI (y7))), some (.int (((gact y7 ((t, n), (c, S), D, sl)).1)))]) dL_law_269 rfl (nI_inc _ 1) (by decide) rfl ?_
                refine G_goto (tgt := 125) dL_law_272 (by decide) ?_
                have hLs := (hL2.dp i9).sR1 (x := y7 / 11)
                refine G_weak (ls2 := [some (.ref (a + 1000000)), some (.ref (0)), some (.ref (1603)), some (.int (nI (14 + (x8 % 23)))), none, some (.int (nI (1))), some (.int (nI (q + 1))), none, none]) ⟨rfl, rfl, rfl, rfl, rfl, rfl, trivial⟩ ?_
                refine G_bud (b2 := (4 * (3130 * n125 - 0), 24 * (3130 * n125 - 0))) ⟨by show 4 * (3130 * n125 - 0) ≤ 4 * (3130 * (n125 + 1) - 3122); omega, by show 24 * (3130 * n125 - 0) ≤ 24 * (3130 * (n125 + 1) - 3122); omega⟩ ?_
                exact ih125 (q + 1) (A + 70000) _ v20 W21 hLs.1 (by rw [hLs.2]; exact hc22) (by omega) (by omega) (by omega) (by omega)
              · refine G_aload_n dL_law_211 rfl rfl ?_
                refine G_iload dL_law_212 rfl ?_
                refine G_iconst (v := nI 3) dL_law_214 (by decide) ?_
                refine G_idivN dL_law_215 (by omega) (by decide) (by decide) ?_
                refine G_lz (K := 2700) (E := 3130 * (n125 + 1)) (u := 282) (u2 := 2982) (rest := []) (As := [.ref (0), .int (nI (y7 / 3))]) zGoN dL_law_216 lL_208 yk_L_holds ys_L_holds ⟨Nat.le_of_ble_eq_true rfl, Nat.le_of_ble_eq_true rfl⟩ rfl rfl (Nat.le_of_ble_eq_true rfl) rfl hf ⟨by omega, rfl⟩ (vOw.rf (v := v13)) (c_L_holds (by omega) hc22 hL2.2.1 hTo W14.1 hL2.1 (by omega) hA3 hf) (fun v22 rv23 => ?_)
                have W24 : LW v22 ((t2, n2), (c2, S2), D2, sl2) ((t2, n2), (c2, S2), D2, sl2) := W14.o rv23
                refine G_top (y := nI (1)) rfl ?_
                refine G_if_eqN (tgt := 266) dL_law_219 (by decide) (by decide) (fun q9 => absurd q9 (by decide)) (fun _ => ?_)
                refine G_goto (tgt := 236) dL_law_222 (by decide) ?_
                refine G_aload_n dL_law_236 rfl rfl ?_
                refine G_aload_n dL_law_237 rfl rfl ?_
                refine G_iload dL_law_238 rfl ?_
                refine G_bipush (v := nI 7) dL_law_240 (by decide) ?_
                refine G_idivN dL_law_242 (by omega) (by decide) (by decide) ?_
                refine G_l3 (K := 120) (E := 3130 * (n125 + 1)) (u := 2982) (u2 := 3102) (rest := []) (As := [.ref (0), .ref (1603), .int (nI (y7 / 7))]) zGoN dL_law_243 lL_211 yk_L_stands ys_L_stands ⟨Nat.le_of_ble_eq_true rfl, Nat.le_of_ble_eq_true rfl⟩ rfl rfl (Nat.le_of_ble_eq_true rfl) rfl hf ⟨by omega, rfl⟩ (c_L_stands hTo hTq W24 hL2.1 (by omega) hf (by omega) hc22 hL2.2.1 hA3) (fun v25 T9 W26 h9T => ?_)
                obtain ⟨i9, rfl⟩ := h9T
                refine G_if_eqN (tgt := 266) dL_law_246 (by decide) (by decide) (fun q9 => absurd q9 (by decide)) (fun _ => ?_)
                refine G_aload_n dL_law_249 rfl rfl ?_
                refine G_aload_n dL_law_250 rfl rfl ?_
                refine G_iload dL_law_251 rfl ?_
                refine G_bipush (v := nI 11) dL_law_253 (by decide) ?_
                refine G_idivN dL_law_255 (by omega) (by decide) (by decide) ?_
                refine G_l2 (K := 20) (E := 3130 * (n125 + 1)) (u := 3102) (u2 := 3122) (rest := []) (As := [.ref (0), .ref (1603), .int (nI (y7 / 11))]) zGoN dL_law_256 lL_214 yk_L_says ys_L_says ⟨Nat.le_of_ble_eq_true rfl, Nat.le_of_ble_eq_true rfl⟩ rfl rfl (Nat.le_of_ble_eq_true rfl) rfl hf ⟨by omega, rfl⟩ (c_L_says hTo hTq W26 (hL2.dp i9).1 (by omega) hf (by omega) hc22 hL2.2.1 hA3) (fun v27 W28 => ?_)
                refine G_if_eqN (tgt := 266) dL_law_259 (by decide) (by decide) (fun q9 => absurd q9 (by decide)) (fun _ => ?_)
                refine G_iconst (v := nI 1) dL_law_262 (by decide) ?_
                refine G_goto (tgt := 267) dL_law_263 (by decide) ?_
                refine G_istore (ls2 := [some (.ref (a + 1000000)), some (.ref (0)), some (.ref (1603)), some (.int (nI (14 + (x8 % 23)))), none, some (.int (nI (1))), some (.int (nI (q))), some (.int (nI (y7))), some (.int (((gact y7 ((t, n), (c, S), D, sl)).1)))]) dL_law_267 (by decide) rfl ?_
                refine G_iinc (v := nI (q + 1)) (ls2 := [some (.ref (a + 1000000)), some (.ref (0)), some (.ref (1603)), some (.int (nI (14 + (x8 % 23)))), none, some (.int (nI (1))), some (.int (nI (q + 1))), some (.int (nI (y7))), some (.int (((gact y7 ((t, n), (c, S), D, sl)).1)))]) dL_law_269 rfl (nI_inc _ 1) (by decide) rfl ?_
                refine G_goto (tgt := 125) dL_law_272 (by decide) ?_
                have hLs := (hL2.dp i9).sR1 (x := y7 / 11)
                refine G_weak (ls2 := [some (.ref (a + 1000000)), some (.ref (0)), some (.ref (1603)), some (.int (nI (14 + (x8 % 23)))), none, some (.int (nI (1))), some (.int (nI (q + 1))), none, none]) ⟨rfl, rfl, rfl, rfl, rfl, rfl, trivial⟩ ?_
                refine G_bud (b2 := (4 * (3130 * n125 - 0), 24 * (3130 * n125 - 0))) ⟨by show 4 * (3130 * n125 - 0) ≤ 4 * (3130 * (n125 + 1) - 3122); omega, by show 24 * (3130 * n125 - 0) ≤ 24 * (3130 * (n125 + 1) - 3122); omega⟩ ?_
                exact ih125 (q + 1) (A + 70000) _ v27 W28 hLs.1 (by rw [hLs.2]; exact hc22) (by omega) (by omega) (by omega) (by omega)
        refine G_weak (ls2 := [some (.ref (a + 1000000)), some (.ref (0)), some (.ref (1603)), some (.int (nI (14 + (x8 % 23)))), none, some (.int (nI (1))), some (.int (nI (0))), none, none]) ⟨rfl, rfl, rfl, rfl, rfl, rfl, trivial⟩ ?_
        refine G_bud (b2 := (4 * (3130 * (14 + (x8 % 23)) - 0), 24 * (3130 * (14 + (x8 % 23)) - 0))) ⟨by show 4 * (3130 * (14 + (x8 % 23)) - 0) ≤ 4 * (2 * (n41 + 1) + 112700 - 0); omega, by show 24 * (3130 * (14 + (x8 % 23)) - 0) ≤ 24 * (2 * (n41 + 1) + 112700 - 0); omega⟩ ?_
        exact hL125 (14 + (x8 % 23)) 0 B ((t, n), (c, S), D, sl) w41 W41 hL (by show 2 ≤ c; omega) (by omega) (by omega) (by omega) (by omega)
      · refine G_iload dL_law_52 rfl ?_
        refine G_if_eqN (tgt := 122) dL_law_54 (by decide) (by decide) (fun q9 => absurd q9 (by decide)) (fun _ => ?_)
        refine G_aload_n dL_law_57 rfl rfl ?_
        refine G_bipush (v := nI 7) dL_law_58 (by decide) ?_
        refine G_iload dL_law_60 rfl ?_
        refine G_iconst (v := nI 3) dL_law_62 (by decide) ?_
        refine G_iload dL_law_63 rfl ?_
        refine G_imulN dL_law_65 ?_
        refine G_ishrN dL_law_66 (by omega) (by omega) ?_
        refine G_bipush (v := nI 15) dL_law_67 (by decide) ?_
        refine G_iandN dL_law_69 ?_
        refine G_bipush (v := nI 10) dL_law_70 (by decide) ?_
        refine G_iremN dL_law_72 (by exact Nat.lt_of_le_of_lt Nat.and_le_right (by decide)) (by decide) (by decide) ?_
        refine G_iconst (v := nI 0) dL_law_73 (by decide) ?_
        refine G_iconst (v := nI 0) dL_law_74 (by decide) ?_
        refine G_lc (E := 2 * (n41 + 1) + 112700) (u := 0) (u2 := 1) (rest := []) zGoN dL_law_75 lL_162 ⟨Nat.le_of_ble_eq_true rfl, Nat.le_of_ble_eq_true rfl⟩ (Nat.le_of_ble_eq_true rfl) hf ⟨by omega, rfl⟩ (vOw.rf (v := w41)) (vCZ_eq (c_call_7 hTo W41.1 hL.1 (by omega) hf) (t_member (by omega) (by omega))) (fun v29 rv30 => ?_)
        have W31 : LW v29 ((t, n), (c + 1, madd S (((x0 >>> (3 * k)) &&& 15) % 10)), dr1 D ++ [(c, S)], sl) ((t, n), (c, S), D, sl) := W41.o rv30
        refine G_top (y := nI (c)) rfl ?_
        refine G_iload dL_law_78 rfl ?_
        refine G_icmp_neN (tgt := 113) dL_law_80 (by decide) (by omega) (by omega) (fun c80 => (c80 hck).elim) (fun c80 => ?_)
        refine G_aload_n dL_law_83 rfl rfl ?_
        refine G_bipush (v := nI 7) dL_law_84 (by decide) ?_
        refine G_iload dL_law_86 rfl ?_
        refine G_iconst (v := nI 3) dL_law_88 (by decide) ?_
        refine G_iload dL_law_89 rfl ?_
        refine G_imulN dL_law_91 ?_
        refine G_ishrN dL_law_92 (by omega) (by omega) ?_
        refine G_bipush (v := nI 15) dL_law_93 (by decide) ?_
        refine G_iandN dL_law_95 ?_
        refine G_bipush (v := nI 10) dL_law_96 (by decide) ?_
        refine G_iremN dL_law_98 (by exact Nat.lt_of_le_of_lt Nat.and_le_right (by decide)) (by decide) (by decide) ?_
        refine G_iconst (v := nI 0) dL_law_99 (by decide) ?_
        refine G_iconst (v := nI 0) dL_law_100 (by decide) ?_
        refine G_lc (E := 2 * (n41 + 1) + 112700) (u := 1) (u2 := 2) (rest := []) zGoN dL_law_101 lL_162 ⟨Nat.le_of_ble_eq_true rfl, Nat.le_of_ble_eq_true rfl⟩ (Nat.le_of_ble_eq_true rfl) hf ⟨by omega, rfl⟩ (vOw.rf (v := v29)) (vCZ_eq (c_call_7 hTq W31.2 hL.1 (by omega) hf) (t_member (by omega) (by omega))) (fun v32 rv33 => ?_)
        have W34 : LW v32 ((t, n), (c + 1, madd S (((x0 >>> (3 * k)) &&& 15) % 10)), dr1 D ++ [(c, S)], sl) ((t, n), (c + 1, madd S (((x0 >>> (3 * k)) &&& 15) % 10)), dr1 D ++ [(c, S)], sl) := W31.q rv33
        refine G_top (y := nI (c)) rfl ?_
        refine G_iload dL_law_104 rfl ?_
        refine G_icmp_neN (tgt := 113) dL_law_106 (by decide) (by omega) (by omega) (fun c106 => (c106 hck).elim) (fun c106 => ?_)
        refine G_iconst (v := nI 1) dL_law_109 (by decide) ?_
        refine G_goto (tgt := 114) dL_law_110 (by decide) ?_
        refine G_istore (ls2 := [some (.ref (a + 1000000)), some (.ref (0)), some (.ref (1603)), some (.int (nI (14 + (x8 % 23)))), some (.int (nI (x0))), some (.int (nI (1))), some (.int (nI (k))), none, none]) dL_law_114 (by decide) rfl ?_
        refine G_iinc (v := nI (k + 1)) (ls2 := [some (.ref (a + 1000000)), some (.ref (0)), some (.ref (1603)), some (.int (nI (14 + (x8 % 23)))), some (.int (nI (x0))), some (.int (nI (1))), some (.int (nI (k + 1))), none, none]) dL_law_116 rfl (nI_inc _ 1) (by decide) rfl ?_
        refine G_goto (tgt := 41) dL_law_119 (by decide) ?_
        have hLa := (A_member (p := ((x0 >>> (3 * k)) &&& 15) % 10) hL (by omega) (by omega) (fun _ => by omega)).1
        have eT : (g_member ((t, n), (c, S), D, sl) (nI (((x0 >>> (3 * k)) &&& 15) % 10))).2.2 = ((t, n), (c + 1, madd S (((x0 >>> (3 * k)) &&& 15) % 10)), dr1 D ++ [(c, S)], sl) := congrArg Prod.snd (t_member (t := t) (n := n) (S := S) (D := D) (sl := sl) (show c < 6 by omega) (show ((x0 >>> (3 * k)) &&& 15) % 10 ≤ 9 by omega))
        rw [eT] at hLa
        refine G_bud (b2 := (4 * (2 * n41 + 112700 - 0), 24 * (2 * n41 + 112700 - 0))) ⟨by show 4 * (2 * n41 + 112700 - 0) ≤ 4 * (2 * (n41 + 1) + 112700 - 2); omega, by show 24 * (2 * n41 + 112700 - 0) ≤ 24 * (2 * (n41 + 1) + 112700 - 2); omega⟩ ?_
        exact ih41 (k + 1) (B + 70000) _ v32 W34 hLa (by show c + 1 = k + 1; omega) h0 (by omega) (by omega) (by omega)
  have hx4 : x0 % 4 < 4 := Nat.mod_lt _ (by decide)
  refine G_bud (b2 := (4 * (2 * (3 + x0 % 4) + 112700 - 0), 24 * (2 * (3 + x0 % 4) + 112700 - 0))) ⟨by show 4 * (2 * (3 + x0 % 4) + 112700 - 0) ≤ 4 * (112720 - 0); omega, by show 24 * (2 * (3 + x0 % 4) + 112700 - 0) ≤ 24 * (112720 - 0); omega⟩ ?_
  exact hL41 (3 + x0 % 4) 0 100 gT0 v hW LI0 rfl rfl ⟨by omega, by omega⟩ (by omega) (by omega)
