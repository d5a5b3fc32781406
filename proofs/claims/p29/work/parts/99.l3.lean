
/-! THE LAW'S REFUSALS -/
theorem neg_mset {c m k : Nat} (h : k < 1000000) : mset c m (-1 - nI k) = false := by unfold mset; rw [neg_toInt h, decide_eq_false (by omega)]; rfl
theorem big_set {c m : Nat} (hc : c ≤ 6) (hm : m < 6) : mset c m (nI (1 <<< c + 1 <<< m)) = false := by
  have h1 : 2 ^ c ≤ 2 ^ 6 := Nat.pow_le_pow_right (by decide) hc
  have h2 : 2 ^ m ≤ 2 ^ 6 := Nat.pow_le_pow_right (by decide) (by omega)
  have h3 : 0 < 2 ^ m := Nat.pow_pos (by decide)
  rw [Nat.one_shiftLeft, Nat.one_shiftLeft, mset_n (by omega), decide_eq_false (by omega)]; rfl
theorem one_set {c m : Nat} (hc : c ≤ 6) (hm : m < c) : mset c m (nI (1 <<< m)) = true := by
  have h1 : 2 ^ m ≤ 2 ^ 6 := Nat.pow_le_pow_right (by decide) (by omega)
  have h2 : 2 ^ m < 2 ^ c := Nat.pow_lt_pow_right (by decide) hm
  rw [Nat.one_shiftLeft, mset_n (by omega), decide_eq_true h2, Nat.testBit_two_pow_self]; rfl
theorem zero_set {c m : Nat} : mset c m (nI 0) = false := by rw [mset_n (by decide), Nat.zero_testBit, Bool.and_false]
theorem scr_0 {s : Int64} : (gin (nI 0) 1 3 && decide (0 ≤ s.toInt ∧ s.toInt < ((100000 ^ (nI 0).toInt.toNat : Nat) : Int))) = false := by rw [gin_f (Or.inl (by decide)) (by decide)]; rfl
theorem scr_1 {k : Nat} (h : k < 1000000) : (gin (nI 1) 1 3 && decide (0 ≤ ((100000 : Int64) + (nI k).toInt64).toInt ∧ ((100000 : Int64) + (nI k).toInt64).toInt < ((100000 ^ (nI 1).toInt.toNat : Nat) : Int))) = false := by
  have e : ((100000 : Int64) + (nI k).toInt64).toInt = 100000 + (k : Int) := by
    rw [Int64.toInt_add, Int32.toInt_toInt64, nI_toInt (by omega), show (100000 : Int64).toInt = 100000 by decide]
    exact Int.bmod_eq_of_le (by omega) (by omega)
  have e2 : ((100000 ^ (nI 1).toInt.toNat : Nat) : Int) = 100000 := by decide
  rw [e, e2, decide_eq_false (by omega), Bool.and_false]
theorem no_mb {c k : Nat} (h : c ≤ 6) (hk : k < 1000000) : mb c (nI (c + k)) = false := by rw [mb_n (by omega)]; exact decide_eq_false (by omega)
set_option maxHeartbeats 8000000 in
set_option maxRecDepth 100000 in
theorem c_L_refuses {σ : vS} {v : vV} {c b n : Nat} {S : mS} {t : mN} {D : List mC} {sl : Nat → Option mC} {x : Nat} (hx : x < 100000) (hc2 : 2 ≤ c) (hT : kLT σ b) (hK : KT v b ((t, n), (c, S), D, sl)) {B : Nat} (hG : GI B ((t, n), (c, S), D, sl)) (hB : B + 6000000 < 1000000000) (hB2 : B ≤ 200000000) (hf : σ.2.2.2 = false)  : vCZ zN M_L_refuses yL_refuses [.ref (b), .int (nI (x))] (σ, v) (qC σ v b (nI 1, ((t, n), (c, S), D, sl))) := by
  have hN : NB c S B := hG.1.1
  have hI : Iv c 1 S := hG.1.2
  have hc6 := hN.c6
  have hl5 : ∀ m, (gH S m).length ≤ 5 := hN.b.2.1
  have hl12 : ∀ m, (gK S m).length ≤ 12 := hN.b.1
  have hl150 : (gN S).length ≤ 150 := hN.b.2.2
  have hv0 : RV v b ((t, n), (c, S), D, sl) v := ⟨hK, vOw.rf⟩
  refine vCZ_of (ls := [some (.ref (b)), some (.int (nI (x))), none, none, none, none, none, none]) pn_L rfl rfl (Nat.le_of_ble_eq_true rfl) rfl ?_
  refine G_bud (b2 := (4 * (70 - 0), 24 * (70 - 0))) (by decide) ?_
  refine G_aload_n dL_refuses_0 rfl rfl ?_
  refine G_iconst (v := nI 2) dL_refuses_1 (by decide) ?_
  refine G_iconst (v := nI 0) dL_refuses_2 (by decide) ?_
  refine G_iconst (v := nI 0) dL_refuses_3 (by decide) ?_
  refine G_iconst (v := nI 0) dL_refuses_4 (by decide) ?_
  refine G_lc (E := 70) (u := 0) (u2 := 1) (rest := []) zN_go dL_refuses_5 lL_162 ⟨Nat.le_of_ble_eq_true rfl, Nat.le_of_ble_eq_true rfl⟩ (Nat.le_of_ble_eq_true rfl) hf ⟨by omega, rfl⟩ hv0.2 (r_about (by decide) hT hv0.1 hG hB hf) (fun v1 rv2 => ?_)
  refine G_top (y := nI (c)) rfl ?_
  refine G_istore_n (ls2 := [some (.ref (b)), some (.int (nI (x))), some (.int (nI (c))), none, none, none, none, none]) dL_refuses_8 rfl (by decide) rfl ?_
  refine G_aload_n dL_refuses_9 rfl rfl ?_
  refine G_iconst (v := nI 2) dL_refuses_10 (by decide) ?_
  refine G_iconst (v := nI 2) dL_refuses_11 (by decide) ?_
  refine G_iconst (v := nI 0) dL_refuses_12 (by decide) ?_
  refine G_iconst (v := nI 0) dL_refuses_13 (by decide) ?_
  refine G_lc (E := 70) (u := 1) (u2 := 2) (rest := []) zN_go dL_refuses_14 lL_162 ⟨Nat.le_of_ble_eq_true rfl, Nat.le_of_ble_eq_true rfl⟩ (Nat.le_of_ble_eq_true rfl) hf ⟨by omega, rfl⟩ rv2.2 (r_about (by decide) hT rv2.1 hG hB hf) (fun v3 rv4 => ?_)
  refine G_top (y := nI ((gN S).length)) rfl ?_
  refine G_istore_n (ls2 := [some (.ref (b)), some (.int (nI (x))), some (.int (nI (c))), some (.int (nI ((gN S).length))), none, none, none, none]) dL_refuses_17 rfl (by decide) rfl ?_
  refine G_iload_n dL_refuses_18 rfl rfl ?_
  refine G_iconst (v := nI 2) dL_refuses_19 (by decide) ?_
  refine G_iremN dL_refuses_20 (by omega) (by decide) (by decide) ?_
  have hJ39 : ∀ (no : Int32), (mb c no = false) → vG (kZs zN) M_L_refuses 39 [some (.ref (b)), some (.int (nI (x))), some (.int (nI (c))), some (.int (nI ((gN S).length))), none, none, none, none] [.int (no)] (4 * (70 - 2), 24 * (70 - 2)) (σ, v3) (vN (qC σ v b (nI 1, ((t, n), (c, S), D, sl)))) := by
    intro no hno
    refine G_istore (ls2 := [some (.ref (b)), some (.int (nI (x))), some (.int (nI (c))), some (.int (nI ((gN S).length))), some (.int (no)), none, none, none]) dL_refuses_39 (by decide) rfl ?_
    refine G_iload_n dL_refuses_41 rfl rfl ?_
    refine G_iload_n dL_refuses_42 rfl rfl ?_
    refine G_iremN dL_refuses_43 (by omega) (by omega) (by omega) ?_
    refine G_istore (ls2 := [some (.ref (b)), some (.int (nI (x))), some (.int (nI (c))), some (.int (nI ((gN S).length))), some (.int (no)), some (.int (nI (x % c))), none, none]) dL_refuses_44 (by decide) rfl ?_
    have hm : x % c < c := Nat.mod_lt _ (by omega)
    generalize x % c = m at hm ⊢
    refine G_aload_n dL_refuses_46 rfl rfl ?_
    refine G_iconst (v := nI 0) dL_refuses_47 (by decide) ?_
    refine G_iload_n dL_refuses_48 rfl rfl ?_
    refine G_iconst (v := nI 2) dL_refuses_49 (by decide) ?_
    refine G_iremN dL_refuses_50 (by omega) (by decide) (by decide) ?_
    have hJ71 : ∀ (a1 : Int32), (gin a1 0 255 = false) → vG (kZs zN) M_L_refuses 71 [some (.ref (b)), some (.int (nI (x))), some (.int (nI (c))), some (.int (nI ((gN S).length))), some (.int (no)), some (.int (nI (m))), none, none] [.int (a1), .int (nI (0)), .ref (b)] (4 * (70 - 2), 24 * (70 - 2)) (σ, v3) (vN (qC σ v b (nI 1, ((t, n), (c, S), D, sl)))) := by
      intro a1 ha1
      refine G_iconst (v := nI 0) dL_refuses_71 (by decide) ?_
      refine G_iconst (v := nI 0) dL_refuses_72 (by decide) ?_
      refine G_lc (E := 70) (u := 2) (u2 := 3) (rest := []) zN_go dL_refuses_73 lL_162 ⟨Nat.le_of_ble_eq_true rfl, Nat.le_of_ble_eq_true rfl⟩ (Nat.le_of_ble_eq_true rfl) hf ⟨by omega, rfl⟩ rv4.2 (vCZ_eq (c_call_0 hT rv4.1 hG hB hf) (x_append ha1)) (fun v5 rv6 => ?_)
      refine G_top (y := eIA) rfl ?_
      refine G_ldc dL_refuses_76 cL_18 ?_
      refine G_icmp_ne (tgt := 676) dL_refuses_78 (by decide) (fun c78 => (c78 rfl).elim) (fun c78 => ?_)
      refine G_aload_n dL_refuses_81 rfl rfl ?_
      refine G_iconst (v := nI 2) dL_refuses_82 (by decide) ?_
      refine G_bipush (v := nI 10) dL_refuses_83 (by decide) ?_
      refine G_iload_n dL_refuses_85 rfl rfl ?_
      refine G_bipush (v := nI 50) dL_refuses_86 (by decide) ?_
      refine G_iremN dL_refuses_88 (by omega) (by decide) (by decide) ?_
      refine G_iaddN dL_refuses_89 ?_
      refine G_iconst (v := nI 0) dL_refuses_90 (by decide) ?_
      refine G_iconst (v := nI 0) dL_refuses_91 (by decide) ?_
      refine G_lc (E := 70) (u := 3) (u2 := 4) (rest := []) zN_go dL_refuses_92 lL_162 ⟨Nat.le_of_ble_eq_true rfl, Nat.le_of_ble_eq_true rfl⟩ (Nat.le_of_ble_eq_true rfl) hf ⟨by omega, rfl⟩ rv6.2 (vCZ_eq (c_call_2 hT rv6.1 hG hB hf) (x_about (gin_f (Or.inr (by omega)) (by omega)))) (fun v7 rv8 => ?_)
      refine G_top (y := eIA) rfl ?_
      refine G_ldc dL_refuses_95 cL_18 ?_
      refine G_icmp_ne (tgt := 676) dL_refuses_97 (by decide) (fun c97 => (c97 rfl).elim) (fun c97 => ?_)
      refine G_aload_n dL_refuses_100 rfl rfl ?_
      refine G_iconst (v := nI 3) dL_refuses_101 (by decide) ?_
      refine G_iload dL_refuses_102 rfl ?_
      refine G_bipush (v := nI 99) dL_refuses_104 (by decide) ?_
      refine G_iconst (v := nI 0) dL_refuses_106 (by decide) ?_
      refine G_lc (E := 70) (u := 4) (u2 := 5) (rest := []) zN_go dL_refuses_107 lL_162 ⟨Nat.le_of_ble_eq_true rfl, Nat.le_of_ble_eq_true rfl⟩ (Nat.le_of_ble_eq_true rfl) hf ⟨by omega, rfl⟩ rv8.2 (vCZ_eq (c_call_3 hT rv8.1 hG hB hf) (x_memO hno)) (fun v9 rv10 => ?_)
      refine G_top (y := eIO) rfl ?_
      refine G_ldc dL_refuses_110 cL_15 ?_
      refine G_icmp_ne (tgt := 676) dL_refuses_112 (by decide) (fun c112 => (c112 rfl).elim) (fun c112 => ?_)
      refine G_aload_n dL_refuses_115 rfl rfl ?_
      refine G_iconst (v := nI 3) dL_refuses_116 (by decide) ?_
      refine G_iload dL_refuses_117 rfl ?_
      refine G_bipush (v := nI 12) dL_refuses_119 (by decide) ?_
      refine G_iload_n dL_refuses_121 rfl rfl ?_
      refine G_bipush (v := nI 9) dL_refuses_122 (by decide) ?_
      refine G_iremN dL_refuses_124 (by omega) (by decide) (by decide) ?_
      refine G_iaddN dL_refuses_125 ?_
      refine G_iconst (v := nI 0) dL_refuses_126 (by decide) ?_
      refine G_lc (E := 70) (u := 5) (u2 := 6) (rest := []) zN_go dL_refuses_127 lL_162 ⟨Nat.le_of_ble_eq_true rfl, Nat.le_of_ble_eq_true rfl⟩ (Nat.le_of_ble_eq_true rfl) hf ⟨by omega, rfl⟩ rv10.2 (vCZ_eq (c_call_3 hT rv10.1 hG hB hf) (x_memA (mb_t hm hc6) (gin_f (Or.inr (by omega)) (by omega)))) (fun v11 rv12 => ?_)
      refine G_top (y := eIA) rfl ?_
      refine G_ldc dL_refuses_130 cL_18 ?_
      refine G_icmp_ne (tgt := 676) dL_refuses_132 (by decide) (fun c132 => (c132 rfl).elim) (fun c132 => ?_)
      refine G_aload_n dL_refuses_135 rfl rfl ?_
      refine G_iconst (v := nI 4) dL_refuses_136 (by decide) ?_
      refine G_iload dL_refuses_137 rfl ?_
      refine G_iconst (v := nI 0) dL_refuses_139 (by decide) ?_
      refine G_bipush (v := nI 9) dL_refuses_140 (by decide) ?_
      refine G_lc (E := 70) (u := 6) (u2 := 7) (rest := []) zN_go dL_refuses_142 lL_162 ⟨Nat.le_of_ble_eq_true rfl, Nat.le_of_ble_eq_true rfl⟩ (Nat.le_of_ble_eq_true rfl) hf ⟨by omega, rfl⟩ rv12.2 (vCZ_eq (c_call_4 hT rv12.1 hG hB hf) (x_sesO (by rw [hno]; rfl))) (fun v13 rv14 => ?_)
      refine G_top (y := eIO) rfl ?_
      refine G_ldc dL_refuses_145 cL_15 ?_
      refine G_icmp_ne (tgt := 676) dL_refuses_147 (by decide) (fun c147 => (c147 rfl).elim) (fun c147 => ?_)
      refine G_aload_n dL_refuses_150 rfl rfl ?_
      refine G_iconst (v := nI 4) dL_refuses_151 (by decide) ?_
      refine G_iload dL_refuses_152 rfl ?_
      refine G_aload_n dL_refuses_154 rfl rfl ?_
      refine G_iconst (v := nI 3) dL_refuses_155 (by decide) ?_
      refine G_iload dL_refuses_156 rfl ?_
      refine G_bipush (v := nI 11) dL_refuses_158 (by decide) ?_
      refine G_iconst (v := nI 0) dL_refuses_160 (by decide) ?_
      refine G_lc (E := 70) (u := 7) (u2 := 8) (rest := [.int (nI (m)), .int (nI (4)), .ref (b)]) zN_go dL_refuses_161 lL_162 ⟨Nat.le_of_ble_eq_true rfl, Nat.le_of_ble_eq_true rfl⟩ (Nat.le_of_ble_eq_true rfl) hf ⟨by omega, rfl⟩ rv14.2 (r_member (by omega) (by decide) hT rv14.1 hG hB hf) (fun v15 rv16 => ?_)
      refine G_top (y := nI ((gH S m).length)) rfl ?_
      refine G_iload_n dL_refuses_164 rfl rfl ?_
      refine G_bipush (v := nI 9) dL_refuses_165 (by decide) ?_
      refine G_iremN dL_refuses_167 (by omega) (by decide) (by decide) ?_
      refine G_iaddN dL_refuses_168 ?_
      refine G_bipush (v := nI 9) dL_refuses_169 (by decide) ?_
      refine G_lc (E := 70) (u := 8) (u2 := 9) (rest := []) zN_go dL_refuses_171 lL_162 ⟨Nat.le_of_ble_eq_true rfl, Nat.le_of_ble_eq_true rfl⟩ (Nat.le_of_ble_eq_true rfl) hf ⟨by omega, rfl⟩ rv16.2 (vCZ_eq (c_call_4 hT rv16.1 hG hB hf) (x_sesO (by have := hl5 m; rw [nn (k := m) (by omega), idx_f (by omega) (by omega), Bool.and_false]))) (fun v17 rv18 => ?_)
      refine G_top (y := eIO) rfl ?_
      refine G_ldc dL_refuses_174 cL_15 ?_
      refine G_icmp_ne (tgt := 676) dL_refuses_176 (by decide) (fun c176 => (c176 rfl).elim) (fun c176 => ?_)
      refine G_aload_n dL_refuses_179 rfl rfl ?_
      refine G_iconst (v := nI 5) dL_refuses_180 (by decide) ?_
      refine G_iload_n dL_refuses_181 rfl rfl ?_
      refine G_iload_n dL_refuses_182 rfl rfl ?_
      refine G_bipush (v := nI 9) dL_refuses_183 (by decide) ?_
      refine G_iremN dL_refuses_185 (by omega) (by decide) (by decide) ?_
      refine G_iaddN dL_refuses_186 ?_
      refine G_bipush (v := nI 9) dL_refuses_187 (by decide) ?_
      refine G_iconst (v := nI 0) dL_refuses_189 (by decide) ?_
      refine G_lc (E := 70) (u := 9) (u2 := 10) (rest := []) zN_go dL_refuses_190 lL_162 ⟨Nat.le_of_ble_eq_true rfl, Nat.le_of_ble_eq_true rfl⟩ (Nat.le_of_ble_eq_true rfl) hf ⟨by omega, rfl⟩ rv18.2 (vCZ_eq (c_call_5 hT rv18.1 hG hB hf) (x_notO (idx_f (by omega) (by omega)))) (fun v19 rv20 => ?_)
      refine G_top (y := eIO) rfl ?_
      refine G_ldc dL_refuses_193 cL_15 ?_
      refine G_icmp_ne (tgt := 676) dL_refuses_195 (by decide) (fun c195 => (c195 rfl).elim) (fun c195 => ?_)
      refine G_aload_n dL_refuses_198 rfl rfl ?_
      refine G_bipush (v := nI 6) dL_refuses_199 (by decide) ?_
      refine G_iload dL_refuses_201 rfl ?_
      refine G_iconst (v := nI 0) dL_refuses_203 (by decide) ?_
      refine G_iconst (v := nI 0) dL_refuses_204 (by decide) ?_
      refine G_lc (E := 70) (u := 10) (u2 := 11) (rest := []) zN_go dL_refuses_205 lL_162 ⟨Nat.le_of_ble_eq_true rfl, Nat.le_of_ble_eq_true rfl⟩ (Nat.le_of_ble_eq_true rfl) hf ⟨by omega, rfl⟩ rv20.2 (vCZ_eq (c_call_6 hT rv20.1 hG hB hf) (x_cut (by rw [hno]; rfl))) (fun v21 rv22 => ?_)
      refine G_top (y := eIO) rfl ?_
      refine G_ldc dL_refuses_208 cL_15 ?_
      refine G_icmp_ne (tgt := 676) dL_refuses_210 (by decide) (fun c210 => (c210 rfl).elim) (fun c210 => ?_)
      refine G_aload_n dL_refuses_213 rfl rfl ?_
      refine G_bipush (v := nI 6) dL_refuses_214 (by decide) ?_
      refine G_iconst (v := nI 0) dL_refuses_216 (by decide) ?_
      refine G_iload dL_refuses_217 rfl ?_
      refine G_iconst (v := nI 0) dL_refuses_219 (by decide) ?_
      refine G_lc (E := 70) (u := 11) (u2 := 12) (rest := []) zN_go dL_refuses_220 lL_162 ⟨Nat.le_of_ble_eq_true rfl, Nat.le_of_ble_eq_true rfl⟩ (Nat.le_of_ble_eq_true rfl) hf ⟨by omega, rfl⟩ rv22.2 (vCZ_eq (c_call_6 hT rv22.1 hG hB hf) (x_cut (by rw [hno, Bool.and_false]))) (fun v23 rv24 => ?_)
      refine G_top (y := eIO) rfl ?_
      refine G_ldc dL_refuses_223 cL_15 ?_
      refine G_icmp_ne (tgt := 676) dL_refuses_225 (by decide) (fun c225 => (c225 rfl).elim) (fun c225 => ?_)
      refine G_aload_n dL_refuses_228 rfl rfl ?_
      refine G_bipush (v := nI 7) dL_refuses_229 (by decide) ?_
      refine G_iload_n dL_refuses_231 rfl rfl ?_
      refine G_iconst (v := nI 2) dL_refuses_232 (by decide) ?_
      refine G_iremN dL_refuses_233 (by omega) (by decide) (by decide) ?_
      have hJ248 : ∀ (a2 : Int32), (gin a2 0 9 = false) → vG (kZs zN) M_L_refuses 248 [some (.ref (b)), some (.int (nI (x))), some (.int (nI (c))), some (.int (nI ((gN S).length))), some (.int (no)), some (.int (nI (m))), none, none] [.int (a2), .int (nI (7)), .ref (b)] (4 * (70 - 12), 24 * (70 - 12)) (σ, v23) (vN (qC σ v b (nI 1, ((t, n), (c, S), D, sl)))) := by
        intro a2 ha2
        refine G_iconst (v := nI 0) dL_refuses_248 (by decide) ?_
        refine G_iconst (v := nI 0) dL_refuses_249 (by decide) ?_
        refine G_lc (E := 70) (u := 12) (u2 := 13) (rest := []) zN_go dL_refuses_250 lL_162 ⟨Nat.le_of_ble_eq_true rfl, Nat.le_of_ble_eq_true rfl⟩ (Nat.le_of_ble_eq_true rfl) hf ⟨by omega, rfl⟩ rv24.2 (vCZ_eq (c_call_7 hT rv24.1 hG hB hf) (x_comA ha2)) (fun v25 rv26 => ?_)
        refine G_top (y := eIA) rfl ?_
        refine G_ldc dL_refuses_253 cL_18 ?_
        refine G_icmp_ne (tgt := 676) dL_refuses_255 (by decide) (fun c255 => (c255 rfl).elim) (fun c255 => ?_)
        refine G_aload_n dL_refuses_258 rfl rfl ?_
        refine G_bipush (v := nI 8) dL_refuses_259 (by decide) ?_
        refine G_iload dL_refuses_261 rfl ?_
        refine G_iconst (v := nI 0) dL_refuses_263 (by decide) ?_
        refine G_iconst (v := nI 0) dL_refuses_264 (by decide) ?_
        refine G_lc (E := 70) (u := 13) (u2 := 14) (rest := []) zN_go dL_refuses_265 lL_162 ⟨Nat.le_of_ble_eq_true rfl, Nat.le_of_ble_eq_true rfl⟩ (Nat.le_of_ble_eq_true rfl) hf ⟨by omega, rfl⟩ rv26.2 (vCZ_eq (c_call_8 hT rv26.1 hG hB hf) (x_sayO hno)) (fun v27 rv28 => ?_)
        refine G_top (y := eIO) rfl ?_
        refine G_ldc dL_refuses_268 cL_15 ?_
        refine G_icmp_ne (tgt := 676) dL_refuses_270 (by decide) (fun c270 => (c270 rfl).elim) (fun c270 => ?_)
        refine G_aload_n dL_refuses_273 rfl rfl ?_
        refine G_bipush (v := nI 9) dL_refuses_274 (by decide) ?_
        refine G_iload dL_refuses_276 rfl ?_
        refine G_iconst (v := nI 0) dL_refuses_278 (by decide) ?_
        refine G_iconst (v := nI 0) dL_refuses_279 (by decide) ?_
        refine G_lc (E := 70) (u := 14) (u2 := 15) (rest := []) zN_go dL_refuses_280 lL_162 ⟨Nat.le_of_ble_eq_true rfl, Nat.le_of_ble_eq_true rfl⟩ (Nat.le_of_ble_eq_true rfl) hf ⟨by omega, rfl⟩ rv28.2 (vCZ_eq (c_call_9 hT rv28.1 hG hB hf) (x_calO hno)) (fun v29 rv30 => ?_)
        refine G_top (y := eIO) rfl ?_
        refine G_ldc dL_refuses_283 cL_15 ?_
        refine G_icmp_ne (tgt := 676) dL_refuses_285 (by decide) (fun c285 => (c285 rfl).elim) (fun c285 => ?_)
        refine G_aload_n dL_refuses_288 rfl rfl ?_
        refine G_bipush (v := nI 9) dL_refuses_289 (by decide) ?_
        refine G_iload dL_refuses_291 rfl ?_
        refine G_iconst (v := nI 0) dL_refuses_293 (by decide) ?_
        refine G_iconst (v := nI 0) dL_refuses_294 (by decide) ?_
        refine G_lc (E := 70) (u := 15) (u2 := 16) (rest := []) zN_go dL_refuses_295 lL_162 ⟨Nat.le_of_ble_eq_true rfl, Nat.le_of_ble_eq_true rfl⟩ (Nat.le_of_ble_eq_true rfl) hf ⟨by omega, rfl⟩ rv30.2 (vCZ_eq (c_call_9 hT rv30.1 hG hB hf) (x_calA (mb_t hm hc6) (by rw [nn (by omega)]; exact zero_set))) (fun v31 rv32 => ?_)
        refine G_top (y := eIA) rfl ?_
        refine G_ldc dL_refuses_298 cL_18 ?_
        refine G_icmp_ne (tgt := 676) dL_refuses_300 (by decide) (fun c300 => (c300 rfl).elim) (fun c300 => ?_)
        refine G_aload_n dL_refuses_303 rfl rfl ?_
        refine G_bipush (v := nI 9) dL_refuses_304 (by decide) ?_
        refine G_iload dL_refuses_306 rfl ?_
        refine G_iconst (v := nI 1) dL_refuses_308 (by decide) ?_
        refine G_iload_n dL_refuses_309 rfl rfl ?_
        refine G_ishlN dL_refuses_310 (by omega) ?_
        refine G_iconst (v := nI 1) dL_refuses_311 (by decide) ?_
        refine G_iload dL_refuses_312 rfl ?_
        refine G_ishlN dL_refuses_314 (by omega) ?_
        refine G_iaddN dL_refuses_315 ?_
        refine G_iconst (v := nI 0) dL_refuses_316 (by decide) ?_
        refine G_lc (E := 70) (u := 16) (u2 := 17) (rest := []) zN_go dL_refuses_317 lL_162 ⟨Nat.le_of_ble_eq_true rfl, Nat.le_of_ble_eq_true rfl⟩ (Nat.le_of_ble_eq_true rfl) hf ⟨by omega, rfl⟩ rv32.2 (vCZ_eq (c_call_9 hT rv32.1 hG hB hf) (x_calA (mb_t hm hc6) (by rw [nn (by omega)]; exact big_set hc6 (by omega)))) (fun v33 rv34 => ?_)
        refine G_top (y := eIA) rfl ?_
        refine G_ldc dL_refuses_320 cL_18 ?_
        refine G_icmp_ne (tgt := 676) dL_refuses_322 (by decide) (fun c322 => (c322 rfl).elim) (fun c322 => ?_)
        refine G_aload_n dL_refuses_325 rfl rfl ?_
        refine G_bipush (v := nI 9) dL_refuses_326 (by decide) ?_
        refine G_iload dL_refuses_328 rfl ?_
        refine G_iconst (v := -1) dL_refuses_330 (by decide) ?_
        refine G_iload_n dL_refuses_331 rfl rfl ?_
        refine G_bipush (v := nI 99) dL_refuses_332 (by decide) ?_
        refine G_iremN dL_refuses_334 (by omega) (by decide) (by decide) ?_
        refine G_isub dL_refuses_335 ?_
        refine G_iconst (v := nI 0) dL_refuses_336 (by decide) ?_
        refine G_lc (E := 70) (u := 17) (u2 := 18) (rest := []) zN_go dL_refuses_337 lL_162 ⟨Nat.le_of_ble_eq_true rfl, Nat.le_of_ble_eq_true rfl⟩ (Nat.le_of_ble_eq_true rfl) hf ⟨by omega, rfl⟩ rv34.2 (vCZ_eq (c_call_9 hT rv34.1 hG hB hf) (x_calA (mb_t hm hc6) (neg_mset (by omega)))) (fun v35 rv36 => ?_)
        refine G_top (y := eIA) rfl ?_
        refine G_ldc dL_refuses_340 cL_18 ?_
        refine G_icmp_ne (tgt := 676) dL_refuses_342 (by decide) (fun c342 => (c342 rfl).elim) (fun c342 => ?_)
        refine G_aload_n dL_refuses_345 rfl rfl ?_
        refine G_iload dL_refuses_346 rfl ?_
        refine G_iload dL_refuses_348 rfl ?_
        refine G_iconst (v := nI 1) dL_refuses_350 (by decide) ?_
        refine G_top (y := vb true) (by decide) ?_
        refine G_lw (np := 4) (hh := [(0, 7, 8, 13), (0, 7, 13, 16)]) (E := 70) (u := 18) (u2 := 19) (rest := []) (As := [.ref (b), .int (no), .int (no), .int (vb (true))]) (fun _ _ _ _ z9 => z9) dL_refuses_351 lL_165 (aw_t 821 (by decide +kernel) (by decide +kernel)) (aw_t 0 (by decide +kernel) (by decide +kernel)) ⟨by decide +kernel, by decide +kernel, by decide +kernel⟩ ys_L_cuts ⟨Nat.le_of_ble_eq_true rfl, Nat.le_of_ble_eq_true rfl⟩ rfl rfl (Nat.le_of_ble_eq_true rfl) rfl hf ⟨by omega, rfl⟩ rv36.2 (vCG_eq (c_L_cuts hT rv36.1 hG hB hf (z := true)) (x_cutsO (by rw [hno]; rfl))) (fun v37 rv38 => ?_)
        refine G_ldc dL_refuses_354 cL_15 ?_
        refine G_icmp_ne (tgt := 676) dL_refuses_356 (by decide) (fun c356 => (c356 rfl).elim) (fun c356 => ?_)
        refine G_aload_n dL_refuses_359 rfl rfl ?_
        refine G_iload dL_refuses_360 rfl ?_
        refine G_iload dL_refuses_362 rfl ?_
        refine G_iconst (v := nI 1) dL_refuses_364 (by decide) ?_
        refine G_top (y := vb true) (by decide) ?_
        refine G_lw (np := 4) (hh := [(0, 7, 8, 13), (0, 7, 13, 16)]) (E := 70) (u := 19) (u2 := 20) (rest := []) (As := [.ref (b), .int (nI (m)), .int (nI (m)), .int (vb (true))]) (fun _ _ _ _ z9 => z9) dL_refuses_365 lL_165 (aw_t 821 (by decide +kernel) (by decide +kernel)) (aw_t 0 (by decide +kernel) (by decide +kernel)) ⟨by decide +kernel, by decide +kernel, by decide +kernel⟩ ys_L_cuts ⟨Nat.le_of_ble_eq_true rfl, Nat.le_of_ble_eq_true rfl⟩ rfl rfl (Nat.le_of_ble_eq_true rfl) rfl hf ⟨by omega, rfl⟩ rv38.2 (vCG_eq (c_L_cuts hT rv38.1 hG hB hf (z := true)) (x_cutsA (by rw [mb_t hm hc6]; rfl))) (fun v39 rv40 => ?_)
        refine G_ldc dL_refuses_368 cL_18 ?_
        refine G_icmp_ne (tgt := 676) dL_refuses_370 (by decide) (fun c370 => (c370 rfl).elim) (fun c370 => ?_)
        refine G_aload_n dL_refuses_373 rfl rfl ?_
        refine G_bipush (v := nI 10) dL_refuses_374 (by decide) ?_
        refine G_iload dL_refuses_376 rfl ?_
        refine G_iconst (v := nI 0) dL_refuses_378 (by decide) ?_
        refine G_iconst (v := nI 0) dL_refuses_379 (by decide) ?_
        refine G_lc (E := 70) (u := 20) (u2 := 21) (rest := []) zN_go dL_refuses_380 lL_162 ⟨Nat.le_of_ble_eq_true rfl, Nat.le_of_ble_eq_true rfl⟩ (Nat.le_of_ble_eq_true rfl) hf ⟨by omega, rfl⟩ rv40.2 (vCZ_eq (c_call_10 hT rv40.1 hG hB hf) (x_leaO hno)) (fun v41 rv42 => ?_)
        refine G_top (y := eIO) rfl ?_
        refine G_ldc dL_refuses_383 cL_15 ?_
        refine G_icmp_ne (tgt := 676) dL_refuses_385 (by decide) (fun c385 => (c385 rfl).elim) (fun c385 => ?_)
        refine G_aload_n dL_refuses_388 rfl rfl ?_
        refine G_bipush (v := nI 11) dL_refuses_389 (by decide) ?_
        refine G_iload dL_refuses_391 rfl ?_
        refine G_iconst (v := nI 0) dL_refuses_393 (by decide) ?_
        refine G_iconst (v := nI 0) dL_refuses_394 (by decide) ?_
        refine G_lc (E := 70) (u := 21) (u2 := 22) (rest := []) zN_go dL_refuses_395 lL_162 ⟨Nat.le_of_ble_eq_true rfl, Nat.le_of_ble_eq_true rfl⟩ (Nat.le_of_ble_eq_true rfl) hf ⟨by omega, rfl⟩ rv42.2 (vCZ_eq (c_call_11 hT rv42.1 hG hB hf) (x_retO hno)) (fun v43 rv44 => ?_)
        refine G_top (y := eIO) rfl ?_
        refine G_ldc dL_refuses_398 cL_15 ?_
        refine G_icmp_ne (tgt := 676) dL_refuses_400 (by decide) (fun c400 => (c400 rfl).elim) (fun c400 => ?_)
        refine G_aload_n dL_refuses_403 rfl rfl ?_
        refine G_bipush (v := nI 12) dL_refuses_404 (by decide) ?_
        refine G_iload_n dL_refuses_406 rfl rfl ?_
        refine G_iconst (v := nI 2) dL_refuses_407 (by decide) ?_
        refine G_iremN dL_refuses_408 (by omega) (by decide) (by decide) ?_
        have hJ428 : ∀ (a3 : Int32), (gin a3 0 40 = false) → vG (kZs zN) M_L_refuses 428 [some (.ref (b)), some (.int (nI (x))), some (.int (nI (c))), some (.int (nI ((gN S).length))), some (.int (no)), some (.int (nI (m))), none, none] [.int (a3), .int (nI (12)), .ref (b)] (4 * (70 - 22), 24 * (70 - 22)) (σ, v43) (vN (qC σ v b (nI 1, ((t, n), (c, S), D, sl)))) := by
          intro a3 ha3
          refine G_iconst (v := nI 0) dL_refuses_428 (by decide) ?_
          refine G_iconst (v := nI 0) dL_refuses_429 (by decide) ?_
          refine G_lc (E := 70) (u := 22) (u2 := 23) (rest := []) zN_go dL_refuses_430 lL_162 ⟨Nat.le_of_ble_eq_true rfl, Nat.le_of_ble_eq_true rfl⟩ (Nat.le_of_ble_eq_true rfl) hf ⟨by omega, rfl⟩ rv44.2 (vCZ_eq (c_call_12 hT rv44.1 hG hB hf) (x_lay ha3)) (fun v45 rv46 => ?_)
          refine G_top (y := eIA) rfl ?_
          refine G_ldc dL_refuses_433 cL_18 ?_
          refine G_icmp_ne (tgt := 676) dL_refuses_435 (by decide) (fun c435 => (c435 rfl).elim) (fun c435 => ?_)
          refine G_aload_n dL_refuses_438 rfl rfl ?_
          refine G_bipush (v := nI 13) dL_refuses_439 (by decide) ?_
          refine G_iload_n dL_refuses_441 rfl rfl ?_
          refine G_iconst (v := nI 2) dL_refuses_442 (by decide) ?_
          refine G_iremN dL_refuses_443 (by omega) (by decide) (by decide) ?_
          have hJ458 : ∀ (a4 : Int32), (gin a4 1 60 = false) → vG (kZs zN) M_L_refuses 458 [some (.ref (b)), some (.int (nI (x))), some (.int (nI (c))), some (.int (nI ((gN S).length))), some (.int (no)), some (.int (nI (m))), none, none] [.int (a4), .int (nI (13)), .ref (b)] (4 * (70 - 23), 24 * (70 - 23)) (σ, v45) (vN (qC σ v b (nI 1, ((t, n), (c, S), D, sl)))) := by
            intro a4 ha4
            refine G_iconst (v := nI 0) dL_refuses_458 (by decide) ?_
            refine G_iconst (v := nI 0) dL_refuses_459 (by decide) ?_
            refine G_lc (E := 70) (u := 23) (u2 := 24) (rest := []) zN_go dL_refuses_460 lL_162 ⟨Nat.le_of_ble_eq_true rfl, Nat.le_of_ble_eq_true rfl⟩ (Nat.le_of_ble_eq_true rfl) hf ⟨by omega, rfl⟩ rv46.2 (vCZ_eq (c_call_13 hT rv46.1 hG hB hf) (x_tic ha4)) (fun v47 rv48 => ?_)
            refine G_top (y := eIA) rfl ?_
            refine G_ldc dL_refuses_463 cL_18 ?_
            refine G_icmp_ne (tgt := 676) dL_refuses_465 (by decide) (fun c465 => (c465 rfl).elim) (fun c465 => ?_)
            refine G_aload_n dL_refuses_468 rfl rfl ?_
            refine G_bipush (v := nI 15) dL_refuses_469 (by decide) ?_
            refine G_iload dL_refuses_471 rfl ?_
            refine G_iconst (v := nI 1) dL_refuses_473 (by decide) ?_
            refine G_bipush (v := nI 9) dL_refuses_474 (by decide) ?_
            refine G_lc (E := 70) (u := 24) (u2 := 25) (rest := []) zN_go dL_refuses_476 lL_162 ⟨Nat.le_of_ble_eq_true rfl, Nat.le_of_ble_eq_true rfl⟩ (Nat.le_of_ble_eq_true rfl) hf ⟨by omega, rfl⟩ rv48.2 (vCZ_eq (c_call_15 hT rv48.1 hG hB hf) (x_staO hno)) (fun v49 rv50 => ?_)
            refine G_top (y := eIO) rfl ?_
            refine G_ldc dL_refuses_479 cL_15 ?_
            refine G_icmp_ne (tgt := 676) dL_refuses_481 (by decide) (fun c481 => (c481 rfl).elim) (fun c481 => ?_)
            refine G_aload_n dL_refuses_484 rfl rfl ?_
            refine G_bipush (v := nI 15) dL_refuses_485 (by decide) ?_
            refine G_iload dL_refuses_487 rfl ?_
            refine G_iconst (v := nI 1) dL_refuses_489 (by decide) ?_
            refine G_iload dL_refuses_490 rfl ?_
            refine G_ishlN dL_refuses_492 (by omega) ?_
            refine G_iconst (v := nI 2) dL_refuses_493 (by decide) ?_
            refine G_iload_n dL_refuses_494 rfl rfl ?_
            refine G_bipush (v := nI 9) dL_refuses_495 (by decide) ?_
            refine G_iremN dL_refuses_497 (by omega) (by decide) (by decide) ?_
            refine G_iaddN dL_refuses_498 ?_
            refine G_lc (E := 70) (u := 25) (u2 := 26) (rest := []) zN_go dL_refuses_499 lL_162 ⟨Nat.le_of_ble_eq_true rfl, Nat.le_of_ble_eq_true rfl⟩ (Nat.le_of_ble_eq_true rfl) hf ⟨by omega, rfl⟩ rv50.2 (vCZ_eq (c_call_15 hT rv50.1 hG hB hf) (x_staA (mb_t hm hc6) (by rw [gin_f (Or.inr (by omega)) (by omega)]; rfl))) (fun v51 rv52 => ?_)
            refine G_top (y := eIA) rfl ?_
            refine G_ldc dL_refuses_502 cL_18 ?_
            refine G_icmp_ne (tgt := 676) dL_refuses_504 (by decide) (fun c504 => (c504 rfl).elim) (fun c504 => ?_)
            refine G_aload_n dL_refuses_507 rfl rfl ?_
            refine G_bipush (v := nI 15) dL_refuses_508 (by decide) ?_
            refine G_iload dL_refuses_510 rfl ?_
            refine G_iconst (v := nI 0) dL_refuses_512 (by decide) ?_
            refine G_iconst (v := nI 0) dL_refuses_513 (by decide) ?_
            refine G_lc (E := 70) (u := 26) (u2 := 27) (rest := []) zN_go dL_refuses_514 lL_162 ⟨Nat.le_of_ble_eq_true rfl, Nat.le_of_ble_eq_true rfl⟩ (Nat.le_of_ble_eq_true rfl) hf ⟨by omega, rfl⟩ rv52.2 (vCZ_eq (c_call_15 hT rv52.1 hG hB hf) (x_staA (mb_t hm hc6) (by rw [nn (by omega), zero_set, Bool.and_false]))) (fun v53 rv54 => ?_)
            refine G_top (y := eIA) rfl ?_
            refine G_ldc dL_refuses_517 cL_18 ?_
            refine G_icmp_ne (tgt := 676) dL_refuses_519 (by decide) (fun c519 => (c519 rfl).elim) (fun c519 => ?_)
            refine G_aload_n dL_refuses_522 rfl rfl ?_
            refine G_bipush (v := nI 16) dL_refuses_523 (by decide) ?_
            refine G_iload dL_refuses_525 rfl ?_
            refine G_iconst (v := nI 0) dL_refuses_527 (by decide) ?_
            refine G_bipush (v := nI 9) dL_refuses_528 (by decide) ?_
            refine G_lc (E := 70) (u := 27) (u2 := 28) (rest := []) zN_go dL_refuses_530 lL_162 ⟨Nat.le_of_ble_eq_true rfl, Nat.le_of_ble_eq_true rfl⟩ (Nat.le_of_ble_eq_true rfl) hf ⟨by omega, rfl⟩ rv54.2 (vCZ_eq (c_call_16 hT rv54.1 hG hB hf) (x_cmpO (by rw [hno]; rfl))) (fun v55 rv56 => ?_)
            refine G_top (y := eIO) rfl ?_
            refine G_ldc dL_refuses_533 cL_15 ?_
            refine G_icmp_ne (tgt := 676) dL_refuses_535 (by decide) (fun c535 => (c535 rfl).elim) (fun c535 => ?_)
            refine G_aload_n dL_refuses_538 rfl rfl ?_
            refine G_bipush (v := nI 16) dL_refuses_539 (by decide) ?_
            refine G_iconst (v := nI 0) dL_refuses_541 (by decide) ?_
            refine G_iload dL_refuses_542 rfl ?_
            refine G_bipush (v := nI 9) dL_refuses_544 (by decide) ?_
            refine G_lc (E := 70) (u := 28) (u2 := 29) (rest := []) zN_go dL_refuses_546 lL_162 ⟨Nat.le_of_ble_eq_true rfl, Nat.le_of_ble_eq_true rfl⟩ (Nat.le_of_ble_eq_true rfl) hf ⟨by omega, rfl⟩ rv56.2 (vCZ_eq (c_call_16 hT rv56.1 hG hB hf) (x_cmpO (by rw [hno, Bool.and_false]))) (fun v57 rv58 => ?_)
            refine G_top (y := eIO) rfl ?_
            refine G_ldc dL_refuses_549 cL_15 ?_
            refine G_icmp_ne (tgt := 676) dL_refuses_551 (by decide) (fun c551 => (c551 rfl).elim) (fun c551 => ?_)
            refine G_aload_n dL_refuses_554 rfl rfl ?_
            refine G_bipush (v := nI 16) dL_refuses_555 (by decide) ?_
            refine G_iload dL_refuses_557 rfl ?_
            refine G_iconst (v := nI 0) dL_refuses_559 (by decide) ?_
            refine G_iconst (v := nI 2) dL_refuses_560 (by decide) ?_
            refine G_iload_n dL_refuses_561 rfl rfl ?_
            refine G_bipush (v := nI 9) dL_refuses_562 (by decide) ?_
            refine G_iremN dL_refuses_564 (by omega) (by decide) (by decide) ?_
            refine G_iaddN dL_refuses_565 ?_
            refine G_lc (E := 70) (u := 29) (u2 := 30) (rest := []) zN_go dL_refuses_566 lL_162 ⟨Nat.le_of_ble_eq_true rfl, Nat.le_of_ble_eq_true rfl⟩ (Nat.le_of_ble_eq_true rfl) hf ⟨by omega, rfl⟩ rv58.2 (vCZ_eq (c_call_16 hT rv58.1 hG hB hf) (x_cmpA (by rw [mb_t hm hc6, mb_t (by omega) hc6]; rfl) (gin_f (Or.inr (by omega)) (by omega)))) (fun v59 rv60 => ?_)
            refine G_top (y := eIA) rfl ?_
            refine G_ldc dL_refuses_569 cL_18 ?_
            refine G_icmp_ne (tgt := 676) dL_refuses_571 (by decide) (fun c571 => (c571 rfl).elim) (fun c571 => ?_)
            refine G_aload_n dL_refuses_574 rfl rfl ?_
            refine G_bipush (v := nI 17) dL_refuses_575 (by decide) ?_
            refine G_iload dL_refuses_577 rfl ?_
            refine G_iconst (v := nI 0) dL_refuses_579 (by decide) ?_
            refine G_iconst (v := nI 0) dL_refuses_580 (by decide) ?_
            refine G_lc (E := 70) (u := 30) (u2 := 31) (rest := []) zN_go dL_refuses_581 lL_162 ⟨Nat.le_of_ble_eq_true rfl, Nat.le_of_ble_eq_true rfl⟩ (Nat.le_of_ble_eq_true rfl) hf ⟨by omega, rfl⟩ rv60.2 (vCZ_eq (c_call_17 hT rv60.1 hG hB hf) (x_lacO hno)) (fun v61 rv62 => ?_)
            refine G_top (y := eIO) rfl ?_
            refine G_ldc dL_refuses_584 cL_15 ?_
            refine G_icmp_ne (tgt := 676) dL_refuses_586 (by decide) (fun c586 => (c586 rfl).elim) (fun c586 => ?_)
            refine G_aload_n dL_refuses_589 rfl rfl ?_
            refine G_bipush (v := nI 18) dL_refuses_590 (by decide) ?_
            refine G_iconst (v := nI 2) dL_refuses_592 (by decide) ?_
            refine G_iload_n dL_refuses_593 rfl rfl ?_
            refine G_bipush (v := nI 50) dL_refuses_594 (by decide) ?_
            refine G_iremN dL_refuses_596 (by omega) (by decide) (by decide) ?_
            refine G_iaddN dL_refuses_597 ?_
            refine G_iconst (v := nI 0) dL_refuses_598 (by decide) ?_
            refine G_iconst (v := nI 0) dL_refuses_599 (by decide) ?_
            refine G_lc (E := 70) (u := 31) (u2 := 32) (rest := []) zN_go dL_refuses_600 lL_162 ⟨Nat.le_of_ble_eq_true rfl, Nat.le_of_ble_eq_true rfl⟩ (Nat.le_of_ble_eq_true rfl) hf ⟨by omega, rfl⟩ rv62.2 (vCZ_eq (c_call_18 hT rv62.1 hG hB hf) (x_keeO (gin_f (Or.inr (by omega)) (by omega)))) (fun v63 rv64 => ?_)
            refine G_top (y := eIO) rfl ?_
            refine G_ldc dL_refuses_603 cL_15 ?_
            refine G_icmp_ne (tgt := 676) dL_refuses_605 (by decide) (fun c605 => (c605 rfl).elim) (fun c605 => ?_)
            refine G_aload_n dL_refuses_608 rfl rfl ?_
            refine G_bipush (v := nI 19) dL_refuses_609 (by decide) ?_
            refine G_iconst (v := -1) dL_refuses_611 (by decide) ?_
            refine G_iload_n dL_refuses_612 rfl rfl ?_
            refine G_bipush (v := nI 9) dL_refuses_613 (by decide) ?_
            refine G_iremN dL_refuses_615 (by omega) (by decide) (by decide) ?_
            refine G_isub dL_refuses_616 ?_
            refine G_iconst (v := nI 0) dL_refuses_617 (by decide) ?_
            refine G_iconst (v := nI 0) dL_refuses_618 (by decide) ?_
            refine G_lc (E := 70) (u := 32) (u2 := 33) (rest := []) zN_go dL_refuses_619 lL_162 ⟨Nat.le_of_ble_eq_true rfl, Nat.le_of_ble_eq_true rfl⟩ (Nat.le_of_ble_eq_true rfl) hf ⟨by omega, rfl⟩ rv64.2 (vCZ_eq (c_call_19 hT rv64.1 hG hB hf) (x_bacO (neg_gin (by omega)))) (fun v65 rv66 => ?_)
            refine G_top (y := eIO) rfl ?_
            refine G_ldc dL_refuses_622 cL_15 ?_
            refine G_icmp_ne (tgt := 676) dL_refuses_624 (by decide) (fun c624 => (c624 rfl).elim) (fun c624 => ?_)
            refine G_aload_n dL_refuses_627 rfl rfl ?_
            refine G_iconst (v := nI 0) dL_refuses_628 (by decide) ?_
            refine G_lconst (v := 0) dL_refuses_629 (by decide) ?_
            refine G_lw (np := 3) (hh := [(0, 6, 7, 16)]) (E := 70) (u := 33) (u2 := 34) (rest := []) (As := [.ref (b), .int (nI (0)), .long ((0))]) (fun _ _ _ _ z9 => z9) dL_refuses_630 lL_169 (aw_t 830 (by decide +kernel) (by decide +kernel)) (aw_t 0 (by decide +kernel) (by decide +kernel)) ⟨by decide +kernel, by decide +kernel, by decide +kernel⟩ ys_L_doScript ⟨Nat.le_of_ble_eq_true rfl, Nat.le_of_ble_eq_true rfl⟩ rfl rfl (Nat.le_of_ble_eq_true rfl) rfl hf ⟨by omega, rfl⟩ rv66.2 (vCG_eq (c_L_doScript hT rv66.1 hG hB hf) (x_scr scr_0)) (fun v67 rv68 => ?_)
            refine G_ldc dL_refuses_633 cL_18 ?_
            refine G_icmp_ne (tgt := 676) dL_refuses_635 (by decide) (fun c635 => (c635 rfl).elim) (fun c635 => ?_)
            refine G_aload_n dL_refuses_638 rfl rfl ?_
            refine G_iconst (v := nI 1) dL_refuses_639 (by decide) ?_
            refine G_ldc2_w dL_refuses_640 cL_173 ?_
            refine G_iload_n dL_refuses_643 rfl rfl ?_
            refine G_i2l dL_refuses_644 ?_
            refine G_ladd dL_refuses_645 ?_
            refine G_lw (np := 3) (hh := [(0, 6, 7, 16)]) (E := 70) (u := 34) (u2 := 35) (rest := []) (As := [.ref (b), .int (nI (1)), .long (((100000) + (nI (x)).toInt64))]) (fun _ _ _ _ z9 => z9) dL_refuses_646 lL_169 (aw_t 830 (by decide +kernel) (by decide +kernel)) (aw_t 0 (by decide +kernel) (by decide +kernel)) ⟨by decide +kernel, by decide +kernel, by decide +kernel⟩ ys_L_doScript ⟨Nat.le_of_ble_eq_true rfl, Nat.le_of_ble_eq_true rfl⟩ rfl rfl (Nat.le_of_ble_eq_true rfl) rfl hf ⟨by omega, rfl⟩ rv68.2 (vCG_eq (c_L_doScript hT rv68.1 hG hB hf) (x_scr (scr_1 (by omega)))) (fun v69 rv70 => ?_)
            refine G_ldc dL_refuses_649 cL_18 ?_
            refine G_icmp_ne (tgt := 676) dL_refuses_651 (by decide) (fun c651 => (c651 rfl).elim) (fun c651 => ?_)
            refine G_aload_n dL_refuses_654 rfl rfl ?_
            refine G_iload_n dL_refuses_655 rfl rfl ?_
            refine G_i2l dL_refuses_656 ?_
            refine G_bipush (v := nI 61) dL_refuses_657 (by decide) ?_
            refine G_iload_n dL_refuses_659 rfl rfl ?_
            refine G_bipush (v := nI 9) dL_refuses_660 (by decide) ?_
            refine G_iremN dL_refuses_662 (by omega) (by decide) (by decide) ?_
            refine G_iaddN dL_refuses_663 ?_
            refine G_lw (np := 3) (hh := [(0, 6, 7, 16)]) (E := 70) (u := 35) (u2 := 36) (rest := []) (As := [.ref (b), .long ((nI (x)).toInt64), .int (nI (61 + (x % 9)))]) (fun _ _ _ _ z9 => z9) dL_refuses_664 lL_175 (aw_t 846 (by decide +kernel) (by decide +kernel)) (aw_t 0 (by decide +kernel) (by decide +kernel)) ⟨by decide +kernel, by decide +kernel, by decide +kernel⟩ ys_L_doSimulate ⟨Nat.le_of_ble_eq_true rfl, Nat.le_of_ble_eq_true rfl⟩ rfl rfl (Nat.le_of_ble_eq_true rfl) rfl hf ⟨by omega, rfl⟩ rv70.2 (vCG_eq (c_L_doSimulate hT rv70.1 hG hB hf) (x_sim (gin_f (Or.inr (by omega)) (by omega)))) (fun v71 rv72 => ?_)
            refine G_ldc dL_refuses_667 cL_18 ?_
            refine G_icmp_ne (tgt := 676) dL_refuses_669 (by decide) (fun c669 => (c669 rfl).elim) (fun c669 => ?_)
            refine G_iconst (v := nI 1) dL_refuses_672 (by decide) ?_
            refine G_goto (tgt := 677) dL_refuses_673 (by decide) ?_
            refine G_istore (ls2 := [some (.ref (b)), some (.int (nI (x))), some (.int (nI (c))), some (.int (nI ((gN S).length))), some (.int (no)), some (.int (nI (m))), some (.int (nI (1))), none]) dL_refuses_677 (by decide) rfl ?_
            refine G_aload_n dL_refuses_679 rfl rfl ?_
            refine G_iconst (v := nI 3) dL_refuses_680 (by decide) ?_
            refine G_iload dL_refuses_681 rfl ?_
            refine G_iconst (v := nI 1) dL_refuses_683 (by decide) ?_
            refine G_iconst (v := nI 0) dL_refuses_684 (by decide) ?_
            refine G_lc (E := 70) (u := 36) (u2 := 37) (rest := []) zN_go dL_refuses_685 lL_162 ⟨Nat.le_of_ble_eq_true rfl, Nat.le_of_ble_eq_true rfl⟩ (Nat.le_of_ble_eq_true rfl) hf ⟨by omega, rfl⟩ rv72.2 (r_member (by omega) (by decide) hT rv72.1 hG hB hf) (fun v73 rv74 => ?_)
            refine G_top (y := nI (gM S m 1)) rfl ?_
            refine G_iconst (v := nI 2) dL_refuses_688 (by decide) ?_
            refine G_icmp_neN (tgt := 696) dL_refuses_689 (by decide) (by have := hN.m1 m; omega) (by omega) (fun c689 => ?_) (fun c689 => ?_)
            · refine G_iconst (v := nI 0) dL_refuses_696 (by decide) ?_
              refine G_istore (ls2 := [some (.ref (b)), some (.int (nI (x))), some (.int (nI (c))), some (.int (nI ((gN S).length))), some (.int (no)), some (.int (nI (m))), some (.int (nI (1))), some (.int (nI (0)))]) dL_refuses_697 (by decide) rfl ?_
              refine G_iload dL_refuses_699 rfl ?_
              refine G_if_eqN (tgt := 796) dL_refuses_701 (by decide) (by decide) (fun q9 => absurd q9 (by decide)) (fun _ => ?_)
              refine G_iload dL_refuses_704 rfl ?_
              refine G_if_eqN (tgt := 777) dL_refuses_706 (by decide) (by decide) (fun _ => ?_) (fun q9 => absurd q9 (by decide))
              refine G_aload_n dL_refuses_777 rfl rfl ?_
              refine G_bipush (v := nI 11) dL_refuses_778 (by decide) ?_
              refine G_iload dL_refuses_780 rfl ?_
              refine G_iconst (v := nI 0) dL_refuses_782 (by decide) ?_
              refine G_iconst (v := nI 0) dL_refuses_783 (by decide) ?_
              refine G_lc (E := 70) (u := 37) (u2 := 38) (rest := []) zN_go dL_refuses_784 lL_162 ⟨Nat.le_of_ble_eq_true rfl, Nat.le_of_ble_eq_true rfl⟩ (Nat.le_of_ble_eq_true rfl) hf ⟨by omega, rfl⟩ rv74.2 (vCZ_eq (c_call_11 hT rv74.1 hG hB hf) (x_retS (mb_t hm hc6) (by rw [nn (by omega)]; exact c689))) (fun v75 rv76 => ?_)
              refine G_top (y := eIS) rfl ?_
              refine G_ldc dL_refuses_787 cL_33 ?_
              refine G_icmp_ne (tgt := 796) dL_refuses_789 (by decide) (fun c789 => (c789 rfl).elim) (fun c789 => ?_)
              refine G_iconst (v := nI 1) dL_refuses_792 (by decide) ?_
              refine G_goto (tgt := 797) dL_refuses_793 (by decide) ?_
              refine G_istore (ls2 := [some (.ref (b)), some (.int (nI (x))), some (.int (nI (c))), some (.int (nI ((gN S).length))), some (.int (no)), some (.int (nI (m))), some (.int (nI (1))), some (.int (nI (0)))]) dL_refuses_797 (by decide) rfl ?_
              refine G_iload dL_refuses_799 rfl ?_
              refine G_if_eqN (tgt := 851) dL_refuses_801 (by decide) (by decide) (fun q9 => absurd q9 (by decide)) (fun _ => ?_)
              refine G_iload_n dL_refuses_804 rfl rfl ?_
              refine G_if_eqN (tgt := 827) dL_refuses_805 (by decide) (by omega) (fun c805 => ?_) (fun c805 => ?_)
              · refine G_iload_n dL_refuses_827 rfl rfl ?_
                refine G_bipush (v := nI 6) dL_refuses_828 (by decide) ?_
                refine G_icmp_ltN (tgt := 847) dL_refuses_830 (by decide) (by omega) (by omega) (fun c830 => ?_) (fun c830 => ?_)
                · refine G_iconst (v := nI 1) dL_refuses_847 (by decide) ?_
                  refine G_goto (tgt := 852) dL_refuses_848 (by decide) ?_
                  refine G_zret dL_refuses_852 rfl (by decide) ?_
                  exact qc_end rv76 rfl
                · refine G_aload_n dL_refuses_833 rfl rfl ?_
                  refine G_bipush (v := nI 7) dL_refuses_834 (by decide) ?_
                  refine G_iconst (v := nI 3) dL_refuses_836 (by decide) ?_
                  refine G_iconst (v := nI 0) dL_refuses_837 (by decide) ?_
                  refine G_iconst (v := nI 0) dL_refuses_838 (by decide) ?_
                  refine G_lc (E := 70) (u := 38) (u2 := 39) (rest := []) zN_go dL_refuses_839 lL_162 ⟨Nat.le_of_ble_eq_true rfl, Nat.le_of_ble_eq_true rfl⟩ (Nat.le_of_ble_eq_true rfl) hf ⟨by omega, rfl⟩ rv76.2 (vCZ_eq (c_call_7 hT rv76.1 hG hB hf) (x_comS (gin_t (by decide) (by decide) (by decide)) (by omega))) (fun v77 rv78 => ?_)
                  refine G_top (y := eIS) rfl ?_
                  refine G_ldc dL_refuses_842 cL_33 ?_
                  refine G_icmp_ne (tgt := 851) dL_refuses_844 (by decide) (fun c844 => (c844 rfl).elim) (fun c844 => ?_)
                  refine G_iconst (v := nI 1) dL_refuses_847 (by decide) ?_
                  refine G_goto (tgt := 852) dL_refuses_848 (by decide) ?_
                  refine G_zret dL_refuses_852 rfl (by decide) ?_
                  exact qc_end rv78 rfl
              · refine G_aload_n dL_refuses_808 rfl rfl ?_
                refine G_iconst (v := nI 5) dL_refuses_809 (by decide) ?_
                refine G_iconst (v := nI 0) dL_refuses_810 (by decide) ?_
                refine G_bipush (v := nI 6) dL_refuses_811 (by decide) ?_
                refine G_iload_n dL_refuses_813 rfl rfl ?_
                refine G_bipush (v := nI 9) dL_refuses_814 (by decide) ?_
                refine G_iremN dL_refuses_816 (by omega) (by decide) (by decide) ?_
                refine G_iaddN dL_refuses_817 ?_
                refine G_iconst (v := nI 0) dL_refuses_818 (by decide) ?_
                refine G_lc (E := 70) (u := 38) (u2 := 39) (rest := []) zN_go dL_refuses_819 lL_162 ⟨Nat.le_of_ble_eq_true rfl, Nat.le_of_ble_eq_true rfl⟩ (Nat.le_of_ble_eq_true rfl) hf ⟨by omega, rfl⟩ rv76.2 (vCZ_eq (c_call_5 hT rv76.1 hG hB hf) (x_notA (idx_t (by omega) (by omega)) (gin_f (Or.inr (by omega)) (by omega)))) (fun v79 rv80 => ?_)
                refine G_top (y := eIA) rfl ?_
                refine G_ldc dL_refuses_822 cL_18 ?_
                refine G_icmp_ne (tgt := 851) dL_refuses_824 (by decide) (fun c824 => (c824 rfl).elim) (fun c824 => ?_)
                refine G_iload_n dL_refuses_827 rfl rfl ?_
                refine G_bipush (v := nI 6) dL_refuses_828 (by decide) ?_
                refine G_icmp_ltN (tgt := 847) dL_refuses_830 (by decide) (by omega) (by omega) (fun c830 => ?_) (fun c830 => ?_)
                · refine G_iconst (v := nI 1) dL_refuses_847 (by decide) ?_
                  refine G_goto (tgt := 852) dL_refuses_848 (by decide) ?_
                  refine G_zret dL_refuses_852 rfl (by decide) ?_
                  exact qc_end rv80 rfl
                · refine G_aload_n dL_refuses_833 rfl rfl ?_
                  refine G_bipush (v := nI 7) dL_refuses_834 (by decide) ?_
                  refine G_iconst (v := nI 3) dL_refuses_836 (by decide) ?_
                  refine G_iconst (v := nI 0) dL_refuses_837 (by decide) ?_
                  refine G_iconst (v := nI 0) dL_refuses_838 (by decide) ?_
                  refine G_lc (E := 70) (u := 39) (u2 := 40) (rest := []) zN_go dL_refuses_839 lL_162 ⟨Nat.le_of_ble_eq_true rfl, Nat.le_of_ble_eq_true rfl⟩ (Nat.le_of_ble_eq_true rfl) hf ⟨by omega, rfl⟩ rv80.2 (vCZ_eq (c_call_7 hT rv80.1 hG hB hf) (x_comS (gin_t (by decide) (by decide) (by decide)) (by omega))) (fun v81 rv82 => ?_)
                  refine G_top (y := eIS) rfl ?_
                  refine G_ldc dL_refuses_842 cL_33 ?_
                  refine G_icmp_ne (tgt := 851) dL_refuses_844 (by decide) (fun c844 => (c844 rfl).elim) (fun c844 => ?_)
                  refine G_iconst (v := nI 1) dL_refuses_847 (by decide) ?_
                  refine G_goto (tgt := 852) dL_refuses_848 (by decide) ?_
                  refine G_zret dL_refuses_852 rfl (by decide) ?_
                  exact qc_end rv82 rfl
            · refine G_iconst (v := nI 1) dL_refuses_692 (by decide) ?_
              refine G_goto (tgt := 697) dL_refuses_693 (by decide) ?_
              refine G_istore (ls2 := [some (.ref (b)), some (.int (nI (x))), some (.int (nI (c))), some (.int (nI ((gN S).length))), some (.int (no)), some (.int (nI (m))), some (.int (nI (1))), some (.int (nI (1)))]) dL_refuses_697 (by decide) rfl ?_
              refine G_iload dL_refuses_699 rfl ?_
              refine G_if_eqN (tgt := 796) dL_refuses_701 (by decide) (by decide) (fun q9 => absurd q9 (by decide)) (fun _ => ?_)
              refine G_iload dL_refuses_704 rfl ?_
              refine G_if_eqN (tgt := 777) dL_refuses_706 (by decide) (by decide) (fun q9 => absurd q9 (by decide)) (fun _ => ?_)
              refine G_aload_n dL_refuses_709 rfl rfl ?_
              refine G_bipush (v := nI 8) dL_refuses_710 (by decide) ?_
              refine G_iload dL_refuses_712 rfl ?_
              refine G_iconst (v := nI 0) dL_refuses_714 (by decide) ?_
              refine G_iconst (v := nI 0) dL_refuses_715 (by decide) ?_
              refine G_lc (E := 70) (u := 37) (u2 := 38) (rest := []) zN_go dL_refuses_716 lL_162 ⟨Nat.le_of_ble_eq_true rfl, Nat.le_of_ble_eq_true rfl⟩ (Nat.le_of_ble_eq_true rfl) hf ⟨by omega, rfl⟩ rv74.2 (vCZ_eq (c_call_8 hT rv74.1 hG hB hf) (x_sayS (mb_t hm hc6) (by rw [nn (by omega)]; omega))) (fun v83 rv84 => ?_)
              refine G_top (y := eIS) rfl ?_
              refine G_ldc dL_refuses_719 cL_33 ?_
              refine G_icmp_ne (tgt := 796) dL_refuses_721 (by decide) (fun c721 => (c721 rfl).elim) (fun c721 => ?_)
              refine G_aload_n dL_refuses_724 rfl rfl ?_
              refine G_bipush (v := nI 9) dL_refuses_725 (by decide) ?_
              refine G_iload dL_refuses_727 rfl ?_
              refine G_iconst (v := nI 1) dL_refuses_729 (by decide) ?_
              refine G_iload dL_refuses_730 rfl ?_
              refine G_ishlN dL_refuses_732 (by omega) ?_
              refine G_iconst (v := nI 0) dL_refuses_733 (by decide) ?_
              refine G_lc (E := 70) (u := 38) (u2 := 39) (rest := []) zN_go dL_refuses_734 lL_162 ⟨Nat.le_of_ble_eq_true rfl, Nat.le_of_ble_eq_true rfl⟩ (Nat.le_of_ble_eq_true rfl) hf ⟨by omega, rfl⟩ rv84.2 (vCZ_eq (c_call_9 hT rv84.1 hG hB hf) (x_calS (mb_t hm hc6) (by rw [nn (by omega)]; exact one_set hc6 hm) (by rw [nn (by omega)]; exact c689))) (fun v85 rv86 => ?_)
              refine G_top (y := eIS) rfl ?_
              refine G_ldc dL_refuses_737 cL_33 ?_
              refine G_icmp_ne (tgt := 796) dL_refuses_739 (by decide) (fun c739 => (c739 rfl).elim) (fun c739 => ?_)
              refine G_aload_n dL_refuses_742 rfl rfl ?_
              refine G_bipush (v := nI 10) dL_refuses_743 (by decide) ?_
              refine G_iload dL_refuses_745 rfl ?_
              refine G_iconst (v := nI 0) dL_refuses_747 (by decide) ?_
              refine G_iconst (v := nI 0) dL_refuses_748 (by decide) ?_
              refine G_lc (E := 70) (u := 39) (u2 := 40) (rest := []) zN_go dL_refuses_749 lL_162 ⟨Nat.le_of_ble_eq_true rfl, Nat.le_of_ble_eq_true rfl⟩ (Nat.le_of_ble_eq_true rfl) hf ⟨by omega, rfl⟩ rv86.2 (vCZ_eq (c_call_10 hT rv86.1 hG hB hf) (x_leaS (mb_t hm hc6) (by rw [nn (by omega)]; exact c689))) (fun v87 rv88 => ?_)
              refine G_top (y := eIS) rfl ?_
              refine G_ldc dL_refuses_752 cL_33 ?_
              refine G_icmp_ne (tgt := 796) dL_refuses_754 (by decide) (fun c754 => (c754 rfl).elim) (fun c754 => ?_)
              refine G_aload_n dL_refuses_757 rfl rfl ?_
              refine G_bipush (v := nI 15) dL_refuses_758 (by decide) ?_
              refine G_iload dL_refuses_760 rfl ?_
              refine G_iconst (v := nI 1) dL_refuses_762 (by decide) ?_
              refine G_iload dL_refuses_763 rfl ?_
              refine G_ishlN dL_refuses_765 (by omega) ?_
              refine G_iconst (v := nI 0) dL_refuses_766 (by decide) ?_
              refine G_lc (E := 70) (u := 40) (u2 := 41) (rest := []) zN_go dL_refuses_767 lL_162 ⟨Nat.le_of_ble_eq_true rfl, Nat.le_of_ble_eq_true rfl⟩ (Nat.le_of_ble_eq_true rfl) hf ⟨by omega, rfl⟩ rv88.2 (vCZ_eq (c_call_15 hT rv88.1 hG hB hf) (x_staN (mb_t hm hc6) (by rw [nn (by omega), gin_t (by decide) (by decide) (by decide), one_set hc6 hm]; rfl) (by rw [nn (by omega)]; exact c689))) (fun v89 rv90 => ?_)
              refine G_top (y := (-1)) rfl ?_
              refine G_iconst (v := -1) dL_refuses_770 (by decide) ?_
              refine G_icmp_ne (tgt := 796) dL_refuses_771 (by decide) (fun c771 => (c771 rfl).elim) (fun c771 => ?_)
              refine G_goto (tgt := 792) dL_refuses_774 (by decide) ?_
              refine G_iconst (v := nI 1) dL_refuses_792 (by decide) ?_
              refine G_goto (tgt := 797) dL_refuses_793 (by decide) ?_
              refine G_istore (ls2 := [some (.ref (b)), some (.int (nI (x))), some (.int (nI (c))), some (.int (nI ((gN S).length))), some (.int (no)), some (.int (nI (m))), some (.int (nI (1))), some (.int (nI (1)))]) dL_refuses_797 (by decide) rfl ?_
              refine G_iload dL_refuses_799 rfl ?_
              refine G_if_eqN (tgt := 851) dL_refuses_801 (by decide) (by decide) (fun q9 => absurd q9 (by decide)) (fun _ => ?_)
              refine G_iload_n dL_refuses_804 rfl rfl ?_
              refine G_if_eqN (tgt := 827) dL_refuses_805 (by decide) (by omega) (fun c805 => ?_) (fun c805 => ?_)
              · refine G_iload_n dL_refuses_827 rfl rfl ?_
                refine G_bipush (v := nI 6) dL_refuses_828 (by decide) ?_
                refine G_icmp_ltN (tgt := 847) dL_refuses_830 (by decide) (by omega) (by omega) (fun c830 => ?_) (fun c830 => ?_)
                · refine G_iconst (v := nI 1) dL_refuses_847 (by decide) ?_
                  refine G_goto (tgt := 852) dL_refuses_848 (by decide) ?_
                  refine G_zret dL_refuses_852 rfl (by decide) ?_
                  exact qc_end rv90 rfl
                · refine G_aload_n dL_refuses_833 rfl rfl ?_
                  refine G_bipush (v := nI 7) dL_refuses_834 (by decide) ?_
                  refine G_iconst (v := nI 3) dL_refuses_836 (by decide) ?_
                  refine G_iconst (v := nI 0) dL_refuses_837 (by decide) ?_
                  refine G_iconst (v := nI 0) dL_refuses_838 (by decide) ?_
                  refine G_lc (E := 70) (u := 41) (u2 := 42) (rest := []) zN_go dL_refuses_839 lL_162 ⟨Nat.le_of_ble_eq_true rfl, Nat.le_of_ble_eq_true rfl⟩ (Nat.le_of_ble_eq_true rfl) hf ⟨by omega, rfl⟩ rv90.2 (vCZ_eq (c_call_7 hT rv90.1 hG hB hf) (x_comS (gin_t (by decide) (by decide) (by decide)) (by omega))) (fun v91 rv92 => ?_)
                  refine G_top (y := eIS) rfl ?_
                  refine G_ldc dL_refuses_842 cL_33 ?_
                  refine G_icmp_ne (tgt := 851) dL_refuses_844 (by decide) (fun c844 => (c844 rfl).elim) (fun c844 => ?_)
                  refine G_iconst (v := nI 1) dL_refuses_847 (by decide) ?_
                  refine G_goto (tgt := 852) dL_refuses_848 (by decide) ?_
                  refine G_zret dL_refuses_852 rfl (by decide) ?_
                  exact qc_end rv92 rfl
              · refine G_aload_n dL_refuses_808 rfl rfl ?_
                refine G_iconst (v := nI 5) dL_refuses_809 (by decide) ?_
                refine G_iconst (v := nI 0) dL_refuses_810 (by decide) ?_
                refine G_bipush (v := nI 6) dL_refuses_811 (by decide) ?_
                refine G_iload_n dL_refuses_813 rfl rfl ?_
                refine G_bipush (v := nI 9) dL_refuses_814 (by decide) ?_
                refine G_iremN dL_refuses_816 (by omega) (by decide) (by decide) ?_
                refine G_iaddN dL_refuses_817 ?_
                refine G_iconst (v := nI 0) dL_refuses_818 (by decide) ?_
                refine G_lc (E := 70) (u := 41) (u2 := 42) (rest := []) zN_go dL_refuses_819 lL_162 ⟨Nat.le_of_ble_eq_true rfl, Nat.le_of_ble_eq_true rfl⟩ (Nat.le_of_ble_eq_true rfl) hf ⟨by omega, rfl⟩ rv90.2 (vCZ_eq (c_call_5 hT rv90.1 hG hB hf) (x_notA (idx_t (by omega) (by omega)) (gin_f (Or.inr (by omega)) (by omega)))) (fun v93 rv94 => ?_)
                refine G_top (y := eIA) rfl ?_
                refine G_ldc dL_refuses_822 cL_18 ?_
                refine G_icmp_ne (tgt := 851) dL_refuses_824 (by decide) (fun c824 => (c824 rfl).elim) (fun c824 => ?_)
                refine G_iload_n dL_refuses_827 rfl rfl ?_
                refine G_bipush (v := nI 6) dL_refuses_828 (by decide) ?_
                refine G_icmp_ltN (tgt := 847) dL_refuses_830 (by decide) (by omega) (by omega) (fun c830 => ?_) (fun c830 => ?_)
                · refine G_iconst (v := nI 1) dL_refuses_847 (by decide) ?_
                  refine G_goto (tgt := 852) dL_refuses_848 (by decide) ?_
                  refine G_zret dL_refuses_852 rfl (by decide) ?_
                  exact qc_end rv94 rfl
                · refine G_aload_n dL_refuses_833 rfl rfl ?_
                  refine G_bipush (v := nI 7) dL_refuses_834 (by decide) ?_
                  refine G_iconst (v := nI 3) dL_refuses_836 (by decide) ?_
                  refine G_iconst (v := nI 0) dL_refuses_837 (by decide) ?_
                  refine G_iconst (v := nI 0) dL_refuses_838 (by decide) ?_
                  refine G_lc (E := 70) (u := 42) (u2 := 43) (rest := []) zN_go dL_refuses_839 lL_162 ⟨Nat.le_of_ble_eq_true rfl, Nat.le_of_ble_eq_true rfl⟩ (Nat.le_of_ble_eq_true rfl) hf ⟨by omega, rfl⟩ rv94.2 (vCZ_eq (c_call_7 hT rv94.1 hG hB hf) (x_comS (gin_t (by decide) (by decide) (by decide)) (by omega))) (fun v95 rv96 => ?_)
                  refine G_top (y := eIS) rfl ?_
                  refine G_ldc dL_refuses_842 cL_33 ?_
                  refine G_icmp_ne (tgt := 851) dL_refuses_844 (by decide) (fun c844 => (c844 rfl).elim) (fun c844 => ?_)
                  refine G_iconst (v := nI 1) dL_refuses_847 (by decide) ?_
                  refine G_goto (tgt := 852) dL_refuses_848 (by decide) ?_
                  refine G_zret dL_refuses_852 rfl (by decide) ?_
                  exact qc_end rv96 rfl
          refine G_if_neN (tgt := 451) dL_refuses_444 (by decide) (by omega) (fun c444 => ?_) (fun c444 => ?_)
          · refine G_bipush (v := nI 61) dL_refuses_451 (by decide) ?_
            refine G_iload_n dL_refuses_453 rfl rfl ?_
            refine G_bipush (v := nI 9) dL_refuses_454 (by decide) ?_
            refine G_iremN dL_refuses_456 (by omega) (by decide) (by decide) ?_
            refine G_iaddN dL_refuses_457 ?_
            exact hJ458 _ (gin_f (Or.inr (by omega)) (by omega))
          · refine G_iconst (v := nI 0) dL_refuses_447 (by decide) ?_
            refine G_goto (tgt := 458) dL_refuses_448 (by decide) ?_
            exact hJ458 _ (gin_f (Or.inl (by decide)) (by decide))
        refine G_if_neN (tgt := 421) dL_refuses_409 (by decide) (by omega) (fun c409 => ?_) (fun c409 => ?_)
        · refine G_bipush (v := nI 41) dL_refuses_421 (by decide) ?_
          refine G_iload_n dL_refuses_423 rfl rfl ?_
          refine G_bipush (v := nI 9) dL_refuses_424 (by decide) ?_
          refine G_iremN dL_refuses_426 (by omega) (by decide) (by decide) ?_
          refine G_iaddN dL_refuses_427 ?_
          exact hJ428 _ (gin_f (Or.inr (by omega)) (by omega))
        · refine G_iconst (v := -1) dL_refuses_412 (by decide) ?_
          refine G_iload_n dL_refuses_413 rfl rfl ?_
          refine G_bipush (v := nI 9) dL_refuses_414 (by decide) ?_
          refine G_iremN dL_refuses_416 (by omega) (by decide) (by decide) ?_
          refine G_isub dL_refuses_417 ?_
          refine G_goto (tgt := 428) dL_refuses_418 (by decide) ?_
          exact hJ428 _ (neg_gin (by omega))
      refine G_if_neN (tgt := 241) dL_refuses_234 (by decide) (by omega) (fun c234 => ?_) (fun c234 => ?_)
      · refine G_bipush (v := nI 10) dL_refuses_241 (by decide) ?_
        refine G_iload_n dL_refuses_243 rfl rfl ?_
        refine G_bipush (v := nI 9) dL_refuses_244 (by decide) ?_
        refine G_iremN dL_refuses_246 (by omega) (by decide) (by decide) ?_
        refine G_iaddN dL_refuses_247 ?_
        exact hJ248 _ (gin_f (Or.inr (by omega)) (by omega))
      · refine G_iconst (v := -1) dL_refuses_237 (by decide) ?_
        refine G_goto (tgt := 248) dL_refuses_238 (by decide) ?_
        exact hJ248 _ (neg1_gin)
    refine G_if_neN (tgt := 63) dL_refuses_51 (by decide) (by omega) (fun c51 => ?_) (fun c51 => ?_)
    · refine G_sipush (v := nI 256) dL_refuses_63 (by decide) ?_
      refine G_iload_n dL_refuses_66 rfl rfl ?_
      refine G_bipush (v := nI 9) dL_refuses_67 (by decide) ?_
      refine G_iremN dL_refuses_69 (by omega) (by decide) (by decide) ?_
      refine G_iaddN dL_refuses_70 ?_
      exact hJ71 _ (gin_f (Or.inr (by omega)) (by omega))
    · refine G_iconst (v := -1) dL_refuses_54 (by decide) ?_
      refine G_iload_n dL_refuses_55 rfl rfl ?_
      refine G_bipush (v := nI 9) dL_refuses_56 (by decide) ?_
      refine G_iremN dL_refuses_58 (by omega) (by decide) (by decide) ?_
      refine G_isub dL_refuses_59 ?_
      refine G_goto (tgt := 71) dL_refuses_60 (by decide) ?_
      exact hJ71 _ (neg_gin (by omega))
  refine G_if_neN (tgt := 33) dL_refuses_21 (by decide) (by omega) (fun c21 => ?_) (fun c21 => ?_)
  · refine G_iload_n dL_refuses_33 rfl rfl ?_
    refine G_iload_n dL_refuses_34 rfl rfl ?_
    refine G_bipush (v := nI 99) dL_refuses_35 (by decide) ?_
    refine G_iremN dL_refuses_37 (by omega) (by decide) (by decide) ?_
    refine G_iaddN dL_refuses_38 ?_
    exact hJ39 _ (no_mb hc6 (by omega))
  · refine G_iconst (v := -1) dL_refuses_24 (by decide) ?_
    refine G_iload_n dL_refuses_25 rfl rfl ?_
    refine G_bipush (v := nI 99) dL_refuses_26 (by decide) ?_
    refine G_iremN dL_refuses_28 (by omega) (by decide) (by decide) ?_
    refine G_isub dL_refuses_29 ?_
    refine G_goto (tgt := 39) dL_refuses_30 (by decide) ?_
    exact hJ39 _ (neg_mb (by omega))
