
/-! THE LAW'S SMALL METHODS -/
theorem G_together {Z9 : kZ9} {M : vR} {pc idx E u b : Nat} {ls : List (Option Value)} {rest : List Value} {σ : vS} {v0 v : vV} {x : Int32} {T : gT} {Q : vO → vM → Prop} (hd : decode (vCC M) pc = .ok (.invokevirtual idx, 3)) (hl : Cond.methodLink (vOwn M) idx yX6_together ∈ aw) (hcat : (rest.map fun v => v.category).sum ≤ 8) (hn : vK σ b 6 0) (hR : (vRm M_X6_together).frames + 1 ≤ (vRm M).frames ∧ 8 + (vNL M_X6_together + 11) + (vRm M_X6_together).locals ≤ (vRm M).locals) (hf : σ.2.2.2 = false) (hv : vOw v0 v b 1603) (hc : vC M_X6_together yX6_together [.ref b] (σ, v) (fun o μ' => ∃ v9, o = some (.int x) ∧ μ' = (σ, v9) ∧ KT v9 b T ∧ vOw v v9 b 1603)) (K : ∀ v', RV v0 b T v' → vG Z9 M (pc + 3) ls (.int x :: rest) (4 * (E - u), 24 * (E - u)) (σ, v') Q) : vG Z9 M pc ls (.ref b :: rest) (4 * (E - u), 24 * (E - u)) (σ, v) Q := by
  refine G_callV (rest := rest) (As := []) hd hl yk_X6_together yv_X6_together kX6 rfl hR hn rfl rfl hcat ⟨Nat.zero_le _, Nat.zero_le _⟩ hc ?_ ?_
  · rintro o μ ⟨v9, rfl, rfl, -, -⟩ g
    exact absurd (hf.symm.trans g) Bool.false_ne_true
  · rintro o μ ⟨v9, rfl, rfl, hK9, hw9⟩
    exact K v9 ⟨hK9, vOw.tr hv hw9⟩
theorem qc_end {σ : vS} {v0 v : vV} {b : Nat} {x y : Int32} {T : gT} (h : RV v0 b T v) (e : x = y) : vN (qC σ v0 b (y, T)) (.inl (some (.int x))) (σ, v) := ⟨by rw [e], v, rfl, h.1, h.2⟩
theorem bits_dec : ∀ x, x < 64 → 0 < x → mbits (x &&& (x - 1)) 24 + 1 = mbits x 24 ∧ x &&& (x - 1) < x := by decide +kernel
theorem mbits_0 : mbits 0 24 = 0 := by decide
theorem nI_neq {k : Nat} (hk : k < 2147483648) {x : Int32} (hx : x.toInt < 0) : nI k ≠ x := fun e => by
  have := nI_toInt hk
  rw [e] at this
  omega
theorem nxt_5 {c B : Nat} {S : mS} (hN : NB c S B) (m k : Nat) : (nxt (gH S m) (gM S m 2, gM S m 3) k).1 ≤ B ∧ (nxt (gH S m) (gM S m 2, gM S m 3) k).2 < 6 := by
  unfold nxt
  split
  · rename_i q
    have := hN.hd q
    exact ⟨this.1, this.2.1⟩
  · exact ⟨hN.m2 m, hN.m3 m⟩
theorem fact_tog {c B a d k l : Nat} {S : mS} (hJ : IJ c S) (hN : NB c S B) (ha : a < c) (hd : d < c) (hk : k < (gH S a).length) (hl : l < (gH S d).length) (e1 : ((gH S a).getD k t0).1 = ((gH S d).getD l t0).1) (e2 : ((gH S a).getD k t0).2.1 = ((gH S d).getD l t0).2.1) (e3 : 10 * (nxt (gH S a) (gM S a 2, gM S a 3) k).1 + (nxt (gH S a) (gM S a 2, gM S a 3) k).2 = 10 * (nxt (gH S d) (gM S d 2, gM S d 3) l).1 + (nxt (gH S d) (gM S d 2, gM S d 3) l).2) : ((gH S a).getD k t0).2.2 = ((gH S d).getD l t0).2.2 := by
  obtain ⟨F, W, G, -, -, h⟩ := hJ
  have h1 := ((h.1 a ha).2.2.2.2.2 k hk).2.2
  have h2 := ((h.1 d hd).2.2.2.2.2 l hl).2.2
  have b1 := nxt_5 hN a k
  have b2 := nxt_5 hN d l
  rw [h1, h2, e1, e2, show (nxt (gH S a) (gM S a 2, gM S a 3) k).1 = (nxt (gH S d) (gM S d 2, gM S d 3) l).1 by omega, show (nxt (gH S a) (gM S a 2, gM S a 3) k).2 = (nxt (gH S d) (gM S d 2, gM S d 3) l).2 by omega]
set_option maxHeartbeats 4000000 in
set_option maxRecDepth 100000 in
theorem c_L_bits {σ : vS} {v : vV} {s : Nat} (hs : s < 64) : vC M_L_bits yL_bits [.int (nI (s))] (σ, v) (qP (σ, v) (.int (nI (mbits s 24)))) := by
  refine vC_of (ls := [some (.int (nI (s))), none, none]) pn_L rfl rfl (Nat.le_of_ble_eq_true rfl) rfl ?_
  refine P_iconst (v := nI 0) dL_bits_0 (by decide) ?_
  refine P_istore_n (ls2 := [some (.int (nI (s))), some (.int (nI (0))), none]) dL_bits_1 rfl (by decide) rfl ?_
  refine P_iload_n dL_bits_2 rfl rfl ?_
  refine P_istore_n (ls2 := [some (.int (nI (s))), some (.int (nI (0))), some (.int (nI (s)))]) dL_bits_3 rfl (by decide) rfl ?_
  have hL4 : ∀ (n4 : Nat) (k l4 : Nat), (l4 < n4) → (k + mbits l4 24 = mbits s 24) → (l4 < 64) → vP M_L_bits 4 [some (.int (nI (s))), some (.int (nI (k))), some (.int (nI (l4)))] [] ((vRm M_L_bits).cells, (vRm M_L_bits).slots) (σ, v) (vN (qP (σ, v) (.int (nI (mbits s 24))))) := by
    intro n4
    induction n4 with
    | zero =>
      intro k l4 h1 h2 h3
      exact absurd h1 (by omega)
    | succ n4 ih4 =>
      intro k l4 h1 h2 h3
      refine P_iload_n dL_bits_4 rfl rfl ?_
      refine P_if_leN (tgt := 20) dL_bits_5 (by decide) (by omega) (fun c5 => ?_) (fun c5 => ?_)
      · refine P_iload_n dL_bits_20 rfl rfl ?_
        refine P_iret dL_bits_21 rfl ?_
        have e9 : l4 = 0 := by omega
        subst e9
        exact q_n (by rw [mbits_0] at h2; omega)
      · refine P_iinc (v := nI (k + 1)) (ls2 := [some (.int (nI (s))), some (.int (nI (k + 1))), some (.int (nI (l4)))]) dL_bits_8 rfl (nI_inc _ 1) (by decide) rfl ?_
        refine P_iload_n dL_bits_11 rfl rfl ?_
        refine P_iload_n dL_bits_12 rfl rfl ?_
        refine P_iconst (v := nI 1) dL_bits_13 (by decide) ?_
        refine P_isubN dL_bits_14 (by omega) ?_
        refine P_iandN dL_bits_15 ?_
        refine P_istore_n (ls2 := [some (.int (nI (s))), some (.int (nI (k + 1))), some (.int (nI (l4 &&& (l4 - 1))))]) dL_bits_16 rfl (by decide) rfl ?_
        refine P_goto (tgt := 4) dL_bits_17 (by decide) ?_
        have e9 := bits_dec l4 h3 (by omega)
        exact ih4 (k + 1) (l4 &&& (l4 - 1)) (by omega) (by omega) (by omega)
  exact hL4 (s + 1) 0 s (by omega) (Nat.zero_add _) hs
set_option maxHeartbeats 4000000 in
set_option maxRecDepth 100000 in
theorem c_L_thrown {σ : vS} {v : vV} {k : Nat} (hk : k < 2147483648) : vC M_L_thrown yL_thrown [.int (nI (k))] (σ, v) (qP (σ, v) (.int (nI 0))) := by
  refine vC_of (ls := [some (.int (nI (k)))]) pn_L rfl rfl (Nat.le_of_ble_eq_true rfl) rfl ?_
  refine P_iload_n dL_thrown_0 rfl rfl ?_
  refine P_ldc dL_thrown_1 cL_15 ?_
  refine P_icmp_eq (tgt := 18) dL_thrown_3 (by decide) (fun c3 => (nI_neq hk (by decide) c3).elim) (fun c3 => ?_)
  refine P_iload_n dL_thrown_6 rfl rfl ?_
  refine P_ldc dL_thrown_7 cL_18 ?_
  refine P_icmp_eq (tgt := 18) dL_thrown_9 (by decide) (fun c9 => (nI_neq hk (by decide) c9).elim) (fun c9 => ?_)
  refine P_iload_n dL_thrown_12 rfl rfl ?_
  refine P_ldc dL_thrown_13 cL_33 ?_
  refine P_icmp_ne (tgt := 22) dL_thrown_15 (by decide) (fun c15 => ?_) (fun c15 => (nI_neq hk (by decide) c15).elim)
  refine P_iconst (v := nI 0) dL_thrown_22 (by decide) ?_
  refine P_zret dL_thrown_23 rfl (by decide) ?_
  exact ⟨rfl, rfl⟩
set_option maxHeartbeats 8000000 in
set_option maxRecDepth 100000 in
theorem c_L_rollBehind {σ : vS} {v : vV} {c b n : Nat} {S : mS} {t : mN} {D : List mC} {sl : Nat → Option mC} {m k : Nat} (hm : m < c) (hk : k < (gH S m).length) (hT : kLT σ b) (hK : KT v b ((t, n), (c, S), D, sl)) {B : Nat} (hG : GI B ((t, n), (c, S), D, sl)) (hB : B + 6000000 < 1000000000) (hB2 : B ≤ 200000000) (hf : σ.2.2.2 = false)  : vCZ zN M_L_rollBehind yL_rollBehind [.ref (b), .int (nI (m)), .int (nI (k))] (σ, v) (qC σ v b (nI (10 * (nxt (gH S m) (gM S m 2, gM S m 3) k).1 + (nxt (gH S m) (gM S m 2, gM S m 3) k).2), ((t, n), (c, S), D, sl))) := by
  have hN : NB c S B := hG.1.1
  have hI : Iv c 1 S := hG.1.2
  have hc6 := hN.c6
  have hl5 : ∀ m, (gH S m).length ≤ 5 := hN.b.2.1
  have hl12 : ∀ m, (gK S m).length ≤ 12 := hN.b.1
  have hl150 : (gN S).length ≤ 150 := hN.b.2.2
  have hv0 : RV v b ((t, n), (c, S), D, sl) v := ⟨hK, vOw.rf⟩
  refine vCZ_of (ls := [some (.ref (b)), some (.int (nI (m))), some (.int (nI (k))), none, none]) pn_L rfl rfl (Nat.le_of_ble_eq_true rfl) rfl ?_
  refine G_bud (b2 := (4 * (5 - 0), 24 * (5 - 0))) (by decide) ?_
  refine G_iload_n dL_rollBehind_0 rfl rfl ?_
  refine G_iconst (v := nI 1) dL_rollBehind_1 (by decide) ?_
  refine G_iaddN dL_rollBehind_2 ?_
  refine G_aload_n dL_rollBehind_3 rfl rfl ?_
  refine G_iconst (v := nI 3) dL_rollBehind_4 (by decide) ?_
  refine G_iload_n dL_rollBehind_5 rfl rfl ?_
  refine G_bipush (v := nI 11) dL_rollBehind_6 (by decide) ?_
  refine G_iconst (v := nI 0) dL_rollBehind_8 (by decide) ?_
  refine G_lc (E := 5) (u := 0) (u2 := 1) (rest := [.int (nI (k + 1))]) zN_go dL_rollBehind_9 lL_162 ⟨Nat.le_of_ble_eq_true rfl, Nat.le_of_ble_eq_true rfl⟩ (Nat.le_of_ble_eq_true rfl) hf ⟨by omega, rfl⟩ hv0.2 (r_member (by omega) (by decide) hT hv0.1 hG hB hf) (fun v1 rv2 => ?_)
  refine G_top (y := nI ((gH S m).length)) rfl ?_
  refine G_icmp_neN (tgt := 19) dL_rollBehind_12 (by decide) (by have := hl5 m; omega) (by have := hl5 m; omega) (fun c12 => ?_) (fun c12 => ?_)
  · refine G_iconst (v := nI 0) dL_rollBehind_19 (by decide) ?_
    refine G_istore_n (ls2 := [some (.ref (b)), some (.int (nI (m))), some (.int (nI (k))), some (.int (nI (0))), none]) dL_rollBehind_20 rfl (by decide) rfl ?_
    refine G_iload_n dL_rollBehind_21 rfl rfl ?_
    refine G_if_eqN (tgt := 36) dL_rollBehind_22 (by decide) (by decide) (fun _ => ?_) (fun q9 => absurd q9 (by decide))
    refine G_aload_n dL_rollBehind_36 rfl rfl ?_
    refine G_iconst (v := nI 4) dL_rollBehind_37 (by decide) ?_
    refine G_iload_n dL_rollBehind_38 rfl rfl ?_
    refine G_iload_n dL_rollBehind_39 rfl rfl ?_
    refine G_iconst (v := nI 1) dL_rollBehind_40 (by decide) ?_
    refine G_iaddN dL_rollBehind_41 ?_
    refine G_iconst (v := nI 0) dL_rollBehind_42 (by decide) ?_
    refine G_lc (E := 5) (u := 1) (u2 := 2) (rest := []) zN_go dL_rollBehind_43 lL_162 ⟨Nat.le_of_ble_eq_true rfl, Nat.le_of_ble_eq_true rfl⟩ (Nat.le_of_ble_eq_true rfl) hf ⟨by omega, rfl⟩ rv2.2 (r_session (by omega) (by omega) (by decide) hT rv2.1 hG hB hf) (fun v3 rv4 => ?_)
    refine G_top (y := nI (((gH S m).getD (k + 1) t0).1)) rfl ?_
    refine G_istore (ls2 := [some (.ref (b)), some (.int (nI (m))), some (.int (nI (k))), some (.int (nI (0))), some (.int (nI (((gH S m).getD (k + 1) t0).1)))]) dL_rollBehind_46 (by decide) rfl ?_
    refine G_bipush (v := nI 10) dL_rollBehind_48 (by decide) ?_
    refine G_iload dL_rollBehind_50 rfl ?_
    refine G_imulN dL_rollBehind_52 ?_
    refine G_iload_n dL_rollBehind_53 rfl rfl ?_
    refine G_if_eqN (tgt := 68) dL_rollBehind_54 (by decide) (by decide) (fun _ => ?_) (fun q9 => absurd q9 (by decide))
    refine G_aload_n dL_rollBehind_68 rfl rfl ?_
    refine G_iconst (v := nI 4) dL_rollBehind_69 (by decide) ?_
    refine G_iload_n dL_rollBehind_70 rfl rfl ?_
    refine G_iload_n dL_rollBehind_71 rfl rfl ?_
    refine G_iconst (v := nI 1) dL_rollBehind_72 (by decide) ?_
    refine G_iaddN dL_rollBehind_73 ?_
    refine G_iconst (v := nI 1) dL_rollBehind_74 (by decide) ?_
    refine G_lc (E := 5) (u := 2) (u2 := 3) (rest := [.int (nI (10 * (((gH S m).getD (k + 1) t0).1)))]) zN_go dL_rollBehind_75 lL_162 ⟨Nat.le_of_ble_eq_true rfl, Nat.le_of_ble_eq_true rfl⟩ (Nat.le_of_ble_eq_true rfl) hf ⟨by omega, rfl⟩ rv4.2 (r_session (by omega) (by omega) (by decide) hT rv4.1 hG hB hf) (fun v5 rv6 => ?_)
    refine G_top (y := nI (((gH S m).getD (k + 1) t0).2.1)) rfl ?_
    refine G_iaddN dL_rollBehind_78 ?_
    refine G_iret dL_rollBehind_79 rfl ?_
    exact qc_end rv6 (by rw [nxt, if_pos (by omega)])
  · refine G_iconst (v := nI 1) dL_rollBehind_15 (by decide) ?_
    refine G_goto (tgt := 20) dL_rollBehind_16 (by decide) ?_
    refine G_istore_n (ls2 := [some (.ref (b)), some (.int (nI (m))), some (.int (nI (k))), some (.int (nI (1))), none]) dL_rollBehind_20 rfl (by decide) rfl ?_
    refine G_iload_n dL_rollBehind_21 rfl rfl ?_
    refine G_if_eqN (tgt := 36) dL_rollBehind_22 (by decide) (by decide) (fun q9 => absurd q9 (by decide)) (fun _ => ?_)
    refine G_aload_n dL_rollBehind_25 rfl rfl ?_
    refine G_iconst (v := nI 3) dL_rollBehind_26 (by decide) ?_
    refine G_iload_n dL_rollBehind_27 rfl rfl ?_
    refine G_iconst (v := nI 2) dL_rollBehind_28 (by decide) ?_
    refine G_iconst (v := nI 0) dL_rollBehind_29 (by decide) ?_
    refine G_lc (E := 5) (u := 1) (u2 := 2) (rest := []) zN_go dL_rollBehind_30 lL_162 ⟨Nat.le_of_ble_eq_true rfl, Nat.le_of_ble_eq_true rfl⟩ (Nat.le_of_ble_eq_true rfl) hf ⟨by omega, rfl⟩ rv2.2 (r_member (by omega) (by decide) hT rv2.1 hG hB hf) (fun v7 rv8 => ?_)
    refine G_top (y := nI (gM S m 2)) rfl ?_
    refine G_goto (tgt := 46) dL_rollBehind_33 (by decide) ?_
    refine G_istore (ls2 := [some (.ref (b)), some (.int (nI (m))), some (.int (nI (k))), some (.int (nI (1))), some (.int (nI (gM S m 2)))]) dL_rollBehind_46 (by decide) rfl ?_
    refine G_bipush (v := nI 10) dL_rollBehind_48 (by decide) ?_
    refine G_iload dL_rollBehind_50 rfl ?_
    refine G_imulN dL_rollBehind_52 ?_
    refine G_iload_n dL_rollBehind_53 rfl rfl ?_
    refine G_if_eqN (tgt := 68) dL_rollBehind_54 (by decide) (by decide) (fun q9 => absurd q9 (by decide)) (fun _ => ?_)
    refine G_aload_n dL_rollBehind_57 rfl rfl ?_
    refine G_iconst (v := nI 3) dL_rollBehind_58 (by decide) ?_
    refine G_iload_n dL_rollBehind_59 rfl rfl ?_
    refine G_iconst (v := nI 3) dL_rollBehind_60 (by decide) ?_
    refine G_iconst (v := nI 0) dL_rollBehind_61 (by decide) ?_
    refine G_lc (E := 5) (u := 2) (u2 := 3) (rest := [.int (nI (10 * (gM S m 2)))]) zN_go dL_rollBehind_62 lL_162 ⟨Nat.le_of_ble_eq_true rfl, Nat.le_of_ble_eq_true rfl⟩ (Nat.le_of_ble_eq_true rfl) hf ⟨by omega, rfl⟩ rv8.2 (r_member (by omega) (by decide) hT rv8.1 hG hB hf) (fun v9 rv10 => ?_)
    refine G_top (y := nI (gM S m 3)) rfl ?_
    refine G_goto (tgt := 78) dL_rollBehind_65 (by decide) ?_
    refine G_iaddN dL_rollBehind_78 ?_
    refine G_iret dL_rollBehind_79 rfl ?_
    exact qc_end rv10 (by rw [nxt, if_neg (by omega)])
set_option maxHeartbeats 8000000 in
set_option maxRecDepth 100000 in
theorem c_L_together {σ : vS} {v : vV} {c b n : Nat} {S : mS} {t : mN} {D : List mC} {sl : Nat → Option mC} {a d : Nat} (ha : a < c) (hd : d < c) (hJ : IJ c S) (hT : kLT σ b) (hK : KT v b ((t, n), (c, S), D, sl)) {B : Nat} (hG : GI B ((t, n), (c, S), D, sl)) (hB : B + 6000000 < 1000000000) (hB2 : B ≤ 200000000) (hf : σ.2.2.2 = false)  : vCZ zN M_L_together yL_together [.ref (b), .int (nI (a)), .int (nI (d))] (σ, v) (qC σ v b (nI 1, ((t, n), (c, S), D, sl))) := by
  have hN : NB c S B := hG.1.1
  have hI : Iv c 1 S := hG.1.2
  have hc6 := hN.c6
  have hl5 : ∀ m, (gH S m).length ≤ 5 := hN.b.2.1
  have hl12 : ∀ m, (gK S m).length ≤ 12 := hN.b.1
  have hl150 : (gN S).length ≤ 150 := hN.b.2.2
  have hv0 : RV v b ((t, n), (c, S), D, sl) v := ⟨hK, vOw.rf⟩
  refine vCZ_of (ls := [some (.ref (b)), some (.int (nI (a))), some (.int (nI (d))), none, none, none, none]) pn_L rfl rfl (Nat.le_of_ble_eq_true rfl) rfl ?_
  refine G_bud (b2 := (4 * (700 - 0), 24 * (700 - 0))) (by decide) ?_
  have h5a := hl5 a
  have h5d := hl5 d
  refine G_iconst (v := nI 1) dL_together_0 (by decide) ?_
  refine G_istore_n (ls2 := [some (.ref (b)), some (.int (nI (a))), some (.int (nI (d))), some (.int (nI (1))), none, none, none]) dL_together_1 rfl (by decide) rfl ?_
  refine G_iconst (v := nI 0) dL_together_2 (by decide) ?_
  refine G_istore (ls2 := [some (.ref (b)), some (.int (nI (a))), some (.int (nI (d))), some (.int (nI (1))), some (.int (nI (0))), none, none]) dL_together_3 (by decide) rfl ?_
  have hL5 : ∀ (n5 : Nat) (k : Nat) (w5 : vV), (RV v b ((t, n), (c, S), D, sl) w5) → (k ≤ (gH S a).length) → (k + n5 = (gH S a).length + 1) → vG (kZs zN) M_L_together 5 [some (.ref (b)), some (.int (nI (a))), some (.int (nI (d))), some (.int (nI (1))), some (.int (nI (k))), none, none] [] (4 * (104 * (n5) - 0), 24 * (104 * (n5) - 0)) (σ, w5) (vN (qC σ v b (nI 1, ((t, n), (c, S), D, sl)))) := by
    intro n5
    induction n5 with
    | zero =>
      intro k w5 r5 h1 h2
      exact absurd h2 (by omega)
    | succ n5 ih5 =>
      intro k w5 r5 h1 h2
      refine G_iload dL_together_5 rfl ?_
      refine G_aload_n dL_together_7 rfl rfl ?_
      refine G_iconst (v := nI 3) dL_together_8 (by decide) ?_
      refine G_iload_n dL_together_9 rfl rfl ?_
      refine G_bipush (v := nI 11) dL_together_10 (by decide) ?_
      refine G_iconst (v := nI 0) dL_together_12 (by decide) ?_
      refine G_lc (E := 104 * (n5 + 1)) (u := 0) (u2 := 1) (rest := [.int (nI (k))]) zN_go dL_together_13 lL_162 ⟨Nat.le_of_ble_eq_true rfl, Nat.le_of_ble_eq_true rfl⟩ (Nat.le_of_ble_eq_true rfl) hf ⟨by omega, rfl⟩ r5.2 (r_member (by omega) (by decide) hT r5.1 hG hB hf) (fun v1 rv2 => ?_)
      refine G_top (y := nI ((gH S a).length)) rfl ?_
      refine G_icmp_geN (tgt := 154) dL_together_16 (by decide) (by have := hl5 a; omega) (by have := hl5 a; omega) (fun c16 => ?_) (fun c16 => ?_)
      · refine G_iload_n dL_together_154 rfl rfl ?_
        refine G_zret dL_together_155 rfl (by decide) ?_
        exact qc_end rv2 rfl
      · refine G_iload_n dL_together_19 rfl rfl ?_
        refine G_if_eqN (tgt := 154) dL_together_20 (by decide) (by decide) (fun q9 => absurd q9 (by decide)) (fun _ => ?_)
        refine G_iconst (v := nI 0) dL_together_23 (by decide) ?_
        refine G_istore (ls2 := [some (.ref (b)), some (.int (nI (a))), some (.int (nI (d))), some (.int (nI (1))), some (.int (nI (k))), some (.int (nI (0))), none]) dL_together_24 (by decide) rfl ?_
        have hL26 : ∀ (n26 : Nat) (l : Nat) (w26 : vV), (RV v b ((t, n), (c, S), D, sl) w26) → (l ≤ (gH S d).length) → (l + n26 = (gH S d).length + 1) → vG (kZs zN) M_L_together 26 [some (.ref (b)), some (.int (nI (a))), some (.int (nI (d))), some (.int (nI (1))), some (.int (nI (k))), some (.int (nI (l))), none] [] (4 * (104 * n5 + 17 * (n26) - 0), 24 * (104 * n5 + 17 * (n26) - 0)) (σ, w26) (vN (qC σ v b (nI 1, ((t, n), (c, S), D, sl)))) := by
          intro n26
          induction n26 with
          | zero =>
            intro l w26 r26 h3 h4
            exact absurd h4 (by omega)
          | succ n26 ih26 =>
            intro l w26 r26 h3 h4
            refine G_iload dL_together_26 rfl ?_
            refine G_aload_n dL_together_28 rfl rfl ?_
            refine G_iconst (v := nI 3) dL_together_29 (by decide) ?_
            refine G_iload_n dL_together_30 rfl rfl ?_
            refine G_bipush (v := nI 11) dL_together_31 (by decide) ?_
            refine G_iconst (v := nI 0) dL_together_33 (by decide) ?_
            refine G_lc (E := 104 * n5 + 17 * (n26 + 1)) (u := 0) (u2 := 1) (rest := [.int (nI (l))]) zN_go dL_together_34 lL_162 ⟨Nat.le_of_ble_eq_true rfl, Nat.le_of_ble_eq_true rfl⟩ (Nat.le_of_ble_eq_true rfl) hf ⟨by omega, rfl⟩ r26.2 (r_member (by omega) (by decide) hT r26.1 hG hB hf) (fun v3 rv4 => ?_)
            refine G_top (y := nI ((gH S d).length)) rfl ?_
            refine G_icmp_geN (tgt := 148) dL_together_37 (by decide) (by have := hl5 d; omega) (by have := hl5 d; omega) (fun c37 => ?_) (fun c37 => ?_)
            · refine G_iinc (v := nI (k + 1)) (ls2 := [some (.ref (b)), some (.int (nI (a))), some (.int (nI (d))), some (.int (nI (1))), some (.int (nI (k + 1))), some (.int (nI (l))), none]) dL_together_148 rfl (nI_inc _ 1) (by decide) rfl ?_
              refine G_goto (tgt := 5) dL_together_151 (by decide) ?_
              refine G_weak (ls2 := [some (.ref (b)), some (.int (nI (a))), some (.int (nI (d))), some (.int (nI (1))), some (.int (nI (k + 1))), none, none]) ⟨rfl, rfl, rfl, rfl, rfl, trivial⟩ ?_
              refine G_bud (b2 := (4 * (104 * (n5) - 0), 24 * (104 * (n5) - 0))) ⟨by show 4 * (104 * (n5) - 0) ≤ 4 * (104 * n5 + 17 * (n26 + 1) - 1); omega, by show 24 * (104 * (n5) - 0) ≤ 24 * (104 * n5 + 17 * (n26 + 1) - 1); omega⟩ ?_
              exact ih5 (k + 1) v3 rv4 (by omega) (by omega)
            · refine G_iload_n dL_together_40 rfl rfl ?_
              refine G_if_eqN (tgt := 148) dL_together_41 (by decide) (by decide) (fun q9 => absurd q9 (by decide)) (fun _ => ?_)
              refine G_aload_n dL_together_44 rfl rfl ?_
              refine G_iconst (v := nI 4) dL_together_45 (by decide) ?_
              refine G_iload_n dL_together_46 rfl rfl ?_
              refine G_iload dL_together_47 rfl ?_
              refine G_iconst (v := nI 0) dL_together_49 (by decide) ?_
              refine G_lc (E := 104 * n5 + 17 * (n26 + 1)) (u := 1) (u2 := 2) (rest := []) zN_go dL_together_50 lL_162 ⟨Nat.le_of_ble_eq_true rfl, Nat.le_of_ble_eq_true rfl⟩ (Nat.le_of_ble_eq_true rfl) hf ⟨by omega, rfl⟩ rv4.2 (r_session (by omega) (by omega) (by decide) hT rv4.1 hG hB hf) (fun v5 rv6 => ?_)
              refine G_top (y := nI (((gH S a).getD k t0).1)) rfl ?_
              refine G_aload_n dL_together_53 rfl rfl ?_
              refine G_iconst (v := nI 4) dL_together_54 (by decide) ?_
              refine G_iload_n dL_together_55 rfl rfl ?_
              refine G_iload dL_together_56 rfl ?_
              refine G_iconst (v := nI 0) dL_together_58 (by decide) ?_
              refine G_lc (E := 104 * n5 + 17 * (n26 + 1)) (u := 2) (u2 := 3) (rest := [.int (nI (((gH S a).getD k t0).1))]) zN_go dL_together_59 lL_162 ⟨Nat.le_of_ble_eq_true rfl, Nat.le_of_ble_eq_true rfl⟩ (Nat.le_of_ble_eq_true rfl) hf ⟨by omega, rfl⟩ rv6.2 (r_session (by omega) (by omega) (by decide) hT rv6.1 hG hB hf) (fun v7 rv8 => ?_)
              refine G_top (y := nI (((gH S d).getD l t0).1)) rfl ?_
              refine G_icmp_neN (tgt := 107) dL_together_62 (by decide) (by have h8 := hN.hd (m := a) (k := k) (by omega); have h9 := hN.hd (m := d) (k := l) (by omega); omega) (by have h8 := hN.hd (m := a) (k := k) (by omega); have h9 := hN.hd (m := d) (k := l) (by omega); omega) (fun c62 => ?_) (fun c62 => ?_)
              · refine G_iconst (v := nI 0) dL_together_107 (by decide) ?_
                refine G_istore (ls2 := [some (.ref (b)), some (.int (nI (a))), some (.int (nI (d))), some (.int (nI (1))), some (.int (nI (k))), some (.int (nI (l))), some (.int (nI (0)))]) dL_together_108 (by decide) rfl ?_
                refine G_iload dL_together_110 rfl ?_
                refine G_if_eqN (tgt := 136) dL_together_112 (by decide) (by decide) (fun _ => ?_) (fun q9 => absurd q9 (by decide))
                refine G_iconst (v := nI 1) dL_together_136 (by decide) ?_
                refine G_goto (tgt := 141) dL_together_137 (by decide) ?_
                refine G_istore_n (ls2 := [some (.ref (b)), some (.int (nI (a))), some (.int (nI (d))), some (.int (nI (1))), some (.int (nI (k))), some (.int (nI (l))), some (.int (nI (0)))]) dL_together_141 rfl (by decide) rfl ?_
                refine G_iinc (v := nI (l + 1)) (ls2 := [some (.ref (b)), some (.int (nI (a))), some (.int (nI (d))), some (.int (nI (1))), some (.int (nI (k))), some (.int (nI (l + 1))), some (.int (nI (0)))]) dL_together_142 rfl (nI_inc _ 1) (by decide) rfl ?_
                refine G_goto (tgt := 26) dL_together_145 (by decide) ?_
                refine G_weak (ls2 := [some (.ref (b)), some (.int (nI (a))), some (.int (nI (d))), some (.int (nI (1))), some (.int (nI (k))), some (.int (nI (l + 1))), none]) ⟨rfl, rfl, rfl, rfl, rfl, rfl, trivial⟩ ?_
                refine G_bud (b2 := (4 * (104 * n5 + 17 * (n26) - 0), 24 * (104 * n5 + 17 * (n26) - 0))) ⟨by show 4 * (104 * n5 + 17 * (n26) - 0) ≤ 4 * (104 * n5 + 17 * (n26 + 1) - 3); omega, by show 24 * (104 * n5 + 17 * (n26) - 0) ≤ 24 * (104 * n5 + 17 * (n26 + 1) - 3); omega⟩ ?_
                exact ih26 (l + 1) v7 rv8 (by omega) (by omega)
              · refine G_aload_n dL_together_65 rfl rfl ?_
                refine G_iconst (v := nI 4) dL_together_66 (by decide) ?_
                refine G_iload_n dL_together_67 rfl rfl ?_
                refine G_iload dL_together_68 rfl ?_
                refine G_iconst (v := nI 1) dL_together_70 (by decide) ?_
                refine G_lc (E := 104 * n5 + 17 * (n26 + 1)) (u := 3) (u2 := 4) (rest := []) zN_go dL_together_71 lL_162 ⟨Nat.le_of_ble_eq_true rfl, Nat.le_of_ble_eq_true rfl⟩ (Nat.le_of_ble_eq_true rfl) hf ⟨by omega, rfl⟩ rv8.2 (r_session (by omega) (by omega) (by decide) hT rv8.1 hG hB hf) (fun v9 rv10 => ?_)
                refine G_top (y := nI (((gH S a).getD k t0).2.1)) rfl ?_
                refine G_aload_n dL_together_74 rfl rfl ?_
                refine G_iconst (v := nI 4) dL_together_75 (by decide) ?_
                refine G_iload_n dL_together_76 rfl rfl ?_
                refine G_iload dL_together_77 rfl ?_
                refine G_iconst (v := nI 1) dL_together_79 (by decide) ?_
                refine G_lc (E := 104 * n5 + 17 * (n26 + 1)) (u := 4) (u2 := 5) (rest := [.int (nI (((gH S a).getD k t0).2.1))]) zN_go dL_together_80 lL_162 ⟨Nat.le_of_ble_eq_true rfl, Nat.le_of_ble_eq_true rfl⟩ (Nat.le_of_ble_eq_true rfl) hf ⟨by omega, rfl⟩ rv10.2 (r_session (by omega) (by omega) (by decide) hT rv10.1 hG hB hf) (fun v11 rv12 => ?_)
                refine G_top (y := nI (((gH S d).getD l t0).2.1)) rfl ?_
                refine G_icmp_neN (tgt := 107) dL_together_83 (by decide) (by have h8 := hN.hd (m := a) (k := k) (by omega); have h9 := hN.hd (m := d) (k := l) (by omega); omega) (by have h8 := hN.hd (m := a) (k := k) (by omega); have h9 := hN.hd (m := d) (k := l) (by omega); omega) (fun c83 => ?_) (fun c83 => ?_)
                · refine G_iconst (v := nI 0) dL_together_107 (by decide) ?_
                  refine G_istore (ls2 := [some (.ref (b)), some (.int (nI (a))), some (.int (nI (d))), some (.int (nI (1))), some (.int (nI (k))), some (.int (nI (l))), some (.int (nI (0)))]) dL_together_108 (by decide) rfl ?_
                  refine G_iload dL_together_110 rfl ?_
                  refine G_if_eqN (tgt := 136) dL_together_112 (by decide) (by decide) (fun _ => ?_) (fun q9 => absurd q9 (by decide))
                  refine G_iconst (v := nI 1) dL_together_136 (by decide) ?_
                  refine G_goto (tgt := 141) dL_together_137 (by decide) ?_
                  refine G_istore_n (ls2 := [some (.ref (b)), some (.int (nI (a))), some (.int (nI (d))), some (.int (nI (1))), some (.int (nI (k))), some (.int (nI (l))), some (.int (nI (0)))]) dL_together_141 rfl (by decide) rfl ?_
                  refine G_iinc (v := nI (l + 1)) (ls2 := [some (.ref (b)), some (.int (nI (a))), some (.int (nI (d))), some (.int (nI (1))), some (.int (nI (k))), some (.int (nI (l + 1))), some (.int (nI (0)))]) dL_together_142 rfl (nI_inc _ 1) (by decide) rfl ?_
                  refine G_goto (tgt := 26) dL_together_145 (by decide) ?_
                  refine G_weak (ls2 := [some (.ref (b)), some (.int (nI (a))), some (.int (nI (d))), some (.int (nI (1))), some (.int (nI (k))), some (.int (nI (l + 1))), none]) ⟨rfl, rfl, rfl, rfl, rfl, rfl, trivial⟩ ?_
                  refine G_bud (b2 := (4 * (104 * n5 + 17 * (n26) - 0), 24 * (104 * n5 + 17 * (n26) - 0))) ⟨by show 4 * (104 * n5 + 17 * (n26) - 0) ≤ 4 * (104 * n5 + 17 * (n26 + 1) - 5); omega, by show 24 * (104 * n5 + 17 * (n26) - 0) ≤ 24 * (104 * n5 + 17 * (n26 + 1) - 5); omega⟩ ?_
                  exact ih26 (l + 1) v11 rv12 (by omega) (by omega)
                · refine G_aload_n dL_together_86 rfl rfl ?_
                  refine G_iload_n dL_together_87 rfl rfl ?_
                  refine G_iload dL_together_88 rfl ?_
                  refine G_lz (K := 5) (E := 104 * n5 + 17 * (n26 + 1)) (u := 5) (u2 := 10) (rest := []) (As := [.ref (b), .int (nI (a)), .int (nI (k))]) zN_go dL_together_90 lL_179 yk_L_rollBehind ys_L_rollBehind ⟨Nat.le_of_ble_eq_true rfl, Nat.le_of_ble_eq_true rfl⟩ rfl rfl (Nat.le_of_ble_eq_true rfl) rfl hf ⟨by omega, rfl⟩ rv12.2 (c_L_rollBehind (by omega) (by omega) hT rv12.1 hG hB hB2 hf) (fun v13 rv14 => ?_)
                  refine G_top (y := nI (10 * (nxt (gH S a) (gM S a 2, gM S a 3) k).1 + (nxt (gH S a) (gM S a 2, gM S a 3) k).2)) rfl ?_
                  refine G_aload_n dL_together_93 rfl rfl ?_
                  refine G_iload_n dL_together_94 rfl rfl ?_
                  refine G_iload dL_together_95 rfl ?_
                  refine G_lz (K := 5) (E := 104 * n5 + 17 * (n26 + 1)) (u := 10) (u2 := 15) (rest := [.int (nI (10 * (nxt (gH S a) (gM S a 2, gM S a 3) k).1 + (nxt (gH S a) (gM S a 2, gM S a 3) k).2))]) (As := [.ref (b), .int (nI (d)), .int (nI (l))]) zN_go dL_together_97 lL_179 yk_L_rollBehind ys_L_rollBehind ⟨Nat.le_of_ble_eq_true rfl, Nat.le_of_ble_eq_true rfl⟩ rfl rfl (Nat.le_of_ble_eq_true rfl) rfl hf ⟨by omega, rfl⟩ rv14.2 (c_L_rollBehind (by omega) (by omega) hT rv14.1 hG hB hB2 hf) (fun v15 rv16 => ?_)
                  refine G_top (y := nI (10 * (nxt (gH S d) (gM S d 2, gM S d 3) l).1 + (nxt (gH S d) (gM S d 2, gM S d 3) l).2)) rfl ?_
                  refine G_icmp_neN (tgt := 107) dL_together_100 (by decide) (by have h8 := nxt_5 hN a k; have h9 := nxt_5 hN d l; omega) (by have h8 := nxt_5 hN a k; have h9 := nxt_5 hN d l; omega) (fun c100 => ?_) (fun c100 => ?_)
                  · refine G_iconst (v := nI 0) dL_together_107 (by decide) ?_
                    refine G_istore (ls2 := [some (.ref (b)), some (.int (nI (a))), some (.int (nI (d))), some (.int (nI (1))), some (.int (nI (k))), some (.int (nI (l))), some (.int (nI (0)))]) dL_together_108 (by decide) rfl ?_
                    refine G_iload dL_together_110 rfl ?_
                    refine G_if_eqN (tgt := 136) dL_together_112 (by decide) (by decide) (fun _ => ?_) (fun q9 => absurd q9 (by decide))
                    refine G_iconst (v := nI 1) dL_together_136 (by decide) ?_
                    refine G_goto (tgt := 141) dL_together_137 (by decide) ?_
                    refine G_istore_n (ls2 := [some (.ref (b)), some (.int (nI (a))), some (.int (nI (d))), some (.int (nI (1))), some (.int (nI (k))), some (.int (nI (l))), some (.int (nI (0)))]) dL_together_141 rfl (by decide) rfl ?_
                    refine G_iinc (v := nI (l + 1)) (ls2 := [some (.ref (b)), some (.int (nI (a))), some (.int (nI (d))), some (.int (nI (1))), some (.int (nI (k))), some (.int (nI (l + 1))), some (.int (nI (0)))]) dL_together_142 rfl (nI_inc _ 1) (by decide) rfl ?_
                    refine G_goto (tgt := 26) dL_together_145 (by decide) ?_
                    refine G_weak (ls2 := [some (.ref (b)), some (.int (nI (a))), some (.int (nI (d))), some (.int (nI (1))), some (.int (nI (k))), some (.int (nI (l + 1))), none]) ⟨rfl, rfl, rfl, rfl, rfl, rfl, trivial⟩ ?_
                    refine G_bud (b2 := (4 * (104 * n5 + 17 * (n26) - 0), 24 * (104 * n5 + 17 * (n26) - 0))) ⟨by show 4 * (104 * n5 + 17 * (n26) - 0) ≤ 4 * (104 * n5 + 17 * (n26 + 1) - 15); omega, by show 24 * (104 * n5 + 17 * (n26) - 0) ≤ 24 * (104 * n5 + 17 * (n26 + 1) - 15); omega⟩ ?_
                    exact ih26 (l + 1) v15 rv16 (by omega) (by omega)
                  · refine G_iconst (v := nI 1) dL_together_103 (by decide) ?_
                    refine G_goto (tgt := 108) dL_together_104 (by decide) ?_
                    refine G_istore (ls2 := [some (.ref (b)), some (.int (nI (a))), some (.int (nI (d))), some (.int (nI (1))), some (.int (nI (k))), some (.int (nI (l))), some (.int (nI (1)))]) dL_together_108 (by decide) rfl ?_
                    refine G_iload dL_together_110 rfl ?_
                    refine G_if_eqN (tgt := 136) dL_together_112 (by decide) (by decide) (fun q9 => absurd q9 (by decide)) (fun _ => ?_)
                    refine G_aload_n dL_together_115 rfl rfl ?_
                    refine G_iconst (v := nI 4) dL_together_116 (by decide) ?_
                    refine G_iload_n dL_together_117 rfl rfl ?_
                    refine G_iload dL_together_118 rfl ?_
                    refine G_iconst (v := nI 2) dL_together_120 (by decide) ?_
                    refine G_lc (E := 104 * n5 + 17 * (n26 + 1)) (u := 15) (u2 := 16) (rest := []) zN_go dL_together_121 lL_162 ⟨Nat.le_of_ble_eq_true rfl, Nat.le_of_ble_eq_true rfl⟩ (Nat.le_of_ble_eq_true rfl) hf ⟨by omega, rfl⟩ rv16.2 (r_session (by omega) (by omega) (by decide) hT rv16.1 hG hB hf) (fun v17 rv18 => ?_)
                    refine G_top (y := nI (((gH S a).getD k t0).2.2)) rfl ?_
                    refine G_aload_n dL_together_124 rfl rfl ?_
                    refine G_iconst (v := nI 4) dL_together_125 (by decide) ?_
                    refine G_iload_n dL_together_126 rfl rfl ?_
                    refine G_iload dL_together_127 rfl ?_
                    refine G_iconst (v := nI 2) dL_together_129 (by decide) ?_
                    refine G_lc (E := 104 * n5 + 17 * (n26 + 1)) (u := 16) (u2 := 17) (rest := [.int (nI (((gH S a).getD k t0).2.2))]) zN_go dL_together_130 lL_162 ⟨Nat.le_of_ble_eq_true rfl, Nat.le_of_ble_eq_true rfl⟩ (Nat.le_of_ble_eq_true rfl) hf ⟨by omega, rfl⟩ rv18.2 (r_session (by omega) (by omega) (by decide) hT rv18.1 hG hB hf) (fun v19 rv20 => ?_)
                    refine G_top (y := nI (((gH S d).getD l t0).2.2)) rfl ?_
                    refine G_icmp_neN (tgt := 140) dL_together_133 (by decide) (by have h8 := hN.hd (m := a) (k := k) (by omega); have h9 := hN.hd (m := d) (k := l) (by omega); omega) (by have h8 := hN.hd (m := a) (k := k) (by omega); have h9 := hN.hd (m := d) (k := l) (by omega); omega) (fun c133 => (c133 (fact_tog hJ hN ha hd (by omega) (by omega) c62 c83 c100)).elim) (fun c133 => ?_)
                    refine G_iconst (v := nI 1) dL_together_136 (by decide) ?_
                    refine G_goto (tgt := 141) dL_together_137 (by decide) ?_
                    refine G_istore_n (ls2 := [some (.ref (b)), some (.int (nI (a))), some (.int (nI (d))), some (.int (nI (1))), some (.int (nI (k))), some (.int (nI (l))), some (.int (nI (1)))]) dL_together_141 rfl (by decide) rfl ?_
                    refine G_iinc (v := nI (l + 1)) (ls2 := [some (.ref (b)), some (.int (nI (a))), some (.int (nI (d))), some (.int (nI (1))), some (.int (nI (k))), some (.int (nI (l + 1))), some (.int (nI (1)))]) dL_together_142 rfl (nI_inc _ 1) (by decide) rfl ?_
                    refine G_goto (tgt := 26) dL_together_145 (by decide) ?_
                    refine G_weak (ls2 := [some (.ref (b)), some (.int (nI (a))), some (.int (nI (d))), some (.int (nI (1))), some (.int (nI (k))), some (.int (nI (l + 1))), none]) ⟨rfl, rfl, rfl, rfl, rfl, rfl, trivial⟩ ?_
                    refine G_bud (b2 := (4 * (104 * n5 + 17 * (n26) - 0), 24 * (104 * n5 + 17 * (n26) - 0))) ⟨by show 4 * (104 * n5 + 17 * (n26) - 0) ≤ 4 * (104 * n5 + 17 * (n26 + 1) - 17); omega, by show 24 * (104 * n5 + 17 * (n26) - 0) ≤ 24 * (104 * n5 + 17 * (n26 + 1) - 17); omega⟩ ?_
                    exact ih26 (l + 1) v19 rv20 (by omega) (by omega)
        refine G_bud (b2 := (4 * (104 * n5 + 17 * ((gH S d).length + 1) - 0), 24 * (104 * n5 + 17 * ((gH S d).length + 1) - 0))) ⟨by show 4 * (104 * n5 + 17 * ((gH S d).length + 1) - 0) ≤ 4 * (104 * (n5 + 1) - 1); omega, by show 24 * (104 * n5 + 17 * ((gH S d).length + 1) - 0) ≤ 24 * (104 * (n5 + 1) - 1); omega⟩ ?_
        exact hL26 ((gH S d).length + 1) 0 v1 rv2 (Nat.zero_le _) (by omega)
  refine G_bud (b2 := (4 * (104 * ((gH S a).length + 1) - 0), 24 * (104 * ((gH S a).length + 1) - 0))) ⟨by show 4 * (104 * ((gH S a).length + 1) - 0) ≤ 4 * (700 - 0); omega, by show 24 * (104 * ((gH S a).length + 1) - 0) ≤ 24 * (700 - 0); omega⟩ ?_
  exact hL5 ((gH S a).length + 1) 0 v hv0 (Nat.zero_le _) (by omega)
