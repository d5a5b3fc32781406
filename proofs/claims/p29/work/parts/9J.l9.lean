
theorem gi_dp {B : Nat} {tn : mN × Nat} {X : mC} {D : List mC} {sl : Nat → Option mC} (h : GI B (tn, X, D, sl)) (i : Nat) : GI B (tn, X, D.drop i, sl) := ⟨h.1, fun Y hY => h.2.1 Y (List.mem_of_mem_drop hY), h.2.2⟩
theorem three {c m num s : Nat} {V : mS} {P : Nat → Prop} (h : ∀ a, mfind c V m num s 1 101 0 = some a → ∃ n, mfind c V m num s 0 101 0 = some n ∧ n ≤ a ∧ a ≤ 100 ∧ P a) : (mfind c V m num s 0 101 0 = none ∧ mfind c V m num s 1 101 0 = none) ∨ (∃ n, mfind c V m num s 0 101 0 = some n ∧ mfind c V m num s 1 101 0 = none) ∨ ∃ n a, mfind c V m num s 0 101 0 = some n ∧ mfind c V m num s 1 101 0 = some a ∧ n ≤ a ∧ a ≤ 100 ∧ P a := by
  cases e : mfind c V m num s 1 101 0 with
  | none =>
    cases e2 : mfind c V m num s 0 101 0 with
    | none => exact Or.inl ⟨rfl, rfl⟩
    | some n => exact Or.inr (Or.inl ⟨n, rfl, rfl⟩)
  | some a =>
    obtain ⟨n, h1, h2⟩ := h a e
    exact Or.inr (Or.inr ⟨n, a, h1, rfl, h2⟩)
set_option maxHeartbeats 8000000 in
set_option maxRecDepth 100000 in
theorem c_L_stands {σ : vS} {v : vV} {c n : Nat} {S : mS} {t : mN} {D : List mC} {sl : Nat → Option mC} {x : Nat} (hTo : kLT σ 0) (hTq : kLT σ 1603) (hW : LW v ((t, n), (c, S), D, sl) ((t, n), (c, S), D, sl)) {B : Nat} (hG : GI B ((t, n), (c, S), D, sl)) (hB : B + 6000000 < 1000000000) (hf : σ.2.2.2 = false) (hx : x < 2147483648) (hc2 : 2 ≤ c) (hJ : IJ c S) (hB2 : B ≤ 200000000) : vCZ zN M_L_stands yL_stands [.ref (0), .ref (1603), .int (nI (x))] (σ, v) (qE σ (nI 1) (fun U => ∃ i, U = ((t, n), (c, S), D.drop i, sl))) := by
  have hN : NB c S B := hG.1.1
  have hI : Iv c 1 S := hG.1.2
  have hc6 := hN.c6
  have hl5 : ∀ m, (gH S m).length ≤ 5 := hN.b.2.1
  have hl12 : ∀ m, (gK S m).length ≤ 12 := hN.b.1
  have hl150 : (gN S).length ≤ 150 := hN.b.2.2
  refine vCZ_of (ls := [some (.ref (0)), some (.ref (1603)), some (.int (nI (x))), none, none, none, none, none, none, none, none, none, none]) pn_L rfl rfl (Nat.le_of_ble_eq_true rfl) rfl ?_
  refine G_bud (b2 := (4 * (120 - 0), 24 * (120 - 0))) (by decide) ?_
  refine G_aload_n dL_stands_0 rfl rfl ?_
  refine G_iconst (v := nI 2) dL_stands_1 (by decide) ?_
  refine G_iconst (v := nI 0) dL_stands_2 (by decide) ?_
  refine G_iconst (v := nI 0) dL_stands_3 (by decide) ?_
  refine G_iconst (v := nI 0) dL_stands_4 (by decide) ?_
  refine G_lc (E := 120) (u := 0) (u2 := 1) (rest := []) zN_go dL_stands_5 lL_162 ⟨Nat.le_of_ble_eq_true rfl, Nat.le_of_ble_eq_true rfl⟩ (Nat.le_of_ble_eq_true rfl) hf ⟨by omega, rfl⟩ (vOw.rf (v := v)) (r_about (by decide) hTo hW.1 hG hB hf) (fun v1 rv2 => ?_)
  have W3 : LW v1 ((t, n), (c, S), D, sl) ((t, n), (c, S), D, sl) := hW.o rv2
  refine G_top (y := nI (c)) rfl ?_
  refine G_istore_n (ls2 := [some (.ref (0)), some (.ref (1603)), some (.int (nI (x))), some (.int (nI (c))), none, none, none, none, none, none, none, none, none]) dL_stands_8 rfl (by decide) rfl ?_
  refine G_iload_n dL_stands_9 rfl rfl ?_
  refine G_iload_n dL_stands_10 rfl rfl ?_
  refine G_iremN dL_stands_11 (by omega) (by omega) (by omega) ?_
  have hm : x % c < c := Nat.mod_lt _ (by omega)
  generalize x % c = m at hm ⊢
  refine G_istore (ls2 := [some (.ref (0)), some (.ref (1603)), some (.int (nI (x))), some (.int (nI (c))), some (.int (nI (m))), none, none, none, none, none, none, none, none]) dL_stands_12 (by decide) rfl ?_
  refine G_iload_n dL_stands_14 rfl rfl ?_
  refine G_bipush (v := nI 6) dL_stands_15 (by decide) ?_
  refine G_idivN dL_stands_17 (by omega) (by decide) (by decide) ?_
  refine G_bipush (v := nI 64) dL_stands_18 (by decide) ?_
  refine G_iremN dL_stands_20 (by omega) (by decide) (by decide) ?_
  refine G_iconst (v := nI 1) dL_stands_21 (by decide) ?_
  refine G_iload dL_stands_22 rfl ?_
  refine G_ishlN dL_stands_24 (by omega) ?_
  refine G_iorN dL_stands_25 ?_
  refine G_iconst (v := nI 1) dL_stands_26 (by decide) ?_
  refine G_iload_n dL_stands_27 rfl rfl ?_
  refine G_ishlN dL_stands_28 (by omega) ?_
  refine G_iconst (v := nI 1) dL_stands_29 (by decide) ?_
  refine G_isubN dL_stands_30 (by rw [Nat.one_shiftLeft]; exact Nat.pow_pos (by decide)) ?_
  refine G_iandN dL_stands_31 ?_
  obtain ⟨hs, hb⟩ := set_ok (y := x / 6) hc6 hm
  generalize ((((x / 6) % 64) ||| (1 <<< m)) &&& ((1 <<< c) - 1)) = s at hs hb ⊢
  have hs64 : s < 64 := Nat.lt_of_lt_of_le hs (Nat.pow_le_pow_right (by decide) hc6)
  refine G_istore (ls2 := [some (.ref (0)), some (.ref (1603)), some (.int (nI (x))), some (.int (nI (c))), some (.int (nI (m))), some (.int (nI (s))), none, none, none, none, none, none, none]) dL_stands_32 (by decide) rfl ?_
  by_cases h2 : gM S m 1 = 2
  · refine G_aload_n dL_stands_34 rfl rfl ?_
    refine G_bipush (v := nI 15) dL_stands_35 (by decide) ?_
    refine G_iload dL_stands_37 rfl ?_
    refine G_iload dL_stands_39 rfl ?_
    refine G_iconst (v := nI 0) dL_stands_41 (by decide) ?_
    refine G_lc (E := 120) (u := 1) (u2 := 2) (rest := []) zN_go dL_stands_42 lL_162 ⟨Nat.le_of_ble_eq_true rfl, Nat.le_of_ble_eq_true rfl⟩ (Nat.le_of_ble_eq_true rfl) hf ⟨by omega, rfl⟩ (vOw.rf (v := v1)) (vCZ_eq (c_call_15 hTo W3.1 hG hB hf) (x_staN (mb_t hm hc6) (by rw [nn (by omega), gin_t (Nat.zero_le _) (by decide) (by decide), mset_n (by omega), decide_eq_true hs, hb]; rfl) (by rw [nn (by omega)]; exact h2))) (fun v4 rv5 => ?_)
    have W6 : LW v4 ((t, n), (c, S), D, sl) ((t, n), (c, S), D, sl) := W3.o rv5
    refine G_top (y := (-1)) rfl ?_
    refine G_istore (ls2 := [some (.ref (0)), some (.ref (1603)), some (.int (nI (x))), some (.int (nI (c))), some (.int (nI (m))), some (.int (nI (s))), some (.int ((-1))), none, none, none, none, none, none]) dL_stands_45 (by decide) rfl ?_
    refine G_aload_n dL_stands_47 rfl rfl ?_
    refine G_bipush (v := nI 15) dL_stands_48 (by decide) ?_
    refine G_iload dL_stands_50 rfl ?_
    refine G_iload dL_stands_52 rfl ?_
    refine G_iconst (v := nI 1) dL_stands_54 (by decide) ?_
    refine G_lc (E := 120) (u := 2) (u2 := 3) (rest := []) zN_go dL_stands_55 lL_162 ⟨Nat.le_of_ble_eq_true rfl, Nat.le_of_ble_eq_true rfl⟩ (Nat.le_of_ble_eq_true rfl) hf ⟨by omega, rfl⟩ (vOw.rf (v := v4)) (vCZ_eq (c_call_15 hTo W6.1 hG hB hf) (x_staN (mb_t hm hc6) (by rw [nn (by omega), gin_t (Nat.zero_le _) (by decide) (by decide), mset_n (by omega), decide_eq_true hs, hb]; rfl) (by rw [nn (by omega)]; exact h2))) (fun v7 rv8 => ?_)
    have W9 : LW v7 ((t, n), (c, S), D, sl) ((t, n), (c, S), D, sl) := W6.o rv8
    refine G_top (y := (-1)) rfl ?_
    refine G_istore (ls2 := [some (.ref (0)), some (.ref (1603)), some (.int (nI (x))), some (.int (nI (c))), some (.int (nI (m))), some (.int (nI (s))), some (.int ((-1))), some (.int ((-1))), none, none, none, none, none]) dL_stands_58 (by decide) rfl ?_
    refine G_aload_n dL_stands_60 rfl rfl ?_
    refine G_iconst (v := nI 2) dL_stands_61 (by decide) ?_
    refine G_iconst (v := nI 1) dL_stands_62 (by decide) ?_
    refine G_iconst (v := nI 0) dL_stands_63 (by decide) ?_
    refine G_iconst (v := nI 0) dL_stands_64 (by decide) ?_
    refine G_lc (E := 120) (u := 3) (u2 := 4) (rest := []) zN_go dL_stands_65 lL_162 ⟨Nat.le_of_ble_eq_true rfl, Nat.le_of_ble_eq_true rfl⟩ (Nat.le_of_ble_eq_true rfl) hf ⟨by omega, rfl⟩ (vOw.rf (v := v7)) (r_about (by decide) hTo W9.1 hG hB hf) (fun v10 rv11 => ?_)
    have W12 : LW v10 ((t, n), (c, S), D, sl) ((t, n), (c, S), D, sl) := W9.o rv11
    refine G_top (y := nI (gG S 1)) rfl ?_
    refine G_istore (ls2 := [some (.ref (0)), some (.ref (1603)), some (.int (nI (x))), some (.int (nI (c))), some (.int (nI (m))), some (.int (nI (s))), some (.int ((-1))), some (.int ((-1))), some (.int (nI (gG S 1))), none, none, none, none]) dL_stands_68 (by decide) rfl ?_
    refine G_aload_n dL_stands_70 rfl rfl ?_
    refine G_iconst (v := nI 3) dL_stands_71 (by decide) ?_
    refine G_iload dL_stands_72 rfl ?_
    refine G_iconst (v := nI 1) dL_stands_74 (by decide) ?_
    refine G_iconst (v := nI 0) dL_stands_75 (by decide) ?_
    refine G_lc (E := 120) (u := 4) (u2 := 5) (rest := []) zN_go dL_stands_76 lL_162 ⟨Nat.le_of_ble_eq_true rfl, Nat.le_of_ble_eq_true rfl⟩ (Nat.le_of_ble_eq_true rfl) hf ⟨by omega, rfl⟩ (vOw.rf (v := v10)) (r_member (by omega) (by decide) hTo W12.1 hG hB hf) (fun v13 rv14 => ?_)
    have W15 : LW v13 ((t, n), (c, S), D, sl) ((t, n), (c, S), D, sl) := W12.o rv14
    refine G_top (y := nI (gM S m 1)) rfl ?_
    refine G_iconst (v := nI 2) dL_stands_79 (by decide) ?_
    refine G_icmp_neN (tgt := 101) dL_stands_80 (by decide) (by have := hN.m1 m; omega) (by omega) (fun c80 => (c80 h2).elim) (fun c80 => ?_)
    refine G_iload dL_stands_83 rfl ?_
    refine G_iconst (v := -1) dL_stands_85 (by decide) ?_
    refine G_icmp_ne (tgt := 99) dL_stands_86 (by decide) (fun c86 => (c86 rfl).elim) (fun c86 => ?_)
    refine G_iload dL_stands_89 rfl ?_
    refine G_iconst (v := -1) dL_stands_91 (by decide) ?_
    refine G_icmp_ne (tgt := 99) dL_stands_92 (by decide) (fun c92 => (c92 rfl).elim) (fun c92 => ?_)
    refine G_iconst (v := nI 1) dL_stands_95 (by decide) ?_
    refine G_goto (tgt := 100) dL_stands_96 (by decide) ?_
    refine G_zret dL_stands_100 rfl (by decide) ?_
    exact qe_end W15 rfl ⟨0, by rw [List.drop_zero]⟩
  · have hn6 : gM S m 6 ≤ B := hN.m6 m
    have k1 : KC (B + 70000) (c, mcall S m s) := ⟨(hN.call hm (Nat.lt_of_lt_of_le hs (Nat.pow_le_pow_right (by decide) hc6))).up (by omega), hI.call hm hb⟩
    have hk : ∀ q, q ≤ 100 → KC (B + 270000) (c, mticks q (mcall S m s)) := fun q hq => ⟨(k1.1.ticks q).up (by omega), k1.2.ticks k1.1 q⟩
    have hka : KC (B + 270000) (c, mcall S m s) := hk 0 (by omega)
    obtain ⟨hta, htn⟩ := told_all hJ hN hm hs hb
    have hone := told_one (c := c) (S := S) (m := m) (s := s) (by obtain ⟨F9, W9, G9, p9, -, -⟩ := hJ; exact (p9 m hm).1.1)
    refine G_aload_n dL_stands_34 rfl rfl ?_
    rcases three hta with ⟨en, ea⟩ | ⟨k0, en, ea⟩ | ⟨k0, a0, en, ea, hle, hal, hth⟩
    · refine G_bipush (v := nI 15) dL_stands_35 (by decide) ?_
      refine G_iload dL_stands_37 rfl ?_
      refine G_iload dL_stands_39 rfl ?_
      refine G_iconst (v := nI 0) dL_stands_41 (by decide) ?_
      refine G_lc (E := 120) (u := 1) (u2 := 2) (rest := []) zN_go dL_stands_42 lL_162 ⟨Nat.le_of_ble_eq_true rfl, Nat.le_of_ble_eq_true rfl⟩ (Nat.le_of_ble_eq_true rfl) hf ⟨by omega, rfl⟩ (vOw.rf (v := v1)) (vCZ_eq (c_call_15 hTo W3.1 hG hB hf) ((t_stands hc6 hm hs hb (by decide) h2).trans (by rw [en]))) (fun v16 rv17 => ?_)
      have W18 : LW v16 ((t, n), (c, S), D, sl) ((t, n), (c, S), D, sl) := W3.o rv17
      refine G_top (y := (-1)) rfl ?_
      refine G_istore (ls2 := [some (.ref (0)), some (.ref (1603)), some (.int (nI (x))), some (.int (nI (c))), some (.int (nI (m))), some (.int (nI (s))), some (.int ((-1))), none, none, none, none, none, none]) dL_stands_45 (by decide) rfl ?_
      refine G_aload_n dL_stands_47 rfl rfl ?_
      refine G_bipush (v := nI 15) dL_stands_48 (by decide) ?_
      refine G_iload dL_stands_50 rfl ?_
      refine G_iload dL_stands_52 rfl ?_
      refine G_iconst (v := nI 1) dL_stands_54 (by decide) ?_
      refine G_lc (E := 120) (u := 2) (u2 := 3) (rest := []) zN_go dL_stands_55 lL_162 ⟨Nat.le_of_ble_eq_true rfl, Nat.le_of_ble_eq_true rfl⟩ (Nat.le_of_ble_eq_true rfl) hf ⟨by omega, rfl⟩ (vOw.rf (v := v16)) (vCZ_eq (c_call_15 hTo W18.1 hG hB hf) ((t_stands hc6 hm hs hb (by decide) h2).trans (by rw [ea]))) (fun v19 rv20 => ?_)
      have W21 : LW v19 ((t, n), (c, S), D, sl) ((t, n), (c, S), D, sl) := W18.o rv20
      refine G_top (y := (-1)) rfl ?_
      refine G_istore (ls2 := [some (.ref (0)), some (.ref (1603)), some (.int (nI (x))), some (.int (nI (c))), some (.int (nI (m))), some (.int (nI (s))), some (.int ((-1))), some (.int ((-1))), none, none, none, none, none]) dL_stands_58 (by decide) rfl ?_
      refine G_aload_n dL_stands_60 rfl rfl ?_
      refine G_iconst (v := nI 2) dL_stands_61 (by decide) ?_
      refine G_iconst (v := nI 1) dL_stands_62 (by decide) ?_
      refine G_iconst (v := nI 0) dL_stands_63 (by decide) ?_
      refine G_iconst (v := nI 0) dL_stands_64 (by decide) ?_
      refine G_lc (E := 120) (u := 3) (u2 := 4) (rest := []) zN_go dL_stands_65 lL_162 ⟨Nat.le_of_ble_eq_true rfl, Nat.le_of_ble_eq_true rfl⟩ (Nat.le_of_ble_eq_true rfl) hf ⟨by omega, rfl⟩ (vOw.rf (v := v19)) (r_about (by decide) hTo W21.1 hG hB hf) (fun v22 rv23 => ?_)
      have W24 : LW v22 ((t, n), (c, S), D, sl) ((t, n), (c, S), D, sl) := W21.o rv23
      refine G_top (y := nI (gG S 1)) rfl ?_
      refine G_istore (ls2 := [some (.ref (0)), some (.ref (1603)), some (.int (nI (x))), some (.int (nI (c))), some (.int (nI (m))), some (.int (nI (s))), some (.int ((-1))), some (.int ((-1))), some (.int (nI (gG S 1))), none, none, none, none]) dL_stands_68 (by decide) rfl ?_
      refine G_aload_n dL_stands_70 rfl rfl ?_
      refine G_iconst (v := nI 3) dL_stands_71 (by decide) ?_
      refine G_iload dL_stands_72 rfl ?_
      refine G_iconst (v := nI 1) dL_stands_74 (by decide) ?_
      refine G_iconst (v := nI 0) dL_stands_75 (by decide) ?_
      refine G_lc (E := 120) (u := 4) (u2 := 5) (rest := []) zN_go dL_stands_76 lL_162 ⟨Nat.le_of_ble_eq_true rfl, Nat.le_of_ble_eq_true rfl⟩ (Nat.le_of_ble_eq_true rfl) hf ⟨by omega, rfl⟩ (vOw.rf (v := v22)) (r_member (by omega) (by decide) hTo W24.1 hG hB hf) (fun v25 rv26 => ?_)
      have W27 : LW v25 ((t, n), (c, S), D, sl) ((t, n), (c, S), D, sl) := W24.o rv26
      refine G_top (y := nI (gM S m 1)) rfl ?_
      refine G_iconst (v := nI 2) dL_stands_79 (by decide) ?_
      refine G_icmp_neN (tgt := 101) dL_stands_80 (by decide) (by have := hN.m1 m; omega) (by omega) (fun c80 => ?_) (fun c80 => (h2 c80).elim)
      refine G_aload_n dL_stands_101 rfl rfl ?_
      refine G_bipush (v := nI 9) dL_stands_102 (by decide) ?_
      refine G_iload dL_stands_104 rfl ?_
      refine G_iload dL_stands_106 rfl ?_
      refine G_iconst (v := nI 0) dL_stands_108 (by decide) ?_
      refine G_lc (E := 120) (u := 5) (u2 := 6) (rest := []) zN_go dL_stands_109 lL_162 ⟨Nat.le_of_ble_eq_true rfl, Nat.le_of_ble_eq_true rfl⟩ (Nat.le_of_ble_eq_true rfl) hf ⟨by omega, rfl⟩ (vOw.rf (v := v25)) (vCZ_eq (c_call_9 hTo W27.1 hG hB hf) (t_call hc6 hm hs hb h2)) (fun v28 rv29 => ?_)
      have W30 : LW v28 ((t, n), (c, mcall S m s), dr1 D ++ [(c, S)], sl) ((t, n), (c, S), D, sl) := W27.o rv29
      refine G_top (y := nI (gM S m 6 + 1)) rfl ?_
      refine G_istore (ls2 := [some (.ref (0)), some (.ref (1603)), some (.int (nI (x))), some (.int (nI (c))), some (.int (nI (m))), some (.int (nI (s))), some (.int ((-1))), some (.int ((-1))), some (.int (nI (gG S 1))), some (.int (nI (gM S m 6 + 1))), none, none, none]) dL_stands_112 (by decide) rfl ?_
      refine G_iload dL_stands_114 rfl ?_
      refine G_aload_n dL_stands_116 rfl rfl ?_
      refine G_bipush (v := nI 9) dL_stands_117 (by decide) ?_
      refine G_iload dL_stands_119 rfl ?_
      refine G_iload dL_stands_121 rfl ?_
      refine G_iconst (v := nI 0) dL_stands_123 (by decide) ?_
      refine G_lc (E := 120) (u := 6) (u2 := 7) (rest := [.int (nI (gM S m 6 + 1))]) zN_go dL_stands_124 lL_162 ⟨Nat.le_of_ble_eq_true rfl, Nat.le_of_ble_eq_true rfl⟩ (Nat.le_of_ble_eq_true rfl) hf ⟨by omega, rfl⟩ (vOw.rf (v := v28)) (vCZ_eq (c_call_9 hTq W30.2 hG hB hf) (t_call hc6 hm hs hb h2)) (fun v31 rv32 => ?_)
      have W33 : LW v31 ((t, n), (c, mcall S m s), dr1 D ++ [(c, S)], sl) ((t, n), (c, mcall S m s), dr1 D ++ [(c, S)], sl) := W30.q rv32
      obtain ⟨i0, ei0⟩ := tc_ex (t := t) (n := n) (X := (c, mcall S m s)) (Y := (c, S)) (D := D) (sl := sl)
      rw [ei0] at W33
      refine G_top (y := nI (gM S m 6 + 1)) rfl ?_
      refine G_icmp_neN (tgt := 167) dL_stands_127 (by decide) (by omega) (by omega) (fun c127 => (c127 rfl).elim) (fun c127 => ?_)
      refine G_iload dL_stands_130 rfl ?_
      refine G_iconst (v := -1) dL_stands_132 (by decide) ?_
      refine G_icmp_eq (tgt := 149) dL_stands_133 (by decide) (fun c133 => ?_) (fun c133 => (c133 rfl).elim)
      have hJ163 : ∀ (j9 : Nat), vG (kZs zN) M_L_stands 163 [some (.ref (0)), some (.ref (1603)), some (.int (nI (x))), some (.int (nI (c))), some (.int (nI (m))), some (.int (nI (s))), some (.int ((-1))), some (.int ((-1))), some (.int (nI (gG S 1))), some (.int (nI (gM S m 6 + 1))), none, none, none] [] (4 * (120 - 7), 24 * (120 - 7)) (σ, v31) (vN (qE σ (nI 1) (fun U => ∃ i, U = ((t, n), (c, S), D.drop i, sl)))) := by
        intro j9 
        refine G_iconst (v := nI 1) dL_stands_163 (by decide) ?_
        refine G_goto (tgt := 168) dL_stands_164 (by decide) ?_
        refine G_istore (ls2 := [some (.ref (0)), some (.ref (1603)), some (.int (nI (x))), some (.int (nI (c))), some (.int (nI (m))), some (.int (nI (s))), some (.int ((-1))), some (.int ((-1))), some (.int (nI (gG S 1))), some (.int (nI (gM S m 6 + 1))), some (.int (nI (1))), none, none]) dL_stands_168 (by decide) rfl ?_
        refine G_iload dL_stands_170 rfl ?_
        refine G_iconst (v := -1) dL_stands_172 (by decide) ?_
        refine G_icmp_ne (tgt := 181) dL_stands_173 (by decide) (fun c173 => (c173 rfl).elim) (fun c173 => ?_)
        refine G_bipush (v := nI 100) dL_stands_176 (by decide) ?_
        refine G_goto (tgt := 183) dL_stands_178 (by decide) ?_
        refine G_istore (ls2 := [some (.ref (0)), some (.ref (1603)), some (.int (nI (x))), some (.int (nI (c))), some (.int (nI (m))), some (.int (nI (s))), some (.int ((-1))), some (.int ((-1))), some (.int (nI (gG S 1))), some (.int (nI (gM S m 6 + 1))), some (.int (nI (1))), some (.int (nI (100))), none]) dL_stands_183 (by decide) rfl ?_
        refine G_iload dL_stands_185 rfl ?_
        refine G_if_leN (tgt := 246) dL_stands_187 (by decide) (by decide) (fun q9 => absurd q9 (by decide)) (fun _ => ?_)
        refine G_iload dL_stands_190 rfl ?_
        refine G_iconst (v := -1) dL_stands_192 (by decide) ?_
        refine G_icmp_eq (tgt := 246) dL_stands_193 (by decide) (fun c193 => ?_) (fun c193 => (c193 rfl).elim)
        refine G_iload dL_stands_246 rfl ?_
        refine G_if_eqN (tgt := 335) dL_stands_248 (by decide) (by decide) (fun q9 => absurd q9 (by decide)) (fun _ => ?_)
        refine G_aload_n dL_stands_251 rfl rfl ?_
        refine G_aload_n dL_stands_252 rfl rfl ?_
        refine G_iload dL_stands_253 rfl ?_
        obtain ⟨i34, hc35⟩ := st_waits (p := 100) hTo hTq W33 hG hk (by omega) hB2 hf
        refine G_l2 (K := 4) (E := 120) (u := 7) (u2 := 11) (rest := []) (As := [.ref (0), .ref (1603), .int (nI (100))]) zN_go dL_stands_255 lL_221 yk_L_waits ys_L_waits ⟨Nat.le_of_ble_eq_true rfl, Nat.le_of_ble_eq_true rfl⟩ rfl rfl (Nat.le_of_ble_eq_true rfl) rfl hf ⟨by omega, rfl⟩ (hc35) (fun v36 W37 => ?_)
        refine G_if_eqN (tgt := 335) dL_stands_258 (by decide) (by decide) (fun q9 => absurd q9 (by decide)) (fun _ => ?_)
        refine G_iload dL_stands_261 rfl ?_
        refine G_iconst (v := -1) dL_stands_263 (by decide) ?_
        refine G_icmp_eq (tgt := 321) dL_stands_264 (by decide) (fun c264 => ?_) (fun c264 => (c264 rfl).elim)
        refine G_aload_n dL_stands_321 rfl rfl ?_
        refine G_aload_n dL_stands_322 rfl rfl ?_
        refine G_iload dL_stands_323 rfl ?_
        refine G_l2 (K := 4) (E := 120) (u := 11) (u2 := 15) (rest := []) (As := [.ref (0), .ref (1603), .int (nI (100))]) zN_go dL_stands_325 lL_224 yk_L_undoes ys_L_undoes ⟨Nat.le_of_ble_eq_true rfl, Nat.le_of_ble_eq_true rfl⟩ rfl rfl (Nat.le_of_ble_eq_true rfl) rfl hf ⟨by omega, rfl⟩ (st_undoes (p := 100) hTo hTq W37 hG hk (by omega) hB2 hf) (fun v38 W39 => ?_)
        refine G_if_eqN (tgt := 335) dL_stands_328 (by decide) (by decide) (fun q9 => absurd q9 (by decide)) (fun _ => ?_)
        refine G_iconst (v := nI 1) dL_stands_331 (by decide) ?_
        refine G_goto (tgt := 336) dL_stands_332 (by decide) ?_
        refine G_istore (ls2 := [some (.ref (0)), some (.ref (1603)), some (.int (nI (x))), some (.int (nI (c))), some (.int (nI (m))), some (.int (nI (s))), some (.int ((-1))), some (.int ((-1))), some (.int (nI (gG S 1))), some (.int (nI (gM S m 6 + 1))), some (.int (nI (1))), some (.int (nI (100))), none]) dL_stands_336 (by decide) rfl ?_
        refine G_iload dL_stands_338 rfl ?_
        refine G_if_le (tgt := 464) dL_stands_340 (by decide) (fun c340 => ?_) (fun c340 => (c340 (by decide)).elim)
        refine G_iload dL_stands_464 rfl ?_
        refine G_if_eqN (tgt := 516) dL_stands_466 (by decide) (by decide) (fun q9 => absurd q9 (by decide)) (fun _ => ?_)
        refine G_aload_n dL_stands_469 rfl rfl ?_
        refine G_bipush (v := nI 14) dL_stands_470 (by decide) ?_
        refine G_iconst (v := nI 0) dL_stands_472 (by decide) ?_
        refine G_iconst (v := nI 0) dL_stands_473 (by decide) ?_
        refine G_iconst (v := nI 0) dL_stands_474 (by decide) ?_
        refine G_lc (E := 120) (u := 15) (u2 := 16) (rest := []) zN_go dL_stands_475 lL_162 ⟨Nat.le_of_ble_eq_true rfl, Nat.le_of_ble_eq_true rfl⟩ (Nat.le_of_ble_eq_true rfl) hf ⟨by omega, rfl⟩ (vOw.rf (v := v38)) (vCZ_eq (c_call_14 hTo W39.1 (gi_w (p := 0) (i := i34) hG hk (by omega)) (by omega) hf) (t_undo1 (E := D.drop i34))) (fun v40 rv41 => ?_)
        have W42 : LW v40 ((t, n), (c, S), D.drop i34, sl) ((t, n), (c, mcall S m s), D.drop i34 ++ [(c, S)], sl) := W39.o rv41
        refine G_top (y := nI ((D.drop i34).length)) rfl ?_
        refine G_cSp (rest := []) (As := [.int (nI ((D.drop i34).length))]) dL_stands_478 lL_217 yk_L_thrown ys_L_thrown (by decide) rfl rfl (Nat.le_of_ble_eq_true rfl) rfl (c_L_thrown (by have h14 : D.length ≤ 14 := hW.1.len; rw [List.length_drop]; omega)) ?_
        refine G_if_neN (tgt := 516) dL_stands_481 (by decide) (by decide) (fun q9 => absurd q9 (by decide)) (fun _ => ?_)
        refine G_aload_n dL_stands_484 rfl rfl ?_
        refine G_bipush (v := nI 14) dL_stands_485 (by decide) ?_
        refine G_iconst (v := nI 0) dL_stands_487 (by decide) ?_
        refine G_iconst (v := nI 0) dL_stands_488 (by decide) ?_
        refine G_iconst (v := nI 0) dL_stands_489 (by decide) ?_
        refine G_lc (E := 120) (u := 16) (u2 := 17) (rest := []) zN_go dL_stands_490 lL_162 ⟨Nat.le_of_ble_eq_true rfl, Nat.le_of_ble_eq_true rfl⟩ (Nat.le_of_ble_eq_true rfl) hf ⟨by omega, rfl⟩ (vOw.rf (v := v40)) (vCZ_eq (c_call_14 hTq W42.2 (gi_w (p := 0) (i := i34) hG hk (by omega)) (by omega) hf) (t_undo1 (E := D.drop i34))) (fun v43 rv44 => ?_)
        have W45 : LW v43 ((t, n), (c, S), D.drop i34, sl) ((t, n), (c, S), D.drop i34, sl) := W42.q rv44
        refine G_top (y := nI ((D.drop i34).length)) rfl ?_
        refine G_cSp (rest := []) (As := [.int (nI ((D.drop i34).length))]) dL_stands_493 lL_217 yk_L_thrown ys_L_thrown (by decide) rfl rfl (Nat.le_of_ble_eq_true rfl) rfl (c_L_thrown (by have h14 : D.length ≤ 14 := hW.1.len; rw [List.length_drop]; omega)) ?_
        refine G_if_neN (tgt := 516) dL_stands_496 (by decide) (by decide) (fun q9 => absurd q9 (by decide)) (fun _ => ?_)
        refine G_aload_n dL_stands_499 rfl rfl ?_
        refine G_iconst (v := nI 2) dL_stands_500 (by decide) ?_
        refine G_iconst (v := nI 1) dL_stands_501 (by decide) ?_
        refine G_iconst (v := nI 0) dL_stands_502 (by decide) ?_
        refine G_iconst (v := nI 0) dL_stands_503 (by decide) ?_
        refine G_lc (E := 120) (u := 17) (u2 := 18) (rest := []) zN_go dL_stands_504 lL_162 ⟨Nat.le_of_ble_eq_true rfl, Nat.le_of_ble_eq_true rfl⟩ (Nat.le_of_ble_eq_true rfl) hf ⟨by omega, rfl⟩ (vOw.rf (v := v43)) (r_about (t := t) (n := n) (c := c) (S := S) (D := D.drop i34) (sl := sl) (by decide) hTo W45.1 (gi_dp hG i34) hB hf) (fun v46 rv47 => ?_)
        have W48 : LW v46 ((t, n), (c, S), D.drop i34, sl) ((t, n), (c, S), D.drop i34, sl) := W45.o rv47
        refine G_top (y := nI (gG S 1)) rfl ?_
        refine G_iload dL_stands_507 rfl ?_
        refine G_icmp_neN (tgt := 516) dL_stands_509 (by decide) (by have := hN.g (i := 1) (by decide); omega) (by have := hN.g (i := 1) (by decide); omega) (fun c509 => (c509 rfl).elim) (fun c509 => ?_)
        refine G_iconst (v := nI 1) dL_stands_512 (by decide) ?_
        refine G_goto (tgt := 517) dL_stands_513 (by decide) ?_
        refine G_zret dL_stands_517 rfl (by decide) ?_
        exact qe_end W48 rfl ⟨i34, rfl⟩
      refine G_iload dL_stands_149 rfl ?_
      refine G_cSp (rest := []) (As := [.int (nI (s))]) dL_stands_151 lL_185 yk_L_bits ys_L_bits (by decide) rfl rfl (Nat.le_of_ble_eq_true rfl) rfl (c_L_bits hs64) ?_
      refine G_iconst (v := nI 1) dL_stands_154 (by decide) ?_
      refine G_icmp_gtN (tgt := 163) dL_stands_155 (by decide) (by have := mbits_le (s := s) 24; omega) (by have := mbits_le (s := s) 24; omega) (fun c155 => ?_) (fun c155 => ((show False by have := hone (one_bits s hs64 m (by omega) hb (by omega)); rw [en] at this; cases this)).elim)
      exact hJ163 0
    · obtain ⟨hk0, hst, hs4, hs1, hne⟩ := htn k0 en
      refine G_bipush (v := nI 15) dL_stands_35 (by decide) ?_
      refine G_iload dL_stands_37 rfl ?_
      refine G_iload dL_stands_39 rfl ?_
      refine G_iconst (v := nI 0) dL_stands_41 (by decide) ?_
      refine G_lc (E := 120) (u := 1) (u2 := 2) (rest := []) zN_go dL_stands_42 lL_162 ⟨Nat.le_of_ble_eq_true rfl, Nat.le_of_ble_eq_true rfl⟩ (Nat.le_of_ble_eq_true rfl) hf ⟨by omega, rfl⟩ (vOw.rf (v := v1)) (vCZ_eq (c_call_15 hTo W3.1 hG hB hf) ((t_stands hc6 hm hs hb (by decide) h2).trans (by rw [en]))) (fun v49 rv50 => ?_)
      have W51 : LW v49 ((t, n), (c, S), D, sl) ((t, n), (c, S), D, sl) := W3.o rv50
      refine G_top (y := nI (k0)) rfl ?_
      refine G_istore (ls2 := [some (.ref (0)), some (.ref (1603)), some (.int (nI (x))), some (.int (nI (c))), some (.int (nI (m))), some (.int (nI (s))), some (.int (nI (k0))), none, none, none, none, none, none]) dL_stands_45 (by decide) rfl ?_
      refine G_aload_n dL_stands_47 rfl rfl ?_
      refine G_bipush (v := nI 15) dL_stands_48 (by decide) ?_
      refine G_iload dL_stands_50 rfl ?_
      refine G_iload dL_stands_52 rfl ?_
      refine G_iconst (v := nI 1) dL_stands_54 (by decide) ?_
      refine G_lc (E := 120) (u := 2) (u2 := 3) (rest := []) zN_go dL_stands_55 lL_162 ⟨Nat.le_of_ble_eq_true rfl, Nat.le_of_ble_eq_true rfl⟩ (Nat.le_of_ble_eq_true rfl) hf ⟨by omega, rfl⟩ (vOw.rf (v := v49)) (vCZ_eq (c_call_15 hTo W51.1 hG hB hf) ((t_stands hc6 hm hs hb (by decide) h2).trans (by rw [ea]))) (fun v52 rv53 => ?_)
      have W54 : LW v52 ((t, n), (c, S), D, sl) ((t, n), (c, S), D, sl) := W51.o rv53
      refine G_top (y := (-1)) rfl ?_
      refine G_istore (ls2 := [some (.ref (0)), some (.ref (1603)), some (.int (nI (x))), some (.int (nI (c))), some (.int (nI (m))), some (.int (nI (s))), some (.int (nI (k0))), some (.int ((-1))), none, none, none, none, none]) dL_stands_58 (by decide) rfl ?_
      refine G_aload_n dL_stands_60 rfl rfl ?_
      refine G_iconst (v := nI 2) dL_stands_61 (by decide) ?_
      refine G_iconst (v := nI 1) dL_stands_62 (by decide) ?_
      refine G_iconst (v := nI 0) dL_stands_63 (by decide) ?_
      refine G_iconst (v := nI 0) dL_stands_64 (by decide) ?_
      refine G_lc (E := 120) (u := 3) (u2 := 4) (rest := []) zN_go dL_stands_65 lL_162 ⟨Nat.le_of_ble_eq_true rfl, Nat.le_of_ble_eq_true rfl⟩ (Nat.le_of_ble_eq_true rfl) hf ⟨by omega, rfl⟩ (vOw.rf (v := v52)) (r_about (by decide) hTo W54.1 hG hB hf) (fun v55 rv56 => ?_)
      have W57 : LW v55 ((t, n), (c, S), D, sl) ((t, n), (c, S), D, sl) := W54.o rv56
      refine G_top (y := nI (gG S 1)) rfl ?_
      refine G_istore (ls2 := [some (.ref (0)), some (.ref (1603)), some (.int (nI (x))), some (.int (nI (c))), some (.int (nI (m))), some (.int (nI (s))), some (.int (nI (k0))), some (.int ((-1))), some (.int (nI (gG S 1))), none, none, none, none]) dL_stands_68 (by decide) rfl ?_
      refine G_aload_n dL_stands_70 rfl rfl ?_
      refine G_iconst (v := nI 3) dL_stands_71 (by decide) ?_
      refine G_iload dL_stands_72 rfl ?_
      refine G_iconst (v := nI 1) dL_stands_74 (by decide) ?_
      refine G_iconst (v := nI 0) dL_stands_75 (by decide) ?_
      refine G_lc (E := 120) (u := 4) (u2 := 5) (rest := []) zN_go dL_stands_76 lL_162 ⟨Nat.le_of_ble_eq_true rfl, Nat.le_of_ble_eq_true rfl⟩ (Nat.le_of_ble_eq_true rfl) hf ⟨by omega, rfl⟩ (vOw.rf (v := v55)) (r_member (by omega) (by decide) hTo W57.1 hG hB hf) (fun v58 rv59 => ?_)
      have W60 : LW v58 ((t, n), (c, S), D, sl) ((t, n), (c, S), D, sl) := W57.o rv59
      refine G_top (y := nI (gM S m 1)) rfl ?_
      refine G_iconst (v := nI 2) dL_stands_79 (by decide) ?_
      refine G_icmp_neN (tgt := 101) dL_stands_80 (by decide) (by have := hN.m1 m; omega) (by omega) (fun c80 => ?_) (fun c80 => (h2 c80).elim)
      refine G_aload_n dL_stands_101 rfl rfl ?_
      refine G_bipush (v := nI 9) dL_stands_102 (by decide) ?_
      refine G_iload dL_stands_104 rfl ?_
      refine G_iload dL_stands_106 rfl ?_
      refine G_iconst (v := nI 0) dL_stands_108 (by decide) ?_
      refine G_lc (E := 120) (u := 5) (u2 := 6) (rest := []) zN_go dL_stands_109 lL_162 ⟨Nat.le_of_ble_eq_true rfl, Nat.le_of_ble_eq_true rfl⟩ (Nat.le_of_ble_eq_true rfl) hf ⟨by omega, rfl⟩ (vOw.rf (v := v58)) (vCZ_eq (c_call_9 hTo W60.1 hG hB hf) (t_call hc6 hm hs hb h2)) (fun v61 rv62 => ?_)
      have W63 : LW v61 ((t, n), (c, mcall S m s), dr1 D ++ [(c, S)], sl) ((t, n), (c, S), D, sl) := W60.o rv62
      refine G_top (y := nI (gM S m 6 + 1)) rfl ?_
      refine G_istore (ls2 := [some (.ref (0)), some (.ref (1603)), some (.int (nI (x))), some (.int (nI (c))), some (.int (nI (m))), some (.int (nI (s))), some (.int (nI (k0))), some (.int ((-1))), some (.int (nI (gG S 1))), some (.int (nI (gM S m 6 + 1))), none, none, none]) dL_stands_112 (by decide) rfl ?_
      refine G_iload dL_stands_114 rfl ?_
      refine G_aload_n dL_stands_116 rfl rfl ?_
      refine G_bipush (v := nI 9) dL_stands_117 (by decide) ?_
      refine G_iload dL_stands_119 rfl ?_
      refine G_iload dL_stands_121 rfl ?_
      refine G_iconst (v := nI 0) dL_stands_123 (by decide) ?_
      refine G_lc (E := 120) (u := 6) (u2 := 7) (rest := [.int (nI (gM S m 6 + 1))]) zN_go dL_stands_124 lL_162 ⟨Nat.le_of_ble_eq_true rfl, Nat.le_of_ble_eq_true rfl⟩ (Nat.le_of_ble_eq_true rfl) hf ⟨by omega, rfl⟩ (vOw.rf (v := v61)) (vCZ_eq (c_call_9 hTq W63.2 hG hB hf) (t_call hc6 hm hs hb h2)) (fun v64 rv65 => ?_)
      have W66 : LW v64 ((t, n), (c, mcall S m s), dr1 D ++ [(c, S)], sl) ((t, n), (c, mcall S m s), dr1 D ++ [(c, S)], sl) := W63.q rv65
      obtain ⟨i0, ei0⟩ := tc_ex (t := t) (n := n) (X := (c, mcall S m s)) (Y := (c, S)) (D := D) (sl := sl)
      rw [ei0] at W66
      refine G_top (y := nI (gM S m 6 + 1)) rfl ?_
      refine G_icmp_neN (tgt := 167) dL_stands_127 (by decide) (by omega) (by omega) (fun c127 => (c127 rfl).elim) (fun c127 => ?_)
      refine G_iload dL_stands_130 rfl ?_
      refine G_iconst (v := -1) dL_stands_132 (by decide) ?_
      refine G_icmp_eq (tgt := 149) dL_stands_133 (by decide) (fun c133 => ?_) (fun c133 => (c133 rfl).elim)
      have hJ163 : ∀ (j9 : Nat), vG (kZs zN) M_L_stands 163 [some (.ref (0)), some (.ref (1603)), some (.int (nI (x))), some (.int (nI (c))), some (.int (nI (m))), some (.int (nI (s))), some (.int (nI (k0))), some (.int ((-1))), some (.int (nI (gG S 1))), some (.int (nI (gM S m 6 + 1))), none, none, none] [] (4 * (120 - 7), 24 * (120 - 7)) (σ, v64) (vN (qE σ (nI 1) (fun U => ∃ i, U = ((t, n), (c, S), D.drop i, sl)))) := by
        intro j9 
        refine G_iconst (v := nI 1) dL_stands_163 (by decide) ?_
        refine G_goto (tgt := 168) dL_stands_164 (by decide) ?_
        refine G_istore (ls2 := [some (.ref (0)), some (.ref (1603)), some (.int (nI (x))), some (.int (nI (c))), some (.int (nI (m))), some (.int (nI (s))), some (.int (nI (k0))), some (.int ((-1))), some (.int (nI (gG S 1))), some (.int (nI (gM S m 6 + 1))), some (.int (nI (1))), none, none]) dL_stands_168 (by decide) rfl ?_
        refine G_iload dL_stands_170 rfl ?_
        refine G_iconst (v := -1) dL_stands_172 (by decide) ?_
        refine G_icmp_ne (tgt := 181) dL_stands_173 (by decide) (fun c173 => ?_) (fun c173 => (nI_neq (by omega) (by decide) c173).elim)
        refine G_iload dL_stands_181 rfl ?_
        refine G_istore (ls2 := [some (.ref (0)), some (.ref (1603)), some (.int (nI (x))), some (.int (nI (c))), some (.int (nI (m))), some (.int (nI (s))), some (.int (nI (k0))), some (.int ((-1))), some (.int (nI (gG S 1))), some (.int (nI (gM S m 6 + 1))), some (.int (nI (1))), some (.int (nI (k0))), none]) dL_stands_183 (by decide) rfl ?_
        have hJ246 : ∀ (v9 : vV) (i9 : Nat), LW v9 ((t, n), (c, mcall S m s), D.drop i9 ++ [(c, S)], sl) ((t, n), (c, mcall S m s), D.drop i9 ++ [(c, S)], sl) → vG (kZs zN) M_L_stands 246 [some (.ref (0)), some (.ref (1603)), some (.int (nI (x))), some (.int (nI (c))), some (.int (nI (m))), some (.int (nI (s))), some (.int (nI (k0))), some (.int ((-1))), some (.int (nI (gG S 1))), some (.int (nI (gM S m 6 + 1))), some (.int (nI (1))), some (.int (nI (k0))), none] [] (4 * (120 - 17), 24 * (120 - 17)) (σ, v9) (vN (qE σ (nI 1) (fun U => ∃ i, U = ((t, n), (c, S), D.drop i, sl)))) := by
          intro v9 i9 W9
          refine G_iload dL_stands_246 rfl ?_
          refine G_if_eqN (tgt := 335) dL_stands_248 (by decide) (by decide) (fun q9 => absurd q9 (by decide)) (fun _ => ?_)
          refine G_aload_n dL_stands_251 rfl rfl ?_
          refine G_aload_n dL_stands_252 rfl rfl ?_
          refine G_iload dL_stands_253 rfl ?_
          obtain ⟨i67, hc68⟩ := st_waits (p := k0) hTo hTq W9 hG hk (by omega) hB2 hf
          refine G_l2 (K := 4) (E := 120) (u := 17) (u2 := 21) (rest := []) (As := [.ref (0), .ref (1603), .int (nI (k0))]) zN_go dL_stands_255 lL_221 yk_L_waits ys_L_waits ⟨Nat.le_of_ble_eq_true rfl, Nat.le_of_ble_eq_true rfl⟩ rfl rfl (Nat.le_of_ble_eq_true rfl) rfl hf ⟨by omega, rfl⟩ (hc68) (fun v69 W70 => ?_)
          refine G_if_eqN (tgt := 335) dL_stands_258 (by decide) (by decide) (fun q9 => absurd q9 (by decide)) (fun _ => ?_)
          refine G_iload dL_stands_261 rfl ?_
          refine G_iconst (v := -1) dL_stands_263 (by decide) ?_
          refine G_icmp_eq (tgt := 321) dL_stands_264 (by decide) (fun c264 => (nI_neq (by omega) (by decide) c264).elim) (fun c264 => ?_)
          refine G_aload_n dL_stands_267 rfl rfl ?_
          refine G_iconst (v := nI 3) dL_stands_268 (by decide) ?_
          refine G_iload dL_stands_269 rfl ?_
          refine G_iconst (v := nI 2) dL_stands_271 (by decide) ?_
          refine G_iconst (v := nI 0) dL_stands_272 (by decide) ?_
          refine G_lc (E := 120) (u := 21) (u2 := 22) (rest := []) zN_go dL_stands_273 lL_162 ⟨Nat.le_of_ble_eq_true rfl, Nat.le_of_ble_eq_true rfl⟩ (Nat.le_of_ble_eq_true rfl) hf ⟨by omega, rfl⟩ (vOw.rf (v := v69)) (r_member (t := t) (n := n) (c := c) (S := mticks k0 (mcall S m s)) (D := D.drop i67 ++ ([(c, S)] ++ pw c (mcall S m s) k0)) (sl := sl) (by omega) (by decide) hTo W70.1 (gi_w hG hk (by omega)) (by omega) hf) (fun v71 rv72 => ?_)
          have W73 : LW v71 ((t, n), (c, mticks k0 (mcall S m s)), D.drop i67 ++ ([(c, S)] ++ pw c (mcall S m s) k0), sl) ((t, n), (c, mticks k0 (mcall S m s)), D.drop i67 ++ ([(c, S)] ++ pw c (mcall S m s) k0), sl) := W70.o rv72
          refine G_top (y := nI (gM (mticks k0 (mcall S m s)) m 2)) rfl ?_
          refine G_iload dL_stands_276 rfl ?_
          refine G_icmp_neN (tgt := 335) dL_stands_278 (by decide) (by have h9 : gM (mticks k0 (mcall S m s)) m 2 ≤ B + 270000 := (hk k0 (by omega)).1.m2 m; omega) (by have h9 : gM (mticks k0 (mcall S m s)) m 2 ≤ B + 270000 := (hk k0 (by omega)).1.m2 m; omega) (fun c278 => (c278 hst.1).elim) (fun c278 => ?_)
          refine G_aload_n dL_stands_281 rfl rfl ?_
          refine G_iconst (v := nI 3) dL_stands_282 (by decide) ?_
          refine G_iload dL_stands_283 rfl ?_
          refine G_iconst (v := nI 3) dL_stands_285 (by decide) ?_
          refine G_iconst (v := nI 0) dL_stands_286 (by decide) ?_
          refine G_lc (E := 120) (u := 22) (u2 := 23) (rest := []) zN_go dL_stands_287 lL_162 ⟨Nat.le_of_ble_eq_true rfl, Nat.le_of_ble_eq_true rfl⟩ (Nat.le_of_ble_eq_true rfl) hf ⟨by omega, rfl⟩ (vOw.rf (v := v71)) (r_member (t := t) (n := n) (c := c) (S := mticks k0 (mcall S m s)) (D := D.drop i67 ++ ([(c, S)] ++ pw c (mcall S m s) k0)) (sl := sl) (by omega) (by decide) hTo W73.1 (gi_w hG hk (by omega)) (by omega) hf) (fun v74 rv75 => ?_)
          have W76 : LW v74 ((t, n), (c, mticks k0 (mcall S m s)), D.drop i67 ++ ([(c, S)] ++ pw c (mcall S m s) k0), sl) ((t, n), (c, mticks k0 (mcall S m s)), D.drop i67 ++ ([(c, S)] ++ pw c (mcall S m s) k0), sl) := W73.o rv75
          refine G_top (y := nI (gM (mticks k0 (mcall S m s)) m 3)) rfl ?_
          refine G_iload dL_stands_290 rfl ?_
          refine G_icmp_neN (tgt := 335) dL_stands_292 (by decide) (by have h9 : gM (mticks k0 (mcall S m s)) m 3 < 6 := (hk k0 (by omega)).1.m3 m; omega) (by have h9 : gM (mticks k0 (mcall S m s)) m 3 < 6 := (hk k0 (by omega)).1.m3 m; omega) (fun c292 => (c292 hst.2).elim) (fun c292 => ?_)
          refine G_aload_n dL_stands_295 rfl rfl ?_
          refine G_iconst (v := nI 3) dL_stands_296 (by decide) ?_
          refine G_iload dL_stands_297 rfl ?_
          refine G_iconst (v := nI 4) dL_stands_299 (by decide) ?_
          refine G_iconst (v := nI 0) dL_stands_300 (by decide) ?_
          refine G_lc (E := 120) (u := 23) (u2 := 24) (rest := []) zN_go dL_stands_301 lL_162 ⟨Nat.le_of_ble_eq_true rfl, Nat.le_of_ble_eq_true rfl⟩ (Nat.le_of_ble_eq_true rfl) hf ⟨by omega, rfl⟩ (vOw.rf (v := v74)) (r_member (t := t) (n := n) (c := c) (S := mticks k0 (mcall S m s)) (D := D.drop i67 ++ ([(c, S)] ++ pw c (mcall S m s) k0)) (sl := sl) (by omega) (by decide) hTo W76.1 (gi_w hG hk (by omega)) (by omega) hf) (fun v77 rv78 => ?_)
          have W79 : LW v77 ((t, n), (c, mticks k0 (mcall S m s)), D.drop i67 ++ ([(c, S)] ++ pw c (mcall S m s) k0), sl) ((t, n), (c, mticks k0 (mcall S m s)), D.drop i67 ++ ([(c, S)] ++ pw c (mcall S m s) k0), sl) := W76.o rv78
          refine G_top (y := nI (gM (mticks k0 (mcall S m s)) m 4)) rfl ?_
          refine G_iload dL_stands_304 rfl ?_
          refine G_icmp_neN (tgt := 335) dL_stands_306 (by decide) (by have h9 : gM (mticks k0 (mcall S m s)) m 4 < 64 := (hk k0 (by omega)).1.m4 m; omega) (by have h9 : gM (mticks k0 (mcall S m s)) m 4 < 64 := (hk k0 (by omega)).1.m4 m; omega) (fun c306 => (c306 hs4).elim) (fun c306 => ?_)
          refine G_aload_n dL_stands_309 rfl rfl ?_
          refine G_iconst (v := nI 3) dL_stands_310 (by decide) ?_
          refine G_iload dL_stands_311 rfl ?_
          refine G_iconst (v := nI 1) dL_stands_313 (by decide) ?_
          refine G_iconst (v := nI 0) dL_stands_314 (by decide) ?_
          refine G_lc (E := 120) (u := 24) (u2 := 25) (rest := []) zN_go dL_stands_315 lL_162 ⟨Nat.le_of_ble_eq_true rfl, Nat.le_of_ble_eq_true rfl⟩ (Nat.le_of_ble_eq_true rfl) hf ⟨by omega, rfl⟩ (vOw.rf (v := v77)) (r_member (t := t) (n := n) (c := c) (S := mticks k0 (mcall S m s)) (D := D.drop i67 ++ ([(c, S)] ++ pw c (mcall S m s) k0)) (sl := sl) (by omega) (by decide) hTo W79.1 (gi_w hG hk (by omega)) (by omega) hf) (fun v80 rv81 => ?_)
          have W82 : LW v80 ((t, n), (c, mticks k0 (mcall S m s)), D.drop i67 ++ ([(c, S)] ++ pw c (mcall S m s) k0), sl) ((t, n), (c, mticks k0 (mcall S m s)), D.drop i67 ++ ([(c, S)] ++ pw c (mcall S m s) k0), sl) := W79.o rv81
          refine G_top (y := nI (gM (mticks k0 (mcall S m s)) m 1)) rfl ?_
          refine G_if_neN (tgt := 335) dL_stands_318 (by decide) (by have h9 : gM (mticks k0 (mcall S m s)) m 1 ≤ 2 := (hk k0 (by omega)).1.m1 m; omega) (fun c318 => (c318 hs1).elim) (fun c318 => ?_)
          refine G_aload_n dL_stands_321 rfl rfl ?_
          refine G_aload_n dL_stands_322 rfl rfl ?_
          refine G_iload dL_stands_323 rfl ?_
          refine G_l2 (K := 4) (E := 120) (u := 25) (u2 := 29) (rest := []) (As := [.ref (0), .ref (1603), .int (nI (k0))]) zN_go dL_stands_325 lL_224 yk_L_undoes ys_L_undoes ⟨Nat.le_of_ble_eq_true rfl, Nat.le_of_ble_eq_true rfl⟩ rfl rfl (Nat.le_of_ble_eq_true rfl) rfl hf ⟨by omega, rfl⟩ (st_undoes (p := k0) hTo hTq W82 hG hk (by omega) hB2 hf) (fun v83 W84 => ?_)
          refine G_if_eqN (tgt := 335) dL_stands_328 (by decide) (by decide) (fun q9 => absurd q9 (by decide)) (fun _ => ?_)
          refine G_iconst (v := nI 1) dL_stands_331 (by decide) ?_
          refine G_goto (tgt := 336) dL_stands_332 (by decide) ?_
          refine G_istore (ls2 := [some (.ref (0)), some (.ref (1603)), some (.int (nI (x))), some (.int (nI (c))), some (.int (nI (m))), some (.int (nI (s))), some (.int (nI (k0))), some (.int ((-1))), some (.int (nI (gG S 1))), some (.int (nI (gM S m 6 + 1))), some (.int (nI (1))), some (.int (nI (k0))), none]) dL_stands_336 (by decide) rfl ?_
          refine G_iload dL_stands_338 rfl ?_
          refine G_if_le (tgt := 464) dL_stands_340 (by decide) (fun c340 => ?_) (fun c340 => (c340 (by decide)).elim)
          refine G_iload dL_stands_464 rfl ?_
          refine G_if_eqN (tgt := 516) dL_stands_466 (by decide) (by decide) (fun q9 => absurd q9 (by decide)) (fun _ => ?_)
          refine G_aload_n dL_stands_469 rfl rfl ?_
          refine G_bipush (v := nI 14) dL_stands_470 (by decide) ?_
          refine G_iconst (v := nI 0) dL_stands_472 (by decide) ?_
          refine G_iconst (v := nI 0) dL_stands_473 (by decide) ?_
          refine G_iconst (v := nI 0) dL_stands_474 (by decide) ?_
          refine G_lc (E := 120) (u := 29) (u2 := 30) (rest := []) zN_go dL_stands_475 lL_162 ⟨Nat.le_of_ble_eq_true rfl, Nat.le_of_ble_eq_true rfl⟩ (Nat.le_of_ble_eq_true rfl) hf ⟨by omega, rfl⟩ (vOw.rf (v := v83)) (vCZ_eq (c_call_14 hTo W84.1 (gi_w (p := 0) (i := i67) hG hk (by omega)) (by omega) hf) (t_undo1 (E := D.drop i67))) (fun v85 rv86 => ?_)
          have W87 : LW v85 ((t, n), (c, S), D.drop i67, sl) ((t, n), (c, mcall S m s), D.drop i67 ++ [(c, S)], sl) := W84.o rv86
          refine G_top (y := nI ((D.drop i67).length)) rfl ?_
          refine G_cSp (rest := []) (As := [.int (nI ((D.drop i67).length))]) dL_stands_478 lL_217 yk_L_thrown ys_L_thrown (by decide) rfl rfl (Nat.le_of_ble_eq_true rfl) rfl (c_L_thrown (by have h14 : D.length ≤ 14 := hW.1.len; rw [List.length_drop]; omega)) ?_
          refine G_if_neN (tgt := 516) dL_stands_481 (by decide) (by decide) (fun q9 => absurd q9 (by decide)) (fun _ => ?_)
          refine G_aload_n dL_stands_484 rfl rfl ?_
          refine G_bipush (v := nI 14) dL_stands_485 (by decide) ?_
          refine G_iconst (v := nI 0) dL_stands_487 (by decide) ?_
          refine G_iconst (v := nI 0) dL_stands_488 (by decide) ?_
          refine G_iconst (v := nI 0) dL_stands_489 (by decide) ?_
          refine G_lc (E := 120) (u := 30) (u2 := 31) (rest := []) zN_go dL_stands_490 lL_162 ⟨Nat.le_of_ble_eq_true rfl, Nat.le_of_ble_eq_true rfl⟩ (Nat.le_of_ble_eq_true rfl) hf ⟨by omega, rfl⟩ (vOw.rf (v := v85)) (vCZ_eq (c_call_14 hTq W87.2 (gi_w (p := 0) (i := i67) hG hk (by omega)) (by omega) hf) (t_undo1 (E := D.drop i67))) (fun v88 rv89 => ?_)
          have W90 : LW v88 ((t, n), (c, S), D.drop i67, sl) ((t, n), (c, S), D.drop i67, sl) := W87.q rv89
          refine G_top (y := nI ((D.drop i67).length)) rfl ?_
          refine G_cSp (rest := []) (As := [.int (nI ((D.drop i67).length))]) dL_stands_493 lL_217 yk_L_thrown ys_L_thrown (by decide) rfl rfl (Nat.le_of_ble_eq_true rfl) rfl (c_L_thrown (by have h14 : D.length ≤ 14 := hW.1.len; rw [List.length_drop]; omega)) ?_
          refine G_if_neN (tgt := 516) dL_stands_496 (by decide) (by decide) (fun q9 => absurd q9 (by decide)) (fun _ => ?_)
          refine G_aload_n dL_stands_499 rfl rfl ?_
          refine G_iconst (v := nI 2) dL_stands_500 (by decide) ?_
          refine G_iconst (v := nI 1) dL_stands_501 (by decide) ?_
          refine G_iconst (v := nI 0) dL_stands_502 (by decide) ?_
          refine G_iconst (v := nI 0) dL_stands_503 (by decide) ?_
          refine G_lc (E := 120) (u := 31) (u2 := 32) (rest := []) zN_go dL_stands_504 lL_162 ⟨Nat.le_of_ble_eq_true rfl, Nat.le_of_ble_eq_true rfl⟩ (Nat.le_of_ble_eq_true rfl) hf ⟨by omega, rfl⟩ (vOw.rf (v := v88)) (r_about (t := t) (n := n) (c := c) (S := S) (D := D.drop i67) (sl := sl) (by decide) hTo W90.1 (gi_dp hG i67) hB hf) (fun v91 rv92 => ?_)
          have W93 : LW v91 ((t, n), (c, S), D.drop i67, sl) ((t, n), (c, S), D.drop i67, sl) := W90.o rv92
          refine G_top (y := nI (gG S 1)) rfl ?_
          refine G_iload dL_stands_507 rfl ?_
          refine G_icmp_neN (tgt := 516) dL_stands_509 (by decide) (by have := hN.g (i := 1) (by decide); omega) (by have := hN.g (i := 1) (by decide); omega) (fun c509 => (c509 rfl).elim) (fun c509 => ?_)
          refine G_iconst (v := nI 1) dL_stands_512 (by decide) ?_
          refine G_goto (tgt := 517) dL_stands_513 (by decide) ?_
          refine G_zret dL_stands_517 rfl (by decide) ?_
          exact qe_end W93 rfl ⟨i67, rfl⟩
        refine G_iload dL_stands_185 rfl ?_
        refine G_if_leN (tgt := 246) dL_stands_187 (by decide) (by omega) (fun c187 => ?_) (fun c187 => ?_)
        · refine G_bud (b2 := (4 * (120 - 17), 24 * (120 - 17))) ⟨by show 4 * (120 - 17) ≤ 4 * (120 - 7); omega, by show 24 * (120 - 17) ≤ 24 * (120 - 7); omega⟩ ?_
          exact hJ246 v64 i0 W66
        · refine G_iload dL_stands_190 rfl ?_
          refine G_iconst (v := -1) dL_stands_192 (by decide) ?_
          refine G_icmp_eq (tgt := 246) dL_stands_193 (by decide) (fun c193 => (nI_neq (by omega) (by decide) c193).elim) (fun c193 => ?_)
          refine G_iload dL_stands_196 rfl ?_
          refine G_if_eqN (tgt := 243) dL_stands_198 (by decide) (by decide) (fun q9 => absurd q9 (by decide)) (fun _ => ?_)
          refine G_aload_n dL_stands_201 rfl rfl ?_
          refine G_aload_n dL_stands_202 rfl rfl ?_
          refine G_iload dL_stands_203 rfl ?_
          refine G_iconst (v := nI 1) dL_stands_205 (by decide) ?_
          refine G_isubN dL_stands_206 (by omega) ?_
          obtain ⟨i94, hc95⟩ := st_waits (p := k0 - 1) hTo hTq W66 hG hk (by omega) hB2 hf
          refine G_l2 (K := 4) (E := 120) (u := 7) (u2 := 11) (rest := []) (As := [.ref (0), .ref (1603), .int (nI (k0 - 1))]) zN_go dL_stands_207 lL_221 yk_L_waits ys_L_waits ⟨Nat.le_of_ble_eq_true rfl, Nat.le_of_ble_eq_true rfl⟩ rfl rfl (Nat.le_of_ble_eq_true rfl) rfl hf ⟨by omega, rfl⟩ (hc95) (fun v96 W97 => ?_)
          refine G_if_eqN (tgt := 243) dL_stands_210 (by decide) (by decide) (fun q9 => absurd q9 (by decide)) (fun _ => ?_)
          refine G_aload_n dL_stands_213 rfl rfl ?_
          refine G_iconst (v := nI 3) dL_stands_214 (by decide) ?_
          refine G_iload dL_stands_215 rfl ?_
          refine G_iconst (v := nI 2) dL_stands_217 (by decide) ?_
          refine G_iconst (v := nI 0) dL_stands_218 (by decide) ?_
          refine G_lc (E := 120) (u := 11) (u2 := 12) (rest := []) zN_go dL_stands_219 lL_162 ⟨Nat.le_of_ble_eq_true rfl, Nat.le_of_ble_eq_true rfl⟩ (Nat.le_of_ble_eq_true rfl) hf ⟨by omega, rfl⟩ (vOw.rf (v := v96)) (r_member (t := t) (n := n) (c := c) (S := mticks (k0 - 1) (mcall S m s)) (D := D.drop i94 ++ ([(c, S)] ++ pw c (mcall S m s) (k0 - 1))) (sl := sl) (by omega) (by decide) hTo W97.1 (gi_w hG hk (by omega)) (by omega) hf) (fun v98 rv99 => ?_)
          have W100 : LW v98 ((t, n), (c, mticks (k0 - 1) (mcall S m s)), D.drop i94 ++ ([(c, S)] ++ pw c (mcall S m s) (k0 - 1)), sl) ((t, n), (c, mticks (k0 - 1) (mcall S m s)), D.drop i94 ++ ([(c, S)] ++ pw c (mcall S m s) (k0 - 1)), sl) := W97.o rv99
          refine G_top (y := nI (gM (mticks (k0 - 1) (mcall S m s)) m 2)) rfl ?_
          refine G_iload dL_stands_222 rfl ?_
          refine G_icmp_eqN (tgt := 243) dL_stands_224 (by decide) (by have h9 : gM (mticks (k0 - 1) (mcall S m s)) m 2 ≤ B + 270000 := (hk (k0 - 1) (by omega)).1.m2 m; omega) (by have h9 : gM (mticks (k0 - 1) (mcall S m s)) m 2 ≤ B + 270000 := (hk (k0 - 1) (by omega)).1.m2 m; omega) (fun c224 => (hne (k0 - 1) (by omega) c224).elim) (fun c224 => ?_)
          refine G_aload_n dL_stands_227 rfl rfl ?_
          refine G_aload_n dL_stands_228 rfl rfl ?_
          refine G_iload dL_stands_229 rfl ?_
          refine G_iconst (v := nI 1) dL_stands_231 (by decide) ?_
          refine G_isubN dL_stands_232 (by omega) ?_
          refine G_l2 (K := 4) (E := 120) (u := 12) (u2 := 16) (rest := []) (As := [.ref (0), .ref (1603), .int (nI (k0 - 1))]) zN_go dL_stands_233 lL_224 yk_L_undoes ys_L_undoes ⟨Nat.le_of_ble_eq_true rfl, Nat.le_of_ble_eq_true rfl⟩ rfl rfl (Nat.le_of_ble_eq_true rfl) rfl hf ⟨by omega, rfl⟩ (st_undoes (p := k0 - 1) hTo hTq W100 hG hk (by omega) hB2 hf) (fun v101 W102 => ?_)
          refine G_if_eqN (tgt := 243) dL_stands_236 (by decide) (by decide) (fun q9 => absurd q9 (by decide)) (fun _ => ?_)
          refine G_iconst (v := nI 1) dL_stands_239 (by decide) ?_
          refine G_goto (tgt := 244) dL_stands_240 (by decide) ?_
          refine G_istore (ls2 := [some (.ref (0)), some (.ref (1603)), some (.int (nI (x))), some (.int (nI (c))), some (.int (nI (m))), some (.int (nI (s))), some (.int (nI (k0))), some (.int ((-1))), some (.int (nI (gG S 1))), some (.int (nI (gM S m 6 + 1))), some (.int (nI (1))), some (.int (nI (k0))), none]) dL_stands_244 (by decide) rfl ?_
          refine G_bud (b2 := (4 * (120 - 17), 24 * (120 - 17))) ⟨by show 4 * (120 - 17) ≤ 4 * (120 - 16); omega, by show 24 * (120 - 17) ≤ 24 * (120 - 16); omega⟩ ?_
          exact hJ246 v101 i94 W102
      refine G_iload dL_stands_149 rfl ?_
      refine G_cSp (rest := []) (As := [.int (nI (s))]) dL_stands_151 lL_185 yk_L_bits ys_L_bits (by decide) rfl rfl (Nat.le_of_ble_eq_true rfl) rfl (c_L_bits hs64) ?_
      refine G_iconst (v := nI 1) dL_stands_154 (by decide) ?_
      refine G_icmp_gtN (tgt := 163) dL_stands_155 (by decide) (by have := mbits_le (s := s) 24; omega) (by have := mbits_le (s := s) 24; omega) (fun c155 => ?_) (fun c155 => ?_)
      · exact hJ163 0
      · refine G_iload dL_stands_158 rfl ?_
        refine G_if_neN (tgt := 167) dL_stands_160 (by decide) (by omega) (fun c160 => (c160 (by have := hone (one_bits s hs64 m (by omega) hb (by omega)); rw [en] at this; injection this)).elim) (fun c160 => ?_)
        exact hJ163 0
    · obtain ⟨hk0, hst, hs4, hs1, hne⟩ := htn k0 en
      refine G_bipush (v := nI 15) dL_stands_35 (by decide) ?_
      refine G_iload dL_stands_37 rfl ?_
      refine G_iload dL_stands_39 rfl ?_
      refine G_iconst (v := nI 0) dL_stands_41 (by decide) ?_
      refine G_lc (E := 120) (u := 1) (u2 := 2) (rest := []) zN_go dL_stands_42 lL_162 ⟨Nat.le_of_ble_eq_true rfl, Nat.le_of_ble_eq_true rfl⟩ (Nat.le_of_ble_eq_true rfl) hf ⟨by omega, rfl⟩ (vOw.rf (v := v1)) (vCZ_eq (c_call_15 hTo W3.1 hG hB hf) ((t_stands hc6 hm hs hb (by decide) h2).trans (by rw [en]))) (fun v103 rv104 => ?_)
      have W105 : LW v103 ((t, n), (c, S), D, sl) ((t, n), (c, S), D, sl) := W3.o rv104
      refine G_top (y := nI (k0)) rfl ?_
      refine G_istore (ls2 := [some (.ref (0)), some (.ref (1603)), some (.int (nI (x))), some (.int (nI (c))), some (.int (nI (m))), some (.int (nI (s))), some (.int (nI (k0))), none, none, none, none, none, none]) dL_stands_45 (by decide) rfl ?_
      refine G_aload_n dL_stands_47 rfl rfl ?_
      refine G_bipush (v := nI 15) dL_stands_48 (by decide) ?_
      refine G_iload dL_stands_50 rfl ?_
      refine G_iload dL_stands_52 rfl ?_
      refine G_iconst (v := nI 1) dL_stands_54 (by decide) ?_
      refine G_lc (E := 120) (u := 2) (u2 := 3) (rest := []) zN_go dL_stands_55 lL_162 ⟨Nat.le_of_ble_eq_true rfl, Nat.le_of_ble_eq_true rfl⟩ (Nat.le_of_ble_eq_true rfl) hf ⟨by omega, rfl⟩ (vOw.rf (v := v103)) (vCZ_eq (c_call_15 hTo W105.1 hG hB hf) ((t_stands hc6 hm hs hb (by decide) h2).trans (by rw [ea]))) (fun v106 rv107 => ?_)
      have W108 : LW v106 ((t, n), (c, S), D, sl) ((t, n), (c, S), D, sl) := W105.o rv107
      refine G_top (y := nI (a0)) rfl ?_
      refine G_istore (ls2 := [some (.ref (0)), some (.ref (1603)), some (.int (nI (x))), some (.int (nI (c))), some (.int (nI (m))), some (.int (nI (s))), some (.int (nI (k0))), some (.int (nI (a0))), none, none, none, none, none]) dL_stands_58 (by decide) rfl ?_
      refine G_aload_n dL_stands_60 rfl rfl ?_
      refine G_iconst (v := nI 2) dL_stands_61 (by decide) ?_
      refine G_iconst (v := nI 1) dL_stands_62 (by decide) ?_
      refine G_iconst (v := nI 0) dL_stands_63 (by decide) ?_
      refine G_iconst (v := nI 0) dL_stands_64 (by decide) ?_
      refine G_lc (E := 120) (u := 3) (u2 := 4) (rest := []) zN_go dL_stands_65 lL_162 ⟨Nat.le_of_ble_eq_true rfl, Nat.le_of_ble_eq_true rfl⟩ (Nat.le_of_ble_eq_true rfl) hf ⟨by omega, rfl⟩ (vOw.rf (v := v106)) (r_about (by decide) hTo W108.1 hG hB hf) (fun v109 rv110 => ?_)
      have W111 : LW v109 ((t, n), (c, S), D, sl) ((t, n), (c, S), D, sl) := W108.o rv110
      refine G_top (y := nI (gG S 1)) rfl ?_
      refine G_istore (ls2 := [some (.ref (0)), some (.ref (1603)), some (.int (nI (x))), some (.int (nI (c))), some (.int (nI (m))), some (.int (nI (s))), some (.int (nI (k0))), some (.int (nI (a0))), some (.int (nI (gG S 1))), none, none, none, none]) dL_stands_68 (by decide) rfl ?_
      refine G_aload_n dL_stands_70 rfl rfl ?_
      refine G_iconst (v := nI 3) dL_stands_71 (by decide) ?_
      refine G_iload dL_stands_72 rfl ?_
      refine G_iconst (v := nI 1) dL_stands_74 (by decide) ?_
      refine G_iconst (v := nI 0) dL_stands_75 (by decide) ?_
      refine G_lc (E := 120) (u := 4) (u2 := 5) (rest := []) zN_go dL_stands_76 lL_162 ⟨Nat.le_of_ble_eq_true rfl, Nat.le_of_ble_eq_true rfl⟩ (Nat.le_of_ble_eq_true rfl) hf ⟨by omega, rfl⟩ (vOw.rf (v := v109)) (r_member (by omega) (by decide) hTo W111.1 hG hB hf) (fun v112 rv113 => ?_)
      have W114 : LW v112 ((t, n), (c, S), D, sl) ((t, n), (c, S), D, sl) := W111.o rv113
      refine G_top (y := nI (gM S m 1)) rfl ?_
      refine G_iconst (v := nI 2) dL_stands_79 (by decide) ?_
      refine G_icmp_neN (tgt := 101) dL_stands_80 (by decide) (by have := hN.m1 m; omega) (by omega) (fun c80 => ?_) (fun c80 => (h2 c80).elim)
      refine G_aload_n dL_stands_101 rfl rfl ?_
      refine G_bipush (v := nI 9) dL_stands_102 (by decide) ?_
      refine G_iload dL_stands_104 rfl ?_
      refine G_iload dL_stands_106 rfl ?_
      refine G_iconst (v := nI 0) dL_stands_108 (by decide) ?_
      refine G_lc (E := 120) (u := 5) (u2 := 6) (rest := []) zN_go dL_stands_109 lL_162 ⟨Nat.le_of_ble_eq_true rfl, Nat.le_of_ble_eq_true rfl⟩ (Nat.le_of_ble_eq_true rfl) hf ⟨by omega, rfl⟩ (vOw.rf (v := v112)) (vCZ_eq (c_call_9 hTo W114.1 hG hB hf) (t_call hc6 hm hs hb h2)) (fun v115 rv116 => ?_)
      have W117 : LW v115 ((t, n), (c, mcall S m s), dr1 D ++ [(c, S)], sl) ((t, n), (c, S), D, sl) := W114.o rv116
      refine G_top (y := nI (gM S m 6 + 1)) rfl ?_
      refine G_istore (ls2 := [some (.ref (0)), some (.ref (1603)), some (.int (nI (x))), some (.int (nI (c))), some (.int (nI (m))), some (.int (nI (s))), some (.int (nI (k0))), some (.int (nI (a0))), some (.int (nI (gG S 1))), some (.int (nI (gM S m 6 + 1))), none, none, none]) dL_stands_112 (by decide) rfl ?_
      refine G_iload dL_stands_114 rfl ?_
      refine G_aload_n dL_stands_116 rfl rfl ?_
      refine G_bipush (v := nI 9) dL_stands_117 (by decide) ?_
      refine G_iload dL_stands_119 rfl ?_
      refine G_iload dL_stands_121 rfl ?_
      refine G_iconst (v := nI 0) dL_stands_123 (by decide) ?_
      refine G_lc (E := 120) (u := 6) (u2 := 7) (rest := [.int (nI (gM S m 6 + 1))]) zN_go dL_stands_124 lL_162 ⟨Nat.le_of_ble_eq_true rfl, Nat.le_of_ble_eq_true rfl⟩ (Nat.le_of_ble_eq_true rfl) hf ⟨by omega, rfl⟩ (vOw.rf (v := v115)) (vCZ_eq (c_call_9 hTq W117.2 hG hB hf) (t_call hc6 hm hs hb h2)) (fun v118 rv119 => ?_)
      have W120 : LW v118 ((t, n), (c, mcall S m s), dr1 D ++ [(c, S)], sl) ((t, n), (c, mcall S m s), dr1 D ++ [(c, S)], sl) := W117.q rv119
      obtain ⟨i0, ei0⟩ := tc_ex (t := t) (n := n) (X := (c, mcall S m s)) (Y := (c, S)) (D := D) (sl := sl)
      rw [ei0] at W120
      refine G_top (y := nI (gM S m 6 + 1)) rfl ?_
      refine G_icmp_neN (tgt := 167) dL_stands_127 (by decide) (by omega) (by omega) (fun c127 => (c127 rfl).elim) (fun c127 => ?_)
      refine G_iload dL_stands_130 rfl ?_
      refine G_iconst (v := -1) dL_stands_132 (by decide) ?_
      refine G_icmp_eq (tgt := 149) dL_stands_133 (by decide) (fun c133 => (nI_neq (by omega) (by decide) c133).elim) (fun c133 => ?_)
      refine G_iload dL_stands_136 rfl ?_
      refine G_iconst (v := -1) dL_stands_138 (by decide) ?_
      refine G_icmp_eq (tgt := 167) dL_stands_139 (by decide) (fun c139 => (nI_neq (by omega) (by decide) c139).elim) (fun c139 => ?_)
      refine G_iload dL_stands_142 rfl ?_
      refine G_iload dL_stands_144 rfl ?_
      refine G_icmp_gtN (tgt := 167) dL_stands_146 (by decide) (by omega) (by omega) (fun c146 => ((by omega : False)).elim) (fun c146 => ?_)
      have hJ163 : ∀ (j9 : Nat), vG (kZs zN) M_L_stands 163 [some (.ref (0)), some (.ref (1603)), some (.int (nI (x))), some (.int (nI (c))), some (.int (nI (m))), some (.int (nI (s))), some (.int (nI (k0))), some (.int (nI (a0))), some (.int (nI (gG S 1))), some (.int (nI (gM S m 6 + 1))), none, none, none] [] (4 * (120 - 7), 24 * (120 - 7)) (σ, v118) (vN (qE σ (nI 1) (fun U => ∃ i, U = ((t, n), (c, S), D.drop i, sl)))) := by
        intro j9 
        refine G_iconst (v := nI 1) dL_stands_163 (by decide) ?_
        refine G_goto (tgt := 168) dL_stands_164 (by decide) ?_
        refine G_istore (ls2 := [some (.ref (0)), some (.ref (1603)), some (.int (nI (x))), some (.int (nI (c))), some (.int (nI (m))), some (.int (nI (s))), some (.int (nI (k0))), some (.int (nI (a0))), some (.int (nI (gG S 1))), some (.int (nI (gM S m 6 + 1))), some (.int (nI (1))), none, none]) dL_stands_168 (by decide) rfl ?_
        refine G_iload dL_stands_170 rfl ?_
        refine G_iconst (v := -1) dL_stands_172 (by decide) ?_
        refine G_icmp_ne (tgt := 181) dL_stands_173 (by decide) (fun c173 => ?_) (fun c173 => (nI_neq (by omega) (by decide) c173).elim)
        refine G_iload dL_stands_181 rfl ?_
        refine G_istore (ls2 := [some (.ref (0)), some (.ref (1603)), some (.int (nI (x))), some (.int (nI (c))), some (.int (nI (m))), some (.int (nI (s))), some (.int (nI (k0))), some (.int (nI (a0))), some (.int (nI (gG S 1))), some (.int (nI (gM S m 6 + 1))), some (.int (nI (1))), some (.int (nI (k0))), none]) dL_stands_183 (by decide) rfl ?_
        have hJ246 : ∀ (v9 : vV) (i9 : Nat), LW v9 ((t, n), (c, mcall S m s), D.drop i9 ++ [(c, S)], sl) ((t, n), (c, mcall S m s), D.drop i9 ++ [(c, S)], sl) → vG (kZs zN) M_L_stands 246 [some (.ref (0)), some (.ref (1603)), some (.int (nI (x))), some (.int (nI (c))), some (.int (nI (m))), some (.int (nI (s))), some (.int (nI (k0))), some (.int (nI (a0))), some (.int (nI (gG S 1))), some (.int (nI (gM S m 6 + 1))), some (.int (nI (1))), some (.int (nI (k0))), none] [] (4 * (120 - 17), 24 * (120 - 17)) (σ, v9) (vN (qE σ (nI 1) (fun U => ∃ i, U = ((t, n), (c, S), D.drop i, sl)))) := by
          intro v9 i9 W9
          refine G_iload dL_stands_246 rfl ?_
          refine G_if_eqN (tgt := 335) dL_stands_248 (by decide) (by decide) (fun q9 => absurd q9 (by decide)) (fun _ => ?_)
          refine G_aload_n dL_stands_251 rfl rfl ?_
          refine G_aload_n dL_stands_252 rfl rfl ?_
          refine G_iload dL_stands_253 rfl ?_
          obtain ⟨i121, hc122⟩ := st_waits (p := k0) hTo hTq W9 hG hk (by omega) hB2 hf
          refine G_l2 (K := 4) (E := 120) (u := 17) (u2 := 21) (rest := []) (As := [.ref (0), .ref (1603), .int (nI (k0))]) zN_go dL_stands_255 lL_221 yk_L_waits ys_L_waits ⟨Nat.le_of_ble_eq_true rfl, Nat.le_of_ble_eq_true rfl⟩ rfl rfl (Nat.le_of_ble_eq_true rfl) rfl hf ⟨by omega, rfl⟩ (hc122) (fun v123 W124 => ?_)
          refine G_if_eqN (tgt := 335) dL_stands_258 (by decide) (by decide) (fun q9 => absurd q9 (by decide)) (fun _ => ?_)
          refine G_iload dL_stands_261 rfl ?_
          refine G_iconst (v := -1) dL_stands_263 (by decide) ?_
          refine G_icmp_eq (tgt := 321) dL_stands_264 (by decide) (fun c264 => (nI_neq (by omega) (by decide) c264).elim) (fun c264 => ?_)
          refine G_aload_n dL_stands_267 rfl rfl ?_
          refine G_iconst (v := nI 3) dL_stands_268 (by decide) ?_
          refine G_iload dL_stands_269 rfl ?_
          refine G_iconst (v := nI 2) dL_stands_271 (by decide) ?_
          refine G_iconst (v := nI 0) dL_stands_272 (by decide) ?_
          refine G_lc (E := 120) (u := 21) (u2 := 22) (rest := []) zN_go dL_stands_273 lL_162 ⟨Nat.le_of_ble_eq_true rfl, Nat.le_of_ble_eq_true rfl⟩ (Nat.le_of_ble_eq_true rfl) hf ⟨by omega, rfl⟩ (vOw.rf (v := v123)) (r_member (t := t) (n := n) (c := c) (S := mticks k0 (mcall S m s)) (D := D.drop i121 ++ ([(c, S)] ++ pw c (mcall S m s) k0)) (sl := sl) (by omega) (by decide) hTo W124.1 (gi_w hG hk (by omega)) (by omega) hf) (fun v125 rv126 => ?_)
          have W127 : LW v125 ((t, n), (c, mticks k0 (mcall S m s)), D.drop i121 ++ ([(c, S)] ++ pw c (mcall S m s) k0), sl) ((t, n), (c, mticks k0 (mcall S m s)), D.drop i121 ++ ([(c, S)] ++ pw c (mcall S m s) k0), sl) := W124.o rv126
          refine G_top (y := nI (gM (mticks k0 (mcall S m s)) m 2)) rfl ?_
          refine G_iload dL_stands_276 rfl ?_
          refine G_icmp_neN (tgt := 335) dL_stands_278 (by decide) (by have h9 : gM (mticks k0 (mcall S m s)) m 2 ≤ B + 270000 := (hk k0 (by omega)).1.m2 m; omega) (by have h9 : gM (mticks k0 (mcall S m s)) m 2 ≤ B + 270000 := (hk k0 (by omega)).1.m2 m; omega) (fun c278 => (c278 hst.1).elim) (fun c278 => ?_)
          refine G_aload_n dL_stands_281 rfl rfl ?_
          refine G_iconst (v := nI 3) dL_stands_282 (by decide) ?_
          refine G_iload dL_stands_283 rfl ?_
          refine G_iconst (v := nI 3) dL_stands_285 (by decide) ?_
          refine G_iconst (v := nI 0) dL_stands_286 (by decide) ?_
          refine G_lc (E := 120) (u := 22) (u2 := 23) (rest := []) zN_go dL_stands_287 lL_162 ⟨Nat.le_of_ble_eq_true rfl, Nat.le_of_ble_eq_true rfl⟩ (Nat.le_of_ble_eq_true rfl) hf ⟨by omega, rfl⟩ (vOw.rf (v := v125)) (r_member (t := t) (n := n) (c := c) (S := mticks k0 (mcall S m s)) (D := D.drop i121 ++ ([(c, S)] ++ pw c (mcall S m s) k0)) (sl := sl) (by omega) (by decide) hTo W127.1 (gi_w hG hk (by omega)) (by omega) hf) (fun v128 rv129 => ?_)
          have W130 : LW v128 ((t, n), (c, mticks k0 (mcall S m s)), D.drop i121 ++ ([(c, S)] ++ pw c (mcall S m s) k0), sl) ((t, n), (c, mticks k0 (mcall S m s)), D.drop i121 ++ ([(c, S)] ++ pw c (mcall S m s) k0), sl) := W127.o rv129
          refine G_top (y := nI (gM (mticks k0 (mcall S m s)) m 3)) rfl ?_
          refine G_iload dL_stands_290 rfl ?_
          refine G_icmp_neN (tgt := 335) dL_stands_292 (by decide) (by have h9 : gM (mticks k0 (mcall S m s)) m 3 < 6 := (hk k0 (by omega)).1.m3 m; omega) (by have h9 : gM (mticks k0 (mcall S m s)) m 3 < 6 := (hk k0 (by omega)).1.m3 m; omega) (fun c292 => (c292 hst.2).elim) (fun c292 => ?_)
          refine G_aload_n dL_stands_295 rfl rfl ?_
          refine G_iconst (v := nI 3) dL_stands_296 (by decide) ?_
          refine G_iload dL_stands_297 rfl ?_
          refine G_iconst (v := nI 4) dL_stands_299 (by decide) ?_
          refine G_iconst (v := nI 0) dL_stands_300 (by decide) ?_
          refine G_lc (E := 120) (u := 23) (u2 := 24) (rest := []) zN_go dL_stands_301 lL_162 ⟨Nat.le_of_ble_eq_true rfl, Nat.le_of_ble_eq_true rfl⟩ (Nat.le_of_ble_eq_true rfl) hf ⟨by omega, rfl⟩ (vOw.rf (v := v128)) (r_member (t := t) (n := n) (c := c) (S := mticks k0 (mcall S m s)) (D := D.drop i121 ++ ([(c, S)] ++ pw c (mcall S m s) k0)) (sl := sl) (by omega) (by decide) hTo W130.1 (gi_w hG hk (by omega)) (by omega) hf) (fun v131 rv132 => ?_)
          have W133 : LW v131 ((t, n), (c, mticks k0 (mcall S m s)), D.drop i121 ++ ([(c, S)] ++ pw c (mcall S m s) k0), sl) ((t, n), (c, mticks k0 (mcall S m s)), D.drop i121 ++ ([(c, S)] ++ pw c (mcall S m s) k0), sl) := W130.o rv132
          refine G_top (y := nI (gM (mticks k0 (mcall S m s)) m 4)) rfl ?_
          refine G_iload dL_stands_304 rfl ?_
          refine G_icmp_neN (tgt := 335) dL_stands_306 (by decide) (by have h9 : gM (mticks k0 (mcall S m s)) m 4 < 64 := (hk k0 (by omega)).1.m4 m; omega) (by have h9 : gM (mticks k0 (mcall S m s)) m 4 < 64 := (hk k0 (by omega)).1.m4 m; omega) (fun c306 => (c306 hs4).elim) (fun c306 => ?_)
          refine G_aload_n dL_stands_309 rfl rfl ?_
          refine G_iconst (v := nI 3) dL_stands_310 (by decide) ?_
          refine G_iload dL_stands_311 rfl ?_
          refine G_iconst (v := nI 1) dL_stands_313 (by decide) ?_
          refine G_iconst (v := nI 0) dL_stands_314 (by decide) ?_
          refine G_lc (E := 120) (u := 24) (u2 := 25) (rest := []) zN_go dL_stands_315 lL_162 ⟨Nat.le_of_ble_eq_true rfl, Nat.le_of_ble_eq_true rfl⟩ (Nat.le_of_ble_eq_true rfl) hf ⟨by omega, rfl⟩ (vOw.rf (v := v131)) (r_member (t := t) (n := n) (c := c) (S := mticks k0 (mcall S m s)) (D := D.drop i121 ++ ([(c, S)] ++ pw c (mcall S m s) k0)) (sl := sl) (by omega) (by decide) hTo W133.1 (gi_w hG hk (by omega)) (by omega) hf) (fun v134 rv135 => ?_)
          have W136 : LW v134 ((t, n), (c, mticks k0 (mcall S m s)), D.drop i121 ++ ([(c, S)] ++ pw c (mcall S m s) k0), sl) ((t, n), (c, mticks k0 (mcall S m s)), D.drop i121 ++ ([(c, S)] ++ pw c (mcall S m s) k0), sl) := W133.o rv135
          refine G_top (y := nI (gM (mticks k0 (mcall S m s)) m 1)) rfl ?_
          refine G_if_neN (tgt := 335) dL_stands_318 (by decide) (by have h9 : gM (mticks k0 (mcall S m s)) m 1 ≤ 2 := (hk k0 (by omega)).1.m1 m; omega) (fun c318 => (c318 hs1).elim) (fun c318 => ?_)
          refine G_aload_n dL_stands_321 rfl rfl ?_
          refine G_aload_n dL_stands_322 rfl rfl ?_
          refine G_iload dL_stands_323 rfl ?_
          refine G_l2 (K := 4) (E := 120) (u := 25) (u2 := 29) (rest := []) (As := [.ref (0), .ref (1603), .int (nI (k0))]) zN_go dL_stands_325 lL_224 yk_L_undoes ys_L_undoes ⟨Nat.le_of_ble_eq_true rfl, Nat.le_of_ble_eq_true rfl⟩ rfl rfl (Nat.le_of_ble_eq_true rfl) rfl hf ⟨by omega, rfl⟩ (st_undoes (p := k0) hTo hTq W136 hG hk (by omega) hB2 hf) (fun v137 W138 => ?_)
          refine G_if_eqN (tgt := 335) dL_stands_328 (by decide) (by decide) (fun q9 => absurd q9 (by decide)) (fun _ => ?_)
          refine G_iconst (v := nI 1) dL_stands_331 (by decide) ?_
          refine G_goto (tgt := 336) dL_stands_332 (by decide) ?_
          refine G_istore (ls2 := [some (.ref (0)), some (.ref (1603)), some (.int (nI (x))), some (.int (nI (c))), some (.int (nI (m))), some (.int (nI (s))), some (.int (nI (k0))), some (.int (nI (a0))), some (.int (nI (gG S 1))), some (.int (nI (gM S m 6 + 1))), some (.int (nI (1))), some (.int (nI (k0))), none]) dL_stands_336 (by decide) rfl ?_
          refine G_iload dL_stands_338 rfl ?_
          refine G_if_leN (tgt := 464) dL_stands_340 (by decide) (by omega) (fun c340 => ?_) (fun c340 => ?_)
          · refine G_iload dL_stands_464 rfl ?_
            refine G_if_eqN (tgt := 516) dL_stands_466 (by decide) (by decide) (fun q9 => absurd q9 (by decide)) (fun _ => ?_)
            refine G_aload_n dL_stands_469 rfl rfl ?_
            refine G_bipush (v := nI 14) dL_stands_470 (by decide) ?_
            refine G_iconst (v := nI 0) dL_stands_472 (by decide) ?_
            refine G_iconst (v := nI 0) dL_stands_473 (by decide) ?_
            refine G_iconst (v := nI 0) dL_stands_474 (by decide) ?_
            refine G_lc (E := 120) (u := 29) (u2 := 30) (rest := []) zN_go dL_stands_475 lL_162 ⟨Nat.le_of_ble_eq_true rfl, Nat.le_of_ble_eq_true rfl⟩ (Nat.le_of_ble_eq_true rfl) hf ⟨by omega, rfl⟩ (vOw.rf (v := v137)) (vCZ_eq (c_call_14 hTo W138.1 (gi_w (p := 0) (i := i121) hG hk (by omega)) (by omega) hf) (t_undo1 (E := D.drop i121))) (fun v139 rv140 => ?_)
            have W141 : LW v139 ((t, n), (c, S), D.drop i121, sl) ((t, n), (c, mcall S m s), D.drop i121 ++ [(c, S)], sl) := W138.o rv140
            refine G_top (y := nI ((D.drop i121).length)) rfl ?_
            refine G_cSp (rest := []) (As := [.int (nI ((D.drop i121).length))]) dL_stands_478 lL_217 yk_L_thrown ys_L_thrown (by decide) rfl rfl (Nat.le_of_ble_eq_true rfl) rfl (c_L_thrown (by have h14 : D.length ≤ 14 := hW.1.len; rw [List.length_drop]; omega)) ?_
            refine G_if_neN (tgt := 516) dL_stands_481 (by decide) (by decide) (fun q9 => absurd q9 (by decide)) (fun _ => ?_)
            refine G_aload_n dL_stands_484 rfl rfl ?_
            refine G_bipush (v := nI 14) dL_stands_485 (by decide) ?_
            refine G_iconst (v := nI 0) dL_stands_487 (by decide) ?_
            refine G_iconst (v := nI 0) dL_stands_488 (by decide) ?_
            refine G_iconst (v := nI 0) dL_stands_489 (by decide) ?_
            refine G_lc (E := 120) (u := 30) (u2 := 31) (rest := []) zN_go dL_stands_490 lL_162 ⟨Nat.le_of_ble_eq_true rfl, Nat.le_of_ble_eq_true rfl⟩ (Nat.le_of_ble_eq_true rfl) hf ⟨by omega, rfl⟩ (vOw.rf (v := v139)) (vCZ_eq (c_call_14 hTq W141.2 (gi_w (p := 0) (i := i121) hG hk (by omega)) (by omega) hf) (t_undo1 (E := D.drop i121))) (fun v142 rv143 => ?_)
            have W144 : LW v142 ((t, n), (c, S), D.drop i121, sl) ((t, n), (c, S), D.drop i121, sl) := W141.q rv143
            refine G_top (y := nI ((D.drop i121).length)) rfl ?_
            refine G_cSp (rest := []) (As := [.int (nI ((D.drop i121).length))]) dL_stands_493 lL_217 yk_L_thrown ys_L_thrown (by decide) rfl rfl (Nat.le_of_ble_eq_true rfl) rfl (c_L_thrown (by have h14 : D.length ≤ 14 := hW.1.len; rw [List.length_drop]; omega)) ?_
            refine G_if_neN (tgt := 516) dL_stands_496 (by decide) (by decide) (fun q9 => absurd q9 (by decide)) (fun _ => ?_)
            refine G_aload_n dL_stands_499 rfl rfl ?_
            refine G_iconst (v := nI 2) dL_stands_500 (by decide) ?_
            refine G_iconst (v := nI 1) dL_stands_501 (by decide) ?_
            refine G_iconst (v := nI 0) dL_stands_502 (by decide) ?_
            refine G_iconst (v := nI 0) dL_stands_503 (by decide) ?_
            refine G_lc (E := 120) (u := 31) (u2 := 32) (rest := []) zN_go dL_stands_504 lL_162 ⟨Nat.le_of_ble_eq_true rfl, Nat.le_of_ble_eq_true rfl⟩ (Nat.le_of_ble_eq_true rfl) hf ⟨by omega, rfl⟩ (vOw.rf (v := v142)) (r_about (t := t) (n := n) (c := c) (S := S) (D := D.drop i121) (sl := sl) (by decide) hTo W144.1 (gi_dp hG i121) hB hf) (fun v145 rv146 => ?_)
            have W147 : LW v145 ((t, n), (c, S), D.drop i121, sl) ((t, n), (c, S), D.drop i121, sl) := W144.o rv146
            refine G_top (y := nI (gG S 1)) rfl ?_
            refine G_iload dL_stands_507 rfl ?_
            refine G_icmp_neN (tgt := 516) dL_stands_509 (by decide) (by have := hN.g (i := 1) (by decide); omega) (by have := hN.g (i := 1) (by decide); omega) (fun c509 => (c509 rfl).elim) (fun c509 => ?_)
            refine G_iconst (v := nI 1) dL_stands_512 (by decide) ?_
            refine G_goto (tgt := 517) dL_stands_513 (by decide) ?_
            refine G_zret dL_stands_517 rfl (by decide) ?_
            exact qe_end W147 rfl ⟨i121, rfl⟩
          · refine G_iload dL_stands_343 rfl ?_
            refine G_if_eqN (tgt := 362) dL_stands_345 (by decide) (by decide) (fun q9 => absurd q9 (by decide)) (fun _ => ?_)
            refine G_aload_n dL_stands_348 rfl rfl ?_
            refine G_aload_n dL_stands_349 rfl rfl ?_
            refine G_iload dL_stands_350 rfl ?_
            obtain ⟨i148, hc149⟩ := st_waits (p := a0) hTo hTq W138 hG hk (by omega) hB2 hf
            refine G_l2 (K := 4) (E := 120) (u := 29) (u2 := 33) (rest := []) (As := [.ref (0), .ref (1603), .int (nI (a0))]) zN_go dL_stands_352 lL_221 yk_L_waits ys_L_waits ⟨Nat.le_of_ble_eq_true rfl, Nat.le_of_ble_eq_true rfl⟩ rfl rfl (Nat.le_of_ble_eq_true rfl) rfl hf ⟨by omega, rfl⟩ (hc149) (fun v150 W151 => ?_)
            refine G_if_eqN (tgt := 362) dL_stands_355 (by decide) (by decide) (fun q9 => absurd q9 (by decide)) (fun _ => ?_)
            refine G_iconst (v := nI 1) dL_stands_358 (by decide) ?_
            refine G_goto (tgt := 363) dL_stands_359 (by decide) ?_
            refine G_istore (ls2 := [some (.ref (0)), some (.ref (1603)), some (.int (nI (x))), some (.int (nI (c))), some (.int (nI (m))), some (.int (nI (s))), some (.int (nI (k0))), some (.int (nI (a0))), some (.int (nI (gG S 1))), some (.int (nI (gM S m 6 + 1))), some (.int (nI (1))), some (.int (nI (k0))), none]) dL_stands_363 (by decide) rfl ?_
            refine G_iconst (v := nI 0) dL_stands_365 (by decide) ?_
            refine G_istore (ls2 := [some (.ref (0)), some (.ref (1603)), some (.int (nI (x))), some (.int (nI (c))), some (.int (nI (m))), some (.int (nI (s))), some (.int (nI (k0))), some (.int (nI (a0))), some (.int (nI (gG S 1))), some (.int (nI (gM S m 6 + 1))), some (.int (nI (1))), some (.int (nI (k0))), some (.int (nI (0)))]) dL_stands_366 (by decide) rfl ?_
            have hL368 : ∀ (n368 : Nat) (k : Nat) (w368 : vV), (LW w368 ((t, n), (c, mticks a0 (mcall S m s)), D.drop i148 ++ ([(c, S)] ++ pw c (mcall S m s) a0), sl) ((t, n), (c, mticks a0 (mcall S m s)), D.drop i148 ++ ([(c, S)] ++ pw c (mcall S m s) a0), sl)) → (k ≤ c) → (k + n368 = c + 1) → vG (kZs zN) M_L_stands 368 [some (.ref (0)), some (.ref (1603)), some (.int (nI (x))), some (.int (nI (c))), some (.int (nI (m))), some (.int (nI (s))), some (.int (nI (k0))), some (.int (nI (a0))), some (.int (nI (gG S 1))), some (.int (nI (gM S m 6 + 1))), some (.int (nI (1))), some (.int (nI (k0))), some (.int (nI (k)))] [] (4 * (4 * n368 + 10 - 0), 24 * (4 * n368 + 10 - 0)) (σ, w368) (vN (qE σ (nI 1) (fun U => ∃ i, U = ((t, n), (c, S), D.drop i, sl)))) := by
              intro n368
              induction n368 with
              | zero =>
                intro k w368 W368 h1 h2
                exact absurd h2 (by omega)
              | succ n368 ih368 =>
                intro k w368 W368 h1 h2
                refine G_iload dL_stands_368 rfl ?_
                refine G_iload_n dL_stands_370 rfl rfl ?_
                refine G_icmp_geN (tgt := 442) dL_stands_371 (by decide) (by omega) (by omega) (fun c371 => ?_) (fun c371 => ?_)
                · refine G_iload dL_stands_442 rfl ?_
                  refine G_if_eqN (tgt := 461) dL_stands_444 (by decide) (by decide) (fun q9 => absurd q9 (by decide)) (fun _ => ?_)
                  refine G_aload_n dL_stands_447 rfl rfl ?_
                  refine G_aload_n dL_stands_448 rfl rfl ?_
                  refine G_iload dL_stands_449 rfl ?_
                  refine G_l2 (K := 4) (E := 4 * (n368 + 1) + 10) (u := 0) (u2 := 4) (rest := []) (As := [.ref (0), .ref (1603), .int (nI (a0))]) zN_go dL_stands_451 lL_224 yk_L_undoes ys_L_undoes ⟨Nat.le_of_ble_eq_true rfl, Nat.le_of_ble_eq_true rfl⟩ rfl rfl (Nat.le_of_ble_eq_true rfl) rfl hf ⟨by omega, rfl⟩ (st_undoes (p := a0) hTo hTq W368 hG hk (by omega) hB2 hf) (fun v152 W153 => ?_)
                  refine G_if_eqN (tgt := 461) dL_stands_454 (by decide) (by decide) (fun q9 => absurd q9 (by decide)) (fun _ => ?_)
                  refine G_iconst (v := nI 1) dL_stands_457 (by decide) ?_
                  refine G_goto (tgt := 462) dL_stands_458 (by decide) ?_
                  refine G_istore (ls2 := [some (.ref (0)), some (.ref (1603)), some (.int (nI (x))), some (.int (nI (c))), some (.int (nI (m))), some (.int (nI (s))), some (.int (nI (k0))), some (.int (nI (a0))), some (.int (nI (gG S 1))), some (.int (nI (gM S m 6 + 1))), some (.int (nI (1))), some (.int (nI (k0))), some (.int (nI (k)))]) dL_stands_462 (by decide) rfl ?_
                  refine G_iload dL_stands_464 rfl ?_
                  refine G_if_eqN (tgt := 516) dL_stands_466 (by decide) (by decide) (fun q9 => absurd q9 (by decide)) (fun _ => ?_)
                  refine G_aload_n dL_stands_469 rfl rfl ?_
                  refine G_bipush (v := nI 14) dL_stands_470 (by decide) ?_
                  refine G_iconst (v := nI 0) dL_stands_472 (by decide) ?_
                  refine G_iconst (v := nI 0) dL_stands_473 (by decide) ?_
                  refine G_iconst (v := nI 0) dL_stands_474 (by decide) ?_
                  refine G_lc (E := 4 * (n368 + 1) + 10) (u := 4) (u2 := 5) (rest := []) zN_go dL_stands_475 lL_162 ⟨Nat.le_of_ble_eq_true rfl, Nat.le_of_ble_eq_true rfl⟩ (Nat.le_of_ble_eq_true rfl) hf ⟨by omega, rfl⟩ (vOw.rf (v := v152)) (vCZ_eq (c_call_14 hTo W153.1 (gi_w (p := 0) (i := i148) hG hk (by omega)) (by omega) hf) (t_undo1 (E := D.drop i148))) (fun v154 rv155 => ?_)
                  have W156 : LW v154 ((t, n), (c, S), D.drop i148, sl) ((t, n), (c, mcall S m s), D.drop i148 ++ [(c, S)], sl) := W153.o rv155
                  refine G_top (y := nI ((D.drop i148).length)) rfl ?_
                  refine G_cSp (rest := []) (As := [.int (nI ((D.drop i148).length))]) dL_stands_478 lL_217 yk_L_thrown ys_L_thrown (by decide) rfl rfl (Nat.le_of_ble_eq_true rfl) rfl (c_L_thrown (by have h14 : D.length ≤ 14 := hW.1.len; rw [List.length_drop]; omega)) ?_
                  refine G_if_neN (tgt := 516) dL_stands_481 (by decide) (by decide) (fun q9 => absurd q9 (by decide)) (fun _ => ?_)
                  refine G_aload_n dL_stands_484 rfl rfl ?_
                  refine G_bipush (v := nI 14) dL_stands_485 (by decide) ?_
                  refine G_iconst (v := nI 0) dL_stands_487 (by decide) ?_
                  refine G_iconst (v := nI 0) dL_stands_488 (by decide) ?_
                  refine G_iconst (v := nI 0) dL_stands_489 (by decide) ?_
                  refine G_lc (E := 4 * (n368 + 1) + 10) (u := 5) (u2 := 6) (rest := []) zN_go dL_stands_490 lL_162 ⟨Nat.le_of_ble_eq_true rfl, Nat.le_of_ble_eq_true rfl⟩ (Nat.le_of_ble_eq_true rfl) hf ⟨by omega, rfl⟩ (vOw.rf (v := v154)) (vCZ_eq (c_call_14 hTq W156.2 (gi_w (p := 0) (i := i148) hG hk (by omega)) (by omega) hf) (t_undo1 (E := D.drop i148))) (fun v157 rv158 => ?_)
                  have W159 : LW v157 ((t, n), (c, S), D.drop i148, sl) ((t, n), (c, S), D.drop i148, sl) := W156.q rv158
                  refine G_top (y := nI ((D.drop i148).length)) rfl ?_
                  refine G_cSp (rest := []) (As := [.int (nI ((D.drop i148).length))]) dL_stands_493 lL_217 yk_L_thrown ys_L_thrown (by decide) rfl rfl (Nat.le_of_ble_eq_true rfl) rfl (c_L_thrown (by have h14 : D.length ≤ 14 := hW.1.len; rw [List.length_drop]; omega)) ?_
                  refine G_if_neN (tgt := 516) dL_stands_496 (by decide) (by decide) (fun q9 => absurd q9 (by decide)) (fun _ => ?_)
                  refine G_aload_n dL_stands_499 rfl rfl ?_
                  refine G_iconst (v := nI 2) dL_stands_500 (by decide) ?_
                  refine G_iconst (v := nI 1) dL_stands_501 (by decide) ?_
                  refine G_iconst (v := nI 0) dL_stands_502 (by decide) ?_
                  refine G_iconst (v := nI 0) dL_stands_503 (by decide) ?_
                  refine G_lc (E := 4 * (n368 + 1) + 10) (u := 6) (u2 := 7) (rest := []) zN_go dL_stands_504 lL_162 ⟨Nat.le_of_ble_eq_true rfl, Nat.le_of_ble_eq_true rfl⟩ (Nat.le_of_ble_eq_true rfl) hf ⟨by omega, rfl⟩ (vOw.rf (v := v157)) (r_about (t := t) (n := n) (c := c) (S := S) (D := D.drop i148) (sl := sl) (by decide) hTo W159.1 (gi_dp hG i148) hB hf) (fun v160 rv161 => ?_)
                  have W162 : LW v160 ((t, n), (c, S), D.drop i148, sl) ((t, n), (c, S), D.drop i148, sl) := W159.o rv161
                  refine G_top (y := nI (gG S 1)) rfl ?_
                  refine G_iload dL_stands_507 rfl ?_
                  refine G_icmp_neN (tgt := 516) dL_stands_509 (by decide) (by have := hN.g (i := 1) (by decide); omega) (by have := hN.g (i := 1) (by decide); omega) (fun c509 => (c509 rfl).elim) (fun c509 => ?_)
                  refine G_iconst (v := nI 1) dL_stands_512 (by decide) ?_
                  refine G_goto (tgt := 517) dL_stands_513 (by decide) ?_
                  refine G_zret dL_stands_517 rfl (by decide) ?_
                  exact qe_end W162 rfl ⟨i148, rfl⟩
                · refine G_iload dL_stands_374 rfl ?_
                  refine G_if_eqN (tgt := 442) dL_stands_376 (by decide) (by decide) (fun q9 => absurd q9 (by decide)) (fun _ => ?_)
                  refine G_iload dL_stands_379 rfl ?_
                  refine G_iload dL_stands_381 rfl ?_
                  refine G_ishrN dL_stands_383 (by omega) (by omega) ?_
                  refine G_iconst (v := nI 1) dL_stands_384 (by decide) ?_
                  refine G_iandN dL_stands_385 ?_
                  refine G_if_eqN (tgt := 429) dL_stands_386 (by decide) (by exact Nat.lt_of_le_of_lt Nat.and_le_right (by decide)) (fun c386 => ?_) (fun c386 => ?_)
                  · refine G_iconst (v := nI 1) dL_stands_429 (by decide) ?_
                    refine G_goto (tgt := 434) dL_stands_430 (by decide) ?_
                    refine G_istore (ls2 := [some (.ref (0)), some (.ref (1603)), some (.int (nI (x))), some (.int (nI (c))), some (.int (nI (m))), some (.int (nI (s))), some (.int (nI (k0))), some (.int (nI (a0))), some (.int (nI (gG S 1))), some (.int (nI (gM S m 6 + 1))), some (.int (nI (1))), some (.int (nI (k0))), some (.int (nI (k)))]) dL_stands_434 (by decide) rfl ?_
                    refine G_iinc (v := nI (k + 1)) (ls2 := [some (.ref (0)), some (.ref (1603)), some (.int (nI (x))), some (.int (nI (c))), some (.int (nI (m))), some (.int (nI (s))), some (.int (nI (k0))), some (.int (nI (a0))), some (.int (nI (gG S 1))), some (.int (nI (gM S m 6 + 1))), some (.int (nI (1))), some (.int (nI (k0))), some (.int (nI (k + 1)))]) dL_stands_436 rfl (nI_inc _ 1) (by decide) rfl ?_
                    refine G_goto (tgt := 368) dL_stands_439 (by decide) ?_
                    refine G_bud (b2 := (4 * (4 * n368 + 10 - 0), 24 * (4 * n368 + 10 - 0))) ⟨by show 4 * (4 * n368 + 10 - 0) ≤ 4 * (4 * (n368 + 1) + 10 - 0); omega, by show 24 * (4 * n368 + 10 - 0) ≤ 24 * (4 * (n368 + 1) + 10 - 0); omega⟩ ?_
                    exact ih368 (k + 1) w368 W368 (by omega) (by omega)
                  · have hkb : s.testBit k = true := tb_has.mp (by have h9 : s >>> k &&& 1 ≤ 1 := Nat.and_le_right; omega)
                    obtain ⟨ht1, ht2, ht3⟩ := hth k (by omega) hkb
                    refine G_aload_n dL_stands_389 rfl rfl ?_
                    refine G_iconst (v := nI 3) dL_stands_390 (by decide) ?_
                    refine G_iload dL_stands_391 rfl ?_
                    refine G_iconst (v := nI 2) dL_stands_393 (by decide) ?_
                    refine G_iconst (v := nI 0) dL_stands_394 (by decide) ?_
                    refine G_lc (E := 4 * (n368 + 1) + 10) (u := 0) (u2 := 1) (rest := []) zN_go dL_stands_395 lL_162 ⟨Nat.le_of_ble_eq_true rfl, Nat.le_of_ble_eq_true rfl⟩ (Nat.le_of_ble_eq_true rfl) hf ⟨by omega, rfl⟩ (vOw.rf (v := w368)) (r_member (t := t) (n := n) (c := c) (S := mticks a0 (mcall S m s)) (D := D.drop i148 ++ ([(c, S)] ++ pw c (mcall S m s) a0)) (sl := sl) (by omega) (by decide) hTo W368.1 (gi_w hG hk (by omega)) (by omega) hf) (fun v163 rv164 => ?_)
                    have W165 : LW v163 ((t, n), (c, mticks a0 (mcall S m s)), D.drop i148 ++ ([(c, S)] ++ pw c (mcall S m s) a0), sl) ((t, n), (c, mticks a0 (mcall S m s)), D.drop i148 ++ ([(c, S)] ++ pw c (mcall S m s) a0), sl) := W368.o rv164
                    refine G_top (y := nI (gM (mticks a0 (mcall S m s)) k 2)) rfl ?_
                    refine G_iload dL_stands_398 rfl ?_
                    refine G_icmp_neN (tgt := 433) dL_stands_400 (by decide) (by have h9 : gM (mticks a0 (mcall S m s)) k 2 ≤ B + 270000 := (hk a0 (by omega)).1.m2 k; omega) (by have h9 : gM (mticks a0 (mcall S m s)) k 2 ≤ B + 270000 := (hk a0 (by omega)).1.m2 k; omega) (fun c400 => (c400 ht2).elim) (fun c400 => ?_)
                    refine G_aload_n dL_stands_403 rfl rfl ?_
                    refine G_iconst (v := nI 3) dL_stands_404 (by decide) ?_
                    refine G_iload dL_stands_405 rfl ?_
                    refine G_iconst (v := nI 3) dL_stands_407 (by decide) ?_
                    refine G_iconst (v := nI 0) dL_stands_408 (by decide) ?_
                    refine G_lc (E := 4 * (n368 + 1) + 10) (u := 1) (u2 := 2) (rest := []) zN_go dL_stands_409 lL_162 ⟨Nat.le_of_ble_eq_true rfl, Nat.le_of_ble_eq_true rfl⟩ (Nat.le_of_ble_eq_true rfl) hf ⟨by omega, rfl⟩ (vOw.rf (v := v163)) (r_member (t := t) (n := n) (c := c) (S := mticks a0 (mcall S m s)) (D := D.drop i148 ++ ([(c, S)] ++ pw c (mcall S m s) a0)) (sl := sl) (by omega) (by decide) hTo W165.1 (gi_w hG hk (by omega)) (by omega) hf) (fun v166 rv167 => ?_)
                    have W168 : LW v166 ((t, n), (c, mticks a0 (mcall S m s)), D.drop i148 ++ ([(c, S)] ++ pw c (mcall S m s) a0), sl) ((t, n), (c, mticks a0 (mcall S m s)), D.drop i148 ++ ([(c, S)] ++ pw c (mcall S m s) a0), sl) := W165.o rv167
                    refine G_top (y := nI (gM (mticks a0 (mcall S m s)) k 3)) rfl ?_
                    refine G_iload dL_stands_412 rfl ?_
                    refine G_icmp_neN (tgt := 433) dL_stands_414 (by decide) (by have h9 : gM (mticks a0 (mcall S m s)) k 3 < 6 := (hk a0 (by omega)).1.m3 k; omega) (by have h9 : gM (mticks a0 (mcall S m s)) k 3 < 6 := (hk a0 (by omega)).1.m3 k; omega) (fun c414 => (c414 ht3).elim) (fun c414 => ?_)
                    refine G_aload_n dL_stands_417 rfl rfl ?_
                    refine G_iconst (v := nI 3) dL_stands_418 (by decide) ?_
                    refine G_iload dL_stands_419 rfl ?_
                    refine G_iconst (v := nI 1) dL_stands_421 (by decide) ?_
                    refine G_iconst (v := nI 0) dL_stands_422 (by decide) ?_
                    refine G_lc (E := 4 * (n368 + 1) + 10) (u := 2) (u2 := 3) (rest := []) zN_go dL_stands_423 lL_162 ⟨Nat.le_of_ble_eq_true rfl, Nat.le_of_ble_eq_true rfl⟩ (Nat.le_of_ble_eq_true rfl) hf ⟨by omega, rfl⟩ (vOw.rf (v := v166)) (r_member (t := t) (n := n) (c := c) (S := mticks a0 (mcall S m s)) (D := D.drop i148 ++ ([(c, S)] ++ pw c (mcall S m s) a0)) (sl := sl) (by omega) (by decide) hTo W168.1 (gi_w hG hk (by omega)) (by omega) hf) (fun v169 rv170 => ?_)
                    have W171 : LW v169 ((t, n), (c, mticks a0 (mcall S m s)), D.drop i148 ++ ([(c, S)] ++ pw c (mcall S m s) a0), sl) ((t, n), (c, mticks a0 (mcall S m s)), D.drop i148 ++ ([(c, S)] ++ pw c (mcall S m s) a0), sl) := W168.o rv170
                    refine G_top (y := nI (gM (mticks a0 (mcall S m s)) k 1)) rfl ?_
                    refine G_if_neN (tgt := 433) dL_stands_426 (by decide) (by have h9 : gM (mticks a0 (mcall S m s)) k 1 ≤ 2 := (hk a0 (by omega)).1.m1 k; omega) (fun c426 => (c426 ht1).elim) (fun c426 => ?_)
                    refine G_iconst (v := nI 1) dL_stands_429 (by decide) ?_
                    refine G_goto (tgt := 434) dL_stands_430 (by decide) ?_
                    refine G_istore (ls2 := [some (.ref (0)), some (.ref (1603)), some (.int (nI (x))), some (.int (nI (c))), some (.int (nI (m))), some (.int (nI (s))), some (.int (nI (k0))), some (.int (nI (a0))), some (.int (nI (gG S 1))), some (.int (nI (gM S m 6 + 1))), some (.int (nI (1))), some (.int (nI (k0))), some (.int (nI (k)))]) dL_stands_434 (by decide) rfl ?_
                    refine G_iinc (v := nI (k + 1)) (ls2 := [some (.ref (0)), some (.ref (1603)), some (.int (nI (x))), some (.int (nI (c))), some (.int (nI (m))), some (.int (nI (s))), some (.int (nI (k0))), some (.int (nI (a0))), some (.int (nI (gG S 1))), some (.int (nI (gM S m 6 + 1))), some (.int (nI (1))), some (.int (nI (k0))), some (.int (nI (k + 1)))]) dL_stands_436 rfl (nI_inc _ 1) (by decide) rfl ?_
                    refine G_goto (tgt := 368) dL_stands_439 (by decide) ?_
                    refine G_bud (b2 := (4 * (4 * n368 + 10 - 0), 24 * (4 * n368 + 10 - 0))) ⟨by show 4 * (4 * n368 + 10 - 0) ≤ 4 * (4 * (n368 + 1) + 10 - 3); omega, by show 24 * (4 * n368 + 10 - 0) ≤ 24 * (4 * (n368 + 1) + 10 - 3); omega⟩ ?_
                    exact ih368 (k + 1) v169 W171 (by omega) (by omega)
            refine G_bud (b2 := (4 * (4 * (c + 1) + 10 - 0), 24 * (4 * (c + 1) + 10 - 0))) ⟨by show 4 * (4 * (c + 1) + 10 - 0) ≤ 4 * (120 - 33); omega, by show 24 * (4 * (c + 1) + 10 - 0) ≤ 24 * (120 - 33); omega⟩ ?_
            exact hL368 (c + 1) 0 v150 W151 (by omega) (by omega)
        refine G_iload dL_stands_185 rfl ?_
        refine G_if_leN (tgt := 246) dL_stands_187 (by decide) (by omega) (fun c187 => ?_) (fun c187 => ?_)
        · refine G_bud (b2 := (4 * (120 - 17), 24 * (120 - 17))) ⟨by show 4 * (120 - 17) ≤ 4 * (120 - 7); omega, by show 24 * (120 - 17) ≤ 24 * (120 - 7); omega⟩ ?_
          exact hJ246 v118 i0 W120
        · refine G_iload dL_stands_190 rfl ?_
          refine G_iconst (v := -1) dL_stands_192 (by decide) ?_
          refine G_icmp_eq (tgt := 246) dL_stands_193 (by decide) (fun c193 => (nI_neq (by omega) (by decide) c193).elim) (fun c193 => ?_)
          refine G_iload dL_stands_196 rfl ?_
          refine G_if_eqN (tgt := 243) dL_stands_198 (by decide) (by decide) (fun q9 => absurd q9 (by decide)) (fun _ => ?_)
          refine G_aload_n dL_stands_201 rfl rfl ?_
          refine G_aload_n dL_stands_202 rfl rfl ?_
          refine G_iload dL_stands_203 rfl ?_
          refine G_iconst (v := nI 1) dL_stands_205 (by decide) ?_
          refine G_isubN dL_stands_206 (by omega) ?_
          obtain ⟨i172, hc173⟩ := st_waits (p := k0 - 1) hTo hTq W120 hG hk (by omega) hB2 hf
          refine G_l2 (K := 4) (E := 120) (u := 7) (u2 := 11) (rest := []) (As := [.ref (0), .ref (1603), .int (nI (k0 - 1))]) zN_go dL_stands_207 lL_221 yk_L_waits ys_L_waits ⟨Nat.le_of_ble_eq_true rfl, Nat.le_of_ble_eq_true rfl⟩ rfl rfl (Nat.le_of_ble_eq_true rfl) rfl hf ⟨by omega, rfl⟩ (hc173) (fun v174 W175 => ?_)
          refine G_if_eqN (tgt := 243) dL_stands_210 (by decide) (by decide) (fun q9 => absurd q9 (by decide)) (fun _ => ?_)
          refine G_aload_n dL_stands_213 rfl rfl ?_
          refine G_iconst (v := nI 3) dL_stands_214 (by decide) ?_
          refine G_iload dL_stands_215 rfl ?_
          refine G_iconst (v := nI 2) dL_stands_217 (by decide) ?_
          refine G_iconst (v := nI 0) dL_stands_218 (by decide) ?_
          refine G_lc (E := 120) (u := 11) (u2 := 12) (rest := []) zN_go dL_stands_219 lL_162 ⟨Nat.le_of_ble_eq_true rfl, Nat.le_of_ble_eq_true rfl⟩ (Nat.le_of_ble_eq_true rfl) hf ⟨by omega, rfl⟩ (vOw.rf (v := v174)) (r_member (t := t) (n := n) (c := c) (S := mticks (k0 - 1) (mcall S m s)) (D := D.drop i172 ++ ([(c, S)] ++ pw c (mcall S m s) (k0 - 1))) (sl := sl) (by omega) (by decide) hTo W175.1 (gi_w hG hk (by omega)) (by omega) hf) (fun v176 rv177 => ?_)
          have W178 : LW v176 ((t, n), (c, mticks (k0 - 1) (mcall S m s)), D.drop i172 ++ ([(c, S)] ++ pw c (mcall S m s) (k0 - 1)), sl) ((t, n), (c, mticks (k0 - 1) (mcall S m s)), D.drop i172 ++ ([(c, S)] ++ pw c (mcall S m s) (k0 - 1)), sl) := W175.o rv177
          refine G_top (y := nI (gM (mticks (k0 - 1) (mcall S m s)) m 2)) rfl ?_
          refine G_iload dL_stands_222 rfl ?_
          refine G_icmp_eqN (tgt := 243) dL_stands_224 (by decide) (by have h9 : gM (mticks (k0 - 1) (mcall S m s)) m 2 ≤ B + 270000 := (hk (k0 - 1) (by omega)).1.m2 m; omega) (by have h9 : gM (mticks (k0 - 1) (mcall S m s)) m 2 ≤ B + 270000 := (hk (k0 - 1) (by omega)).1.m2 m; omega) (fun c224 => (hne (k0 - 1) (by omega) c224).elim) (fun c224 => ?_)
          refine G_aload_n dL_stands_227 rfl rfl ?_
          refine G_aload_n dL_stands_228 rfl rfl ?_
          refine G_iload dL_stands_229 rfl ?_
          refine G_iconst (v := nI 1) dL_stands_231 (by decide) ?_
          refine G_isubN dL_stands_232 (by omega) ?_
          refine G_l2 (K := 4) (E := 120) (u := 12) (u2 := 16) (rest := []) (As := [.ref (0), .ref (1603), .int (nI (k0 - 1))]) zN_go dL_stands_233 lL_224 yk_L_undoes ys_L_undoes ⟨Nat.le_of_ble_eq_true rfl, Nat.le_of_ble_eq_true rfl⟩ rfl rfl (Nat.le_of_ble_eq_true rfl) rfl hf ⟨by omega, rfl⟩ (st_undoes (p := k0 - 1) hTo hTq W178 hG hk (by omega) hB2 hf) (fun v179 W180 => ?_)
          refine G_if_eqN (tgt := 243) dL_stands_236 (by decide) (by decide) (fun q9 => absurd q9 (by decide)) (fun _ => ?_)
          refine G_iconst (v := nI 1) dL_stands_239 (by decide) ?_
          refine G_goto (tgt := 244) dL_stands_240 (by decide) ?_
          refine G_istore (ls2 := [some (.ref (0)), some (.ref (1603)), some (.int (nI (x))), some (.int (nI (c))), some (.int (nI (m))), some (.int (nI (s))), some (.int (nI (k0))), some (.int (nI (a0))), some (.int (nI (gG S 1))), some (.int (nI (gM S m 6 + 1))), some (.int (nI (1))), some (.int (nI (k0))), none]) dL_stands_244 (by decide) rfl ?_
          refine G_bud (b2 := (4 * (120 - 17), 24 * (120 - 17))) ⟨by show 4 * (120 - 17) ≤ 4 * (120 - 16); omega, by show 24 * (120 - 17) ≤ 24 * (120 - 16); omega⟩ ?_
          exact hJ246 v179 i172 W180
      refine G_iload dL_stands_149 rfl ?_
      refine G_cSp (rest := []) (As := [.int (nI (s))]) dL_stands_151 lL_185 yk_L_bits ys_L_bits (by decide) rfl rfl (Nat.le_of_ble_eq_true rfl) rfl (c_L_bits hs64) ?_
      refine G_iconst (v := nI 1) dL_stands_154 (by decide) ?_
      refine G_icmp_gtN (tgt := 163) dL_stands_155 (by decide) (by have := mbits_le (s := s) 24; omega) (by have := mbits_le (s := s) 24; omega) (fun c155 => ?_) (fun c155 => ?_)
      · exact hJ163 0
      · refine G_iload dL_stands_158 rfl ?_
        refine G_if_neN (tgt := 167) dL_stands_160 (by decide) (by omega) (fun c160 => (c160 (by have := hone (one_bits s hs64 m (by omega) hb (by omega)); rw [en] at this; injection this)).elim) (fun c160 => ?_)
        exact hJ163 0
