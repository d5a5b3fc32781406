

theorem pn_X0 : plainName RX0 = true := by decide +kernel
theorem pn_X1 : plainName RX1 = true := by decide +kernel
theorem pn_X2 : plainName RX2 = true := by decide +kernel
theorem pn_X3 : plainName RX3 = true := by decide +kernel
theorem pn_X4 : plainName RX4 = true := by decide +kernel
theorem pn_X5 : plainName RX5 = true := by decide +kernel
theorem pn_X6 : plainName RX6 = true := by decide +kernel
theorem pn_X7 : plainName RX7 = true := by decide +kernel
theorem pn_L : plainName RL = true := by decide +kernel
theorem pn_J6 : plainName RJ6 = true := by decide +kernel
theorem q_t {μ : vM} {B : Bool} (h : B = true) : vN (qP μ (.int (vb B))) (.inl (some (.int (nI 1)))) μ := ⟨by rw [vb_t h], rfl⟩
theorem q_f {μ : vM} {B : Bool} (h : B = false) : vN (qP μ (.int (vb B))) (.inl (some (.int (nI 0)))) μ := ⟨by rw [vb_f h], rfl⟩
theorem q_b {μ : vM} {B C : Bool} (h : C = B) : vN (qP μ (.int (vb B))) (.inl (some (.int (vb C)))) μ := ⟨by rw [h], rfl⟩
theorem q_n {μ : vM} {x y : Nat} (h : y = x) : vN (qP μ (.int (nI x))) (.inl (some (.int (nI y)))) μ := ⟨by rw [h], rfl⟩
theorem q_i {μ : vM} {x y : Int32} (h : y = x) : vN (qP μ (.int x)) (.inl (some (.int y))) μ := ⟨by rw [h], rfl⟩
theorem q_s {σ : vS} {x y : Option Value} {post : vV → Prop} {v' : vV} (h : y = x) (hp : post v') : vN (qS σ x post) (.inl y) (σ, v') := ⟨v', h, rfl, hp⟩
theorem q_tD {μ : vM} {P : Prop} [Decidable P] (h : P) : vN (qP μ (.int (vb (decide P)))) (.inl (some (.int (nI 1)))) μ := q_t (decide_eq_true h)
theorem q_fD {μ : vM} {P : Prop} [Decidable P] (h : ¬ P) : vN (qP μ (.int (vb (decide P)))) (.inl (some (.int (nI 0)))) μ := q_f (decide_eq_false h)
theorem tb_has {s k : Nat} : (s >>> k &&& 1 = 1) ↔ s.testBit k = true := by
  rw [Nat.and_one_is_mod, Nat.testBit_eq_decide_div_mod_eq, Nat.shiftRight_eq_div_pow]
  exact decide_eq_true_iff.symm
theorem mbits_up {s k : Nat} : mbits s k + (s >>> k &&& 1) = mbits s (k + 1) := by
  simp only [mbits]
  by_cases h : s.testBit k = true
  · rw [tb_has.mpr h, if_pos h]
  · rw [if_neg h]
    have h1 : ¬ (s >>> k &&& 1 = 1) := fun q => h (tb_has.mp q)
    have h2 : s >>> k &&& 1 < 2 := Nat.lt_succ_of_le Nat.and_le_right
    omega
theorem sh_lt {s k : Nat} (h : s < 2147483648) : s >>> k < 2147483648 := Nat.lt_of_le_of_lt (Nat.shiftRight_le s k) h
theorem nI_toInt64 {n : Nat} (h : n < 2147483648) : ((nI n).toInt64).toInt = (n : Int) := by rw [Int32.toInt_toInt64, nI_toInt h]
theorem nI_m1 : nI 0 - nI 1 = -1 := by decide
/-- n - 1 as an int: also for 0 -/
theorem nI_pd {n : Nat} (h : n < 2147483648) : (nI n - nI 1).toInt = (n : Int) - 1 := by
  cases n with
  | zero => decide
  | succ k => rw [nI_sub (by omega), Nat.add_sub_cancel, nI_toInt (by omega)]; omega
set_option maxHeartbeats 4000000 in
set_option maxRecDepth 100000 in
theorem c_X7_in {μ : vM} (a lo hi : Int64) : vC M_X7_in yX7_in [.long (a), .long (lo), .long (hi)] μ (qP μ (.int (vb (decide (lo ≤ a ∧ a ≤ hi))))) := by
  refine vC_of (ls := [some (.long (a)), none, some (.long (lo)), none, some (.long (hi)), none]) pn_X7 rfl rfl (Nat.le_of_ble_eq_true rfl) rfl ?_
  refine P_lload_n dX7_in_0 rfl rfl ?_
  refine P_lload_n dX7_in_1 rfl rfl ?_
  refine P_lcmp dX7_in_2 ?_
  refine P_if_lt (tgt := 17) dX7_in_3 (by decide) (fun c3 => ?_) (fun c3 => ?_)
  · refine P_iconst (v := nI 0) dX7_in_17 (by decide) ?_
    refine P_zret dX7_in_18 rfl (by decide) ?_
    exact q_fD (fun q => absurd ((lg_lt _ _).mp c3) (Int64.not_lt.mpr q.1))
  · refine P_lload_n dX7_in_6 rfl rfl ?_
    refine P_lload dX7_in_7 rfl ?_
    refine P_lcmp dX7_in_9 ?_
    refine P_if_gt (tgt := 17) dX7_in_10 (by decide) (fun c10 => ?_) (fun c10 => ?_)
    · refine P_iconst (v := nI 0) dX7_in_17 (by decide) ?_
      refine P_zret dX7_in_18 rfl (by decide) ?_
      exact q_fD (fun q => absurd ((lg_gt _ _).mp c10) (Int64.not_lt.mpr q.2))
    · refine P_iconst (v := nI 1) dX7_in_13 (by decide) ?_
      refine P_goto (tgt := 18) dX7_in_14 (by decide) ?_
      refine P_zret dX7_in_18 rfl (by decide) ?_
      exact q_tD ⟨Int64.not_lt.mp (fun q => c3 ((lg_lt _ _).mpr q)), Int64.not_lt.mp (fun q => c10 ((lg_gt _ _).mpr q))⟩
set_option maxHeartbeats 4000000 in
set_option maxRecDepth 100000 in
theorem c_X7_has {μ : vM} {s k : Nat} (hs : s < 2147483648) (hk : k < 32) : vC M_X7_has yX7_has [.int (nI (s)), .int (nI (k))] μ (qP μ (.int (vb (s.testBit k)))) := by
  refine vC_of (ls := [some (.int (nI (s))), some (.int (nI (k)))]) pn_X7 rfl rfl (Nat.le_of_ble_eq_true rfl) rfl ?_
  refine P_iload_n dX7_has_0 rfl rfl ?_
  refine P_iload_n dX7_has_1 rfl rfl ?_
  refine P_ishrN dX7_has_2 (by omega) (by omega) ?_
  refine P_iconst (v := nI 1) dX7_has_3 (by decide) ?_
  refine P_iandN dX7_has_4 ?_
  refine P_iconst (v := nI 1) dX7_has_5 (by decide) ?_
  refine P_icmp_neN (tgt := 13) dX7_has_6 (by decide) (by first | omega | exact Nat.lt_of_le_of_lt Nat.and_le_right (by decide)) (by first | omega | exact Nat.lt_of_le_of_lt Nat.and_le_right (by decide)) (fun c6 => ?_) (fun c6 => ?_)
  · refine P_iconst (v := nI 0) dX7_has_13 (by decide) ?_
    refine P_zret dX7_has_14 rfl (by decide) ?_
    exact q_f (by rw [← Bool.not_eq_true]; exact fun q => c6 (tb_has.mpr q))
  · refine P_iconst (v := nI 1) dX7_has_9 (by decide) ?_
    refine P_goto (tgt := 14) dX7_has_10 (by decide) ?_
    refine P_zret dX7_has_14 rfl (by decide) ?_
    exact q_t (tb_has.mp c6)
set_option maxHeartbeats 4000000 in
set_option maxRecDepth 100000 in
theorem c_X7_of {σ : vS} {v : vV} {r m w : Nat} (hr : vK σ r 8 2012) (hm : m < 6) (hw : w < 83) : vC M_X7_of yX7_of [.ref (r), .int (nI (m)), .int (nI (w))] (σ, v) (qP (σ, v) (.int (v r (14 + 83 * m + w)))) := by
  refine vC_of (ls := [some (.ref (r)), some (.int (nI (m))), some (.int (nI (w)))]) pn_X7 rfl rfl (Nat.le_of_ble_eq_true rfl) rfl ?_
  refine P_aload_n dX7_of_0 rfl rfl ?_
  refine P_bipush (v := nI 14) dX7_of_1 (by decide) ?_
  refine P_bipush (v := nI 83) dX7_of_3 (by decide) ?_
  refine P_iload_n dX7_of_5 rfl rfl ?_
  refine P_imulN dX7_of_6 ?_
  refine P_iaddN dX7_of_7 ?_
  refine P_iload_n dX7_of_8 rfl rfl ?_
  refine P_iaddN dX7_of_9 ?_
  refine P_iald (14 + 83 * m + w) dX7_of_10 hr rfl (by omega) (by decide) ?_
  refine P_iret dX7_of_11 rfl ?_
  exact q_i rfl
set_option maxHeartbeats 4000000 in
set_option maxRecDepth 100000 in
theorem c_X7_ofNote {σ : vS} {v : vV} {r k w : Nat} (hr : vK σ r 8 2012) (hk : k < 150) (hw : w < 10) : vC M_X7_ofNote yX7_ofNote [.ref (r), .int (nI (k)), .int (nI (w))] (σ, v) (qP (σ, v) (.int (v r (512 + 10 * k + w)))) := by
  refine vC_of (ls := [some (.ref (r)), some (.int (nI (k))), some (.int (nI (w)))]) pn_X7 rfl rfl (Nat.le_of_ble_eq_true rfl) rfl ?_
  refine P_aload_n dX7_ofNote_0 rfl rfl ?_
  refine P_sipush (v := nI 512) dX7_ofNote_1 (by decide) ?_
  refine P_bipush (v := nI 10) dX7_ofNote_4 (by decide) ?_
  refine P_iload_n dX7_ofNote_6 rfl rfl ?_
  refine P_imulN dX7_ofNote_7 ?_
  refine P_iaddN dX7_ofNote_8 ?_
  refine P_iload_n dX7_ofNote_9 rfl rfl ?_
  refine P_iaddN dX7_ofNote_10 ?_
  refine P_iald (512 + 10 * k + w) dX7_ofNote_11 hr rfl (by omega) (by decide) ?_
  refine P_iret dX7_ofNote_12 rfl ?_
  exact q_i rfl
set_option maxHeartbeats 4000000 in
set_option maxRecDepth 100000 in
theorem c_X7_lay {σ : vS} {v : vV} {r m w : Nat} {x : Int32} (hr : vK σ r 8 2012) (hm : m < 6) (hw : w < 83) : vC M_X7_lay yX7_lay [.ref (r), .int (nI (m)), .int (nI (w)), .int (x)] (σ, v) (qS σ none (fun v9 => v9 = vU v r (14 + 83 * m + w) x)) := by
  refine vC_of (ls := [some (.ref (r)), some (.int (nI (m))), some (.int (nI (w))), some (.int (x))]) pn_X7 rfl rfl (Nat.le_of_ble_eq_true rfl) rfl ?_
  refine P_aload_n dX7_lay_0 rfl rfl ?_
  refine P_bipush (v := nI 14) dX7_lay_1 (by decide) ?_
  refine P_bipush (v := nI 83) dX7_lay_3 (by decide) ?_
  refine P_iload_n dX7_lay_5 rfl rfl ?_
  refine P_imulN dX7_lay_6 ?_
  refine P_iaddN dX7_lay_7 ?_
  refine P_iload_n dX7_lay_8 rfl rfl ?_
  refine P_iaddN dX7_lay_9 ?_
  refine P_iload_n dX7_lay_10 rfl rfl ?_
  refine P_iast (14 + 83 * m + w) dX7_lay_11 hr rfl (by omega) (by decide) ?_
  refine P_vret dX7_lay_12 rfl ?_
  exact q_s rfl rfl
set_option maxHeartbeats 4000000 in
set_option maxRecDepth 100000 in
theorem c_X7_bits {μ : vM} {s : Nat} (hs : s < 2147483648) : vC M_X7_bits yX7_bits [.int (nI (s))] μ (qP μ (.int (nI (mbits s 24)))) := by
  refine vC_of (ls := [some (.int (nI (s))), none, none]) pn_X7 rfl rfl (Nat.le_of_ble_eq_true rfl) rfl ?_
  refine P_iconst (v := nI 0) dX7_bits_0 (by decide) ?_
  refine P_istore_n (ls2 := [some (.int (nI (s))), some (.int (nI (0))), none]) dX7_bits_1 rfl (by decide) rfl ?_
  refine P_iconst (v := nI 0) dX7_bits_2 (by decide) ?_
  refine P_istore_n (ls2 := [some (.int (nI (s))), some (.int (nI (0))), some (.int (nI (0)))]) dX7_bits_3 rfl (by decide) rfl ?_
  have hL4 : ∀ (n4 : Nat) (k : Nat), (k ≤ 24) → (k + n4 = 25) → vP M_X7_bits 4 [some (.int (nI (s))), some (.int (nI (mbits s k))), some (.int (nI (k)))] [] ((vRm M_X7_bits).cells, (vRm M_X7_bits).slots) μ (vN (qP μ (.int (nI (mbits s 24))))) := by
    intro n4
    induction n4 with
    | zero =>
      intro k h1 h2
      exact absurd h2 (by omega)
    | succ n4 ih4 =>
      intro k h1 h2
      refine P_iload_n dX7_bits_4 rfl rfl ?_
      refine P_bipush (v := nI 24) dX7_bits_5 (by decide) ?_
      refine P_icmp_geN (tgt := 24) dX7_bits_7 (by decide) (by omega) (by omega) (fun c7 => ?_) (fun c7 => ?_)
      · refine P_iload_n dX7_bits_24 rfl rfl ?_
        refine P_iret dX7_bits_25 rfl ?_
        exact q_n (by rw [show k = 24 by omega])
      · refine P_iload_n dX7_bits_10 rfl rfl ?_
        refine P_iload_n dX7_bits_11 rfl rfl ?_
        refine P_iload_n dX7_bits_12 rfl rfl ?_
        refine P_ishrN dX7_bits_13 (by omega) (by omega) ?_
        refine P_iconst (v := nI 1) dX7_bits_14 (by decide) ?_
        refine P_iandN dX7_bits_15 ?_
        refine P_iaddN dX7_bits_16 ?_
        refine P_istore_n (ls2 := [some (.int (nI (s))), some (.int (nI (mbits s k + ((s >>> k) &&& 1)))), some (.int (nI (k)))]) dX7_bits_17 rfl (by decide) rfl ?_
        refine P_iinc (v := nI (k + 1)) (ls2 := [some (.int (nI (s))), some (.int (nI (mbits s k + ((s >>> k) &&& 1)))), some (.int (nI (k + 1)))]) dX7_bits_18 rfl (nI_inc _ 1) (by decide) rfl ?_
        refine P_goto (tgt := 4) dX7_bits_21 (by decide) ?_
        have e9 : mbits s k + (s >>> k &&& 1) = mbits s (k + 1) := mbits_up
        rw [e9]
        exact ih4 (k + 1) (by omega) (by omega)
  exact hL4 25 0 (by omega) (by omega)
