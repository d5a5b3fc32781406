

theorem pn_X0 : plainName RX0 = true := by decide +kernel
theorem pn_X1 : plainName RX1 = true := by decide +kernel
theorem pn_X2 : plainName RX2 = true := by decide +kernel
theorem pn_X3 : plainName RX3 = true := by decide +kernel
theorem pn_X4 : plainName RX4 = true := by decide +kernel
theorem pn_X5 : plainName RX5 = true := by decide +kernel
theorem pn_X6 : plainName RX6 = true := by decide +kernel
theorem pn_J6 : plainName RJ6 = true := by decide +kernel
theorem q_t {μ : vM} {B : Bool} (h : B = true) : vN (qP μ (.int (vb B))) (.inl (some (.int (nI 1)))) μ := ⟨by rw [vb_t h], rfl⟩
theorem q_f {μ : vM} {B : Bool} (h : B = false) : vN (qP μ (.int (vb B))) (.inl (some (.int (nI 0)))) μ := ⟨by rw [vb_f h], rfl⟩
theorem q_b {μ : vM} {B C : Bool} (h : C = B) : vN (qP μ (.int (vb B))) (.inl (some (.int (vb C)))) μ := ⟨by rw [h], rfl⟩
theorem q_n {μ : vM} {x y : Nat} (h : y = x) : vN (qP μ (.int (nI x))) (.inl (some (.int (nI y)))) μ := ⟨by rw [h], rfl⟩
theorem q_i {μ : vM} {x y : Int32} (h : y = x) : vN (qP μ (.int x)) (.inl (some (.int y))) μ := ⟨by rw [h], rfl⟩
theorem q_s {σ : vS} {x y : Option Value} {post : vV → Prop} {v' : vV} (h : y = x) (hp : post v') : vN (qS σ x post) (.inl y) (σ, v') := ⟨v', h, rfl, hp⟩
theorem q_tD {μ : vM} {P : Prop} [Decidable P] (h : P) : vN (qP μ (.int (vb (decide P)))) (.inl (some (.int (nI 1)))) μ := q_t (decide_eq_true h)
theorem q_fD {μ : vM} {P : Prop} [Decidable P] (h : ¬ P) : vN (qP μ (.int (vb (decide P)))) (.inl (some (.int (nI 0)))) μ := q_f (decide_eq_false h)
theorem tb_has {s k : Nat} : (s >>> k &&& 1 = 1) ↔ s.testBit k = true := by
  rw [Nat.and_one_is_mod, Nat.testBit_eq_decide_div_mod_eq, Nat.shiftRight_eq_div_pow]
  exact decide_eq_true_iff.symm
