
/-! READING A TEXT: n signs t -/
abbrev mdg (t : mN) (n s : Nat) : Prop := s < n ∧ 48 ≤ t s ∧ t s ≤ 57
def mfig1 (t : mN) (n lo hi w s : Nat) : Option Nat × Nat :=
  if mdg t n s ∧ w + (t s - 48) ≤ hi ∧ lo ≤ w + (t s - 48) then (some (w + (t s - 48)), s + 1) else (none, s)
def mfig2 (t : mN) (n lo hi s : Nat) : Option Nat × Nat :=
  if mdg t n s ∧ (t s - 48) * 10 ≤ hi ∧ lo ≤ (t s - 48) * 10 + 9 then mfig1 t n lo hi ((t s - 48) * 10) (s + 1) else (none, s)
def mO (o : Option Nat) : Int32 := o.elim (-1) nI
theorem nI_nm1 {a : Nat} (h : a < 2147483648) : nI a ≠ -1 := fun e => by
  have := congrArg Int32.toInt e
  rw [nI_toInt h] at this
  have h2 : (-1 : Int32).toInt = -1 := by decide
  omega
theorem sub48 {a : Nat} (ha : a < 256) : (nI a - nI 48).toInt = (a : Int) - 48 := by
  have h : ∀ b, b < 256 → (nI b - nI 48).toInt = (b : Int) - 48 := by decide +kernel
  exact h a ha
theorem sub48n {a : Nat} (h : 48 ≤ a) : nI a - nI 48 = nI (a - 48) := nI_sub h
/-- a sign as a digit: it is one, or none that may stand -/
def mdx (t : mN) (n s : Nat) (x : Int32) : Prop := (mdg t n s ∧ x = nI (t s - 48)) ∨ (¬ mdg t n s ∧ ¬ (0 ≤ x.toInt ∧ x.toInt ≤ 9))
theorem mdx.sign {t : mN} {n s : Nat} (hs : s < n) (h : t s < 256) : mdx t n s (nI (t s) - nI 48) := by
  by_cases q : 48 ≤ t s ∧ t s ≤ 57
  · exact Or.inl ⟨⟨hs, q⟩, sub48n q.1⟩
  · refine Or.inr ⟨fun e => q e.2, ?_⟩
    rw [sub48 h]
    omega
