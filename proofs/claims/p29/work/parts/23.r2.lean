theorem mb_nat {c : Nat} {m : Int32} (hc : c ≤ 6) (h : mb c m = true) : ∃ k, k < c ∧ m = nI k := by
  unfold mb at h
  obtain ⟨h1, h2⟩ := of_decide_eq_true h
  exact ⟨m.toInt.toNat, by omega, nI_of_toInt (by omega) (by omega)⟩
theorem mb_n {c k : Nat} (hk : k < 2147483648) : mb c (nI k) = decide (k < c) := by
  unfold mb
  apply decide_eq_decide.mpr
  rw [nI_toInt hk]; omega
theorem mset_n {c m k : Nat} (hk : k < 2147483648) : mset c m (nI k) = (decide (k < 2 ^ c) && k.testBit m) := by
  unfold mset
  have e : ((2 : Int) ^ c) = ((2 ^ c : Nat) : Int) := by norm_cast
  rw [nI_toInt hk, e]
  congr 1
  apply decide_eq_decide.mpr
  omega
theorem two_c {c : Nat} (hc : c ≤ 6) : 2 ^ c ≤ 64 := by
  have h9 : ∀ c, c ≤ 6 → 2 ^ c ≤ 64 := by decide
  exact h9 c hc
