theorem msayF_m {S : mS} {m b k : Nat} (h : k = m) : msayF m b k S = S := by unfold msayF; rw [if_neg (fun q => q.1 h)]
theorem msayF_b {S : mS} {m b k : Nat} (h : (gM S m 4).testBit k = false) : msayF m b k S = S := by unfold msayF; rw [if_neg (fun q => by rw [h] at q; exact Bool.false_ne_true q.2)]
theorem msayF_s {S : mS} {m b k : Nat} (h1 : ¬ k = m) (h2 : (gM S m 4).testBit k = true) : msayF m b k S = msend S 0 m k (gM S m 2) (gM S m 3) b := by unfold msayF; rw [if_pos ⟨h1, h2⟩]
theorem mleave2 {S : mS} {m : Nat} : gM (mleave S m) m 2 = gM S m 2 := by simp [gM, sM, mleave, mnone, sK]
theorem mbits_le {s : Nat} : ∀ k, mbits s k ≤ k := by
  intro k
  induction k with
  | zero => exact Nat.le_refl _
  | succ k ih => simp only [mbits]; split <;> omega
