
abbrev mDS (S : mS) : mS := mdrain (gN S).length (sG S 1 (gG S 1 + 1))
theorem wait_s {S : mS} {m : Nat} (h1 : ¬ (gM S m 8 ≤ 0)) (h2 : gG S 7 ≤ gG S 1 - gM S m 11) : mwaitF m S = mcall S m (gM S m 10) := if_pos ⟨by omega, h2⟩
theorem wait_n {S : mS} {m : Nat} (h : ¬ (0 < gM S m 8 ∧ gG S 7 ≤ gG S 1 - gM S m 11)) : mwaitF m S = S := if_neg h
theorem NB.waits {c B : Nat} {S : mS} (h : NB c S B) {k : Nat} (hk : k ≤ c) : NB c (mup mwaitF k (mDS S)) (B + 1135) := by
  refine NB.up (NB.ups (d := 14) k (fun j S' D hj _ h' => h'.wait (by omega)) h.drained) ?_
  have := h.c6
  omega
