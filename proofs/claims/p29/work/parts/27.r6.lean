theorem mcalled5 {S : mS} {m a : Nat} : gM (mnone (sM (sM S m 6 a) m 1 1) m) m 5 = gM S m 5 := by simp [gM, sM, mnone]
