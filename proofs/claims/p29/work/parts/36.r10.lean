
/-- of the first n members, those who are so -/
def mwho (S : mS) (is : Nat) : Nat → Nat
  | 0 => 0
  | k + 1 => mwho S is k ||| (if gM S k 1 = is then 1 <<< k else 0)
abbrev msame (S : mS) (a d k l w : Nat) : Prop := (((gH S a).getD k t0).1 = ((gH S d).getD l t0).1 ∧ ((gH S a).getD k t0).2.1 = ((gH S d).getD l t0).2.1) ∧ (w = 0 ∨ ¬ ((gH S a).getD k t0).2.2 = ((gH S d).getD l t0).2.2)
def mcmpL (S : mS) (a d w k : Nat) : Nat → Nat
  | 0 => 0
  | l + 1 => mcmpL S a d w k l + (if msame S a d k l w then 1 else 0)
def mcmpK (S : mS) (a d w : Nat) : Nat → Nat
  | 0 => 0
  | k + 1 => mcmpK S a d w k + mcmpL S a d w k (gH S d).length
def mcmp (S : mS) (a d w : Nat) : Nat := mcmpK S a d w (gH S a).length
theorem mcmpL_le {S : mS} {a d w k : Nat} : ∀ l, mcmpL S a d w k l ≤ l := by
  intro l
  induction l with
  | zero => exact Nat.le_refl _
  | succ l ih => rw [mcmpL]; split <;> omega
theorem mcmpK_le {S : mS} {a d w : Nat} : ∀ k, mcmpK S a d w k ≤ k * (gH S d).length := by
  intro k
  induction k with
  | zero => exact Nat.zero_le _
  | succ k ih =>
    rw [mcmpK, Nat.succ_mul]
    have := mcmpL_le (S := S) (a := a) (d := d) (w := w) (k := k) (gH S d).length
    omega
def mthere (S : mS) (m num set : Nat) : Nat → Bool
  | 0 => true
  | k + 1 => mthere S m num set k && (!set.testBit k || decide (gM S k 1 = 0 ∧ gM S k 2 = num ∧ gM S k 3 = m))
theorem NB.hd {c B : Nat} {S : mS} (h : NB c S B) {m k : Nat} (hk : k < (gH S m).length) : ((gH S m).getD k t0).1 ≤ B ∧ ((gH S m).getD k t0).2.1 < 6 ∧ ((gH S m).getD k t0).2.2 < 16777216 := h.h (List.mem_of_getElem? (getD_some hk))
