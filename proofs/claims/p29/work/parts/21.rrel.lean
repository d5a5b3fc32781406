
/-! the reference's row of numbers, and what it says -/
theorem vU_o {v : vV} {n k : Nat} {x : Int32} {a c : Nat} (h : a ≠ n ∨ c ≠ k) : vU v n k x a c = v a c := by
  unfold vU
  by_cases e : a = n
  · subst e
    rw [if_pos rfl, if_neg (by rcases h with h | h; exact absurd rfl h; exact h)]
  · rw [if_neg e]
theorem vU_s {v : vV} {n k : Nat} {x : Int32} : vU v n k x n k = x := by simp [vU]
/-- bounds of lengths -/
def RB (S : mS) : Prop := (∀ m, (gK S m).length ≤ 12) ∧ (∀ m, (gH S m).length ≤ 5) ∧ (gN S).length ≤ 150
theorem getD_some {α : Type} {l : List α} {k : Nat} {d : α} (hk : k < l.length) : l[k]? = some (l.getD k d) := by rw [List.getD_eq_getElem?_getD, List.getElem?_eq_getElem hk]; rfl
theorem lg_lt (x y : Int64) : lg_cmp x y < 0 ↔ x < y := by
  have := lg_cmp_ge x y
  constructor
  · intro h
    by_cases g : y ≤ x
    · exact absurd h (Int32.not_lt.mpr (this.mpr g))
    · exact Int64.not_le.mp g
  · intro h
    exact Int32.not_le.mp (fun g => absurd (this.mp g) (Int64.not_le.mpr h))
