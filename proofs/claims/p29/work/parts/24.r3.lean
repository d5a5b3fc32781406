theorem mins_get {L : List mN} {p : Nat} {x : mN} (hp : p ≤ L.length) (k : Nat) : (mins L p x)[k]? = if k < p then L[k]? else if k = p then some x else L[k - 1]? := by
  have hl : (L.take p).length = p := by rw [List.length_take]; omega
  unfold mins
  by_cases h : k < p
  · rw [if_pos h, List.getElem?_append_left (by omega), List.getElem?_take_of_lt h]
  · rw [if_neg h, List.getElem?_append_right (by omega), hl]
    by_cases e : k = p
    · subst e; rw [if_pos rfl, Nat.sub_self]; rfl
    · rw [if_neg e]
      obtain ⟨d, rfl⟩ : ∃ d, k = p + 1 + d := ⟨k - p - 1, by omega⟩
      rw [show p + 1 + d - p = d + 1 by omega, List.getElem?_cons_succ, List.getElem?_drop]
      congr 1; omega
theorem msend_in {S : mS} {kd frm to num by9 data p : Nat} (h1 : (gG S (8 + frm)).testBit to = false) (h2 : ¬ (gN S).length = 150) (hp : mat (gN S) (gG S 1 + mfar S frm to) (gN S).length = p) : msend S kd frm to num by9 data = sN S (mins (gN S) p (mnote kd frm to (gG S 1 + mfar S frm to) num by9 data (gM S frm 2) (gM S frm 3) (gM S frm 4))) := by
  unfold msend
  rw [if_neg (fun q => q.elim (fun g => by rw [h1] at g; cases g) h2), hp]
