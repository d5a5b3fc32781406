def t0 : mT := (0, 0, 0)
theorem take_s {α : Type} {l : List α} {k : Nat} {d : α} (h : k < l.length) : l.take (k + 1) = l.take k ++ [l.getD k d] := by
  rw [List.take_succ, List.getElem?_eq_getElem h, List.getD_eq_getElem?_getD, List.getElem?_eq_getElem h]; rfl
theorem fil_s {num : Nat} {l : List mT} {k : Nat} (h : k < l.length) : (l.take (k + 1)).filter (fun t => decide (num < t.1)) = (l.take k).filter (fun t => decide (num < t.1)) ++ (if num < (l.getD k t0).1 then [l.getD k t0] else []) := by
  rw [take_s (d := t0) h, List.filter_append]
  congr 1
  by_cases g : num < (l.getD k t0).1
  · rw [if_pos g, List.filter_cons_of_pos (by exact decide_eq_true g)]; rfl
  · rw [if_neg g, List.filter_cons_of_neg (by rw [decide_eq_false g]; exact Bool.false_ne_true)]; rfl
theorem fil_le {num : Nat} {l : List mT} {k : Nat} : ((l.take k).filter (fun t => decide (num < t.1))).length ≤ k := Nat.le_trans (List.length_filter_le _ _) (by rw [List.length_take]; exact Nat.min_le_left _ _)
theorem tb_one {m k : Nat} : (1 <<< m).testBit k = decide (m = k) := by
  rw [Nat.shiftLeft_eq, Nat.one_mul, Nat.testBit_two_pow]
theorem msend_M {S : mS} {kd frm to num by9 data : Nat} : gM (msend S kd frm to num by9 data) = gM S := by unfold msend; split <;> rfl
theorem mup_M {f : Nat → mS → mS} (h : ∀ k S, gM (f k S) = gM S) : ∀ (n : Nat) (S : mS), gM (mup f n S) = gM S := by
  intro n
  induction n with
  | zero => intro S; rfl
  | succ n ih => intro S; show gM (f n (mup f n S)) = gM S; rw [h, ih]
theorem msends_M {S : mS} {m set : Nat} {n : Nat} : gM (mup (mcallF m (gM S m 6 + 1) set) n (mstart S m set)) = gM (mstart S m set) := mup_M (fun k S => by unfold mcallF; split; exact msend_M; rfl) _ _
