
/-! WHAT IS REMEMBERED, AND UNDONE -/
theorem ul_push {tn : mN × Nat} {D L : List mC} {sl : Nat → Option mC} {X : mC} {j : Nat} (hl : L.length ≤ 12) (Y : mC) : ∃ i, gAct (tn, X, D.drop j ++ L, sl) Y = (tn, Y, D.drop i ++ (L ++ [X]), sl) := by
  by_cases e : (D.drop j ++ L).length = 14
  · refine ⟨j + 1, ?_⟩
    show (tn, Y, (if (D.drop j ++ L).length = 14 then (D.drop j ++ L).drop 1 else D.drop j ++ L) ++ [X], sl) = _
    rw [if_pos e]
    have h1 : (D.drop j ++ L).drop 1 = D.drop (j + 1) ++ L := by
      rw [List.length_append] at e
      rw [List.drop_append, List.drop_drop, show 1 - (D.drop j).length = 0 by omega, List.drop_zero]
    rw [h1, List.append_assoc]
  · refine ⟨j, ?_⟩
    show (tn, Y, (if (D.drop j ++ L).length = 14 then (D.drop j ++ L).drop 1 else D.drop j ++ L) ++ [X], sl) = _
    rw [if_neg e, List.append_assoc]
theorem t_undo {tn : mN × Nat} {D L : List mC} {sl : Nat → Option mC} {X Y : mC} {j : Nat} : gP [eIS] (g_undo (tn, X, D.drop j ++ (L ++ [Y]), sl)) = (nI (D.drop j ++ L).length, (tn, Y, D.drop j ++ L, sl)) := by
  have e : D.drop j ++ (L ++ [Y]) = (D.drop j ++ L) ++ [Y] := (List.append_assoc _ _ _).symm
  rw [e]
  have h0 : ¬ ((D.drop j ++ L) ++ [Y]).length = 0 := by rw [List.length_append]; show ¬ _ + 1 = 0; omega
  show gP [eIS] (if ((D.drop j ++ L) ++ [Y]).length = 0 then _ else _) = _
  rw [if_neg h0, List.getLast?_concat, List.dropLast_concat]
  show (nI (((D.drop j ++ L) ++ [Y]).length - 1), _) = _
  rw [List.length_append]
  rfl
theorem t_ticks {t : mN} {n c : Nat} {S : mS} {D : List mC} {sl : Nat → Option mC} {p : Nat} (h1 : 1 ≤ p) (h2 : p ≤ 60) : gP [eIA] (g_ticks ((t, n), (c, S), D, sl) (nI p)) = (nI (gG (mticks p S) 6 - gG S 6), gAct ((t, n), (c, S), D, sl) (c, mticks p S)) := by
  dsimp only [g_ticks]
  rw [if_neg (gt_f (gin_t h1 h2 (by decide))), nn (by omega)]
  rfl
theorem t_call {t : mN} {n c : Nat} {S : mS} {D : List mC} {sl : Nat → Option mC} {m s : Nat} (hc : c ≤ 6) (hm : m < c) (hs : s < 2 ^ c) (hb : s.testBit m = true) (h2 : ¬ gM S m 1 = 2) : gP [eIO, eIA, eIS] (g_call ((t, n), (c, S), D, sl) (nI m) (nI s)) = (nI (gM S m 6 + 1), gAct ((t, n), (c, S), D, sl) (c, mcall S m s)) := by
  have h6 : 2 ^ c ≤ 2 ^ 6 := Nat.pow_le_pow_right (by decide) hc
  dsimp only [g_call]
  rw [nn (by omega), nn (by omega), if_neg (gt_f (mb_t hm hc)), if_neg (gt_f (by rw [mset_n (by omega), decide_eq_true hs, hb]; rfl)), if_neg h2]
  rfl
theorem t_say {t : mN} {n c : Nat} {S : mS} {D : List mC} {sl : Nat → Option mC} {m : Nat} (hc : c ≤ 6) (hm : m < c) (h : gM S m 1 = 0 ∧ gM S m 7 < 4) : gP [eIO, eIS] (g_say ((t, n), (c, S), D, sl) (nI m)) = (nI (4 * m + gM S m 7), gAct ((t, n), (c, S), D, sl) (c, msay S m)) := by
  dsimp only [g_say]
  rw [nn (by omega), if_neg (gt_f (mb_t hm hc)), if_neg (fun z => z h)]
  rfl
theorem t_stands {t : mN} {n c : Nat} {S : mS} {D : List mC} {sl : Nat → Option mC} {m s w : Nat} (hc : c ≤ 6) (hm : m < c) (hs : s < 2 ^ c) (hb : s.testBit m = true) (hw : w ≤ 1) (h2 : ¬ gM S m 1 = 2) : gP [eIO, eIA] (g_standsIn ((t, n), (c, S), D, sl) (nI m) (nI s) (nI w)) = (mO (mfind c (mcall S m s) m (gM S m 6 + 1) s w 101 0), ((t, n), (c, S), D, sl)) := by
  have h6 : 2 ^ c ≤ 2 ^ 6 := Nat.pow_le_pow_right (by decide) hc
  dsimp only [g_standsIn]
  rw [nn (by omega), nn (by omega), nn (by omega), if_neg (gt_f (mb_t hm hc)), if_neg (gt_f (by rw [gin_t (Nat.zero_le _) hw (by decide), mset_n (by omega), decide_eq_true hs, hb]; rfl)), if_neg h2]
  rfl
theorem gi_mk {B E : Nat} {t : mN} {n : Nat} {X Y : mC} {D L : List mC} {sl : Nat → Option mC} {j : Nat} (h : GI B ((t, n), X, D, sl)) (hB : B ≤ E) (hY : KC E Y) (hL : ∀ Z, Z ∈ L → KC E Z) : GI E ((t, n), Y, D.drop j ++ L, sl) :=
  ⟨hY, fun Z hZ => (List.mem_append.mp hZ).elim (fun q => (h.2.1 Z (List.mem_of_mem_drop q)).up hB) (hL Z), fun i Z hZ => (h.2.2 i Z hZ).up hB⟩
theorem mticks_add {S : mS} (a : Nat) : ∀ d, mticks (a + d) S = mticks d (mticks a S) := by
  intro d
  induction d with
  | zero => rfl
  | succ d ih =>
    show mtick (mticks (a + d) S) = mtick (mticks d (mticks a S))
    rw [ih]
theorem mfind_some {c m num set w : Nat} {V : mS} : ∀ (f k n : Nat), mfind c V m num set w f k = some n → k ≤ n ∧ n < k + f ∧ mcnd c (mticks n V) m num set w = true ∧ ∀ i, k ≤ i → i < n → ¬ mcnd c (mticks i V) m num set w = true := by
  intro f
  induction f with
  | zero => intro k n h; cases h
  | succ f ih =>
    intro k n h
    by_cases e : mcnd c (mticks k V) m num set w = true
    · rw [mfind, if_pos e] at h
      cases h
      exact ⟨Nat.le_refl _, by omega, e, fun i h1 h2 => by omega⟩
    · rw [mfind, if_neg e] at h
      obtain ⟨h1, h2, h3, h4⟩ := ih _ _ h
      refine ⟨by omega, by omega, h3, fun i g1 g2 => ?_⟩
      by_cases ei : i = k
      · subst ei; exact e
      · exact h4 i (by omega) g2
theorem mfind_none {c m num set w : Nat} {V : mS} : ∀ (f k : Nat), mfind c V m num set w f k = none → ∀ i, k ≤ i → i < k + f → ¬ mcnd c (mticks i V) m num set w = true := by
  intro f
  induction f with
  | zero => intro k _ i h1 h2; omega
  | succ f ih =>
    intro k h i h1 h2
    by_cases e : mcnd c (mticks k V) m num set w = true
    · rw [mfind, if_pos e] at h; cases h
    · rw [mfind, if_neg e] at h
      by_cases ei : i = k
      · subst ei; exact e
      · exact ih _ h i (by omega) (by omega)
theorem there_k {S : mS} {m num set k : Nat} : ∀ n, mthere S m num set n = true → k < n → set.testBit k = true → gM S k 1 = 0 ∧ gM S k 2 = num ∧ gM S k 3 = m := by
  intro n
  induction n with
  | zero => intro _ h; exact absurd h (Nat.not_lt_zero k)
  | succ n ih =>
    intro h hk hs
    rw [mthere, Bool.and_eq_true] at h
    by_cases e : k = n
    · subst e
      have := h.2
      rw [hs] at this
      exact of_decide_eq_true (by simpa using this)
    · exact ih h.1 (by omega) hs
/-- what is told of a roll that is called: when the caller sits in it, when all do -/
theorem told_all {c B m s : Nat} {S : mS} (hJ : IJ c S) (hN : NB c S B) (hm : m < c) (hs : s < 2 ^ c) (hb : s.testBit m = true) :
    (∀ a, mfind c (mcall S m s) m (gM S m 6 + 1) s 1 101 0 = some a → ∃ n, mfind c (mcall S m s) m (gM S m 6 + 1) s 0 101 0 = some n ∧ n ≤ a ∧ a ≤ 100 ∧ ∀ k, k < c → s.testBit k = true → gM (mticks a (mcall S m s)) k 1 = 0 ∧ gM (mticks a (mcall S m s)) k 2 = gM S m 6 + 1 ∧ gM (mticks a (mcall S m s)) k 3 = m) ∧
    (∀ n, mfind c (mcall S m s) m (gM S m 6 + 1) s 0 101 0 = some n → n ≤ 100 ∧ (gM (mticks n (mcall S m s)) m 2 = gM S m 6 + 1 ∧ gM (mticks n (mcall S m s)) m 3 = m) ∧ gM (mticks n (mcall S m s)) m 4 = s ∧ gM (mticks n (mcall S m s)) m 1 = 0 ∧ ∀ k, k < n → gM (mticks k (mcall S m s)) m 2 ≠ gM S m 6 + 1) := by
  refine ⟨fun a h => ?_, fun n h => ?_⟩
  · obtain ⟨h1, h2, h3, h4⟩ := mfind_some _ _ _ h
    have h5 : mthere (mticks a (mcall S m s)) m (gM S m 6 + 1) s c = true := h3
    have h6 := there_k c h5 hm hb
    cases e : mfind c (mcall S m s) m (gM S m 6 + 1) s 0 101 0 with
    | none => exact absurd (decide_eq_true ⟨h6.2.1, h6.2.2⟩) (mfind_none _ _ e a h1 h2)
    | some n =>
      obtain ⟨g1, g2, g3, g4⟩ := mfind_some _ _ _ e
      refine ⟨n, rfl, ?_, by omega, fun k hk hsk => there_k c h5 hk hsk⟩
      rcases Nat.lt_or_ge a n with q | q
      · exact absurd (decide_eq_true ⟨h6.2.1, h6.2.2⟩) (g4 a (Nat.zero_le _) q)
      · exact q
  · obtain ⟨g1, g2, g3, g4⟩ := mfind_some _ _ _ h
    have h3 := of_decide_eq_true g3
    have := stood hJ hN hm hb hs (fun k hk z => g4 k (Nat.zero_le _) hk (decide_eq_true z)) h3
    exact ⟨by omega, h3, this⟩
/-- of a roll of one -/
theorem told_one {c m s : Nat} {S : mS} (h2 : gM S m 2 ≤ gM S m 6) (h : s = 1 <<< m) : mfind c (mcall S m s) m (gM S m 6 + 1) s 0 101 0 = some 0 := by
  have hc : gM (mcall S m s) m 2 = gM S m 6 + 1 ∧ gM (mcall S m s) m 3 = m := by
    obtain ⟨v6, v1, v8, v9, v10⟩ := start_v (S := S) (m := m) (set := s)
    unfold mcall mans
    have e9 : gM (mputA (msends S m s) m m (gM S m 2) (gM S m 3) (gM S m 5)) m 9 = s := by rw [put_m (by decide) (by decide), sends_m]; exact v9
    have e10 : gM (mputA (msends S m s) m m (gM S m 2) (gM S m 3) (gM S m 5)) m 10 = s := by rw [put_10, sends_m, v10, h, Nat.zero_or]
    rw [if_pos (e10.trans e9.symm)]
    have e2 : gM (mputA (msends S m s) m m (gM S m 2) (gM S m 3) (gM S m 5)) m 2 = gM S m 2 := by rw [put_m (by decide) (by decide), sends_m]; exact start_o (Or.inr (by decide))
    have e6 : gM (mputA (msends S m s) m m (gM S m 2) (gM S m 3) (gM S m 5)) m 6 = gM S m 6 + 1 := by rw [put_m (by decide) (by decide), sends_m]; exact v6
    have e8 : gM (mputA (msends S m s) m m (gM S m 2) (gM S m 3) (gM S m 5)) m 8 = gM S m 6 + 1 := by rw [put_m (by decide) (by decide), sends_m]; exact v8
    have := stands_m (S := mputA (msends S m s) m m (gM S m 2) (gM S m 3) (gM S m 5)) (m := m) (by rw [e2, e6, e8]; omega)
    exact ⟨this.2.1.trans e8, this.2.2.1⟩
  rw [mfind, if_pos]
  exact decide_eq_true hc
