
/-! A SPEECH: what it changes -/
theorem say_M {S : mS} {m : Nat} : gM (msay S m) = gM (msay0 S m) := (ups_same (f := msayF m (4 * m + gM S m 7)) (gG S 0) (fun k S' => sayF_same) (msay0 S m)).1
theorem say_5 {S : mS} {m : Nat} : gM (msay S m) m 5 = gM S m 5 ||| 1 <<< (4 * m + gM S m 7) := by rw [say_M]; exact say0_v.1
theorem say_7 {S : mS} {m : Nat} : gM (msay S m) m 7 = gM S m 7 + 1 := by rw [say_M]; exact say0_v.2
theorem send_cnt {S : mS} {kd frm to num by9 data : Nat} : (gN (msend S kd frm to num by9 data)).length + gG (msend S kd frm to num by9 data) 3 = (gN S).length + gG S 3 + 1 := by
  unfold msend
  split
  · show (gN S).length + (if 3 = 3 then gG S 3 + 1 else gG S 3) = _
    rw [if_pos rfl]; omega
  · show (mins (gN S) _ _).length + gG S 3 = _
    rw [mins_len (mat_le _ _ _)]; omega
/-- of the first n, the others whom a set has -/
def mcn (s m : Nat) : Nat → Nat
  | 0 => 0
  | k + 1 => mcn s m k + (if k ≠ m ∧ s.testBit k = true then 1 else 0)
theorem mcn_n {s m : Nat} (h : s.testBit m = true) : ∀ n, mbits s n = mcn s m n + (if m < n then 1 else 0) := by
  intro n
  induction n with
  | zero => rw [if_neg (Nat.not_lt_zero m)]; rfl
  | succ n ih =>
    rw [mbits, mcn, ih]
    by_cases e : n = m
    · subst e
      rw [if_pos h, if_neg (show ¬ n < n from Nat.lt_irrefl n), if_neg (show ¬ (n ≠ n ∧ s.testBit n = true) from fun z => z.1 rfl), if_pos (show n < n + 1 from Nat.lt_succ_self n)]
    · by_cases b : s.testBit n = true
      · rw [if_pos b, if_pos (show n ≠ m ∧ s.testBit n = true from ⟨e, b⟩)]
        by_cases q : m < n
        · rw [if_pos (show m < n from q), if_pos (show m < n + 1 by omega)]
        · rw [if_neg (show ¬ m < n from q), if_neg (show ¬ m < n + 1 by omega)]
      · rw [if_neg b, if_neg (show ¬ (n ≠ m ∧ s.testBit n = true) from fun z => b z.2)]
        by_cases q : m < n
        · rw [if_pos (show m < n from q), if_pos (show m < n + 1 by omega)]
        · rw [if_neg (show ¬ m < n from q), if_neg (show ¬ m < n + 1 by omega)]
theorem mcn_hi {s m c : Nat} (h : s < 2 ^ c) : ∀ d, mcn s m (c + d) = mcn s m c := by
  intro d
  induction d with
  | zero => rfl
  | succ d ih =>
    show mcn s m (c + d) + (if c + d ≠ m ∧ s.testBit (c + d) = true then 1 else 0) = _
    rw [ih, if_neg (show ¬ (c + d ≠ m ∧ s.testBit (c + d) = true) from fun z => by rw [tb_hi h (by omega)] at z; exact absurd z.2 (by decide))]
    rfl
theorem say_cnt {c B m : Nat} {S : mS} (hJ : IJ c S) (hN : NB c S B) (hm : m < c) : (gN (msay S m)).length + gG (msay S m) 3 = (gN S).length + gG S 3 + (mbits (gM S m 4) 24 - 1) ∧ 1 ≤ mbits (gM S m 4) 24 := by
  obtain ⟨F, W, G, hP, -, h⟩ := hJ
  have hb := (hP m hm).1.2.2.2.2.1
  have hs := (h.1 m hm).1.1
  have hc := hN.c6
  have e1 := mcn_n hb 24
  rw [if_pos (show m < 24 by omega)] at e1
  have e3 : mcn (gM S m 4) m 24 = mcn (gM S m 4) m c := by
    have := mcn_hi (m := m) hs (24 - c)
    rw [show c + (24 - c) = 24 by omega] at this
    exact this
  have step : ∀ (n : Nat) (V : mS), gM V m 4 = gM S m 4 → (gN (msayF m (4 * m + gM S m 7) n V)).length + gG (msayF m (4 * m + gM S m 7) n V) 3 = (gN V).length + gG V 3 + (if n ≠ m ∧ (gM S m 4).testBit n = true then 1 else 0) := fun n V hV => by
    unfold msayF
    rw [hV]
    by_cases q : n ≠ m ∧ (gM S m 4).testBit n = true
    · rw [if_pos q, if_pos q, send_cnt]
    · rw [if_neg q, if_neg q]; rfl
  have key : ∀ n, gM (mup (msayF m (4 * m + gM S m 7)) n (msay0 S m)) = gM (msay0 S m) ∧ (gN (mup (msayF m (4 * m + gM S m 7)) n (msay0 S m))).length + gG (mup (msayF m (4 * m + gM S m 7)) n (msay0 S m)) 3 = (gN S).length + gG S 3 + mcn (gM S m 4) m n := by
    intro n
    induction n with
    | zero => exact ⟨rfl, rfl⟩
    | succ n ih =>
      obtain ⟨i1, i2⟩ := ih
      have i4 : gM (mup (msayF m (4 * m + gM S m 7)) n (msay0 S m)) m 4 = gM S m 4 := by rw [i1]; exact say0_o (Or.inr (by decide))
      refine ⟨sayF_same.1.trans i1, ?_⟩
      have := step n _ i4
      show (gN (msayF m (4 * m + gM S m 7) n (mup (msayF m (4 * m + gM S m 7)) n (msay0 S m)))).length + gG (msayF m (4 * m + gM S m 7) n (mup (msayF m (4 * m + gM S m 7)) n (msay0 S m))) 3 = _
      rw [this, i2, mcn]
      omega
  have := (key (gG S 0)).2
  rw [hN.c0] at this
  refine ⟨?_, by omega⟩
  show (gN (mup (msayF m (4 * m + gM S m 7)) (gG S 0) (msay0 S m))).length + gG (mup (msayF m (4 * m + gM S m 7)) (gG S 0) (msay0 S m)) 3 = _
  rw [hN.c0]
  omega
theorem KC.say1 {B c m : Nat} {S : mS} (h : KC B (c, S)) (hm : m < c) (h1 : gM S m 1 = 0) (h7 : gM S m 7 < 4) : KC (B + 70000) (c, msay S m) := by
  have := h.say (a := m)
  unfold kSay at this
  rw [if_pos ⟨hm, h1, h7⟩] at this
  exact this
theorem t_undo1 {t : mN} {n : Nat} {E : List mC} {sl : Nat → Option mC} {X Y : mC} : gP [eIS] (g_undo ((t, n), X, E ++ [Y], sl)) = (nI E.length, ((t, n), Y, E, sl)) := by
  have h0 : ¬ (E ++ [Y]).length = 0 := by rw [List.length_append]; show ¬ _ + 1 = 0; omega
  show gP [eIS] (if (E ++ [Y]).length = 0 then _ else _) = _
  rw [if_neg h0, List.getLast?_concat, List.dropLast_concat]
  show (nI ((E ++ [Y]).length - 1), _) = _
  rw [List.length_append]
  rfl
theorem dr1_len {D : List mC} : (dr1 D).length ≤ D.length := by
  unfold dr1
  split
  · rw [List.length_drop]; omega
  · exact Nat.le_refl _
theorem gi_dr {B : Nat} {tn : mN × Nat} {X : mC} {D : List mC} {sl : Nat → Option mC} (h : GI B (tn, X, D, sl)) : GI B (tn, X, dr1 D, sl) := by
  refine ⟨h.1, fun Y hY => h.2.1 Y ?_, h.2.2⟩
  replace hY : Y ∈ dr1 D := hY
  unfold dr1 at hY
  split at hY
  · exact List.mem_of_mem_drop hY
  · exact hY
def sR (T : gT) (x : Nat) : gT := match T with
  | ((t, n), (c, S), D, sl) => if gM S (x % c) 1 = 0 ∧ gM S (x % c) 7 < 4 then ((t, n), (c, S), dr1 D, sl) else ((t, n), (c, S), D, sl)
