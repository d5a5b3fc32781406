
/-! WHAT HOLDS IN EACH CLUB: the facts that the law asks for -/
theorem tb_hi {a n : Nat} (h : a < 2 ^ n) {j : Nat} (hj : n ≤ j) : a.testBit j = false := Nat.testBit_lt_two_pow (Nat.lt_of_lt_of_le h (Nat.pow_le_pow_right (by decide) hj))
theorem mbits_or {a k : Nat} : ∀ n, mbits (a ||| 1 <<< k) n = mbits a n + (if k < n ∧ a.testBit k = false then 1 else 0) := by
  intro n
  induction n with
  | zero => rw [if_neg (by omega)]; rfl
  | succ n ih =>
    have e : (a ||| 1 <<< k).testBit n = (a.testBit n || decide (k = n)) := by rw [Nat.testBit_or, tb_one]
    rw [mbits, mbits, ih, e]
    by_cases q : k = n
    · subst q
      rw [if_neg (by omega : ¬ (k < k ∧ _))]
      cases h : a.testBit k <;> simp
    · have e2 : (k < n + 1 ∧ a.testBit k = false) ↔ (k < n ∧ a.testBit k = false) := by constructor <;> (rintro ⟨p1, p2⟩; exact ⟨by omega, p2⟩)
      rw [decide_eq_false q, Bool.or_false]
      by_cases p : k < n ∧ a.testBit k = false
      · rw [if_pos p, if_pos (e2.mpr p)]; omega
      · rw [if_neg p, if_neg (fun z => p (e2.mp z))]; omega
/-- of the first n members, how many are in one roll with one, none of them gone -/
def mgc (S : mS) (m : Nat) : Nat → Nat
  | 0 => 0
  | k + 1 => mgc S m k + (if (gM S k 2 = gM S m 2 ∧ gM S k 3 = gM S m 3) ∧ gM S m 1 < 2 ∧ gM S k 1 < 2 then 1 else 0)
/-- of the first n members' groups, how many are in the greatest -/
def mmost (S : mS) (c : Nat) : Nat → Nat
  | 0 => 0
  | m + 1 => if mmost S c m < mgc S m c then mgc S m c else mmost S c m
theorem mgrp_tb {S : mS} {m j : Nat} : ∀ n, (mgrp S m n).testBit j = true → j < n ∧ gM S j 1 ≠ 2 := by
  intro n
  induction n with
  | zero => intro h; rw [mgrp, Nat.zero_testBit] at h; exact absurd h (by decide)
  | succ n ih =>
    intro h
    rw [mgrp] at h
    split at h
    · rename_i q
      rw [tb_or] at h
      rcases h with h | h
      · exact ⟨by have := (ih h).1; omega, (ih h).2⟩
      · subst h; exact ⟨Nat.lt_succ_self _, q.1.2⟩
    · rw [Nat.or_zero] at h; exact ⟨by have := (ih h).1; omega, (ih h).2⟩
theorem mgrp_n {c B : Nat} {S : mS} (hN : NB c S B) (m : Nat) : ∀ n, n ≤ 24 → mbits (mgrp S m n) 24 = mgc S m n := by
  intro n
  induction n with
  | zero => intro _; exact mbits_0
  | succ n ih =>
    intro hn
    have h1 := hN.m1 m
    have h2 := hN.m1 n
    rw [mgrp, mgc, ← ih (by omega)]
    by_cases q : (gM S m 1 ≠ 2 ∧ gM S n 1 ≠ 2) ∧ gM S n 2 = gM S m 2 ∧ gM S n 3 = gM S m 3
    · have e : (mgrp S m n).testBit n = false := by
        cases h : (mgrp S m n).testBit n with
        | false => rfl
        | true => have := (mgrp_tb n h).1; omega
      rw [if_pos q, if_pos ⟨q.2, by omega, by omega⟩, mbits_or, if_pos ⟨by omega, e⟩]
    · rw [if_neg q, if_neg (fun z => q ⟨⟨by omega, by omega⟩, z.1⟩), Nat.or_zero, Nat.add_zero]
theorem mbest_n {c B : Nat} {S : mS} (hN : NB c S B) : ∀ k, mbits (mbest c S k) 24 = mmost S c k := by
  have hc := hN.c6
  intro k
  induction k with
  | zero => exact mbits_0
  | succ k ih =>
    rw [mbest, mmost, ← ih, ← mgrp_n hN k c (by omega)]
    split <;> rfl
theorem mgc_le {S : mS} {m : Nat} : ∀ n, mgc S m n ≤ n := by
  intro n
  induction n with
  | zero => exact Nat.le_refl _
  | succ n ih => rw [mgc]; split <;> omega
theorem mmost_le {S : mS} {c : Nat} : ∀ n, mmost S c n ≤ c := by
  intro n
  induction n with
  | zero => exact Nat.zero_le _
  | succ n ih =>
    have := mgc_le (S := S) (m := n) c
    rw [mmost]; split <;> omega
theorem mwho_tb {S : mS} {is j : Nat} : ∀ n, (mwho S is n).testBit j = true → gM S j 1 = is := by
  intro n
  induction n with
  | zero => intro h; rw [mwho, Nat.zero_testBit] at h; exact absurd h (by decide)
  | succ n ih =>
    intro h
    rw [mwho] at h
    split at h
    · rename_i q
      rw [tb_or] at h
      rcases h with h | h
      · exact ih h
      · subst h; exact q
    · rw [Nat.or_zero] at h; exact ih h
theorem best_gone {c : Nat} {S : mS} : ∀ k, mbest c S k &&& mwho S 2 c = 0 := by
  have h0 : ∀ k j, (mbest c S k).testBit j = true → gM S j 1 ≠ 2 := by
    intro k
    induction k with
    | zero => intro j h; rw [mbest, Nat.zero_testBit] at h; exact absurd h (by decide)
    | succ k ih =>
      intro j h
      rw [mbest] at h
      split at h
      · exact (mgrp_tb c h).2
      · exact ih j h
  intro k
  apply Nat.eq_of_testBit_eq
  intro j
  rw [Nat.testBit_and, Nat.zero_testBit]
  cases h1 : (mbest c S k).testBit j with
  | false => rfl
  | true =>
    cases h2 : (mwho S 2 c).testBit j with
    | false => rfl
    | true => exact absurd (mwho_tb c h2) (h0 k j h1)
/-! comparisons of what is told of sessions -/
theorem cmpL_le {S : mS} {a d k : Nat} : ∀ l, mcmpL S a d 1 k l ≤ mcmpL S a d 0 k l := by
  intro l
  induction l with
  | zero => exact Nat.le_refl _
  | succ l ih =>
    rw [mcmpL, mcmpL]
    by_cases q : msame S a d k l 1
    · rw [if_pos q, if_pos ⟨q.1, Or.inl rfl⟩]; omega
    · rw [if_neg q]; omega
theorem cmp_le {S : mS} {a d : Nat} : mcmp S a d 1 ≤ mcmp S a d 0 := by
  have : ∀ k, mcmpK S a d 1 k ≤ mcmpK S a d 0 k := by
    intro k
    induction k with
    | zero => exact Nat.le_refl _
    | succ k ih =>
      have := cmpL_le (S := S) (a := a) (d := d) (k := k) (gH S d).length
      rw [mcmpK, mcmpK]; omega
  exact this _
def mK2 (S : mS) (a d L : Nat) : Nat → Nat
  | 0 => 0
  | k + 1 => mK2 S a d L k + mcmpL S a d 0 k L
theorem mK2_s {S : mS} {a d L : Nat} : ∀ K, mK2 S a d (L + 1) K = mK2 S a d L K + mcmpL S d a 0 L K := by
  intro K
  induction K with
  | zero => rfl
  | succ K ih =>
    have e : (if msame S a d K L 0 then 1 else 0) = (if msame S d a L K 0 then 1 else 0) := by
      by_cases q : msame S a d K L 0
      · rw [if_pos q, if_pos ⟨⟨q.1.1.symm, q.1.2.symm⟩, Or.inl rfl⟩]
      · rw [if_neg q, if_neg (fun z => q ⟨⟨z.1.1.symm, z.1.2.symm⟩, Or.inl rfl⟩)]
    rw [mK2, ih, mcmpL, mK2, mcmpL, e]
    omega
theorem mK2_0 {S : mS} {a d : Nat} : ∀ K, mK2 S a d 0 K = 0 := by
  intro K
  induction K with
  | zero => rfl
  | succ K ih => rw [mK2, ih]; rfl
theorem mK2_sym {S : mS} {a d : Nat} (K : Nat) : ∀ L, mK2 S a d L K = mK2 S d a K L := by
  intro L
  induction L with
  | zero => rw [mK2_0]; rfl
  | succ L ih => rw [mK2_s, ih, mK2]
theorem cmp_sym {S : mS} {a d : Nat} : mcmp S a d 0 = mcmp S d a 0 := by
  have : ∀ x y K, mcmpK S x y 0 K = mK2 S x y (gH S y).length K := by
    intro x y K
    induction K with
    | zero => rfl
    | succ K ih => rw [mcmpK, mK2, ih]
  unfold mcmp
  rw [this, this, mK2_sym]
/-- the numbers of the rolls that one was in rise -/
theorem ch_lt {G : Nat → Nat → Nat → Nat → Nat} {S : mS} {L : List mT} {p : Nat × Nat} (h : uC G S L p) : ∀ (j k : Nat), k + j < L.length → 0 < j → (L.getD k t0).1 < (L.getD (k + j) t0).1 := by
  intro j
  induction j with
  | zero => intro k _ h0; omega
  | succ j ih =>
    intro k hk _
    have h1 := (h.2 (k + j) (by omega)).1
    have e : (nxt L p (k + j)).1 = (L.getD (k + j + 1) t0).1 := by unfold nxt; rw [if_pos (by omega)]
    rw [e] at h1
    rcases Nat.eq_zero_or_pos j with q | q
    · subst q; exact h1
    · exact Nat.lt_trans (ih k (by omega) q) h1
theorem ch_last {G : Nat → Nat → Nat → Nat → Nat} {S : mS} {L : List mT} {p : Nat × Nat} (h : uC G S L p) {k : Nat} (hk : k < L.length) : (L.getD k t0).1 < p.1 := by
  have h1 := (h.2 (L.length - 1) (by omega)).1
  have e : nxt L p (L.length - 1) = p := by unfold nxt; rw [if_neg (by omega)]
  rw [e] at h1
  rcases Nat.lt_or_ge k (L.length - 1) with q | q
  · have := ch_lt h (L.length - 1 - k) k (by omega) (by omega)
    rw [show k + (L.length - 1 - k) = L.length - 1 by omega] at this
    omega
  · rw [show k = L.length - 1 by omega]; exact h1
theorem ch_eq {G : Nat → Nat → Nat → Nat → Nat} {S : mS} {L : List mT} {p : Nat × Nat} (h : uC G S L p) {k l : Nat} (hk : k < L.length) (hl : l < L.length) (e : (L.getD k t0).1 = (L.getD l t0).1) : k = l := by
  rcases Nat.lt_trichotomy k l with q | q | q
  · have := ch_lt h (l - k) k (by omega) (by omega)
    rw [show k + (l - k) = l by omega] at this; omega
  · exact q
  · have := ch_lt h (k - l) l (by omega) (by omega)
    rw [show l + (k - l) = k by omega] at this; omega
theorem cmp_self0 {c a : Nat} {S : mS} (hJ : IJ c S) (ha : a < c) : mcmp S a a 0 = (gH S a).length := by
  obtain ⟨F, W, G, -, -, h⟩ := hJ
  have hC := (h.1 a ha).2.2.2.2
  have h1 : ∀ k, k < (gH S a).length → ∀ l, l ≤ (gH S a).length → mcmpL S a a 0 k l = if k < l then 1 else 0 := by
    intro k hk l
    induction l with
    | zero => intro _; rfl
    | succ l ih =>
      intro hl
      rw [mcmpL, ih (by omega)]
      by_cases q : k = l
      · subst q
        rw [if_neg (by omega), if_pos ⟨⟨rfl, rfl⟩, Or.inl rfl⟩, if_pos (by omega)]
      · rw [if_neg (fun z : msame S a a k l 0 => q (ch_eq hC hk (by omega) z.1.1))]
        by_cases q2 : k < l
        · rw [if_pos q2, if_pos (by omega)]
        · rw [if_neg q2, if_neg (by omega)]
  have h2 : ∀ k, k ≤ (gH S a).length → mcmpK S a a 0 k = k := by
    intro k
    induction k with
    | zero => intro _; rfl
    | succ k ih =>
      intro hk
      rw [mcmpK, ih (by omega), h1 k (by omega) _ (Nat.le_refl _), if_pos (by omega)]
  exact h2 _ (Nat.le_refl _)
theorem cmp_self1 {c a : Nat} {S : mS} (hJ : IJ c S) (ha : a < c) : mcmp S a a 1 = 0 := by
  obtain ⟨F, W, G, -, -, h⟩ := hJ
  have hC := (h.1 a ha).2.2.2.2
  have h1 : ∀ k, k < (gH S a).length → ∀ l, l ≤ (gH S a).length → mcmpL S a a 1 k l = 0 := by
    intro k hk l
    induction l with
    | zero => intro _; rfl
    | succ l ih =>
      intro hl
      rw [mcmpL, ih (by omega), if_neg (fun z : msame S a a k l 1 => by
        have := ch_eq hC hk (by omega) z.1.1
        subst this
        exact z.2.elim (fun q => absurd q (by decide)) (fun q => q rfl))]
  have h2 : ∀ k, k ≤ (gH S a).length → mcmpK S a a 1 k = 0 := by
    intro k
    induction k with
    | zero => intro _; rfl
    | succ k ih =>
      intro hk
      rw [mcmpK, ih (by omega), h1 k (by omega) _ (Nat.le_refl _)]
  exact h2 _ (Nat.le_refl _)
/-- what holds of one member -/
theorem fact_m {c B m : Nat} {S : mS} (hJ : IJ c S) (hN : NB c S B) (hm : m < c) : gM S m 4 < 1 <<< c ∧ gM S m 4 >>> m &&& 1 = 1 ∧ gM S m 5 >>> (4 * m) &&& 15 = 1 <<< gM S m 7 - 1 ∧ gM S m 2 ≤ gM S m 6 ∧ mdif (gM S m 10) (gM S m 9) = 0 ∧ (gM S m 10 = gM S m 9 → gM S m 9 = 0) ∧ (gM S m 9 = 0 → gM S m 10 = gM S m 9) ∧ (gM S m 9 ≠ 0 → gM S m 10 >>> m &&& 1 = 1 ∧ gM S m 1 = 1) ∧ (gM S m 1 = 2 → (gK S m).length = 0) ∧ (∀ k, gM S m 5 >>> (4 * k) &&& 15 ≠ 0 → gM S m 4 >>> k &&& 1 = 1) ∧ (∀ k, 0 < k → k < (gH S m).length → ((gH S m).getD (k - 1) t0).1 < ((gH S m).getD k t0).1) ∧ ∀ k, k < (gH S m).length → ((gH S m).getD k t0).1 < gM S m 2 := by
  obtain ⟨F, W, G, hP, -, h⟩ := hJ
  obtain ⟨⟨s1, s2, s3⟩, hA, hK, hW, hC⟩ := h.1 m hm
  obtain ⟨⟨b1, b2, b3, b4, b5, b6, b7, b8⟩, ha⟩ := hP m hm
  have h7 := hN.m7 m
  refine ⟨by rw [Nat.one_shiftLeft]; exact s1, tb_has.mpr b5, ?_, b1, ?_, fun e => ?_, fun e => by rw [e, (b6 e).2], fun e => ⟨tb_has.mpr (ha e).1, (hA e).2.1⟩, fun e => by rw [(b8 e).2]; rfl, fun k hk => ?_, fun k h0 hk => ?_, fun k hk => ch_last hC hk⟩
  · apply Nat.eq_of_testBit_eq
    intro j
    rw [Nat.testBit_and, Nat.testBit_shiftRight, Nat.one_shiftLeft, Nat.testBit_two_pow_sub_one, show (15 : Nat) = 2 ^ 4 - 1 from rfl, Nat.testBit_two_pow_sub_one]
    by_cases q : j < 4
    · rw [s2 j q, decide_eq_true q, Bool.and_true]
    · rw [decide_eq_false q, Bool.and_false, decide_eq_false (by omega)]
  · unfold mdif
    apply Nat.eq_of_testBit_eq
    intro j
    rw [Nat.testBit_and, Nat.testBit_xor, Nat.zero_testBit, show (16777215 : Nat) = 2 ^ 24 - 1 from rfl, Nat.testBit_two_pow_sub_one]
    cases e : (gM S m 10).testBit j with
    | false => rfl
    | true =>
      have h6 : j < 24 := by
        rcases Nat.lt_or_ge j 24 with q | q
        · exact q
        · rw [tb_hi (n := 24) (Nat.lt_of_lt_of_le (hN.m10 m) (by decide)) q] at e; exact absurd e (by decide)
      have h9 : (gM S m 9).testBit j = true := by
        by_cases q : gM S m 9 = 0
        · rw [(b6 q).2, Nat.zero_testBit] at e; exact absurd e (by decide)
        · exact (hA q).2.2.2 j e
      rw [h9, decide_eq_true h6]; rfl
  · rcases Nat.eq_zero_or_pos (gM S m 9) with q | q
    · exact q
    · exact absurd e (hA (by omega)).2.2.1
  · have : ∃ j, (gM S m 5 >>> (4 * k) &&& 15).testBit j = true := Nat.exists_testBit_of_ne_zero hk
    obtain ⟨j, hj⟩ := this
    rw [Nat.testBit_and, Nat.testBit_shiftRight, Bool.and_eq_true, show (15 : Nat) = 2 ^ 4 - 1 from rfl, Nat.testBit_two_pow_sub_one, decide_eq_true_iff] at hj
    have := s3 _ hj.1
    rw [show (4 * k + j) / 4 = k by omega] at this
    exact tb_has.mpr this
  · have := (hC.2 (k - 1) (by omega)).1
    have e : (nxt (gH S m) (gM S m 2, gM S m 3) (k - 1)).1 = ((gH S m).getD k t0).1 := by unfold nxt; rw [if_pos (by omega), show k - 1 + 1 = k by omega]
    rw [e] at this; exact this
theorem fact_set {c k m : Nat} {S : mS} (hJ : IJ c S) (hk : k < c) (hm : m < c) (e2 : gM S k 2 = gM S m 2) (e3 : gM S k 3 = gM S m 3) : gM S k 4 = gM S m 4 := by
  obtain ⟨F, W, G, hP, -, -⟩ := hJ
  rw [(hP k hk).1.2.2.2.1, (hP m hm).1.2.2.2.1, e2, e3]
def lastN (S : mS) (k : Nat) : Nat := if k = 0 then gG S 1 else ((gN S).getD (k - 1) n0) 3
/-- what holds of one note -/
theorem fact_n {c B k : Nat} {S : mS} (hJ : IJ c S) (hN : NB c S B) (hI : Iv c 1 S) (hk : k < (gN S).length) : ((gN S).getD k n0) 0 < 4 ∧ ((gN S).getD k n0) 1 < c ∧ ((gN S).getD k n0) 2 < c ∧ ((gN S).getD k n0) 1 ≠ ((gN S).getD k n0) 2 ∧ lastN S k ≤ ((gN S).getD k n0) 3 ∧ gG S 1 < ((gN S).getD k n0) 3 ∧ ((gN S).getD k n0) 3 ≤ gG S 1 + 10 ∧ ((gN S).getD k n0) 4 ≤ B := by
  obtain ⟨F, W, G, -, hQ, h⟩ := hJ
  have hx : (gN S).getD k n0 ∈ gN S := List.mem_of_getElem? (getD_some hk)
  obtain ⟨n0', n1, n2, n3, n4, -⟩ := hN.n hx
  have ht := hI.1.2.2.2.2.2 _ hx
  refine ⟨by omega, n1, n2, (hQ _ hx).1, ?_, by omega, (h.2 _ hx).2.2.2.2, n4⟩
  unfold lastN
  split
  · omega
  · have hp := List.pairwise_iff_getElem.mp hI.1.2.2.2.2.1 (k - 1) k (by omega) hk (by omega)
    rw [List.getD_eq_getElem?_getD, List.getD_eq_getElem?_getD, List.getElem?_eq_getElem (by omega : k - 1 < (gN S).length), List.getElem?_eq_getElem hk, Option.getD_some, Option.getD_some]
    exact hp
