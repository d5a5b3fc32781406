
/-! A ROLL STANDS, is told, is answered, is called -/
theorem mor_tb {num by9 j : Nat} : ∀ {l : List mT} {a : Nat}, (mor num by9 l a).testBit j = true → a.testBit j = true ∨ ∃ t, t ∈ l ∧ t.1 = num ∧ t.2.1 = by9 ∧ t.2.2 = j := by
  intro l
  induction l with
  | nil => intro a h; exact Or.inl h
  | cons t l ih =>
    intro a h
    replace h : (mor num by9 l (if t.1 = num ∧ t.2.1 = by9 then a ||| 1 <<< t.2.2 else a)).testBit j = true := h
    rcases ih h with q | ⟨u, u1, u2⟩
    · by_cases e : t.1 = num ∧ t.2.1 = by9
      · rw [if_pos e, tb_or] at q
        rcases q with q | q
        · exact Or.inl q
        · exact Or.inr ⟨t, List.mem_cons_self, e.1, e.2, q.symm⟩
      · rw [if_neg e] at q; exact Or.inl q
    · exact Or.inr ⟨u, List.mem_cons_of_mem _ u1, u2⟩
/-- what those have heard, of the first n who answered, who came from one roll -/
def hsum (S : mS) (m a b : Nat) : Nat → Nat
  | 0 => 0
  | k + 1 => hsum S m a b k ||| (if (gM S m 10).testBit k = true ∧ gM S m (12 + 3 * k) = a ∧ gM S m (13 + 3 * k) = b then gM S m (14 + 3 * k) else 0)
theorem mhb_sum {S : mS} {m one : Nat} : ∀ n, mhb S m one n = hsum S m (gM S m (12 + 3 * one)) (gM S m (13 + 3 * one)) n := by
  intro n
  induction n with
  | zero => rfl
  | succ n ih => rw [mhb, hsum, ih]
theorem mhb_same {S S' : mS} {m one : Nat} (e : ∀ w, 9 < w → gM S' m w = gM S m w) : ∀ n, mhb S' m one n = mhb S m one n := by
  intro n
  induction n with
  | zero => rfl
  | succ n ih => rw [mhb, mhb, ih, e 10 (by decide), e (12 + 3 * n) (by omega), e (12 + 3 * one) (by omega), e (13 + 3 * n) (by omega), e (13 + 3 * one) (by omega), e (14 + 3 * n) (by omega)]
/-- notes that are sent one after the other -/
theorem ups_N {A : mS} {f : Nat → mS → mS} {P : mN → Prop} (n : Nat) (hf : ∀ k S, k < n → gM S = gM A → gG S 1 = gG A 1 → (gM (f k S) = gM S ∧ gK (f k S) = gK S ∧ gH (f k S) = gH S ∧ gG (f k S) 1 = gG S 1 ∧ ∀ x, x ∈ gN (f k S) → x ∈ gN S ∨ P x)) {S : mS} (e : gM S = gM A) (e1 : gG S 1 = gG A 1) : gM (mup f n S) = gM A ∧ gK (mup f n S) = gK S ∧ gH (mup f n S) = gH S ∧ gG (mup f n S) 1 = gG A 1 ∧ ∀ x, x ∈ gN (mup f n S) → x ∈ gN S ∨ P x := by
  induction n with
  | zero => exact ⟨e, rfl, rfl, e1, fun x hx => Or.inl hx⟩
  | succ n ih =>
    obtain ⟨a1, a2, a3, a4, a5⟩ := ih (fun k S hk => hf k S (by omega))
    obtain ⟨b1, b2, b3, b4, b5⟩ := hf n (mup f n S) (Nat.lt_succ_self n) a1 a4
    exact ⟨b1.trans a1, b2.trans a2, b3.trans a3, b4.trans a4, fun x hx => (b5 x hx).elim (fun q => a5 x q) Or.inr⟩
theorem told_e5 {S : mS} {m num by9 set heard : Nat} (hp : ¬ (num < gM S m 6 ∨ num ≤ gM S m 2)) : gM (mtold S m num by9 set heard) m 5 = mor num by9 (gK S m) 0 ∧ gM (mtold S m num by9 set heard) m 7 = 0 ∧ gK (mtold S m num by9 set heard) m = (gK S m).filter (fun t => decide (num < t.1)) ∧ gH (mtold S m num by9 set heard) m = (if (gH S m).length = 5 then (gH S m).drop 1 else gH S m) ++ [(gM S m 2, gM S m 3, heard)] ∧ ∀ w, 9 < w → gM (mtold S m num by9 set heard) m w = gM S m w := by
  unfold mtold
  rw [if_neg hp]
  refine ⟨by simp [sK, sM, menter, mover, sH, gM, gK], by simp [sK, sM, menter, mover, sH, gM], by simp [sK, sM, menter, mover, sH, gK], by simp [sK, sM, menter, mover, sH, gM, gH], fun w hw => ?_⟩
  simp [sK, sM, menter, mover, sH, gM, show ¬ w = 1 by omega, show ¬ w = 2 by omega, show ¬ w = 3 by omega, show ¬ w = 4 by omega, show ¬ w = 5 by omega, show ¬ w = 7 by omega]
theorem told_oH {S : mS} {m k num by9 set heard : Nat} (h : k ≠ m) : gH (mtold S m num by9 set heard) k = gH S k := by
  unfold mtold
  split
  · rfl
  · simp [sK, sM, menter, mover, sH, gH, h]
theorem uS.enter {F : Nat → Nat → Nat} {c m num by9 set : Nat} {S S' : mS} (hK : uK F c S m) (e4 : gM S' m 4 = set) (e5 : gM S' m 5 = mor num by9 (gK S m) 0) (e7 : gM S' m 7 = 0) (hs : set < 2 ^ c) (hF : set = F num by9) : uS c S' m := by
  refine ⟨by rw [e4]; exact hs, fun j hj => ?_, fun j hj => ?_⟩
  · rw [e5, e7, decide_eq_false (Nat.not_lt_zero j)]
    cases q : (mor num by9 (gK S m) 0).testBit (4 * m + j) with
    | false => rfl
    | true =>
      rcases mor_tb q with z | ⟨t, t1, t2, t3, t4⟩
      · rw [Nat.zero_testBit] at z; exact absurd z (by decide)
      · have := (hK t t1).1
        exact absurd (show t.2.2 / 4 = m by omega) this
  · rw [e5] at hj
    rw [e4]
    rcases mor_tb hj with z | ⟨t, t1, t2, t3, t4⟩
    · rw [Nat.zero_testBit] at z; exact absurd z (by decide)
    · have := (hK t t1).2.2.2
      rw [t2, t3, t4] at this
      rw [hF]; exact this
/-- the roll stands -/
theorem JX.stands {F W : Nat → Nat → Nat} {G : Nat → Nat → Nat → Nat → Nat} {c m : Nat} {S : mS} (h : JX F W G c S m) (hP : MP F c S) (hQ : NP F S) (hcc : ∀ x, x ∈ gN S → x 1 < c ∧ x 2 < c) (hB : ∀ k, gM S k 0 ≤ 9) (hm : m < c) (h9 : gM S m 9 ≠ 0) (hA : gM S m 10 = gM S m 9) (h2c : gM S m 9 < 2 ^ c) (hK : uK F c S m) (hW : uW W S m) (hH : uH G S m) : ∃ G', JV F W G' c (mstands S m) := by
  obtain ⟨⟨b1, b2, b3, b4, b5, b6, b7, b8⟩, ha⟩ := hP m hm
  obtain ⟨d1, d2, d3, d4⟩ := b7 h9
  obtain ⟨a1, a2⟩ := ha h9
  have hp : ¬ (gM S m 8 < gM S m 6 ∨ gM S m 8 ≤ gM S m 2) := by omega
  have hle := (stands_all hP hQ hm h9 hA).2.2
  unfold mstands at hle ⊢
  generalize hT : mtold (sG S 6 (gG S 6 + 1)) m (gM S m 8) m (gM S m 9) (mheard S m m) = T at hle ⊢
  have hv := told_v (S := sG S 6 (gG S 6 + 1)) (m := m) (num := gM S m 8) (by9 := m) (set := gM S m 9) (heard := mheard S m m) hp
  have hu := told_e5 (S := sG S 6 (gG S 6 + 1)) (m := m) (num := gM S m 8) (by9 := m) (set := gM S m 9) (heard := mheard S m m) hp
  rw [hT] at hv hu
  replace hv : gM T m 1 = 0 ∧ gM T m 2 = gM S m 8 ∧ gM T m 3 = m ∧ gM T m 4 = gM S m 9 ∧ gM T m 6 = gM S m 6 ∧ gM T m 8 = gM S m 8 ∧ gM T m 9 = gM S m 9 ∧ gM T m 10 = gM S m 10 := hv
  replace hu : gM T m 5 = mor (gM S m 8) m (gK S m) 0 ∧ gM T m 7 = 0 ∧ gK T m = (gK S m).filter (fun t => decide (gM S m 8 < t.1)) ∧ gH T m = (if (gH S m).length = 5 then (gH S m).drop 1 else gH S m) ++ [(gM S m 2, gM S m 3, mheard S m m)] ∧ ∀ w, 9 < w → gM T m w = gM S m w := hu
  obtain ⟨v1, v2, v3, v4, v6, v8, v9, v10⟩ := hv
  obtain ⟨u5, u7, uKe, uHe, u12⟩ := hu
  have ho : ∀ k, k ≠ m → gM T k = gM S k ∧ gK T k = gK S k ∧ gH T k = gH S k := fun k hk => by
    rw [← hT]; exact ⟨(told_o (S := sG S 6 (gG S 6 + 1)) hk).1, (told_o (S := sG S 6 (gG S 6 + 1)) hk).2, told_oH (S := sG S 6 (gG S 6 + 1)) hk⟩
  have hNT : gN T = gN S := by rw [← hT, told_N]; rfl
  have hGT : gG T 1 = gG S 1 := by rw [← hT, told_G]; rfl
  have h0 : ∀ k, gM T k 0 ≤ 9 := fun k => by
    by_cases e : k = m
    · subst e
      rw [← hT]
      unfold mtold
      split
      · exact hB k
      · simp [sK, sM, menter, mover, sH, gM]; exact hB k
    · rw [(ho k e).1]; exact hB k
  obtain ⟨U1, U2, U3, U4, U5⟩ := ups_N (A := T) (f := mstandsF m (gM S m 8) (gM S m 9)) (P := fun x => ∃ k t, k ≠ m ∧ (gM S m 9).testBit k = true ∧ t ≤ gG T 1 + 10 ∧ x = mnote 3 m k t (gM S m 8) m (mheard S m k) (gM T m 2) (gM T m 3) (gM T m 4)) (gG S 0) (fun k S' _ e e1 => by
    unfold mstandsF
    split
    · rename_i q
      refine ⟨msend_M, msend_K, msend_H, msend_G (by decide), fun x hx => (msend_N hx).imp_right (fun z => ⟨k, gG S' 1 + mfar S' m k, q.1, q.2, ?_, ?_⟩)⟩
      · have := far10 (S := S') (fun j => by rw [e]; exact h0 j) m k
        rw [e1]; omega
      · rw [z, e, show mheard S' m k = mheard S m k from mhb_same (fun w hw => by rw [e]; exact u12 w hw) 6]
    · exact ⟨rfl, rfl, rfl, rfl, fun x hx => Or.inl hx⟩) (S := T) rfl rfl
  generalize mup (mstandsF m (gM S m 8) (gM S m 9)) (gG S 0) T = U at U1 U2 U3 U4 U5 hle ⊢
  have hw : ∀ k w, k ≠ m ∨ (w ≠ 8 ∧ w ≠ 9 ∧ w ≠ 10) → gM (mnone U m) k w = gM T k w := fun k w q => by rw [none_o q, U1]
  refine ⟨fun a b n d => if n = gM S m 8 ∧ d = m then hsum S m a b 6 else G a b n d, ?_⟩
  have hGo : ∀ a b n d, pOK S d n → (if n = gM S m 8 ∧ d = m then hsum S m a b 6 else G a b n d) = G a b n d := fun a b n d q => if_neg (fun z => by
    rw [z.2, z.1] at q; exact h9 (q.2 d1.symm))
  have hwm := hW h9 m a1
  have hpm : pOK (mnone U m) m (gM S m 8) := ⟨by rw [hw m 6 (Or.inr (by decide)), v6, d1]; exact Nat.le_refl _, fun _ => none_0.2.1⟩
  refine JX.all (m := m) (h.step (fun k hk _ => hP k hk) hQ hcc hle (fun k e => ⟨funext (fun w => by rw [hw k w (Or.inl e), (ho k e).1]), by rw [none_K, U2, (ho k e).2.1], by show gH U k = _; rw [U3, (ho k e).2.2]⟩) (fun _ _ _ _ => rfl) (fun _ _ _ => rfl) hGo (Or.inr (Or.inr ⟨by rw [hw m 6 (Or.inr (by decide)), v6], ?_, fun B q1 q2 => ?_⟩)) (fun q => absurd none_0.2.1 q) (fun x hx => ?_) (by show gG S 1 ≤ gG U 1; rw [U4, hGT]; exact Nat.le_refl _)) ⟨?_, fun q => absurd none_0.2.1 q, ?_, fun q => absurd none_0.2.1 q, ?_⟩
  · rw [hw m 6 (Or.inr (by decide)), hw m 2 (Or.inr (by decide)), v6, v2, d1]; exact Nat.le_refl _
  · rw [← d1, hwm.1] at q1; exact absurd q1.symm q2
  · replace hx : x ∈ gN U := hx
    rcases U5 x hx with q | ⟨k, t, k1, k2, k3, rfl⟩
    · exact Or.inl (by rw [← hNT]; exact q)
    · refine Or.inr ⟨fun z => absurd (show (3 : Nat) = 0 from z) (by decide), fun z => absurd (show (3 : Nat) = 1 from z) (by decide), fun z => absurd (show (3 : Nat) = 2 from z) (by decide), fun _ => ⟨?_, ?_, hpm, fun g6 g2 => ?_⟩, ?_⟩
      · show gM T m 4 < 2 ^ c
        rw [v4]; exact h2c
      · exact (hW h9 k (by rw [hA]; exact k2)).1
      · replace g6 : gM (mnone U m) k 6 = gM S m 8 := g6
        rw [hw k 6 (Or.inl k1), (ho k k1).1] at g6
        obtain ⟨-, e2, e3⟩ := (hW h9 k (by rw [hA]; exact k2)).2 g6
        show mheard S m k = if gM S m 8 = gM S m 8 ∧ m = m then hsum S m (gM (mnone U m) k 2) (gM (mnone U m) k 3) 6 else _
        rw [if_pos ⟨rfl, rfl⟩, hw k 2 (Or.inl k1), hw k 3 (Or.inl k1), (ho k k1).1, ← e2, ← e3]
        exact mhb_sum 6
      · show t ≤ gG U 1 + 10
        rw [U4]; exact k3
  · exact uS.enter hK (by rw [hw m 4 (Or.inr (by decide)), v4]) (by rw [hw m 5 (Or.inr (by decide)), u5]) (by rw [hw m 7 (Or.inr (by decide)), u7]) h2c (by rw [d1]; exact d3)
  · refine uK.of (S := S) hK (fun t ht => ?_) hle (fun _ _ _ _ => rfl)
    rw [none_K, U2, uKe] at ht
    exact (List.mem_filter.mp ht).1
  · have eH : gH (mnone U m) m = (if (gH S m).length = 5 then (gH S m).drop 1 else gH S m) ++ [(gM S m 2, gM S m 3, mheard S m m)] := by
      show gH U m = _
      rw [U3, uHe]
    unfold uH
    rw [eH, hw m 2 (Or.inr (by decide)), hw m 3 (Or.inr (by decide)), v2, v3]
    obtain ⟨-, e2, e3⟩ := hwm.2 d1.symm
    refine uC.over (G := G) (S := S) (p := (gM S m 2, gM S m 3)) (q := (gM S m 8, m)) hH hle hGo (by show gM S m 2 < gM S m 8; omega) hpm ?_
    show mheard S m m = if gM S m 8 = gM S m 8 ∧ m = m then hsum S m (gM S m 2) (gM S m 3) 6 else _
    rw [if_pos ⟨rfl, rfl⟩]
    have := mhb_sum (S := S) (m := m) (one := m) 6
    rw [e2, e3] at this
    exact this
/-- that a roll stands is told -/
theorem JV.told {F W : Nat → Nat → Nat} {G : Nat → Nat → Nat → Nat → Nat} {c : Nat} {S : mS} {x : mN} (h : JV F W G c S) (hP : MP F c S) (hQ : NP F S) (hcc : ∀ x, x ∈ gN S → x 1 < c ∧ x 2 < c) (hx : uN F W G c S x) (hn : nOK F S x) (h0 : x 0 = 3) (h1 : x 1 < c) (hc : x 2 < c) : JV F W G c (mtold S (x 2) (x 4) (x 5) (x 9) (x 6)) := by
  obtain ⟨a1, a2, a3, a4⟩ := hx.2.2.2.1 h0
  obtain ⟨e1, e2, e3, e4, e5⟩ := hn.2.2.2 h0
  obtain ⟨k1, k2, k3, k4, k5⟩ := h.1 _ hc
  by_cases hp : x 4 < gM S (x 2) 6 ∨ x 4 ≤ gM S (x 2) 2
  · unfold mtold; rw [if_pos hp]; exact h
  · have e6 : gM S (x 2) 6 = x 4 := by have := e1.1; omega
    have e9 := e1.2 e6
    obtain ⟨v1, v2, v3, v4, v6, v8, v9, v10⟩ := told_v (S := S) (by9 := x 5) (set := x 9) (heard := x 6) hp
    obtain ⟨u5, u7, uKe, uHe, u12⟩ := told_e5 (S := S) (by9 := x 5) (set := x 9) (heard := x 6) hp
    have h9 : gM (mtold S (x 2) (x 4) (x 5) (x 9) (x 6)) (x 2) 9 = 0 := v9.trans e9
    refine h.step (m := x 2) hP hQ hcc told_le (fun k e => ⟨(told_o e).1, (told_o e).2, told_oH e⟩) (fun _ _ _ _ => rfl) (fun _ _ _ => rfl) (fun _ _ _ _ _ => rfl) ⟨uS.enter k3 v4 u5 u7 a1 e3, fun q => absurd h9 q, k3.of (fun t ht => by rw [uKe] at ht; exact (List.mem_filter.mp ht).1) told_le (fun _ _ _ _ => rfl), fun q => absurd h9 q, ?_⟩ (Or.inr (Or.inr ⟨v6, by rw [v6, v2, e6]; exact Nat.le_refl _, fun B q1 q2 q3 q4 => ?_⟩)) (fun q => absurd h9 q) (fun y hy => Or.inl (by rw [told_N] at hy; exact hy)) (by rw [told_G]; exact Nat.le_refl _)
    · unfold uH
      rw [uHe, v2, v3]
      exact uC.over (p := (gM S (x 2) 2, gM S (x 2) 3)) (q := (x 4, x 5)) k5 told_le (fun _ _ _ _ _ => rfl) (by show gM S (x 2) 2 < x 4; omega) (a3.mono told_le) (a4 e6 (by omega))
    · rw [e6, a2] at q1
      subst q1
      have := (hP (x 5) (by rw [e2]; exact h1)).1.2.2.2.2.2.2.1 q3
      exact q3 (a3.2 (by rw [← this.1, q4, e6]))
theorem put_w {S : mS} {m frm num by9 heard w : Nat} (h : 11 < w) : gM (mputA S m frm num by9 heard) m w = if w = 14 + 3 * frm then heard else if w = 13 + 3 * frm then by9 else if w = 12 + 3 * frm then num else gM S m w := by
  simp [mputA, sM, gM, show ¬ w = 10 by omega]
/-- an answer comes -/
theorem JV.ans {F W : Nat → Nat → Nat} {G : Nat → Nat → Nat → Nat → Nat} {c m frm num by9 heard : Nat} {S : mS} (h : JV F W G c S) (hx : MPx F c S m) (hQ : NP F S) (hcc : ∀ x, x ∈ gN S → x 1 < c ∧ x 2 < c) (hB : ∀ k, gM S k 0 ≤ 9) (hm : m < c) (h9 : gM S m 9 ≠ 0) (hf : frm = m ∨ ((gM S m 10).testBit m = true ∧ pOK S frm (gM S m 8))) (hb : (gM S m 9).testBit frm = true) (hw : W frm (gM S m 8) = m) (hs : gM S frm 6 = gM S m 8 → gM S frm 2 < gM S m 8 ∧ num = gM S frm 2 ∧ by9 = gM S frm 3) : ∃ G', JV F W G' c (mans S m frm num by9 heard) := by
  obtain ⟨k1, k2, k3, k4, k5⟩ := h.1 m hm
  have hP1 : MP F c (mputA S m frm num by9 heard) := hx.put hm h9 hf
  have hQ1 : NP F (mputA S m frm num by9 heard) := hQ.same put_le rfl
  have ho : ∀ k w, w < 12 → w ≠ 10 → gM (mputA S m frm num by9 heard) k w = gM S k w := fun k w a b => put_o (Or.inr ⟨a, b⟩)
  have hX : JX F W G c (mputA S m frm num by9 heard) m := (h.x m).step (fun k hk e => ⟨(hx k hk).1, (hx k hk).2.1 e⟩) hQ hcc put_le (fun k e => ⟨funext (fun w => put_o (Or.inl e)), rfl, rfl⟩) (fun _ _ _ _ => rfl) (fun _ _ _ => rfl) (fun _ _ _ _ _ => rfl) (Or.inl ⟨ho m 6 (by decide) (by decide), ho m 2 (by decide) (by decide), ho m 3 (by decide) (by decide)⟩) (fun _ => Or.inl ⟨h9, ho m 8 (by decide) (by decide)⟩) (fun y hy => Or.inl hy) (Nat.le_refl _)
  have us : uS c (mputA S m frm num by9 heard) m := k1.of (ho m 4 (by decide) (by decide)) (ho m 5 (by decide) (by decide)) (ho m 7 (by decide) (by decide))
  have uk : uK F c (mputA S m frm num by9 heard) m := k3.of (fun t ht => ht) put_le (fun _ _ _ _ => rfl)
  have uh : uH G (mputA S m frm num by9 heard) m := k5.of put_le (ho m 2 (by decide) (by decide)) (ho m 3 (by decide) (by decide)) rfl (fun _ _ _ _ _ => rfl)
  have uw : uW W (mputA S m frm num by9 heard) m := by
    intro _ j hj
    rw [put_10, tb_or] at hj
    rw [ho m 8 (by decide) (by decide), ho j 6 (by decide) (by decide), ho j 2 (by decide) (by decide), ho j 3 (by decide) (by decide), put_w (by omega), put_w (by omega)]
    by_cases ej : j = frm
    · subst ej
      refine ⟨hw, fun q => ?_⟩
      obtain ⟨q1, q2, q3⟩ := hs q
      rw [if_neg (by omega), if_neg (by omega), if_pos rfl, if_neg (by omega), if_pos rfl]
      exact ⟨q1, q2, q3⟩
    · rcases hj with z | z
      · obtain ⟨w1, w2⟩ := k4 h9 j z
        rw [if_neg (by omega), if_neg (by omega), if_neg (by omega), if_neg (by omega), if_neg (by omega), if_neg (by omega)]
        exact ⟨w1, w2⟩
      · exact absurd z ej
  obtain ⟨y1, y2, y3, y4⟩ := k2 h9
  have hb9 : ∀ j, (gM (mputA S m frm num by9 heard) m 10).testBit j = true → (gM (mputA S m frm num by9 heard) m 9).testBit j = true := fun j hj => by
    rw [ho m 9 (by decide) (by decide)]
    rw [put_10, tb_or] at hj
    rcases hj with z | z
    · exact y4 j z
    · rw [z]; exact hb
  unfold mans
  split
  · rename_i q
    exact hX.stands hP1 hQ1 hcc (fun k => by rw [ho k 0 (by decide) (by decide)]; exact hB k) hm (by rw [ho m 9 (by decide) (by decide)]; exact h9) q (by rw [ho m 9 (by decide) (by decide)]; exact y1) uk uw uh
  · rename_i q
    exact ⟨G, hX.all ⟨us, fun _ => ⟨by rw [ho m 9 (by decide) (by decide)]; exact y1, by rw [ho m 1 (by decide) (by decide)]; exact y2, q, hb9⟩, uk, uw, uh⟩⟩
