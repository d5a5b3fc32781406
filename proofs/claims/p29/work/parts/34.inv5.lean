
/-- how many notes of the time t -/
def mDn (t : Nat) (L : List mN) : Nat := L.countP (fun x : mN => x 3 == t)
def mD (S : mS) : Nat := mDn (gG S 1) (gN S)
theorem mDn_ins {t : Nat} {L : List mN} {p : Nat} {x : mN} (h : x 3 ≠ t) : mDn t (mins L p x) = mDn t L := by
  unfold mDn mins
  have e : List.countP (fun y : mN => y 3 == t) (L.take p ++ x :: L.drop p) = List.countP (fun y : mN => y 3 == t) (L.take p ++ L.drop p) := by
    rw [List.countP_append, List.countP_append, List.countP_cons_of_neg (by simpa using h)]
  rw [e, List.take_append_drop]
/-- what steps between two ticks of the clock may do -/
def mSt (A S : mS) : Prop := (∀ i, i ≠ 3 ∧ i ≠ 5 ∧ i ≠ 6 → gG S i = gG A i) ∧ mDn (gG A 1) (gN S) = mDn (gG A 1) (gN A) ∧ gG A 6 ≤ gG S 6
theorem mSt.g {A S : mS} (h : mSt A S) {i : Nat} (hi : i ≠ 3 ∧ i ≠ 5 ∧ i ≠ 6) : gG S i = gG A i := h.1 i hi
theorem mSt.d {A S : mS} (h : mSt A S) : mDn (gG A 1) (gN S) = mDn (gG A 1) (gN A) := h.2.1
theorem mSt.g6 {A S : mS} (h : mSt A S) : gG A 6 ≤ gG S 6 := h.2.2
theorem mSt.rf {A : mS} : mSt A A := ⟨fun _ _ => rfl, rfl, Nat.le_refl _⟩
theorem mSt.M {A S : mS} {m w x : Nat} (h : mSt A S) : mSt A (sM S m w x) := h
theorem mSt.K {A S : mS} {m : Nat} {l : List mT} (h : mSt A S) : mSt A (sK S m l) := h
theorem mSt.H {A S : mS} {m : Nat} {l : List mT} (h : mSt A S) : mSt A (sH S m l) := h
theorem mSt.G {A S : mS} {i x : Nat} (hi : i = 3 ∨ i = 5 ∨ (i = 6 ∧ gG S 6 ≤ x)) (h : mSt A S) : mSt A (sG S i x) := by
  refine ⟨fun j hj => ?_, h.2.1, ?_⟩
  case refine_2 =>
    show gG A 6 ≤ (if 6 = i then x else S.1 6)
    split
    · exact Nat.le_trans h.2.2 (by omega)
    · exact h.2.2
  show (if j = i then x else S.1 j) = _
  rw [if_neg (by omega)]; exact h.1 j hj
theorem mSt.send {A S : mS} {kd frm to num by9 data : Nat} (h : mSt A S) : mSt A (msend S kd frm to num by9 data) := by
  refine ⟨fun j hj => (msend_G hj.1).trans (h.1 j hj), ?_, by rw [msend_G (by decide)]; exact h.2.2⟩
  have e : gG S 1 = gG A 1 := h.g (by decide)
  unfold msend
  split
  · exact h.2.1
  · refine (mDn_ins ?_).trans h.2.1
    show gG S 1 + mfar S frm to ≠ gG A 1
    unfold mfar; omega
theorem mSt.tr {A S S' : mS} (h : mSt A S) (g : mSt S S') : mSt A S' := by
  refine ⟨fun j hj => (g.1 j hj).trans (h.1 j hj), ?_, Nat.le_trans h.2.2 g.2.2⟩
  have e : gG S 1 = gG A 1 := h.g (by decide)
  have := g.2.1
  rw [e] at this
  exact this.trans h.2.1
theorem mSt.ups {f : Nat → mS → mS} (hf : ∀ k S, mSt S (f k S)) (n : Nat) (S : mS) : mSt S (mup f n S) := by
  induction n with
  | zero => exact .rf
  | succ n ih => exact ih.tr (hf n _)
theorem mSt.told {S : mS} {m num by9 set heard : Nat} : mSt S (mtold S m num by9 set heard) := by
  unfold mtold
  split
  · exact .rf
  · exact .K (.M (.M (.M (.M (.M (.M (.M (.H .rf))))))))
theorem mSt.none9 {S : mS} {m : Nat} : mSt S (mnone S m) := .M (.M (.M .rf))
theorem mSt.stands {S : mS} {m : Nat} : mSt S (mstands S m) := by
  unfold mstands
  refine mSt.tr (mSt.tr (mSt.tr (mSt.G (i := 6) (Or.inr (Or.inr ⟨rfl, Nat.le_succ _⟩)) .rf) .told) (.ups (fun k S => ?_) _ _)) .none9
  unfold mstandsF
  split
  · exact .send .rf
  · exact .rf
theorem mSt.ans {S : mS} {m frm num by9 heard : Nat} : mSt S (mans S m frm num by9 heard) := by
  have h : mSt S (mputA S m frm num by9 heard) := .M (.M (.M (.M .rf)))
  unfold mans
  split
  · exact h.tr .stands
  · exact h
theorem mSt.sends {S : mS} {m set n : Nat} : mSt S (mup (mcallF m (gM S m 6 + 1) set) n (mstart S m set)) := by
  refine mSt.tr (mSt.M (.M (.M (.M (.M (.M .rf)))))) (.ups (fun k S => ?_) _ _)
  unfold mcallF
  split
  · exact .send .rf
  · exact .rf
theorem mSt.call {S : mS} {m set : Nat} : mSt S (mcall S m set) := mSt.sends.tr .ans
theorem mSt.read {S : mS} {x : mN} : mSt S (mread S x) := by
  unfold mread
  split
  · exact .G (Or.inl rfl) .rf
  · split
    · unfold mspeech
      split
      · exact .M .rf
      · split
        · exact .K .rf
        · exact .G (Or.inr (Or.inl rfl)) .rf
    · split
      · unfold mcalled
        split
        · exact .send (mSt.tr (.M (.M .rf)) .none9)
        · exact .rf
      · split
        · unfold mreplied
          split
          · exact .ans
          · exact .rf
        · exact .told
theorem mSt.wait {S : mS} {m : Nat} : mSt S (mwaitF m S) := by
  unfold mwaitF
  split
  · exact .call
  · exact .rf
theorem comes_g {S : mS} {i : Nat} (hi : i ≠ 3 ∧ i ≠ 5 ∧ i ≠ 6) : gG (mcomes S) i = gG S i := (mSt.read (S := sN S ((gN S).drop 1))).g hi
theorem comes_d {S : mS} (h : mdue S) : mD (mcomes S) + 1 = mD S := by
  unfold mD
  rw [comes_g (by decide)]
  have e : mDn (gG S 1) (gN (mcomes S)) = mDn (gG S 1) ((gN S).drop 1) := (mSt.read (S := sN S ((gN S).drop 1)) (x := (gN S).getD 0 n0)).d
  rw [e]
  obtain ⟨h1, h2⟩ := h
  cases hL : gN S with
  | nil => rw [hL] at h1; exact absurd h1 (Nat.lt_irrefl 0)
  | cons a l =>
    rw [hL] at h2
    unfold mDn
    rw [List.countP_cons_of_pos (by simpa using h2)]
    rfl
theorem due_pos {S : mS} (h : mdue S) : 0 < mD S := by have := comes_d h; omega
theorem drain_g {i : Nat} (hi : i ≠ 3 ∧ i ≠ 5 ∧ i ≠ 6) : ∀ (n : Nat) (S : mS), gG (mdrain n S) i = gG S i := by
  intro n
  induction n with
  | zero => intro S; rfl
  | succ n ih =>
    intro S
    rw [mdrain]
    split
    · rw [ih, comes_g hi]
    · rfl
theorem comes_6 {S : mS} : gG S 6 ≤ gG (mcomes S) 6 := (mSt.read (S := sN S ((gN S).drop 1)) (x := (gN S).getD 0 n0)).g6
theorem drain_6 : ∀ (n : Nat) (S : mS), gG S 6 ≤ gG (mdrain n S) 6 := by
  intro n
  induction n with
  | zero => intro S; exact Nat.le_refl _
  | succ n ih =>
    intro S
    rw [mdrain]
    split
    · exact Nat.le_trans comes_6 (ih _)
    · exact Nat.le_refl _
theorem drain_stop {S : mS} (h : ¬ mdue S) : ∀ n, mdrain n S = S := by
  intro n
  cases n with
  | zero => rfl
  | succ n => exact if_neg h
theorem drain_step {S : mS} (h : mdue S) (n : Nat) : mdrain (n + 1) S = mdrain n (mcomes S) := if_pos h
theorem dn_0 {t : Nat} : ∀ {L : List mN}, mDn t L = 0 → ∀ x, x ∈ L → x 3 ≠ t := by
  intro L h x hx q
  unfold mDn at h
  have := List.countP_eq_zero.mp h x hx
  rw [q] at this
  simp at this
theorem stop_1 {c : Nat} {S : mS} (h : SP c 0 S) (hd : ¬ mdue S) : SP c 1 S := by
  obtain ⟨h0, h1, h2, h3, h4, h5⟩ := h
  refine ⟨h0, h1, h2, h3, h4, fun x hx => ?_⟩
  cases hL : gN S with
  | nil => rw [hL] at hx; exact absurd hx (List.not_mem_nil)
  | cons a l =>
    have ha := h5 a (by rw [hL]; exact List.mem_cons_self)
    have hn : a 3 ≠ gG S 1 := fun q => hd ⟨by rw [hL]; exact Nat.succ_pos _, by rw [hL]; exact q⟩
    unfold sOK at h4
    rw [hL] at hx h4
    have h9 := (List.pairwise_cons.mp h4).1
    rcases List.mem_cons.mp hx with q | q
    · rw [q]; omega
    · have := h9 x q; omega
theorem drain_any : ∀ (k l : Nat) (S : mS), mD S ≤ k → mD S ≤ l → mdrain k S = mdrain l S := by
  intro k
  induction k with
  | zero =>
    intro l S h _
    have hq : ¬ mdue S := fun q => by have := due_pos q; omega
    rw [drain_stop hq, drain_stop hq]
  | succ k ih =>
    intro l S h1 h2
    by_cases q : mdue S
    · have := comes_d q
      cases l with
      | zero => omega
      | succ l => rw [drain_step q, drain_step q]; exact ih l _ (by omega) (by omega)
    · rw [drain_stop q, drain_stop q]
theorem wait_g {n i : Nat} {S : mS} (hi : i ≠ 3 ∧ i ≠ 5 ∧ i ≠ 6) : gG (mup mwaitF n S) i = gG S i := (mSt.ups (fun _ _ => mSt.wait) n S).g hi
theorem tick_6 {S : mS} : gG S 6 ≤ gG (mtick S) 6 := by
  have h : gG S 6 ≤ gG (mdrain (gN S).length (sG S 1 (gG S 1 + 1))) 6 := drain_6 (gN S).length (sG S 1 (gG S 1 + 1))
  unfold mtick
  split
  · exact Nat.le_trans h (mSt.ups (fun _ _ => mSt.wait) _ _).g6
  · exact h
theorem ticks_6 {S : mS} : ∀ n, gG S 6 ≤ gG (mticks n S) 6 := by
  intro n
  induction n with
  | zero => exact Nat.le_refl _
  | succ n ih => exact Nat.le_trans ih tick_6
def Iv (c d : Nat) (S : mS) : Prop := SP c d S ∧ IP c S
theorem Iv.comes {c B : Nat} {S : mS} (h : Iv c 0 S) (hB : NB c S B) (hl : 0 < (gN S).length) : Iv c 0 (mcomes S) := by
  have hx := hB.n (head_mem hl)
  exact ⟨h.1.drop1.read (by decide) hx.2.2.1, h.2.comes hl hx.1 hx.2.1 hx.2.2.1⟩
theorem Iv.drain {c : Nat} : ∀ (n : Nat) {B : Nat} {S : mS}, Iv c 0 S → NB c S B → mD S ≤ n → Iv c 1 (mdrain n S) := by
  intro n
  induction n with
  | zero =>
    intro B S h hB hd
    have hq : ¬ mdue S := fun q => by have := due_pos q; omega
    exact ⟨stop_1 h.1 hq, h.2⟩
  | succ n ih =>
    intro B S h hB hd
    by_cases q : mdue S
    · rw [drain_step q]
      exact ih (h.comes hB q.1) (hB.comes q.1) (by have := comes_d q; omega)
    · rw [drain_stop q]; exact ⟨stop_1 h.1 q, h.2⟩
theorem mD_le {S : mS} : mD S ≤ (gN S).length := List.countP_le_length
theorem Iv.time {c : Nat} {S : mS} (h : Iv c 1 S) : Iv c 0 (sG S 1 (gG S 1 + 1)) := by
  obtain ⟨⟨h0, h1, h2, h3, h4, h5⟩, h6⟩ := h
  refine ⟨⟨h0, h1, fun m => ?_, fun a b ha hb => ?_, h4, fun x hx => ?_⟩, h6.g⟩
  · have := h2 m
    show gM S m 11 ≤ gG S 1 + 1
    omega
  · show (if 8 + a = 1 then _ else S.1 (8 + a)).testBit b = (if 8 + b = 1 then _ else S.1 (8 + b)).testBit a
    rw [if_neg (by omega), if_neg (by omega)]; exact h3 a b ha hb
  · have := h5 x hx
    show gG S 1 + 1 + 0 ≤ x 3
    omega
theorem Iv.drained {c B : Nat} {S : mS} (h : Iv c 1 S) (hB : NB c S B) : Iv c 1 (mdrain (gN S).length (sG S 1 (gG S 1 + 1))) := h.time.drain _ hB.time mD_le
theorem Iv.wait {c : Nat} {S : mS} (h : Iv c 1 S) {m : Nat} (hm : m < c) : Iv c 1 (mwaitF m S) := ⟨h.1.wait (by decide) hm, h.2.wait hm⟩
theorem Iv.ups {c d : Nat} {f : Nat → mS → mS} (n : Nat) (hf : ∀ k S, k < n → Iv c d S → Iv c d (f k S)) {S : mS} (h : Iv c d S) : Iv c d (mup f n S) := by
  induction n with
  | zero => exact h
  | succ n ih => exact hf n _ (Nat.lt_succ_self n) (ih (fun k S hk => hf k S (by omega)))
theorem Iv.tick {c B : Nat} {S : mS} (h : Iv c 1 S) (hB : NB c S B) : Iv c 1 (mtick S) := by
  unfold mtick
  split
  · refine Iv.ups _ (fun k S' hk h' => h'.wait ?_) (h.drained hB)
    rw [hB.c0] at hk; exact hk
  · exact h.drained hB
theorem Iv.ticks {c B : Nat} {S : mS} (h : Iv c 1 S) (hB : NB c S B) : ∀ n, Iv c 1 (mticks n S) := by
  intro n
  induction n with
  | zero => exact h
  | succ n ih => exact ih.tick (hB.ticks n)
theorem Iv.call {c : Nat} {S : mS} (h : Iv c 1 S) {m set : Nat} (hm : m < c) (hs : set.testBit m = true) : Iv c 1 (mcall S m set) := by
  obtain ⟨h1, F, a, b⟩ := h
  exact ⟨h1.call (by decide) hm, call_all a b hm hs⟩
theorem Iv.say {c : Nat} {S : mS} (h : Iv c 1 S) {m : Nat} (hm : m < c) : Iv c 1 (msay S m) := by
  refine ⟨?_, h.2.say⟩
  unfold msay
  refine SP.ups _ (fun k S' _ h' => ?_) (SP.G (SP.M (SP.M h.1 hm (fun q => by omega)) hm (fun q => by omega)) (by decide))
  unfold msayF
  split
  · exact h'.send (by decide)
  · exact h'
theorem Iv.leave {c : Nat} {S : mS} (h : Iv c 1 S) {m : Nat} (hm : m < c) : Iv c 1 (mleave S m) :=
  ⟨SP.K (SP.none9 (SP.M h.1 hm (fun q => by omega)) hm) hm, h.2.leave hm⟩
theorem Iv.back {c : Nat} {S : mS} (h : Iv c 1 S) {m : Nat} (hm : m < c) (h1 : gM S m 1 = 2) : Iv c 1 (mback S m) :=
  ⟨SP.enter (SP.M (SP.over h.1 hm) hm (fun q => by omega)) hm, h.2.back hm h1⟩
theorem Iv.set7 {c : Nat} {S : mS} (h : Iv c 1 S) {x : Nat} : Iv c 1 (sG S 7 x) := ⟨h.1.G (by decide), h.2.g⟩
theorem tb_clr {a k j : Nat} : (mclr a k).testBit j = (a.testBit j && !decide (j = k)) := by
  unfold mclr
  by_cases e : j = k
  · subst e
    split
    · rename_i q
      rw [Nat.testBit_xor, q, Nat.one_shiftLeft, Nat.testBit_two_pow_self]; simp
    · rename_i q
      simp [q]
  · split
    · rw [Nat.testBit_xor, Nat.one_shiftLeft, Nat.testBit_two_pow, decide_eq_false (fun q => e q.symm), decide_eq_false e]; simp
    · simp [e]
theorem Iv.cut {c : Nat} {S : mS} (h : Iv c 1 S) {a b : Nat} (ha : a < 6) (hb : b < 6) (hab : a ≠ b) (cut : Bool) : Iv c 1 (mcut S a b cut) := by
  have hg : gOK (mcut S a b cut) := by
    intro i j hi hj
    have h0 := h.1.2.2.2.1 i j hi hj
    unfold mcut
    cases cut
    · rw [if_neg (by decide)]
      show (if 8 + i = 8 + b then mclr (gG S (8 + b)) a else if 8 + i = 8 + a then mclr (gG S (8 + a)) b else gG S (8 + i)).testBit j = (if 8 + j = 8 + b then mclr (gG S (8 + b)) a else if 8 + j = 8 + a then mclr (gG S (8 + a)) b else gG S (8 + j)).testBit i
      by_cases e1 : i = a <;> by_cases e2 : i = b <;> by_cases e3 : j = a <;> by_cases e4 : j = b <;> first | (exfalso; omega) | skip
      all_goals (repeat (first | rw [if_pos (by omega)] | rw [if_neg (by omega)]))
      all_goals simp only [tb_clr, h0]
      all_goals (try subst i) <;> (try subst j)
      all_goals simp_all
    · rw [if_pos rfl]
      show (if 8 + i = 8 + b then gG S (8 + b) ||| 1 <<< a else if 8 + i = 8 + a then gG S (8 + a) ||| 1 <<< b else gG S (8 + i)).testBit j = (if 8 + j = 8 + b then gG S (8 + b) ||| 1 <<< a else if 8 + j = 8 + a then gG S (8 + a) ||| 1 <<< b else gG S (8 + j)).testBit i
      by_cases e1 : i = a <;> by_cases e2 : i = b <;> by_cases e3 : j = a <;> by_cases e4 : j = b <;> first | (exfalso; omega) | skip
      all_goals (repeat (first | rw [if_pos (by omega)] | rw [if_neg (by omega)]))
      all_goals rw [Bool.eq_iff_iff]
      all_goals (try rw [tb_or])
      all_goals (try rw [tb_or])
      all_goals rw [Bool.eq_iff_iff] at h0
      all_goals (try subst i) <;> (try subst j)
      all_goals simp_all
  have hN : gN (mcut S a b cut) = gN S := by cases cut <;> rfl
  have hG : ∀ i, i < 8 → gG (mcut S a b cut) i = gG S i := fun i hi => by
    cases cut
    · show (if i = 8 + b then _ else if i = 8 + a then _ else gG S i) = gG S i
      rw [if_neg (by omega), if_neg (by omega)]
    · show (if i = 8 + b then _ else if i = 8 + a then _ else gG S i) = gG S i
      rw [if_neg (by omega), if_neg (by omega)]
  have h6 : IP c (mcut S a b cut) := by
    unfold mcut
    cases cut
    · exact h.2.g.g
    · exact h.2.g.g
  obtain ⟨h0, h1, h2, h3, h4, h5⟩ := h.1
  refine ⟨⟨(hG 0 (by decide)).trans h0, ?_, ?_, hg, ?_, ?_⟩, h6⟩
  · cases cut <;> exact h1
  · intro m
    rw [hG 1 (by decide)]
    cases cut <;> exact h2 m
  · unfold sOK; rw [hN]; exact h4
  · unfold tOK; rw [hN, hG 1 (by decide)]; exact h5
theorem Iv.add {c B : Nat} {S : mS} (h : Iv c 1 S) (hB : NB c S B) (hc6 : c < 6) {p : Nat} : Iv (c + 1) 1 (madd S p) := by
  obtain ⟨⟨h0, h1, h2, h3, h4, h5⟩, h6⟩ := h
  refine ⟨⟨?_, fun m hm hm6 => ⟨fun w => ?_, (h1 m (by omega) hm6).2⟩, fun k => ?_, ?_, h4, h5⟩, h6.add h1 h0 hc6 (fun x hx => (hB.n hx).2.1)⟩
  · show gG S 0 + 1 = c + 1
    rw [h0]
  · show (if m = gG S 0 then (if w = 0 then p else S.2.1 m w) else S.2.1 m w) = _
    rw [if_neg (by omega)]; exact (h1 m (by omega) hm6).1 w
  · show (if k = gG S 0 then (if 11 = 0 then p else S.2.1 k 11) else S.2.1 k 11) ≤ gG S 1
    rw [if_neg (by decide : ¬ 11 = 0), ite_self]; exact h2 k
  · intro a b ha hb
    show (if 8 + a = 0 then _ else S.1 (8 + a)).testBit b = (if 8 + b = 0 then _ else S.1 (8 + b)).testBit a
    rw [if_neg (by omega), if_neg (by omega)]; exact h3 a b ha hb
