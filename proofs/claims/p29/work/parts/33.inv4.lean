
theorem MP.w {F : Nat → Nat → Nat} {c : Nat} {S : mS} (h : MP F c S) {m w x : Nat} (hw : w = 5 ∨ w = 7 ∨ 10 < w) : MP F c (sM S m w x) := by
  intro k hk
  have ho : ∀ j i, i < 11 → i ≠ 5 → i ≠ 7 → gM (sM S m w x) j i = gM S j i := fun j i a b d => by
    show (if j = m then (if i = w then x else S.2.1 j i) else S.2.1 j i) = S.2.1 j i
    rw [if_neg (by omega : i ≠ w), ite_self]
  have hle : Mle S (sM S m w x) := Mle.of (fun j => ⟨ho j 6 (by decide) (by decide) (by decide), ho j 9 (by decide) (by decide) (by decide)⟩)
  exact ⟨(h k hk).1.o (Nat.le_refl c) (ho k) rfl (hle _).1 rfl (fun _ => rfl), (h k hk).2.o hle (ho k)⟩
theorem NP.w {F : Nat → Nat → Nat} {S : mS} (h : NP F S) {m w x : Nat} (hw : w = 5 ∨ w = 7 ∨ 10 < w) : NP F (sM S m w x) := by
  have ho : ∀ j i, i < 11 → i ≠ 5 → i ≠ 7 → gM (sM S m w x) j i = gM S j i := fun j i a b d => by
    show (if j = m then (if i = w then x else S.2.1 j i) else S.2.1 j i) = S.2.1 j i
    rw [if_neg (by omega : i ≠ w), ite_self]
  exact h.same (Mle.of (fun j => ⟨ho j 6 (by decide) (by decide) (by decide), ho j 9 (by decide) (by decide) (by decide)⟩)) rfl
theorem MP.k {F : Nat → Nat → Nat} {c : Nat} {S : mS} (h : MP F c S) {m : Nat} {l : List mT} (h1 : gM S m 1 = 2 → l = []) : MP F c (sK S m l) := by
  intro k hk
  obtain ⟨⟨b1, b2, b3, b4, b5, b6, b7, b8⟩, g2⟩ := h k hk
  refine ⟨⟨b1, b2, b3, b4, b5, b6, b7, fun q => ⟨(b8 q).1, ?_⟩⟩, g2⟩
  show (if k = m then l else gK S k) = []
  by_cases e : k = m
  · rw [if_pos e]; exact h1 (by rw [← e]; exact q)
  · rw [if_neg e]; exact (b8 q).2
/-- one step: the numbers of the members are kept in order -/
def IP (c : Nat) (S : mS) : Prop := ∃ F, MP F c S ∧ NP F S
theorem IP.g {c : Nat} {S : mS} (h : IP c S) {i x : Nat} : IP c (sG S i x) := by
  obtain ⟨F, a, b⟩ := h
  exact ⟨F, a.same rfl rfl, b.same (Mle.of fun _ => ⟨rfl, rfl⟩) rfl⟩
theorem IP.w {c : Nat} {S : mS} (h : IP c S) {m w x : Nat} (hw : w = 5 ∨ w = 7 ∨ 10 < w) : IP c (sM S m w x) := by
  obtain ⟨F, a, b⟩ := h
  exact ⟨F, a.w hw, b.w hw⟩
theorem IP.speech {c : Nat} {S : mS} (h : IP c S) {x : mN} (h1 : gM S (x 2) 1 ≠ 2) : IP c (mspeech S x) := by
  unfold mspeech
  split
  · exact h.w (Or.inl rfl)
  · split
    · obtain ⟨F, a, b⟩ := h
      exact ⟨F, a.k (fun q => absurd q h1), b.same (Mle.of fun _ => ⟨rfl, rfl⟩) rfl⟩
    · exact h.g
theorem called_all {F : Nat → Nat → Nat} {c : Nat} {S : mS} {x : mN} (h : MP F c S) (hn : NP F S) (hx : nOK F S x) (hc : x 2 < c) : MP F c (mcalled S x) ∧ NP F (mcalled S x) := by
  unfold mcalled
  by_cases hp : gM S (x 2) 6 < x 4
  · rw [if_pos hp]
    generalize hT : mnone (sM (sM S (x 2) 6 (x 4)) (x 2) 1 1) (x 2) = T
    have ho : ∀ k w, k ≠ x 2 ∨ (w ≠ 8 ∧ w ≠ 9 ∧ w ≠ 10 ∧ w ≠ 6 ∧ w ≠ 1) → gM T k w = gM S k w := fun k w q => by
      subst hT
      by_cases e : k = x 2
      · rcases q with q | ⟨q1, q2, q3, q4, q5⟩
        · exact absurd e q
        · simp [mnone, sM, gM, q1, q2, q3, q4, q5]
      · simp [mnone, sM, gM, e]
    have v : gM T (x 2) 6 = x 4 ∧ gM T (x 2) 1 = 1 ∧ gM T (x 2) 8 = 0 ∧ gM T (x 2) 9 = 0 ∧ gM T (x 2) 10 = 0 := by subst hT; simp [mnone, sM, gM]
    have hK : gK T = gK S := by subst hT; rfl
    have hN : gN T = gN S := by subst hT; rfl
    obtain ⟨v6, v1, v8, v9, v10⟩ := v
    have hle : Mle S T := fun k => by
      by_cases e : k = x 2
      · subst e; rw [v6, v9]; exact ⟨by omega, fun _ _ => rfl⟩
      · rw [ho k 6 (Or.inl e), ho k 9 (Or.inl e)]; exact ⟨Nat.le_refl _, fun _ q => q⟩
    have hMT : MP F c T := by
      intro k hk
      obtain ⟨g1, g2⟩ := h k hk
      by_cases e : k = x 2
      · rw [e] at g1 ⊢
        refine ⟨?_, fun q => absurd v9 q⟩
        obtain ⟨b1, b2, b3, b4, b5, b6, b7, b8⟩ := g1
        unfold mOK
        rw [v6, v1, v8, v9, v10, ho (x 2) 2 (Or.inr (by decide)), ho (x 2) 3 (Or.inr (by decide)), ho (x 2) 4 (Or.inr (by decide))]
        exact ⟨by omega, b2, Nat.le_trans b3 (hle _).1, b4, b5, fun _ => ⟨rfl, rfl⟩, fun q => absurd rfl q, fun q => absurd q (by decide)⟩
      · exact ⟨g1.o (Nat.le_refl c) (fun w _ _ _ => ho k w (Or.inl e)) (by rw [hK]) (hle _).1 rfl (fun _ => rfl), g2.o hle (fun w _ _ _ => ho k w (Or.inl e))⟩
    refine ⟨hMT.same msend_M msend_K, (hn.same hle hN).send ⟨fun q => hx.1 q.symm, fun z => absurd (show (2 : Nat) = 0 from z) (by decide), fun _ => ⟨?_, ?_, fun _ => v9⟩, fun z => absurd (show (2 : Nat) = 3 from z) (by decide)⟩⟩
    · show 1 ≤ x 4
      omega
    · show x 4 ≤ gM T (x 2) 6
      omega
  · rw [if_neg hp]; exact ⟨h, hn⟩
theorem replied_all {F : Nat → Nat → Nat} {c : Nat} {S : mS} {x : mN} (h : MP F c S) (hn : NP F S) (hx : nOK F S x) (hc : x 2 < c) (h2 : x 0 = 2) : MP F c (mreplied S x) ∧ NP F (mreplied S x) := by
  unfold mreplied
  split
  · rename_i q
    obtain ⟨g1, g2⟩ := h _ hc
    obtain ⟨e1, e2⟩ := hx.2.2.1 h2
    have h9 : gM S (x 2) 9 ≠ 0 := fun z => by have := (g1.2.2.2.2.2.1 z).1; omega
    exact ans_all (h.x _) hn hc h9 (Or.inr ⟨(g2 h9).1, by rw [q]; exact e2⟩)
  · exact ⟨h, hn⟩
theorem IP.read {c : Nat} {S : mS} {x : mN} (h : ∃ F, MP F c S ∧ NP F S ∧ nOK F S x) (h0 : x 0 ≤ 3) (h1 : x 1 < c) (h2 : x 2 < c) : IP c (mread S x) := by
  obtain ⟨F, a, b, hx⟩ := h
  unfold mread
  split
  · exact IP.g ⟨F, a, b⟩
  · rename_i q
    split
    · exact IP.speech ⟨F, a, b⟩ q
    · split
      · exact ⟨F, called_all a b hx h2⟩
      · split
        · rename_i q2; exact ⟨F, replied_all a b hx h2 q2⟩
        · have q3 : x 0 = 3 := by omega
          obtain ⟨e1, e2, e3, e4, e5⟩ := hx.2.2.2 q3
          exact ⟨F, a.told h2 (by rw [e2]; exact h1) e1 e3 e4 (by rw [e2]; exact e5), b.told⟩
theorem IP.comes {c : Nat} {S : mS} (h : IP c S) (hl : 0 < (gN S).length) (h0 : ((gN S).getD 0 n0) 0 ≤ 3) (h1 : ((gN S).getD 0 n0) 1 < c) (h2 : ((gN S).getD 0 n0) 2 < c) : IP c (mcomes S) := by
  obtain ⟨F, a, b⟩ := h
  have hle : Mle S (sN S ((gN S).drop 1)) := Mle.of fun _ => ⟨rfl, rfl⟩
  exact IP.read ⟨F, a.same rfl rfl, fun y hy => (b y (List.mem_of_mem_drop hy)).mono hle (fun _ => rfl), (b _ (head_mem hl)).mono hle (fun _ => rfl)⟩ h0 h1 h2
theorem IP.wait {c : Nat} {S : mS} (h : IP c S) {m : Nat} (hm : m < c) : IP c (mwaitF m S) := by
  unfold mwaitF
  split
  · rename_i q
    obtain ⟨F, a, b⟩ := h
    obtain ⟨g1, g2⟩ := a m hm
    have h9 : gM S m 9 ≠ 0 := fun z => by have := (g1.2.2.2.2.2.1 z).1; omega
    exact call_all a b hm (g2 h9).1
  · exact h
theorem IP.say {c : Nat} {S : mS} (h : IP c S) {m : Nat} : IP c (msay S m) := by
  have h1 : IP c (msay0 S m) := ((h.w (Or.inr (Or.inl rfl))).w (Or.inl rfl)).g
  obtain ⟨F, a, b⟩ := h1
  have hU := ups_NP (F := F) (A := msay0 S m) (f := msayF m (4 * m + gM S m 7)) (gG S 0) (fun k S' => sayF_same.1) (fun k S' _ e hN => by
    unfold msayF
    split
    · rename_i q
      exact hN.send ⟨fun z => q.1 z.symm, fun _ => ⟨rfl, rfl⟩, fun z => absurd (show (0 : Nat) = 2 from z) (by decide), fun z => absurd (show (0 : Nat) = 3 from z) (by decide)⟩
    · exact hN) rfl b
  have hK := (ups_same (f := msayF m (4 * m + gM S m 7)) (gG S 0) (fun k S' => sayF_same) (msay0 S m)).2
  exact ⟨F, a.same hU.2 hK, hU.1⟩
theorem IP.leave {c : Nat} {S : mS} (h : IP c S) {m : Nat} (hm : m < c) : IP c (mleave S m) := by
  obtain ⟨F, a, b⟩ := h
  have ho : ∀ k w, k ≠ m ∨ (w ≠ 8 ∧ w ≠ 9 ∧ w ≠ 10 ∧ w ≠ 1) → gM (mleave S m) k w = gM S k w := fun k w q => by
    by_cases e : k = m
    · rcases q with q | ⟨q1, q2, q3, q5⟩
      · exact absurd e q
      · simp [mleave, mnone, sK, sM, gM, q1, q2, q3, q5]
    · simp [mleave, mnone, sK, sM, gM, e]
  have v : gM (mleave S m) m 1 = 2 ∧ gM (mleave S m) m 8 = 0 ∧ gM (mleave S m) m 9 = 0 ∧ gM (mleave S m) m 10 = 0 ∧ gK (mleave S m) m = [] := by simp [mleave, mnone, sK, sM, gM, gK]
  have hK : ∀ k, k ≠ m → gK (mleave S m) k = gK S k := fun k e => by simp [mleave, mnone, sK, sM, gK, e]
  obtain ⟨v1, v8, v9, v10, vK9⟩ := v
  have hle : Mle S (mleave S m) := fun k => by
    by_cases e : k = m
    · subst e; rw [ho k 6 (Or.inr (by decide)), v9]; exact ⟨Nat.le_refl _, fun _ _ => rfl⟩
    · rw [ho k 6 (Or.inl e), ho k 9 (Or.inl e)]; exact ⟨Nat.le_refl _, fun _ q => q⟩
  refine ⟨F, fun k hk => ?_, b.same hle rfl⟩
  obtain ⟨g1, g2⟩ := a k hk
  by_cases e : k = m
  · subst e
    refine ⟨?_, fun q => absurd v9 q⟩
    obtain ⟨b1, b2, b3, b4, b5, b6, b7, b8⟩ := g1
    unfold mOK
    rw [v1, v8, v9, v10, vK9, ho k 2 (Or.inr (by decide)), ho k 3 (Or.inr (by decide)), ho k 4 (Or.inr (by decide)), ho k 6 (Or.inr (by decide))]
    exact ⟨b1, b2, Nat.le_trans b3 (hle _).1, b4, b5, fun _ => ⟨rfl, rfl⟩, fun q => absurd rfl q, fun _ => ⟨rfl, rfl⟩⟩
  · exact ⟨g1.o (Nat.le_refl c) (fun w _ _ _ => ho k w (Or.inl e)) (hK k e) (hle _).1 rfl (fun _ => rfl), g2.o hle (fun w _ _ _ => ho k w (Or.inl e))⟩
theorem IP.back {c : Nat} {S : mS} (h : IP c S) {m : Nat} (hm : m < c) (h1 : gM S m 1 = 2) : IP c (mback S m) := by
  obtain ⟨F, a, b⟩ := h
  have h9 : gM S m 9 = 0 := ((a m hm).1.2.2.2.2.2.2.2 h1).1
  have ho : ∀ k w, k ≠ m ∨ (w ≠ 1 ∧ w ≠ 2 ∧ w ≠ 3 ∧ w ≠ 4 ∧ w ≠ 5 ∧ w ≠ 6 ∧ w ≠ 7) → gM (mback S m) k w = gM S k w := fun k w q => by
    by_cases e : k = m
    · rcases q with q | ⟨q1, q2, q3, q4, q5, q6, q7⟩
      · exact absurd e q
      · simp [mback, menter, mover, sH, sM, gM, q1, q2, q3, q4, q5, q6, q7]
    · simp [mback, menter, mover, sH, sM, gM, e]
  have v : gM (mback S m) m 1 = 0 ∧ gM (mback S m) m 2 = gM S m 6 + 1 ∧ gM (mback S m) m 3 = m ∧ gM (mback S m) m 4 = 1 <<< m ∧ gM (mback S m) m 6 = gM S m 6 + 1 := by simp [mback, menter, mover, sH, sM, gM]
  have hK : gK (mback S m) = gK S := rfl
  obtain ⟨v1, v2, v3, v4, v6⟩ := v
  have hle : Mle S (mback S m) := fun k => by
    by_cases e : k = m
    · subst e; rw [v6]; exact ⟨by omega, fun q => by omega⟩
    · rw [ho k 6 (Or.inl e), ho k 9 (Or.inl e)]; exact ⟨Nat.le_refl _, fun _ q => q⟩
  refine ⟨mF F (gM S m 6 + 1) m (1 <<< m), fun k hk => ?_, fun x hx => ?_⟩
  · obtain ⟨g1, g2⟩ := a k hk
    by_cases e : k = m
    · subst e
      have h9' : gM (mback S k) k 9 = 0 := by rw [ho k 9 (Or.inr (by decide))]; exact h9
      refine ⟨?_, fun q => absurd h9' q⟩
      obtain ⟨b1, b2, b3, b4, b5, b6, b7, b8⟩ := g1
      unfold mOK
      rw [v1, v2, v3, v4, v6, h9', ho k 8 (Or.inr (by decide)), ho k 10 (Or.inr (by decide)), mF_s]
      refine ⟨Nat.le_refl _, hk, Nat.le_refl _, rfl, ?_, fun _ => b6 h9, fun q => absurd rfl q, fun q => absurd q (by decide)⟩
      rw [Nat.one_shiftLeft, Nat.testBit_two_pow_self]
    · have hold : mF F (gM S m 6 + 1) m (1 <<< m) (gM S k 2) (gM S k 3) = F (gM S k 2) (gM S k 3) := by
        refine mF_o ?_
        by_cases e : gM S k 3 = m
        · left; have := g1.2.2.1; rw [e] at this; omega
        · exact Or.inr e
      exact ⟨g1.o (Nat.le_refl c) (fun w _ _ _ => ho k w (Or.inl e)) (by rw [hK]) (hle _).1 hold (fun _ => mF_o (Or.inr e)), g2.o hle (fun w _ _ _ => ho k w (Or.inl e))⟩
  · have hx1 := b x hx
    refine hx1.mono hle (fun q => mF_o ?_)
    obtain ⟨_, q2, _, _, q5⟩ := hx1.2.2.2 q
    by_cases e : x 5 = m
    · left; rw [q2] at e; rw [e] at q5; omega
    · exact Or.inr e
theorem IP.add {c : Nat} {S : mS} (h : IP c S) (hF : Fr c S) {p : Nat} (hc : gG S 0 = c) (hc6 : c < 6) (hb : ∀ x, x ∈ gN S → x 1 < c) : IP (c + 1) (madd S p) := by
  obtain ⟨F, a, b⟩ := h
  have ho : ∀ k w, w ≠ 0 → gM (madd S p) k w = gM S k w := fun k w q => by simp [madd, sG, sM, gM, q]
  have hle : Mle S (madd S p) := Mle.of fun k => ⟨ho k 6 (by decide), ho k 9 (by decide)⟩
  have hfr := hF c (Nat.le_refl c) hc6
  refine ⟨mF F 0 c (1 <<< c), fun k hk => ?_, fun x hx => ?_⟩
  · by_cases e : k = c
    · subst e
      have hv : ∀ w, w ≠ 0 → gM (madd S p) k w = if w = 3 then k else if w = 4 then 1 <<< k else 0 := fun w q => (ho k w q).trans (hfr.1 w)
      refine ⟨?_, fun q => absurd (hv 9 (by decide)) q⟩
      unfold mOK
      rw [hv 1 (by decide), hv 2 (by decide), hv 3 (by decide), hv 4 (by decide), hv 6 (by decide), hv 8 (by decide), hv 9 (by decide), hv 10 (by decide)]
      refine ⟨Nat.zero_le _, hk, Nat.zero_le _, mF_s.symm, ?_, fun _ => ⟨rfl, rfl⟩, fun q => absurd rfl q, fun q => absurd (show (0 : Nat) = 2 from q) (by decide)⟩
      show (1 <<< k).testBit k = true
      rw [Nat.one_shiftLeft, Nat.testBit_two_pow_self]
    · obtain ⟨g1, g2⟩ := a k (by omega)
      exact ⟨g1.o (Nat.le_succ c) (fun w a1 _ _ => by
        by_cases z : w = 0
        · subst z; show (if k = gG S 0 then _ else S.2.1 k 0) = _; rw [if_neg (by rw [hc]; exact e)]
        · exact ho k w z) rfl (hle _).1 (mF_o (Or.inr (Nat.ne_of_lt g1.2.1))) (fun _ => mF_o (Or.inr e)), g2.o hle (fun w a1 _ _ => by
        by_cases z : w = 0
        · subst z; show (if k = gG S 0 then _ else S.2.1 k 0) = _; rw [if_neg (by rw [hc]; exact e)]
        · exact ho k w z)⟩
  · have hx1 := b x hx
    refine ⟨hx1.1, hx1.2.1, fun q => ⟨(hx1.2.2.1 q).1, (hx1.2.2.1 q).2.mono hle⟩, fun q => ?_⟩
    obtain ⟨q1, q2, q3, q4, q5⟩ := hx1.2.2.2 q
    have e := hb x hx
    exact ⟨q1.mono hle, q2, by rw [mF_o (by omega)]; exact q3, q4, Nat.le_trans q5 (hle _).1⟩
