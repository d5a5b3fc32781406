
/-! what is kept where its numbers are; a member's times in rolls -/
theorem uS.of {c k : Nat} {S S' : mS} (h : uS c S k) (e4 : gM S' k 4 = gM S k 4) (e5 : gM S' k 5 = gM S k 5) (e7 : gM S' k 7 = gM S k 7) : uS c S' k := by
  unfold uS at h ⊢; rw [e4, e5, e7]; exact h
theorem uA.of {c k : Nat} {S S' : mS} (h : uA c S k) (e1 : gM S' k 1 = gM S k 1) (e9 : gM S' k 9 = gM S k 9) (e10 : gM S' k 10 = gM S k 10) : uA c S' k := by
  unfold uA at h ⊢; rw [e1, e9, e10]; exact h
theorem uK.of {F F' : Nat → Nat → Nat} {c k : Nat} {S S' : mS} (h : uK F c S k) (eK : ∀ t, t ∈ gK S' k → t ∈ gK S k) (hM : Mle S S') (hF : ∀ n b, b < c → n ≤ gM S b 6 → F' n b = F n b) : uK F' c S' k := fun t ht => by
  obtain ⟨t1, t2, t3, t4⟩ := h t (eK t ht)
  exact ⟨t1, t2, Nat.le_trans t3 (hM _).1, by rw [hF _ _ t2 t3]; exact t4⟩
theorem uW.of {W : Nat → Nat → Nat} {k : Nat} {S S' : mS} (h : uW W S k) (e : ∀ w, 7 < w → gM S' k w = gM S k w) (eo : ∀ j, gM S' j 6 = gM S j 6 ∧ gM S' j 2 = gM S j 2 ∧ gM S' j 3 = gM S j 3) : uW W S' k := by
  intro h9 j hj
  rw [e 9 (by decide)] at h9
  rw [e 10 (by decide)] at hj
  rw [e 8 (by decide), e (12 + 3 * j) (by omega), e (13 + 3 * j) (by omega), (eo j).1, (eo j).2.1, (eo j).2.2]
  exact h h9 j hj
theorem uH.of {G G' : Nat → Nat → Nat → Nat → Nat} {k : Nat} {S S' : mS} (h : uH G S k) (hM : Mle S S') (e2 : gM S' k 2 = gM S k 2) (e3 : gM S' k 3 = gM S k 3) (eH : gH S' k = gH S k) (hG : ∀ a b n d, pOK S d n → G' a b n d = G a b n d) : uH G' S' k := by
  unfold uH; rw [e2, e3, eH]; exact uC.mono h hM hG
theorem uC.drop {G : Nat → Nat → Nat → Nat → Nat} {S : mS} {L : List mT} {p : Nat × Nat} (h : uC G S L p) : uC G S (L.drop 1) p := by
  have e : ∀ i, (L.drop 1).getD i t0 = L.getD (i + 1) t0 := fun i => by
    rw [List.getD_eq_getElem?_getD, List.getElem?_drop, List.getD_eq_getElem?_getD, Nat.add_comm 1 i]
  have en : ∀ i, i < (L.drop 1).length → nxt (L.drop 1) p i = nxt L p (i + 1) := fun i hi => by
    unfold nxt
    rw [List.length_drop] at hi ⊢
    by_cases q : i + 1 < L.length - 1
    · rw [if_pos q, if_pos (by omega), e]
    · rw [if_neg q, if_neg (by omega)]
  refine ⟨h.1, fun i hi => ?_⟩
  rw [en i hi, e]
  rw [List.length_drop] at hi
  exact h.2 (i + 1) (by omega)
theorem uC.app {G : Nat → Nat → Nat → Nat → Nat} {S : mS} {L : List mT} {p q : Nat × Nat} {hd : Nat} (h : uC G S L p) (h1 : p.1 < q.1) (h2 : pOK S q.2 q.1) (h3 : hd = G p.1 p.2 q.1 q.2) : uC G S (L ++ [(p.1, p.2, hd)]) q := by
  have hl : (L ++ [(p.1, p.2, hd)]).length = L.length + 1 := List.length_append
  have e1 : ∀ i, i < L.length → (L ++ [(p.1, p.2, hd)]).getD i t0 = L.getD i t0 := fun i hi => by
    rw [List.getD_eq_getElem?_getD, List.getElem?_append_left hi, List.getD_eq_getElem?_getD]
  have e2 : (L ++ [(p.1, p.2, hd)]).getD L.length t0 = (p.1, p.2, hd) := by
    rw [List.getD_eq_getElem?_getD, List.getElem?_append_right (Nat.le_refl _), Nat.sub_self]; rfl
  refine ⟨h2, fun i hi => ?_⟩
  rw [hl] at hi
  by_cases q1 : i < L.length
  · have en : nxt (L ++ [(p.1, p.2, hd)]) q i = nxt L p i := by
      unfold nxt
      rw [hl, if_pos (by omega)]
      by_cases q2 : i + 1 < L.length
      · rw [if_pos q2, e1 _ q2]
      · rw [if_neg q2, show i + 1 = L.length by omega, e2]
    rw [en, e1 _ q1]
    exact h.2 i q1
  · have en : nxt (L ++ [(p.1, p.2, hd)]) q i = q := by
      unfold nxt
      rw [hl, if_neg (by omega)]
    rw [en, show i = L.length by omega, e2]
    exact ⟨h1, h2, h3⟩
theorem uC.over {G G' : Nat → Nat → Nat → Nat → Nat} {S S' : mS} {L : List mT} {p q : Nat × Nat} {hd : Nat} (h : uC G S L p) (hM : Mle S S') (hG : ∀ a b n d, pOK S d n → G' a b n d = G a b n d) (h1 : p.1 < q.1) (h2 : pOK S' q.2 q.1) (h3 : hd = G' p.1 p.2 q.1 q.2) : uC G' S' ((if L.length = 5 then L.drop 1 else L) ++ [(p.1, p.2, hd)]) q := by
  refine uC.app ?_ h1 h2 h3
  split
  · exact (h.mono hM hG).drop
  · exact h.mono hM hG
theorem far10 {S : mS} (h : ∀ m, gM S m 0 ≤ 9) (a d : Nat) : mfar S a d ≤ 10 := by
  have := h a
  have := h d
  unfold mfar
  omega
theorem NB.cc {c B : Nat} {S : mS} (h : NB c S B) : ∀ x, x ∈ gN S → x 1 < c ∧ x 2 < c := fun x hx => ⟨(h.n hx).2.1, (h.n hx).2.2.1⟩
/-- a speech comes -/
theorem JV.speech {F W : Nat → Nat → Nat} {G : Nat → Nat → Nat → Nat → Nat} {c : Nat} {S : mS} {x : mN} (h : JV F W G c S) (hP : MP F c S) (hQ : NP F S) (hcc : ∀ x, x ∈ gN S → x 1 < c ∧ x 2 < c) (hx : uN F W G c S x) (h0 : x 0 = 0) (hc : x 2 < c) (hne : x 1 ≠ x 2) : JV F W G c (mspeech S x) := by
  obtain ⟨a1, a2, a3, a4⟩ := hx.1 h0
  obtain ⟨h1, h2, h3, h4, h5⟩ := h.1 _ hc
  unfold mspeech
  split
  · rename_i q
    have ho : ∀ k w, k ≠ x 2 ∨ w ≠ 5 → gM (sM S (x 2) 5 (gM S (x 2) 5 ||| 1 <<< x 6)) k w = gM S k w := fun k w z => by
      show (if k = x 2 then (if w = 5 then _ else S.2.1 k w) else S.2.1 k w) = S.2.1 k w
      rcases z with z | z
      · rw [if_neg z]
      · rw [if_neg z, ite_self]
    have v5 : gM (sM S (x 2) 5 (gM S (x 2) 5 ||| 1 <<< x 6)) (x 2) 5 = gM S (x 2) 5 ||| 1 <<< x 6 := by simp [sM, gM]
    have hle : Mle S (sM S (x 2) 5 (gM S (x 2) 5 ||| 1 <<< x 6)) := Mle.of (fun k => ⟨ho k 6 (Or.inr (by decide)), ho k 9 (Or.inr (by decide))⟩)
    refine h.one (m := x 2) hP hQ hcc hle (fun k e => ⟨funext (fun w => ho k w (Or.inl e)), rfl, rfl⟩) ⟨⟨?_, fun j hj => ?_, fun j hj => ?_⟩, h2.of (ho _ 1 (Or.inr (by decide))) (ho _ 9 (Or.inr (by decide))) (ho _ 10 (Or.inr (by decide))), h3.of (fun t ht => ht) hle (fun _ _ _ _ => rfl), h4.of (fun w hw => ho _ w (Or.inr (by omega))) (fun j => ⟨ho j 6 (Or.inr (by decide)), ho j 2 (Or.inr (by decide)), ho j 3 (Or.inr (by decide))⟩), h5.of hle (ho _ 2 (Or.inr (by decide))) (ho _ 3 (Or.inr (by decide))) rfl (fun _ _ _ _ _ => rfl)⟩ (ho _ 6 (Or.inr (by decide))) (ho _ 2 (Or.inr (by decide))) (ho _ 3 (Or.inr (by decide))) (fun z => ⟨by rw [← ho (x 2) 9 (Or.inr (by decide))]; exact z, ho _ 8 (Or.inr (by decide))⟩) rfl rfl
    · rw [ho _ 4 (Or.inr (by decide))]; exact h1.1
    · rw [v5, ho _ 7 (Or.inr (by decide)), ← h1.2.1 j hj]
      exact Bool.eq_iff_iff.mpr (tb_or.trans ⟨fun z => z.elim id (fun z => absurd a1 (by omega)), Or.inl⟩)
    · rw [v5, tb_or] at hj
      rw [ho _ 4 (Or.inr (by decide))]
      rcases hj with z | z
      · exact h1.2.2 j z
      · rw [z, a1, (hP _ hc).1.2.2.2.1, q.1.1, q.1.2]; exact a4
  · split
    · have ho : ∀ k, k ≠ x 2 → gK (sK S (x 2) (gK S (x 2) ++ [(x 4, x 5, x 6)])) k = gK S k := fun k e => by
        show (if k = x 2 then _ else S.2.2.1 k) = S.2.2.1 k
        rw [if_neg e]
      have v : gK (sK S (x 2) (gK S (x 2) ++ [(x 4, x 5, x 6)])) (x 2) = gK S (x 2) ++ [(x 4, x 5, x 6)] := by simp [sK, gK]
      have hle : Mle S (sK S (x 2) (gK S (x 2) ++ [(x 4, x 5, x 6)])) := Mle.of (fun k => ⟨rfl, rfl⟩)
      refine h.one (m := x 2) hP hQ hcc hle (fun k e => ⟨rfl, ho k e, rfl⟩) ⟨h1, h2, fun t ht => ?_, h4, h5.of hle rfl rfl rfl (fun _ _ _ _ _ => rfl)⟩ rfl rfl rfl (fun z => ⟨z, rfl⟩) rfl rfl
      rw [v] at ht
      rcases List.mem_append.mp ht with z | z
      · exact h3 t z
      · rw [List.mem_singleton] at z
        subst z
        exact ⟨by show x 6 / 4 ≠ x 2; rw [a1]; exact hne, a2, a3, by show (F (x 4) (x 5)).testBit (x 6 / 4) = true; rw [a1]; exact a4⟩
    · exact h.g (by decide)
/-- a call comes -/
theorem JV.called {F W : Nat → Nat → Nat} {G : Nat → Nat → Nat → Nat → Nat} {c : Nat} {S : mS} {x : mN} (h : JV F W G c S) (hP : MP F c S) (hQ : NP F S) (hcc : ∀ x, x ∈ gN S → x 1 < c ∧ x 2 < c) (hB : ∀ m, gM S m 0 ≤ 9) (hx : uN F W G c S x) (h0 : x 0 = 1) (hc : x 2 < c) (hne : x 1 ≠ x 2) : ∃ W', JV F W' G c (mcalled S x) := by
  obtain ⟨a1, a2⟩ := hx.2.1 h0
  obtain ⟨h1, h2, h3, h4, h5⟩ := h.1 _ hc
  have g1 := (hP _ hc).1.1
  unfold mcalled
  by_cases hp : gM S (x 2) 6 < x 4
  · rw [if_pos hp]
    generalize hT : mnone (sM (sM S (x 2) 6 (x 4)) (x 2) 1 1) (x 2) = T
    have ho : ∀ k w, k ≠ x 2 ∨ (w ≠ 8 ∧ w ≠ 9 ∧ w ≠ 10 ∧ w ≠ 6 ∧ w ≠ 1) → gM T k w = gM S k w := fun k w q => by
      subst hT
      by_cases e : k = x 2
      · rcases q with q | ⟨q1, q2, q3, q4, q5⟩
        · exact absurd e q
        · simp [mnone, sM, gM, q1, q2, q3, q4, q5]
      · simp [mnone, sM, gM, e]
    have v : gM T (x 2) 6 = x 4 ∧ gM T (x 2) 1 = 1 ∧ gM T (x 2) 8 = 0 ∧ gM T (x 2) 9 = 0 ∧ gM T (x 2) 10 = 0 := by subst hT; simp [mnone, sM, gM]
    have hK : gK T = gK S := by subst hT; rfl
    have hN : gN T = gN S := by subst hT; rfl
    have hH : gH T = gH S := by subst hT; rfl
    have hg : gG T = gG S := by subst hT; rfl
    obtain ⟨v6, v1, v8, v9, v10⟩ := v
    have hle : Mle S T := fun k => by
      by_cases e : k = x 2
      · subst e; rw [v6, v9]; exact ⟨by omega, fun _ _ => rfl⟩
      · rw [ho k 6 (Or.inl e), ho k 9 (Or.inl e)]; exact ⟨Nat.le_refl _, fun _ q => q⟩
    refine ⟨mF W (x 2) (x 4) (x 1), ?_⟩
    have hJ : JV F (mF W (x 2) (x 4) (x 1)) G c T := h.step (m := x 2) hP hQ hcc hle (fun k e => ⟨funext (fun w => ho k w (Or.inl e)), by rw [hK], by rw [hH]⟩) (fun _ _ _ _ => rfl) (fun j n hn => mF_o (by
        by_cases e : j = x 2
        · right; rw [e] at hn; omega
        · exact Or.inl e)) (fun _ _ _ _ _ => rfl)
      ⟨h1.of (ho _ 4 (Or.inr (by decide))) (ho _ 5 (Or.inr (by decide))) (ho _ 7 (Or.inr (by decide))), fun q => absurd v9 q, h3.of (fun t ht => by rw [hK] at ht; exact ht) hle (fun _ _ _ _ => rfl), fun q => absurd v9 q, h5.of hle (ho _ 2 (Or.inr (by decide))) (ho _ 3 (Or.inr (by decide))) (by rw [hH]) (fun _ _ _ _ _ => rfl)⟩
      (Or.inr (Or.inl (by rw [v6]; exact hp))) (fun q => absurd v9 q) (fun y hy => Or.inl (by rw [← hN]; exact hy)) (by rw [hg]; exact Nat.le_refl _)
    have h10 := far10 (S := T) (fun k => by rw [ho k 0 (Or.inr (by decide))]; exact hB k) (x 2) (x 1)
    refine hJ.send ⟨fun z => absurd (show (2 : Nat) = 0 from z) (by decide), fun z => absurd (show (2 : Nat) = 1 from z) (by decide), fun _ => ⟨?_, a2, mF_s, fun _ _ _ => ⟨?_, rfl, rfl⟩⟩, fun z => absurd (show (2 : Nat) = 3 from z) (by decide), ?_⟩
    · show x 4 ≤ gM T (x 1) 6
      rw [ho _ 6 (Or.inl hne)]; exact a1
    · show gM T (x 2) 2 < x 4
      rw [ho _ 2 (Or.inr (by decide))]; omega
    · show gG T 1 + mfar T (x 2) (x 1) ≤ gG T 1 + 10
      omega
  · rw [if_neg hp]; exact ⟨W, h⟩
