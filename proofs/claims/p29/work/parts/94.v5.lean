
/-! who speaks, leaves, comes back, is new -/
theorem say0_o {S : mS} {m k w : Nat} (h : k ≠ m ∨ (w ≠ 5 ∧ w ≠ 7)) : gM (msay0 S m) k w = gM S k w := by
  by_cases e : k = m
  · rcases h with h | ⟨h1, h2⟩
    · exact absurd e h
    · subst e; simp [msay0, sG, sM, gM, h1, h2]
  · simp [msay0, sG, sM, gM, e]
theorem say0_v {S : mS} {m : Nat} : gM (msay0 S m) m 5 = gM S m 5 ||| 1 <<< (4 * m + gM S m 7) ∧ gM (msay0 S m) m 7 = gM S m 7 + 1 := by simp [msay0, sG, sM, gM]
theorem IJ.say {c B : Nat} {S : mS} (h : IJ c S) (hB : NB c S B) {m : Nat} (hm : m < c) (h7 : gM S m 7 < 4) : IJ c (msay S m) := by
  obtain ⟨F, W, G, a, b, d⟩ := h
  obtain ⟨k1, k2, k3, k4, k5⟩ := d.1 m hm
  obtain ⟨g1, g2, g3, g4, g5, -⟩ := (a m hm).1
  obtain ⟨v5, v7⟩ := say0_v (S := S) (m := m)
  have so : ∀ k w, w ≠ 5 → w ≠ 7 → gM (msay0 S m) k w = gM S k w := fun k w a1 a2 => say0_o (Or.inr ⟨a1, a2⟩)
  have hle : Mle S (msay0 S m) := Mle.of (fun k => ⟨so k 6 (by decide) (by decide), so k 9 (by decide) (by decide)⟩)
  have a1 : MP F c (msay0 S m) := ((a.w (Or.inr (Or.inl rfl))).w (Or.inl rfl)).same rfl rfl
  have b1 : NP F (msay0 S m) := ((b.w (Or.inr (Or.inl rfl))).w (Or.inl rfl)).same (Mle.of fun _ => ⟨rfl, rfl⟩) rfl
  have d1 : JV F W G c (msay0 S m) := by
    refine d.one (m := m) a b hB.cc hle (fun k e => ⟨funext (fun w => say0_o (Or.inl e)), rfl, rfl⟩) ⟨⟨?_, fun j hj => ?_, fun j hj => ?_⟩, k2.of (so _ 1 (by decide) (by decide)) (so _ 9 (by decide) (by decide)) (so _ 10 (by decide) (by decide)), k3.of (fun t ht => ht) hle (fun _ _ _ _ => rfl), k4.of (fun w hw => so _ w (by omega) (by omega)) (fun j => ⟨so j 6 (by decide) (by decide), so j 2 (by decide) (by decide), so j 3 (by decide) (by decide)⟩), k5.of hle (so _ 2 (by decide) (by decide)) (so _ 3 (by decide) (by decide)) rfl (fun _ _ _ _ _ => rfl)⟩ (so _ 6 (by decide) (by decide)) (so _ 2 (by decide) (by decide)) (so _ 3 (by decide) (by decide)) (fun z => ⟨by rw [← so m 9 (by decide) (by decide)]; exact z, so _ 8 (by decide) (by decide)⟩) rfl rfl
    · rw [so _ 4 (by decide) (by decide)]; exact k1.1
    · rw [v5, v7]
      have := k1.2.1 j hj
      apply Bool.eq_iff_iff.mpr
      rw [tb_or, this, decide_eq_true_iff, decide_eq_true_iff]
      omega
    · rw [v5, tb_or] at hj
      rw [so _ 4 (by decide) (by decide)]
      rcases hj with z | z
      · exact k1.2.2 j z
      · rw [z, show (4 * m + gM S m 7) / 4 = m by omega]; exact g5
  have hU := ups_NP (F := F) (A := msay0 S m) (f := msayF m (4 * m + gM S m 7)) (gG S 0) (fun k S' => sayF_same.1) (fun k S' _ e hN => by
    unfold msayF
    split
    · rename_i q
      exact hN.send ⟨fun z => q.1 z.symm, fun _ => ⟨rfl, rfl⟩, fun z => absurd (show (0 : Nat) = 2 from z) (by decide), fun z => absurd (show (0 : Nat) = 3 from z) (by decide)⟩
    · exact hN) rfl b1
  obtain ⟨U1, U2, U3, U4, U5⟩ := ups_N (A := msay0 S m) (f := msayF m (4 * m + gM S m 7)) (P := fun x => ∃ k t p q e, t ≤ gG (msay0 S m) 1 + 10 ∧ x = mnote 0 m k t (gM S m 2) (gM S m 3) (4 * m + gM S m 7) p q e) (gG S 0) (fun k S' _ e e1 => by
    unfold msayF
    split
    · rename_i q
      refine ⟨msend_M, msend_K, msend_H, msend_G (by decide), fun x hx => (msend_N hx).imp_right (fun z => ⟨k, gG S' 1 + mfar S' m k, gM S' m 2, gM S' m 3, gM S' m 4, ?_, ?_⟩)⟩
      · have := far10 (S := S') (fun j => by rw [e, so j 0 (by decide) (by decide)]; exact hB.m0 j) m k
        rw [e1]; omega
      · rw [z, e, so m 2 (by decide) (by decide), so m 3 (by decide) (by decide)]
    · exact ⟨rfl, rfl, rfl, rfl, fun x hx => Or.inl hx⟩) (S := msay0 S m) rfl rfl
  unfold msay
  generalize mup (msayF m (4 * m + gM S m 7)) (gG S 0) (msay0 S m) = U at hU U1 U2 U3 U4 U5 ⊢
  refine ⟨F, W, G, a1.same U1 U2, hU.1, d1.same U1 U2 U3 (by rw [U4]; exact Nat.le_refl _) (fun x hx => (U5 x hx).imp_right (fun q => ?_))⟩
  obtain ⟨k, t, p, q, e, q3, rfl⟩ := q
  refine ⟨fun _ => ⟨?_, g2, ?_, ?_⟩, fun z => absurd (show (0 : Nat) = 1 from z) (by decide), fun z => absurd (show (0 : Nat) = 2 from z) (by decide), fun z => absurd (show (0 : Nat) = 3 from z) (by decide), ?_⟩
  · show (4 * m + gM S m 7) / 4 = m
    omega
  · show gM S m 2 ≤ gM U (gM S m 3) 6
    rw [U1, so _ 6 (by decide) (by decide)]; exact g3
  · show (F (gM S m 2) (gM S m 3)).testBit m = true
    rw [← g4]; exact g5
  · show t ≤ gG U 1 + 10
    rw [U4]; exact q3
theorem leave_o {S : mS} {m k w : Nat} (q : k ≠ m ∨ (w ≠ 8 ∧ w ≠ 9 ∧ w ≠ 10 ∧ w ≠ 1)) : gM (mleave S m) k w = gM S k w := by
  by_cases e : k = m
  · rcases q with q | ⟨q1, q2, q3, q5⟩
    · exact absurd e q
    · simp [mleave, mnone, sK, sM, gM, q1, q2, q3, q5]
  · simp [mleave, mnone, sK, sM, gM, e]
theorem leave_v {S : mS} {m : Nat} : gM (mleave S m) m 1 = 2 ∧ gM (mleave S m) m 8 = 0 ∧ gM (mleave S m) m 9 = 0 ∧ gM (mleave S m) m 10 = 0 ∧ gK (mleave S m) m = [] := by simp [mleave, mnone, sK, sM, gM, gK]
theorem IJ.leave {c B : Nat} {S : mS} (h : IJ c S) (hB : NB c S B) {m : Nat} (hm : m < c) : IJ c (mleave S m) := by
  obtain ⟨F, W, G, a, b, d⟩ := h
  obtain ⟨v1, v8, v9, v10, vK9⟩ := leave_v (S := S) (m := m)
  have ho : ∀ k w, k ≠ m ∨ (w ≠ 8 ∧ w ≠ 9 ∧ w ≠ 10 ∧ w ≠ 1) → gM (mleave S m) k w = gM S k w := fun k w q => leave_o q
  have hK : ∀ k, k ≠ m → gK (mleave S m) k = gK S k := fun k e => by simp [mleave, mnone, sK, sM, gK, e]
  have hle : Mle S (mleave S m) := fun k => by
    by_cases e : k = m
    · subst e; rw [ho k 6 (Or.inr (by decide)), v9]; exact ⟨Nat.le_refl _, fun _ _ => rfl⟩
    · rw [ho k 6 (Or.inl e), ho k 9 (Or.inl e)]; exact ⟨Nat.le_refl _, fun _ q => q⟩
  obtain ⟨k1, k2, k3, k4, k5⟩ := d.1 m hm
  refine ⟨F, W, G, fun k hk => ?_, b.same hle rfl, d.one (m := m) a b hB.cc hle (fun k e => ⟨funext (fun w => ho k w (Or.inl e)), hK k e, rfl⟩) ⟨k1.of (ho _ 4 (Or.inr (by decide))) (ho _ 5 (Or.inr (by decide))) (ho _ 7 (Or.inr (by decide))), fun q => absurd v9 q, k3.of (fun t ht => by rw [vK9] at ht; exact absurd ht List.not_mem_nil) hle (fun _ _ _ _ => rfl), fun q => absurd v9 q, k5.of hle (ho _ 2 (Or.inr (by decide))) (ho _ 3 (Or.inr (by decide))) rfl (fun _ _ _ _ _ => rfl)⟩ (ho _ 6 (Or.inr (by decide))) (ho _ 2 (Or.inr (by decide))) (ho _ 3 (Or.inr (by decide))) (fun q => absurd v9 q) rfl rfl⟩
  obtain ⟨g1, g2⟩ := a k hk
  by_cases e : k = m
  · subst e
    refine ⟨?_, fun q => absurd v9 q⟩
    obtain ⟨b1, b2, b3, b4, b5, b6, b7, b8⟩ := g1
    unfold mOK
    rw [v1, v8, v9, v10, vK9, ho k 2 (Or.inr (by decide)), ho k 3 (Or.inr (by decide)), ho k 4 (Or.inr (by decide)), ho k 6 (Or.inr (by decide))]
    exact ⟨b1, b2, Nat.le_trans b3 (hle _).1, b4, b5, fun _ => ⟨rfl, rfl⟩, fun q => absurd rfl q, fun _ => ⟨rfl, rfl⟩⟩
  · exact ⟨g1.o (Nat.le_refl c) (fun w _ _ _ => ho k w (Or.inl e)) (hK k e) (hle _).1 rfl (fun _ => rfl), g2.o hle (fun w _ _ _ => ho k w (Or.inl e))⟩
theorem IJ.back {c B : Nat} {S : mS} (h : IJ c S) (hB : NB c S B) {m : Nat} (hm : m < c) (h1 : gM S m 1 = 2) : IJ c (mback S m) := by
  obtain ⟨F, W, G, a, b, d⟩ := h
  have h9 : gM S m 9 = 0 := ((a m hm).1.2.2.2.2.2.2.2 h1).1
  have hK0 : gK S m = [] := ((a m hm).1.2.2.2.2.2.2.2 h1).2
  have ho : ∀ k w, k ≠ m ∨ (w ≠ 1 ∧ w ≠ 2 ∧ w ≠ 3 ∧ w ≠ 4 ∧ w ≠ 5 ∧ w ≠ 6 ∧ w ≠ 7) → gM (mback S m) k w = gM S k w := fun k w q => by
    by_cases e : k = m
    · rcases q with q | ⟨q1, q2, q3, q4, q5, q6, q7⟩
      · exact absurd e q
      · simp [mback, menter, mover, sH, sM, gM, q1, q2, q3, q4, q5, q6, q7]
    · simp [mback, menter, mover, sH, sM, gM, e]
  have v : gM (mback S m) m 1 = 0 ∧ gM (mback S m) m 2 = gM S m 6 + 1 ∧ gM (mback S m) m 3 = m ∧ gM (mback S m) m 4 = 1 <<< m ∧ gM (mback S m) m 6 = gM S m 6 + 1 ∧ gM (mback S m) m 5 = 0 ∧ gM (mback S m) m 7 = 0 := by simp [mback, menter, mover, sH, sM, gM]
  have vH : gH (mback S m) m = (if (gH S m).length = 5 then (gH S m).drop 1 else gH S m) ++ [(gM S m 2, gM S m 3, gM S m 5)] := by simp [mback, menter, mover, sH, sM, gM, gH]
  have hH : ∀ k, k ≠ m → gH (mback S m) k = gH S k := fun k e => by simp [mback, menter, mover, sH, sM, gH, e]
  have hK : gK (mback S m) = gK S := rfl
  obtain ⟨v1, v2, v3, v4, v6, v5, v7⟩ := v
  have h9' : gM (mback S m) m 9 = 0 := by rw [ho m 9 (Or.inr (by decide))]; exact h9
  have hle : Mle S (mback S m) := fun k => by
    by_cases e : k = m
    · subst e; rw [v6]; exact ⟨by omega, fun q => by omega⟩
    · rw [ho k 6 (Or.inl e), ho k 9 (Or.inl e)]; exact ⟨Nat.le_refl _, fun _ q => q⟩
  have hFo : ∀ n b, b < c → n ≤ gM S b 6 → mF F (gM S m 6 + 1) m (1 <<< m) n b = F n b := fun n b _ hle => mF_o (by
    by_cases e : b = m
    · left; rw [e] at hle; omega
    · exact Or.inr e)
  have hGo : ∀ p q n e, pOK S e n → (if n = gM S m 6 + 1 ∧ e = m then (if p = gM S m 2 ∧ q = gM S m 3 then gM S m 5 else G p q n e) else G p q n e) = G p q n e := fun p q n e z => if_neg (fun y => by
    rw [y.2, y.1] at z; have := z.1; omega)
  obtain ⟨k1, k2, k3, k4, k5⟩ := d.1 m hm
  refine ⟨mF F (gM S m 6 + 1) m (1 <<< m), W, fun p q n e => if n = gM S m 6 + 1 ∧ e = m then (if p = gM S m 2 ∧ q = gM S m 3 then gM S m 5 else G p q n e) else G p q n e, fun k hk => ?_, fun x hx => ?_, d.step (m := m) a b hB.cc hle (fun k e => ⟨funext (fun w => ho k w (Or.inl e)), by rw [hK], hH k e⟩) hFo (fun _ _ _ => rfl) hGo ⟨⟨?_, fun j hj => ?_, fun j hj => ?_⟩, fun q => absurd h9' q, fun t ht => ?_, fun q => absurd h9' q, ?_⟩ (Or.inr (Or.inl (by rw [v6]; omega))) (fun q => absurd h9' q) (fun y hy => Or.inl hy) (Nat.le_refl _)⟩
  · obtain ⟨g1, g2⟩ := a k hk
    by_cases e : k = m
    · subst e
      refine ⟨?_, fun q => absurd h9' q⟩
      obtain ⟨b1, b2, b3, b4, b5, b6, b7, b8⟩ := g1
      unfold mOK
      rw [v1, v2, v3, v4, v6, h9', ho k 8 (Or.inr (by decide)), ho k 10 (Or.inr (by decide)), mF_s]
      refine ⟨Nat.le_refl _, hk, Nat.le_refl _, rfl, ?_, fun _ => b6 h9, fun q => absurd rfl q, fun q => absurd q (by decide)⟩
      rw [Nat.one_shiftLeft, Nat.testBit_two_pow_self]
    · have hold : mF F (gM S m 6 + 1) m (1 <<< m) (gM S k 2) (gM S k 3) = F (gM S k 2) (gM S k 3) := hFo _ _ g1.2.1 g1.2.2.1
      exact ⟨g1.o (Nat.le_refl c) (fun w _ _ _ => ho k w (Or.inl e)) (by rw [hK]) (hle _).1 hold (fun _ => mF_o (Or.inr e)), g2.o hle (fun w _ _ _ => ho k w (Or.inl e))⟩
  · have hx1 := b x hx
    refine hx1.mono hle (fun q => mF_o ?_)
    obtain ⟨_, q2, _, _, q5⟩ := hx1.2.2.2 q
    by_cases e : x 5 = m
    · left; rw [q2] at e; rw [e] at q5; omega
    · exact Or.inr e
  · rw [v4, Nat.one_shiftLeft]; exact Nat.pow_lt_pow_right (by decide) hm
  · rw [v5, v7, Nat.zero_testBit]; exact (decide_eq_false (Nat.not_lt_zero j)).symm
  · rw [v5, Nat.zero_testBit] at hj; exact absurd hj (by decide)
  · rw [hK, hK0] at ht; exact absurd ht List.not_mem_nil
  · unfold uH
    rw [vH, v2, v3]
    refine uC.over (G := G) (S := S) (p := (gM S m 2, gM S m 3)) (q := (gM S m 6 + 1, m)) k5 hle hGo (by show gM S m 2 < gM S m 6 + 1; have := (a m hm).1.1; omega) ⟨by rw [v6]; exact Nat.le_refl _, fun _ => h9'⟩ ?_
    show gM S m 5 = if gM S m 6 + 1 = gM S m 6 + 1 ∧ m = m then (if gM S m 2 = gM S m 2 ∧ gM S m 3 = gM S m 3 then gM S m 5 else _) else _
    rw [if_pos ⟨rfl, rfl⟩, if_pos ⟨rfl, rfl⟩]
theorem IJ.add {c B : Nat} {S : mS} (h : IJ c S) (hB : NB c S B) (hF : Fr c S) {p : Nat} (hc6 : c < 6) : IJ (c + 1) (madd S p) := by
  obtain ⟨F, W, G, a, b, d⟩ := h
  have hc := hB.c0
  have ho : ∀ k w, w ≠ 0 → gM (madd S p) k w = gM S k w := fun k w q => by simp [madd, sG, sM, gM, q]
  have hoc : ∀ k w, k ≠ c → gM (madd S p) k w = gM S k w := fun k w e => by
    show (if k = gG S 0 then _ else S.2.1 k w) = _
    rw [if_neg (by rw [hc]; exact e)]
  have hle : Mle S (madd S p) := Mle.of fun k => ⟨ho k 6 (by decide), ho k 9 (by decide)⟩
  have hfr := hF c (Nat.le_refl c) hc6
  have hv : ∀ w, w ≠ 0 → gM (madd S p) c w = if w = 3 then c else if w = 4 then 1 <<< c else 0 := fun w q => (ho c w q).trans (hfr.1 w)
  have h2 : (2 : Nat) ^ c ≤ 2 ^ (c + 1) := Nat.pow_le_pow_right (by decide) (Nat.le_succ c)
  have hFo : ∀ n b, b < c → mF F 0 c (1 <<< c) n b = F n b := fun n b q => mF_o (Or.inr (Nat.ne_of_lt q))
  refine ⟨mF F 0 c (1 <<< c), W, G, fun k hk => ?_, fun x hx => ?_, fun k hk => ?_, fun x hx => ?_⟩
  · by_cases e : k = c
    · subst e
      refine ⟨?_, fun q => absurd (hv 9 (by decide)) q⟩
      unfold mOK
      rw [hv 1 (by decide), hv 2 (by decide), hv 3 (by decide), hv 4 (by decide), hv 6 (by decide), hv 8 (by decide), hv 9 (by decide), hv 10 (by decide)]
      refine ⟨Nat.zero_le _, hk, Nat.zero_le _, mF_s.symm, ?_, fun _ => ⟨rfl, rfl⟩, fun q => absurd rfl q, fun q => absurd (show (0 : Nat) = 2 from q) (by decide)⟩
      show (1 <<< k).testBit k = true
      rw [Nat.one_shiftLeft, Nat.testBit_two_pow_self]
    · obtain ⟨g1, g2⟩ := a k (by omega)
      exact ⟨g1.o (Nat.le_succ c) (fun w _ _ _ => hoc k w e) rfl (hle _).1 (hFo _ _ g1.2.1) (fun _ => hFo _ _ (by omega)), g2.o hle (fun w _ _ _ => hoc k w e)⟩
  · have hx1 := b x hx
    refine ⟨hx1.1, hx1.2.1, fun q => ⟨(hx1.2.2.1 q).1, (hx1.2.2.1 q).2.mono hle⟩, fun q => ?_⟩
    obtain ⟨q1, q2, q3, q4, q5⟩ := hx1.2.2.2 q
    have e := (hB.cc x hx).1
    exact ⟨q1.mono hle, q2, by rw [hFo _ _ (by rw [q2]; exact e)]; exact q3, q4, Nat.le_trans q5 (hle _).1⟩
  · by_cases e : k = c
    · subst e
      refine ⟨⟨?_, fun j hj => ?_, fun j hj => ?_⟩, fun q => absurd (hv 9 (by decide)) q, fun t ht => ?_, fun q => absurd (hv 9 (by decide)) q, ⟨⟨?_, fun _ => by show gM (madd S p) (gM (madd S p) k 3) 9 = 0; rw [hv 3 (by decide)]; exact hv 9 (by decide)⟩, fun i hi => ?_⟩⟩
      · rw [hv 4 (by decide)]
        show 1 <<< k < 2 ^ (k + 1)
        rw [Nat.one_shiftLeft]; exact Nat.pow_lt_pow_right (by decide) (Nat.lt_succ_self k)
      · rw [hv 5 (by decide), hv 7 (by decide)]
        show (0 : Nat).testBit (4 * k + j) = decide (j < 0)
        rw [Nat.zero_testBit]; exact (decide_eq_false (Nat.not_lt_zero j)).symm
      · rw [hv 5 (by decide)] at hj
        exact absurd (show (0 : Nat).testBit j = true from hj) (by rw [Nat.zero_testBit]; decide)
      · exact absurd (show t ∈ gK S k from ht) (by rw [hfr.2.1]; exact List.not_mem_nil)
      · show gM (madd S p) k 2 ≤ _
        rw [hv 2 (by decide)]; exact Nat.zero_le _
      · replace hi : i < (gH S k).length := hi
        rw [hfr.2.2] at hi; exact absurd hi (Nat.not_lt_zero i)
    · obtain ⟨k1, k2, k3, k4, k5⟩ := d.1 k (by omega)
      refine ⟨⟨?_, ?_⟩, fun q => ?_, fun t ht => ?_, k4.of (fun w _ => hoc k w e) (fun j => ⟨ho j 6 (by decide), ho j 2 (by decide), ho j 3 (by decide)⟩), k5.of hle (hoc k 2 e) (hoc k 3 e) rfl (fun _ _ _ _ _ => rfl)⟩
      · rw [hoc k 4 e]; exact Nat.lt_of_lt_of_le k1.1 h2
      · rw [hoc k 4 e, hoc k 5 e, hoc k 7 e]; exact k1.2
      · rw [hoc k 9 e] at q
        rw [hoc k 9 e, hoc k 1 e, hoc k 10 e]
        exact ⟨Nat.lt_of_lt_of_le (k2 q).1 h2, (k2 q).2⟩
      · obtain ⟨t1, t2, t3, t4⟩ := k3 t ht
        exact ⟨t1, by omega, Nat.le_trans t3 (hle _).1, by rw [hFo _ _ t2]; exact t4⟩
  · obtain ⟨n1, n2, n3, n4, n5⟩ := d.2 x hx
    obtain ⟨c1, c2⟩ := hB.cc x hx
    refine ⟨fun z => ?_, fun z => ?_, fun z => ?_, fun z => ?_, n5⟩
    · obtain ⟨a1, a2, a3, a4⟩ := n1 z
      exact ⟨a1, by omega, Nat.le_trans a3 (hle _).1, by rw [hFo _ _ a2]; exact a4⟩
    · obtain ⟨a1, a2⟩ := n2 z
      exact ⟨Nat.le_trans a1 (hle _).1, by rw [hFo _ _ c1]; exact a2⟩
    · obtain ⟨a1, a2, a3, a4⟩ := n3 z
      refine ⟨Nat.le_trans a1 (hle _).1, by rw [hFo _ _ c2]; exact a2, a3, ?_⟩
      rw [ho _ 9 (by decide), ho _ 8 (by decide), ho _ 6 (by decide), ho _ 2 (by decide), ho _ 3 (by decide)]; exact a4
    · obtain ⟨a1, a2, a3, a4⟩ := n4 z
      refine ⟨Nat.lt_of_lt_of_le a1 h2, a2, a3.mono hle, ?_⟩
      rw [ho _ 6 (by decide), ho _ 2 (by decide), ho _ 3 (by decide)]; exact a4
theorem IJ0 : IJ 0 mS0 := ⟨fun _ _ => 0, fun _ _ => 0, fun _ _ _ _ => 0, fun m hm => absurd hm (Nat.not_lt_zero m), fun x hx => absurd hx List.not_mem_nil, fun m hm => absurd hm (Nat.not_lt_zero m), fun x hx => absurd hx List.not_mem_nil⟩
