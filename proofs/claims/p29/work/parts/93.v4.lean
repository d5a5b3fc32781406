
/-! WHAT HOLDS OF EVERY CLUB, step by step -/
def IJ (c : Nat) (S : mS) : Prop := ∃ F W G, MP F c S ∧ NP F S ∧ JV F W G c S
theorem IJ.ip {c : Nat} {S : mS} (h : IJ c S) : IP c S := by
  obtain ⟨F, W, G, a, b, -⟩ := h
  exact ⟨F, a, b⟩
theorem IJ.g {c : Nat} {S : mS} (h : IJ c S) {i x : Nat} (hi : i ≠ 1) : IJ c (sG S i x) := by
  obtain ⟨F, W, G, a, b, d⟩ := h
  exact ⟨F, W, G, a.same rfl rfl, b.same (Mle.of fun _ => ⟨rfl, rfl⟩) rfl, d.g hi⟩
theorem IJ.time {c : Nat} {S : mS} (h : IJ c S) : IJ c (sG S 1 (gG S 1 + 1)) := by
  obtain ⟨F, W, G, a, b, d⟩ := h
  exact ⟨F, W, G, a.same rfl rfl, b.same (Mle.of fun _ => ⟨rfl, rfl⟩) rfl, d.same rfl rfl rfl (by show gG S 1 ≤ gG S 1 + 1; omega) (fun y hy => Or.inl hy)⟩
theorem speech_all {F : Nat → Nat → Nat} {c : Nat} {S : mS} {x : mN} (a : MP F c S) (b : NP F S) (h1 : gM S (x 2) 1 ≠ 2) : MP F c (mspeech S x) ∧ NP F (mspeech S x) := by
  unfold mspeech
  split
  · exact ⟨a.w (Or.inl rfl), b.w (Or.inl rfl)⟩
  · split
    · exact ⟨a.k (fun q => absurd q h1), b.same (Mle.of fun _ => ⟨rfl, rfl⟩) rfl⟩
    · exact ⟨a.same rfl rfl, b.same (Mle.of fun _ => ⟨rfl, rfl⟩) rfl⟩
theorem IJ.read {c : Nat} {S : mS} {x : mN} (h : ∃ F W G, MP F c S ∧ NP F S ∧ JV F W G c S ∧ nOK F S x ∧ uN F W G c S x) (hcc : ∀ x, x ∈ gN S → x 1 < c ∧ x 2 < c) (hB : ∀ k, gM S k 0 ≤ 9) (h0 : x 0 ≤ 3) (h1 : x 1 < c) (h2 : x 2 < c) : IJ c (mread S x) := by
  obtain ⟨F, W, G, a, b, d, hx, hu⟩ := h
  unfold mread
  split
  · exact IJ.g ⟨F, W, G, a, b, d⟩ (by decide)
  · rename_i q
    split
    · rename_i q0
      exact ⟨F, W, G, (speech_all a b q).1, (speech_all a b q).2, d.speech a b hcc hu q0 h2 hx.1⟩
    · split
      · rename_i q1
        obtain ⟨W', e⟩ := d.called a b hcc hB hu q1 h2 hx.1
        exact ⟨F, W', G, (called_all a b hx h2).1, (called_all a b hx h2).2, e⟩
      · split
        · rename_i q2
          have hr := replied_all a b hx h2 q2
          obtain ⟨u1, u2, u3, u4⟩ := hu.2.2.1 q2
          obtain ⟨g1, g2⟩ := a _ h2
          obtain ⟨e1, e2⟩ := hx.2.2.1 q2
          unfold mreplied at hr ⊢
          by_cases z : gM S (x 2) 8 = x 4
          · rw [if_pos z] at hr ⊢
            have h9 : gM S (x 2) 9 ≠ 0 := fun z9 => by have := (g1.2.2.2.2.2.1 z9).1; omega
            have g7 := g1.2.2.2.2.2.2.1 h9
            obtain ⟨G', e⟩ := d.ans (a.x _) b hcc hB h2 h9 (Or.inr ⟨(g2 h9).1, by rw [z]; exact e2⟩) (by rw [g7.2.2.1, ← g7.1, z]; exact u2) (by rw [z]; exact u3) (fun z6 => by rw [z] at z6 ⊢; exact u4 h9 z z6) (num := x 7) (by9 := x 8) (heard := x 6)
            exact ⟨F, W, G', hr.1, hr.2, e⟩
          · rw [if_neg z] at hr ⊢
            exact ⟨F, W, G, a, b, d⟩
        · have q3 : x 0 = 3 := by omega
          obtain ⟨e1, e2, e3, e4, e5⟩ := hx.2.2.2 q3
          exact ⟨F, W, G, a.told h2 (by rw [e2]; exact h1) e1 e3 e4 (by rw [e2]; exact e5), b.told, d.told a b hcc hu hx q3 h1 h2⟩
theorem IJ.comes {c B : Nat} {S : mS} (h : IJ c S) (hB : NB c S B) (hl : 0 < (gN S).length) : IJ c (mcomes S) := by
  obtain ⟨F, W, G, a, b, d⟩ := h
  have hx := hB.n (head_mem hl)
  have hle : Mle S (sN S ((gN S).drop 1)) := Mle.of fun _ => ⟨rfl, rfl⟩
  exact IJ.read ⟨F, W, G, a.same rfl rfl, fun y hy => (b y (List.mem_of_mem_drop hy)).mono hle (fun _ => rfl), d.same rfl rfl rfl (Nat.le_refl _) (fun y hy => Or.inl (List.mem_of_mem_drop hy)), (b _ (head_mem hl)).mono hle (fun _ => rfl), (d.2 _ (head_mem hl)).same rfl (Nat.le_refl _)⟩ hB.drop1.cc (fun k => hB.m0 k) hx.1 hx.2.1 hx.2.2.1
theorem IJ.drain {c : Nat} : ∀ (n : Nat) {B : Nat} {S : mS}, IJ c S → NB c S B → IJ c (mdrain n S) := by
  intro n
  induction n with
  | zero => intro B S h hB; exact h
  | succ n ih =>
    intro B S h hB
    by_cases q : mdue S
    · rw [drain_step q]
      exact ih (h.comes hB q.1) (hB.comes q.1)
    · rw [drain_stop q]; exact h
/-- a call, with what its roll's set is -/
theorem IJ.call {c B : Nat} {S : mS} (h : IJ c S) (hB : NB c S B) {m set : Nat} (hm : m < c) (hs : set.testBit m = true) (h2c : set < 2 ^ c) : IJ c (mcall S m set) := by
  obtain ⟨F, W, G, h, hn, d⟩ := h
  obtain ⟨v6, v1, v8, v9, v10⟩ := start_v (S := S) (m := m) (set := set)
  have hs0 := tb0 hs
  have hN1 : NP (mF F (gM S m 6 + 1) m set) (mstart S m set) := by
    intro x hx
    have hx1 := hn x hx
    refine hx1.mono start_le (fun q => mF_o ?_)
    obtain ⟨_, q2, _, _, q5⟩ := hx1.2.2.2 q
    by_cases e : x 5 = m
    · left; rw [q2] at e; rw [e] at q5; omega
    · exact Or.inr e
  have hM1 : MPx (mF F (gM S m 6 + 1) m set) c (mstart S m set) m := by
    intro k hk
    obtain ⟨g1, g2⟩ := h k hk
    have hold : mF F (gM S m 6 + 1) m set (gM S k 2) (gM S k 3) = F (gM S k 2) (gM S k 3) := by
      refine mF_o ?_
      by_cases e : gM S k 3 = m
      · left; have := g1.2.2.1; rw [e] at this; omega
      · exact Or.inr e
    by_cases e : k = m
    · subst e
      refine ⟨?_, fun q => absurd rfl q, fun _ j _ hb => ?_⟩
      · obtain ⟨b1, b2, b3, b4, b5, b6, b7, b8⟩ := g1
        unfold mOK
        rw [v6, v1, v8, v9, v10, start_o (w := 2) (Or.inr (by decide)), start_o (w := 3) (Or.inr (by decide)), start_o (w := 4) (Or.inr (by decide)), hold, mF_s]
        exact ⟨by omega, b2, Nat.le_trans b3 (start_le _).1, b4, b5, fun q => absurd q hs0, fun _ => ⟨rfl, by omega, rfl, hs⟩, fun q => absurd q (by decide)⟩
      · rw [v10, Nat.zero_testBit] at hb; exact absurd hb (by decide)
    · have hw : ∀ w, gM (mstart S m set) k w = gM S k w := fun w => start_o (Or.inl e)
      have ha : aOK (mstart S m set) k := g2.o start_le (fun w _ _ _ => hw w)
      exact ⟨g1.o (Nat.le_refl c) (fun w _ _ _ => hw w) rfl (start_le _).1 hold (fun _ => mF_o (Or.inr e)), fun _ => ha, fun q => (ha q).2⟩
  have hFo : ∀ n b, b < c → n ≤ gM S b 6 → mF F (gM S m 6 + 1) m set n b = F n b := fun n b _ hle => mF_o (by
    by_cases e : b = m
    · left; rw [e] at hle; omega
    · exact Or.inr e)
  obtain ⟨k1, k2, k3, k4, k5⟩ := d.1 m hm
  have so : ∀ w, w ≠ 6 → w ≠ 1 → w ≠ 8 → w ≠ 9 → w ≠ 10 → w ≠ 11 → gM (mstart S m set) m w = gM S m w := fun w a1 a2 a3 a4 a5 a6 => start_o (Or.inr ⟨a1, a2, a3, a4, a5, a6⟩)
  have dJ : JV (mF F (gM S m 6 + 1) m set) (mF W m (gM S m 6 + 1) m) G c (mstart S m set) := d.step (m := m) h hn hB.cc start_le (fun k e => ⟨funext (fun w => start_o (Or.inl e)), rfl, rfl⟩) hFo (fun j n hle => mF_o (by
      by_cases e : j = m
      · right; rw [e] at hle; omega
      · exact Or.inl e)) (fun _ _ _ _ _ => rfl)
    ⟨k1.of (so 4 (by decide) (by decide) (by decide) (by decide) (by decide) (by decide)) (so 5 (by decide) (by decide) (by decide) (by decide) (by decide) (by decide)) (so 7 (by decide) (by decide) (by decide) (by decide) (by decide) (by decide)), fun _ => ⟨by rw [v9]; exact h2c, v1, by rw [v9, v10]; exact fun z => hs0 z.symm, fun j hj => by rw [v10, Nat.zero_testBit] at hj; exact absurd hj (by decide)⟩, k3.of (fun t ht => ht) start_le hFo, fun _ j hj => by rw [v10, Nat.zero_testBit] at hj; exact absurd hj (by decide), k5.of start_le (so 2 (by decide) (by decide) (by decide) (by decide) (by decide) (by decide)) (so 3 (by decide) (by decide) (by decide) (by decide) (by decide) (by decide)) rfl (fun _ _ _ _ _ => rfl)⟩
    (Or.inr (Or.inl (by rw [v6]; omega))) (fun _ => Or.inr (by rw [v8]; omega)) (fun x hx => Or.inl hx) (Nat.le_refl _)
  have h0 : ∀ k, gM (mstart S m set) k 0 ≤ 9 := fun k => by rw [start_o (Or.inr (by decide))]; exact hB.m0 k
  have hU := ups_NP (F := mF F (gM S m 6 + 1) m set) (A := mstart S m set) (f := mcallF m (gM S m 6 + 1) set) (gG S 0) (fun k S' => callF_same.1) (fun k S' _ e hN => by
    unfold mcallF
    split
    · rename_i q
      exact hN.send ⟨fun z => q.1 z.symm, fun z => absurd (show (1 : Nat) = 0 from z) (by decide), fun z => absurd (show (1 : Nat) = 2 from z) (by decide), fun z => absurd (show (1 : Nat) = 3 from z) (by decide)⟩
    · exact hN) rfl hN1
  obtain ⟨U1, U2, U3, U4, U5⟩ := ups_N (A := mstart S m set) (f := mcallF m (gM S m 6 + 1) set) (P := fun x => ∃ k t a b e, k ≠ m ∧ set.testBit k = true ∧ t ≤ gG (mstart S m set) 1 + 10 ∧ x = mnote 1 m k t (gM S m 6 + 1) m set a b e) (gG S 0) (fun k S' _ e e1 => by
    unfold mcallF
    split
    · rename_i q
      refine ⟨msend_M, msend_K, msend_H, msend_G (by decide), fun x hx => (msend_N hx).imp_right (fun z => ⟨k, gG S' 1 + mfar S' m k, gM S' m 2, gM S' m 3, gM S' m 4, q.1, q.2, ?_, z⟩)⟩
      have := far10 (S := S') (fun j => by rw [e]; exact h0 j) m k
      rw [e1]; omega
    · exact ⟨rfl, rfl, rfl, rfl, fun x hx => Or.inl hx⟩) (S := mstart S m set) rfl rfl
  have hBU := (hB.sends hm (Nat.lt_of_lt_of_le h2c (Nat.pow_le_pow_right (by decide) hB.c6)) (gG S 0) (Nat.le_of_eq hB.c0)).cc
  unfold mcall msends
  generalize mup (mcallF m (gM S m 6 + 1) set) (gG S 0) (mstart S m set) = U at hU U1 U2 U3 U4 U5 hBU ⊢
  have hJU : JV (mF F (gM S m 6 + 1) m set) (mF W m (gM S m 6 + 1) m) G c U := dJ.same U1 U2 U3 (by rw [U4]; exact Nat.le_refl _) (fun x hx => (U5 x hx).imp_right (fun q => by
    obtain ⟨k, t, a, b, e, q1, q2, q3, rfl⟩ := q
    refine ⟨fun z => absurd (show (1 : Nat) = 0 from z) (by decide), fun _ => ⟨?_, ?_⟩, fun z => absurd (show (1 : Nat) = 2 from z) (by decide), fun z => absurd (show (1 : Nat) = 3 from z) (by decide), ?_⟩
    · show gM S m 6 + 1 ≤ gM U m 6
      rw [U1, v6]; exact Nat.le_refl _
    · show (mF F (gM S m 6 + 1) m set (gM S m 6 + 1) m).testBit k = true
      rw [mF_s]; exact q2
    · show t ≤ gG U 1 + 10
      rw [U4]; exact q3))
  have hle : Mle (mstart S m set) U := Mle.of (fun k => by rw [U1]; exact ⟨rfl, rfl⟩)
  have hMU : MPx (mF F (gM S m 6 + 1) m set) c U m := by
    intro k hk
    obtain ⟨g1, g2, g3⟩ := hM1 k hk
    refine ⟨g1.o (Nat.le_refl c) (fun w _ _ _ => by rw [U1]) (by rw [U2]) (hle _).1 rfl (fun _ => rfl), fun q => (g2 q).o hle (fun w _ _ _ => by rw [U1]), ?_⟩
    rw [U1]
    exact fun q j hj hb => (g3 q j hj hb).mono hle
  have h9 : gM U m 9 ≠ 0 := by rw [U1, v9]; exact hs0
  obtain ⟨r1, r2⟩ := ans_all hMU hU.1 hm h9 (Or.inl rfl) (num := gM S m 2) (by9 := gM S m 3) (heard := gM S m 5)
  obtain ⟨G', r3⟩ := hJU.ans hMU hU.1 hBU (fun k => by rw [U1]; exact h0 k) hm h9 (Or.inl rfl) (by rw [U1, v9]; exact hs) (by rw [U1, v8]; exact mF_s) (fun _ => by
    rw [U1, v8, so 2 (by decide) (by decide) (by decide) (by decide) (by decide) (by decide), so 3 (by decide) (by decide) (by decide) (by decide) (by decide) (by decide)]
    exact ⟨by have := (h m hm).1.1; omega, rfl, rfl⟩) (num := gM S m 2) (by9 := gM S m 3) (heard := gM S m 5)
  exact ⟨_, _, G', r1, r2, r3⟩
theorem IJ.wait {c B : Nat} {S : mS} (h : IJ c S) (hB : NB c S B) {m : Nat} (hm : m < c) : IJ c (mwaitF m S) := by
  unfold mwaitF
  split
  · rename_i q
    obtain ⟨F, W, G, a, b, d⟩ := h
    obtain ⟨g1, g2⟩ := a m hm
    have h9 : gM S m 9 ≠ 0 := fun z => by have := (g1.2.2.2.2.2.1 z).1; omega
    obtain ⟨y1, y2, y3, y4⟩ := (d.1 m hm).2.1 h9
    exact IJ.call ⟨F, W, G, a, b, d⟩ hB hm (g2 h9).1 (Nat.lt_of_le_of_lt (Nat.le_of_testBit y4) y1)
  · exact h
theorem IJ.ups {c : Nat} {f : Nat → mS → mS} (n e : Nat) (hf : ∀ k S B, k < n → IJ c S → NB c S B → IJ c (f k S) ∧ NB c (f k S) (B + e)) {S : mS} : ∀ {B : Nat}, IJ c S → NB c S B → IJ c (mup f n S) ∧ ∃ D, NB c (mup f n S) D := by
  intro B h hB
  induction n with
  | zero => exact ⟨h, B, hB⟩
  | succ n ih =>
    obtain ⟨a, D, b⟩ := ih (fun k S B hk => hf k S B (by omega))
    obtain ⟨p, q⟩ := hf n _ D (Nat.lt_succ_self n) a b
    exact ⟨p, _, q⟩
theorem IJ.tick {c B : Nat} {S : mS} (h : IJ c S) (hB : NB c S B) : IJ c (mtick S) := by
  have h1 : IJ c (mdrain (gN S).length (sG S 1 (gG S 1 + 1))) := IJ.drain _ h.time hB.time
  unfold mtick
  split
  · refine (IJ.ups _ 14 (fun k S' B' hk h' hB' => ⟨h'.wait hB' ?_, hB'.wait ?_⟩) h1 hB.drained).1
    · rw [hB.c0] at hk; exact hk
    · rw [hB.c0] at hk; exact hk
  · exact h1
theorem IJ.ticks {c B : Nat} {S : mS} (h : IJ c S) (hB : NB c S B) : ∀ n, IJ c (mticks n S) := by
  intro n
  induction n with
  | zero => exact h
  | succ n ih => exact ih.tick (hB.ticks n)
theorem IJ.cut {c : Nat} {S : mS} (h : IJ c S) {a b : Nat} (cut : Bool) : IJ c (mcut S a b cut) := by
  unfold mcut
  cases cut
  · exact (h.g (by omega)).g (by omega)
  · exact (h.g (by omega)).g (by omega)
