
/-! the invariant, step by step -/
theorem ups_same {f : Nat → mS → mS} (n : Nat) (hf : ∀ k S, gM (f k S) = gM S ∧ gK (f k S) = gK S) (S : mS) : gM (mup f n S) = gM S ∧ gK (mup f n S) = gK S := by
  induction n with
  | zero => exact ⟨rfl, rfl⟩
  | succ n ih => exact ⟨(hf n _).1.trans ih.1, (hf n _).2.trans ih.2⟩
theorem ups_NP {F : Nat → Nat → Nat} {A : mS} {f : Nat → mS → mS} (n : Nat) (hM : ∀ k S, gM (f k S) = gM S) (hf : ∀ k S, k < n → gM S = gM A → NP F S → NP F (f k S)) {S : mS} (hS : gM S = gM A) (h : NP F S) : NP F (mup f n S) ∧ gM (mup f n S) = gM A := by
  induction n with
  | zero => exact ⟨h, hS⟩
  | succ n ih =>
    obtain ⟨a, b⟩ := ih (fun k S hk => hf k S (by omega))
    exact ⟨hf n _ (Nat.lt_succ_self n) b a, (hM n _).trans b⟩
theorem standsF_same {m num set k : Nat} {S : mS} : gM (mstandsF m num set k S) = gM S ∧ gK (mstandsF m num set k S) = gK S := by
  unfold mstandsF; split
  · exact ⟨msend_M, msend_K⟩
  · exact ⟨rfl, rfl⟩
theorem callF_same {m num set k : Nat} {S : mS} : gM (mcallF m num set k S) = gM S ∧ gK (mcallF m num set k S) = gK S := by
  unfold mcallF; split
  · exact ⟨msend_M, msend_K⟩
  · exact ⟨rfl, rfl⟩
theorem sayF_same {m bit k : Nat} {S : mS} : gM (msayF m bit k S) = gM S ∧ gK (msayF m bit k S) = gK S := by
  unfold msayF; split
  · exact ⟨msend_M, msend_K⟩
  · exact ⟨rfl, rfl⟩
theorem none_o {S : mS} {m k w : Nat} (h : k ≠ m ∨ (w ≠ 8 ∧ w ≠ 9 ∧ w ≠ 10)) : gM (mnone S m) k w = gM S k w := by
  show (if k = m then _ else (if k = m then _ else (if k = m then _ else S.2.1 k w))) = S.2.1 k w
  rcases h with h | ⟨h1, h2, h3⟩
  · rw [if_neg h]; rw [if_neg h]; rw [if_neg h]
  · by_cases e : k = m
    · subst e; simp [sM, h1, h2, h3]
    · rw [if_neg e]; rw [if_neg e]; rw [if_neg e]
theorem none_0 {S : mS} {m : Nat} : gM (mnone S m) m 8 = 0 ∧ gM (mnone S m) m 9 = 0 ∧ gM (mnone S m) m 10 = 0 := by simp [mnone, sM, gM]
theorem none_K {S : mS} {m : Nat} : gK (mnone S m) = gK S := rfl
theorem none_N {S : mS} {m : Nat} : gN (mnone S m) = gN S := rfl
theorem none_le {S : mS} {m : Nat} : Mle S (mnone S m) := by
  intro k
  refine ⟨by rw [none_o (Or.inr (by decide))]; exact Nat.le_refl _, fun _ q => ?_⟩
  by_cases e : k = m
  · subst e; exact none_0.2.1
  · rw [none_o (Or.inl e)]; exact q
theorem put_o {S : mS} {m frm num by9 heard k w : Nat} (h : k ≠ m ∨ (w < 12 ∧ w ≠ 10)) : gM (mputA S m frm num by9 heard) k w = gM S k w := by
  show (if k = m then _ else (if k = m then _ else (if k = m then _ else (if k = m then _ else S.2.1 k w)))) = S.2.1 k w
  rcases h with h | ⟨h1, h2⟩
  · rw [if_neg h]; rw [if_neg h]; rw [if_neg h]; rw [if_neg h]
  · by_cases e : k = m
    · subst e
      have a1 : w ≠ 12 + 3 * frm := by omega
      have a2 : w ≠ 13 + 3 * frm := by omega
      have a3 : w ≠ 14 + 3 * frm := by omega
      simp [sM, h2, a1, a2, a3]
    · rw [if_neg e]; rw [if_neg e]; rw [if_neg e]; rw [if_neg e]
theorem put_10 {S : mS} {m frm num by9 heard : Nat} : gM (mputA S m frm num by9 heard) m 10 = gM S m 10 ||| 1 <<< frm := by simp [mputA, sM, gM]
theorem put_le {S : mS} {m frm num by9 heard : Nat} : Mle S (mputA S m frm num by9 heard) := Mle.of (fun k => ⟨put_o (Or.inr (by decide)), put_o (Or.inr (by decide))⟩)
/-- as MP, but m's answers are still without its own -/
def MPx (F : Nat → Nat → Nat) (c : Nat) (S : mS) (m : Nat) : Prop := ∀ k, k < c → mOK F c S k ∧ (k ≠ m → aOK S k) ∧ (gM S k 9 ≠ 0 → ∀ j, j ≠ k → (gM S k 10).testBit j = true → pOK S j (gM S k 8))
theorem MP.x {F : Nat → Nat → Nat} {c : Nat} {S : mS} (h : MP F c S) (m : Nat) : MPx F c S m := fun k hk => ⟨(h k hk).1, fun _ => (h k hk).2, fun q => ((h k hk).2 q).2⟩
theorem tb_or {a frm k : Nat} : (a ||| 1 <<< frm).testBit k = true ↔ a.testBit k = true ∨ k = frm := by
  rw [Nat.testBit_or, Nat.one_shiftLeft, Nat.testBit_two_pow, Bool.or_eq_true, decide_eq_true_iff]
  exact ⟨fun h => h.imp_right Eq.symm, fun h => h.imp_right Eq.symm⟩
theorem MPx.put {F : Nat → Nat → Nat} {c : Nat} {S : mS} {m frm num by9 heard : Nat} (h : MPx F c S m) (hm : m < c) (h9 : gM S m 9 ≠ 0) (hf : frm = m ∨ ((gM S m 10).testBit m = true ∧ pOK S frm (gM S m 8))) : MP F c (mputA S m frm num by9 heard) := by
  intro k hk
  obtain ⟨g1, g2, g3⟩ := h k hk
  have hw : ∀ w, w < 11 → w ≠ 10 → gM (mputA S m frm num by9 heard) k w = gM S k w := fun w a b => put_o (Or.inr ⟨by omega, b⟩)
  have hP : ∀ j, gM (mputA S m frm num by9 heard) j 6 = gM S j 6 := fun j => put_o (Or.inr (by decide))
  by_cases e : k = m
  · subst e
    refine ⟨?_, fun _ => ⟨?_, fun j hj hb => ?_⟩⟩
    · obtain ⟨b1, b2, b3, b4, b5, b6, b7, b8⟩ := g1
      unfold mOK
      rw [hw 1 (by decide) (by decide), hw 2 (by decide) (by decide), hw 3 (by decide) (by decide), hw 4 (by decide) (by decide), hw 6 (by decide) (by decide), hw 8 (by decide) (by decide), hw 9 (by decide) (by decide), hP]
      exact ⟨b1, b2, b3, b4, b5, fun q => absurd q h9, b7, fun q => absurd (b8 q).1 h9⟩
    · rw [put_10, tb_or]
      rcases hf with hf | hf
      · exact Or.inr hf.symm
      · exact Or.inl hf.1
    · rw [put_10, tb_or] at hb
      rw [hw 8 (by decide) (by decide)]
      refine pOK.mono ?_ put_le
      rcases hb with hb | hb
      · exact g3 h9 j hj hb
      · subst hb
        rcases hf with hf | hf
        · exact absurd hf hj
        · exact hf.2
  · have ho : ∀ w, gM (mputA S m frm num by9 heard) k w = gM S k w := fun w => put_o (Or.inl e)
    exact ⟨g1.o (Nat.le_refl c) (fun w _ _ _ => ho w) rfl (by rw [hP]; exact Nat.le_refl _) rfl (fun _ => rfl), (g2 e).o put_le (fun w _ _ _ => ho w)⟩
theorem told_x {S : mS} {m num by9 set heard k w : Nat} (h : k ≠ m) : gM (mtold S m num by9 set heard) k w = gM S k w := by rw [(told_o h).1]
/-- the roll stands -/
theorem stands_all {F : Nat → Nat → Nat} {c : Nat} {S : mS} {m : Nat} (h : MP F c S) (hn : NP F S) (hm : m < c) (h9 : gM S m 9 ≠ 0) (hA : gM S m 10 = gM S m 9) : MP F c (mstands S m) ∧ NP F (mstands S m) ∧ Mle S (mstands S m) := by
  obtain ⟨⟨b1, b2, b3, b4, b5, b6, b7, b8⟩, ha⟩ := h m hm
  obtain ⟨d1, d2, d3, d4⟩ := b7 h9
  obtain ⟨a1, a2⟩ := ha h9
  have hp : ¬ (gM S m 8 < gM S m 6 ∨ gM S m 8 ≤ gM S m 2) := by omega
  unfold mstands
  generalize hT : mtold (sG S 6 (gG S 6 + 1)) m (gM S m 8) m (gM S m 9) (mheard S m m) = T
  have eT : ∀ k, gM T k 6 = gM S k 6 ∧ gM T k 9 = gM S k 9 := fun k => by
    rw [← hT]; exact ⟨told_69.1, told_69.2.1⟩
  have hle : Mle S T := Mle.of eT
  have hv := told_v (S := sG S 6 (gG S 6 + 1)) (m := m) (num := gM S m 8) (by9 := m) (set := gM S m 9) (heard := mheard S m m) hp
  rw [hT] at hv
  replace hv : gM T m 1 = 0 ∧ gM T m 2 = gM S m 8 ∧ gM T m 3 = m ∧ gM T m 4 = gM S m 9 ∧ gM T m 6 = gM S m 6 ∧ gM T m 8 = gM S m 8 ∧ gM T m 9 = gM S m 9 ∧ gM T m 10 = gM S m 10 := hv
  obtain ⟨v1, v2, v3, v4, v6, v8, v9, v10⟩ := hv
  have ho : ∀ k, k ≠ m → gM T k = gM S k ∧ gK T k = gK S k := fun k hk => by
    rw [← hT]; exact told_o (S := sG S 6 (gG S 6 + 1)) hk
  have hNT : gN T = gN S := by rw [← hT, told_N]; rfl
  have hT1 : NP F T := hn.same hle hNT
  have hU := ups_NP (F := F) (A := T) (f := mstandsF m (gM S m 8) (gM S m 9)) (gG S 0) (fun k S' => standsF_same.1) (fun k S' _ e hN => by
    unfold mstandsF
    split
    · rename_i q
      refine hN.send ⟨fun z => q.1 z.symm, fun z => absurd (show (3 : Nat) = 0 from z) (by decide), fun z => absurd (show (3 : Nat) = 2 from z) (by decide), fun _ => ⟨?_, rfl, ?_, ?_, ?_⟩⟩
      · exact ((a2 k q.1 (by rw [hA]; exact q.2)).mono hle).mono (Mle.of (fun j => by rw [e]; exact ⟨rfl, rfl⟩))
      · show gM S' m 4 = F (gM S m 8) m
        rw [e, v4, d1]; exact d3
      · show (gM S' m 4).testBit k = true
        rw [e, v4]; exact q.2
      · show gM S m 8 ≤ gM S' m 6
        rw [e, v6, d1]; exact Nat.le_refl _
    · exact hN) rfl hT1
  have hK := (ups_same (f := mstandsF m (gM S m 8) (gM S m 9)) (gG S 0) (fun k S' => standsF_same) T).2
  generalize mup (mstandsF m (gM S m 8) (gM S m 9)) (gG S 0) T = U at hU hK
  obtain ⟨hU1, hU2⟩ := hU
  have hleU : Mle S (mnone U m) := fun k => by
    have := hle k
    rw [← hU2] at this
    refine ⟨Nat.le_trans this.1 (none_le k).1, fun q1 q2 => ?_⟩
    refine (none_le k).2 ?_ ?_
    · exact none_o (Or.inr (by decide))
    · rw [hU2, (eT k).2]; exact q2
  refine ⟨fun k hk => ?_, hU1.same none_le none_N, hleU⟩
  by_cases e : k = m
  · subst e
    refine ⟨?_, fun q => absurd none_0.2.1 q⟩
    unfold mOK
    rw [none_0.1, none_0.2.1, none_0.2.2, none_o (Or.inr (by decide)), none_o (Or.inr (by decide)), none_o (Or.inr (by decide)), none_o (Or.inr (by decide)), none_o (Or.inr (by decide)), none_o (Or.inr (by decide)), hU2, v1, v2, v3, v4, v6]
    exact ⟨by omega, hk, by omega, by rw [d1]; exact d3, d4, fun _ => ⟨rfl, rfl⟩, fun q => absurd rfl q, fun q => absurd q (by decide)⟩
  · obtain ⟨g1, g2⟩ := h k hk
    have hw : ∀ w, gM (mnone U m) k w = gM S k w := fun w => by rw [none_o (Or.inl e), hU2, (ho k e).1]
    exact ⟨g1.o (Nat.le_refl c) (fun w _ _ _ => hw w) (by rw [none_K, hK, (ho k e).2]) (hleU _).1 rfl (fun _ => rfl), g2.o hleU (fun w _ _ _ => hw w)⟩
theorem ans_all {F : Nat → Nat → Nat} {c : Nat} {S : mS} {m frm num by9 heard : Nat} (h : MPx F c S m) (hn : NP F S) (hm : m < c) (h9 : gM S m 9 ≠ 0) (hf : frm = m ∨ ((gM S m 10).testBit m = true ∧ pOK S frm (gM S m 8))) : MP F c (mans S m frm num by9 heard) ∧ NP F (mans S m frm num by9 heard) := by
  have h1 : MP F c (mputA S m frm num by9 heard) := h.put hm h9 hf
  have h2 : NP F (mputA S m frm num by9 heard) := hn.same put_le rfl
  unfold mans
  split
  · rename_i q
    obtain ⟨a, b, _⟩ := stands_all h1 h2 hm (by rw [put_o (Or.inr (by decide))]; exact h9) q
    exact ⟨a, b⟩
  · exact ⟨h1, h2⟩
theorem start_o {S : mS} {m set k w : Nat} (h : k ≠ m ∨ (w ≠ 6 ∧ w ≠ 1 ∧ w ≠ 8 ∧ w ≠ 9 ∧ w ≠ 10 ∧ w ≠ 11)) : gM (mstart S m set) k w = gM S k w := by
  by_cases e : k = m
  · rcases h with h | ⟨h1, h2, h3, h4, h5, h6⟩
    · exact absurd e h
    · subst e; simp [mstart, sM, gM, h1, h2, h3, h4, h5, h6]
  · simp [mstart, sM, gM, e]
theorem start_v {S : mS} {m set : Nat} : gM (mstart S m set) m 6 = gM S m 6 + 1 ∧ gM (mstart S m set) m 1 = 1 ∧ gM (mstart S m set) m 8 = gM S m 6 + 1 ∧ gM (mstart S m set) m 9 = set ∧ gM (mstart S m set) m 10 = 0 := by simp [mstart, sM, gM]
theorem start_le {S : mS} {m set : Nat} : Mle S (mstart S m set) := fun k => by
  by_cases e : k = m
  · subst e; rw [start_v.1]; exact ⟨by omega, fun q => by omega⟩
  · rw [start_o (Or.inl e), start_o (Or.inl e)]; exact ⟨Nat.le_refl _, fun _ q => q⟩
def mF (F : Nat → Nat → Nat) (a b x : Nat) : Nat → Nat → Nat := fun i j => if i = a ∧ j = b then x else F i j
theorem mF_s {F : Nat → Nat → Nat} {a b x : Nat} : mF F a b x a b = x := if_pos ⟨rfl, rfl⟩
theorem mF_o {F : Nat → Nat → Nat} {a b x i j : Nat} (h : i ≠ a ∨ j ≠ b) : mF F a b x i j = F i j := if_neg (by rintro ⟨p, q⟩; rcases h with h | h <;> contradiction)
theorem tb0 {s m : Nat} (h : s.testBit m = true) : s ≠ 0 := fun q => by rw [q, Nat.zero_testBit] at h; exact absurd h (by decide)
theorem call_all {F : Nat → Nat → Nat} {c : Nat} {S : mS} {m set : Nat} (h : MP F c S) (hn : NP F S) (hm : m < c) (hs : set.testBit m = true) : ∃ F', MP F' c (mcall S m set) ∧ NP F' (mcall S m set) := by
  refine ⟨mF F (gM S m 6 + 1) m set, ?_⟩
  obtain ⟨v6, v1, v8, v9, v10⟩ := start_v (S := S) (m := m) (set := set)
  have hs0 := tb0 hs
  have hN1 : NP (mF F (gM S m 6 + 1) m set) (mstart S m set) := by
    intro x hx
    have hx1 := hn x hx
    refine hx1.mono start_le (fun q => mF_o ?_)
    obtain ⟨_, q2, _, _, q5⟩ := hx1.2.2.2 q
    by_cases e : x 5 = m
    · left; rw [q2] at e; rw [e] at q5; omega
    · exact Or.inr e
  have hM1 : MPx (mF F (gM S m 6 + 1) m set) c (mstart S m set) m := by
    intro k hk
    obtain ⟨g1, g2⟩ := h k hk
    have hold : mF F (gM S m 6 + 1) m set (gM S k 2) (gM S k 3) = F (gM S k 2) (gM S k 3) := by
      refine mF_o ?_
      by_cases e : gM S k 3 = m
      · left; have := g1.2.2.1; rw [e] at this; omega
      · exact Or.inr e
    by_cases e : k = m
    · subst e
      refine ⟨?_, fun q => absurd rfl q, fun _ j _ hb => ?_⟩
      · obtain ⟨b1, b2, b3, b4, b5, b6, b7, b8⟩ := g1
        unfold mOK
        rw [v6, v1, v8, v9, v10, start_o (w := 2) (Or.inr (by decide)), start_o (w := 3) (Or.inr (by decide)), start_o (w := 4) (Or.inr (by decide)), hold, mF_s]
        exact ⟨by omega, b2, Nat.le_trans b3 (start_le _).1, b4, b5, fun q => absurd q hs0, fun _ => ⟨rfl, by omega, rfl, hs⟩, fun q => absurd q (by decide)⟩
      · rw [v10, Nat.zero_testBit] at hb; exact absurd hb (by decide)
    · have hw : ∀ w, gM (mstart S m set) k w = gM S k w := fun w => start_o (Or.inl e)
      have ha : aOK (mstart S m set) k := g2.o start_le (fun w _ _ _ => hw w)
      exact ⟨g1.o (Nat.le_refl c) (fun w _ _ _ => hw w) rfl (start_le _).1 hold (fun _ => mF_o (Or.inr e)), fun _ => ha, fun q => (ha q).2⟩
  have hU := ups_NP (F := mF F (gM S m 6 + 1) m set) (A := mstart S m set) (f := mcallF m (gM S m 6 + 1) set) (gG S 0) (fun k S' => callF_same.1) (fun k S' _ e hN => by
    unfold mcallF
    split
    · rename_i q
      exact hN.send ⟨fun z => q.1 z.symm, fun z => absurd (show (1 : Nat) = 0 from z) (by decide), fun z => absurd (show (1 : Nat) = 2 from z) (by decide), fun z => absurd (show (1 : Nat) = 3 from z) (by decide)⟩
    · exact hN) rfl hN1
  have hK := (ups_same (f := mcallF m (gM S m 6 + 1) set) (gG S 0) (fun k S' => callF_same) (mstart S m set)).2
  unfold mcall msends
  generalize mup (mcallF m (gM S m 6 + 1) set) (gG S 0) (mstart S m set) = U at hU hK
  obtain ⟨hU1, hU2⟩ := hU
  have hle : Mle (mstart S m set) U := Mle.of (fun k => by rw [hU2]; exact ⟨rfl, rfl⟩)
  have hMU : MPx (mF F (gM S m 6 + 1) m set) c U m := by
    intro k hk
    obtain ⟨g1, g2, g3⟩ := hM1 k hk
    refine ⟨g1.o (Nat.le_refl c) (fun w _ _ _ => by rw [hU2]) (by rw [hK]) (hle _).1 rfl (fun _ => rfl), fun q => (g2 q).o hle (fun w _ _ _ => by rw [hU2]), ?_⟩
    rw [hU2]
    exact fun q j hj hb => (g3 q j hj hb).mono hle
  exact ans_all hMU hU1 hm (by rw [hU2, v9]; exact hs0) (Or.inl rfl)
