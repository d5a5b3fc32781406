
/-! the calling one, note by note, tick by tick -/
theorem ans_b {S : mS} {k frm nm by9 heard : Nat} (h : gM (mans S k frm nm by9 heard) k 9 ≠ 0) : gM (mans S k frm nm by9 heard) k 8 = gM S k 8 ∧ gM (mans S k frm nm by9 heard) k 9 = gM S k 9 ∧ gM (mans S k frm nm by9 heard) k 10 = gM S k 10 ||| 1 <<< frm := by
  unfold mans at h ⊢
  split
  · rename_i q
    rw [if_pos q] at h
    exact absurd none_0.2.1 h
  · exact ⟨put_m (by decide) (by decide), put_m (by decide) (by decide), put_10⟩
theorem speech_N {S : mS} {x : mN} : gN (mspeech S x) = gN S ∧ gG (mspeech S x) 1 = gG S 1 := by
  unfold mspeech
  split
  · exact ⟨rfl, rfl⟩
  · split <;> exact ⟨rfl, rfl⟩
theorem ZN.read {m num : Nat} {S : mS} {x : mN} (h : ZN m num S) (h1 : m ≠ x 2) : ZN m num (mread S x) := by
  unfold mread
  split
  · exact h.of rfl
  split
  · exact h.of speech_N.1
  split
  · unfold mcalled
    split
    · exact ZN.send (h.of rfl) (fun q => absurd q (by decide)) (fun _ z => absurd z.symm h1)
    · exact h
  split
  · unfold mreplied
    split
    · exact h.ans
    · exact h
  · exact h.of told_N
theorem ZT.read {m num : Nat} {S : mS} {x : mN} (h : ZT m num S) : ZT m num (mread S x) := by
  unfold mread
  split
  · exact h.of rfl rfl
  split
  · exact h.of speech_N.1 speech_N.2
  split
  · unfold mcalled
    split
    · exact ZT.send (h.of rfl rfl)
    · exact h
  split
  · unfold mreplied
    split
    · exact h.ans
    · exact h
  · exact h.of told_N (by rw [told_G])
theorem read_q {F : Nat → Nat → Nat} {c m : Nat} {U : mS} {x : mN} (hP : MP F c U) (hx : nOK F U x) (h0 : x 0 ≤ 3) (hm : m < c) : gM U m 6 ≤ gM (mread U x) m 6 ∧ (gM (mread U x) m 2 = gM U m 2 ∨ gM U m 6 ≤ gM (mread U x) m 2) := by
  by_cases e : m = x 2
  · obtain ⟨b1, b2, b3, b4, b5, b6, b7, b8⟩ := (hP m hm).1
    rw [e] at b1 b2 b3 b4 b5 b6 b7 b8 ⊢
    unfold mread
    split
    · exact ⟨Nat.le_refl _, Or.inl rfl⟩
    split
    · rw [speech_o (Or.inr (by decide)), speech_o (Or.inr (by decide))]; exact ⟨Nat.le_refl _, Or.inl rfl⟩
    split
    · unfold mcalled
      split
      · rename_i q
        rw [msend_M, none_o (Or.inr (by decide)), none_o (Or.inr (by decide))]
        refine ⟨?_, Or.inl (by simp [sM, gM])⟩
        have : gM (sM (sM U (x 2) 6 (x 4)) (x 2) 1 1) (x 2) 6 = x 4 := by simp [sM, gM]
        rw [this]; omega
      · exact ⟨Nat.le_refl _, Or.inl rfl⟩
    split
    · rename_i q2
      unfold mreplied
      split
      · rename_i z
        have h9 : gM U (x 2) 9 ≠ 0 := fun z9 => by have := (b6 z9).1; have := (hx.2.2.1 q2).1; omega
        have h7 := b7 h9
        rcases ans_m (S := U) (m := x 2) (frm := x 1) (nm := x 7) (by9 := x 8) (heard := x 6) (by omega) with w | ⟨w1, w2, w3, w4, w6, w9⟩
        · rw [w 6 (by decide) (by decide), w 2 (by decide) (by decide)]; exact ⟨Nat.le_refl _, Or.inl rfl⟩
        · rw [w6, w2]; exact ⟨Nat.le_refl _, Or.inr (by omega)⟩
      · exact ⟨Nat.le_refl _, Or.inl rfl⟩
    · by_cases hp : x 4 < gM U (x 2) 6 ∨ x 4 ≤ gM U (x 2) 2
      · unfold mtold; rw [if_pos hp]; exact ⟨Nat.le_refl _, Or.inl rfl⟩
      · obtain ⟨v1, v2, v3, v4, v6, v8, v9, v10⟩ := told_v (S := U) (by9 := x 5) (set := x 9) (heard := x 6) hp
        rw [v6, v2]; exact ⟨Nat.le_refl _, Or.inr (by omega)⟩
  · rw [read_o e]; exact ⟨Nat.le_refl _, Or.inl rfl⟩
theorem ZA.read {F : Nat → Nat → Nat} {c m num set : Nat} {U : mS} {x : mN} (h : ZA c m num set U) (hP : MP F c U) (hx : nOK F U x) (h0 : x 0 ≤ 3) (hm : m < c) (ht : x 3 = gG U 1) (hd : ZC c m num set U → ∀ y, y ∈ gN U → zR m num x y) (hu : ZC c m num set U → x 0 = 2 → x 1 = m → x 4 < num) (hz : ZS m num set U → x 0 = 1 → x 2 = m → num < x 4 → gG U 1 < x 3) : ZA c m num set (mread U x) := by
  obtain ⟨b1, b2, b3, b4, b5, b6, b7, b8⟩ := (hP m hm).1
  rcases h with hC | ⟨y1, y2⟩ | hS
  · have hC9 := hC
    obtain ⟨z6, z9, z0, zN, zb⟩ := hC
    have h7 := b7 z0
    by_cases e : m = x 2
    · subst e
      unfold mread
      split
      · rename_i q; exact absurd (b8 q).1 z0
      split
      · refine Or.inl ⟨by rw [speech_o (Or.inr (by decide))]; exact z6, by rw [speech_o (Or.inr (by decide))]; exact z9, by rw [speech_o (Or.inr (by decide))]; exact z0, zN.of speech_N.1, fun b hb hbm => ?_⟩
        rw [speech_o (Or.inl hbm), speech_o (Or.inl hbm), speech_o (Or.inl hbm)]; exact zb b hb hbm
      split
      · unfold mcalled
        split
        · rename_i q
          refine Or.inr (Or.inl ⟨?_, ?_⟩)
          · rw [msend_M, none_o (Or.inr (by decide))]
            have : gM (sM (sM U (x 2) 6 (x 4)) (x 2) 1 1) (x 2) 6 = x 4 := by simp [sM, gM]
            rw [this]; omega
          · rw [msend_M, none_o (Or.inr (by decide))]
            have : gM (sM (sM U (x 2) 6 (x 4)) (x 2) 1 1) (x 2) 2 = gM U (x 2) 2 := by simp [sM, gM]
            rw [this]; omega
        · exact Or.inl hC9
      split
      · rename_i q2
        unfold mreplied
        split
        · rename_i z
          rcases ans_m (S := U) (m := x 2) (frm := x 1) (nm := x 7) (by9 := x 8) (heard := x 6) (by omega) with w | ⟨w1, w2, w3, w4, w6, w9⟩
          · refine Or.inl ⟨by rw [w 6 (by decide) (by decide)]; exact z6, by rw [w 9 (by decide) (by decide)]; exact z9, by rw [w 9 (by decide) (by decide)]; exact z0, zN.ans, fun b hb hbm => ?_⟩
            rw [ans_o hbm]; exact zb b hb hbm
          · refine Or.inr (Or.inr ⟨by rw [w2]; omega, w3, w4.trans z9, w1, w6.trans z6, ZT.ans (fun y hy k1 k2 k3 => ?_)⟩)
            rw [← ht]
            exact hd hC9 y hy ⟨q2, rfl, by omega⟩ ⟨k1, k2, k3⟩
        · exact Or.inl hC9
      · have q3 : x 0 = 3 := by omega
        have e1 := (hx.2.2.2 q3).1
        have : x 4 < gM U (x 2) 6 := by
          have := e1.1
          rcases Nat.lt_or_ge (x 4) (gM U (x 2) 6) with g | g
          · exact g
          · exact absurd (e1.2 (by omega)) z0
        unfold mtold
        rw [if_pos (Or.inl this)]
        exact Or.inl hC9
    · refine Or.inl ⟨by rw [read_o e]; exact z6, by rw [read_o e]; exact z9, by rw [read_o e]; exact z0, zN.read e, fun b hb hbm => ?_⟩
      by_cases e2 : b = x 2
      · subst e2
        unfold mread
        split
        · exact zb _ hb hbm
        split
        · rw [speech_o (Or.inr (by decide)), speech_o (Or.inr (by decide)), speech_o (Or.inr (by decide))]; exact zb _ hb hbm
        split
        · unfold mcalled
          split
          · rw [msend_M, none_0.2.1]; exact fun q => absurd rfl q
          · exact zb _ hb hbm
        split
        · rename_i q2
          unfold mreplied
          split
          · rename_i z
            intro q9 q10
            obtain ⟨w8, w9, w10⟩ := ans_b q9
            rw [w10, tb_or] at q10
            rw [w8]
            rcases q10 with q | q
            · exact zb _ hb hbm (by rw [← w9]; exact q9) q
            · rw [z]; exact hu hC9 q2 q.symm
          · exact zb _ hb hbm
        · rw [told_69.2.1, told_69.2.2.1, told_69.2.2.2]; exact zb _ hb hbm
      · rw [read_o e2]; exact zb b hb hbm
  · obtain ⟨q1, q2⟩ := read_q hP hx h0 hm
    exact Or.inr (Or.inl ⟨by omega, by rcases q2 with q | q <;> omega⟩)
  · have hS9 := hS
    obtain ⟨s2, s3, s4, s1, s6, sT⟩ := hS
    have h9 : gM U m 9 = 0 := by
      rcases Nat.eq_zero_or_pos (gM U m 9) with g | g
      · exact g
      · have := b7 (by omega); omega
    by_cases e : m = x 2
    · subst e
      unfold mread
      split
      · rename_i q; omega
      split
      · exact Or.inr (Or.inr ⟨by rw [speech_o (Or.inr (by decide))]; exact s2, by rw [speech_o (Or.inr (by decide))]; exact s3, by rw [speech_o (Or.inr (by decide))]; exact s4, by rw [speech_o (Or.inr (by decide))]; exact s1, by rw [speech_o (Or.inr (by decide))]; exact s6, sT.of speech_N.1 speech_N.2⟩)
      split
      · rename_i q1
        unfold mcalled
        split
        · rename_i q
          have := hz hS9 q1 rfl (by omega)
          omega
        · exact Or.inr (Or.inr hS9)
      split
      · rename_i q2
        unfold mreplied
        split
        · rename_i z
          have := (b6 h9).1
          have := (hx.2.2.1 q2).1
          omega
        · exact Or.inr (Or.inr hS9)
      · have q3 : x 0 = 3 := by omega
        have e1 := (hx.2.2.2 q3).1.1
        unfold mtold
        rw [if_pos (Or.inr (by omega))]
        exact Or.inr (Or.inr hS9)
    · exact Or.inr (Or.inr ⟨by rw [read_o e]; exact s2, by rw [read_o e]; exact s3, by rw [read_o e]; exact s4, by rw [read_o e]; exact s1, by rw [read_o e]; exact s6, sT.read⟩)
theorem ZA.comes {c B m num set : Nat} {U : mS} (h : ZA c m num set U) (hJ : IJ c U) (hB : NB c U B) (hm : m < c) (hl : 0 < (gN U).length) (ht : ((gN U).getD 0 n0) 3 = gG U 1) : ZA c m num set (mcomes U) := by
  obtain ⟨F, W, G, a, b, d⟩ := hJ
  have hx := hB.n (head_mem hl)
  have hle : Mle U (sN U ((gN U).drop 1)) := Mle.of fun _ => ⟨rfl, rfl⟩
  have hpw : ∀ R : mN → mN → Prop, List.Pairwise R (gN U) → (∀ y, y ∈ (gN U).drop 1 → R ((gN U).getD 0 n0) y) ∧ List.Pairwise R ((gN U).drop 1) := fun R hR => by
    cases e : gN U with
    | nil => rw [e] at hl; exact absurd hl (Nat.lt_irrefl 0)
    | cons z l => rw [e] at hR; exact List.pairwise_cons.mp hR
  have hs : ∀ y, y ∈ (gN U).drop 1 → y ∈ gN U := fun y hy => List.mem_of_mem_drop hy
  have a1 : MP F c (sN U ((gN U).drop 1)) := a.same rfl rfl
  have hx1 : nOK F (sN U ((gN U).drop 1)) ((gN U).getD 0 n0) := (b _ (head_mem hl)).mono hle (fun _ => rfl)
  have b7 := (a m hm).1.2.2.2.2.2.2.1
  have cs : ZC c m num set (sN U ((gN U).drop 1)) → ZS m num set (sN U ((gN U).drop 1)) → False := fun p q => by
    have h1 : gM U m 6 = num := p.1
    have h2 : gM U m 2 = num := q.1
    have := (b7 p.2.2.1).2.1
    omega
  unfold mcomes
  rcases h with hC | hD | hS
  · have hC1 : ZC c m num set (sN U ((gN U).drop 1)) := ⟨hC.1, hC.2.1, hC.2.2.1, ⟨(hpw _ hC.2.2.2.1.1).2, fun y hy => hC.2.2.2.1.2 y (hs y hy)⟩, hC.2.2.2.2⟩
    exact ZA.read (Or.inl hC1) a1 hx1 hx.1 hm ht (fun _ => (hpw _ hC.2.2.2.1.1).1) (fun _ => hC.2.2.2.1.2 _ (head_mem hl)) (fun q => (cs hC1 q).elim)
  · have hD1 : ZD m num (sN U ((gN U).drop 1)) := hD
    have nd : num < gM U m 6 := hD.1
    refine ZA.read (Or.inr (Or.inl hD1)) a1 hx1 hx.1 hm ht (fun q => ?_) (fun q => ?_) (fun q => ?_)
    · have q1 : gM U m 6 = num := q.1
      omega
    · have q1 : gM U m 6 = num := q.1
      omega
    · have q1 : gM U m 6 = num := q.2.2.2.2.1
      omega
  · have hS1 : ZS m num set (sN U ((gN U).drop 1)) := ⟨hS.1, hS.2.1, hS.2.2.1, hS.2.2.2.1, hS.2.2.2.2.1, fun y hy => hS.2.2.2.2.2 y (hs y hy)⟩
    exact ZA.read (Or.inr (Or.inr hS1)) a1 hx1 hx.1 hm ht (fun q => (cs q hS1).elim) (fun q => (cs q hS1).elim) (fun _ => hS.2.2.2.2.2 _ (head_mem hl))
theorem ZA.drain {c m num set : Nat} (hm : m < c) : ∀ (n : Nat) {B : Nat} {U : mS}, ZA c m num set U → IJ c U → NB c U B → ZA c m num set (mdrain n U) := by
  intro n
  induction n with
  | zero => intro B U h _ _; exact h
  | succ n ih =>
    intro B U h hJ hB
    by_cases q : mdue U
    · rw [drain_step q]
      exact ih (h.comes hJ hB hm q.1 q.2) (hJ.comes hB q.1) (hB.comes q.1)
    · rw [drain_stop q]; exact h
theorem sends_m {S : mS} {m set k : Nat} : gM (msends S m set) k = gM (mstart S m set) k := by
  unfold msends
  rw [(ups_same (f := mcallF m (gM S m 6 + 1) set) (gG S 0) (fun k S' => callF_same) _).1]
theorem call_m {S : mS} {m set : Nat} (h2 : gM S m 2 ≤ gM S m 6) : gM (mcall S m set) m 6 = gM S m 6 + 1 ∧ ((gM (mcall S m set) m 2 = gM S m 2 ∧ gM (mcall S m set) m 9 = set) ∨ (gM (mcall S m set) m 2 = gM S m 6 + 1 ∧ gM (mcall S m set) m 3 = m ∧ gM (mcall S m set) m 4 = set ∧ gM (mcall S m set) m 1 = 0 ∧ gM (mcall S m set) m 9 = 0)) := by
  obtain ⟨v6, v1, v8, v9, v10⟩ := start_v (S := S) (m := m) (set := set)
  have e2 : gM (msends S m set) m 2 = gM S m 2 := by rw [sends_m]; exact start_o (Or.inr (by decide))
  have e6 : gM (msends S m set) m 6 = gM S m 6 + 1 := by rw [sends_m]; exact v6
  have e8 : gM (msends S m set) m 8 = gM S m 6 + 1 := by rw [sends_m]; exact v8
  have e9 : gM (msends S m set) m 9 = set := by rw [sends_m]; exact v9
  unfold mcall
  rcases ans_m (S := msends S m set) (m := m) (frm := m) (nm := gM S m 2) (by9 := gM S m 3) (heard := gM S m 5) (by omega) with w | ⟨w1, w2, w3, w4, w6, w9⟩
  · rw [w 6 (by decide) (by decide), w 2 (by decide) (by decide), w 9 (by decide) (by decide)]
    exact ⟨e6, Or.inl ⟨e2, e9⟩⟩
  · exact ⟨w6.trans e6, Or.inr ⟨w2.trans e8, w3, w4.trans e9, w1, w9⟩⟩
theorem call_b {S : mS} {k set : Nat} (h : gM (mcall S k set) k 9 ≠ 0) : gM (mcall S k set) k 10 = 0 ||| 1 <<< k := by
  obtain ⟨v6, v1, v8, v9, v10⟩ := start_v (S := S) (m := k) (set := set)
  unfold mcall at h ⊢
  obtain ⟨w8, w9, w10⟩ := ans_b h
  rw [w10, sends_m, v10]
theorem tb_self {m k : Nat} (h : (0 ||| 1 <<< k).testBit m = true) : m = k := by
  rw [tb_or] at h
  rcases h with h | h
  · rw [Nat.zero_testBit] at h; exact absurd h (by decide)
  · exact h
theorem ZA.wait {c B m num set k : Nat} {U : mS} (h : ZA c m num set U) (hJ : IJ c U) (hB : NB c U B) (hm : m < c) (hk : k < c) : ZA c m num set (mwaitF k U) := by
  obtain ⟨F, W, G, a, b, d⟩ := hJ
  obtain ⟨b1, b2, b3, b4, b5, b6, b7, b8⟩ := (a m hm).1
  obtain ⟨k1, k2, k3, k4, k5, k6, k7, k8⟩ := (a k hk).1
  unfold mwaitF
  split
  · rename_i q
    have h9 : gM U k 9 ≠ 0 := fun z => by have := (k6 z).1; omega
    rcases h with hC | hD | hS
    · obtain ⟨z6, z9, z0, zN, zb⟩ := hC
      by_cases e : m = k
      · subst e
        obtain ⟨c6, c2⟩ := call_m (S := U) (m := m) (set := gM U m 10) b1
        have := (b7 z0).2.1
        exact Or.inr (Or.inl ⟨by omega, by rcases c2 with c2 | c2 <;> omega⟩)
      · refine Or.inl ⟨by rw [call_o e]; exact z6, by rw [call_o e]; exact z9, by rw [call_o e]; exact z0, zN.call (fun t _ => ?_), fun i hi him => ?_⟩
        · have := zb k hk (fun z => e z.symm) h9 t
          have := (k7 h9).1
          omega
        · by_cases e2 : i = k
          · subst e2
            intro q9 q10
            rw [call_b q9] at q10
            exact absurd (tb_self q10) e
          · rw [call_o e2]; exact zb i hi him
    · by_cases e : m = k
      · subst e
        obtain ⟨c6, c2⟩ := call_m (S := U) (m := m) (set := gM U m 10) b1
        obtain ⟨y1, y2⟩ := hD
        exact Or.inr (Or.inl ⟨by omega, by rcases c2 with c2 | c2 <;> omega⟩)
      · exact Or.inr (Or.inl ⟨by rw [call_o e]; exact hD.1, by rw [call_o e]; exact hD.2⟩)
    · obtain ⟨s2, s3, s4, s1, s6, sT⟩ := hS
      by_cases e : m = k
      · subst e
        have := (b7 h9).2.1
        omega
      · exact Or.inr (Or.inr ⟨by rw [call_o e]; exact s2, by rw [call_o e]; exact s3, by rw [call_o e]; exact s4, by rw [call_o e]; exact s1, by rw [call_o e]; exact s6, sT.call⟩)
  · exact h
theorem ZA.tick {c B m num set : Nat} {U : mS} (h : ZC c m num set U ∨ ZD m num U) (hJ : IJ c U) (hB : NB c U B) (hm : m < c) : ZA c m num set (mtick U) := by
  have h0 : ZA c m num set (sG U 1 (gG U 1 + 1)) := h.elim (fun q => Or.inl q) (fun q => Or.inr (Or.inl q))
  have h1 : ZA c m num set (mdrain (gN U).length (sG U 1 (gG U 1 + 1))) := h0.drain hm _ hJ.time hB.time
  have h2 : IJ c (mdrain (gN U).length (sG U 1 (gG U 1 + 1))) := IJ.drain _ hJ.time hB.time
  unfold mtick
  split
  · refine (ups_P (P := fun V => ZA c m num set V ∧ IJ c V ∧ ∃ D, NB c V D) _ (fun k V hk hV => ?_) ⟨h1, h2, _, hB.drained⟩).1
    obtain ⟨v1, v2, D, v3⟩ := hV
    rw [hB.c0] at hk
    exact ⟨v1.wait v2 v3 hm hk, v2.wait v3 hk, _, v3.wait hk⟩
  · exact h1
/-- the first tick at which the roll is there: it sits in it, of all whom it called -/
theorem stood {c B m set n : Nat} {S : mS} (hJ : IJ c S) (hB : NB c S B) (hm : m < c) (hs : set.testBit m = true) (h2c : set < 2 ^ c) (hf : ∀ k, k < n → ¬ (gM (mticks k (mcall S m set)) m 2 = gM S m 6 + 1 ∧ gM (mticks k (mcall S m set)) m 3 = m)) (hn : gM (mticks n (mcall S m set)) m 2 = gM S m 6 + 1 ∧ gM (mticks n (mcall S m set)) m 3 = m) : gM (mticks n (mcall S m set)) m 4 = set ∧ gM (mticks n (mcall S m set)) m 1 = 0 ∧ ∀ k, k < n → gM (mticks k (mcall S m set)) m 2 ≠ gM S m 6 + 1 := by
  have hJ1 : IJ c (mcall S m set) := hJ.call hB hm hs h2c
  have hB1 : NB c (mcall S m set) (B + 14) := hB.call hm (Nat.lt_of_lt_of_le h2c (Nat.pow_le_pow_right (by decide) hB.c6))
  obtain ⟨F, W, G, a, b, d⟩ := hJ
  obtain ⟨b1, b2, b3, b4, b5, b6, b7, b8⟩ := (a m hm).1
  obtain ⟨c6, c2⟩ := call_m (S := S) (m := m) (set := set) b1
  have hZ : gM (mcall S m set) m 2 = gM S m 2 → gM (mcall S m set) m 9 = set → ZC c m (gM S m 6 + 1) set (mcall S m set) := fun _ q9 => by
    have hN0 : ZN m (gM S m 6 + 1) S := ⟨?_, fun x hx q0 q1 => ?_⟩
    · refine ⟨c6, q9, by rw [q9]; exact tb0 hs, hN0.call (fun _ z => absurd rfl z), fun i hi him => ?_⟩
      rw [call_o him]
      intro p9 p10
      have := (((a i hi).2 p9).2 m (fun z => him z.symm) p10).1
      omega
    · have hle : ∀ x, x ∈ gN S → x 0 = 2 → x 2 = m → x 4 ≤ gM S m 6 := fun x hx q0 q2 => by
        have := (d.2 x hx).2.2.1 q0
        rw [q2] at this
        exact this.1
      have : List.Pairwise (fun _ _ : mN => True) (gN S) := List.pairwise_of_forall (fun _ _ => trivial)
      refine List.Pairwise.imp_of_mem (fun {y x} hy _ _ => ?_) this
      intro p _
      have := hle y hy p.1 p.2.1
      omega
    · have := ((b x hx).2.2.1 q0).2.1
      rw [q1] at this
      omega
  have key : ∀ k, k ≤ n → (ZC c m (gM S m 6 + 1) set (mticks k (mcall S m set)) ∨ ZD m (gM S m 6 + 1) (mticks k (mcall S m set))) ∨ (k = n ∧ gM (mticks k (mcall S m set)) m 4 = set ∧ gM (mticks k (mcall S m set)) m 1 = 0) := by
    intro k
    induction k with
    | zero =>
      intro _
      rcases c2 with ⟨p2, p9⟩ | ⟨p2, p3, p4, p1, p9⟩
      · exact Or.inl (Or.inl (hZ p2 p9))
      · refine Or.inr ⟨?_, p4, p1⟩
        rcases Nat.eq_zero_or_pos n with g | g
        · exact g.symm
        · exact absurd ⟨p2, p3⟩ (hf 0 g)
    | succ k ih =>
      intro hk
      rcases ih (by omega) with h | h
      · rcases ZA.tick h (hJ1.ticks hB1 k) (hB1.ticks k) hm with r | r | r
        · exact Or.inl (Or.inl r)
        · exact Or.inl (Or.inr r)
        · refine Or.inr ⟨?_, r.2.2.1, r.2.2.2.1⟩
          rcases Nat.lt_or_ge (k + 1) n with g | g
          · exact absurd ⟨r.1, r.2.1⟩ (hf (k + 1) g)
          · omega
      · omega
  have ne : ∀ k, ZC c m (gM S m 6 + 1) set (mticks k (mcall S m set)) ∨ ZD m (gM S m 6 + 1) (mticks k (mcall S m set)) → gM (mticks k (mcall S m set)) m 2 ≠ gM S m 6 + 1 := fun k h => by
    rcases h with h | h
    · obtain ⟨F', W', G', a', b', d'⟩ := hJ1.ticks hB1 k
      have := ((a' m hm).1.2.2.2.2.2.2.1 h.2.2.1).2.1
      have := h.1
      omega
    · exact h.2
  rcases key n (Nat.le_refl n) with h | ⟨_, h4, h1⟩
  · exact absurd hn.1 (ne n h)
  · refine ⟨h4, h1, fun k hk => ?_⟩
    rcases key k (by omega) with h | h
    · exact ne k h
    · omega
