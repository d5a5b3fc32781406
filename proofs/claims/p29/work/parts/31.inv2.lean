
def SP (c d : Nat) (S : mS) : Prop := gG S 0 = c ∧ Fr c S ∧ SI S ∧ gOK S ∧ sOK S ∧ tOK S d
theorem SP.send {c d : Nat} {S : mS} (h : SP c d S) (hd : d ≤ 1) {kd frm to num by9 data : Nat} : SP c d (msend S kd frm to num by9 data) := by
  obtain ⟨h0, h1, h2, h3, h4, h5⟩ := h
  refine ⟨(msend_G (by decide)).trans h0, fun m hm hm6 => ?_, fun m => ?_, fun a b ha hb => ?_, msend_s h4, msend_t hd h5⟩
  · rw [msend_M, msend_K, msend_H]; exact h1 m hm hm6
  · rw [msend_M, msend_G (by decide)]; exact h2 m
  · rw [msend_G (by omega), msend_G (by omega)]; exact h3 a b ha hb
theorem SP.M {c d : Nat} {S : mS} (h : SP c d S) {m w x : Nat} (hm : m < c) (hx : w = 11 → x ≤ gG S 1) : SP c d (sM S m w x) := by
  obtain ⟨h0, h1, h2, h3, h4, h5⟩ := h
  refine ⟨h0, fun k hk hk6 => ⟨fun j => ?_, (h1 k hk hk6).2⟩, fun k => ?_, h3, h4, h5⟩
  · show (if k = m then (if j = w then x else S.2.1 k j) else S.2.1 k j) = _
    rw [if_neg (by omega)]; exact (h1 k hk hk6).1 j
  · show (if k = m then (if 11 = w then x else S.2.1 k 11) else S.2.1 k 11) ≤ gG S 1
    split
    · split
      · rename_i e; exact hx e.symm
      · exact h2 k
    · exact h2 k
theorem SP.K {c d : Nat} {S : mS} (h : SP c d S) {m : Nat} {l : List mT} (hm : m < c) : SP c d (sK S m l) := by
  obtain ⟨h0, h1, h2, h3, h4, h5⟩ := h
  refine ⟨h0, fun k hk hk6 => ⟨(h1 k hk hk6).1, ?_, (h1 k hk hk6).2.2⟩, h2, h3, h4, h5⟩
  show (if k = m then l else S.2.2.1 k) = []
  rw [if_neg (by omega)]; exact (h1 k hk hk6).2.1
theorem SP.H {c d : Nat} {S : mS} (h : SP c d S) {m : Nat} {l : List mT} (hm : m < c) : SP c d (sH S m l) := by
  obtain ⟨h0, h1, h2, h3, h4, h5⟩ := h
  refine ⟨h0, fun k hk hk6 => ⟨(h1 k hk hk6).1, (h1 k hk hk6).2.1, ?_⟩, h2, h3, h4, h5⟩
  show (if k = m then l else S.2.2.2.1 k) = []
  rw [if_neg (by omega)]; exact (h1 k hk hk6).2.2
theorem SP.G {c d : Nat} {S : mS} (h : SP c d S) {i x : Nat} (hi : i ≠ 0 ∧ i ≠ 1 ∧ i < 8) : SP c d (sG S i x) := by
  obtain ⟨h0, h1, h2, h3, h4, h5⟩ := h
  have e : ∀ j, j ≠ i → gG (sG S i x) j = gG S j := fun j hj => by simp only [gG, sG]; rw [if_neg hj]
  refine ⟨(e 0 (fun q => hi.1 q.symm)).trans h0, h1, fun k => by rw [e 1 (fun q => hi.2.1 q.symm)]; exact h2 k, fun a b ha hb => by rw [e _ (by omega), e _ (by omega)]; exact h3 a b ha hb, h4, fun y hy => by rw [e 1 (fun q => hi.2.1 q.symm)]; exact h5 y hy⟩
theorem SP.ups {c d : Nat} {f : Nat → mS → mS} (n : Nat) (hf : ∀ k S, k < n → SP c d S → SP c d (f k S)) {S : mS} (h : SP c d S) : SP c d (mup f n S) := by
  induction n with
  | zero => exact h
  | succ n ih => exact hf n _ (Nat.lt_succ_self n) (ih (fun k S hk => hf k S (by omega)))
theorem SP.over {c d : Nat} {S : mS} (h : SP c d S) {m heard : Nat} (hm : m < c) : SP c d (mover S m heard) := h.H hm
theorem SP.enter {c d : Nat} {S : mS} (h : SP c d S) {m num by9 set : Nat} (hm : m < c) : SP c d (menter S m num by9 set) :=
  SP.M (SP.M (SP.M (SP.M (SP.M (SP.M h hm (fun q => by omega)) hm (fun q => by omega)) hm (fun q => by omega)) hm (fun q => by omega)) hm (fun q => by omega)) hm (fun q => by omega)
theorem SP.none9 {c d : Nat} {S : mS} (h : SP c d S) {m : Nat} (hm : m < c) : SP c d (mnone S m) :=
  SP.M (SP.M (SP.M h hm (fun q => by omega)) hm (fun q => by omega)) hm (fun q => by omega)
theorem SP.told {c d : Nat} {S : mS} (h : SP c d S) {m num by9 set heard : Nat} (hm : m < c) : SP c d (mtold S m num by9 set heard) := by
  unfold mtold
  split
  · exact h
  · exact SP.K (SP.M (SP.enter (SP.over h hm) hm) hm (fun q => by omega)) hm
theorem SP.stands {c d : Nat} {S : mS} (h : SP c d S) (hd : d ≤ 1) {m : Nat} (hm : m < c) : SP c d (mstands S m) := by
  unfold mstands
  refine SP.none9 (SP.ups _ (fun k S' _ h' => ?_) (SP.told (SP.G h (by decide)) hm)) hm
  unfold mstandsF
  split
  · exact h'.send hd
  · exact h'
theorem SP.ans {c d : Nat} {S : mS} (h : SP c d S) (hd : d ≤ 1) {m frm num by9 heard : Nat} (hm : m < c) : SP c d (mans S m frm num by9 heard) := by
  have h1 : SP c d (mputA S m frm num by9 heard) := SP.M (SP.M (SP.M (SP.M h hm (fun q => by omega)) hm (fun q => by omega)) hm (fun q => by omega)) hm (fun q => by omega)
  unfold mans
  split
  · exact h1.stands hd hm
  · exact h1
theorem SP.start {c d : Nat} {S : mS} (h : SP c d S) {m set : Nat} (hm : m < c) : SP c d (mstart S m set) :=
  SP.M (SP.M (SP.M (SP.M (SP.M (SP.M h hm (fun q => by omega)) hm (fun q => by omega)) hm (fun q => by omega)) hm (fun q => by omega)) hm (fun q => by omega)) hm (fun _ => Nat.le_refl _)
theorem SP.call {c d : Nat} {S : mS} (h : SP c d S) (hd : d ≤ 1) {m set : Nat} (hm : m < c) : SP c d (mcall S m set) := by
  unfold mcall msends
  refine SP.ans (SP.ups _ (fun k S' _ h' => ?_) (h.start hm)) hd hm
  unfold mcallF
  split
  · exact h'.send hd
  · exact h'
theorem SP.speech {c d : Nat} {S : mS} (h : SP c d S) {x : mN} (hx : x 2 < c) : SP c d (mspeech S x) := by
  unfold mspeech
  split
  · exact SP.M h hx (fun q => by omega)
  · split
    · exact SP.K h hx
    · exact SP.G h (by decide)
theorem SP.called {c d : Nat} {S : mS} (h : SP c d S) (hd : d ≤ 1) {x : mN} (hx : x 2 < c) : SP c d (mcalled S x) := by
  unfold mcalled
  split
  · exact (SP.none9 (SP.M (SP.M h hx (fun q => by omega)) hx (fun q => by omega)) hx).send hd
  · exact h
theorem SP.replied {c d : Nat} {S : mS} (h : SP c d S) (hd : d ≤ 1) {x : mN} (hx : x 2 < c) : SP c d (mreplied S x) := by
  unfold mreplied
  split
  · exact h.ans hd hx
  · exact h
theorem SP.read {c d : Nat} {S : mS} (h : SP c d S) (hd : d ≤ 1) {x : mN} (hx : x 2 < c) : SP c d (mread S x) := by
  unfold mread
  split
  · exact SP.G h (by decide)
  · split
    · exact h.speech hx
    · split
      · exact h.called hd hx
      · split
        · exact h.replied hd hx
        · exact h.told hx
theorem SP.drop1 {c d : Nat} {S : mS} (h : SP c d S) : SP c d (sN S ((gN S).drop 1)) := by
  obtain ⟨h0, h1, h2, h3, h4, h5⟩ := h
  exact ⟨h0, h1, h2, h3, List.Pairwise.sublist (List.drop_sublist 1 _) h4, fun y hy => h5 y (List.mem_of_mem_drop hy)⟩
theorem SP.wait {c d : Nat} {S : mS} (h : SP c d S) (hd : d ≤ 1) {m : Nat} (hm : m < c) : SP c d (mwaitF m S) := by
  unfold mwaitF
  split
  · exact h.call hd hm
  · exact h
-- told
theorem told_v {S : mS} {m num by9 set heard : Nat} (hp : ¬ (num < gM S m 6 ∨ num ≤ gM S m 2)) : gM (mtold S m num by9 set heard) m 1 = 0 ∧ gM (mtold S m num by9 set heard) m 2 = num ∧ gM (mtold S m num by9 set heard) m 3 = by9 ∧ gM (mtold S m num by9 set heard) m 4 = set ∧ gM (mtold S m num by9 set heard) m 6 = gM S m 6 ∧ gM (mtold S m num by9 set heard) m 8 = gM S m 8 ∧ gM (mtold S m num by9 set heard) m 9 = gM S m 9 ∧ gM (mtold S m num by9 set heard) m 10 = gM S m 10 := by
  unfold mtold
  rw [if_neg hp]
  simp [sK, sM, menter, mover, sH, gM]
theorem told_o {S : mS} {m k num by9 set heard : Nat} (h : k ≠ m) : gM (mtold S m num by9 set heard) k = gM S k ∧ gK (mtold S m num by9 set heard) k = gK S k := by
  unfold mtold
  split
  · exact ⟨rfl, rfl⟩
  · refine ⟨?_, ?_⟩
    · funext w; simp [sK, sM, menter, mover, sH, gM, h]
    · simp [sK, sM, menter, mover, sH, gK, h]
theorem told_69 {S : mS} {m num by9 set heard k : Nat} : gM (mtold S m num by9 set heard) k 6 = gM S k 6 ∧ gM (mtold S m num by9 set heard) k 9 = gM S k 9 ∧ gM (mtold S m num by9 set heard) k 8 = gM S k 8 ∧ gM (mtold S m num by9 set heard) k 10 = gM S k 10 := by
  by_cases e : k = m
  · subst e
    by_cases hp : num < gM S k 6 ∨ num ≤ gM S k 2
    · unfold mtold; rw [if_pos hp]; exact ⟨rfl, rfl, rfl, rfl⟩
    · obtain ⟨_, _, _, _, a6, a8, a9, a10⟩ := told_v (by9 := by9) (set := set) (heard := heard) hp
      exact ⟨a6, a9, a8, a10⟩
  · rw [(told_o e).1]; exact ⟨rfl, rfl, rfl, rfl⟩
theorem told_N {S : mS} {m num by9 set heard : Nat} : gN (mtold S m num by9 set heard) = gN S := by unfold mtold; split <;> rfl
theorem told_G {S : mS} {m num by9 set heard : Nat} : gG (mtold S m num by9 set heard) = gG S := by unfold mtold; split <;> rfl
theorem told_le {S : mS} {m num by9 set heard : Nat} : Mle S (mtold S m num by9 set heard) := Mle.of (fun _ => ⟨told_69.1, told_69.2.1⟩)
theorem MP.told {F : Nat → Nat → Nat} {c : Nat} {S : mS} (h : MP F c S) {m num by9 set heard : Nat} (hm : m < c) (hb : by9 < c) (h1 : pOK S m num) (h2 : set = F num by9) (h3 : set.testBit m = true) (h4 : num ≤ gM S by9 6) : MP F c (mtold S m num by9 set heard) := by
  intro k hk
  obtain ⟨g1, g2⟩ := h k hk
  have ha : aOK (mtold S m num by9 set heard) k := by
    unfold aOK
    rw [told_69.2.1, told_69.2.2.1, told_69.2.2.2]
    exact fun q => ⟨(g2 q).1, fun j hj hb => ((g2 q).2 j hj hb).mono told_le⟩
  refine ⟨?_, ha⟩
  by_cases e : k = m
  · subst e
    by_cases hp : num < gM S k 6 ∨ num ≤ gM S k 2
    · unfold mtold; rw [if_pos hp]; exact g1
    · obtain ⟨a1, a2, a3, a4, a6, a8, a9, a10⟩ := told_v (by9 := by9) (set := set) (heard := heard) hp
      have e6 : gM S k 6 = num := by have := h1.1; omega
      have e9 := h1.2 e6
      obtain ⟨b1, b2, b3, b4, b5, b6, b7, b8⟩ := g1
      unfold mOK
      rw [a1, a2, a3, a4, a6, a8, a9, a10, told_69.1]
      exact ⟨by omega, hb, h4, h2, h3, b6, fun q => absurd e9 q, fun q => by omega⟩
  · exact g1.o (Nat.le_refl c) (fun w _ _ _ => by rw [(told_o e).1]) (told_o e).2 (by rw [told_69.1]; exact Nat.le_refl _) rfl (fun _ => rfl)
theorem NP.told {F : Nat → Nat → Nat} {S : mS} (h : NP F S) {m num by9 set heard : Nat} : NP F (mtold S m num by9 set heard) := h.same told_le told_N
