
/-! WHEN A ROLL STANDS: who calls, until it stands or is given up -/
/-- an answer to the call of this number comes before any greater call that comes at the same time -/
def zR (m num : Nat) (y x : mN) : Prop := y 0 = 2 ∧ y 2 = m ∧ y 4 = num → x 0 = 1 ∧ x 2 = m ∧ num < x 4 → y 3 < x 3
def ZN (m num : Nat) (S : mS) : Prop := List.Pairwise (zR m num) (gN S) ∧ ∀ x, x ∈ gN S → x 0 = 2 → x 1 = m → x 4 < num
def ZT (m num : Nat) (S : mS) : Prop := ∀ x, x ∈ gN S → x 0 = 1 → x 2 = m → num < x 4 → gG S 1 < x 3
theorem pw_ins {R : mN → mN → Prop} {L : List mN} {t : Nat} {x : mN} (hs : List.Pairwise R L) (h1 : ∀ z, z ∈ L → R z x) (h2 : ∀ z, z ∈ L → t < z 3 → R x z) : List.Pairwise R (mins L (mat L t L.length) x) := by
  have hgt := mat_gt (L := L) (t := t) L.length (Nat.le_refl _)
  generalize mat L t L.length = p at hgt ⊢
  have hcut : List.Pairwise R (L.take p ++ L.drop p) := by rw [List.take_append_drop]; exact hs
  obtain ⟨g1, g2, g3⟩ := List.pairwise_append.mp hcut
  refine List.pairwise_append.mpr ⟨g1, List.pairwise_cons.mpr ⟨fun b hb => ?_, g2⟩, fun a ha b hb => ?_⟩
  · refine h2 b (List.mem_of_mem_drop hb) ?_
    obtain ⟨i, hi⟩ := List.getElem?_of_mem hb
    rw [List.getElem?_drop] at hi
    obtain ⟨q1, q2⟩ := List.getElem?_eq_some_iff.mp hi
    have h9 := hgt (p + i) (by omega) q1
    rw [List.getD_eq_getElem?_getD, hi] at h9
    exact h9
  · rcases List.mem_cons.mp hb with rfl | hb
    · exact h1 a (List.mem_of_mem_take ha)
    · exact g3 a ha b hb
theorem ZN.send {m num : Nat} {S : mS} {kd frm to nm by9 data : Nat} (h : ZN m num S) (h1 : kd = 1 → to = m → nm ≤ num) (h2 : kd = 2 → frm = m → nm < num) : ZN m num (msend S kd frm to nm by9 data) := by
  refine ⟨?_, fun x hx => ?_⟩
  · unfold msend
    split
    · exact h.1
    · refine pw_ins h.1 (fun z _ _ q => ?_) (fun z _ q _ _ => q)
      have := h1 q.1 q.2.1
      exact absurd (show num < nm from q.2.2) (by omega)
  · rcases msend_N hx with q | q
    · exact h.2 x q
    · rw [q]; exact h2
theorem ZT.send {m num : Nat} {S : mS} {kd frm to nm by9 data : Nat} (h : ZT m num S) : ZT m num (msend S kd frm to nm by9 data) := by
  intro x hx
  rw [msend_G (by decide)]
  rcases msend_N hx with q | q
  · exact h x q
  · rw [q]
    intro _ _ _
    show gG S 1 < gG S 1 + mfar S frm to
    unfold mfar; omega
theorem ZN.of {m num : Nat} {S S' : mS} (h : ZN m num S) (e : gN S' = gN S) : ZN m num S' := by unfold ZN; rw [e]; exact h
theorem ZT.of {m num : Nat} {S S' : mS} (h : ZT m num S) (e : gN S' = gN S) (e1 : gG S' 1 = gG S 1) : ZT m num S' := by unfold ZT; rw [e, e1]; exact h
theorem ups_P {P : mS → Prop} {f : Nat → mS → mS} (n : Nat) (hf : ∀ k S, k < n → P S → P (f k S)) {S : mS} (h : P S) : P (mup f n S) := by
  induction n with
  | zero => exact h
  | succ n ih => exact hf n _ (Nat.lt_succ_self n) (ih (fun k S hk => hf k S (by omega)))
theorem ZN.stands {m num k : Nat} {S : mS} (h : ZN m num S) : ZN m num (mstands S k) := by
  unfold mstands
  refine ZN.of (ups_P (P := ZN m num) _ (fun j S' _ h' => ?_) (h.of (by rw [told_N]; rfl))) rfl
  unfold mstandsF
  split
  · exact h'.send (fun q => absurd q (by decide)) (fun q => absurd q (by decide))
  · exact h'
theorem ZT.stands {m num k : Nat} {S : mS} (h : ZT m num S) : ZT m num (mstands S k) := by
  unfold mstands
  refine ZT.of (ups_P (P := ZT m num) _ (fun j S' _ h' => ?_) (h.of (by rw [told_N]; rfl) (by rw [told_G]; rfl))) rfl rfl
  unfold mstandsF
  split
  · exact h'.send
  · exact h'
theorem ZN.ans {m num k frm nm by9 heard : Nat} {S : mS} (h : ZN m num S) : ZN m num (mans S k frm nm by9 heard) := by
  unfold mans
  split
  · exact ZN.stands (h.of rfl)
  · exact h.of rfl
theorem ZT.ans {m num k frm nm by9 heard : Nat} {S : mS} (h : ZT m num S) : ZT m num (mans S k frm nm by9 heard) := by
  unfold mans
  split
  · exact ZT.stands (h.of rfl rfl)
  · exact h.of rfl rfl
theorem ZN.call {m num k set : Nat} {S : mS} (h : ZN m num S) (h1 : set.testBit m = true → k ≠ m → gM S k 6 + 1 ≤ num) : ZN m num (mcall S k set) := by
  unfold mcall msends
  refine ZN.ans (ups_P (P := ZN m num) _ (fun j S' _ h' => ?_) (h.of rfl))
  unfold mcallF
  split
  · rename_i q
    exact h'.send (fun _ e => h1 (by rw [← e]; exact q.2) (by rw [← e]; exact fun z => q.1 z.symm)) (fun q => absurd q (by decide))
  · exact h'
theorem ZT.call {m num k set : Nat} {S : mS} (h : ZT m num S) : ZT m num (mcall S k set) := by
  unfold mcall msends
  refine ZT.ans (ups_P (P := ZT m num) _ (fun j S' _ h' => ?_) (h.of rfl rfl))
  unfold mcallF
  split
  · exact h'.send
  · exact h'
theorem stands_o {S : mS} {k m : Nat} (h : m ≠ k) : gM (mstands S k) m = gM S m := by
  unfold mstands
  funext w
  rw [none_o (Or.inl h), (ups_same (f := mstandsF k (gM S k 8) (gM S k 9)) (gG S 0) (fun k S' => standsF_same) _).1, (told_o h).1]
  rfl
theorem ans_o {S : mS} {k m frm nm by9 heard : Nat} (h : m ≠ k) : gM (mans S k frm nm by9 heard) m = gM S m := by
  have e : gM (mputA S k frm nm by9 heard) m = gM S m := funext (fun w => put_o (Or.inl h))
  unfold mans
  split
  · rw [stands_o h, e]
  · exact e
theorem call_o {S : mS} {k m set : Nat} (h : m ≠ k) : gM (mcall S k set) m = gM S m := by
  unfold mcall msends
  rw [ans_o h, (ups_same (f := mcallF k (gM S k 6 + 1) set) (gG S 0) (fun k S' => callF_same) _).1]
  exact funext (fun w => start_o (Or.inl h))
theorem called_o {S : mS} {x : mN} {m : Nat} (h : m ≠ x 2) : gM (mcalled S x) m = gM S m := by
  unfold mcalled
  split
  · rw [msend_M]
    funext w
    rw [none_o (Or.inl h)]
    simp [sM, gM, h]
  · rfl
theorem speech_o {S : mS} {x : mN} {m w : Nat} (h : m ≠ x 2 ∨ w ≠ 5) : gM (mspeech S x) m w = gM S m w := by
  unfold mspeech
  split
  · show (if m = x 2 then (if w = 5 then _ else S.2.1 m w) else S.2.1 m w) = S.2.1 m w
    rcases h with h | h
    · rw [if_neg h]
    · rw [if_neg h, ite_self]
  · split <;> rfl
theorem read_o {S : mS} {x : mN} {m : Nat} (h : m ≠ x 2) : gM (mread S x) m = gM S m := by
  unfold mread
  split
  · rfl
  split
  · exact funext (fun w => speech_o (Or.inl h))
  split
  · exact called_o h
  split
  · unfold mreplied
    split
    · exact ans_o h
    · rfl
  · exact (told_o h).1
/-- the state of a stood roll, of one that answers -/
theorem stands_m {S : mS} {m : Nat} (hp : ¬ (gM S m 8 < gM S m 6 ∨ gM S m 8 ≤ gM S m 2)) : gM (mstands S m) m 1 = 0 ∧ gM (mstands S m) m 2 = gM S m 8 ∧ gM (mstands S m) m 3 = m ∧ gM (mstands S m) m 4 = gM S m 9 ∧ gM (mstands S m) m 6 = gM S m 6 ∧ gM (mstands S m) m 9 = 0 := by
  have hv := told_v (S := sG S 6 (gG S 6 + 1)) (m := m) (num := gM S m 8) (by9 := m) (set := gM S m 9) (heard := mheard S m m) hp
  unfold mstands
  rw [none_0.2.1, none_o (Or.inr (by decide)), none_o (Or.inr (by decide)), none_o (Or.inr (by decide)), none_o (Or.inr (by decide)), none_o (Or.inr (by decide)), (ups_same (f := mstandsF m (gM S m 8) (gM S m 9)) (gG S 0) (fun k S' => standsF_same) _).1]
  exact ⟨hv.1, hv.2.1, hv.2.2.1, hv.2.2.2.1, hv.2.2.2.2.1, rfl⟩
theorem put_m {S : mS} {m frm nm by9 heard w : Nat} (h : w < 12) (h2 : w ≠ 10) : gM (mputA S m frm nm by9 heard) m w = gM S m w := put_o (Or.inr ⟨h, h2⟩)
/-- an answer, at the one who calls: as before, or the roll stands -/
theorem ans_m {S : mS} {m frm nm by9 heard : Nat} (hp : ¬ (gM S m 8 < gM S m 6 ∨ gM S m 8 ≤ gM S m 2)) : (∀ w, w < 12 → w ≠ 10 → gM (mans S m frm nm by9 heard) m w = gM S m w) ∨ (gM (mans S m frm nm by9 heard) m 1 = 0 ∧ gM (mans S m frm nm by9 heard) m 2 = gM S m 8 ∧ gM (mans S m frm nm by9 heard) m 3 = m ∧ gM (mans S m frm nm by9 heard) m 4 = gM S m 9 ∧ gM (mans S m frm nm by9 heard) m 6 = gM S m 6 ∧ gM (mans S m frm nm by9 heard) m 9 = 0) := by
  unfold mans
  split
  · right
    have := stands_m (S := mputA S m frm nm by9 heard) (m := m) (by rw [put_m (by decide) (by decide), put_m (by decide) (by decide), put_m (by decide) (by decide)]; exact hp)
    rw [put_m (by decide) (by decide), put_m (by decide) (by decide), put_m (by decide) (by decide)] at this
    exact this
  · left
    exact fun w h1 h2 => put_m h1 h2
def ZC (c m num set : Nat) (U : mS) : Prop := gM U m 6 = num ∧ gM U m 9 = set ∧ gM U m 9 ≠ 0 ∧ ZN m num U ∧ ∀ b, b < c → b ≠ m → gM U b 9 ≠ 0 → (gM U b 10).testBit m = true → gM U b 8 < num
def ZD (m num : Nat) (U : mS) : Prop := num < gM U m 6 ∧ gM U m 2 ≠ num
def ZS (m num set : Nat) (U : mS) : Prop := gM U m 2 = num ∧ gM U m 3 = m ∧ gM U m 4 = set ∧ gM U m 1 = 0 ∧ gM U m 6 = num ∧ ZT m num U
def ZA (c m num set : Nat) (U : mS) : Prop := ZC c m num set U ∨ ZD m num U ∨ ZS m num set U
