
/-! what holds of every club that calls can make -/
def pOK (S : mS) (k n : Nat) : Prop := n ≤ gM S k 6 ∧ (gM S k 6 = n → gM S k 9 = 0)
def mOK (F : Nat → Nat → Nat) (c : Nat) (S : mS) (m : Nat) : Prop :=
  gM S m 2 ≤ gM S m 6 ∧ gM S m 3 < c ∧ gM S m 2 ≤ gM S (gM S m 3) 6 ∧ gM S m 4 = F (gM S m 2) (gM S m 3) ∧ (gM S m 4).testBit m = true ∧
  (gM S m 9 = 0 → gM S m 8 = 0 ∧ gM S m 10 = 0) ∧
  (gM S m 9 ≠ 0 → gM S m 8 = gM S m 6 ∧ gM S m 2 < gM S m 6 ∧ gM S m 9 = F (gM S m 6) m ∧ (gM S m 9).testBit m = true) ∧
  (gM S m 1 = 2 → gM S m 9 = 0 ∧ gK S m = [])
def aOK (S : mS) (m : Nat) : Prop := gM S m 9 ≠ 0 → (gM S m 10).testBit m = true ∧ ∀ k, k ≠ m → (gM S m 10).testBit k = true → pOK S k (gM S m 8)
def nOK (F : Nat → Nat → Nat) (S : mS) (x : mN) : Prop :=
  x 1 ≠ x 2 ∧ (x 0 = 0 → x 4 = x 7 ∧ x 5 = x 8) ∧ (x 0 = 2 → 1 ≤ x 4 ∧ pOK S (x 1) (x 4)) ∧
  (x 0 = 3 → pOK S (x 2) (x 4) ∧ x 5 = x 1 ∧ x 9 = F (x 4) (x 5) ∧ (x 9).testBit (x 2) = true ∧ x 4 ≤ gM S (x 1) 6)
def tOK (S : mS) (d : Nat) : Prop := ∀ x, x ∈ gN S → gG S 1 + d ≤ x 3
def sOK (S : mS) : Prop := List.Pairwise (fun a b : mN => a 3 ≤ b 3) (gN S)
def gOK (S : mS) : Prop := ∀ a b, a < 6 → b < 6 → (gG S (8 + a)).testBit b = (gG S (8 + b)).testBit a
def SI (S : mS) : Prop := ∀ m, gM S m 11 ≤ gG S 1
def MP (F : Nat → Nat → Nat) (c : Nat) (S : mS) : Prop := ∀ m, m < c → mOK F c S m ∧ aOK S m
def NP (F : Nat → Nat → Nat) (S : mS) : Prop := ∀ x, x ∈ gN S → nOK F S x
def Inv (c d : Nat) (S : mS) : Prop := gG S 0 = c ∧ Fr c S ∧ SI S ∧ gOK S ∧ sOK S ∧ tOK S d ∧ ∃ F, MP F c S ∧ NP F S
def Mle (S S' : mS) : Prop := ∀ k, gM S k 6 ≤ gM S' k 6 ∧ (gM S' k 6 = gM S k 6 → gM S k 9 = 0 → gM S' k 9 = 0)
theorem Mle.rf {S : mS} : Mle S S := fun _ => ⟨Nat.le_refl _, fun _ h => h⟩
theorem Mle.of {S S' : mS} (h : ∀ k, gM S' k 6 = gM S k 6 ∧ gM S' k 9 = gM S k 9) : Mle S S' := fun k => ⟨by rw [(h k).1]; exact Nat.le_refl _, fun _ q => by rw [(h k).2]; exact q⟩
theorem pOK.mono {S S' : mS} {k n : Nat} (h : pOK S k n) (hM : Mle S S') : pOK S' k n := by
  obtain ⟨h1, h2⟩ := h
  obtain ⟨g1, g2⟩ := hM k
  exact ⟨Nat.le_trans h1 g1, fun q => g2 (by omega) (h2 (by omega))⟩
theorem nOK.mono {F F' : Nat → Nat → Nat} {S S' : mS} {x : mN} (h : nOK F S x) (hM : Mle S S') (hF : x 0 = 3 → F' (x 4) (x 5) = F (x 4) (x 5)) : nOK F' S' x := by
  obtain ⟨h1, h2, h3, h4⟩ := h
  refine ⟨h1, h2, fun q => ⟨(h3 q).1, (h3 q).2.mono hM⟩, fun q => ?_⟩
  obtain ⟨a1, a2, a3, a4, a5⟩ := h4 q
  exact ⟨a1.mono hM, a2, by rw [hF q]; exact a3, a4, Nat.le_trans a5 (hM _).1⟩
theorem mOK.o {F F' : Nat → Nat → Nat} {c c' : Nat} {S S' : mS} {k : Nat} (h : mOK F c S k) (hc : c ≤ c') (e : ∀ w, w < 11 → w ≠ 5 → w ≠ 7 → gM S' k w = gM S k w) (eK : gK S' k = gK S k) (hP : gM S (gM S k 3) 6 ≤ gM S' (gM S k 3) 6) (hF1 : F' (gM S k 2) (gM S k 3) = F (gM S k 2) (gM S k 3)) (hF2 : gM S k 9 ≠ 0 → F' (gM S k 6) k = F (gM S k 6) k) : mOK F' c' S' k := by
  obtain ⟨h1, h2, h3, h4, h5, h6, h7, h8⟩ := h
  unfold mOK
  rw [e 1 (by decide) (by decide) (by decide), e 2 (by decide) (by decide) (by decide), e 3 (by decide) (by decide) (by decide), e 4 (by decide) (by decide) (by decide), e 6 (by decide) (by decide) (by decide), e 8 (by decide) (by decide) (by decide), e 9 (by decide) (by decide) (by decide), e 10 (by decide) (by decide) (by decide), eK, hF1]
  refine ⟨h1, by omega, Nat.le_trans h3 hP, h4, h5, h6, fun q => ?_, h8⟩
  rw [hF2 q]; exact h7 q
theorem aOK.o {S S' : mS} {k : Nat} (h : aOK S k) (hM : Mle S S') (e : ∀ w, w < 11 → w ≠ 5 → w ≠ 7 → gM S' k w = gM S k w) : aOK S' k := by
  unfold aOK
  rw [e 8 (by decide) (by decide) (by decide), e 9 (by decide) (by decide) (by decide), e 10 (by decide) (by decide) (by decide)]
  exact fun q => ⟨(h q).1, fun j hj hb => ((h q).2 j hj hb).mono hM⟩
-- notes that are put among others
theorem mat_gt {L : List mN} {t : Nat} : ∀ n, n ≤ L.length → ∀ k, mat L t n ≤ k → k < n → t < (L.getD k n0) 3 := by
  intro n
  induction n with
  | zero => intro _ k _ h; omega
  | succ n ih =>
    intro hn k h1 h2
    rw [mat] at h1
    split at h1
    · rename_i g
      by_cases e : k = n
      · subst e; exact g
      · exact ih (by omega) k h1 (by omega)
    · omega
theorem mat_last {L : List mN} {t : Nat} : ∀ n, 0 < mat L t n → (L.getD (mat L t n - 1) n0) 3 ≤ t := by
  intro n
  induction n with
  | zero => intro h; exact absurd h (Nat.lt_irrefl 0)
  | succ n ih =>
    intro h
    rw [mat] at h ⊢
    split
    · rename_i g; rw [if_pos g] at h; exact ih h
    · rename_i g; rw [Nat.add_sub_cancel]; omega
theorem sOK_ins {L : List mN} {t : Nat} {x : mN} (hs : List.Pairwise (fun a b : mN => a 3 ≤ b 3) L) (hx : x 3 = t) : List.Pairwise (fun a b : mN => a 3 ≤ b 3) (mins L (mat L t L.length) x) := by
  have hle := mat_le L t L.length
  have hlast := mat_last (L := L) (t := t) L.length
  have hgt := mat_gt (L := L) (t := t) L.length (Nat.le_refl _)
  generalize mat L t L.length = p at hle hlast hgt ⊢
  have hpw := List.pairwise_iff_getElem.mp hs
  have h1 : ∀ a, a ∈ L.take p → a 3 ≤ t := by
    intro a ha
    obtain ⟨i, hi⟩ := List.getElem?_of_mem ha
    have hi2 : i < (L.take p).length := (List.getElem?_eq_some_iff.mp hi).1
    rw [List.length_take] at hi2
    rw [List.getElem?_take_of_lt (by omega)] at hi
    obtain ⟨q1, q2⟩ := List.getElem?_eq_some_iff.mp hi
    have h9 := hlast (by omega)
    rw [List.getD_eq_getElem?_getD, List.getElem?_eq_getElem (by omega : p - 1 < L.length), Option.getD_some] at h9
    by_cases e : i = p - 1
    · subst e; rw [← q2]; exact h9
    · have := hpw i (p - 1) q1 (by omega) (by omega)
      rw [← q2]; omega
  have h2 : ∀ a, a ∈ L.drop p → t ≤ a 3 := by
    intro a ha
    obtain ⟨i, hi⟩ := List.getElem?_of_mem ha
    rw [List.getElem?_drop] at hi
    obtain ⟨q1, q2⟩ := List.getElem?_eq_some_iff.mp hi
    have h9 := hgt (p + i) (by omega) q1
    rw [List.getD_eq_getElem?_getD, hi] at h9
    exact Nat.le_of_lt h9
  have hcut : List.Pairwise (fun a b : mN => a 3 ≤ b 3) (L.take p ++ L.drop p) := by rw [List.take_append_drop]; exact hs
  obtain ⟨g1, g2, g3⟩ := List.pairwise_append.mp hcut
  refine List.pairwise_append.mpr ⟨g1, List.pairwise_cons.mpr ⟨fun b hb => by rw [hx]; exact h2 b hb, g2⟩, fun a ha b hb => ?_⟩
  rcases List.mem_cons.mp hb with rfl | hb
  · rw [hx]; exact h1 a ha
  · exact g3 a ha b hb
theorem msend_G {S : mS} {kd frm to num by9 data i : Nat} (hi : i ≠ 3) : gG (msend S kd frm to num by9 data) i = gG S i := by
  unfold msend
  split
  · show (if i = 3 then _ else S.1 i) = S.1 i
    rw [if_neg hi]
  · rfl
theorem msend_K {S : mS} {kd frm to num by9 data : Nat} : gK (msend S kd frm to num by9 data) = gK S := by unfold msend; split <;> rfl
theorem msend_H {S : mS} {kd frm to num by9 data : Nat} : gH (msend S kd frm to num by9 data) = gH S := by unfold msend; split <;> rfl
theorem msend_N {S : mS} {kd frm to num by9 data : Nat} {y : mN} (h : y ∈ gN (msend S kd frm to num by9 data)) : y ∈ gN S ∨ y = mnote kd frm to (gG S 1 + mfar S frm to) num by9 data (gM S frm 2) (gM S frm 3) (gM S frm 4) := by
  unfold msend at h
  split at h
  · exact Or.inl h
  · exact (mins_mem h).symm
theorem msend_s {S : mS} {kd frm to num by9 data : Nat} (h : sOK S) : sOK (msend S kd frm to num by9 data) := by
  unfold msend
  split
  · exact h
  · exact sOK_ins h rfl
theorem msend_t {S : mS} {kd frm to num by9 data d : Nat} (hd : d ≤ 1) (h : tOK S d) : tOK (msend S kd frm to num by9 data) d := by
  intro y hy
  rw [msend_G (by decide)]
  rcases msend_N hy with q | q
  · exact h y q
  · subst q
    show gG S 1 + d ≤ gG S 1 + mfar S frm to
    unfold mfar; omega
/-- of a note that is sent: all but the notes is as before, and the new one is in order -/
theorem NP.send {F : Nat → Nat → Nat} {S : mS} {kd frm to num by9 data : Nat} (h : NP F S) (hn : nOK F S (mnote kd frm to (gG S 1 + mfar S frm to) num by9 data (gM S frm 2) (gM S frm 3) (gM S frm 4))) : NP F (msend S kd frm to num by9 data) := by
  intro y hy
  have hM : Mle S (msend S kd frm to num by9 data) := Mle.of (fun k => by rw [msend_M]; exact ⟨rfl, rfl⟩)
  rcases msend_N hy with q | q
  · exact (h y q).mono hM (fun _ => rfl)
  · rw [q]; exact hn.mono hM (fun _ => rfl)
theorem MP.same {F : Nat → Nat → Nat} {c : Nat} {S S' : mS} (h : MP F c S) (eM : gM S' = gM S) (eK : gK S' = gK S) : MP F c S' := by
  intro m hm
  have hM : Mle S S' := Mle.of (fun k => by rw [eM]; exact ⟨rfl, rfl⟩)
  exact ⟨(h m hm).1.o (Nat.le_refl c) (fun w _ _ _ => by rw [eM]) (by rw [eK]) (by rw [eM]; exact Nat.le_refl _) rfl (fun _ => rfl), (h m hm).2.o hM (fun w _ _ _ => by rw [eM])⟩
theorem NP.same {F : Nat → Nat → Nat} {S S' : mS} (h : NP F S) (hM : Mle S S') (eN : gN S' = gN S) : NP F S' := fun x hx => (h x (by rw [eN] at hx; exact hx)).mono hM (fun _ => rfl)
