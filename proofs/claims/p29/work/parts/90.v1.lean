
/-! WHAT THE LAW ASKS OF EVERY CLUB: what is heard is the roll's, who answers was called, who went together from one roll to another one heard the same -/
def nxt (L : List mT) (p : Nat × Nat) (i : Nat) : Nat × Nat := if i + 1 < L.length then ((L.getD (i + 1) t0).1, (L.getD (i + 1) t0).2.1) else p
def uS (c : Nat) (S : mS) (k : Nat) : Prop := gM S k 4 < 2 ^ c ∧ (∀ j, j < 4 → (gM S k 5).testBit (4 * k + j) = decide (j < gM S k 7)) ∧ ∀ j, (gM S k 5).testBit j = true → (gM S k 4).testBit (j / 4) = true
def uA (c : Nat) (S : mS) (k : Nat) : Prop := gM S k 9 ≠ 0 → gM S k 9 < 2 ^ c ∧ gM S k 1 = 1 ∧ gM S k 10 ≠ gM S k 9 ∧ ∀ j, (gM S k 10).testBit j = true → (gM S k 9).testBit j = true
def uK (F : Nat → Nat → Nat) (c : Nat) (S : mS) (k : Nat) : Prop := ∀ t, t ∈ gK S k → t.2.2 / 4 ≠ k ∧ t.2.1 < c ∧ t.1 ≤ gM S t.2.1 6 ∧ (F t.1 t.2.1).testBit (t.2.2 / 4) = true
def uW (W : Nat → Nat → Nat) (S : mS) (k : Nat) : Prop := gM S k 9 ≠ 0 → ∀ j, (gM S k 10).testBit j = true → W j (gM S k 8) = k ∧ (gM S j 6 = gM S k 8 → gM S j 2 < gM S k 8 ∧ gM S k (12 + 3 * j) = gM S j 2 ∧ gM S k (13 + 3 * j) = gM S j 3)
/-- a member's times in rolls: the list of what is over, and where it is now -/
def uC (G : Nat → Nat → Nat → Nat → Nat) (S : mS) (L : List mT) (p : Nat × Nat) : Prop := pOK S p.2 p.1 ∧ ∀ i, i < L.length → (L.getD i t0).1 < (nxt L p i).1 ∧ pOK S (nxt L p i).2 (nxt L p i).1 ∧ (L.getD i t0).2.2 = G (L.getD i t0).1 (L.getD i t0).2.1 (nxt L p i).1 (nxt L p i).2
def uH (G : Nat → Nat → Nat → Nat → Nat) (S : mS) (k : Nat) : Prop := uC G S (gH S k) (gM S k 2, gM S k 3)
def uM (F W : Nat → Nat → Nat) (G : Nat → Nat → Nat → Nat → Nat) (c : Nat) (S : mS) (k : Nat) : Prop := uS c S k ∧ uA c S k ∧ uK F c S k ∧ uW W S k ∧ uH G S k
def uN (F W : Nat → Nat → Nat) (G : Nat → Nat → Nat → Nat → Nat) (c : Nat) (S : mS) (x : mN) : Prop :=
  (x 0 = 0 → x 6 / 4 = x 1 ∧ x 5 < c ∧ x 4 ≤ gM S (x 5) 6 ∧ (F (x 4) (x 5)).testBit (x 1) = true) ∧
  (x 0 = 1 → x 4 ≤ gM S (x 1) 6 ∧ (F (x 4) (x 1)).testBit (x 2) = true) ∧
  (x 0 = 2 → x 4 ≤ gM S (x 2) 6 ∧ (F (x 4) (x 2)).testBit (x 1) = true ∧ W (x 1) (x 4) = x 2 ∧ (gM S (x 2) 9 ≠ 0 → gM S (x 2) 8 = x 4 → gM S (x 1) 6 = x 4 → gM S (x 1) 2 < x 4 ∧ x 7 = gM S (x 1) 2 ∧ x 8 = gM S (x 1) 3)) ∧
  (x 0 = 3 → x 9 < 2 ^ c ∧ W (x 2) (x 4) = x 5 ∧ pOK S (x 5) (x 4) ∧ (gM S (x 2) 6 = x 4 → gM S (x 2) 2 < x 4 → x 6 = G (gM S (x 2) 2) (gM S (x 2) 3) (x 4) (x 5))) ∧
  x 3 ≤ gG S 1 + 10
def JV (F W : Nat → Nat → Nat) (G : Nat → Nat → Nat → Nat → Nat) (c : Nat) (S : mS) : Prop := (∀ k, k < c → uM F W G c S k) ∧ ∀ x, x ∈ gN S → uN F W G c S x
theorem uC.mono {G G' : Nat → Nat → Nat → Nat → Nat} {S S' : mS} {L : List mT} {p : Nat × Nat} (h : uC G S L p) (hM : Mle S S') (hG : ∀ a b n d, pOK S d n → G' a b n d = G a b n d) : uC G' S' L p :=
  ⟨h.1.mono hM, fun i hi => ⟨(h.2 i hi).1, (h.2 i hi).2.1.mono hM, by rw [hG _ _ _ _ (h.2 i hi).2.1]; exact (h.2 i hi).2.2⟩⟩
theorem uN.same {F W : Nat → Nat → Nat} {G : Nat → Nat → Nat → Nat → Nat} {c : Nat} {S S' : mS} {x : mN} (h : uN F W G c S x) (eM : gM S' = gM S) (eT : gG S 1 ≤ gG S' 1) : uN F W G c S' x := by
  obtain ⟨h1, h2, h3, h4, h5⟩ := h
  unfold uN pOK
  rw [eM]
  exact ⟨h1, h2, h3, h4, Nat.le_trans h5 (Nat.add_le_add_right eT 10)⟩
theorem uM.same {F W : Nat → Nat → Nat} {G : Nat → Nat → Nat → Nat → Nat} {c : Nat} {S S' : mS} {k : Nat} (h : uM F W G c S k) (eM : gM S' = gM S) (eK : gK S' = gK S) (eH : gH S' = gH S) : uM F W G c S' k := by
  unfold uM uS uA uK uW uH uC pOK at h ⊢
  rw [eM, eK, eH]
  exact h
theorem JV.same {F W : Nat → Nat → Nat} {G : Nat → Nat → Nat → Nat → Nat} {c : Nat} {S S' : mS} (h : JV F W G c S) (eM : gM S' = gM S) (eK : gK S' = gK S) (eH : gH S' = gH S) (eT : gG S 1 ≤ gG S' 1) (hN : ∀ x, x ∈ gN S' → x ∈ gN S ∨ uN F W G c S' x) : JV F W G c S' :=
  ⟨fun k hk => (h.1 k hk).same eM eK eH, fun x hx => (hN x hx).elim (fun q => (h.2 x q).same eM eT) id⟩
theorem JV.g {F W : Nat → Nat → Nat} {G : Nat → Nat → Nat → Nat → Nat} {c : Nat} {S : mS} (h : JV F W G c S) {i x : Nat} (hi : i ≠ 1) : JV F W G c (sG S i x) :=
  h.same rfl rfl rfl (by show S.1 1 ≤ if 1 = i then x else S.1 1; rw [if_neg (fun q => hi q.symm)]; exact Nat.le_refl _) (fun y hy => Or.inl hy)
theorem JV.send {F W : Nat → Nat → Nat} {G : Nat → Nat → Nat → Nat → Nat} {c : Nat} {S : mS} {kd frm to num by9 data : Nat} (h : JV F W G c S) (hn : uN F W G c S (mnote kd frm to (gG S 1 + mfar S frm to) num by9 data (gM S frm 2) (gM S frm 3) (gM S frm 4))) : JV F W G c (msend S kd frm to num by9 data) := by
  have eT : gG S 1 ≤ gG (msend S kd frm to num by9 data) 1 := by rw [msend_G (by decide)]; exact Nat.le_refl _
  exact h.same msend_M msend_K msend_H eT (fun x hx => (msend_N hx).imp_right (fun q => by rw [q]; exact hn.same msend_M eT))
/-- all but one member's own -/
def JX (F W : Nat → Nat → Nat) (G : Nat → Nat → Nat → Nat → Nat) (c : Nat) (S : mS) (m : Nat) : Prop := (∀ k, k < c → k ≠ m → uM F W G c S k) ∧ ∀ x, x ∈ gN S → uN F W G c S x
theorem JV.x {F W : Nat → Nat → Nat} {G : Nat → Nat → Nat → Nat → Nat} {c : Nat} {S : mS} (h : JV F W G c S) (m : Nat) : JX F W G c S m := ⟨fun k hk _ => h.1 k hk, h.2⟩
theorem JX.all {F W : Nat → Nat → Nat} {G : Nat → Nat → Nat → Nat → Nat} {c : Nat} {S : mS} {m : Nat} (h : JX F W G c S m) (hm : uM F W G c S m) : JV F W G c S :=
  ⟨fun k hk => by
    by_cases e : k = m
    · rw [e]; exact hm
    · exact h.1 k hk e, h.2⟩
/-- a step that touches one member, and puts notes in -/
theorem JX.step {F F' W W' : Nat → Nat → Nat} {G G' : Nat → Nat → Nat → Nat → Nat} {c m : Nat} {S S' : mS} (h : JX F W G c S m) (hP : ∀ k, k < c → k ≠ m → mOK F c S k ∧ aOK S k) (hQ : NP F S) (hcc : ∀ x, x ∈ gN S → x 1 < c ∧ x 2 < c) (hM : Mle S S')
    (eo : ∀ k, k ≠ m → gM S' k = gM S k ∧ gK S' k = gK S k ∧ gH S' k = gH S k)
    (hF : ∀ n b, b < c → n ≤ gM S b 6 → F' n b = F n b) (hW : ∀ j n, n ≤ gM S j 6 → W' j n = W j n) (hG : ∀ a b n d, pOK S d n → G' a b n d = G a b n d)
    (hx : (gM S' m 6 = gM S m 6 ∧ gM S' m 2 = gM S m 2 ∧ gM S' m 3 = gM S m 3) ∨ gM S m 6 < gM S' m 6 ∨ (gM S' m 6 = gM S m 6 ∧ gM S' m 6 ≤ gM S' m 2 ∧ ∀ B, W m (gM S m 6) = B → B ≠ m → gM S B 9 ≠ 0 → gM S B 8 ≠ gM S m 6))
    (hy : gM S' m 9 ≠ 0 → (gM S m 9 ≠ 0 ∧ gM S' m 8 = gM S m 8) ∨ gM S m 6 < gM S' m 8)
    (hN : ∀ x, x ∈ gN S' → x ∈ gN S ∨ uN F' W' G' c S' x) (hT : gG S 1 ≤ gG S' 1) : JX F' W' G' c S' m := by
  refine ⟨fun k hk e => ?_, fun x hx9 => ?_⟩
  · obtain ⟨eM, eK, eH⟩ := eo k e
    obtain ⟨h1, h2, h3, h4, h5⟩ := h.1 k hk e
    obtain ⟨⟨b1, b2, b3, b4, b5, b6, b7, b8⟩, ha⟩ := hP k hk e
    refine ⟨?_, ?_, fun t ht => ?_, ?_, ?_⟩
    · unfold uS at h1 ⊢; rw [eM]; exact h1
    · unfold uA at h2 ⊢; rw [eM]; exact h2
    · rw [eK] at ht
      obtain ⟨t1, t2, t3, t4⟩ := h3 t ht
      exact ⟨t1, t2, Nat.le_trans t3 (hM _).1, by rw [hF _ _ t2 t3]; exact t4⟩
    · intro h9 j hj
      rw [eM] at h9 hj ⊢
      obtain ⟨w1, w2⟩ := h4 h9 j hj
      have hle : gM S k 8 ≤ gM S j 6 := by
        by_cases ej : j = k
        · rw [ej, (b7 h9).1]; exact Nat.le_refl _
        · exact ((ha h9).2 j ej hj).1
      refine ⟨by rw [hW _ _ hle]; exact w1, fun q => ?_⟩
      by_cases ej : j = m
      · rw [ej] at q hle w1 w2 ⊢
        rcases hx with ⟨p1, p2, p3⟩ | p | ⟨p1, p2, p3⟩
        · rw [p2, p3]; exact w2 (by rw [← p1]; exact q)
        · omega
        · exact absurd (q.symm.trans p1) (p3 k (by rw [← p1, q]; exact w1) e h9)
      · rw [(eo j ej).1] at q ⊢; exact w2 q
    · unfold uH; rw [eM, eH]; exact uC.mono h5 hM hG
  · rcases hN x hx9 with q | q
    · obtain ⟨h1, h2, h3, h4, h5⟩ := h.2 x q
      obtain ⟨n1, n2, n3, n4⟩ := hQ x q
      obtain ⟨c1, c2⟩ := hcc x q
      refine ⟨fun z => ?_, fun z => ?_, fun z => ?_, fun z => ?_, Nat.le_trans h5 (Nat.add_le_add_right hT 10)⟩
      · obtain ⟨a1, a2, a3, a4⟩ := h1 z
        exact ⟨a1, a2, Nat.le_trans a3 (hM _).1, by rw [hF _ _ a2 a3]; exact a4⟩
      · obtain ⟨a1, a2⟩ := h2 z
        exact ⟨Nat.le_trans a1 (hM _).1, by rw [hF _ _ c1 a1]; exact a2⟩
      · obtain ⟨a1, a2, a3, a4⟩ := h3 z
        have hle := (n3 z).2.1
        refine ⟨Nat.le_trans a1 (hM _).1, by rw [hF _ _ c2 a1]; exact a2, by rw [hW _ _ hle]; exact a3, fun g9 g8 g6 => ?_⟩
        have k9 : gM S (x 2) 9 ≠ 0 ∧ gM S (x 2) 8 = x 4 := by
          by_cases e2 : x 2 = m
          · rw [e2] at g9 g8 a1 ⊢
            rcases hy g9 with ⟨y1, y2⟩ | y
            · exact ⟨y1, by rw [← y2]; exact g8⟩
            · omega
          · rw [(eo _ e2).1] at g9 g8; exact ⟨g9, g8⟩
        by_cases e1 : x 1 = m
        · rw [e1] at g6 hle a3 a4 ⊢
          rcases hx with ⟨p1, p2, p3⟩ | p | ⟨p1, p2, p3⟩
          · rw [p2, p3]; exact a4 k9.1 k9.2 (by rw [← p1]; exact g6)
          · omega
          · exact absurd (k9.2.trans (g6.symm.trans p1)) (p3 (x 2) (by rw [← p1, g6]; exact a3) (fun z9 => n1 (e1.trans z9.symm)) k9.1)
        · rw [(eo _ e1).1] at g6 ⊢; exact a4 k9.1 k9.2 g6
      · obtain ⟨a1, a2, a3, a4⟩ := h4 z
        have hle := (n4 z).1.1
        refine ⟨a1, by rw [hW _ _ hle]; exact a2, a3.mono hM, fun g6 g2 => ?_⟩
        rw [hG _ _ _ _ a3]
        by_cases e2 : x 2 = m
        · rw [e2] at g6 g2 hle a4 ⊢
          rcases hx with ⟨p1, p2, p3⟩ | p | ⟨p1, p2, p3⟩
          · rw [p2, p3]; exact a4 (by rw [← p1]; exact g6) (by rw [← p2]; exact g2)
          · omega
          · omega
        · rw [(eo _ e2).1] at g6 g2 ⊢; exact a4 g6 g2
    · exact q
theorem JV.step {F F' W W' : Nat → Nat → Nat} {G G' : Nat → Nat → Nat → Nat → Nat} {c m : Nat} {S S' : mS} (h : JV F W G c S) (hP : MP F c S) (hQ : NP F S) (hcc : ∀ x, x ∈ gN S → x 1 < c ∧ x 2 < c) (hM : Mle S S')
    (eo : ∀ k, k ≠ m → gM S' k = gM S k ∧ gK S' k = gK S k ∧ gH S' k = gH S k)
    (hF : ∀ n b, b < c → n ≤ gM S b 6 → F' n b = F n b) (hW : ∀ j n, n ≤ gM S j 6 → W' j n = W j n) (hG : ∀ a b n d, pOK S d n → G' a b n d = G a b n d)
    (hm : uM F' W' G' c S' m)
    (hx : (gM S' m 6 = gM S m 6 ∧ gM S' m 2 = gM S m 2 ∧ gM S' m 3 = gM S m 3) ∨ gM S m 6 < gM S' m 6 ∨ (gM S' m 6 = gM S m 6 ∧ gM S' m 6 ≤ gM S' m 2 ∧ ∀ B, W m (gM S m 6) = B → B ≠ m → gM S B 9 ≠ 0 → gM S B 8 ≠ gM S m 6))
    (hy : gM S' m 9 ≠ 0 → (gM S m 9 ≠ 0 ∧ gM S' m 8 = gM S m 8) ∨ gM S m 6 < gM S' m 8)
    (hN : ∀ x, x ∈ gN S' → x ∈ gN S ∨ uN F' W' G' c S' x) (hT : gG S 1 ≤ gG S' 1) : JV F' W' G' c S' :=
  ((h.x m).step (fun k hk _ => hP k hk) hQ hcc hM eo hF hW hG hx hy hN hT).all hm
/-- the same, all else but one member's own being as it was -/
theorem JV.one {F W : Nat → Nat → Nat} {G : Nat → Nat → Nat → Nat → Nat} {c m : Nat} {S S' : mS} (h : JV F W G c S) (hP : MP F c S) (hQ : NP F S) (hcc : ∀ x, x ∈ gN S → x 1 < c ∧ x 2 < c) (hM : Mle S S')
    (eo : ∀ k, k ≠ m → gM S' k = gM S k ∧ gK S' k = gK S k ∧ gH S' k = gH S k) (hm : uM F W G c S' m) (e6 : gM S' m 6 = gM S m 6) (e2 : gM S' m 2 = gM S m 2) (e3 : gM S' m 3 = gM S m 3)
    (hy : gM S' m 9 ≠ 0 → gM S m 9 ≠ 0 ∧ gM S' m 8 = gM S m 8) (eN : gN S' = gN S) (eT : gG S' 1 = gG S 1) : JV F W G c S' :=
  h.step hP hQ hcc hM eo (fun _ _ _ _ => rfl) (fun _ _ _ => rfl) (fun _ _ _ _ _ => rfl) hm (Or.inl ⟨e6, e2, e3⟩) (fun q => Or.inl (hy q)) (fun x hx => Or.inl (by rw [← eN]; exact hx)) (Nat.le_of_eq eT.symm)
