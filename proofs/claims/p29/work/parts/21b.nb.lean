
/-! bounds of all numbers of a club -/
def okG (B i x : Nat) : Prop := if 8 ≤ i ∧ i < 14 then x < 64 else x ≤ B
def okM (B w x : Nat) : Prop := if w = 0 then x ≤ 9 else if w = 1 then x ≤ 2 else if w = 2 ∨ w = 6 ∨ w = 8 ∨ w = 11 then x ≤ B else if w = 3 then x < 6 else if w = 4 ∨ w = 9 ∨ w = 10 then x < 64 else if w = 5 then x < 16777216 else if w = 7 then x ≤ 4 else if w % 3 = 0 then x ≤ B else if w % 3 = 1 then x < 6 else x < 16777216
def okT (B : Nat) (b : Nat) (t : mT) : Prop := t.1 ≤ B ∧ t.2.1 < 6 ∧ t.2.2 < b
def okN (c B : Nat) (x : mN) : Prop := x 0 ≤ 3 ∧ x 1 < c ∧ x 2 < c ∧ x 3 ≤ B + 10 ∧ x 4 ≤ B ∧ x 5 < 6 ∧ x 6 < 16777216 ∧ x 7 ≤ B ∧ x 8 < 6 ∧ x 9 < 64 ∧ (x 0 = 0 → x 6 < 24)
def NB (c : Nat) (S : mS) (B : Nat) : Prop := gG S 0 = c ∧ c ≤ 6 ∧ (∀ i, okG B i (gG S i)) ∧ (∀ m w, w < 30 → okM B w (gM S m w)) ∧ (∀ m t, t ∈ gK S m → okT B 24 t) ∧ (∀ m t, t ∈ gH S m → okT B 16777216 t) ∧ (∀ x, x ∈ gN S → okN c B x) ∧ RB S
theorem okG_up {B D i x : Nat} (h : okG B i x) (hB : B ≤ D) : okG D i x := by
  unfold okG at h ⊢; split at h <;> rename_i g
  · rw [if_pos g]; exact h
  · rw [if_neg g]; omega
theorem okM_up {B D w x : Nat} (h : okM B w x) (hB : B ≤ D) : okM D w x := by
  unfold okM at h ⊢; repeat' split at h
  all_goals simp_all
  all_goals omega
theorem okT_up {B D b : Nat} {t : mT} (h : okT B b t) (hB : B ≤ D) : okT D b t := ⟨Nat.le_trans h.1 hB, h.2⟩
theorem okN_up {c B D : Nat} {x : mN} (h : okN c B x) (hB : B ≤ D) : okN c D x := by
  obtain ⟨h0, h1, h2, h3, h4, h5, h6, h7, h8, h9, h10⟩ := h
  exact ⟨h0, h1, h2, by omega, by omega, h5, h6, by omega, h8, h9, h10⟩
theorem NB.up {c B D : Nat} {S : mS} (h : NB c S B) (hB : B ≤ D) : NB c S D :=
  ⟨h.1, h.2.1, fun i => okG_up (h.2.2.1 i) hB, fun m w hw => okM_up (h.2.2.2.1 m w hw) hB, fun m t ht => okT_up (h.2.2.2.2.1 m t ht) hB, fun m t ht => okT_up (h.2.2.2.2.2.1 m t ht) hB, fun x hx => okN_up (h.2.2.2.2.2.2.1 x hx) hB, h.2.2.2.2.2.2.2⟩
theorem NB.c0 {c B : Nat} {S : mS} (h : NB c S B) : gG S 0 = c := h.1
theorem NB.c6 {c B : Nat} {S : mS} (h : NB c S B) : c ≤ 6 := h.2.1
theorem NB.g {c B : Nat} {S : mS} (h : NB c S B) {i : Nat} (hi : i < 8) : gG S i ≤ B := by
  have := h.2.2.1 i
  unfold okG at this
  rw [if_neg (by omega)] at this
  exact this
theorem NB.cut {c B : Nat} {S : mS} (h : NB c S B) {i : Nat} (hi : i < 6) : gG S (8 + i) < 64 := by
  have := h.2.2.1 (8 + i)
  unfold okG at this
  rw [if_pos (by omega)] at this
  exact this
theorem NB.m0 {c B : Nat} {S : mS} (h : NB c S B) (m : Nat) : gM S m 0 ≤ 9 := h.2.2.2.1 m 0 (by decide)
theorem NB.m1 {c B : Nat} {S : mS} (h : NB c S B) (m : Nat) : gM S m 1 ≤ 2 := h.2.2.2.1 m 1 (by decide)
theorem NB.m2 {c B : Nat} {S : mS} (h : NB c S B) (m : Nat) : gM S m 2 ≤ B := h.2.2.2.1 m 2 (by decide)
theorem NB.m3 {c B : Nat} {S : mS} (h : NB c S B) (m : Nat) : gM S m 3 < 6 := h.2.2.2.1 m 3 (by decide)
theorem NB.m4 {c B : Nat} {S : mS} (h : NB c S B) (m : Nat) : gM S m 4 < 64 := h.2.2.2.1 m 4 (by decide)
theorem NB.m5 {c B : Nat} {S : mS} (h : NB c S B) (m : Nat) : gM S m 5 < 16777216 := h.2.2.2.1 m 5 (by decide)
theorem NB.m6 {c B : Nat} {S : mS} (h : NB c S B) (m : Nat) : gM S m 6 ≤ B := h.2.2.2.1 m 6 (by decide)
theorem NB.m7 {c B : Nat} {S : mS} (h : NB c S B) (m : Nat) : gM S m 7 ≤ 4 := h.2.2.2.1 m 7 (by decide)
theorem NB.m8 {c B : Nat} {S : mS} (h : NB c S B) (m : Nat) : gM S m 8 ≤ B := h.2.2.2.1 m 8 (by decide)
theorem NB.m9 {c B : Nat} {S : mS} (h : NB c S B) (m : Nat) : gM S m 9 < 64 := h.2.2.2.1 m 9 (by decide)
theorem NB.m10 {c B : Nat} {S : mS} (h : NB c S B) (m : Nat) : gM S m 10 < 64 := h.2.2.2.1 m 10 (by decide)
theorem NB.m11 {c B : Nat} {S : mS} (h : NB c S B) (m : Nat) : gM S m 11 ≤ B := h.2.2.2.1 m 11 (by decide)
theorem okM_a {B k x : Nat} : okM B (12 + 3 * k) x ↔ x ≤ B := by
  unfold okM
  rw [if_neg (by omega), if_neg (by omega), if_neg (by omega), if_neg (by omega), if_neg (by omega), if_neg (by omega), if_neg (by omega), if_pos (by omega)]
theorem okM_b {B k x : Nat} : okM B (13 + 3 * k) x ↔ x < 6 := by
  unfold okM
  rw [if_neg (by omega), if_neg (by omega), if_neg (by omega), if_neg (by omega), if_neg (by omega), if_neg (by omega), if_neg (by omega), if_neg (by omega), if_pos (by omega)]
theorem okM_h {B k x : Nat} : okM B (14 + 3 * k) x ↔ x < 16777216 := by
  unfold okM
  rw [if_neg (by omega), if_neg (by omega), if_neg (by omega), if_neg (by omega), if_neg (by omega), if_neg (by omega), if_neg (by omega), if_neg (by omega), if_neg (by omega)]
theorem NB.a1 {c B : Nat} {S : mS} (h : NB c S B) (m : Nat) {k : Nat} (hk : k < 6) : gM S m (12 + 3 * k) ≤ B := okM_a.mp (h.2.2.2.1 m _ (by omega))
theorem NB.a2 {c B : Nat} {S : mS} (h : NB c S B) (m : Nat) {k : Nat} (hk : k < 6) : gM S m (13 + 3 * k) < 6 := okM_b.mp (h.2.2.2.1 m _ (by omega))
theorem NB.a3 {c B : Nat} {S : mS} (h : NB c S B) (m : Nat) {k : Nat} (hk : k < 6) : gM S m (14 + 3 * k) < 16777216 := okM_h.mp (h.2.2.2.1 m _ (by omega))
theorem NB.k {c B : Nat} {S : mS} (h : NB c S B) {m : Nat} {t : mT} (ht : t ∈ gK S m) : okT B 24 t := h.2.2.2.2.1 m t ht
theorem NB.h {c B : Nat} {S : mS} (h : NB c S B) {m : Nat} {t : mT} (ht : t ∈ gH S m) : okT B 16777216 t := h.2.2.2.2.2.1 m t ht
theorem NB.n {c B : Nat} {S : mS} (h : NB c S B) {x : mN} (hx : x ∈ gN S) : okN c B x := h.2.2.2.2.2.2.1 x hx
theorem NB.b {c B : Nat} {S : mS} (h : NB c S B) : RB S := h.2.2.2.2.2.2.2
theorem NB.G {c B : Nat} {S : mS} (h : NB c S B) {i x : Nat} (h0 : i ≠ 0) (hx : okG B i x) : NB c (sG S i x) B := by
  refine ⟨?_, h.c6, fun j => ?_, h.2.2.2.1, h.2.2.2.2.1, h.2.2.2.2.2.1, h.2.2.2.2.2.2.1, h.b⟩
  · show (if 0 = i then x else S.1 0) = c
    rw [if_neg (fun q => h0 q.symm)]; exact h.1
  · show okG B j (if j = i then x else S.1 j)
    split
    · rename_i e; subst e; exact hx
    · exact h.2.2.1 j
theorem NB.M {c B : Nat} {S : mS} (h : NB c S B) {m w x : Nat} (hx : w < 30 → okM B w x) : NB c (sM S m w x) B := by
  refine ⟨h.1, h.c6, h.2.2.1, fun a j hj => ?_, h.2.2.2.2.1, h.2.2.2.2.2.1, h.2.2.2.2.2.2.1, h.b⟩
  show okM B j (if a = m then (if j = w then x else S.2.1 a j) else S.2.1 a j)
  split
  · split
    · rename_i e; subst e; exact hx hj
    · exact h.2.2.2.1 a j hj
  · exact h.2.2.2.1 a j hj
theorem NB.K {c B : Nat} {S : mS} (h : NB c S B) {m : Nat} {l : List mT} (hl : l.length ≤ 12) (hx : ∀ t, t ∈ l → okT B 24 t) : NB c (sK S m l) B := by
  refine ⟨h.1, h.c6, h.2.2.1, h.2.2.2.1, fun a t => ?_, h.2.2.2.2.2.1, h.2.2.2.2.2.2.1, ⟨fun a => ?_, h.b.2⟩⟩
  · show t ∈ (if a = m then l else S.2.2.1 a) → _
    split
    · exact hx t
    · exact h.2.2.2.2.1 a t
  · show (if a = m then l else S.2.2.1 a).length ≤ 12
    split
    · exact hl
    · exact h.b.1 a
theorem NB.H {c B : Nat} {S : mS} (h : NB c S B) {m : Nat} {l : List mT} (hl : l.length ≤ 5) (hx : ∀ t, t ∈ l → okT B 16777216 t) : NB c (sH S m l) B := by
  refine ⟨h.1, h.c6, h.2.2.1, h.2.2.2.1, h.2.2.2.2.1, fun a t => ?_, h.2.2.2.2.2.2.1, ⟨h.b.1, fun a => ?_, h.b.2.2⟩⟩
  · show t ∈ (if a = m then l else S.2.2.2.1 a) → _
    split
    · exact hx t
    · exact h.2.2.2.2.2.1 a t
  · show (if a = m then l else S.2.2.2.1 a).length ≤ 5
    split
    · exact hl
    · exact h.b.2.1 a
theorem NB.N {c B : Nat} {S : mS} (h : NB c S B) {l : List mN} (hl : l.length ≤ 150) (hx : ∀ x, x ∈ l → okN c B x) : NB c (sN S l) B :=
  ⟨h.1, h.c6, h.2.2.1, h.2.2.2.1, h.2.2.2.2.1, h.2.2.2.2.2.1, hx, ⟨h.b.1, h.b.2.1, hl⟩⟩
theorem mat_le (L : List mN) (t : Nat) : ∀ n, mat L t n ≤ n := by
  intro n
  induction n with
  | zero => exact Nat.le_refl _
  | succ n ih => simp only [mat]; split <;> omega
theorem mins_mem {L : List mN} {p : Nat} {x y : mN} (h : y ∈ mins L p x) : y = x ∨ y ∈ L := by
  simp only [mins, List.mem_append, List.mem_cons] at h
  rcases h with h | h | h
  · exact Or.inr (List.mem_of_mem_take h)
  · exact Or.inl h
  · exact Or.inr (List.mem_of_mem_drop h)
theorem mins_len {L : List mN} {p : Nat} {x : mN} (h : p ≤ L.length) : (mins L p x).length = L.length + 1 := by
  simp only [mins, List.length_append, List.length_cons, List.length_take, List.length_drop]; omega
theorem mfar_le {c B : Nat} {S : mS} (h : NB c S B) (a d : Nat) : mfar S a d ≤ 10 := by
  have := h.m0 a; have := h.m0 d
  simp only [mfar]; omega
theorem NB.send {c B : Nat} {S : mS} (h : NB c S B) {kind frm to num by9 data : Nat} (h0 : kind ≤ 3) (h1 : frm < c) (h2 : to < c) (h3 : num ≤ B) (h4 : by9 < 6) (h5 : data < 16777216) (h6 : kind = 0 → data < 24) : NB c (msend S kind frm to num by9 data) (B + 1) := by
  unfold msend
  have hu := h.up (Nat.le_succ B)
  have hc := h.c6
  split
  · exact hu.G (by decide) (by have := h.g (i := 3) (by decide); show gG S 3 + 1 ≤ B + 1; omega)
  · rename_i hn
    refine hu.N ?_ (fun x hx => ?_)
    · rw [mins_len (mat_le _ _ _)]
      have := h.b.2.2
      have : ¬ (gN S).length = 150 := fun q => hn (Or.inr q)
      omega
    · rcases mins_mem hx with e | e
      · subst e
        have a0 := h.m2 frm; have a1 := h.m3 frm; have a2 := h.m4 frm; have a3 := mfar_le h frm to; have a4 := h.g (i := 1) (by decide)
        exact ⟨h0, h1, h2, by show gG S 1 + mfar S frm to ≤ B + 1 + 10; omega, by show num ≤ B + 1; omega, h4, h5, by show gM S frm 2 ≤ B + 1; omega, a1, a2, h6⟩
      · exact hu.n e
theorem NB.ups {c B : Nat} {f : Nat → mS → mS} {d : Nat} (n : Nat) (hf : ∀ k S D, k < n → B ≤ D → NB c S D → NB c (f k S) (D + d)) {S : mS} (h : NB c S B) : NB c (mup f n S) (B + n * d) := by
  induction n with
  | zero => simpa [mup] using h
  | succ n ih =>
    have h1 := ih (fun k S D hk => hf k S D (by omega))
    have h2 := hf n _ _ (Nat.lt_succ_self n) (Nat.le_add_right _ _) h1
    have e : B + (n + 1) * d = B + n * d + d := by rw [Nat.succ_mul, Nat.add_assoc]
    rw [e]; exact h2
theorem or24 {a b : Nat} (ha : a < 16777216) (hb : b < 16777216) : a ||| b < 16777216 := Nat.or_lt_two_pow (n := 24) ha hb
theorem or6 {a b : Nat} (ha : a < 64) (hb : b < 64) : a ||| b < 64 := Nat.or_lt_two_pow (n := 6) ha hb
theorem sh24 {k : Nat} (h : k < 24) : 1 <<< k < 16777216 := by
  rw [Nat.shiftLeft_eq, Nat.one_mul]
  exact Nat.pow_lt_pow_right (by decide : 1 < 2) h
theorem sh6 {k : Nat} (h : k < 6) : 1 <<< k < 64 := by
  rw [Nat.shiftLeft_eq, Nat.one_mul]
  exact Nat.pow_lt_pow_right (by decide : 1 < 2) h
theorem mor_lt {num by9 B : Nat} : ∀ {l : List mT} {a : Nat}, (∀ t, t ∈ l → okT B 24 t) → a < 16777216 → mor num by9 l a < 16777216 := by
  intro l
  induction l with
  | nil => intro a _ h; exact h
  | cons t l ih =>
    intro a hl h
    show mor num by9 l _ < _
    refine ih (fun u hu => hl u (List.mem_cons_of_mem _ hu)) ?_
    show (if t.1 = num ∧ t.2.1 = by9 then a ||| 1 <<< t.2.2 else a) < 16777216
    split
    · exact or24 h (sh24 (hl t List.mem_cons_self).2.2)
    · exact h
theorem mhb_lt {c B : Nat} {S : mS} (h : NB c S B) (m one : Nat) : ∀ n, n ≤ 6 → mhb S m one n < 16777216 := by
  intro n
  induction n with
  | zero => intro _; exact (by decide : (0 : Nat) < 16777216)
  | succ n ih =>
    intro hn
    simp only [mhb]
    refine or24 (ih (by omega)) ?_
    split
    · exact h.a3 m (by omega)
    · decide
theorem NB.over {c B : Nat} {S : mS} (h : NB c S B) {m heard : Nat} (h1 : heard < 16777216) : NB c (mover S m heard) B := by
  unfold mover
  have hb := h.b.2.1 m
  refine h.H ?_ (fun t ht => ?_)
  · simp only [List.length_append, List.length_cons, List.length_nil]
    split
    · simp only [List.length_drop]; omega
    · omega
  · rcases List.mem_append.mp ht with q | q
    · split at q
      · exact h.h (List.mem_of_mem_drop q)
      · exact h.h q
    · rcases List.mem_singleton.mp q with rfl
      exact ⟨h.m2 m, h.m3 m, h1⟩
theorem NB.enter {c B : Nat} {S : mS} (h : NB c S B) {m num by9 set : Nat} (h1 : num ≤ B) (h2 : by9 < 6) (h3 : set < 64) : NB c (menter S m num by9 set) B :=
  by
  unfold menter
  exact NB.M (NB.M (NB.M (NB.M (NB.M (NB.M h (fun _ => by show 0 ≤ 2; decide)) (fun _ => by exact h1)) (fun _ => by exact h2)) (fun _ => by exact h3)) (fun _ => by show 0 < 16777216; decide)) (fun _ => by show 0 ≤ 4; decide)
theorem NB.none9 {c B : Nat} {S : mS} (h : NB c S B) {m : Nat} : NB c (mnone S m) B :=
  by
  unfold mnone
  exact NB.M (NB.M (NB.M h (fun _ => Nat.zero_le _)) (fun _ => by show 0 < 64; decide)) (fun _ => by show 0 < 64; decide)
theorem NB.told {c B : Nat} {S : mS} (h : NB c S B) {m num by9 set heard : Nat} (h1 : num ≤ B) (h2 : by9 < 6) (h3 : set < 64) (h4 : heard < 16777216) : NB c (mtold S m num by9 set heard) B := by
  unfold mtold
  split
  · exact h
  · refine NB.K (NB.M ((h.over h4).enter h1 h2 h3) (fun _ => ?_)) ?_ (fun t ht => ?_)
    · exact mor_lt (fun t ht => h.k ht) (by decide)
    · exact Nat.le_trans (List.length_filter_le _ _) (h.b.1 m)
    · exact h.k ((List.mem_filter.mp ht).1)
theorem NB.stands {c B : Nat} {S : mS} (h : NB c S B) {m : Nat} (hm : m < c) : NB c (mstands S m) (B + 7) := by
  unfold mstands
  have hc := h.c6
  have h1 : NB c (sG S 6 (gG S 6 + 1)) (B + 1) := (h.up (Nat.le_succ B)).G (by decide) (by have := h.g (i := 6) (by decide); show gG S 6 + 1 ≤ B + 1; omega)
  have h8 := h.m8 m
  have h2 := h1.told (m := m) (num := gM S m 8) (by9 := m) (set := gM S m 9) (heard := mheard S m m) (by omega) (by omega) (h.m9 m) (mhb_lt h m m 6 (Nat.le_refl _))
  have h3 : NB c (mup (mstandsF m (gM S m 8) (gM S m 9)) c (mtold (sG S 6 (gG S 6 + 1)) m (gM S m 8) m (gM S m 9) (mheard S m m))) (B + 1 + c * 1) := NB.ups (B := B + 1) c (fun k S' D hk hD h' => ?_) h2
  · rw [h.c0]
    exact (h3.up (by omega)).none9
  · unfold mstandsF
    split
    · exact h'.send (by decide) hm hk (by omega) (by omega) (mhb_lt h' m k 6 (Nat.le_refl _)) (fun q => absurd q (by decide))
    · exact h'.up (by omega)
theorem NB.putA {c B : Nat} {S : mS} (h : NB c S B) {m frm num by9 heard : Nat} (h0 : frm < 6) (h1 : num ≤ B) (h2 : by9 < 6) (h3 : heard < 16777216) : NB c (mputA S m frm num by9 heard) B :=
  by
  unfold mputA
  exact NB.M (NB.M (NB.M (NB.M h (fun _ => okM_a.mpr h1)) (fun _ => okM_b.mpr h2)) (fun _ => okM_h.mpr h3)) (fun _ => by show _ < 64; exact or6 (h.m10 m) (sh6 h0))
theorem NB.ans {c B : Nat} {S : mS} (h : NB c S B) {m frm num by9 heard : Nat} (hm : m < c) (h0 : frm < 6) (h1 : num ≤ B) (h2 : by9 < 6) (h3 : heard < 16777216) : NB c (mans S m frm num by9 heard) (B + 7) := by
  unfold mans
  split
  · exact (h.putA h0 h1 h2 h3).stands hm
  · exact (h.putA h0 h1 h2 h3).up (by omega)
theorem NB.start {c B : Nat} {S : mS} (h : NB c S B) {m set : Nat} (hs : set < 64) : NB c (mstart S m set) (B + 1) := by
  have hu := h.up (Nat.le_succ B)
  have h6 := h.m6 m
  unfold mstart
  exact NB.M (NB.M (NB.M (NB.M (NB.M (NB.M hu (fun _ => by show gM S m 6 + 1 ≤ B + 1; omega)) (fun _ => by show 1 ≤ 2; decide)) (fun _ => by show gM S m 6 + 1 ≤ B + 1; omega)) (fun _ => by exact hs)) (fun _ => by show 0 < 64; decide)) (fun _ => by show gG S 1 ≤ B + 1; have := h.g (i := 1) (by decide); omega)
theorem NB.sends {c B : Nat} {S : mS} (h : NB c S B) {m set : Nat} (hm : m < c) (hs : set < 64) (n : Nat) (hn : n ≤ c) : NB c (mup (mcallF m (gM S m 6 + 1) set) n (mstart S m set)) (B + 7) := by
  have hc := h.c6
  have h6 := h.m6 m
  have := NB.ups (B := B + 1) (f := mcallF m (gM S m 6 + 1) set) (d := 1) n (fun k S' D hk hD h' => by
    unfold mcallF
    split
    · exact h'.send (by decide) hm (by omega) (by omega) (by omega) (by omega) (fun q => absurd q (by decide))
    · exact h'.up (by omega)) (h.start (m := m) hs)
  exact this.up (by omega)
theorem NB.call {c B : Nat} {S : mS} (h : NB c S B) {m set : Nat} (hm : m < c) (hs : set < 64) : NB c (mcall S m set) (B + 14) := by
  unfold mcall msends
  rw [h.c0]
  have hc := h.c6
  exact (h.sends hm hs c (Nat.le_refl _)).ans hm (by omega) (by have := h.m2 m; omega) (h.m3 m) (h.m5 m)
theorem NB.speech {c B : Nat} {S : mS} (h : NB c S B) {x : mN} (hx : okN c B x) (h0 : x 0 = 0) : NB c (mspeech S x) (B + 1) := by
  obtain ⟨q0, q1, q2, q3, q4, q5, q6, q7, q8, q9, q10⟩ := hx
  unfold mspeech
  split
  · exact NB.up (NB.M h (fun _ => or24 (h.m5 _) (sh24 (q10 h0)))) (Nat.le_succ B)
  · split
    · rename_i g
      refine (h.K ?_ (fun t ht => ?_)).up (Nat.le_succ B)
      · simp only [List.length_append, List.length_cons, List.length_nil]; omega
      · rcases List.mem_append.mp ht with e | e
        · exact h.k e
        · rcases List.mem_singleton.mp e with rfl
          exact ⟨q4, q5, q10 h0⟩
    · exact (h.up (Nat.le_succ B)).G (by decide) (by have := h.g (i := 5) (by decide); show gG S 5 + 1 ≤ B + 1; omega)
theorem NB.called {c B : Nat} {S : mS} (h : NB c S B) {x : mN} (hx : okN c B x) : NB c (mcalled S x) (B + 1) := by
  obtain ⟨q0, q1, q2, q3, q4, q5, q6, q7, q8, q9, q10⟩ := hx
  have hc := h.c6
  unfold mcalled
  split
  · exact (NB.none9 (NB.M (NB.M h (fun _ => by exact q4)) (fun _ => by show 1 ≤ 2; decide))).send (by decide) q2 q1 q4 (by omega) (h.m5 _) (fun q => absurd q (by decide))
  · exact h.up (Nat.le_succ B)
theorem NB.replied {c B : Nat} {S : mS} (h : NB c S B) {x : mN} (hx : okN c B x) : NB c (mreplied S x) (B + 7) := by
  obtain ⟨q0, q1, q2, q3, q4, q5, q6, q7, q8, q9, q10⟩ := hx
  have hc := h.c6
  unfold mreplied
  split
  · exact h.ans q2 (by omega) q7 q8 q6
  · exact h.up (by omega)
theorem NB.read {c B : Nat} {S : mS} (h : NB c S B) {x : mN} (hx : okN c B x) : NB c (mread S x) (B + 7) := by
  unfold mread
  split
  · exact ((h.up (Nat.le_succ B)).G (by decide) (by have := h.g (i := 3) (by decide); show gG S 3 + 1 ≤ B + 1; omega)).up (by omega)
  · split
    · rename_i g; exact (h.speech hx g).up (by omega)
    · split
      · exact (h.called hx).up (by omega)
      · split
        · exact h.replied hx
        · exact (h.told hx.2.2.2.2.1 hx.2.2.2.2.2.1 hx.2.2.2.2.2.2.2.2.2.1 hx.2.2.2.2.2.2.1).up (by omega)
theorem NB.drop1 {c B : Nat} {S : mS} (h : NB c S B) : NB c (sN S ((gN S).drop 1)) B :=
  h.N (by have := h.b.2.2; simp only [List.length_drop]; omega) (fun x hx => h.n (List.mem_of_mem_drop hx))
theorem head_mem {L : List mN} (h : 0 < L.length) : L.getD 0 n0 ∈ L := List.mem_of_getElem? (getD_some h)
theorem NB.comes {c B : Nat} {S : mS} (h : NB c S B) (h0 : 0 < (gN S).length) : NB c (mcomes S) (B + 7) := h.drop1.read (h.n (head_mem h0))
theorem NB.drain {c : Nat} : ∀ (n : Nat) {B : Nat} {S : mS}, NB c S B → NB c (mdrain n S) (B + 7 * n) := by
  intro n
  induction n with
  | zero => intro B S h; exact h
  | succ n ih =>
    intro B S h
    simp only [mdrain]
    split
    · rename_i g
      exact (ih (h.comes g.1)).up (by omega)
    · exact h.up (by omega)
theorem NB.wait {c B : Nat} {S : mS} (h : NB c S B) {m : Nat} (hm : m < c) : NB c (mwaitF m S) (B + 14) := by
  unfold mwaitF
  split
  · exact h.call hm (h.m10 m)
  · exact h.up (by omega)
theorem NB.time {c B : Nat} {S : mS} (h : NB c S B) : NB c (sG S 1 (gG S 1 + 1)) (B + 1) := (h.up (Nat.le_succ B)).G (by decide) (by have := h.g (i := 1) (by decide); show gG S 1 + 1 ≤ B + 1; omega)
theorem NB.drained {c B : Nat} {S : mS} (h : NB c S B) : NB c (mdrain (gN S).length (sG S 1 (gG S 1 + 1))) (B + 1051) := by
  have := h.b.2.2
  exact (NB.drain (gN S).length h.time).up (by omega)
theorem NB.tick {c B : Nat} {S : mS} (h : NB c S B) : NB c (mtick S) (B + 1135) := by
  have hc := h.c6
  unfold mtick
  split
  · have := NB.ups (B := B + 1051) (f := mwaitF) (d := 14) (gG S 0) (fun k S' D hk _ h' => h'.wait (by rw [h.c0] at hk; exact hk)) h.drained
    rw [h.c0] at this ⊢
    exact this.up (by omega)
  · exact h.drained.up (by omega)
theorem NB.ticks {c B : Nat} {S : mS} (h : NB c S B) : ∀ n, NB c (mticks n S) (B + 1135 * n) := by
  intro n
  induction n with
  | zero => exact h
  | succ n ih =>
    simp only [mticks]
    exact ih.tick.up (by omega)
theorem NB.add {c B : Nat} {S : mS} (h : NB c S B) {p : Nat} (hc : c < 6) (hp : p ≤ 9) (hB : 6 ≤ B) : NB (c + 1) (madd S p) B := by
  have h1 : NB c (sM S (gG S 0) 0 p) B := NB.M h (fun _ => by exact hp)
  refine ⟨?_, by omega, fun j => ?_, h1.2.2.2.1, h1.2.2.2.2.1, h1.2.2.2.2.2.1, fun x hx => ?_, h1.b⟩
  · show (if (0 : Nat) = 0 then gG S 0 + 1 else S.1 0) = c + 1
    rw [if_pos rfl, h.c0]
  · show okG B j (if j = 0 then gG S 0 + 1 else S.1 j)
    split
    · rename_i e; subst e; rw [h.c0]; show c + 1 ≤ B; omega
    · exact h.2.2.1 j
  · obtain ⟨q0, q1, q2, q3⟩ := h1.n hx
    exact ⟨q0, by omega, by omega, q3⟩
theorem NB.say {c B : Nat} {S : mS} (h : NB c S B) {m : Nat} (hm : m < c) (h7 : gM S m 7 < 4) (n : Nat) (hn : n ≤ c) : NB c (mup (msayF m (4 * m + gM S m 7)) n (msay0 S m)) (B + 7) := by
  have hc := h.c6
  have h1 : NB c (msay0 S m) (B + 1) := NB.G (NB.M (NB.M (h.up (Nat.le_succ B)) (fun _ => by show gM S m 7 + 1 ≤ 4; omega)) (fun _ => or24 (h.m5 m) (sh24 (by omega)))) (by decide) (by have := h.g (i := 4) (by decide); show gG S 4 + 1 ≤ B + 1; omega)
  have := NB.ups (B := B + 1) (f := msayF m (4 * m + gM S m 7)) (d := 1) n (fun k S' D hk hD h' => by
    unfold msayF
    split
    · exact h'.send (by decide) hm (by omega) (h'.m2 m) (h'.m3 m) (by omega) (fun _ => by omega)
    · exact h'.up (by omega)) h1
  exact this.up (by omega)
theorem NB.leave {c B : Nat} {S : mS} (h : NB c S B) {m : Nat} : NB c (mleave S m) B :=
  NB.K (NB.none9 (NB.M h (fun _ => by show 2 ≤ 2; decide))) (by decide) (fun t ht => by cases ht)
theorem NB.back {c B : Nat} {S : mS} (h : NB c S B) {m : Nat} (hm : m < c) : NB c (mback S m) (B + 1) := by
  have hc := h.c6
  have h6 := h.m6 m
  exact (NB.M ((h.over (h.m5 m)).up (Nat.le_succ B)) (fun _ => by show gM S m 6 + 1 ≤ B + 1; omega)).enter (by omega) (by omega) (sh6 (by omega))
theorem mclr_lt {a k : Nat} (ha : a < 64) (hk : k < 6) : mclr a k < 64 := by
  unfold mclr; split
  · exact Nat.xor_lt_two_pow (n := 6) ha (sh6 hk)
  · exact ha
theorem NB.cut9 {c B : Nat} {S : mS} (h : NB c S B) {a d : Nat} (ha : a < 6) (hd : d < 6) (cut : Bool) : NB c (mcut S a d cut) B := by
  have okc : ∀ i x, i < 6 → x < 64 → okG B (8 + i) x := fun i x hi hx => by unfold okG; rw [if_pos (by omega)]; exact hx
  have e1 := h.cut ha
  have e2 := h.cut hd
  unfold mcut
  split
  · have h1 := h.G (i := 8 + a) (x := gG S (8 + a) ||| 1 <<< d) (by omega) (okc a _ ha (or6 e1 (sh6 hd)))
    exact h1.G (by omega) (okc d _ hd (or6 e2 (sh6 ha)))
  · have h1 := h.G (i := 8 + a) (x := mclr (gG S (8 + a)) d) (by omega) (okc a _ ha (mclr_lt e1 hd))
    exact h1.G (by omega) (okc d _ hd (mclr_lt e2 ha))
