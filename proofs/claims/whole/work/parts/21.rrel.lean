
/-! the reference's row of numbers, and what it says -/
theorem vU_o {v : vV} {n k : Nat} {x : Int32} {a c : Nat} (h : a ≠ n ∨ c ≠ k) : vU v n k x a c = v a c := by
  unfold vU
  by_cases e : a = n
  · subst e
    rw [if_pos rfl, if_neg (by rcases h with h | h; exact absurd rfl h; exact h)]
  · rw [if_neg e]
theorem vU_s {v : vV} {n k : Nat} {x : Int32} : vU v n k x n k = x := by simp [vU]
/-- bounds of lengths -/
def RB (S : mS) : Prop := (∀ m, (gK S m).length ≤ 12) ∧ (∀ m, (gH S m).length ≤ 5) ∧ (gN S).length ≤ 150
def RR (c : Nat) (v : vV) (r : Nat) (S : mS) : Prop :=
  gG S 0 = c ∧ c ≤ 6 ∧
  (∀ i, i < 14 → i ≠ 2 → v r i = nI (gG S i)) ∧ v r 2 = nI (gN S).length ∧
  (∀ m, m < c → ∀ w, w < 30 → v r (14 + 83 * m + w) = nI (gM S m w)) ∧
  (∀ m, m < c → v r (14 + 83 * m + 30) = nI (gK S m).length ∧ ∀ (k : Nat) (t : mT), (gK S m)[k]? = some t → v r (14 + 83 * m + 31 + 3 * k) = nI t.1 ∧ v r (14 + 83 * m + 31 + 3 * k + 1) = nI t.2.1 ∧ v r (14 + 83 * m + 31 + 3 * k + 2) = nI t.2.2) ∧
  (∀ m, m < c → v r (14 + 83 * m + 67) = nI (gH S m).length ∧ ∀ (k : Nat) (t : mT), (gH S m)[k]? = some t → v r (14 + 83 * m + 68 + 3 * k) = nI t.1 ∧ v r (14 + 83 * m + 68 + 3 * k + 1) = nI t.2.1 ∧ v r (14 + 83 * m + 68 + 3 * k + 2) = nI t.2.2) ∧
  (∀ (k : Nat) (x : mN), (gN S)[k]? = some x → ∀ j, j < 10 → v r (512 + 10 * k + j) = nI (x j)) ∧ RB S
theorem RR.c0 {c : Nat} {v : vV} {r : Nat} {S : mS} (h : RR c v r S) : gG S 0 = c := h.1
theorem RR.c6 {c : Nat} {v : vV} {r : Nat} {S : mS} (h : RR c v r S) : c ≤ 6 := h.2.1
theorem RR.g {c : Nat} {v : vV} {r : Nat} {S : mS} (h : RR c v r S) {i : Nat} (hi : i < 14) (h2 : i ≠ 2) : v r i = nI (gG S i) := h.2.2.1 i hi h2
theorem RR.cc {c : Nat} {v : vV} {r : Nat} {S : mS} (h : RR c v r S) : v r 0 = nI c := by rw [h.g (by decide) (by decide), h.c0]
theorem RR.n {c : Nat} {v : vV} {r : Nat} {S : mS} (h : RR c v r S) : v r 2 = nI (gN S).length := h.2.2.2.1
theorem RR.m {c : Nat} {v : vV} {r : Nat} {S : mS} (h : RR c v r S) {m w : Nat} (hm : m < c) (hw : w < 30) : v r (14 + 83 * m + w) = nI (gM S m w) := h.2.2.2.2.1 m hm w hw
theorem RR.kl {c : Nat} {v : vV} {r : Nat} {S : mS} (h : RR c v r S) {m : Nat} (hm : m < c) : v r (14 + 83 * m + 30) = nI (gK S m).length := (h.2.2.2.2.2.1 m hm).1
theorem RR.kr {c : Nat} {v : vV} {r : Nat} {S : mS} (h : RR c v r S) {m k : Nat} {t : mT} (hm : m < c) (hk : (gK S m)[k]? = some t) : v r (14 + 83 * m + 31 + 3 * k) = nI t.1 ∧ v r (14 + 83 * m + 31 + 3 * k + 1) = nI t.2.1 ∧ v r (14 + 83 * m + 31 + 3 * k + 2) = nI t.2.2 := (h.2.2.2.2.2.1 m hm).2 k t hk
theorem RR.hl {c : Nat} {v : vV} {r : Nat} {S : mS} (h : RR c v r S) {m : Nat} (hm : m < c) : v r (14 + 83 * m + 67) = nI (gH S m).length := (h.2.2.2.2.2.2.1 m hm).1
theorem RR.hr {c : Nat} {v : vV} {r : Nat} {S : mS} (h : RR c v r S) {m k : Nat} {t : mT} (hm : m < c) (hk : (gH S m)[k]? = some t) : v r (14 + 83 * m + 68 + 3 * k) = nI t.1 ∧ v r (14 + 83 * m + 68 + 3 * k + 1) = nI t.2.1 ∧ v r (14 + 83 * m + 68 + 3 * k + 2) = nI t.2.2 := (h.2.2.2.2.2.2.1 m hm).2 k t hk
theorem RR.x {c : Nat} {v : vV} {r : Nat} {S : mS} (h : RR c v r S) {k j : Nat} {x : mN} (hk : (gN S)[k]? = some x) (hj : j < 10) : v r (512 + 10 * k + j) = nI (x j) := h.2.2.2.2.2.2.2.1 k x hk j hj
theorem getD_some {α : Type} {l : List α} {k : Nat} {d : α} (hk : k < l.length) : l[k]? = some (l.getD k d) := by rw [List.getD_eq_getElem?_getD, List.getElem?_eq_getElem hk]; rfl
theorem RR.xd {c : Nat} {v : vV} {r : Nat} {S : mS} (h : RR c v r S) {k j : Nat} (hk : k < (gN S).length) (hj : j < 10) : v r (512 + 10 * k + j) = nI (((gN S).getD k n0) j) := h.x (getD_some hk) hj
theorem RR.b {c : Nat} {v : vV} {r : Nat} {S : mS} (h : RR c v r S) : RB S := h.2.2.2.2.2.2.2.2
theorem RR.of {c : Nat} {v v' : vV} {r : Nat} {S : mS} (h : RR c v r S) (e : ∀ i, i < 2012 → v' r i = v r i) : RR c v' r S := by
  obtain ⟨ha, hc, h1, h2, h3, h4, h5, h6, hb⟩ := h
  have hb2 := hb
  obtain ⟨b2, b3, b4⟩ := hb
  refine ⟨ha, hc, fun i a q => by rw [e i (by omega)]; exact h1 i a q, by rw [e 2 (by omega)]; exact h2, fun m a w q => by rw [e _ (by omega)]; exact h3 m a w q, fun m a => ⟨by rw [e _ (by omega)]; exact (h4 m a).1, fun k t q => ?_⟩, fun m a => ⟨by rw [e _ (by omega)]; exact (h5 m a).1, fun k t q => ?_⟩, fun k x q j a => ?_, hb2⟩
  · have := (List.getElem?_eq_some_iff.mp q).1; have := b2 m
    rw [e _ (by omega), e _ (by omega), e _ (by omega)]; exact (h4 m a).2 k t q
  · have := (List.getElem?_eq_some_iff.mp q).1; have := b3 m
    rw [e _ (by omega), e _ (by omega), e _ (by omega)]; exact (h5 m a).2 k t q
  · have := (List.getElem?_eq_some_iff.mp q).1
    rw [e _ (by omega)]; exact h6 k x q j a
theorem RR.G {c : Nat} {v : vV} {r : Nat} {S : mS} (h : RR c v r S) {i x : Nat} (hi : i < 14) (h2 : i ≠ 2) (h0 : i ≠ 0) : RR c (vU v r i (nI x)) r (sG S i x) := by
  obtain ⟨ha, hc, h1, hn, h3, h4, h5, h6, b2, b3, b4⟩ := h
  have c0 : gG (sG S i x) 0 = gG S 0 := by simp only [gG, sG]; rw [if_neg (fun q => h0 q.symm)]
  refine ⟨c0.trans ha, hc, fun j a q => ?_, by rw [vU_o (Or.inr (fun q => h2 q.symm))]; exact hn, fun m a w q => by rw [vU_o (by omega)]; exact h3 m a w q, fun m a => ⟨by rw [vU_o (by omega)]; exact (h4 m a).1, fun k t q => by rw [vU_o (by omega), vU_o (by omega), vU_o (by omega)]; exact (h4 m a).2 k t q⟩, fun m a => ⟨by rw [vU_o (by omega)]; exact (h5 m a).1, fun k t q => by rw [vU_o (by omega), vU_o (by omega), vU_o (by omega)]; exact (h5 m a).2 k t q⟩, fun k y q j a => by rw [vU_o (by omega)]; exact h6 k y q j a, b2, b3, b4⟩
  by_cases e : j = i
  · subst e; rw [vU_s]; simp [gG, sG]
  · rw [vU_o (Or.inr e), h1 j a q]; simp [gG, sG, e]
theorem RR.M {c : Nat} {v : vV} {r : Nat} {S : mS} (h : RR c v r S) {m w x : Nat} (hm : m < c) (hw : w < 30) : RR c (vU v r (14 + 83 * m + w) (nI x)) r (sM S m w x) := by
  obtain ⟨ha, hc, h1, hn, h3, h4, h5, h6, b2, b3, b4⟩ := h
  refine ⟨ha, hc, fun j a q => by rw [vU_o (by omega)]; exact h1 j a q, by rw [vU_o (by omega)]; exact hn, fun m' a w' q => ?_, fun m' a => ⟨by rw [vU_o (by omega)]; exact (h4 m' a).1, fun k t q => ?_⟩, fun m' a => ⟨by rw [vU_o (by omega)]; exact (h5 m' a).1, fun k t q => ?_⟩, fun k y q j a => ?_, b2, b3, b4⟩
  · by_cases e : m' = m
    · subst e
      by_cases e2 : w' = w
      · subst e2; rw [vU_s]; simp [gM, sM]
      · rw [vU_o (by omega), h3 m' hm w' q]; simp [gM, sM, e2]
    · rw [vU_o (by omega), h3 m' a w' q]; simp [gM, sM, e]
  · have : k < (gK S m').length := (List.getElem?_eq_some_iff.mp q).1; have := b2 m'
    have g := (h4 m' a).2 k t q
    rw [vU_o (by rcases Nat.lt_trichotomy m m' with e | e | e <;> omega), vU_o (by rcases Nat.lt_trichotomy m m' with e | e | e <;> omega), vU_o (by rcases Nat.lt_trichotomy m m' with e | e | e <;> omega)]; exact g
  · have : k < (gH S m').length := (List.getElem?_eq_some_iff.mp q).1; have := b3 m'
    have g := (h5 m' a).2 k t q
    rw [vU_o (by rcases Nat.lt_trichotomy m m' with e | e | e <;> omega), vU_o (by rcases Nat.lt_trichotomy m m' with e | e | e <;> omega), vU_o (by rcases Nat.lt_trichotomy m m' with e | e | e <;> omega)]; exact g
  · have : k < (gN S).length := (List.getElem?_eq_some_iff.mp q).1
    rw [vU_o (by omega)]; exact h6 k y q j a
/-- other nodes stay -/
def vO9 (v v' : vV) (r : Nat) : Prop := ∀ n, n ≠ r → v' n = v n
theorem vO9.rf {v : vV} {r : Nat} : vO9 v v r := fun _ _ => rfl
theorem vO9.tr {v v' v'' : vV} {r : Nat} (h : vO9 v v' r) (g : vO9 v' v'' r) : vO9 v v'' r := fun n q => (g n q).trans (h n q)
theorem vO9.u {v v' : vV} {r k : Nat} {x : Int32} (h : vO9 v v' r) : vO9 v (vU v' r k x) r := fun n q => (vU_ne q).trans (h n q)
/-- the row is that, the other nodes as before -/
def rP (c : Nat) (v : vV) (r : Nat) (S : mS) : vV → Prop := fun v9 => RR c v9 r S ∧ vO9 v v9 r
theorem lg_lt (x y : Int64) : lg_cmp x y < 0 ↔ x < y := by
  have := lg_cmp_ge x y
  constructor
  · intro h
    by_cases g : y ≤ x
    · exact absurd h (Int32.not_lt.mpr (this.mpr g))
    · exact Int64.not_le.mp g
  · intro h
    exact Int32.not_le.mp (fun g => absurd (this.mp g) (Int64.not_le.mpr h))
theorem lg_gt (x y : Int64) : 0 < lg_cmp x y ↔ y < x := by
  unfold lg_cmp
  split
  · rename_i h; exact ⟨fun _ => h, fun _ => by decide⟩
  · split
    · rename_i h1 h2; exact ⟨fun g => absurd g (by decide), fun g => absurd g h1⟩
    · rename_i h1 h2; exact ⟨fun g => absurd g (by decide), fun g => absurd g h1⟩
