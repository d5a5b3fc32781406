
/-! COMMANDS: what a club is after one, and whether it could be done -/
abbrev mC : Type := Nat × mS
def KC (B : Nat) (X : mC) : Prop := NB X.1 X.2 B ∧ Iv X.1 1 X.2
theorem KC.up {B D : Nat} {X : mC} (h : KC B X) (hB : B ≤ D) : KC D X := ⟨h.1.up hB, h.2⟩
abbrev mS0 : mS := (fun _ => 0, fun m w => if w = 3 then (if m < 6 then m else 0) else if w = 4 then (if m < 6 then 1 <<< m else 0) else 0, fun _ => [], fun _ => [], [])
theorem tab0 : ∀ m, ∀ w, w < 12 → okM 100 w (if w = 3 then (if m < 6 then m else 0) else if w = 4 then (if m < 6 then 1 <<< m else 0) else 0) := by
  intro m w hw
  by_cases hm : m < 6
  · rw [if_pos hm, if_pos hm]
    have h : ∀ m, m < 6 → ∀ w, w < 12 → okM 100 w (if w = 3 then m else if w = 4 then 1 <<< m else 0) := by unfold okM; decide
    exact h m hm w hw
  · rw [if_neg hm, if_neg hm]
    have h : ∀ w, w < 12 → okM 100 w (if w = 3 then 0 else if w = 4 then 0 else 0) := by unfold okM; decide
    exact h w hw
def kAdd (X : mC) (a : Nat) : Bool × mC := if X.1 < 6 then (true, (X.1 + 1, madd X.2 a)) else (false, X)
def kSay (X : mC) (a : Nat) : Bool × mC := if a < X.1 ∧ gM X.2 a 1 = 0 ∧ gM X.2 a 7 < 4 then (true, (X.1, msay X.2 a)) else (false, X)
def kCall (X : mC) (a s : Nat) : Bool × mC := if a < X.1 ∧ (s < 2 ^ X.1 ∧ s.testBit a = true) ∧ gM X.2 a 1 ≠ 2 then (true, (X.1, mcall X.2 a s)) else (false, X)
def kCut (X : mC) (a d : Nat) (cut : Bool) : Bool × mC := if (a < X.1 ∧ d < X.1) ∧ a ≠ d then (true, (X.1, mcut X.2 a d cut)) else (false, X)
def kLeave (X : mC) (a : Nat) : Bool × mC := if a < X.1 ∧ gM X.2 a 1 ≠ 2 then (true, (X.1, mleave X.2 a)) else (false, X)
def kBack (X : mC) (a : Nat) : Bool × mC := if a < X.1 ∧ gM X.2 a 1 = 2 then (true, (X.1, mback X.2 a)) else (false, X)
def kSet (X : mC) (a : Nat) : Bool × mC := (true, (X.1, sG X.2 7 a))
def kTicks (X : mC) (n : Nat) : Bool × mC := (true, (X.1, mticks n X.2))
theorem KC.ite {P : Prop} [Decidable P] {D : Nat} {X Y : mC} (h1 : P → KC D X) (h2 : KC D Y) : KC D (if P then (true, X) else (false, Y)).2 := by
  split
  · rename_i q; exact h1 q
  · exact h2
theorem KC.add {B : Nat} {X : mC} (h : KC B X) {a : Nat} (ha : a ≤ 9) (hB : 6 ≤ B) : KC (B + 70000) (kAdd X a).2 :=
  KC.ite (fun q => ⟨(h.1.add q ha hB).up (by omega), h.2.add h.1 q⟩) (h.up (by omega))
theorem KC.say {B : Nat} {X : mC} (h : KC B X) {a : Nat} : KC (B + 70000) (kSay X a).2 :=
  KC.ite (fun q => ⟨by
    have := (h.1.say q.1 q.2.2 X.1 (Nat.le_refl _)).up (D := B + 70000) (by omega)
    show NB X.1 (msay X.2 a) _
    unfold msay
    rw [h.1.c0]
    exact this, h.2.say q.1⟩) (h.up (by omega))
theorem set64 {c s : Nat} (hc : c ≤ 6) (h : s < 2 ^ c) : s < 64 := Nat.lt_of_lt_of_le h (Nat.pow_le_pow_right (by decide) hc)
theorem KC.call {B : Nat} {X : mC} (h : KC B X) {a s : Nat} : KC (B + 70000) (kCall X a s).2 :=
  KC.ite (fun q => ⟨(h.1.call q.1 (set64 h.1.c6 q.2.1.1)).up (by omega), h.2.call q.1 q.2.1.2⟩) (h.up (by omega))
theorem KC.cut {B : Nat} {X : mC} (h : KC B X) {a d : Nat} {cut : Bool} : KC (B + 70000) (kCut X a d cut).2 :=
  KC.ite (fun q => ⟨(h.1.cut9 (by have := h.1.c6; omega) (by have := h.1.c6; omega) cut).up (by omega), h.2.cut (by have := h.1.c6; omega) (by have := h.1.c6; omega) q.2 cut⟩) (h.up (by omega))
theorem KC.leave {B : Nat} {X : mC} (h : KC B X) {a : Nat} : KC (B + 70000) (kLeave X a).2 :=
  KC.ite (fun q => ⟨h.1.leave.up (by omega), h.2.leave q.1⟩) (h.up (by omega))
theorem KC.back {B : Nat} {X : mC} (h : KC B X) {a : Nat} : KC (B + 70000) (kBack X a).2 :=
  KC.ite (fun q => ⟨(h.1.back q.1).up (by omega), h.2.back q.1 q.2⟩) (h.up (by omega))
theorem KC.set {B : Nat} {X : mC} (h : KC B X) {a : Nat} (ha : a ≤ B) : KC (B + 70000) (kSet X a).2 :=
  ⟨(h.1.G (by decide) (by unfold okG; rw [if_neg (by decide)]; exact ha)).up (by omega), h.2.set7⟩
theorem KC.ticks {B : Nat} {X : mC} (h : KC B X) {n : Nat} (hn : n ≤ 60) : KC (B + 70000) (kTicks X n).2 :=
  ⟨(h.1.ticks n).up (by omega), h.2.ticks h.1 n⟩
/-- a command's letter with its numbers -/
def mexec (ch a b : Nat) (X : mC) : Bool × mC :=
  if ch = 109 then kAdd X a else if ch = 115 then kSay X a else if ch = 99 then kCall X a b else if ch = 120 then kCut X a b true
  else if ch = 103 then kLeave X a else if ch = 98 then kBack X a else if ch = 112 then kSet X a else kTicks X a
def mp1 (r : Option Nat × Nat) : Option (Nat × Nat) × Nat := (r.1.map (fun a => (a, 0)), r.2)
def mp2 (r : Option Nat × Nat) (f : Nat → Option Nat × Nat) : Option (Nat × Nat) × Nat := r.1.elim (none, r.2) (fun a => ((f r.2).1.map (fun b => (a, b)), (f r.2).2))
def mparse (t : mN) (n s : Nat) : Option (Nat × Nat) × Nat :=
  if t s = 109 then mp1 (mfig1 t n 0 9 0 (s + 1))
  else if t s = 115 ∨ t s = 103 ∨ t s = 98 then mp1 (mfig1 t n 0 5 0 (s + 1))
  else if t s = 99 then mp2 (mfig1 t n 0 5 0 (s + 1)) (mfig2 t n 1 63)
  else if t s = 120 then mp2 (mfig1 t n 0 5 0 (s + 1)) (mfig1 t n 0 5 0)
  else if t s = 112 then mp1 (mfig2 t n 0 40 (s + 1))
  else if t s = 116 then mp1 (mfig2 t n 1 60 (s + 1))
  else (none, s)
theorem fig1_le {t : mN} {n lo hi w s : Nat} : s ≤ (mfig1 t n lo hi w s).2 ∧ ((mfig1 t n lo hi w s).1 ≠ none → (mfig1 t n lo hi w s).2 ≤ n) ∧ (s ≤ n → (mfig1 t n lo hi w s).2 ≤ n) := by
  unfold mfig1
  split
  · rename_i q; exact ⟨Nat.le_succ s, fun _ => q.1.1, fun _ => q.1.1⟩
  · exact ⟨Nat.le_refl s, fun q => absurd rfl q, fun q => q⟩
theorem fig1_r {t : mN} {n lo hi w s x : Nat} (h : (mfig1 t n lo hi w s).1 = some x) : lo ≤ x ∧ x ≤ hi := by
  unfold mfig1 at h
  split at h
  · rename_i q; cases h; exact ⟨q.2.2, q.2.1⟩
  · cases h
theorem fig2_le {t : mN} {n lo hi s : Nat} : s ≤ (mfig2 t n lo hi s).2 ∧ (s ≤ n → (mfig2 t n lo hi s).2 ≤ n) := by
  unfold mfig2
  split
  · rename_i q
    have := fig1_le (t := t) (n := n) (lo := lo) (hi := hi) (w := (t s - 48) * 10) (s := s + 1)
    exact ⟨by omega, fun _ => this.2.2 q.1.1⟩
  · exact ⟨Nat.le_refl s, fun q => q⟩
theorem fig2_r {t : mN} {n lo hi s x : Nat} (h : (mfig2 t n lo hi s).1 = some x) : lo ≤ x ∧ x ≤ hi := by
  unfold mfig2 at h
  split at h
  · exact fig1_r h
  · cases h
theorem mp1_e {r : Option Nat × Nat} {a b : Nat} (h : (mp1 r).1 = some (a, b)) : r.1 = some a ∧ b = 0 := by
  unfold mp1 at h
  cases e : r.1 with
  | none => rw [e] at h; cases h
  | some x => rw [e] at h; cases h; exact ⟨rfl, rfl⟩
theorem mp2_e {r : Option Nat × Nat} {f : Nat → Option Nat × Nat} {a b : Nat} (h : (mp2 r f).1 = some (a, b)) : r.1 = some a ∧ (f r.2).1 = some b := by
  unfold mp2 at h
  cases e : r.1 with
  | none => rw [e] at h; cases h
  | some x =>
    rw [e] at h
    cases e2 : (f r.2).1 with
    | none =>
      replace h : (f r.2).1.map (fun b => (x, b)) = some (a, b) := h
      rw [e2] at h; cases h
    | some y =>
      replace h : (f r.2).1.map (fun b => (x, b)) = some (a, b) := h
      rw [e2] at h; cases h; exact ⟨rfl, rfl⟩
theorem KC.exec {B : Nat} {X : mC} {t : mN} {n s a b : Nat} (h : KC B X) (hB : 100 ≤ B) (hp : (mparse t n s).1 = some (a, b)) : KC (B + 70000) (mexec (t s) a b X).2 := by
  unfold mexec
  unfold mparse at hp
  by_cases e1 : t s = 109
  · rw [if_pos e1] at hp ⊢; exact h.add (fig1_r (mp1_e hp).1).2 (by omega)
  rw [if_neg e1] at hp ⊢
  by_cases e2 : t s = 115
  · rw [if_pos e2]; exact h.say
  rw [if_neg e2]
  by_cases e3 : t s = 99
  · rw [if_pos e3]; exact h.call
  rw [if_neg e3]
  by_cases e4 : t s = 120
  · rw [if_pos e4]; exact h.cut
  rw [if_neg e4]
  by_cases e5 : t s = 103
  · rw [if_pos e5]; exact h.leave
  rw [if_neg e5]
  by_cases e6 : t s = 98
  · rw [if_pos e6]; exact h.back
  rw [if_neg e6]
  rw [if_neg (by omega), if_neg e3, if_neg e4] at hp
  by_cases e7 : t s = 112
  · rw [if_pos e7] at hp ⊢; exact h.set (by have := (fig2_r (mp1_e hp).1).2; omega)
  rw [if_neg e7] at hp ⊢
  by_cases e8 : t s = 116
  · rw [if_pos e8] at hp; exact h.ticks (fig2_r (mp1_e hp).1).2
  · rw [if_neg e8] at hp; cases hp
theorem parse_le {t : mN} {n s : Nat} (hs : s < n) : s ≤ (mparse t n s).2 ∧ (mparse t n s).2 ≤ n ∧ ((mparse t n s).1 ≠ none → s < (mparse t n s).2) := by
  have f1 : ∀ hi, s + 1 ≤ (mp1 (mfig1 t n 0 hi 0 (s + 1))).2 ∧ (mp1 (mfig1 t n 0 hi 0 (s + 1))).2 ≤ n := fun hi => ⟨fig1_le.1, fig1_le.2.2 hs⟩
  have f2 : ∀ lo hi, s + 1 ≤ (mp1 (mfig2 t n lo hi (s + 1))).2 ∧ (mp1 (mfig2 t n lo hi (s + 1))).2 ≤ n := fun lo hi => ⟨fig2_le.1, fig2_le.2 hs⟩
  have f3 : ∀ f : Nat → Option Nat × Nat, (∀ k, k ≤ (f k).2 ∧ (k ≤ n → (f k).2 ≤ n)) → s + 1 ≤ (mp2 (mfig1 t n 0 5 0 (s + 1)) f).2 ∧ (mp2 (mfig1 t n 0 5 0 (s + 1)) f).2 ≤ n := by
    intro f hf
    have h1 := fig1_le (t := t) (n := n) (lo := 0) (hi := 5) (w := 0) (s := s + 1)
    have h2 := hf (mfig1 t n 0 5 0 (s + 1)).2
    have h3 := h1.2.2 hs
    unfold mp2
    cases (mfig1 t n 0 5 0 (s + 1)).1 with
    | none => exact ⟨h1.1, h3⟩
    | some a => exact ⟨Nat.le_trans h1.1 h2.1, h2.2 h3⟩
  unfold mparse
  split
  · have := f1 9; exact ⟨by omega, by omega, fun _ => by omega⟩
  · split
    · have := f1 5; exact ⟨by omega, by omega, fun _ => by omega⟩
    · split
      · have := f3 (mfig2 t n 1 63) (fun k => fig2_le); exact ⟨by omega, by omega, fun _ => by omega⟩
      · split
        · have := f3 (mfig1 t n 0 5 0) (fun k => ⟨fig1_le.1, fig1_le.2.2⟩); exact ⟨by omega, by omega, fun _ => by omega⟩
        · split
          · have := f2 0 40; exact ⟨by omega, by omega, fun _ => by omega⟩
          · split
            · have := f2 1 60; exact ⟨by omega, by omega, fun _ => by omega⟩
            · exact ⟨Nat.le_refl s, by omega, fun q => absurd rfl q⟩
/-- all commands from s on: where it is wrong, the club, and how many could not be done -/
def mgo (t : mN) (n : Nat) : Nat → Nat → mC → Nat → Option Nat × mC × Nat
  | 0, _, X, o => (none, X, o)
  | f + 1, s, X, o => if s < n then
      (mparse t n s).1.elim (some (mparse t n s).2, X, o) (fun p => mgo t n f (mparse t n s).2 (mexec (t s) p.1 p.2 X).2 (if (mexec (t s) p.1 p.2 X).1 = true then o else o + 1))
    else (none, X, o)
def mtext (t : mN) (n : Nat) : Option Nat × mC × Nat := if n = 0 ∨ t 0 ≠ 82 then (some 0, (0, mS0), 0) else mgo t n n 1 (0, mS0) 0
theorem NB0 : NB 0 mS0 100 := by
  refine ⟨rfl, by decide, fun i => ?_, fun m w hw => ?_, fun m t h => absurd h List.not_mem_nil, fun m t h => absurd h List.not_mem_nil, fun x h => absurd h List.not_mem_nil, fun m => Nat.zero_le _, fun m => Nat.zero_le _, Nat.zero_le _⟩
  · show okG 100 i 0
    unfold okG
    split <;> decide
  · show okM 100 w (if w = 3 then (if m < 6 then m else 0) else if w = 4 then (if m < 6 then 1 <<< m else 0) else 0)
    by_cases hw2 : w < 12
    · exact tab0 m w hw2
    · rw [if_neg (by omega), if_neg (by omega)]
      have h : ∀ w, w < 30 → okM 100 w 0 := by unfold okM; decide
      exact h w hw
theorem Iv0 : Iv 0 1 mS0 := by
  refine ⟨⟨rfl, fun m _ hm => ⟨fun w => by show (if w = 3 then (if m < 6 then m else 0) else if w = 4 then (if m < 6 then 1 <<< m else 0) else 0) = _; rw [if_pos hm, if_pos hm], rfl, rfl⟩, fun m => Nat.zero_le _, fun a b _ _ => ?_, List.Pairwise.nil, fun x hx => absurd hx List.not_mem_nil⟩, fun _ _ => 0, fun m hm => absurd hm (Nat.not_lt_zero m), fun x hx => absurd hx List.not_mem_nil⟩
  show (0 : Nat).testBit b = (0 : Nat).testBit a
  rw [Nat.zero_testBit, Nat.zero_testBit]
theorem KC0 : KC 100 (0, mS0) := ⟨NB0, Iv0⟩

