theorem mp2_sn {F : Option Nat × Nat} {f : Nat → Option Nat × Nat} {a : Nat} (h : F.1 = some a) (h2 : (f F.2).1 = none) : mp2 F f = (none, (f F.2).2) := by unfold mp2; rw [h]; show ((f F.2).1.map _, _) = _; rw [h2]; rfl
theorem mp2_ss {F : Option Nat × Nat} {f : Nat → Option Nat × Nat} {a b : Nat} (h : F.1 = some a) (h2 : (f F.2).1 = some b) : mp2 F f = (some (a, b), (f F.2).2) := by unfold mp2; rw [h]; show ((f F.2).1.map _, _) = _; rw [h2]; rfl
theorem mp_m {t : mN} {n s : Nat} (h : t s = 109) : mparse t n s = mp1 (mfig1 t n 0 9 0 (s + 1)) := if_pos h
theorem mp_w {t : mN} {n s : Nat} (h : t s = 115 ∨ t s = 103 ∨ t s = 98) : mparse t n s = mp1 (mfig1 t n 0 5 0 (s + 1)) := by unfold mparse; rw [if_neg (by omega), if_pos h]
theorem mp_c {t : mN} {n s : Nat} (h : t s = 99) : mparse t n s = mp2 (mfig1 t n 0 5 0 (s + 1)) (mfig2 t n 1 63) := by unfold mparse; rw [if_neg (by omega), if_neg (by omega), if_pos h]
theorem mp_x {t : mN} {n s : Nat} (h : t s = 120) : mparse t n s = mp2 (mfig1 t n 0 5 0 (s + 1)) (mfig1 t n 0 5 0) := by unfold mparse; rw [if_neg (by omega), if_neg (by omega), if_neg (by omega), if_pos h]
theorem mp_p {t : mN} {n s : Nat} (h : t s = 112) : mparse t n s = mp1 (mfig2 t n 0 40 (s + 1)) := by unfold mparse; rw [if_neg (by omega), if_neg (by omega), if_neg (by omega), if_neg (by omega), if_pos h]
theorem mp_t {t : mN} {n s : Nat} (h : t s = 116) : mparse t n s = mp1 (mfig2 t n 1 60 (s + 1)) := by unfold mparse; rw [if_neg (by omega), if_neg (by omega), if_neg (by omega), if_neg (by omega), if_neg (by omega), if_pos h]
theorem mp_0 {t : mN} {n s : Nat} (h : t s ≠ 109 ∧ t s ≠ 115 ∧ t s ≠ 103 ∧ t s ≠ 98 ∧ t s ≠ 99 ∧ t s ≠ 120 ∧ t s ≠ 112 ∧ t s ≠ 116) : mparse t n s = (none, s) := by unfold mparse; rw [if_neg (by omega), if_neg (by omega), if_neg (by omega), if_neg (by omega), if_neg (by omega), if_neg (by omega)]
theorem mx_m {ch a b : Nat} {X : mC} (h : ch = 109) : mexec ch a b X = kAdd X a := by subst h; rfl
theorem mx_s {ch a b : Nat} {X : mC} (h : ch = 115) : mexec ch a b X = kSay X a := by subst h; rfl
theorem mx_c {ch a b : Nat} {X : mC} (h : ch = 99) : mexec ch a b X = kCall X a b := by subst h; rfl
theorem mx_x {ch a b : Nat} {X : mC} (h : ch = 120) : mexec ch a b X = kCut X a b true := by subst h; rfl
theorem mx_g {ch a b : Nat} {X : mC} (h : ch = 103) : mexec ch a b X = kLeave X a := by subst h; rfl
theorem mx_b {ch a b : Nat} {X : mC} (h : ch = 98) : mexec ch a b X = kBack X a := by subst h; rfl
theorem mx_p {ch a b : Nat} {X : mC} (h : ch = 112) : mexec ch a b X = kSet X a := by subst h; rfl
theorem mx_t {ch a b : Nat} {X : mC} (h : ch = 116) : mexec ch a b X = kTicks X a := by subst h; rfl
theorem sG_same {S : mS} {i : Nat} : sG S i (gG S i) = S := by
  have e : (fun j => if j = i then gG S i else S.1 j) = S.1 := by
    funext j
    by_cases h : j = i
    · rw [if_pos h, h]
    · rw [if_neg h]
  unfold sG
  rw [e]
