
/-! THE TEXT OF THE CLASS -/
def kTX (σ : vS) (p : Nat) : Prop := vK σ p 5 0 ∧ vK σ (p + 1) 8 120 ∧ σ.2.2.1 p 0 = some (p + 1)
def mTC (v : vV) (p : Nat) (t : mN) (n : Nat) : Prop := n ≤ 120 ∧ v p 1 = nI n ∧ ∀ i, i < n → v (p + 1) i = nI (t i) ∧ t i < 256
theorem mTC.of {v v' : vV} {p n : Nat} {t : mN} (h : mTC v p t n) (e0 : v' p = v p) (e1 : v' (p + 1) = v (p + 1)) : mTC v' p t n := ⟨h.1, by rw [e0]; exact h.2.1, fun i hi => by rw [e1]; exact h.2.2 i hi⟩
def msg (t : mN) (n i : Nat) : Int32 := if i < n then nI (t i) else -1
theorem msg_x {t : mN} {n i : Nat} (h : ∀ i, i < n → t i < 256) : mdx t n i (msg t n i - nI 48) := by
  unfold msg
  by_cases hi : i < n
  · rw [if_pos hi]; exact mdx.sign hi (h i hi)
  · rw [if_neg hi]; exact Or.inr ⟨fun e => hi e.1, by decide⟩
theorem msg_t {t : mN} {n i : Nat} (h : i < n) : msg t n i = nI (t i) := if_pos h
def mdgs (ch : Nat) : Nat := if ch = 109 ∨ ch = 115 ∨ ch = 103 ∨ ch = 98 then 1 else if ch = 120 ∨ ch = 112 ∨ ch = 116 then 2 else if ch = 99 then 3 else 0
def mal1 (t : mN) (n s : Nat) : Bool := decide (mdg t n (s + 1)) && (if t s = 109 then true else if t s = 112 then decide (t (s + 1) - 48 ≤ 4) else if t s = 116 then decide (t (s + 1) - 48 ≤ 6) else decide (t (s + 1) - 48 < 6))
def mal2 (t : mN) (n s : Nat) : Bool := decide (mdg t n (s + 2)) && (if t s = 99 then decide (t (s + 2) - 48 ≤ 6) else if t s = 112 then decide ((t (s + 1) - 48) * 10 + (t (s + 2) - 48) ≤ 40) else if t s = 116 then decide (1 ≤ (t (s + 1) - 48) * 10 + (t (s + 2) - 48) ∧ (t (s + 1) - 48) * 10 + (t (s + 2) - 48) ≤ 60) else decide (t (s + 2) - 48 < 6))
def mal3 (t : mN) (n s : Nat) : Bool := decide (mdg t n (s + 3)) && decide (1 ≤ (t (s + 2) - 48) * 10 + (t (s + 3) - 48) ∧ (t (s + 2) - 48) * 10 + (t (s + 3) - 48) ≤ 63)
def mal (t : mN) (n s i : Nat) : Bool := if i = 1 then mal1 t n s else if i = 2 then mal2 t n s else mal3 t n s
theorem mdgs_3 {ch : Nat} : mdgs ch ≤ 3 := by unfold mdgs; split; decide; split; decide; split <;> decide
theorem mal_d {t : mN} {n s i : Nat} (h1 : 1 ≤ i) (h3 : i ≤ 3) (h : mal t n s i = true) : mdg t n (s + i) := by
  unfold mal at h
  rcases (by omega : i = 1 ∨ i = 2 ∨ i = 3) with rfl | rfl | rfl
  · exact of_decide_eq_true (Bool.and_eq_true_iff.mp h).1
  · exact of_decide_eq_true (Bool.and_eq_true_iff.mp h).1
  · exact of_decide_eq_true (Bool.and_eq_true_iff.mp h).1
theorem parse_zero {t : mN} {n s : Nat} (h : mdgs (t s) = 0) : mparse t n s = (none, s) := by
  unfold mdgs at h
  split at h
  · cases h
  · split at h
    · cases h
    · split at h
      · cases h
      · exact mp_0 (by omega)
theorem fig1_no {t : mN} {n lo hi w s : Nat} (h : ¬ (mdg t n s ∧ w + (t s - 48) ≤ hi ∧ lo ≤ w + (t s - 48))) : mfig1 t n lo hi w s = (none, s) := if_neg h
theorem fig1_yes {t : mN} {n lo hi w s : Nat} (h : mdg t n s ∧ w + (t s - 48) ≤ hi ∧ lo ≤ w + (t s - 48)) : mfig1 t n lo hi w s = (some (w + (t s - 48)), s + 1) := if_pos h
theorem fig2_no {t : mN} {n lo hi s : Nat} (h : ¬ (mdg t n s ∧ (t s - 48) * 10 ≤ hi ∧ lo ≤ (t s - 48) * 10 + 9)) : mfig2 t n lo hi s = (none, s) := if_neg h
theorem fig2_yes {t : mN} {n lo hi s : Nat} (h : mdg t n s ∧ (t s - 48) * 10 ≤ hi ∧ lo ≤ (t s - 48) * 10 + 9) : mfig2 t n lo hi s = mfig1 t n lo hi ((t s - 48) * 10) (s + 1) := if_pos h
def mnum1 (t : mN) (s : Nat) : Nat := if t s = 112 ∨ t s = 116 then (t (s + 1) - 48) * 10 + (t (s + 2) - 48) else t (s + 1) - 48
def mnum2 (t : mN) (s : Nat) : Nat := if t s = 99 then (t (s + 2) - 48) * 10 + (t (s + 3) - 48) else if t s = 120 then t (s + 2) - 48 else 0
theorem a1_no {t : mN} {n s : Nat} {P : Prop} [Decidable P] {R : Bool} (e : R = (decide (mdg t n s) && decide P)) (h : R = false) : ¬ (mdg t n s ∧ P) := fun q => by rw [e, decide_eq_true q.1, decide_eq_true q.2] at h; exact Bool.noConfusion h
theorem a1_yes {t : mN} {n s : Nat} {P : Prop} [Decidable P] {R : Bool} (e : R = (decide (mdg t n s) && decide P)) (h : R = true) : mdg t n s ∧ P := by
  rw [e] at h
  exact ⟨of_decide_eq_true (Bool.and_eq_true_iff.mp h).1, of_decide_eq_true (Bool.and_eq_true_iff.mp h).2⟩
/-- the letters of commands -/
theorem mdgs_c {ch : Nat} (h : 0 < mdgs ch) : ch = 109 ∨ ch = 115 ∨ ch = 103 ∨ ch = 98 ∨ ch = 120 ∨ ch = 112 ∨ ch = 116 ∨ ch = 99 := by
  unfold mdgs at h
  split at h
  · omega
  · split at h
    · omega
    · split at h
      · omega
      · exact absurd h (Nat.lt_irrefl 0)
theorem m1_m {t : mN} {n s : Nat} (h : t s = 109) : mal1 t n s = (decide (mdg t n (s + 1)) && decide (t (s + 1) - 48 ≤ 9 ∨ True)) := by unfold mal1; rw [if_pos h, decide_eq_true (Or.inr trivial)]
theorem m1_w {t : mN} {n s : Nat} (h : t s ≠ 109 ∧ t s ≠ 112 ∧ t s ≠ 116) : mal1 t n s = (decide (mdg t n (s + 1)) && decide (t (s + 1) - 48 < 6)) := by unfold mal1; rw [if_neg h.1, if_neg h.2.1, if_neg h.2.2]
theorem m1_p {t : mN} {n s : Nat} (h : t s = 112) : mal1 t n s = (decide (mdg t n (s + 1)) && decide (t (s + 1) - 48 ≤ 4)) := by unfold mal1; rw [if_neg (by omega), if_pos h]
theorem m1_t {t : mN} {n s : Nat} (h : t s = 116) : mal1 t n s = (decide (mdg t n (s + 1)) && decide (t (s + 1) - 48 ≤ 6)) := by unfold mal1; rw [if_neg (by omega), if_neg (by omega), if_pos h]
theorem m2_c {t : mN} {n s : Nat} (h : t s = 99) : mal2 t n s = (decide (mdg t n (s + 2)) && decide (t (s + 2) - 48 ≤ 6)) := by unfold mal2; rw [if_pos h]
theorem m2_p {t : mN} {n s : Nat} (h : t s = 112) : mal2 t n s = (decide (mdg t n (s + 2)) && decide ((t (s + 1) - 48) * 10 + (t (s + 2) - 48) ≤ 40)) := by unfold mal2; rw [if_neg (by omega), if_pos h]
theorem m2_t {t : mN} {n s : Nat} (h : t s = 116) : mal2 t n s = (decide (mdg t n (s + 2)) && decide (1 ≤ (t (s + 1) - 48) * 10 + (t (s + 2) - 48) ∧ (t (s + 1) - 48) * 10 + (t (s + 2) - 48) ≤ 60)) := by unfold mal2; rw [if_neg (by omega), if_neg (by omega), if_pos h]
theorem m2_x {t : mN} {n s : Nat} (h : t s = 120) : mal2 t n s = (decide (mdg t n (s + 2)) && decide (t (s + 2) - 48 < 6)) := by unfold mal2; rw [if_neg (by omega), if_neg (by omega), if_neg (by omega)]
theorem m3_c {t : mN} {n s : Nat} : mal3 t n s = (decide (mdg t n (s + 3)) && decide (1 ≤ (t (s + 2) - 48) * 10 + (t (s + 3) - 48) ∧ (t (s + 2) - 48) * 10 + (t (s + 3) - 48) ≤ 63)) := rfl
theorem mdgs_1 {ch : Nat} (h : ch = 109 ∨ ch = 115 ∨ ch = 103 ∨ ch = 98) : mdgs ch = 1 := if_pos h
theorem mdgs_2 {ch : Nat} (h : ch = 120 ∨ ch = 112 ∨ ch = 116) : mdgs ch = 2 := by unfold mdgs; rw [if_neg (by omega), if_pos h]
theorem mdgs_99 {ch : Nat} (h : ch = 99) : mdgs ch = 3 := by unfold mdgs; rw [if_neg (by omega), if_neg (by omega), if_pos h]
theorem parse_bad {t : mN} {n s j : Nat} (h1 : 1 ≤ j) (hj : j ≤ mdgs (t s)) (hp : ∀ i, 1 ≤ i → i < j → mal t n s i = true) (hb : mal t n s j = false) : mparse t n s = (none, s + j) := by
  rcases mdgs_c (ch := t s) (by omega) with e | e | e | e | e | e | e | e
  · rw [mdgs_1 (Or.inl e)] at hj
    obtain rfl : j = 1 := by omega
    have := a1_no (m1_m e) hb
    rw [mp_m e, fig1_no (fun q => this ⟨q.1, Or.inr trivial⟩)]; rfl
  · rw [mdgs_1 (Or.inr (Or.inl e))] at hj
    obtain rfl : j = 1 := by omega
    have := a1_no (m1_w (by omega)) hb
    rw [mp_w (Or.inl e), fig1_no (fun q => this ⟨q.1, by omega⟩)]; rfl
  · rw [mdgs_1 (Or.inr (Or.inr (Or.inl e)))] at hj
    obtain rfl : j = 1 := by omega
    have := a1_no (m1_w (by omega)) hb
    rw [mp_w (Or.inr (Or.inl e)), fig1_no (fun q => this ⟨q.1, by omega⟩)]; rfl
  · rw [mdgs_1 (Or.inr (Or.inr (Or.inr e)))] at hj
    obtain rfl : j = 1 := by omega
    have := a1_no (m1_w (by omega)) hb
    rw [mp_w (Or.inr (Or.inr e)), fig1_no (fun q => this ⟨q.1, by omega⟩)]; rfl
  · rw [mdgs_2 (Or.inl e)] at hj
    rcases (by omega : j = 1 ∨ j = 2) with rfl | rfl
    · have := a1_no (m1_w (by omega)) hb
      rw [mp_x e, fig1_no (fun q => this ⟨q.1, by omega⟩)]; rfl
    · have g1 := a1_yes (m1_w (by omega)) (hp 1 (by omega) (by omega))
      have := a1_no (m2_x e) hb
      rw [mp_x e, fig1_yes ⟨g1.1, by omega, by omega⟩, mp2_sn rfl (by rw [fig1_no (fun q => this ⟨q.1, by omega⟩)]), fig1_no (fun q => this ⟨q.1, by omega⟩)]
  · rw [mdgs_2 (Or.inr (Or.inl e))] at hj
    rcases (by omega : j = 1 ∨ j = 2) with rfl | rfl
    · have := a1_no (m1_p e) hb
      rw [mp_p e, fig2_no (fun q => this ⟨q.1, by omega⟩)]; rfl
    · have g1 := a1_yes (m1_p e) (hp 1 (by omega) (by omega))
      have := a1_no (m2_p e) hb
      rw [mp_p e, fig2_yes ⟨g1.1, by omega, by omega⟩, fig1_no (fun q => this ⟨q.1, by omega⟩)]; rfl
  · rw [mdgs_2 (Or.inr (Or.inr e))] at hj
    rcases (by omega : j = 1 ∨ j = 2) with rfl | rfl
    · have := a1_no (m1_t e) hb
      rw [mp_t e, fig2_no (fun q => this ⟨q.1, by omega⟩)]; rfl
    · have g1 := a1_yes (m1_t e) (hp 1 (by omega) (by omega))
      have := a1_no (m2_t e) hb
      rw [mp_t e, fig2_yes ⟨g1.1, by omega, by omega⟩, fig1_no (fun q => this ⟨q.1, by omega⟩)]; rfl
  · rw [mdgs_99 e] at hj
    rcases (by omega : j = 1 ∨ j = 2 ∨ j = 3) with rfl | rfl | rfl
    · have := a1_no (m1_w (by omega)) hb
      rw [mp_c e, fig1_no (fun q => this ⟨q.1, by omega⟩)]; rfl
    · have g1 := a1_yes (m1_w (by omega)) (hp 1 (by omega) (by omega))
      have := a1_no (m2_c e) hb
      rw [mp_c e, fig1_yes ⟨g1.1, by omega, by omega⟩, mp2_sn rfl (by rw [fig2_no (fun q => this ⟨q.1, by omega⟩)]), fig2_no (fun q => this ⟨q.1, by omega⟩)]
    · have g1 := a1_yes (m1_w (by omega)) (hp 1 (by omega) (by omega))
      have g2 := a1_yes (m2_c e) (hp 2 (by omega) (by omega))
      have := a1_no (rfl : mal3 t n s = _) hb
      rw [mp_c e, fig1_yes ⟨g1.1, by omega, by omega⟩, mp2_sn rfl (by rw [fig2_yes ⟨g2.1, by omega, by omega⟩, fig1_no (fun q => this ⟨q.1, by omega⟩)]), fig2_yes ⟨g2.1, by omega, by omega⟩, fig1_no (fun q => this ⟨q.1, by omega⟩)]
theorem parse_good {t : mN} {n s : Nat} (hj : 0 < mdgs (t s)) (hp : ∀ i, 1 ≤ i → i ≤ mdgs (t s) → mal t n s i = true) : mparse t n s = (some (mnum1 t s, mnum2 t s), s + 1 + mdgs (t s)) := by
  unfold mnum1 mnum2
  rcases mdgs_c hj with e | e | e | e | e | e | e | e
  · rw [mdgs_1 (Or.inl e)] at hp ⊢
    have g1 := a1_yes (m1_m e) (hp 1 (by omega) (by omega))
    rw [mp_m e, fig1_yes ⟨g1.1, by have := g1.1; omega, by omega⟩, if_neg (by omega), if_neg (by omega), if_neg (by omega), Nat.zero_add]; rfl
  · rw [mdgs_1 (Or.inr (Or.inl e))] at hp ⊢
    have g1 := a1_yes (m1_w (by omega)) (hp 1 (by omega) (by omega))
    rw [mp_w (Or.inl e), fig1_yes ⟨g1.1, by omega, by omega⟩, if_neg (by omega), if_neg (by omega), if_neg (by omega), Nat.zero_add]; rfl
  · rw [mdgs_1 (Or.inr (Or.inr (Or.inl e)))] at hp ⊢
    have g1 := a1_yes (m1_w (by omega)) (hp 1 (by omega) (by omega))
    rw [mp_w (Or.inr (Or.inl e)), fig1_yes ⟨g1.1, by omega, by omega⟩, if_neg (by omega), if_neg (by omega), if_neg (by omega), Nat.zero_add]; rfl
  · rw [mdgs_1 (Or.inr (Or.inr (Or.inr e)))] at hp ⊢
    have g1 := a1_yes (m1_w (by omega)) (hp 1 (by omega) (by omega))
    rw [mp_w (Or.inr (Or.inr e)), fig1_yes ⟨g1.1, by omega, by omega⟩, if_neg (by omega), if_neg (by omega), if_neg (by omega), Nat.zero_add]; rfl
  · rw [mdgs_2 (Or.inl e)] at hp ⊢
    have g1 := a1_yes (m1_w (by omega)) (hp 1 (by omega) (by omega))
    have g2 := a1_yes (m2_x e) (hp 2 (by omega) (by omega))
    have f2 : mfig1 t n 0 5 0 (s + 2) = (some (0 + (t (s + 2) - 48)), s + 3) := fig1_yes ⟨g2.1, by omega, by omega⟩
    rw [mp_x e, fig1_yes ⟨g1.1, by omega, by omega⟩, mp2_ss rfl (by show (mfig1 t n 0 5 0 (s + 2)).1 = _; rw [f2]), if_neg (by omega), if_neg (by omega), if_pos e, Nat.zero_add, Nat.zero_add]
    show (some (t (s + 1) - 48, t (s + 2) - 48), (mfig1 t n 0 5 0 (s + 2)).2) = _
    rw [f2]
  · rw [mdgs_2 (Or.inr (Or.inl e))] at hp ⊢
    have g1 := a1_yes (m1_p e) (hp 1 (by omega) (by omega))
    have g2 := a1_yes (m2_p e) (hp 2 (by omega) (by omega))
    rw [mp_p e, fig2_yes ⟨g1.1, by omega, by omega⟩, fig1_yes ⟨g2.1, by omega, by omega⟩, if_pos (by omega), if_neg (by omega), if_neg (by omega)]; rfl
  · rw [mdgs_2 (Or.inr (Or.inr e))] at hp ⊢
    have g1 := a1_yes (m1_t e) (hp 1 (by omega) (by omega))
    have g2 := a1_yes (m2_t e) (hp 2 (by omega) (by omega))
    rw [mp_t e, fig2_yes ⟨g1.1, by omega, by omega⟩, fig1_yes ⟨g2.1, by omega, by omega⟩, if_pos (by omega), if_neg (by omega), if_neg (by omega)]; rfl
  · rw [mdgs_99 e] at hp ⊢
    have g1 := a1_yes (m1_w (by omega)) (hp 1 (by omega) (by omega))
    have g2 := a1_yes (m2_c e) (hp 2 (by omega) (by omega))
    have g3 := a1_yes (rfl : mal3 t n s = _) (hp 3 (by omega) (by omega))
    have f2 : mfig2 t n 1 63 (s + 2) = (some ((t (s + 2) - 48) * 10 + (t (s + 3) - 48)), s + 4) := by
      rw [fig2_yes ⟨g2.1, by omega, by omega⟩]
      show mfig1 t n 1 63 ((t (s + 2) - 48) * 10) (s + 3) = _
      exact fig1_yes ⟨g3.1, by omega, by omega⟩
    rw [mp_c e, fig1_yes ⟨g1.1, by omega, by omega⟩, mp2_ss rfl (by show (mfig2 t n 1 63 (s + 2)).1 = _; rw [f2]), if_neg (by omega), if_pos e, Nat.zero_add]
    show (some (t (s + 1) - 48, _), (mfig2 t n 1 63 (s + 2)).2) = _
    rw [f2]
set_option maxHeartbeats 4000000 in
set_option maxRecDepth 100000 in
theorem c_X5_signAt {σ : vS} {v : vV} {p n : Nat} {t : mN} (hp : kTX σ p) (ht : mTC v p t n) {i : Nat} (hi : i < 1000) : vC M_X5_signAt yX5_signAt [.ref (p), .int (nI (i))] (σ, v) (qP (σ, v) (.int (msg t n i))) := by
  refine vC_of (ls := [some (.ref (p)), some (.int (nI (i)))]) pn_X5 rfl rfl (Nat.le_of_ble_eq_true rfl) rfl ?_
  refine P_iload_n dX5_signAt_0 rfl rfl ?_
  refine P_if_ltN (tgt := 21) dX5_signAt_1 (by decide) (by omega) (fun c1 => ?_) (fun c1 => ?_)
  · exact c1.elim
  · refine P_iload_n dX5_signAt_4 rfl rfl ?_
    refine P_aload_n dX5_signAt_5 rfl rfl ?_
    refine P_getiN (x := nI (n)) dX5_signAt_6 kX5 fX5_15 rfl (by decide) hp.1 ht.2.1 ?_
    refine P_icmp_geN (tgt := 21) dX5_signAt_9 (by decide) (by have := ht.1; omega) (by have := ht.1; omega) (fun c9 => ?_) (fun c9 => ?_)
    · refine P_iconst (v := -1) dX5_signAt_21 (by decide) ?_
      refine P_iret dX5_signAt_22 rfl ?_
      exact q_i (if_neg (by omega)).symm
    · refine P_aload_n dX5_signAt_12 rfl rfl ?_
      refine P_getr (t := p + 1) dX5_signAt_13 kX5 fX5_9 rfl (by decide) hp.1 hp.2.2 hp.2.1.1.2 ?_
      refine P_iload_n dX5_signAt_16 rfl rfl ?_
      refine P_ialdN (x := nI (t i)) (i) dX5_signAt_17 hp.2.1 rfl (by have := ht.1; omega) (by decide) (ht.2.2 _ (by omega)).1 ?_
      refine P_goto (tgt := 22) dX5_signAt_18 (by decide) ?_
      refine P_iret dX5_signAt_22 rfl ?_
      exact q_i (msg_t (by omega)).symm
set_option maxHeartbeats 4000000 in
set_option maxRecDepth 100000 in
theorem c_X5_digitsBehind {σ : vS} {v : vV} {p n : Nat} {t : mN} (hp : kTX σ p) (ht : mTC v p t n) {i : Nat} (hi : i < n) : vC M_X5_digitsBehind yX5_digitsBehind [.ref (p), .int (nI (i))] (σ, v) (qP (σ, v) (.int (nI (mdgs (t i))))) := by
  have hn := ht.1
  refine vC_of (ls := [some (.ref (p)), some (.int (nI (i)))]) pn_X5 rfl rfl (Nat.le_of_ble_eq_true rfl) rfl ?_
  refine P_aload_n dX5_digitsBehind_0 rfl rfl ?_
  refine P_iload_n dX5_digitsBehind_1 rfl rfl ?_
  refine P_cVp (rest := []) (As := [.int (nI (i))]) dX5_digitsBehind_2 lX5_19 yk_X5_signAt yv_X5_signAt kX5 rfl (by decide) hp.1 rfl rfl (Nat.le_of_ble_eq_true rfl) rfl (c_X5_signAt hp ht (by omega)) ?_
  refine P_top (y := nI (t i)) (msg_t (by omega)) ?_
  rcases vsw (t i) 98 120 (by have := (ht.2.2 i hi).2; omega) (by decide) with c5 | ⟨c5_j, c5_b, c5⟩
  · refine P_tswOut (tgt := 118) dX5_digitsBehind_5 (vsw_out (by have := (ht.2.2 i hi).2; omega) c5) (by decide) ?_
    refine P_iconst (v := nI 0) dX5_digitsBehind_118 (by decide) ?_
    refine P_iret dX5_digitsBehind_119 rfl ?_
    exact q_n (by unfold mdgs; rw [if_neg (by omega), if_neg (by omega), if_neg (by omega)])
  · rcases (by omega : c5_j = 0 ∨ c5_j = 1 ∨ c5_j = 2 ∨ c5_j = 3 ∨ c5_j = 4 ∨ c5_j = 5 ∨ c5_j = 6 ∨ c5_j = 7 ∨ c5_j = 8 ∨ c5_j = 9 ∨ c5_j = 10 ∨ c5_j = 11 ∨ c5_j = 12 ∨ c5_j = 13 ∨ c5_j = 14 ∨ c5_j = 15 ∨ c5_j = 16 ∨ c5_j = 17 ∨ c5_j = 18 ∨ c5_j = 19 ∨ c5_j = 20 ∨ c5_j = 21 ∨ c5_j = 22) with q5 | q5 | q5 | q5 | q5 | q5 | q5 | q5 | q5 | q5 | q5 | q5 | q5 | q5 | q5 | q5 | q5 | q5 | q5 | q5 | q5 | q5 | q5
    · replace c5 : t i = 98 := by omega
      refine P_tswIn (off := 107) (tgt := 112) dX5_digitsBehind_5 (by rw [vsw_int c5 (by decide)]; decide) (by rw [vsw_int c5 (by decide)]; decide) (by rw [vsw_int c5 (by decide)]; rfl) (by decide) ?_
      refine P_iconst (v := nI 1) dX5_digitsBehind_112 (by decide) ?_
      refine P_iret dX5_digitsBehind_113 rfl ?_
      exact q_n (by rw [c5]; rfl)
    · replace c5 : t i = 99 := by omega
      refine P_tswIn (off := 111) (tgt := 116) dX5_digitsBehind_5 (by rw [vsw_int c5 (by decide)]; decide) (by rw [vsw_int c5 (by decide)]; decide) (by rw [vsw_int c5 (by decide)]; rfl) (by decide) ?_
      refine P_iconst (v := nI 3) dX5_digitsBehind_116 (by decide) ?_
      refine P_iret dX5_digitsBehind_117 rfl ?_
      exact q_n (by rw [c5]; rfl)
    · replace c5 : t i = 100 := by omega
      refine P_tswIn (off := 113) (tgt := 118) dX5_digitsBehind_5 (by rw [vsw_int c5 (by decide)]; decide) (by rw [vsw_int c5 (by decide)]; decide) (by rw [vsw_int c5 (by decide)]; rfl) (by decide) ?_
      refine P_iconst (v := nI 0) dX5_digitsBehind_118 (by decide) ?_
      refine P_iret dX5_digitsBehind_119 rfl ?_
      exact q_n (by rw [c5]; rfl)
    · replace c5 : t i = 101 := by omega
      refine P_tswIn (off := 113) (tgt := 118) dX5_digitsBehind_5 (by rw [vsw_int c5 (by decide)]; decide) (by rw [vsw_int c5 (by decide)]; decide) (by rw [vsw_int c5 (by decide)]; rfl) (by decide) ?_
      refine P_iconst (v := nI 0) dX5_digitsBehind_118 (by decide) ?_
      refine P_iret dX5_digitsBehind_119 rfl ?_
      exact q_n (by rw [c5]; rfl)
    · replace c5 : t i = 102 := by omega
      refine P_tswIn (off := 113) (tgt := 118) dX5_digitsBehind_5 (by rw [vsw_int c5 (by decide)]; decide) (by rw [vsw_int c5 (by decide)]; decide) (by rw [vsw_int c5 (by decide)]; rfl) (by decide) ?_
      refine P_iconst (v := nI 0) dX5_digitsBehind_118 (by decide) ?_
      refine P_iret dX5_digitsBehind_119 rfl ?_
      exact q_n (by rw [c5]; rfl)
    · replace c5 : t i = 103 := by omega
      refine P_tswIn (off := 107) (tgt := 112) dX5_digitsBehind_5 (by rw [vsw_int c5 (by decide)]; decide) (by rw [vsw_int c5 (by decide)]; decide) (by rw [vsw_int c5 (by decide)]; rfl) (by decide) ?_
      refine P_iconst (v := nI 1) dX5_digitsBehind_112 (by decide) ?_
      refine P_iret dX5_digitsBehind_113 rfl ?_
      exact q_n (by rw [c5]; rfl)
    · replace c5 : t i = 104 := by omega
      refine P_tswIn (off := 113) (tgt := 118) dX5_digitsBehind_5 (by rw [vsw_int c5 (by decide)]; decide) (by rw [vsw_int c5 (by decide)]; decide) (by rw [vsw_int c5 (by decide)]; rfl) (by decide) ?_
      refine P_iconst (v := nI 0) dX5_digitsBehind_118 (by decide) ?_
      refine P_iret dX5_digitsBehind_119 rfl ?_
      exact q_n (by rw [c5]; rfl)
    · replace c5 : t i = 105 := by omega
      refine P_tswIn (off := 113) (tgt := 118) dX5_digitsBehind_5 (by rw [vsw_int c5 (by decide)]; decide) (by rw [vsw_int c5 (by decide)]; decide) (by rw [vsw_int c5 (by decide)]; rfl) (by decide) ?_
      refine P_iconst (v := nI 0) dX5_digitsBehind_118 (by decide) ?_
      refine P_iret dX5_digitsBehind_119 rfl ?_
      exact q_n (by rw [c5]; rfl)
    · replace c5 : t i = 106 := by omega
      refine P_tswIn (off := 113) (tgt := 118) dX5_digitsBehind_5 (by rw [vsw_int c5 (by decide)]; decide) (by rw [vsw_int c5 (by decide)]; decide) (by rw [vsw_int c5 (by decide)]; rfl) (by decide) ?_
      refine P_iconst (v := nI 0) dX5_digitsBehind_118 (by decide) ?_
      refine P_iret dX5_digitsBehind_119 rfl ?_
      exact q_n (by rw [c5]; rfl)
    · replace c5 : t i = 107 := by omega
      refine P_tswIn (off := 113) (tgt := 118) dX5_digitsBehind_5 (by rw [vsw_int c5 (by decide)]; decide) (by rw [vsw_int c5 (by decide)]; decide) (by rw [vsw_int c5 (by decide)]; rfl) (by decide) ?_
      refine P_iconst (v := nI 0) dX5_digitsBehind_118 (by decide) ?_
      refine P_iret dX5_digitsBehind_119 rfl ?_
      exact q_n (by rw [c5]; rfl)
    · replace c5 : t i = 108 := by omega
      refine P_tswIn (off := 113) (tgt := 118) dX5_digitsBehind_5 (by rw [vsw_int c5 (by decide)]; decide) (by rw [vsw_int c5 (by decide)]; decide) (by rw [vsw_int c5 (by decide)]; rfl) (by decide) ?_
      refine P_iconst (v := nI 0) dX5_digitsBehind_118 (by decide) ?_
      refine P_iret dX5_digitsBehind_119 rfl ?_
      exact q_n (by rw [c5]; rfl)
    · replace c5 : t i = 109 := by omega
      refine P_tswIn (off := 107) (tgt := 112) dX5_digitsBehind_5 (by rw [vsw_int c5 (by decide)]; decide) (by rw [vsw_int c5 (by decide)]; decide) (by rw [vsw_int c5 (by decide)]; rfl) (by decide) ?_
      refine P_iconst (v := nI 1) dX5_digitsBehind_112 (by decide) ?_
      refine P_iret dX5_digitsBehind_113 rfl ?_
      exact q_n (by rw [c5]; rfl)
    · replace c5 : t i = 110 := by omega
      refine P_tswIn (off := 113) (tgt := 118) dX5_digitsBehind_5 (by rw [vsw_int c5 (by decide)]; decide) (by rw [vsw_int c5 (by decide)]; decide) (by rw [vsw_int c5 (by decide)]; rfl) (by decide) ?_
      refine P_iconst (v := nI 0) dX5_digitsBehind_118 (by decide) ?_
      refine P_iret dX5_digitsBehind_119 rfl ?_
      exact q_n (by rw [c5]; rfl)
    · replace c5 : t i = 111 := by omega
      refine P_tswIn (off := 113) (tgt := 118) dX5_digitsBehind_5 (by rw [vsw_int c5 (by decide)]; decide) (by rw [vsw_int c5 (by decide)]; decide) (by rw [vsw_int c5 (by decide)]; rfl) (by decide) ?_
      refine P_iconst (v := nI 0) dX5_digitsBehind_118 (by decide) ?_
      refine P_iret dX5_digitsBehind_119 rfl ?_
      exact q_n (by rw [c5]; rfl)
    · replace c5 : t i = 112 := by omega
      refine P_tswIn (off := 109) (tgt := 114) dX5_digitsBehind_5 (by rw [vsw_int c5 (by decide)]; decide) (by rw [vsw_int c5 (by decide)]; decide) (by rw [vsw_int c5 (by decide)]; rfl) (by decide) ?_
      refine P_iconst (v := nI 2) dX5_digitsBehind_114 (by decide) ?_
      refine P_iret dX5_digitsBehind_115 rfl ?_
      exact q_n (by rw [c5]; rfl)
    · replace c5 : t i = 113 := by omega
      refine P_tswIn (off := 113) (tgt := 118) dX5_digitsBehind_5 (by rw [vsw_int c5 (by decide)]; decide) (by rw [vsw_int c5 (by decide)]; decide) (by rw [vsw_int c5 (by decide)]; rfl) (by decide) ?_
      refine P_iconst (v := nI 0) dX5_digitsBehind_118 (by decide) ?_
      refine P_iret dX5_digitsBehind_119 rfl ?_
      exact q_n (by rw [c5]; rfl)
    · replace c5 : t i = 114 := by omega
      refine P_tswIn (off := 113) (tgt := 118) dX5_digitsBehind_5 (by rw [vsw_int c5 (by decide)]; decide) (by rw [vsw_int c5 (by decide)]; decide) (by rw [vsw_int c5 (by decide)]; rfl) (by decide) ?_
      refine P_iconst (v := nI 0) dX5_digitsBehind_118 (by decide) ?_
      refine P_iret dX5_digitsBehind_119 rfl ?_
      exact q_n (by rw [c5]; rfl)
    · replace c5 : t i = 115 := by omega
      refine P_tswIn (off := 107) (tgt := 112) dX5_digitsBehind_5 (by rw [vsw_int c5 (by decide)]; decide) (by rw [vsw_int c5 (by decide)]; decide) (by rw [vsw_int c5 (by decide)]; rfl) (by decide) ?_
      refine P_iconst (v := nI 1) dX5_digitsBehind_112 (by decide) ?_
      refine P_iret dX5_digitsBehind_113 rfl ?_
      exact q_n (by rw [c5]; rfl)
    · replace c5 : t i = 116 := by omega
      refine P_tswIn (off := 109) (tgt := 114) dX5_digitsBehind_5 (by rw [vsw_int c5 (by decide)]; decide) (by rw [vsw_int c5 (by decide)]; decide) (by rw [vsw_int c5 (by decide)]; rfl) (by decide) ?_
      refine P_iconst (v := nI 2) dX5_digitsBehind_114 (by decide) ?_
      refine P_iret dX5_digitsBehind_115 rfl ?_
      exact q_n (by rw [c5]; rfl)
    · replace c5 : t i = 117 := by omega
      refine P_tswIn (off := 113) (tgt := 118) dX5_digitsBehind_5 (by rw [vsw_int c5 (by decide)]; decide) (by rw [vsw_int c5 (by decide)]; decide) (by rw [vsw_int c5 (by decide)]; rfl) (by decide) ?_
      refine P_iconst (v := nI 0) dX5_digitsBehind_118 (by decide) ?_
      refine P_iret dX5_digitsBehind_119 rfl ?_
      exact q_n (by rw [c5]; rfl)
    · replace c5 : t i = 118 := by omega
      refine P_tswIn (off := 113) (tgt := 118) dX5_digitsBehind_5 (by rw [vsw_int c5 (by decide)]; decide) (by rw [vsw_int c5 (by decide)]; decide) (by rw [vsw_int c5 (by decide)]; rfl) (by decide) ?_
      refine P_iconst (v := nI 0) dX5_digitsBehind_118 (by decide) ?_
      refine P_iret dX5_digitsBehind_119 rfl ?_
      exact q_n (by rw [c5]; rfl)
    · replace c5 : t i = 119 := by omega
      refine P_tswIn (off := 113) (tgt := 118) dX5_digitsBehind_5 (by rw [vsw_int c5 (by decide)]; decide) (by rw [vsw_int c5 (by decide)]; decide) (by rw [vsw_int c5 (by decide)]; rfl) (by decide) ?_
      refine P_iconst (v := nI 0) dX5_digitsBehind_118 (by decide) ?_
      refine P_iret dX5_digitsBehind_119 rfl ?_
      exact q_n (by rw [c5]; rfl)
    · replace c5 : t i = 120 := by omega
      refine P_tswIn (off := 109) (tgt := 114) dX5_digitsBehind_5 (by rw [vsw_int c5 (by decide)]; decide) (by rw [vsw_int c5 (by decide)]; decide) (by rw [vsw_int c5 (by decide)]; rfl) (by decide) ?_
      refine P_iconst (v := nI 2) dX5_digitsBehind_114 (by decide) ?_
      refine P_iret dX5_digitsBehind_115 rfl ?_
      exact q_n (by rw [c5]; rfl)
set_option maxHeartbeats 4000000 in
set_option maxRecDepth 100000 in
theorem c_X5_twoDigits {σ : vS} {v : vV} {p n : Nat} {t : mN} (hp : kTX σ p) (ht : mTC v p t n) {i : Nat} (hi : i < 900) (h1 : mdg t n i) (h2 : mdg t n (i + 1)) : vC M_X5_twoDigits yX5_twoDigits [.ref (p), .int (nI (i))] (σ, v) (qP (σ, v) (.int (nI ((t i - 48) * 10 + (t (i + 1) - 48))))) := by
  refine vC_of (ls := [some (.ref (p)), some (.int (nI (i)))]) pn_X5 rfl rfl (Nat.le_of_ble_eq_true rfl) rfl ?_
  refine P_aload_n dX5_twoDigits_0 rfl rfl ?_
  refine P_iload_n dX5_twoDigits_1 rfl rfl ?_
  refine P_cVp (rest := []) (As := [.int (nI (i))]) dX5_twoDigits_2 lX5_19 yk_X5_signAt yv_X5_signAt kX5 rfl (by decide) hp.1 rfl rfl (Nat.le_of_ble_eq_true rfl) rfl (c_X5_signAt hp ht (by omega)) ?_
  refine P_top (y := nI (t i)) (msg_t h1.1) ?_
  refine P_bipush (v := nI 48) dX5_twoDigits_5 (by decide) ?_
  refine P_isubN dX5_twoDigits_7 (by have := h1.2.1; omega) ?_
  refine P_bipush (v := nI 10) dX5_twoDigits_8 (by decide) ?_
  refine P_imulN dX5_twoDigits_10 ?_
  refine P_aload_n dX5_twoDigits_11 rfl rfl ?_
  refine P_iload_n dX5_twoDigits_12 rfl rfl ?_
  refine P_iconst (v := nI 1) dX5_twoDigits_13 (by decide) ?_
  refine P_iaddN dX5_twoDigits_14 ?_
  refine P_cVp (rest := [.int (nI (((t i) - 48) * 10))]) (As := [.int (nI (i + 1))]) dX5_twoDigits_15 lX5_19 yk_X5_signAt yv_X5_signAt kX5 rfl (by decide) hp.1 rfl rfl (Nat.le_of_ble_eq_true rfl) rfl (c_X5_signAt hp ht (by omega)) ?_
  refine P_top (y := nI (t (i + 1))) (msg_t h2.1) ?_
  refine P_iaddN dX5_twoDigits_18 ?_
  refine P_bipush (v := nI 48) dX5_twoDigits_19 (by decide) ?_
  refine P_isubN dX5_twoDigits_21 (by have := h2.2.1; omega) ?_
  refine P_iret dX5_twoDigits_22 rfl ?_
  exact q_n (by obtain ⟨_, a1, a2⟩ := h1; obtain ⟨_, b1, b2⟩ := h2; omega)
set_option maxHeartbeats 4000000 in
set_option maxRecDepth 100000 in
theorem c_begins1 {σ : vS} {v : vV} {p n : Nat} {t : mN} (hp : kTX σ p) (ht : mTC v p t n) {i lo hi : Nat} (hi9 : i < 900) (hl : lo < 100) (hh : hi < 100) (h1 : mdg t n i) : vC M_X5_beginsNumber yX5_beginsNumber [.ref (p), .int (nI (i)), .int (nI (1)), .int (nI (lo)), .int (nI (hi))] (σ, v) (qP (σ, v) (.int (vb (decide (lo / 10 ≤ t i - 48 ∧ t i - 48 ≤ hi / 10))))) := by
  refine vC_of (ls := [some (.ref (p)), some (.int (nI (i))), some (.int (nI (1))), some (.int (nI (lo))), some (.int (nI (hi))), none, none]) pn_X5 rfl rfl (Nat.le_of_ble_eq_true rfl) rfl ?_
  refine P_aload_n dX5_beginsNumber_0 rfl rfl ?_
  refine P_iload_n dX5_beginsNumber_1 rfl rfl ?_
  refine P_cVp (rest := []) (As := [.int (nI (i))]) dX5_beginsNumber_2 lX5_19 yk_X5_signAt yv_X5_signAt kX5 rfl (by decide) hp.1 rfl rfl (Nat.le_of_ble_eq_true rfl) rfl (c_X5_signAt hp ht (by omega)) ?_
  refine P_top (y := nI (t i)) (msg_t h1.1) ?_
  refine P_bipush (v := nI 48) dX5_beginsNumber_5 (by decide) ?_
  refine P_isubN dX5_beginsNumber_7 (by have := h1.2.1; omega) ?_
  refine P_istore (ls2 := [some (.ref (p)), some (.int (nI (i))), some (.int (nI (1))), some (.int (nI (lo))), some (.int (nI (hi))), some (.int (nI ((t i) - 48))), none]) dX5_beginsNumber_8 (by decide) rfl ?_
  refine P_iload_n dX5_beginsNumber_10 rfl rfl ?_
  refine P_iconst (v := nI 1) dX5_beginsNumber_11 (by decide) ?_
  refine P_icmp_neN (tgt := 40) dX5_beginsNumber_12 (by decide) (by omega) (by omega) (fun c12 => ?_) (fun c12 => ?_)
  · exact absurd rfl c12
  · refine P_iload dX5_beginsNumber_15 rfl ?_
    refine P_iload_n dX5_beginsNumber_17 rfl rfl ?_
    refine P_bipush (v := nI 10) dX5_beginsNumber_18 (by decide) ?_
    refine P_idivN dX5_beginsNumber_20 (by omega) (by decide) (by decide) ?_
    refine P_icmp_ltN (tgt := 38) dX5_beginsNumber_21 (by decide) (by have := h1.2; omega) (by have := h1.2; omega) (fun c21 => ?_) (fun c21 => ?_)
    · refine P_iconst (v := nI 0) dX5_beginsNumber_38 (by decide) ?_
      refine P_zret dX5_beginsNumber_39 rfl (by decide) ?_
      exact q_fD (fun q => absurd q.1 (by omega))
    · refine P_iload dX5_beginsNumber_24 rfl ?_
      refine P_iload dX5_beginsNumber_26 rfl ?_
      refine P_bipush (v := nI 10) dX5_beginsNumber_28 (by decide) ?_
      refine P_idivN dX5_beginsNumber_30 (by omega) (by decide) (by decide) ?_
      refine P_icmp_gtN (tgt := 38) dX5_beginsNumber_31 (by decide) (by have := h1.2; omega) (by have := h1.2; omega) (fun c31 => ?_) (fun c31 => ?_)
      · refine P_iconst (v := nI 0) dX5_beginsNumber_38 (by decide) ?_
        refine P_zret dX5_beginsNumber_39 rfl (by decide) ?_
        exact q_fD (fun q => absurd q.2 (by omega))
      · refine P_iconst (v := nI 1) dX5_beginsNumber_34 (by decide) ?_
        refine P_goto (tgt := 39) dX5_beginsNumber_35 (by decide) ?_
        refine P_zret dX5_beginsNumber_39 rfl (by decide) ?_
        exact q_tD ⟨by omega, by omega⟩
set_option maxHeartbeats 4000000 in
set_option maxRecDepth 100000 in
theorem c_begins2 {σ : vS} {v : vV} {p n : Nat} {t : mN} (hp : kTX σ p) (ht : mTC v p t n) {i lo hi : Nat} (hi9 : i < 900) (hl : lo < 100) (hh : hi < 100) (h1 : mdg t n i) (h2 : mdg t n (i + 1)) : vC M_X5_beginsNumber yX5_beginsNumber [.ref (p), .int (nI (i)), .int (nI (2)), .int (nI (lo)), .int (nI (hi))] (σ, v) (qP (σ, v) (.int (vb (decide (lo ≤ (t i - 48) * 10 + (t (i + 1) - 48) ∧ (t i - 48) * 10 + (t (i + 1) - 48) ≤ hi))))) := by
  refine vC_of (ls := [some (.ref (p)), some (.int (nI (i))), some (.int (nI (2))), some (.int (nI (lo))), some (.int (nI (hi))), none, none]) pn_X5 rfl rfl (Nat.le_of_ble_eq_true rfl) rfl ?_
  refine P_aload_n dX5_beginsNumber_0 rfl rfl ?_
  refine P_iload_n dX5_beginsNumber_1 rfl rfl ?_
  refine P_cVp (rest := []) (As := [.int (nI (i))]) dX5_beginsNumber_2 lX5_19 yk_X5_signAt yv_X5_signAt kX5 rfl (by decide) hp.1 rfl rfl (Nat.le_of_ble_eq_true rfl) rfl (c_X5_signAt hp ht (by omega)) ?_
  refine P_top (y := nI (t i)) (msg_t h1.1) ?_
  refine P_bipush (v := nI 48) dX5_beginsNumber_5 (by decide) ?_
  refine P_isubN dX5_beginsNumber_7 (by have := h1.2.1; omega) ?_
  refine P_istore (ls2 := [some (.ref (p)), some (.int (nI (i))), some (.int (nI (2))), some (.int (nI (lo))), some (.int (nI (hi))), some (.int (nI ((t i) - 48))), none]) dX5_beginsNumber_8 (by decide) rfl ?_
  refine P_iload_n dX5_beginsNumber_10 rfl rfl ?_
  refine P_iconst (v := nI 1) dX5_beginsNumber_11 (by decide) ?_
  refine P_icmp_neN (tgt := 40) dX5_beginsNumber_12 (by decide) (by omega) (by omega) (fun c12 => ?_) (fun c12 => ?_)
  · refine P_aload_n dX5_beginsNumber_40 rfl rfl ?_
    refine P_iload_n dX5_beginsNumber_41 rfl rfl ?_
    refine P_cVp (rest := []) (As := [.int (nI (i))]) dX5_beginsNumber_42 lX5_34 yk_X5_twoDigits yv_X5_twoDigits kX5 rfl (by decide) hp.1 rfl rfl (Nat.le_of_ble_eq_true rfl) rfl (c_X5_twoDigits hp ht (by omega) h1 h2) ?_
    refine P_istore (ls2 := [some (.ref (p)), some (.int (nI (i))), some (.int (nI (2))), some (.int (nI (lo))), some (.int (nI (hi))), some (.int (nI ((t i) - 48))), some (.int (nI ((t i - 48) * 10 + (t (i + 1) - 48))))]) dX5_beginsNumber_45 (by decide) rfl ?_
    refine P_iload dX5_beginsNumber_47 rfl ?_
    refine P_iload_n dX5_beginsNumber_49 rfl rfl ?_
    refine P_icmp_ltN (tgt := 64) dX5_beginsNumber_50 (by decide) (by have := h1.2; have := h2.2; omega) (by have := h1.2; have := h2.2; omega) (fun c50 => ?_) (fun c50 => ?_)
    · refine P_iconst (v := nI 0) dX5_beginsNumber_64 (by decide) ?_
      refine P_zret dX5_beginsNumber_65 rfl (by decide) ?_
      exact q_fD (fun q => absurd q.1 (by omega))
    · refine P_iload dX5_beginsNumber_53 rfl ?_
      refine P_iload dX5_beginsNumber_55 rfl ?_
      refine P_icmp_gtN (tgt := 64) dX5_beginsNumber_57 (by decide) (by have := h1.2; have := h2.2; omega) (by have := h1.2; have := h2.2; omega) (fun c57 => ?_) (fun c57 => ?_)
      · refine P_iconst (v := nI 0) dX5_beginsNumber_64 (by decide) ?_
        refine P_zret dX5_beginsNumber_65 rfl (by decide) ?_
        exact q_fD (fun q => absurd q.2 (by omega))
      · refine P_iconst (v := nI 1) dX5_beginsNumber_60 (by decide) ?_
        refine P_goto (tgt := 65) dX5_beginsNumber_61 (by decide) ?_
        refine P_zret dX5_beginsNumber_65 rfl (by decide) ?_
        exact q_tD ⟨by omega, by omega⟩
  · exact absurd c12 (by decide)
set_option maxHeartbeats 4000000 in
set_option maxRecDepth 100000 in
theorem c_allowed1 {σ : vS} {v : vV} {p n : Nat} {t : mN} (hp : kTX σ p) (ht : mTC v p t n) {s : Nat} (hs : s < n)  : vC M_X5_isAllowed yX5_isAllowed [.ref (p), .int (nI (s)), .int (nI (1))] (σ, v) (qP (σ, v) (.int (vb (mal1 t n s)))) := by
  have hn := ht.1
  refine vC_of (ls := [some (.ref (p)), some (.int (nI (s))), some (.int (nI (1))), none]) pn_X5 rfl rfl (Nat.le_of_ble_eq_true rfl) rfl ?_
  refine P_aload_n dX5_isAllowed_0 rfl rfl ?_
  refine P_iload_n dX5_isAllowed_1 rfl rfl ?_
  refine P_iload_n dX5_isAllowed_2 rfl rfl ?_
  refine P_iaddN dX5_isAllowed_3 ?_
  refine P_cVp (rest := []) (As := [.int (nI (s + 1))]) dX5_isAllowed_4 lX5_19 yk_X5_signAt yv_X5_signAt kX5 rfl (by decide) hp.1 rfl rfl (Nat.le_of_ble_eq_true rfl) rfl (c_X5_signAt hp ht (by omega)) ?_
  refine P_bipush (v := nI 48) dX5_isAllowed_7 (by decide) ?_
  refine P_isub dX5_isAllowed_9 ?_
  rcases msg_x (i := s + 1) (fun i hi => (ht.2.2 i hi).2) with ⟨hd, hx⟩ | ⟨hd, hx⟩
  · refine P_top (y := nI (t (s + 1) - 48)) hx ?_
    refine P_istore_n (ls2 := [some (.ref (p)), some (.int (nI (s))), some (.int (nI (1))), some (.int (nI (t (s + 1) - 48)))]) dX5_isAllowed_10 rfl (by decide) rfl ?_
    refine P_iload_n dX5_isAllowed_11 rfl rfl ?_
    refine P_if_ltN (tgt := 21) dX5_isAllowed_12 (by decide) (by omega) (fun c12 => ?_) (fun c12 => ?_)
    · exact c12.elim
    · refine P_iload_n dX5_isAllowed_15 rfl rfl ?_
      refine P_bipush (v := nI 9) dX5_isAllowed_16 (by decide) ?_
      refine P_icmp_leN (tgt := 23) dX5_isAllowed_18 (by decide) (by have := hd.2; omega) (by have := hd.2; omega) (fun c18 => ?_) (fun c18 => ?_)
      · refine P_aload_n dX5_isAllowed_23 rfl rfl ?_
        refine P_iload_n dX5_isAllowed_24 rfl rfl ?_
        refine P_cVp (rest := []) (As := [.int (nI (s))]) dX5_isAllowed_25 lX5_19 yk_X5_signAt yv_X5_signAt kX5 rfl (by decide) hp.1 rfl rfl (Nat.le_of_ble_eq_true rfl) rfl (c_X5_signAt hp ht (by omega)) ?_
        refine P_top (y := nI (t s)) (msg_t hs) ?_
        by_cases c28_0 : t s = 99
        · refine P_lsw (off := 46) (tgt := 74) dX5_isAllowed_28 (by decide) (by rw [vsw_int c28_0 (by decide)]; rfl) (by decide) ?_
          refine P_iload_n dX5_isAllowed_74 rfl rfl ?_
          refine P_iconst (v := nI 1) dX5_isAllowed_75 (by decide) ?_
          refine P_icmp_neN (tgt := 93) dX5_isAllowed_76 (by decide) (by omega) (by omega) (fun c76 => ?_) (fun c76 => ?_)
          · exact absurd rfl c76
          · refine P_iload_n dX5_isAllowed_79 rfl rfl ?_
            refine P_bipush (v := nI 6) dX5_isAllowed_80 (by decide) ?_
            refine P_icmp_geN (tgt := 89) dX5_isAllowed_82 (by decide) (by have := hd.2; omega) (by have := hd.2; omega) (fun c82 => ?_) (fun c82 => ?_)
            · refine P_iconst (v := nI 0) dX5_isAllowed_89 (by decide) ?_
              refine P_goto (tgt := 106) dX5_isAllowed_90 (by decide) ?_
              refine P_zret dX5_isAllowed_106 rfl (by decide) ?_
              refine q_f ?_
              rw [m1_w (by omega), decide_eq_true hd, Bool.true_and]
              exact decide_eq_false (by omega)
            · refine P_iconst (v := nI 1) dX5_isAllowed_85 (by decide) ?_
              refine P_goto (tgt := 106) dX5_isAllowed_86 (by decide) ?_
              refine P_zret dX5_isAllowed_106 rfl (by decide) ?_
              refine q_t ?_
              rw [m1_w (by omega), decide_eq_true hd, Bool.true_and]
              exact decide_eq_true (by omega)
        by_cases c28_1 : t s = 109
        · refine P_lsw (off := 44) (tgt := 72) dX5_isAllowed_28 (by decide) (by rw [vsw_int c28_1 (by decide)]; rfl) (by decide) ?_
          refine P_iconst (v := nI 1) dX5_isAllowed_72 (by decide) ?_
          refine P_zret dX5_isAllowed_73 rfl (by decide) ?_
          refine q_t ?_
          rw [m1_m c28_1, decide_eq_true hd, Bool.true_and]
          exact decide_eq_true (by omega)
        by_cases c28_2 : t s = 112
        · refine P_lsw (off := 79) (tgt := 107) dX5_isAllowed_28 (by decide) (by rw [vsw_int c28_2 (by decide)]; rfl) (by decide) ?_
          refine P_aload_n dX5_isAllowed_107 rfl rfl ?_
          refine P_iload_n dX5_isAllowed_108 rfl rfl ?_
          refine P_iconst (v := nI 1) dX5_isAllowed_109 (by decide) ?_
          refine P_iaddN dX5_isAllowed_110 ?_
          refine P_iload_n dX5_isAllowed_111 rfl rfl ?_
          refine P_iconst (v := nI 0) dX5_isAllowed_112 (by decide) ?_
          refine P_bipush (v := nI 40) dX5_isAllowed_113 (by decide) ?_
          refine P_cVp (rest := []) (As := [.int (nI (s + 1)), .int (nI (1)), .int (nI (0)), .int (nI (40))]) dX5_isAllowed_115 lX5_30 yk_X5_beginsNumber yv_X5_beginsNumber kX5 rfl (by decide) hp.1 rfl rfl (Nat.le_of_ble_eq_true rfl) rfl (c_begins1 hp ht (by omega) (by decide) (by decide) hd) ?_
          refine P_zret dX5_isAllowed_118 rfl (vb_nar _) ?_
          refine q_b ?_
          rw [m1_p c28_2, decide_eq_true hd, Bool.true_and]
          try exact decide_eq_decide.mpr ⟨fun q => by omega, fun q => by omega⟩
        by_cases c28_3 : t s = 116
        · refine P_lsw (off := 91) (tgt := 119) dX5_isAllowed_28 (by decide) (by rw [vsw_int c28_3 (by decide)]; rfl) (by decide) ?_
          refine P_aload_n dX5_isAllowed_119 rfl rfl ?_
          refine P_iload_n dX5_isAllowed_120 rfl rfl ?_
          refine P_iconst (v := nI 1) dX5_isAllowed_121 (by decide) ?_
          refine P_iaddN dX5_isAllowed_122 ?_
          refine P_iload_n dX5_isAllowed_123 rfl rfl ?_
          refine P_iconst (v := nI 1) dX5_isAllowed_124 (by decide) ?_
          refine P_bipush (v := nI 60) dX5_isAllowed_125 (by decide) ?_
          refine P_cVp (rest := []) (As := [.int (nI (s + 1)), .int (nI (1)), .int (nI (1)), .int (nI (60))]) dX5_isAllowed_127 lX5_30 yk_X5_beginsNumber yv_X5_beginsNumber kX5 rfl (by decide) hp.1 rfl rfl (Nat.le_of_ble_eq_true rfl) rfl (c_begins1 hp ht (by omega) (by decide) (by decide) hd) ?_
          refine P_zret dX5_isAllowed_130 rfl (vb_nar _) ?_
          refine q_b ?_
          rw [m1_t c28_3, decide_eq_true hd, Bool.true_and]
          try exact decide_eq_decide.mpr ⟨fun q => by omega, fun q => by omega⟩
        refine P_lsw (off := 103) (tgt := 131) dX5_isAllowed_28 (by decide) (by show Op.lookupswitch.offset [(99, 46), (109, 44), (112, 79), (116, 91)] (103) (nI (t s)).toInt = (103); rw [nI_toInt (by have := (ht.2.2 s hs).2; omega), Op.lookupswitch.offset_cons, if_neg (by omega), Op.lookupswitch.offset_cons, if_neg (by omega), Op.lookupswitch.offset_cons, if_neg (by omega), Op.lookupswitch.offset_cons, if_neg (by omega), Op.lookupswitch.offset_nil]) (by decide) ?_
        refine P_iload_n dX5_isAllowed_131 rfl rfl ?_
        refine P_bipush (v := nI 6) dX5_isAllowed_132 (by decide) ?_
        refine P_icmp_geN (tgt := 141) dX5_isAllowed_134 (by decide) (by have := hd.2; omega) (by have := hd.2; omega) (fun c134 => ?_) (fun c134 => ?_)
        · refine P_iconst (v := nI 0) dX5_isAllowed_141 (by decide) ?_
          refine P_zret dX5_isAllowed_142 rfl (by decide) ?_
          refine q_f ?_
          rw [m1_w (by omega), decide_eq_true hd, Bool.true_and]
          exact decide_eq_false (by omega)
        · refine P_iconst (v := nI 1) dX5_isAllowed_137 (by decide) ?_
          refine P_goto (tgt := 142) dX5_isAllowed_138 (by decide) ?_
          refine P_zret dX5_isAllowed_142 rfl (by decide) ?_
          refine q_t ?_
          rw [m1_w (by omega), decide_eq_true hd, Bool.true_and]
          exact decide_eq_true (by omega)
      · exact absurd c18 (by have := hd.2; omega)
  · generalize msg t n (s + 1) - nI 48 = x9 at hx ⊢
    refine P_istore_n (ls2 := [some (.ref (p)), some (.int (nI (s))), some (.int (nI (1))), some (.int (x9))]) dX5_isAllowed_10 rfl (by decide) rfl ?_
    refine P_iload_n dX5_isAllowed_11 rfl rfl ?_
    refine P_if_lt (tgt := 21) dX5_isAllowed_12 (by decide) (fun c12 => ?_) (fun c12 => ?_)
    · refine P_iconst (v := nI 0) dX5_isAllowed_21 (by decide) ?_
      refine P_zret dX5_isAllowed_22 rfl (by decide) ?_
      exact q_f (by unfold mal1; rw [decide_eq_false hd]; rfl)
    · refine P_iload_n dX5_isAllowed_15 rfl rfl ?_
      refine P_bipush (v := nI 9) dX5_isAllowed_16 (by decide) ?_
      refine P_icmp_le (tgt := 23) dX5_isAllowed_18 (by decide) (fun c18 => ?_) (fun c18 => ?_)
      · exact absurd ⟨by rw [i_lt, i_0] at c12; omega, by rw [i_le, nI_toInt (by decide)] at c18; omega⟩ hx
      · refine P_iconst (v := nI 0) dX5_isAllowed_21 (by decide) ?_
        refine P_zret dX5_isAllowed_22 rfl (by decide) ?_
        exact q_f (by unfold mal1; rw [decide_eq_false hd]; rfl)
set_option maxHeartbeats 4000000 in
set_option maxRecDepth 100000 in
theorem c_allowed2 {σ : vS} {v : vV} {p n : Nat} {t : mN} (hp : kTX σ p) (ht : mTC v p t n) {s : Nat} (hs : s < n) (h1 : mdg t n (s + 1)) (hD : 2 ≤ mdgs (t s))  : vC M_X5_isAllowed yX5_isAllowed [.ref (p), .int (nI (s)), .int (nI (2))] (σ, v) (qP (σ, v) (.int (vb (mal2 t n s)))) := by
  have hn := ht.1
  refine vC_of (ls := [some (.ref (p)), some (.int (nI (s))), some (.int (nI (2))), none]) pn_X5 rfl rfl (Nat.le_of_ble_eq_true rfl) rfl ?_
  refine P_aload_n dX5_isAllowed_0 rfl rfl ?_
  refine P_iload_n dX5_isAllowed_1 rfl rfl ?_
  refine P_iload_n dX5_isAllowed_2 rfl rfl ?_
  refine P_iaddN dX5_isAllowed_3 ?_
  refine P_cVp (rest := []) (As := [.int (nI (s + 2))]) dX5_isAllowed_4 lX5_19 yk_X5_signAt yv_X5_signAt kX5 rfl (by decide) hp.1 rfl rfl (Nat.le_of_ble_eq_true rfl) rfl (c_X5_signAt hp ht (by omega)) ?_
  refine P_bipush (v := nI 48) dX5_isAllowed_7 (by decide) ?_
  refine P_isub dX5_isAllowed_9 ?_
  rcases msg_x (i := s + 2) (fun i hi => (ht.2.2 i hi).2) with ⟨hd, hx⟩ | ⟨hd, hx⟩
  · refine P_top (y := nI (t (s + 2) - 48)) hx ?_
    refine P_istore_n (ls2 := [some (.ref (p)), some (.int (nI (s))), some (.int (nI (2))), some (.int (nI (t (s + 2) - 48)))]) dX5_isAllowed_10 rfl (by decide) rfl ?_
    refine P_iload_n dX5_isAllowed_11 rfl rfl ?_
    refine P_if_ltN (tgt := 21) dX5_isAllowed_12 (by decide) (by omega) (fun c12 => ?_) (fun c12 => ?_)
    · exact c12.elim
    · refine P_iload_n dX5_isAllowed_15 rfl rfl ?_
      refine P_bipush (v := nI 9) dX5_isAllowed_16 (by decide) ?_
      refine P_icmp_leN (tgt := 23) dX5_isAllowed_18 (by decide) (by have := hd.2; omega) (by have := hd.2; omega) (fun c18 => ?_) (fun c18 => ?_)
      · refine P_aload_n dX5_isAllowed_23 rfl rfl ?_
        refine P_iload_n dX5_isAllowed_24 rfl rfl ?_
        refine P_cVp (rest := []) (As := [.int (nI (s))]) dX5_isAllowed_25 lX5_19 yk_X5_signAt yv_X5_signAt kX5 rfl (by decide) hp.1 rfl rfl (Nat.le_of_ble_eq_true rfl) rfl (c_X5_signAt hp ht (by omega)) ?_
        refine P_top (y := nI (t s)) (msg_t hs) ?_
        by_cases c28_0 : t s = 99
        · refine P_lsw (off := 46) (tgt := 74) dX5_isAllowed_28 (by decide) (by rw [vsw_int c28_0 (by decide)]; rfl) (by decide) ?_
          refine P_iload_n dX5_isAllowed_74 rfl rfl ?_
          refine P_iconst (v := nI 1) dX5_isAllowed_75 (by decide) ?_
          refine P_icmp_neN (tgt := 93) dX5_isAllowed_76 (by decide) (by omega) (by omega) (fun c76 => ?_) (fun c76 => ?_)
          · refine P_aload_n dX5_isAllowed_93 rfl rfl ?_
            refine P_iload_n dX5_isAllowed_94 rfl rfl ?_
            refine P_iconst (v := nI 2) dX5_isAllowed_95 (by decide) ?_
            refine P_iaddN dX5_isAllowed_96 ?_
            refine P_iload_n dX5_isAllowed_97 rfl rfl ?_
            refine P_iconst (v := nI 1) dX5_isAllowed_98 (by decide) ?_
            refine P_isubN dX5_isAllowed_99 (by omega) ?_
            refine P_iconst (v := nI 1) dX5_isAllowed_100 (by decide) ?_
            refine P_bipush (v := nI 63) dX5_isAllowed_101 (by decide) ?_
            refine P_cVp (rest := []) (As := [.int (nI (s + 2)), .int (nI (1)), .int (nI (1)), .int (nI (63))]) dX5_isAllowed_103 lX5_30 yk_X5_beginsNumber yv_X5_beginsNumber kX5 rfl (by decide) hp.1 rfl rfl (Nat.le_of_ble_eq_true rfl) rfl (c_begins1 hp ht (by omega) (by decide) (by decide) hd) ?_
            refine P_zret dX5_isAllowed_106 rfl (vb_nar _) ?_
            refine q_b ?_
            rw [m2_c c28_0, decide_eq_true hd, Bool.true_and]
            try exact decide_eq_decide.mpr ⟨fun q => by omega, fun q => by omega⟩
          · exact absurd c76 (by decide)
        by_cases c28_1 : t s = 109
        · refine P_lsw (off := 44) (tgt := 72) dX5_isAllowed_28 (by decide) (by rw [vsw_int c28_1 (by decide)]; rfl) (by decide) ?_
          exact absurd hD (by rw [mdgs_1 (Or.inl c28_1)]; decide)
        by_cases c28_2 : t s = 112
        · refine P_lsw (off := 79) (tgt := 107) dX5_isAllowed_28 (by decide) (by rw [vsw_int c28_2 (by decide)]; rfl) (by decide) ?_
          refine P_aload_n dX5_isAllowed_107 rfl rfl ?_
          refine P_iload_n dX5_isAllowed_108 rfl rfl ?_
          refine P_iconst (v := nI 1) dX5_isAllowed_109 (by decide) ?_
          refine P_iaddN dX5_isAllowed_110 ?_
          refine P_iload_n dX5_isAllowed_111 rfl rfl ?_
          refine P_iconst (v := nI 0) dX5_isAllowed_112 (by decide) ?_
          refine P_bipush (v := nI 40) dX5_isAllowed_113 (by decide) ?_
          refine P_cVp (rest := []) (As := [.int (nI (s + 1)), .int (nI (2)), .int (nI (0)), .int (nI (40))]) dX5_isAllowed_115 lX5_30 yk_X5_beginsNumber yv_X5_beginsNumber kX5 rfl (by decide) hp.1 rfl rfl (Nat.le_of_ble_eq_true rfl) rfl (c_begins2 hp ht (by omega) (by decide) (by decide) h1 hd) ?_
          refine P_top (y := vb (decide (0 ≤ (t (s + 1) - 48) * 10 + (t (s + 2) - 48) ∧ (t (s + 1) - 48) * 10 + (t (s + 2) - 48) ≤ 40))) rfl ?_
          refine P_zret dX5_isAllowed_118 rfl (vb_nar _) ?_
          refine q_b ?_
          rw [m2_p c28_2, decide_eq_true hd, Bool.true_and]
          try exact decide_eq_decide.mpr ⟨fun q => by omega, fun q => by omega⟩
        by_cases c28_3 : t s = 116
        · refine P_lsw (off := 91) (tgt := 119) dX5_isAllowed_28 (by decide) (by rw [vsw_int c28_3 (by decide)]; rfl) (by decide) ?_
          refine P_aload_n dX5_isAllowed_119 rfl rfl ?_
          refine P_iload_n dX5_isAllowed_120 rfl rfl ?_
          refine P_iconst (v := nI 1) dX5_isAllowed_121 (by decide) ?_
          refine P_iaddN dX5_isAllowed_122 ?_
          refine P_iload_n dX5_isAllowed_123 rfl rfl ?_
          refine P_iconst (v := nI 1) dX5_isAllowed_124 (by decide) ?_
          refine P_bipush (v := nI 60) dX5_isAllowed_125 (by decide) ?_
          refine P_cVp (rest := []) (As := [.int (nI (s + 1)), .int (nI (2)), .int (nI (1)), .int (nI (60))]) dX5_isAllowed_127 lX5_30 yk_X5_beginsNumber yv_X5_beginsNumber kX5 rfl (by decide) hp.1 rfl rfl (Nat.le_of_ble_eq_true rfl) rfl (c_begins2 hp ht (by omega) (by decide) (by decide) h1 hd) ?_
          refine P_top (y := vb (decide (1 ≤ (t (s + 1) - 48) * 10 + (t (s + 2) - 48) ∧ (t (s + 1) - 48) * 10 + (t (s + 2) - 48) ≤ 60))) rfl ?_
          refine P_zret dX5_isAllowed_130 rfl (vb_nar _) ?_
          refine q_b ?_
          rw [m2_t c28_3, decide_eq_true hd, Bool.true_and]
          try exact decide_eq_decide.mpr ⟨fun q => by omega, fun q => by omega⟩
        refine P_lsw (off := 103) (tgt := 131) dX5_isAllowed_28 (by decide) (by show Op.lookupswitch.offset [(99, 46), (109, 44), (112, 79), (116, 91)] (103) (nI (t s)).toInt = (103); rw [nI_toInt (by have := (ht.2.2 s hs).2; omega), Op.lookupswitch.offset_cons, if_neg (by omega), Op.lookupswitch.offset_cons, if_neg (by omega), Op.lookupswitch.offset_cons, if_neg (by omega), Op.lookupswitch.offset_cons, if_neg (by omega), Op.lookupswitch.offset_nil]) (by decide) ?_
        refine P_iload_n dX5_isAllowed_131 rfl rfl ?_
        refine P_bipush (v := nI 6) dX5_isAllowed_132 (by decide) ?_
        refine P_icmp_geN (tgt := 141) dX5_isAllowed_134 (by decide) (by have := hd.2; omega) (by have := hd.2; omega) (fun c134 => ?_) (fun c134 => ?_)
        · refine P_iconst (v := nI 0) dX5_isAllowed_141 (by decide) ?_
          refine P_zret dX5_isAllowed_142 rfl (by decide) ?_
          have hx9 : t s = 120 := by
            rcases mdgs_c (ch := t s) (by omega) with e | e | e | e | e | e | e | e
            · rw [mdgs_1 (by omega)] at hD; omega
            · rw [mdgs_1 (by omega)] at hD; omega
            · rw [mdgs_1 (by omega)] at hD; omega
            · rw [mdgs_1 (by omega)] at hD; omega
            · exact e
            · omega
            · omega
            · omega
          refine q_f ?_
          rw [m2_x hx9, decide_eq_true hd, Bool.true_and]
          exact decide_eq_false (by omega)
        · refine P_iconst (v := nI 1) dX5_isAllowed_137 (by decide) ?_
          refine P_goto (tgt := 142) dX5_isAllowed_138 (by decide) ?_
          refine P_zret dX5_isAllowed_142 rfl (by decide) ?_
          have hx9 : t s = 120 := by
            rcases mdgs_c (ch := t s) (by omega) with e | e | e | e | e | e | e | e
            · rw [mdgs_1 (by omega)] at hD; omega
            · rw [mdgs_1 (by omega)] at hD; omega
            · rw [mdgs_1 (by omega)] at hD; omega
            · rw [mdgs_1 (by omega)] at hD; omega
            · exact e
            · omega
            · omega
            · omega
          refine q_t ?_
          rw [m2_x hx9, decide_eq_true hd, Bool.true_and]
          exact decide_eq_true (by omega)
      · exact absurd c18 (by have := hd.2; omega)
  · generalize msg t n (s + 2) - nI 48 = x9 at hx ⊢
    refine P_istore_n (ls2 := [some (.ref (p)), some (.int (nI (s))), some (.int (nI (2))), some (.int (x9))]) dX5_isAllowed_10 rfl (by decide) rfl ?_
    refine P_iload_n dX5_isAllowed_11 rfl rfl ?_
    refine P_if_lt (tgt := 21) dX5_isAllowed_12 (by decide) (fun c12 => ?_) (fun c12 => ?_)
    · refine P_iconst (v := nI 0) dX5_isAllowed_21 (by decide) ?_
      refine P_zret dX5_isAllowed_22 rfl (by decide) ?_
      exact q_f (by unfold mal2; rw [decide_eq_false hd]; rfl)
    · refine P_iload_n dX5_isAllowed_15 rfl rfl ?_
      refine P_bipush (v := nI 9) dX5_isAllowed_16 (by decide) ?_
      refine P_icmp_le (tgt := 23) dX5_isAllowed_18 (by decide) (fun c18 => ?_) (fun c18 => ?_)
      · exact absurd ⟨by rw [i_lt, i_0] at c12; omega, by rw [i_le, nI_toInt (by decide)] at c18; omega⟩ hx
      · refine P_iconst (v := nI 0) dX5_isAllowed_21 (by decide) ?_
        refine P_zret dX5_isAllowed_22 rfl (by decide) ?_
        exact q_f (by unfold mal2; rw [decide_eq_false hd]; rfl)
set_option maxHeartbeats 4000000 in
set_option maxRecDepth 100000 in
theorem c_allowed3 {σ : vS} {v : vV} {p n : Nat} {t : mN} (hp : kTX σ p) (ht : mTC v p t n) {s : Nat} (hs : s < n) (h1 : mdg t n (s + 1)) (h2 : mdg t n (s + 2)) (hD : 3 ≤ mdgs (t s))  : vC M_X5_isAllowed yX5_isAllowed [.ref (p), .int (nI (s)), .int (nI (3))] (σ, v) (qP (σ, v) (.int (vb (mal3 t n s)))) := by
  have hn := ht.1
  refine vC_of (ls := [some (.ref (p)), some (.int (nI (s))), some (.int (nI (3))), none]) pn_X5 rfl rfl (Nat.le_of_ble_eq_true rfl) rfl ?_
  refine P_aload_n dX5_isAllowed_0 rfl rfl ?_
  refine P_iload_n dX5_isAllowed_1 rfl rfl ?_
  refine P_iload_n dX5_isAllowed_2 rfl rfl ?_
  refine P_iaddN dX5_isAllowed_3 ?_
  refine P_cVp (rest := []) (As := [.int (nI (s + 3))]) dX5_isAllowed_4 lX5_19 yk_X5_signAt yv_X5_signAt kX5 rfl (by decide) hp.1 rfl rfl (Nat.le_of_ble_eq_true rfl) rfl (c_X5_signAt hp ht (by omega)) ?_
  refine P_bipush (v := nI 48) dX5_isAllowed_7 (by decide) ?_
  refine P_isub dX5_isAllowed_9 ?_
  rcases msg_x (i := s + 3) (fun i hi => (ht.2.2 i hi).2) with ⟨hd, hx⟩ | ⟨hd, hx⟩
  · refine P_top (y := nI (t (s + 3) - 48)) hx ?_
    refine P_istore_n (ls2 := [some (.ref (p)), some (.int (nI (s))), some (.int (nI (3))), some (.int (nI (t (s + 3) - 48)))]) dX5_isAllowed_10 rfl (by decide) rfl ?_
    refine P_iload_n dX5_isAllowed_11 rfl rfl ?_
    refine P_if_ltN (tgt := 21) dX5_isAllowed_12 (by decide) (by omega) (fun c12 => ?_) (fun c12 => ?_)
    · exact c12.elim
    · refine P_iload_n dX5_isAllowed_15 rfl rfl ?_
      refine P_bipush (v := nI 9) dX5_isAllowed_16 (by decide) ?_
      refine P_icmp_leN (tgt := 23) dX5_isAllowed_18 (by decide) (by have := hd.2; omega) (by have := hd.2; omega) (fun c18 => ?_) (fun c18 => ?_)
      · refine P_aload_n dX5_isAllowed_23 rfl rfl ?_
        refine P_iload_n dX5_isAllowed_24 rfl rfl ?_
        refine P_cVp (rest := []) (As := [.int (nI (s))]) dX5_isAllowed_25 lX5_19 yk_X5_signAt yv_X5_signAt kX5 rfl (by decide) hp.1 rfl rfl (Nat.le_of_ble_eq_true rfl) rfl (c_X5_signAt hp ht (by omega)) ?_
        refine P_top (y := nI (t s)) (msg_t hs) ?_
        by_cases c28_0 : t s = 99
        · refine P_lsw (off := 46) (tgt := 74) dX5_isAllowed_28 (by decide) (by rw [vsw_int c28_0 (by decide)]; rfl) (by decide) ?_
          refine P_iload_n dX5_isAllowed_74 rfl rfl ?_
          refine P_iconst (v := nI 1) dX5_isAllowed_75 (by decide) ?_
          refine P_icmp_neN (tgt := 93) dX5_isAllowed_76 (by decide) (by omega) (by omega) (fun c76 => ?_) (fun c76 => ?_)
          · refine P_aload_n dX5_isAllowed_93 rfl rfl ?_
            refine P_iload_n dX5_isAllowed_94 rfl rfl ?_
            refine P_iconst (v := nI 2) dX5_isAllowed_95 (by decide) ?_
            refine P_iaddN dX5_isAllowed_96 ?_
            refine P_iload_n dX5_isAllowed_97 rfl rfl ?_
            refine P_iconst (v := nI 1) dX5_isAllowed_98 (by decide) ?_
            refine P_isubN dX5_isAllowed_99 (by omega) ?_
            refine P_iconst (v := nI 1) dX5_isAllowed_100 (by decide) ?_
            refine P_bipush (v := nI 63) dX5_isAllowed_101 (by decide) ?_
            refine P_cVp (rest := []) (As := [.int (nI (s + 2)), .int (nI (2)), .int (nI (1)), .int (nI (63))]) dX5_isAllowed_103 lX5_30 yk_X5_beginsNumber yv_X5_beginsNumber kX5 rfl (by decide) hp.1 rfl rfl (Nat.le_of_ble_eq_true rfl) rfl (c_begins2 hp ht (by omega) (by decide) (by decide) h2 hd) ?_
            refine P_top (y := vb (decide (1 ≤ (t (s + 2) - 48) * 10 + (t (s + 3) - 48) ∧ (t (s + 2) - 48) * 10 + (t (s + 3) - 48) ≤ 63))) rfl ?_
            refine P_zret dX5_isAllowed_106 rfl (vb_nar _) ?_
            refine q_b ?_
            rw [m3_c, decide_eq_true hd, Bool.true_and]
            try exact decide_eq_decide.mpr ⟨fun q => by omega, fun q => by omega⟩
          · exact absurd c76 (by decide)
        by_cases c28_1 : t s = 109
        · refine P_lsw (off := 44) (tgt := 72) dX5_isAllowed_28 (by decide) (by rw [vsw_int c28_1 (by decide)]; rfl) (by decide) ?_
          exact absurd hD (by rw [mdgs_1 (Or.inl c28_1)]; decide)
        by_cases c28_2 : t s = 112
        · refine P_lsw (off := 79) (tgt := 107) dX5_isAllowed_28 (by decide) (by rw [vsw_int c28_2 (by decide)]; rfl) (by decide) ?_
          exact absurd hD (by rw [mdgs_2 (Or.inr (Or.inl c28_2))]; decide)
        by_cases c28_3 : t s = 116
        · refine P_lsw (off := 91) (tgt := 119) dX5_isAllowed_28 (by decide) (by rw [vsw_int c28_3 (by decide)]; rfl) (by decide) ?_
          exact absurd hD (by rw [mdgs_2 (Or.inr (Or.inr c28_3))]; decide)
        refine P_lsw (off := 103) (tgt := 131) dX5_isAllowed_28 (by decide) (by show Op.lookupswitch.offset [(99, 46), (109, 44), (112, 79), (116, 91)] (103) (nI (t s)).toInt = (103); rw [nI_toInt (by have := (ht.2.2 s hs).2; omega), Op.lookupswitch.offset_cons, if_neg (by omega), Op.lookupswitch.offset_cons, if_neg (by omega), Op.lookupswitch.offset_cons, if_neg (by omega), Op.lookupswitch.offset_cons, if_neg (by omega), Op.lookupswitch.offset_nil]) (by decide) ?_
        exact absurd hD (fun q => by unfold mdgs at q; split at q; (· exact absurd q (by decide)); split at q; (· exact absurd q (by decide)); exact absurd q (by decide))
      · exact absurd c18 (by have := hd.2; omega)
  · generalize msg t n (s + 3) - nI 48 = x9 at hx ⊢
    refine P_istore_n (ls2 := [some (.ref (p)), some (.int (nI (s))), some (.int (nI (3))), some (.int (x9))]) dX5_isAllowed_10 rfl (by decide) rfl ?_
    refine P_iload_n dX5_isAllowed_11 rfl rfl ?_
    refine P_if_lt (tgt := 21) dX5_isAllowed_12 (by decide) (fun c12 => ?_) (fun c12 => ?_)
    · refine P_iconst (v := nI 0) dX5_isAllowed_21 (by decide) ?_
      refine P_zret dX5_isAllowed_22 rfl (by decide) ?_
      exact q_f (by unfold mal3; rw [decide_eq_false hd]; rfl)
    · refine P_iload_n dX5_isAllowed_15 rfl rfl ?_
      refine P_bipush (v := nI 9) dX5_isAllowed_16 (by decide) ?_
      refine P_icmp_le (tgt := 23) dX5_isAllowed_18 (by decide) (fun c18 => ?_) (fun c18 => ?_)
      · exact absurd ⟨by rw [i_lt, i_0] at c12; omega, by rw [i_le, nI_toInt (by decide)] at c18; omega⟩ hx
      · refine P_iconst (v := nI 0) dX5_isAllowed_21 (by decide) ?_
        refine P_zret dX5_isAllowed_22 rfl (by decide) ?_
        exact q_f (by unfold mal3; rw [decide_eq_false hd]; rfl)

theorem c_X5_isAllowed {σ : vS} {v : vV} {p n : Nat} {t : mN} (hp : kTX σ p) (ht : mTC v p t n) {s i : Nat} (hs : s < n) (h1 : 1 ≤ i) (hi : i ≤ mdgs (t s)) (hpre : ∀ j, 1 ≤ j → j < i → mal t n s j = true) : vC M_X5_isAllowed yX5_isAllowed [.ref p, .int (nI s), .int (nI i)] (σ, v) (qP (σ, v) (.int (vb (mal t n s i)))) := by
  have h3 := mdgs_3 (ch := t s)
  rcases (by omega : i = 1 ∨ i = 2 ∨ i = 3) with rfl | rfl | rfl
  · exact c_allowed1 hp ht hs
  · exact c_allowed2 hp ht hs (mal_d (by decide) (by decide) (hpre 1 (by decide) (by decide))) hi
  · exact c_allowed3 hp ht hs (mal_d (by decide) (by decide) (hpre 1 (by decide) (by decide))) (mal_d (by decide) (by decide) (hpre 2 (by decide) (by decide))) hi

