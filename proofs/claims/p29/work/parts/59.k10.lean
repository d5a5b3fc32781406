
/-- where a text is wrong, from s on -/
def merr (t : mN) (n : Nat) : Nat → Nat → Option Nat
  | 0, _ => none
  | f + 1, s => if s < n then (mparse t n s).1.elim (some (mparse t n s).2) (fun _ => merr t n f (mparse t n s).2) else none
theorem mgo_err {t : mN} {n : Nat} : ∀ (f s : Nat) (X : mC) (o : Nat), (mgo t n f s X o).1 = merr t n f s := by
  intro f
  induction f with
  | zero => intro s X o; rfl
  | succ f ih =>
    intro s X o
    rw [mgo, merr]
    split
    · cases h : (mparse t n s).1 with
      | none => rfl
      | some p => exact ih _ _ _
    · rfl
def mfe (t : mN) (n : Nat) : Option Nat := (mtext t n).1
theorem mfe_0 {t : mN} {n : Nat} (h : n = 0 ∨ t 0 ≠ 82) : mfe t n = some 0 := by unfold mfe mtext; rw [if_pos h]
theorem mfe_1 {t : mN} {n : Nat} (h : ¬ (n = 0 ∨ t 0 ≠ 82)) : mfe t n = merr t n n 1 := by unfold mfe mtext; rw [if_neg h]; exact mgo_err _ _ _ _
theorem merr_out {t : mN} {n f s : Nat} (h : n ≤ s) : merr t n f s = none := by
  cases f with
  | zero => rfl
  | succ f => rw [merr, if_neg (by omega)]
theorem merr_bad {t : mN} {n f s k : Nat} (hs : s < n) (h : mparse t n s = (none, k)) : merr t n (f + 1) s = some k := by rw [merr, if_pos hs, h]; rfl
theorem merr_good {t : mN} {n f s k : Nat} {p : Nat × Nat} (hs : s < n) (h : mparse t n s = (some p, k)) : merr t n (f + 1) s = merr t n f k := by rw [merr, if_pos hs, h]; rfl
theorem mal_n {t : mN} {n s : Nat} (hj : 0 < mdgs (t s)) (hp : ∀ i, 1 ≤ i → i ≤ mdgs (t s) → mal t n s i = true) : s + mdgs (t s) < n := (mal_d (i := mdgs (t s)) hj mdgs_3 (hp _ hj (Nat.le_refl _))).1
/-- what may be there: a command that is wrong at some sign, none, or a good one -/
theorem parse_any {t : mN} {n s : Nat} (hs : s < n) : (∃ k, mparse t n s = (none, k)) ∨ (0 < mdgs (t s) ∧ ∀ i, 1 ≤ i → i ≤ mdgs (t s) → mal t n s i = true) := by
  by_cases h0 : mdgs (t s) = 0
  · exact Or.inl ⟨s, parse_zero h0⟩
  · have : ∀ d, d ≤ mdgs (t s) → (∃ k, mparse t n s = (none, k)) ∨ ∀ i, 1 ≤ i → i ≤ d → mal t n s i = true := by
      intro d
      induction d with
      | zero => intro _; exact Or.inr (fun i a b => absurd b (by omega))
      | succ d ih =>
        intro hd
        rcases ih (by omega) with h | h
        · exact Or.inl h
        · cases g : mal t n s (d + 1) with
          | false => exact Or.inl ⟨_, parse_bad (by omega) hd (fun i a b => h i a (by omega)) g⟩
          | true =>
            refine Or.inr (fun i a b => ?_)
            by_cases e : i = d + 1
            · rw [e]; exact g
            · exact h i a (by omega)
    rcases this _ (Nat.le_refl _) with h | h
    · exact Or.inl h
    · exact Or.inr ⟨by omega, h⟩
theorem i82 {t : mN} {n : Nat} (h : ∀ i, i < n → t i < 256) : msg t n 0 = nI 82 ↔ ¬ (n = 0 ∨ t 0 ≠ 82) := by
  unfold msg
  by_cases g : 0 < n
  · rw [if_pos g, nI_eq (by have := h 0 g; omega) (by decide)]
    omega
  · rw [if_neg g]
    constructor
    · intro q; exact absurd q (by decide)
    · intro q; exact absurd (Or.inl (by omega)) q
/-- every command of a text, by its letter -/
theorem c_car_all {σ : vS} {v : vV} {c b : Nat} {S : mS} {ch a d : Nat} {y : Int32} (hq : kLC σ b) (hC : CR c v b S) {B : Nat} (hN : NB c S B) (hB : B + 100000 < 1000000000) (hI : Iv c 1 S) (hch : 0 < mdgs ch) (ha : a < 100) (hm : ch = 109 → a ≤ 9) (hp : ch = 112 → a ≤ 40) (htk : ch = 116 → 1 ≤ a ∧ a ≤ 60) (hy : ch = 99 ∨ ch = 120 → y = nI d ∧ d < 1000) : vC M_X0_carryOut yX0_carryOut [.ref b, .int (nI ch), .int (nI a), .int y] (σ, v) (qS σ (some (.int (vb (mexec ch a d (c, S)).1))) (carP v b (mexec ch a d (c, S)))) := by
  rcases mdgs_c hch with e | e | e | e | e | e | e | e
  · rw [mx_m e, e]; exact c_car_m (hm e) hq hC hN hB hI
  · rw [mx_s e, e]; exact c_car_s (by omega) hq hC hN hB hI
  · rw [mx_g e, e]; exact c_car_g (by omega) hq hC hN hB hI
  · rw [mx_b e, e]; exact c_car_b (by omega) hq hC hN hB hI
  · obtain ⟨rfl, hd⟩ := hy (Or.inr e)
    rw [mx_x e, e]; exact c_car_x (by omega) hd hq hC hN hB hI
  · rw [mx_p e, e]; exact c_car_p (hp e) hq hC hN hB hI
  · have h9 : kTk (c, S) a = kTicks (c, S) a := if_pos (htk e)
    rw [mx_t e, e, ← h9]; exact c_car_t (by omega) hq hC hN hB hI
  · obtain ⟨rfl, hd⟩ := hy (Or.inl e)
    rw [mx_c e, e]; exact c_car_c (by omega) (by omega) hq hC hN hB hI
theorem num_b {t : mN} {n s : Nat} (hs : s < n) (hj : 0 < mdgs (t s)) (hp : ∀ i, 1 ≤ i → i ≤ mdgs (t s) → mal t n s i = true) : mnum1 t s < 100 ∧ (t s = 109 → mnum1 t s ≤ 9) ∧ (t s = 112 → mnum1 t s ≤ 40) ∧ (t s = 116 → 1 ≤ mnum1 t s ∧ mnum1 t s ≤ 60) ∧ mnum2 t s < 100 := by
  have d1 := mal_d (by decide) (by decide) (hp 1 (by decide) hj)
  unfold mnum1 mnum2
  rcases mdgs_c hj with e | e | e | e | e | e | e | e
  · rw [if_neg (by omega), if_neg (by omega), if_neg (by omega)]; omega
  · rw [if_neg (by omega), if_neg (by omega), if_neg (by omega)]; omega
  · rw [if_neg (by omega), if_neg (by omega), if_neg (by omega)]; omega
  · rw [if_neg (by omega), if_neg (by omega), if_neg (by omega)]; omega
  · rw [mdgs_2 (Or.inl e)] at hp
    have d2 := mal_d (by decide) (by decide) (hp 2 (by decide) (by decide))
    rw [if_neg (by omega), if_neg (by omega), if_pos e]; omega
  · rw [mdgs_2 (Or.inr (Or.inl e))] at hp
    have g2 := a1_yes (m2_p e) (hp 2 (by decide) (by decide))
    rw [if_pos (by omega), if_neg (by omega), if_neg (by omega)]; omega
  · rw [mdgs_2 (Or.inr (Or.inr e))] at hp
    have g2 := a1_yes (m2_t e) (hp 2 (by decide) (by decide))
    rw [if_pos (by omega), if_neg (by omega), if_neg (by omega)]; omega
  · rw [mdgs_99 e] at hp
    have g3 := a1_yes (m3_c (t := t) (n := n) (s := s)) (hp 3 (by decide) (by decide))
    rw [if_neg (by omega), if_pos e]; omega
set_option maxHeartbeats 4000000 in
set_option maxRecDepth 100000 in
theorem c_X5_firstNumber {σ : vS} {v : vV} {p n : Nat} {t : mN} (hp : kTX σ p) (ht : mTC v p t n) {s : Nat} (hs : s < n) (hj : 0 < mdgs (t s)) (hg : ∀ i, 1 ≤ i → i ≤ mdgs (t s) → mal t n s i = true) : vC M_X5_firstNumber yX5_firstNumber [.ref (p), .int (nI (s))] (σ, v) (qP (σ, v) (.int (nI (mnum1 t s)))) := by
  have hn := ht.1
  have d1 := mal_d (i := 1) (by decide) (by decide) (hg 1 (by decide) hj)
  refine vC_of (ls := [some (.ref (p)), some (.int (nI (s))), none]) pn_X5 rfl rfl (Nat.le_of_ble_eq_true rfl) rfl ?_
  refine P_aload_n dX5_firstNumber_0 rfl rfl ?_
  refine P_iload_n dX5_firstNumber_1 rfl rfl ?_
  refine P_cVp (rest := []) (As := [.int (nI (s))]) dX5_firstNumber_2 lX5_19 yk_X5_signAt yv_X5_signAt kX5 rfl (by decide) hp.1 rfl rfl (Nat.le_of_ble_eq_true rfl) rfl (c_X5_signAt hp ht (by omega)) ?_
  refine P_top (y := nI (t s)) (msg_t hs) ?_
  refine P_istore_n (ls2 := [some (.ref (p)), some (.int (nI (s))), some (.int (nI (t s)))]) dX5_firstNumber_5 rfl (by decide) rfl ?_
  refine P_iload_n dX5_firstNumber_6 rfl rfl ?_
  refine P_bipush (v := nI 112) dX5_firstNumber_7 (by decide) ?_
  refine P_icmp_eqN (tgt := 18) dX5_firstNumber_9 (by decide) (by have := (ht.2.2 s hs).2; omega) (by have := (ht.2.2 s hs).2; omega) (fun c9 => ?_) (fun c9 => ?_)
  · refine P_aload_n dX5_firstNumber_18 rfl rfl ?_
    refine P_iload_n dX5_firstNumber_19 rfl rfl ?_
    refine P_iconst (v := nI 1) dX5_firstNumber_20 (by decide) ?_
    refine P_iaddN dX5_firstNumber_21 ?_
    refine P_cVp (rest := []) (As := [.int (nI (s + 1))]) dX5_firstNumber_22 lX5_34 yk_X5_twoDigits yv_X5_twoDigits kX5 rfl (by decide) hp.1 rfl rfl (Nat.le_of_ble_eq_true rfl) rfl (c_X5_twoDigits hp ht (by omega) d1 (mal_d (i := 2) (by decide) (by decide) (hg 2 (by decide) (by rw [mdgs_2 (by omega)]; decide)))) ?_
    refine P_goto (tgt := 38) dX5_firstNumber_25 (by decide) ?_
    refine P_iret dX5_firstNumber_38 rfl ?_
    exact q_n (by unfold mnum1; rw [if_pos (by omega)])
  · refine P_iload_n dX5_firstNumber_12 rfl rfl ?_
    refine P_bipush (v := nI 116) dX5_firstNumber_13 (by decide) ?_
    refine P_icmp_neN (tgt := 28) dX5_firstNumber_15 (by decide) (by have := (ht.2.2 s hs).2; omega) (by have := (ht.2.2 s hs).2; omega) (fun c15 => ?_) (fun c15 => ?_)
    · refine P_aload_n dX5_firstNumber_28 rfl rfl ?_
      refine P_iload_n dX5_firstNumber_29 rfl rfl ?_
      refine P_iconst (v := nI 1) dX5_firstNumber_30 (by decide) ?_
      refine P_iaddN dX5_firstNumber_31 ?_
      refine P_cVp (rest := []) (As := [.int (nI (s + 1))]) dX5_firstNumber_32 lX5_19 yk_X5_signAt yv_X5_signAt kX5 rfl (by decide) hp.1 rfl rfl (Nat.le_of_ble_eq_true rfl) rfl (c_X5_signAt hp ht (by omega)) ?_
      refine P_top (y := nI (t (s + 1))) (msg_t d1.1) ?_
      refine P_bipush (v := nI 48) dX5_firstNumber_35 (by decide) ?_
      refine P_isubN dX5_firstNumber_37 (by have := d1.2.1; omega) ?_
      refine P_iret dX5_firstNumber_38 rfl ?_
      exact q_n (by unfold mnum1; rw [if_neg (by omega)])
    · refine P_aload_n dX5_firstNumber_18 rfl rfl ?_
      refine P_iload_n dX5_firstNumber_19 rfl rfl ?_
      refine P_iconst (v := nI 1) dX5_firstNumber_20 (by decide) ?_
      refine P_iaddN dX5_firstNumber_21 ?_
      refine P_cVp (rest := []) (As := [.int (nI (s + 1))]) dX5_firstNumber_22 lX5_34 yk_X5_twoDigits yv_X5_twoDigits kX5 rfl (by decide) hp.1 rfl rfl (Nat.le_of_ble_eq_true rfl) rfl (c_X5_twoDigits hp ht (by omega) d1 (mal_d (i := 2) (by decide) (by decide) (hg 2 (by decide) (by rw [mdgs_2 (by omega)]; decide)))) ?_
      refine P_goto (tgt := 38) dX5_firstNumber_25 (by decide) ?_
      refine P_iret dX5_firstNumber_38 rfl ?_
      exact q_n (by unfold mnum1; rw [if_pos (by omega)])
set_option maxHeartbeats 4000000 in
set_option maxRecDepth 100000 in
theorem c_second_c {σ : vS} {v : vV} {p n : Nat} {t : mN} (hp : kTX σ p) (ht : mTC v p t n) {s : Nat} (hs : s < n) (hj : 0 < mdgs (t s)) (hg : ∀ i, 1 ≤ i → i ≤ mdgs (t s) → mal t n s i = true) (hc : t s = 99) : vC M_X5_secondNumber yX5_secondNumber [.ref (p), .int (nI (s))] (σ, v) (qP (σ, v) (.int (nI (mnum2 t s)))) := by
  have hn := ht.1
  refine vC_of (ls := [some (.ref (p)), some (.int (nI (s)))]) pn_X5 rfl rfl (Nat.le_of_ble_eq_true rfl) rfl ?_
  refine P_aload_n dX5_secondNumber_0 rfl rfl ?_
  refine P_iload_n dX5_secondNumber_1 rfl rfl ?_
  refine P_cVp (rest := []) (As := [.int (nI (s))]) dX5_secondNumber_2 lX5_19 yk_X5_signAt yv_X5_signAt kX5 rfl (by decide) hp.1 rfl rfl (Nat.le_of_ble_eq_true rfl) rfl (c_X5_signAt hp ht (by omega)) ?_
  refine P_top (y := nI (t s)) (msg_t hs) ?_
  refine P_bipush (v := nI 99) dX5_secondNumber_5 (by decide) ?_
  refine P_icmp_neN (tgt := 20) dX5_secondNumber_7 (by decide) (by have := (ht.2.2 s hs).2; omega) (by have := (ht.2.2 s hs).2; omega) (fun c7 => ?_) (fun c7 => ?_)
  · exact absurd hc c7
  · refine P_aload_n dX5_secondNumber_10 rfl rfl ?_
    refine P_iload_n dX5_secondNumber_11 rfl rfl ?_
    refine P_iconst (v := nI 2) dX5_secondNumber_12 (by decide) ?_
    refine P_iaddN dX5_secondNumber_13 ?_
    refine P_cVp (rest := []) (As := [.int (nI (s + 2))]) dX5_secondNumber_14 lX5_34 yk_X5_twoDigits yv_X5_twoDigits kX5 rfl (by decide) hp.1 rfl rfl (Nat.le_of_ble_eq_true rfl) rfl (c_X5_twoDigits hp ht (by omega) (mal_d (i := 2) (by decide) (by decide) (hg 2 (by decide) (by rw [mdgs_99 hc]; decide))) (mal_d (i := 3) (by decide) (by decide) (hg 3 (by decide) (by rw [mdgs_99 hc]; decide)))) ?_
    refine P_goto (tgt := 30) dX5_secondNumber_17 (by decide) ?_
    refine P_iret dX5_secondNumber_30 rfl ?_
    exact q_n (by unfold mnum2; rw [if_pos hc])
set_option maxHeartbeats 4000000 in
set_option maxRecDepth 100000 in
theorem c_second_o {σ : vS} {v : vV} {p n : Nat} {t : mN} (hp : kTX σ p) (ht : mTC v p t n) {s : Nat} (hs : s < n) (hc : t s ≠ 99) : vC M_X5_secondNumber yX5_secondNumber [.ref (p), .int (nI (s))] (σ, v) (qP (σ, v) (.int (msg t n (s + 2) - nI 48))) := by
  have hn := ht.1
  refine vC_of (ls := [some (.ref (p)), some (.int (nI (s)))]) pn_X5 rfl rfl (Nat.le_of_ble_eq_true rfl) rfl ?_
  refine P_aload_n dX5_secondNumber_0 rfl rfl ?_
  refine P_iload_n dX5_secondNumber_1 rfl rfl ?_
  refine P_cVp (rest := []) (As := [.int (nI (s))]) dX5_secondNumber_2 lX5_19 yk_X5_signAt yv_X5_signAt kX5 rfl (by decide) hp.1 rfl rfl (Nat.le_of_ble_eq_true rfl) rfl (c_X5_signAt hp ht (by omega)) ?_
  refine P_top (y := nI (t s)) (msg_t hs) ?_
  refine P_bipush (v := nI 99) dX5_secondNumber_5 (by decide) ?_
  refine P_icmp_neN (tgt := 20) dX5_secondNumber_7 (by decide) (by have := (ht.2.2 s hs).2; omega) (by have := (ht.2.2 s hs).2; omega) (fun c7 => ?_) (fun c7 => ?_)
  · refine P_aload_n dX5_secondNumber_20 rfl rfl ?_
    refine P_iload_n dX5_secondNumber_21 rfl rfl ?_
    refine P_iconst (v := nI 2) dX5_secondNumber_22 (by decide) ?_
    refine P_iaddN dX5_secondNumber_23 ?_
    refine P_cVp (rest := []) (As := [.int (nI (s + 2))]) dX5_secondNumber_24 lX5_19 yk_X5_signAt yv_X5_signAt kX5 rfl (by decide) hp.1 rfl rfl (Nat.le_of_ble_eq_true rfl) rfl (c_X5_signAt hp ht (by omega)) ?_
    refine P_bipush (v := nI 48) dX5_secondNumber_27 (by decide) ?_
    refine P_isub dX5_secondNumber_29 ?_
    refine P_iret dX5_secondNumber_30 rfl ?_
    exact q_i rfl
  · exact absurd c7 hc
set_option maxHeartbeats 4000000 in
set_option maxRecDepth 100000 in
theorem c_X5_firstError {σ : vS} {v : vV} {p n : Nat} {t : mN} (hp : kTX σ p) (ht : mTC v p t n) : vC M_X5_firstError yX5_firstError [.ref (p)] (σ, v) (qP (σ, v) (.int (mO (mfe t n)))) := by
  have hn := ht.1
  refine vC_of (ls := [some (.ref (p)), none, none, none]) pn_X5 rfl rfl (Nat.le_of_ble_eq_true rfl) rfl ?_
  refine P_aload_n dX5_firstError_0 rfl rfl ?_
  refine P_iconst (v := nI 0) dX5_firstError_1 (by decide) ?_
  refine P_cVp (rest := []) (As := [.int (nI (0))]) dX5_firstError_2 lX5_19 yk_X5_signAt yv_X5_signAt kX5 rfl (by decide) hp.1 rfl rfl (Nat.le_of_ble_eq_true rfl) rfl (c_X5_signAt hp ht (by omega)) ?_
  refine P_bipush (v := nI 82) dX5_firstError_5 (by decide) ?_
  refine P_icmp_eq (tgt := 12) dX5_firstError_7 (by decide) (fun c7 => ?_) (fun c7 => ?_)
  · have hz := (i82 (fun i hi => (ht.2.2 i hi).2)).mp c7
    refine P_iconst (v := nI 1) dX5_firstError_12 (by decide) ?_
    refine P_istore_n (ls2 := [some (.ref (p)), some (.int (nI (1))), none, none]) dX5_firstError_13 rfl (by decide) rfl ?_
    have hL14 : ∀ (n14 : Nat) (s : Nat), (1 ≤ s) → (s ≤ n) → (n < s + n14) → (merr t n n14 s = mfe t n) → vP M_X5_firstError 14 [some (.ref (p)), some (.int (nI (s))), none, none] [] ((vRm M_X5_firstError).cells, (vRm M_X5_firstError).slots) (σ, v) (vN (qP (σ, v) (.int (mO (mfe t n))))) := by
      intro n14
      induction n14 with
      | zero =>
        intro s h1 h3 h2 he
        refine P_iload_n dX5_firstError_14 rfl rfl ?_
        refine P_aload_n dX5_firstError_15 rfl rfl ?_
        refine P_getiN (x := nI (n)) dX5_firstError_16 kX5 fX5_15 rfl (by decide) hp.1 ht.2.1 ?_
        refine P_icmp_geN (tgt := 73) dX5_firstError_19 (by decide) (by omega) (by omega) (fun c19 => ?_) (fun c19 => absurd h2 (by omega))
        refine P_iconst (v := -1) dX5_firstError_73 (by decide) ?_
        refine P_iret dX5_firstError_74 rfl ?_
        exact q_i (by rw [← he]; rfl)
      | succ n14 ih14 =>
        intro s h1 h3 h2 he
        refine P_iload_n dX5_firstError_14 rfl rfl ?_
        refine P_aload_n dX5_firstError_15 rfl rfl ?_
        refine P_getiN (x := nI (n)) dX5_firstError_16 kX5 fX5_15 rfl (by decide) hp.1 ht.2.1 ?_
        refine P_icmp_geN (tgt := 73) dX5_firstError_19 (by decide) (by first | omega | (have := ht.1; omega)) (by first | omega | (have := ht.1; omega)) (fun c19 => ?_) (fun c19 => ?_)
        · refine P_iconst (v := -1) dX5_firstError_73 (by decide) ?_
          refine P_iret dX5_firstError_74 rfl ?_
          exact q_i (by rw [← he, merr_out (by omega)]; rfl)
        · refine P_aload_n dX5_firstError_22 rfl rfl ?_
          refine P_iload_n dX5_firstError_23 rfl rfl ?_
          refine P_cVp (rest := []) (As := [.int (nI (s))]) dX5_firstError_24 lX5_23 yk_X5_digitsBehind yv_X5_digitsBehind kX5 rfl (by decide) hp.1 rfl rfl (Nat.le_of_ble_eq_true rfl) rfl (c_X5_digitsBehind hp ht (by omega)) ?_
          refine P_istore_n (ls2 := [some (.ref (p)), some (.int (nI (s))), some (.int (nI (mdgs (t s)))), none]) dX5_firstError_27 rfl (by decide) rfl ?_
          refine P_iload_n dX5_firstError_28 rfl rfl ?_
          refine P_if_neN (tgt := 34) dX5_firstError_29 (by decide) (by have := mdgs_3 (ch := t s); omega) (fun c29 => ?_) (fun c29 => ?_)
          · refine P_iconst (v := nI 1) dX5_firstError_34 (by decide) ?_
            refine P_istore_n (ls2 := [some (.ref (p)), some (.int (nI (s))), some (.int (nI (mdgs (t s)))), some (.int (nI (1)))]) dX5_firstError_35 rfl (by decide) rfl ?_
            have hL36 : ∀ (n36 : Nat) (j : Nat), (1 ≤ j) → (j ≤ mdgs (t s) + 1) → (j + n36 = mdgs (t s) + 2) → (∀ i, 1 ≤ i → i < j → mal t n s i = true) → vP M_X5_firstError 36 [some (.ref (p)), some (.int (nI (s))), some (.int (nI (mdgs (t s)))), some (.int (nI (j)))] [] ((vRm M_X5_firstError).cells, (vRm M_X5_firstError).slots) (σ, v) (vN (qP (σ, v) (.int (mO (mfe t n))))) := by
              intro n36
              induction n36 with
              | zero =>
                intro j j0 j1 j2 hpre
                exact absurd j2 (by omega)
              | succ n36 ih36 =>
                intro j j0 j1 j2 hpre
                refine P_iload_n dX5_firstError_36 rfl rfl ?_
                refine P_iload_n dX5_firstError_37 rfl rfl ?_
                refine P_icmp_gtN (tgt := 60) dX5_firstError_38 (by decide) (by have := mdgs_3 (ch := t s); omega) (by have := mdgs_3 (ch := t s); omega) (fun c38 => ?_) (fun c38 => ?_)
                · have hgood : ∀ i, 1 ≤ i → i ≤ mdgs (t s) → mal t n s i = true := fun i a b => hpre i a (by omega)
                  have hlt := mal_n (by omega) hgood
                  have hpg := parse_good (by omega) hgood
                  refine P_iload_n dX5_firstError_60 rfl rfl ?_
                  refine P_iconst (v := nI 1) dX5_firstError_61 (by decide) ?_
                  refine P_aload_n dX5_firstError_62 rfl rfl ?_
                  refine P_iload_n dX5_firstError_63 rfl rfl ?_
                  refine P_cVp (rest := [.int (nI (1)), .int (nI (s))]) (As := [.int (nI (s))]) dX5_firstError_64 lX5_23 yk_X5_digitsBehind yv_X5_digitsBehind kX5 rfl (by decide) hp.1 rfl rfl (Nat.le_of_ble_eq_true rfl) rfl (c_X5_digitsBehind hp ht (by omega)) ?_
                  refine P_iaddN dX5_firstError_67 ?_
                  refine P_iaddN dX5_firstError_68 ?_
                  refine P_istore_n (ls2 := [some (.ref (p)), some (.int (nI (s + (1 + (mdgs (t s)))))), some (.int (nI (mdgs (t s)))), some (.int (nI (j)))]) dX5_firstError_69 rfl (by decide) rfl ?_
                  refine P_goto (tgt := 14) dX5_firstError_70 (by decide) ?_
                  refine P_weak (ls2 := [some (.ref (p)), some (.int (nI (s + (1 + (mdgs (t s)))))), none, none]) ⟨rfl, rfl, trivial⟩ ?_
                  refine ih14 (s + (1 + mdgs (t s))) (by omega) (by omega) (by omega) ?_
                  rw [← he, merr_good (by omega) hpg, show s + 1 + mdgs (t s) = s + (1 + mdgs (t s)) by omega]
                · refine P_aload_n dX5_firstError_41 rfl rfl ?_
                  refine P_iload_n dX5_firstError_42 rfl rfl ?_
                  refine P_iload_n dX5_firstError_43 rfl rfl ?_
                  refine P_cVp (rest := []) (As := [.int (nI (s)), .int (nI (j))]) dX5_firstError_44 lX5_26 yk_X5_isAllowed yv_X5_isAllowed kX5 rfl (by decide) hp.1 rfl rfl (Nat.le_of_ble_eq_true rfl) rfl (c_X5_isAllowed hp ht (by omega) (by omega) (by omega) hpre) ?_
                  refine P_bif_ne (tgt := 54) dX5_firstError_47 (by decide) (fun c47 => ?_) (fun c47 => ?_)
                  · refine P_iinc (v := nI (j + 1)) (ls2 := [some (.ref (p)), some (.int (nI (s))), some (.int (nI (mdgs (t s)))), some (.int (nI (j + 1)))]) dX5_firstError_54 rfl (nI_inc _ 1) (by decide) rfl ?_
                    refine P_goto (tgt := 36) dX5_firstError_57 (by decide) ?_
                    exact ih36 (j + 1) (by omega) (by omega) (by omega) (fun i a b => by by_cases e : i = j; (· rw [e]; exact c47); exact hpre i a (by omega))
                  · refine P_iload_n dX5_firstError_50 rfl rfl ?_
                    refine P_iload_n dX5_firstError_51 rfl rfl ?_
                    refine P_iaddN dX5_firstError_52 ?_
                    refine P_iret dX5_firstError_53 rfl ?_
                    exact q_i (by rw [← he, merr_bad (by omega) (parse_bad (by omega) (by omega) hpre c47)]; rfl)
            exact hL36 (mdgs (t s) + 1) 1 (by omega) (by omega) (by omega) (fun i a b => absurd b (by omega))
          · refine P_iload_n dX5_firstError_32 rfl rfl ?_
            refine P_iret dX5_firstError_33 rfl ?_
            exact q_i (by rw [← he, merr_bad (by omega) (parse_zero (by omega))]; rfl)
    exact hL14 n 1 (Nat.le_refl 1) (by omega) (by omega) (mfe_1 hz).symm
  · refine P_iconst (v := nI 0) dX5_firstError_10 (by decide) ?_
    refine P_iret dX5_firstError_11 rfl ?_
    exact q_i (by rw [mfe_0 (Decidable.of_not_not (fun q => c7 ((i82 (fun i hi => (ht.2.2 i hi).2)).mpr q)))]; rfl)
set_option maxHeartbeats 4000000 in
set_option maxRecDepth 100000 in
theorem c_X5_addSign {σ : vS} {v : vV} {p n : Nat} {t : mN} (hp : kTX σ p) (ht : mTC v p t n) {c : Nat} (hc : c < 256) (hn : n < 120) : vC M_X5_addSign yX5_addSign [.ref (p), .int (nI (c))] (σ, v) (qS σ none (fun v9 => mTC v9 p (fun i => if i = n then c else t i) (n + 1) ∧ ∀ m, m ≠ p → m ≠ p + 1 → v9 m = v m)) := by
  refine vC_of (ls := [some (.ref (p)), some (.int (nI (c)))]) pn_X5 rfl rfl (Nat.le_of_ble_eq_true rfl) rfl ?_
  refine P_aload_n dX5_addSign_0 rfl rfl ?_
  refine P_getiN (x := nI (n)) dX5_addSign_1 kX5 fX5_15 rfl (by decide) hp.1 ht.2.1 ?_
  refine P_if_ltN (tgt := 36) dX5_addSign_4 (by decide) (by omega) (fun c4 => ?_) (fun c4 => ?_)
  · exact c4.elim
  · refine P_aload_n dX5_addSign_7 rfl rfl ?_
    refine P_getiN (x := nI (n)) dX5_addSign_8 kX5 fX5_15 rfl (by decide) hp.1 ht.2.1 ?_
    refine P_bipush (v := nI 120) dX5_addSign_11 (by decide) ?_
    refine P_icmp_geN (tgt := 36) dX5_addSign_13 (by decide) (by omega) (by omega) (fun c13 => ?_) (fun c13 => ?_)
    · exact absurd c13 (by omega)
    · refine P_aload_n dX5_addSign_16 rfl rfl ?_
      refine P_getr (t := p + 1) dX5_addSign_17 kX5 fX5_9 rfl (by decide) hp.1 hp.2.2 hp.2.1.1.2 ?_
      refine P_aload_n dX5_addSign_20 rfl rfl ?_
      refine P_getiN (x := nI (n)) dX5_addSign_21 kX5 fX5_15 rfl (by decide) hp.1 ht.2.1 ?_
      refine P_iload_n dX5_addSign_24 rfl rfl ?_
      refine P_iast (n) dX5_addSign_25 hp.2.1 rfl (by omega) (by decide) ?_
      refine P_aload_n dX5_addSign_26 rfl rfl ?_
      refine P_dup dX5_addSign_27 rfl ?_
      refine P_getiN (x := nI (n)) dX5_addSign_28 kX5 fX5_15 rfl (by decide) hp.1 (by rw [vU_ne (by omega)]; exact ht.2.1) ?_
      refine P_iconst (v := nI 1) dX5_addSign_31 (by decide) ?_
      refine P_iaddN dX5_addSign_32 ?_
      refine P_puti dX5_addSign_33 kX5 fX5_15 rfl (by decide) rfl hp.1 ?_
      refine P_vret dX5_addSign_36 rfl ?_
      refine q_s rfl ⟨⟨by omega, vU_s, fun i hi => ?_⟩, fun m h1 h2 => ?_⟩
      · show _ = nI (if i = n then c else t i) ∧ (if i = n then c else t i) < 256
        rw [vU_ne (by omega)]
        by_cases e : i = n
        · rw [e, vU_s, if_pos rfl]; exact ⟨rfl, hc⟩
        · rw [vU_o (Or.inr e), if_neg e]; exact ht.2.2 i (by omega)
      · rw [vU_ne h1, vU_ne h2]
