
/-- r, the check's note and two of its slots may change -/
def vO4 (v v' : vV) (r q : Nat) : Prop := (∀ m, m ≠ r → m ≠ q → m ≠ q + 7 → v' m = v m) ∧ ∀ j, j ≠ 10 → j ≠ 11 → v' q j = v q j
theorem vO4.rf {v : vV} {r q : Nat} : vO4 v v r q := ⟨fun _ _ _ _ => rfl, fun _ _ _ => rfl⟩
theorem vO4.tr {v v' v'' : vV} {r q : Nat} (h : vO4 v v' r q) (g : vO4 v' v'' r q) : vO4 v v'' r q := ⟨fun m a b c => (g.1 m a b c).trans (h.1 m a b c), fun j a b => (g.2 j a b).trans (h.2 j a b)⟩
theorem vO9.o4 {v v' : vV} {r q : Nat} (h : vO9 v v' r) (hq : r ≠ q) : vO4 v v' r q := ⟨fun m a _ _ => h m a, fun j _ _ => by rw [h q (fun e => hq e.symm)]⟩
theorem vO2.o4 {v v' : vV} {r q : Nat} (h : vO2 v v' r (q + 7)) (hq : r ≠ q) : vO4 v v' r q := ⟨fun m a _ c => h m a c, fun j _ _ => by rw [h q (fun e => hq e.symm) (by omega)]⟩
theorem vF.o4 {v v' : vV} {r q k : Nat} (h : vF v v' q k) (hk : k = 10 ∨ k = 11) : vO4 v v' r q := ⟨fun m _ b _ => funext fun j => h m j (Or.inl b), fun j a b => h q j (Or.inr (by omega))⟩
theorem vF.ne {v v' : vV} {q k m : Nat} (h : vF v v' q k) (hm : m ≠ q) : v' m = v m := funext fun j => h m j (Or.inl hm)
theorem vU_F {v : vV} {q k : Nat} {x : Int32} : vF v (vU v q k x) q k := fun m j e => vU_o e
theorem mTX.o4 {v v' : vV} {r q n : Nat} {t : mN} (h : mTX v q t n) (hO : vO4 v v' r q) (hr : r ≠ q + 1) : mTX v' q t n := h.of (hO.2 2 (by decide) (by decide)) (fun i => by rw [hO.1 (q + 1) (fun e => hr e.symm) (by omega) (by omega)])
theorem mcsay_k {c a : Nat} {S : mS} (hc : c ≤ 6) (ha : a < 6) : mcsay c S (nI a) = decide (a < c ∧ gM S a 1 = 0 ∧ gM S a 7 < 4) := by
  unfold mcsay
  rw [mb_n (by omega), nI_toInt (by omega)]
  by_cases h : a < c
  · rw [decide_eq_true h, Bool.true_and]
    exact decide_eq_decide.mpr ⟨fun q => ⟨h, q⟩, fun q => q.2⟩
  · rw [decide_eq_false h, Bool.false_and]
    exact (decide_eq_false (fun q => h q.1)).symm
theorem mset_k {c a s : Nat} (hs : s < 64) : mset c a (nI s) = (decide (s < 2 ^ c) && s.testBit a) := by
  unfold mset
  rw [nI_toInt (by omega)]
  congr 1
  refine decide_eq_decide.mpr ⟨fun q => ?_, fun q => ⟨by omega, ?_⟩⟩
  · exact_mod_cast q.2
  · exact_mod_cast q
theorem mccall_k {c a s : Nat} {S : mS} (hc : c ≤ 6) (ha : a < 6) (hs : s < 64) : mccall c S (nI a) (nI s) = decide (a < c ∧ (s < 2 ^ c ∧ s.testBit a = true) ∧ gM S a 1 ≠ 2) := by
  unfold mccall
  rw [mb_n (by omega), nI_toInt (by omega)]
  show (decide (a < c) && (mset c a (nI s) && decide (¬ gM S a 1 = 2))) = _
  rw [mset_k hs, Bool.eq_iff_iff]
  simp only [Bool.and_eq_true, decide_eq_true_iff, ne_eq, and_assoc]
theorem mgone_k {c a : Nat} {S : mS} (hc : c ≤ 6) (ha : a < 6) : mgone c S (nI a) = decide (a < c ∧ gM S a 1 = 2) := by
  unfold mgone
  rw [mb_n (by omega), nI_toInt (by omega)]
  by_cases h : a < c
  · rw [decide_eq_true h, Bool.true_and]
    exact decide_eq_decide.mpr ⟨fun q => ⟨h, q⟩, fun q => q.2⟩
  · rw [decide_eq_false h, Bool.false_and]
    exact (decide_eq_false (fun q => h q.1)).symm
theorem mcut_r {S : mS} {a d : Nat} (i : Nat) : gG (mcut S a d true) (8 + i) = if i = d then gG S (8 + d) ||| 1 <<< a else if i = a then gG S (8 + a) ||| 1 <<< d else gG S (8 + i) := by
  show (if 8 + i = 8 + d then gG S (8 + d) ||| 1 <<< a else if 8 + i = 8 + a then gG S (8 + a) ||| 1 <<< d else gG S (8 + i)) = _
  by_cases h1 : i = d
  · rw [if_pos (by omega), if_pos h1]
  · rw [if_neg (by omega), if_neg h1]
    by_cases h2 : i = a
    · rw [if_pos (by omega), if_pos h2]
    · rw [if_neg (by omega), if_neg h2]
theorem mbits_pos {s k : Nat} (h : s.testBit k = true) : ∀ n, k < n → 1 ≤ mbits s n := by
  intro n
  induction n with
  | zero => intro hk; exact absurd hk (Nat.not_lt_zero _)
  | succ n ih =>
    intro hk
    rw [mbits]
    by_cases e : k = n
    · subst e; rw [if_pos h]; omega
    · have := ih (by omega); omega
theorem msb_two {S : mS} {a d : Nat} (had : a ≠ d) (h1 : 1 ≤ mbits (gG S (8 + a)) 24) (h2 : 1 ≤ mbits (gG S (8 + d)) 24) : ∀ n, a < n → d < n → 2 ≤ msb S n := by
  have one : ∀ b, 1 ≤ mbits (gG S (8 + b)) 24 → ∀ n, b < n → 1 ≤ msb S n := by
    intro b hb n
    induction n with
    | zero => intro h; exact absurd h (Nat.not_lt_zero _)
    | succ n ih =>
      intro h
      rw [msb]
      by_cases e : b = n
      · subst e; omega
      · have := ih (by omega); omega
  intro n
  induction n with
  | zero => intro h; exact absurd h (Nat.not_lt_zero _)
  | succ n ih =>
    intro ha hd
    rw [msb]
    by_cases e : a = n
    · subst e; have := one d h2 a (by omega); omega
    · by_cases e2 : d = n
      · subst e2; have := one a h1 d (by omega); omega
      · have := ih (by omega) (by omega); omega
theorem mways_pos {S : mS} {a d : Nat} (ha : a < 6) (hd : d < 6) (had : a ≠ d) : 0 < mways (mcut S a d true) := by
  have h : 2 ≤ msb (mcut S a d true) 6 := by
    refine msb_two had (mbits_pos (k := d) ?_ 24 (by omega)) (mbits_pos (k := a) ?_ 24 (by omega)) 6 ha hd
    · rw [mcut_r, if_neg had, if_pos rfl, tb_or]; exact Or.inr rfl
    · rw [mcut_r, if_pos rfl, tb_or]; exact Or.inr rfl
  unfold mways
  omega
set_option maxHeartbeats 4000000 in
set_option maxRecDepth 100000 in
theorem c_X7_whoN {σ : vS} {v : vV} {q : Nat} (hq : LR σ q) : vC M_X7_who yX7_who [.ref (q), .int ((-1))] (σ, v) (qP (σ, v) (.int (-1))) := by
  refine vC_of (ls := [some (.ref (q)), some (.int ((-1)))]) pn_X7 rfl rfl (Nat.le_of_ble_eq_true rfl) rfl ?_
  refine P_aload_n dX7_who_0 rfl rfl ?_
  refine P_iload_n dX7_who_1 rfl rfl ?_
  refine P_iconst (v := nI 1) dX7_who_2 (by decide) ?_
  refine P_iconst (v := nI 0) dX7_who_3 (by decide) ?_
  refine P_iconst (v := nI 5) dX7_who_4 (by decide) ?_
  refine P_cVp (rest := []) (As := [.int ((-1)), .int (nI (1)), .int (nI (0)), .int (nI (5))]) dX7_who_5 lX7_141 yk_X7_figures yv_X7_figures kX7 rfl (by decide) hq.o rfl rfl (Nat.le_of_ble_eq_true rfl) rfl (c_X7_figN (by decide)) ?_
  refine P_iret dX7_who_8 rfl ?_
  exact ⟨rfl, rfl⟩
set_option maxHeartbeats 4000000 in
set_option maxRecDepth 100000 in
theorem c_X7_who {σ : vS} {v : vV} {q a9 n s : Nat} {t : mN} (hq : LR σ q) (htx : mTX v q t n) (hsp : v q 10 = nI s) (hs : s ≤ n) (ha : a9 < 2147483648) : vC M_X7_who yX7_who [.ref (q), .int (nI (a9))] (σ, v) (qS σ (some (.int (mO (mfig1 t n 0 5 0 s).1))) (fun v9 => v9 q 10 = nI (mfig1 t n 0 5 0 s).2 ∧ vF v v9 q 10)) := by
  refine vC_of (ls := [some (.ref (q)), some (.int (nI (a9)))]) pn_X7 rfl rfl (Nat.le_of_ble_eq_true rfl) rfl ?_
  refine P_aload_n dX7_who_0 rfl rfl ?_
  refine P_iload_n dX7_who_1 rfl rfl ?_
  refine P_iconst (v := nI 1) dX7_who_2 (by decide) ?_
  refine P_iconst (v := nI 0) dX7_who_3 (by decide) ?_
  refine P_iconst (v := nI 5) dX7_who_4 (by decide) ?_
  refine P_cVs (rest := []) (As := [.int (nI (a9)), .int (nI (1)), .int (nI (0)), .int (nI (5))]) dX7_who_5 lX7_141 yk_X7_figures yv_X7_figures kX7 rfl (by decide) hq.o rfl rfl (Nat.le_of_ble_eq_true rfl) rfl (c_X7_fig1 hq htx hsp hs ha (by decide) (by decide)) (fun v1 hv1 => ?_)
  refine P_iret dX7_who_8 rfl ?_
  exact q_s rfl hv1
set_option maxHeartbeats 4000000 in
set_option maxRecDepth 100000 in
theorem c_X7_done {σ : vS} {v : vV} {q o : Nat} {is : Bool} (hq : LR σ q) (ho : v q 11 = nI o) : vC M_X7_done yX7_done [.ref (q), .int (vb (is))] (σ, v) (qS σ (some (.int (nI 1))) (fun v9 => v9 q 11 = nI (if is = true then o else o + 1) ∧ vF v v9 q 11)) := by
  refine vC_of (ls := [some (.ref (q)), some (.int (vb (is)))]) pn_X7 rfl rfl (Nat.le_of_ble_eq_true rfl) rfl ?_
  refine P_aload_n dX7_done_0 rfl rfl ?_
  refine P_dup dX7_done_1 rfl ?_
  refine P_getiN (x := nI (o)) dX7_done_2 kX7 fX7_138 rfl (by decide) hq.o ho ?_
  refine P_iload_n dX7_done_5 rfl rfl ?_
  refine P_bif_eq (tgt := 13) dX7_done_6 (by decide) (fun c6 => ?_) (fun c6 => ?_)
  · refine P_iconst (v := nI 1) dX7_done_13 (by decide) ?_
    refine P_iaddN dX7_done_14 ?_
    refine P_puti dX7_done_15 kX7 fX7_138 rfl (by decide) rfl hq.o ?_
    refine P_iconst (v := nI 1) dX7_done_18 (by decide) ?_
    refine P_zret dX7_done_19 rfl (by decide) ?_
    refine q_s rfl ⟨?_, vU_F⟩
    rw [c6, if_neg Bool.false_ne_true]
    exact vU_s
  · refine P_iconst (v := nI 0) dX7_done_9 (by decide) ?_
    refine P_goto (tgt := 14) dX7_done_10 (by decide) ?_
    refine P_iaddN dX7_done_14 ?_
    refine P_puti dX7_done_15 kX7 fX7_138 rfl (by decide) rfl hq.o ?_
    refine P_iconst (v := nI 1) dX7_done_18 (by decide) ?_
    refine P_zret dX7_done_19 rfl (by decide) ?_
    refine q_s rfl ⟨?_, vU_F⟩
    rw [c6, if_pos rfl]
    exact vU_s
