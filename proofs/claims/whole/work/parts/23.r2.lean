
theorem mb_in {c : Nat} {m : Int32} (hc : c ≤ 6) : decide ((0 : Int64) ≤ m.toInt64 ∧ m.toInt64 ≤ (nI c - nI 1).toInt64) = mb c m := by
  unfold mb
  apply decide_eq_decide.mpr
  rw [Int64.le_iff_toInt_le, Int64.le_iff_toInt_le, Int32.toInt_toInt64, Int32.toInt_toInt64, nI_pd (by omega)]
  have : (0 : Int64).toInt = 0 := by decide
  rw [this]; omega
theorem mb_nat {c : Nat} {m : Int32} (hc : c ≤ 6) (h : mb c m = true) : ∃ k, k < c ∧ m = nI k := by
  unfold mb at h
  obtain ⟨h1, h2⟩ := of_decide_eq_true h
  exact ⟨m.toInt.toNat, by omega, nI_of_toInt (by omega) (by omega)⟩
theorem mb_n {c k : Nat} (hk : k < 2147483648) : mb c (nI k) = decide (k < c) := by
  unfold mb
  apply decide_eq_decide.mpr
  rw [nI_toInt hk]; omega
theorem one_le_shl (c : Nat) : 1 ≤ 1 <<< c := by rw [Nat.shiftLeft_eq, Nat.one_mul]; exact Nat.one_le_two_pow
theorem mset_in {c : Nat} {s : Int32} (hc : c ≤ 6) : ((0 : Int64) ≤ s.toInt64 ∧ s.toInt64 ≤ (nI (1 <<< c - 1)).toInt64) ↔ (0 ≤ s.toInt ∧ s.toInt < 2 ^ c) := by
  have h9 : ∀ c, c ≤ 6 → 1 <<< c - 1 < 2147483648 ∧ 1 <<< c - 1 + 1 = 2 ^ c := by decide
  obtain ⟨g1, g2⟩ := h9 c hc
  rw [Int64.le_iff_toInt_le, Int64.le_iff_toInt_le, Int32.toInt_toInt64, Int32.toInt_toInt64, nI_toInt g1]
  have : (0 : Int64).toInt = 0 := by decide
  have e : ((2 : Int) ^ c) = ((2 ^ c : Nat) : Int) := by norm_cast
  rw [this, e]; omega
theorem mset_f {c m : Nat} {s : Int32} (hc : c ≤ 6) (h : decide ((0 : Int64) ≤ s.toInt64 ∧ s.toInt64 ≤ (nI (1 <<< c - 1)).toInt64) = false) : mset c m s = false := by
  unfold mset
  rw [decide_eq_false (fun q => absurd ((mset_in hc).mpr q) (of_decide_eq_false h))]; rfl
theorem set_nat {c : Nat} {s : Int32} (hc : c ≤ 6) (h : decide ((0 : Int64) ≤ s.toInt64 ∧ s.toInt64 ≤ (nI (1 <<< c - 1)).toInt64) = true) : ∃ k, k < 2 ^ c ∧ s = nI k := by
  obtain ⟨h1, h2⟩ := (mset_in hc).mp (of_decide_eq_true h)
  have h9 : ∀ c, c ≤ 6 → 2 ^ c ≤ 64 := by decide
  have := h9 c hc
  have e : ((2 : Int) ^ c) = ((2 ^ c : Nat) : Int) := by norm_cast
  rw [e] at h2
  exact ⟨s.toInt.toNat, by omega, nI_of_toInt (by omega) (by omega)⟩
theorem mset_n {c m k : Nat} (hk : k < 2147483648) : mset c m (nI k) = (decide (k < 2 ^ c) && k.testBit m) := by
  unfold mset
  have e : ((2 : Int) ^ c) = ((2 ^ c : Nat) : Int) := by norm_cast
  rw [nI_toInt hk, e]
  congr 1
  apply decide_eq_decide.mpr
  omega
theorem two_c {c : Nat} (hc : c ≤ 6) : 2 ^ c ≤ 64 := by
  have h9 : ∀ c, c ≤ 6 → 2 ^ c ≤ 64 := by decide
  exact h9 c hc
theorem far_p : ∀ a, a < 10 → ∀ d, d < 10 → 0 ≤ nI a - nI d → nI a - nI d + nI 1 = nI (a - d + (d - a) + 1) := by decide +kernel
theorem far_m : ∀ a, a < 10 → ∀ d, d < 10 → ¬ 0 ≤ nI a - nI d → -(nI a - nI d) + nI 1 = nI (a - d + (d - a) + 1) := by decide +kernel
def mgone (c : Nat) (S : mS) (m : Int32) : Bool := mb c m && decide (gM S m.toInt.toNat 1 = 2)
theorem mgone_n {c k : Nat} {S : mS} (hk : k < c) (hc : c ≤ 6) : mgone c S (nI k) = decide (gM S k 1 = 2) := by
  unfold mgone
  rw [mb_n (by omega), decide_eq_true hk, nI_toInt (by omega)]; rfl
theorem mgone_f {c : Nat} {S : mS} {m : Int32} (h : mb c m = false) : mgone c S m = false := by unfold mgone; rw [h]; rfl
set_option maxHeartbeats 4000000 in
set_option maxRecDepth 100000 in
theorem c_X7_isMember {σ : vS} {v : vV} {c r : Nat} {S : mS} {m : Int32} (hr : vK σ r 8 2012) (hR : RR c v r S) : vC M_X7_isMember yX7_isMember [.ref (r), .int (m)] (σ, v) (qP (σ, v) (.int (vb (mb c m)))) := by
  have hc6 := hR.c6
  refine vC_of (ls := [some (.ref (r)), some (.int (m))]) pn_X7 rfl rfl (Nat.le_of_ble_eq_true rfl) rfl ?_
  refine P_iload_n dX7_isMember_0 rfl rfl ?_
  refine P_i2l dX7_isMember_1 ?_
  refine P_lconst (v := 0) dX7_isMember_2 (by decide) ?_
  refine P_aload_n dX7_isMember_3 rfl rfl ?_
  refine P_iconst (v := nI 0) dX7_isMember_4 (by decide) ?_
  refine P_ialdN (0) dX7_isMember_5 hr rfl (by omega) (by decide) hR.cc ?_
  refine P_iconst (v := nI 1) dX7_isMember_6 (by decide) ?_
  refine P_isub dX7_isMember_7 ?_
  refine P_i2l dX7_isMember_8 ?_
  refine P_cSp (rest := []) (As := [.long ((m).toInt64), .long ((0)), .long (((nI (c) - nI (1))).toInt64)]) dX7_isMember_9 lX7_40 yk_X7_in ys_X7_in (by decide) rfl rfl (Nat.le_of_ble_eq_true rfl) rfl (c_X7_in _ _ _) ?_
  refine P_zret dX7_isMember_12 rfl (vb_nar _) ?_
  exact q_b (mb_in hc6)
set_option maxHeartbeats 4000000 in
set_option maxRecDepth 100000 in
theorem c_X7_isSet {σ : vS} {v : vV} {c r : Nat} {S : mS} {m : Nat} {s : Int32} (hr : vK σ r 8 2012) (hR : RR c v r S) (hm : m < 32) : vC M_X7_isSet yX7_isSet [.ref (r), .int (nI (m)), .int (s)] (σ, v) (qP (σ, v) (.int (vb (mset c m s)))) := by
  have hc6 := hR.c6
  refine vC_of (ls := [some (.ref (r)), some (.int (nI (m))), some (.int (s))]) pn_X7 rfl rfl (Nat.le_of_ble_eq_true rfl) rfl ?_
  refine P_iload_n dX7_isSet_0 rfl rfl ?_
  refine P_i2l dX7_isSet_1 ?_
  refine P_lconst (v := 0) dX7_isSet_2 (by decide) ?_
  refine P_iconst (v := nI 1) dX7_isSet_3 (by decide) ?_
  refine P_aload_n dX7_isSet_4 rfl rfl ?_
  refine P_iconst (v := nI 0) dX7_isSet_5 (by decide) ?_
  refine P_ialdN (0) dX7_isSet_6 hr rfl (by omega) (by decide) hR.cc ?_
  refine P_ishlN dX7_isSet_7 (by omega) ?_
  refine P_iconst (v := nI 1) dX7_isSet_8 (by decide) ?_
  refine P_isubN dX7_isSet_9 (by exact one_le_shl c) ?_
  refine P_i2l dX7_isSet_10 ?_
  refine P_cSp (rest := []) (As := [.long ((s).toInt64), .long ((0)), .long ((nI ((1 <<< c) - 1)).toInt64)]) dX7_isSet_11 lX7_40 yk_X7_in ys_X7_in (by decide) rfl rfl (Nat.le_of_ble_eq_true rfl) rfl (c_X7_in _ _ _) ?_
  refine P_bif_eq (tgt := 29) dX7_isSet_14 (by decide) (fun c14 => ?_) (fun c14 => ?_)
  · refine P_iconst (v := nI 0) dX7_isSet_29 (by decide) ?_
    refine P_zret dX7_isSet_30 rfl (by decide) ?_
    exact q_f (mset_f hc6 c14)
  · obtain ⟨k9, hk9, rfl⟩ := set_nat hc6 c14
    have h64 := two_c hc6
    refine P_iload_n dX7_isSet_17 rfl rfl ?_
    refine P_iload_n dX7_isSet_18 rfl rfl ?_
    refine P_cSp (rest := []) (As := [.int (nI (k9)), .int (nI (m))]) dX7_isSet_19 lX7_48 yk_X7_has ys_X7_has (by decide) rfl rfl (Nat.le_of_ble_eq_true rfl) rfl (c_X7_has (by omega) (by omega)) ?_
    refine P_bif_eq (tgt := 29) dX7_isSet_22 (by decide) (fun c22 => ?_) (fun c22 => ?_)
    · refine P_iconst (v := nI 0) dX7_isSet_29 (by decide) ?_
      refine P_zret dX7_isSet_30 rfl (by decide) ?_
      exact q_f (by rw [mset_n (by omega), c22, Bool.and_false])
    · refine P_iconst (v := nI 1) dX7_isSet_25 (by decide) ?_
      refine P_goto (tgt := 30) dX7_isSet_26 (by decide) ?_
      refine P_zret dX7_isSet_30 rfl (by decide) ?_
      exact q_t (by rw [mset_n (by omega), c22, decide_eq_true hk9]; rfl)
set_option maxHeartbeats 4000000 in
set_option maxRecDepth 100000 in
theorem c_X7_far {σ : vS} {v : vV} {c r : Nat} {S : mS} {a d B : Nat} (hr : vK σ r 8 2012) (hR : RR c v r S) (hN : NB c S B) (ha : a < c) (hd : d < c) : vC M_X7_far yX7_far [.ref (r), .int (nI (a)), .int (nI (d))] (σ, v) (qP (σ, v) (.int (nI (mfar S a d)))) := by
  have hc6 := hR.c6
  refine vC_of (ls := [some (.ref (r)), some (.int (nI (a))), some (.int (nI (d))), none]) pn_X7 rfl rfl (Nat.le_of_ble_eq_true rfl) rfl ?_
  refine P_aload_n dX7_far_0 rfl rfl ?_
  refine P_iload_n dX7_far_1 rfl rfl ?_
  refine P_iconst (v := nI 0) dX7_far_2 (by decide) ?_
  refine P_cSp (rest := []) (As := [.ref (r), .int (nI (a)), .int (nI (0))]) dX7_far_3 lX7_44 yk_X7_of ys_X7_of (by decide) rfl rfl (Nat.le_of_ble_eq_true rfl) rfl (c_X7_of hr (by omega) (by decide)) ?_
  refine P_top (y := (nI (gM S a 0))) (hR.m (by omega) (by decide)) ?_
  refine P_aload_n dX7_far_6 rfl rfl ?_
  refine P_iload_n dX7_far_7 rfl rfl ?_
  refine P_iconst (v := nI 0) dX7_far_8 (by decide) ?_
  refine P_cSp (rest := [.int (nI (gM S a 0))]) (As := [.ref (r), .int (nI (d)), .int (nI (0))]) dX7_far_9 lX7_44 yk_X7_of ys_X7_of (by decide) rfl rfl (Nat.le_of_ble_eq_true rfl) rfl (c_X7_of hr (by omega) (by decide)) ?_
  refine P_top (y := (nI (gM S d 0))) (hR.m (by omega) (by decide)) ?_
  refine P_isub dX7_far_12 ?_
  refine P_istore_n (ls2 := [some (.ref (r)), some (.int (nI (a))), some (.int (nI (d))), some (.int ((nI (gM S a 0) - nI (gM S d 0))))]) dX7_far_13 rfl (by decide) rfl ?_
  refine P_iload_n dX7_far_14 rfl rfl ?_
  refine P_if_ge (tgt := 23) dX7_far_15 (by decide) (fun c15 => ?_) (fun c15 => ?_)
  · refine P_iload_n dX7_far_23 rfl rfl ?_
    refine P_iconst (v := nI 1) dX7_far_24 (by decide) ?_
    refine P_iadd dX7_far_25 ?_
    refine P_iret dX7_far_26 rfl ?_
    exact q_i (far_p _ (by have := hN.m0 a; omega) _ (by have := hN.m0 d; omega) c15)
  · refine P_iload_n dX7_far_18 rfl rfl ?_
    refine P_ineg dX7_far_19 ?_
    refine P_goto (tgt := 24) dX7_far_20 (by decide) ?_
    refine P_iconst (v := nI 1) dX7_far_24 (by decide) ?_
    refine P_iadd dX7_far_25 ?_
    refine P_iret dX7_far_26 rfl ?_
    exact q_i (far_m _ (by have := hN.m0 a; omega) _ (by have := hN.m0 d; omega) c15)
set_option maxHeartbeats 4000000 in
set_option maxRecDepth 100000 in
theorem c_X7_isOneRoll {σ : vS} {v : vV} {c r : Nat} {S : mS} {a d B : Nat} (hr : vK σ r 8 2012) (hR : RR c v r S) (hN : NB c S B) (hB : B < 1000000000) (ha : a < c) (hd : d < c) : vC M_X7_isOneRoll yX7_isOneRoll [.ref (r), .int (nI (a)), .int (nI (d))] (σ, v) (qP (σ, v) (.int (vb (decide (gM S a 2 = gM S d 2 ∧ gM S a 3 = gM S d 3))))) := by
  have hc6 := hR.c6
  refine vC_of (ls := [some (.ref (r)), some (.int (nI (a))), some (.int (nI (d)))]) pn_X7 rfl rfl (Nat.le_of_ble_eq_true rfl) rfl ?_
  refine P_aload_n dX7_isOneRoll_0 rfl rfl ?_
  refine P_iload_n dX7_isOneRoll_1 rfl rfl ?_
  refine P_iconst (v := nI 2) dX7_isOneRoll_2 (by decide) ?_
  refine P_cSp (rest := []) (As := [.ref (r), .int (nI (a)), .int (nI (2))]) dX7_isOneRoll_3 lX7_44 yk_X7_of ys_X7_of (by decide) rfl rfl (Nat.le_of_ble_eq_true rfl) rfl (c_X7_of hr (by omega) (by decide)) ?_
  refine P_top (y := (nI (gM S a 2))) (hR.m (by omega) (by decide)) ?_
  refine P_aload_n dX7_isOneRoll_6 rfl rfl ?_
  refine P_iload_n dX7_isOneRoll_7 rfl rfl ?_
  refine P_iconst (v := nI 2) dX7_isOneRoll_8 (by decide) ?_
  refine P_cSp (rest := [.int (nI (gM S a 2))]) (As := [.ref (r), .int (nI (d)), .int (nI (2))]) dX7_isOneRoll_9 lX7_44 yk_X7_of ys_X7_of (by decide) rfl rfl (Nat.le_of_ble_eq_true rfl) rfl (c_X7_of hr (by omega) (by decide)) ?_
  refine P_top (y := (nI (gM S d 2))) (hR.m (by omega) (by decide)) ?_
  refine P_icmp_neN (tgt := 34) dX7_isOneRoll_12 (by decide) (by have := hN.m2 a; omega) (by have := hN.m2 d; omega) (fun c12 => ?_) (fun c12 => ?_)
  · refine P_iconst (v := nI 0) dX7_isOneRoll_34 (by decide) ?_
    refine P_zret dX7_isOneRoll_35 rfl (by decide) ?_
    exact q_fD (fun q => c12 q.1)
  · refine P_aload_n dX7_isOneRoll_15 rfl rfl ?_
    refine P_iload_n dX7_isOneRoll_16 rfl rfl ?_
    refine P_iconst (v := nI 3) dX7_isOneRoll_17 (by decide) ?_
    refine P_cSp (rest := []) (As := [.ref (r), .int (nI (a)), .int (nI (3))]) dX7_isOneRoll_18 lX7_44 yk_X7_of ys_X7_of (by decide) rfl rfl (Nat.le_of_ble_eq_true rfl) rfl (c_X7_of hr (by omega) (by decide)) ?_
    refine P_top (y := (nI (gM S a 3))) (hR.m (by omega) (by decide)) ?_
    refine P_aload_n dX7_isOneRoll_21 rfl rfl ?_
    refine P_iload_n dX7_isOneRoll_22 rfl rfl ?_
    refine P_iconst (v := nI 3) dX7_isOneRoll_23 (by decide) ?_
    refine P_cSp (rest := [.int (nI (gM S a 3))]) (As := [.ref (r), .int (nI (d)), .int (nI (3))]) dX7_isOneRoll_24 lX7_44 yk_X7_of ys_X7_of (by decide) rfl rfl (Nat.le_of_ble_eq_true rfl) rfl (c_X7_of hr (by omega) (by decide)) ?_
    refine P_top (y := (nI (gM S d 3))) (hR.m (by omega) (by decide)) ?_
    refine P_icmp_neN (tgt := 34) dX7_isOneRoll_27 (by decide) (by have := hN.m3 a; omega) (by have := hN.m3 d; omega) (fun c27 => ?_) (fun c27 => ?_)
    · refine P_iconst (v := nI 0) dX7_isOneRoll_34 (by decide) ?_
      refine P_zret dX7_isOneRoll_35 rfl (by decide) ?_
      exact q_fD (fun q => c27 q.2)
    · refine P_iconst (v := nI 1) dX7_isOneRoll_30 (by decide) ?_
      refine P_goto (tgt := 35) dX7_isOneRoll_31 (by decide) ?_
      refine P_zret dX7_isOneRoll_35 rfl (by decide) ?_
      exact q_tD ⟨c12, c27⟩
set_option maxHeartbeats 4000000 in
set_option maxRecDepth 100000 in
theorem c_X7_isGone {σ : vS} {v : vV} {c r : Nat} {S : mS} {m : Int32} {B : Nat} (hr : vK σ r 8 2012) (hR : RR c v r S) (hN : NB c S B) : vC M_X7_isGone yX7_isGone [.ref (r), .int (m)] (σ, v) (qP (σ, v) (.int (vb (mgone c S m)))) := by
  have hc6 := hR.c6
  refine vC_of (ls := [some (.ref (r)), some (.int (m))]) pn_X7 rfl rfl (Nat.le_of_ble_eq_true rfl) rfl ?_
  refine P_aload_n dX7_isGone_0 rfl rfl ?_
  refine P_iload_n dX7_isGone_1 rfl rfl ?_
  refine P_cSp (rest := []) (As := [.ref (r), .int (m)]) dX7_isGone_2 lX7_112 yk_X7_isMember ys_X7_isMember (by decide) rfl rfl (Nat.le_of_ble_eq_true rfl) rfl (c_X7_isMember hr hR) ?_
  refine P_bif_eq (tgt := 22) dX7_isGone_5 (by decide) (fun c5 => ?_) (fun c5 => ?_)
  · refine P_iconst (v := nI 0) dX7_isGone_22 (by decide) ?_
    refine P_zret dX7_isGone_23 rfl (by decide) ?_
    exact q_f (mgone_f c5)
  · obtain ⟨k9, hk9, rfl⟩ := mb_nat hc6 c5
    refine P_aload_n dX7_isGone_8 rfl rfl ?_
    refine P_iload_n dX7_isGone_9 rfl rfl ?_
    refine P_iconst (v := nI 1) dX7_isGone_10 (by decide) ?_
    refine P_cSp (rest := []) (As := [.ref (r), .int (nI (k9)), .int (nI (1))]) dX7_isGone_11 lX7_44 yk_X7_of ys_X7_of (by decide) rfl rfl (Nat.le_of_ble_eq_true rfl) rfl (c_X7_of hr (by omega) (by decide)) ?_
    refine P_top (y := (nI (gM S k9 1))) (hR.m (by omega) (by decide)) ?_
    refine P_iconst (v := nI 2) dX7_isGone_14 (by decide) ?_
    refine P_icmp_neN (tgt := 22) dX7_isGone_15 (by decide) (by have := hN.m1 k9; omega) (by omega) (fun c15 => ?_) (fun c15 => ?_)
    · refine P_iconst (v := nI 0) dX7_isGone_22 (by decide) ?_
      refine P_zret dX7_isGone_23 rfl (by decide) ?_
      exact q_f (by rw [mgone_n hk9 hc6]; exact decide_eq_false c15)
    · refine P_iconst (v := nI 1) dX7_isGone_18 (by decide) ?_
      refine P_goto (tgt := 23) dX7_isGone_19 (by decide) ?_
      refine P_zret dX7_isGone_23 rfl (by decide) ?_
      exact q_t (by rw [mgone_n hk9 hc6]; exact decide_eq_true c15)
