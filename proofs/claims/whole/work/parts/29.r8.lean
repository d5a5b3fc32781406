
theorem RR.add {c : Nat} {v v3 : vV} {r : Nat} {S : mS} {p : Nat} (h : RR c v r S) (hc : c < 6) (hf : Fr c S) (e0 : v3 r 0 = nI (c + 1)) (e1 : ∀ i, i ≠ 0 → (i < 14 + 83 * c ∨ 14 + 83 * c + 83 ≤ i) → v3 r i = v r i) (em : ∀ w, w < 83 → v3 r (14 + 83 * c + w) = nI (if w = 0 then p else if w = 3 then c else if w = 4 then 1 <<< c else 0)) : RR (c + 1) v3 r (madd S p) := by
  obtain ⟨ha, hc6, h1, h2, h3, h4, h5, h6, b2, b3, b4⟩ := h
  obtain ⟨f1, f2, f3⟩ := hf c (Nat.le_refl c) hc
  refine ⟨?_, by omega, fun i a q => ?_, by rw [e1 2 (by omega) (by omega)]; exact h2, fun m a w q => ?_, fun m a => ?_, fun m a => ?_, fun k y q j a => by rw [e1 _ (by omega) (by omega)]; exact h6 k y q j a, b2, b3, b4⟩
  · show (if (0 : Nat) = 0 then gG S 0 + 1 else S.1 0) = c + 1
    rw [if_pos rfl, ha]
  · show v3 r i = nI (if i = 0 then gG S 0 + 1 else S.1 i)
    by_cases e : i = 0
    · subst e; rw [if_pos rfl, e0, ha]
    · rw [if_neg e, e1 i e (by omega)]; exact h1 i a q
  · show v3 r (14 + 83 * m + w) = nI (if m = gG S 0 then (if w = 0 then p else S.2.1 m w) else S.2.1 m w)
    rw [ha]
    by_cases e : m = c
    · subst e
      rw [if_pos rfl, em w (by omega)]
      by_cases e2 : w = 0
      · rw [if_pos e2, if_pos e2]
      · rw [if_neg e2, if_neg e2]; exact congrArg nI (f1 w).symm
    · rw [if_neg e, e1 _ (by omega) (by omega)]; exact h3 m (by omega) w q
  · show v3 r (14 + 83 * m + 30) = nI (gK S m).length ∧ _
    by_cases e : m = c
    · subst e
      rw [em 30 (by omega)]
      show nI 0 = nI (gK S m).length ∧ ∀ (k : Nat) (t : mT), (gK S m)[k]? = some t → _
      rw [f2]; exact ⟨rfl, fun k t q => by cases q⟩
    · refine ⟨by rw [e1 _ (by omega) (by omega)]; exact (h4 m (by omega)).1, fun k t q => ?_⟩
      have q1 : k < (gK S m).length := (List.getElem?_eq_some_iff.mp q).1; have := b2 m
      have g := (h4 m (by omega)).2 k t q
      rw [e1 _ (by omega) (by omega), e1 _ (by omega) (by omega), e1 _ (by omega) (by omega)]; exact g
  · show v3 r (14 + 83 * m + 67) = nI (gH S m).length ∧ _
    by_cases e : m = c
    · subst e
      rw [em 67 (by omega)]
      show nI 0 = nI (gH S m).length ∧ ∀ (k : Nat) (t : mT), (gH S m)[k]? = some t → _
      rw [f3]; exact ⟨rfl, fun k t q => by cases q⟩
    · refine ⟨by rw [e1 _ (by omega) (by omega)]; exact (h5 m (by omega)).1, fun k t q => ?_⟩
      have q1 : k < (gH S m).length := (List.getElem?_eq_some_iff.mp q).1; have := b3 m
      have g := (h5 m (by omega)).2 k t q
      rw [e1 _ (by omega) (by omega), e1 _ (by omega) (by omega), e1 _ (by omega) (by omega)]; exact g
theorem cut_clr : ∀ a, a < 64 → ∀ d, d < 6 → nI a &&& (nI (1 <<< d) ^^^ (-1)) = nI (mclr a d) := by decide +kernel
def mcsay (c : Nat) (S : mS) (m : Int32) : Bool := mb c m && decide (gM S m.toInt.toNat 1 = 0 ∧ gM S m.toInt.toNat 7 < 4)
theorem mcsay_n {c k : Nat} {S : mS} (hk : k < c) (hc : c ≤ 6) : mcsay c S (nI k) = decide (gM S k 1 = 0 ∧ gM S k 7 < 4) := by
  unfold mcsay
  rw [mb_n (by omega), decide_eq_true hk, nI_toInt (by omega)]; rfl
theorem mcsay_f {c : Nat} {S : mS} {m : Int32} (h : mb c m = false) : mcsay c S m = false := by unfold mcsay; rw [h]; rfl
def mccall (c : Nat) (S : mS) (m s : Int32) : Bool := mb c m && (mset c m.toInt.toNat s && decide (¬ gM S m.toInt.toNat 1 = 2))
theorem mccall_n {c k : Nat} {S : mS} {s : Int32} (hk : k < c) (hc : c ≤ 6) : mccall c S (nI k) s = (mset c k s && decide (¬ gM S k 1 = 2)) := by
  unfold mccall
  rw [mb_n (by omega), decide_eq_true hk, nI_toInt (by omega)]; rfl
theorem mccall_f {c : Nat} {S : mS} {m s : Int32} (h : mb c m = false) : mccall c S m s = false := by unfold mccall; rw [h]; rfl
theorem msay5 {S : mS} {m x : Nat} : gM (sM S m 7 x) m 5 = gM S m 5 := by simp [gM, sM]
theorem gG_o {S : mS} {i j x : Nat} (h : j ≠ i) : gG (sG S i x) j = gG S j := by simp only [gG, sG]; rw [if_neg h]
theorem msayF_m {S : mS} {m b k : Nat} (h : k = m) : msayF m b k S = S := by unfold msayF; rw [if_neg (fun q => q.1 h)]
theorem msayF_b {S : mS} {m b k : Nat} (h : (gM S m 4).testBit k = false) : msayF m b k S = S := by unfold msayF; rw [if_neg (fun q => by rw [h] at q; exact Bool.false_ne_true q.2)]
theorem msayF_s {S : mS} {m b k : Nat} (h1 : ¬ k = m) (h2 : (gM S m 4).testBit k = true) : msayF m b k S = msend S 0 m k (gM S m 2) (gM S m 3) b := by unfold msayF; rw [if_pos ⟨h1, h2⟩]
theorem mleave2 {S : mS} {m : Nat} : gM (mleave S m) m 2 = gM S m 2 := by simp [gM, sM, mleave, mnone, sK]
theorem mover6 {S : mS} {m h : Nat} : gM (mover S m h) = gM S := rfl

theorem mbits_le {s : Nat} : ∀ k, mbits s k ≤ k := by
  intro k
  induction k with
  | zero => exact Nat.le_refl _
  | succ k ih => simp only [mbits]; split <;> omega
theorem msb_le {S : mS} : ∀ k, msb S k ≤ 24 * k := by
  intro k
  induction k with
  | zero => exact Nat.le_refl _
  | succ k ih =>
    have := mbits_le (s := gG S (8 + k)) 24
    simp only [msb]; omega
set_option maxHeartbeats 4000000 in
set_option maxRecDepth 100000 in
theorem c_X7_memberOn {σ : vS} {v : vV} {c r : Nat} {S : mS} {p : Nat} (hr : vK σ r 8 2012) (hR : RR c v r S) (hc : c < 6) (hf : Fr c S) : vC M_X7_memberOn yX7_memberOn [.ref (r), .int (nI (p))] (σ, v) (qS σ (some (.int (nI c))) (rP (c + 1) v r (madd S p))) := by
  have hc6 := hR.c6
  have hO : vO9 v v r := vO9.rf
  refine vC_of (ls := [some (.ref (r)), some (.int (nI (p))), none, none]) pn_X7 rfl rfl (Nat.le_of_ble_eq_true rfl) rfl ?_
  refine P_aload_n dX7_memberOn_0 rfl rfl ?_
  refine P_iconst (v := nI 0) dX7_memberOn_1 (by decide) ?_
  refine P_ialdN (x := nI (c)) (0) dX7_memberOn_2 hr rfl (by omega) (by decide) hR.cc ?_
  refine P_istore_n (ls2 := [some (.ref (r)), some (.int (nI (p))), some (.int (nI (c))), none]) dX7_memberOn_3 rfl (by decide) rfl ?_
  refine P_iconst (v := nI 0) dX7_memberOn_4 (by decide) ?_
  refine P_istore_n (ls2 := [some (.ref (r)), some (.int (nI (p))), some (.int (nI (c))), some (.int (nI (0)))]) dX7_memberOn_5 rfl (by decide) rfl ?_
  have hL6 : ∀ (n6 : Nat) (k : Nat) (v1 : vV), (k ≤ 83) → (k + n6 = 84) → (∀ i, v1 r i = if 14 + 83 * c ≤ i ∧ i < 14 + 83 * c + k then nI 0 else v r i) → (vO9 v v1 r) → vP M_X7_memberOn 6 [some (.ref (r)), some (.int (nI (p))), some (.int (nI (c))), some (.int (nI (k)))] [] ((vRm M_X7_memberOn).cells, (vRm M_X7_memberOn).slots) (σ, v1) (vN (qS σ (some (.int (nI c))) (rP (c + 1) v r (madd S p)))) := by
    intro n6
    induction n6 with
    | zero =>
      intro k v1 h1 h2 hs hO1
      exact absurd h2 (by omega)
    | succ n6 ih6 =>
      intro k v1 h1 h2 hs hO1
      refine P_iload_n dX7_memberOn_6 rfl rfl ?_
      refine P_bipush (v := nI 83) dX7_memberOn_7 (by decide) ?_
      refine P_icmp_geN (tgt := 25) dX7_memberOn_9 (by decide) (by omega) (by omega) (fun c9 => ?_) (fun c9 => ?_)
      · refine P_aload_n dX7_memberOn_25 rfl rfl ?_
        refine P_iload_n dX7_memberOn_26 rfl rfl ?_
        refine P_iconst (v := nI 0) dX7_memberOn_27 (by decide) ?_
        refine P_iload_n dX7_memberOn_28 rfl rfl ?_
        refine P_cSs (rest := []) (As := [.ref (r), .int (nI (c)), .int (nI (0)), .int (nI (p))]) dX7_memberOn_29 lX7_58 yk_X7_lay ys_X7_lay (by decide) rfl rfl (Nat.le_of_ble_eq_true rfl) rfl (c_X7_lay hr (by omega) (by decide)) (fun v1 ev1 => ?_)
        subst ev1
        refine P_aload_n dX7_memberOn_32 rfl rfl ?_
        refine P_iload_n dX7_memberOn_33 rfl rfl ?_
        refine P_iconst (v := nI 3) dX7_memberOn_34 (by decide) ?_
        refine P_iload_n dX7_memberOn_35 rfl rfl ?_
        refine P_cSs (rest := []) (As := [.ref (r), .int (nI (c)), .int (nI (3)), .int (nI (c))]) dX7_memberOn_36 lX7_58 yk_X7_lay ys_X7_lay (by decide) rfl rfl (Nat.le_of_ble_eq_true rfl) rfl (c_X7_lay hr (by omega) (by decide)) (fun v2 ev2 => ?_)
        subst ev2
        refine P_aload_n dX7_memberOn_39 rfl rfl ?_
        refine P_iload_n dX7_memberOn_40 rfl rfl ?_
        refine P_iconst (v := nI 4) dX7_memberOn_41 (by decide) ?_
        refine P_iconst (v := nI 1) dX7_memberOn_42 (by decide) ?_
        refine P_iload_n dX7_memberOn_43 rfl rfl ?_
        refine P_ishlN dX7_memberOn_44 (by omega) ?_
        refine P_cSs (rest := []) (As := [.ref (r), .int (nI (c)), .int (nI (4)), .int (nI (1 <<< c))]) dX7_memberOn_45 lX7_58 yk_X7_lay ys_X7_lay (by decide) rfl rfl (Nat.le_of_ble_eq_true rfl) rfl (c_X7_lay hr (by omega) (by decide)) (fun v3 ev3 => ?_)
        subst ev3
        refine P_aload_n dX7_memberOn_48 rfl rfl ?_
        refine P_iconst (v := nI 0) dX7_memberOn_49 (by decide) ?_
        refine P_dup2 dX7_memberOn_50 rfl rfl ?_
        refine P_ialdN (x := nI (c)) (0) dX7_memberOn_51 hr rfl (by omega) (by decide) (by (repeat rw [vU_o (by omega)]); rw [hs, if_neg (by omega)]; exact hR.cc) ?_
        refine P_iconst (v := nI 1) dX7_memberOn_52 (by decide) ?_
        refine P_iaddN dX7_memberOn_53 ?_
        refine P_iast (0) dX7_memberOn_54 hr rfl (by omega) (by decide) ?_
        refine P_iload_n dX7_memberOn_55 rfl rfl ?_
        refine P_iret dX7_memberOn_56 rfl ?_
        refine q_s rfl ⟨?_, ?_⟩
        · refine RR.add hR hc hf vU_s (fun i q1 q2 => ?_) (fun w hw => ?_)
          · (repeat rw [vU_o (by omega)]); rw [hs, if_neg (by omega)]
          · by_cases w0 : w = 0
            · subst w0; rw [if_pos rfl]; (repeat rw [vU_o (by omega)]); exact vU_s
            · rw [if_neg w0]
              by_cases w3 : w = 3
              · subst w3; rw [if_pos rfl]; (repeat rw [vU_o (by omega)]); exact vU_s
              · rw [if_neg w3]
                by_cases w4 : w = 4
                · subst w4; rw [if_pos rfl]; (repeat rw [vU_o (by omega)]); exact vU_s
                · rw [if_neg w4]; (repeat rw [vU_o (by omega)]); rw [hs, if_pos (by omega)]
        · repeat refine vO9.u ?_
          exact hO1
      · refine P_aload_n dX7_memberOn_12 rfl rfl ?_
        refine P_iload_n dX7_memberOn_13 rfl rfl ?_
        refine P_iload_n dX7_memberOn_14 rfl rfl ?_
        refine P_iconst (v := nI 0) dX7_memberOn_15 (by decide) ?_
        refine P_cSs (rest := []) (As := [.ref (r), .int (nI (c)), .int (nI (k)), .int (nI (0))]) dX7_memberOn_16 lX7_58 yk_X7_lay ys_X7_lay (by decide) rfl rfl (Nat.le_of_ble_eq_true rfl) rfl (c_X7_lay hr (by omega) (by omega)) (fun v4 ev4 => ?_)
        subst ev4
        refine P_iinc (v := nI (k + 1)) (ls2 := [some (.ref (r)), some (.int (nI (p))), some (.int (nI (c))), some (.int (nI (k + 1)))]) dX7_memberOn_19 rfl (nI_inc _ 1) (by decide) rfl ?_
        refine P_goto (tgt := 6) dX7_memberOn_22 (by decide) ?_
        refine ih6 (k + 1) _ (by omega) (by omega) (fun i => ?_) hO1.u
        by_cases e9 : i = 14 + 83 * c + k
        · subst e9; rw [vU_s, if_pos (by omega)]
        · rw [vU_o (Or.inr e9), hs]
          by_cases g1 : 14 + 83 * c ≤ i ∧ i < 14 + 83 * c + k
          · rw [if_pos g1, if_pos (by omega)]
          · rw [if_neg g1, if_neg (by omega)]
  exact hL6 84 0 v (by omega) (by omega) (fun i => by rw [if_neg (by omega)]) hO
set_option maxHeartbeats 4000000 in
set_option maxRecDepth 100000 in
theorem c_X7_canSay {σ : vS} {v : vV} {c r : Nat} {S : mS} {m : Int32} {B : Nat} (hr : vK σ r 8 2012) (hR : RR c v r S) (hN : NB c S B) : vC M_X7_canSay yX7_canSay [.ref (r), .int (m)] (σ, v) (qP (σ, v) (.int (vb (mcsay c S m)))) := by
  have hc6 := hR.c6
  refine vC_of (ls := [some (.ref (r)), some (.int (m))]) pn_X7 rfl rfl (Nat.le_of_ble_eq_true rfl) rfl ?_
  refine P_aload_n dX7_canSay_0 rfl rfl ?_
  refine P_iload_n dX7_canSay_1 rfl rfl ?_
  refine P_cSp (rest := []) (As := [.ref (r), .int (m)]) dX7_canSay_2 lX7_112 yk_X7_isMember ys_X7_isMember (by decide) rfl rfl (Nat.le_of_ble_eq_true rfl) rfl (c_X7_isMember hr hR) ?_
  refine P_bif_eq (tgt := 32) dX7_canSay_5 (by decide) (fun c5 => ?_) (fun c5 => ?_)
  · refine P_iconst (v := nI 0) dX7_canSay_32 (by decide) ?_
    refine P_zret dX7_canSay_33 rfl (by decide) ?_
    exact q_f (mcsay_f c5)
  · obtain ⟨k9, hk9, rfl⟩ := mb_nat hc6 c5
    refine P_aload_n dX7_canSay_8 rfl rfl ?_
    refine P_iload_n dX7_canSay_9 rfl rfl ?_
    refine P_iconst (v := nI 1) dX7_canSay_10 (by decide) ?_
    refine P_cSp (rest := []) (As := [.ref (r), .int (nI (k9)), .int (nI (1))]) dX7_canSay_11 lX7_44 yk_X7_of ys_X7_of (by decide) rfl rfl (Nat.le_of_ble_eq_true rfl) rfl (c_X7_of hr (by omega) (by decide)) ?_
    refine P_top (y := (nI (gM S k9 1))) (hR.m (by omega) (by decide)) ?_
    refine P_if_neN (tgt := 32) dX7_canSay_14 (by decide) (by have := hN.m1 k9; omega) (fun c14 => ?_) (fun c14 => ?_)
    · refine P_iconst (v := nI 0) dX7_canSay_32 (by decide) ?_
      refine P_zret dX7_canSay_33 rfl (by decide) ?_
      exact q_f (by rw [mcsay_n hk9 hc6]; exact decide_eq_false (fun q => c14 q.1))
    · refine P_aload_n dX7_canSay_17 rfl rfl ?_
      refine P_iload_n dX7_canSay_18 rfl rfl ?_
      refine P_bipush (v := nI 7) dX7_canSay_19 (by decide) ?_
      refine P_cSp (rest := []) (As := [.ref (r), .int (nI (k9)), .int (nI (7))]) dX7_canSay_21 lX7_44 yk_X7_of ys_X7_of (by decide) rfl rfl (Nat.le_of_ble_eq_true rfl) rfl (c_X7_of hr (by omega) (by decide)) ?_
      refine P_top (y := (nI (gM S k9 7))) (hR.m (by omega) (by decide)) ?_
      refine P_iconst (v := nI 4) dX7_canSay_24 (by decide) ?_
      refine P_icmp_geN (tgt := 32) dX7_canSay_25 (by decide) (by have := hN.m7 k9; omega) (by omega) (fun c25 => ?_) (fun c25 => ?_)
      · refine P_iconst (v := nI 0) dX7_canSay_32 (by decide) ?_
        refine P_zret dX7_canSay_33 rfl (by decide) ?_
        exact q_f (by rw [mcsay_n hk9 hc6]; exact decide_eq_false (fun q => absurd q.2 (by omega)))
      · refine P_iconst (v := nI 1) dX7_canSay_28 (by decide) ?_
        refine P_goto (tgt := 33) dX7_canSay_29 (by decide) ?_
        refine P_zret dX7_canSay_33 rfl (by decide) ?_
        exact q_t (by rw [mcsay_n hk9 hc6]; exact decide_eq_true ⟨c14, by omega⟩)
set_option maxHeartbeats 4000000 in
set_option maxRecDepth 100000 in
theorem c_X7_canCall {σ : vS} {v : vV} {c r : Nat} {S : mS} {m s : Int32} {B : Nat} (hr : vK σ r 8 2012) (hR : RR c v r S) (hN : NB c S B) : vC M_X7_canCall yX7_canCall [.ref (r), .int (m), .int (s)] (σ, v) (qP (σ, v) (.int (vb (mccall c S m s)))) := by
  have hc6 := hR.c6
  refine vC_of (ls := [some (.ref (r)), some (.int (m)), some (.int (s))]) pn_X7 rfl rfl (Nat.le_of_ble_eq_true rfl) rfl ?_
  refine P_aload_n dX7_canCall_0 rfl rfl ?_
  refine P_iload_n dX7_canCall_1 rfl rfl ?_
  refine P_cSp (rest := []) (As := [.ref (r), .int (m)]) dX7_canCall_2 lX7_112 yk_X7_isMember ys_X7_isMember (by decide) rfl rfl (Nat.le_of_ble_eq_true rfl) rfl (c_X7_isMember hr hR) ?_
  refine P_bif_eq (tgt := 31) dX7_canCall_5 (by decide) (fun c5 => ?_) (fun c5 => ?_)
  · refine P_iconst (v := nI 0) dX7_canCall_31 (by decide) ?_
    refine P_zret dX7_canCall_32 rfl (by decide) ?_
    exact q_f (mccall_f c5)
  · obtain ⟨k9, hk9, rfl⟩ := mb_nat hc6 c5
    refine P_aload_n dX7_canCall_8 rfl rfl ?_
    refine P_iload_n dX7_canCall_9 rfl rfl ?_
    refine P_iload_n dX7_canCall_10 rfl rfl ?_
    refine P_cSp (rest := []) (As := [.ref (r), .int (nI (k9)), .int (s)]) dX7_canCall_11 lX7_116 yk_X7_isSet ys_X7_isSet (by decide) rfl rfl (Nat.le_of_ble_eq_true rfl) rfl (c_X7_isSet hr hR (by omega)) ?_
    refine P_bif_eq (tgt := 31) dX7_canCall_14 (by decide) (fun c14 => ?_) (fun c14 => ?_)
    · refine P_iconst (v := nI 0) dX7_canCall_31 (by decide) ?_
      refine P_zret dX7_canCall_32 rfl (by decide) ?_
      exact q_f (by rw [mccall_n hk9 hc6, c14]; rfl)
    · refine P_aload_n dX7_canCall_17 rfl rfl ?_
      refine P_iload_n dX7_canCall_18 rfl rfl ?_
      refine P_iconst (v := nI 1) dX7_canCall_19 (by decide) ?_
      refine P_cSp (rest := []) (As := [.ref (r), .int (nI (k9)), .int (nI (1))]) dX7_canCall_20 lX7_44 yk_X7_of ys_X7_of (by decide) rfl rfl (Nat.le_of_ble_eq_true rfl) rfl (c_X7_of hr (by omega) (by decide)) ?_
      refine P_top (y := (nI (gM S k9 1))) (hR.m (by omega) (by decide)) ?_
      refine P_iconst (v := nI 2) dX7_canCall_23 (by decide) ?_
      refine P_icmp_eqN (tgt := 31) dX7_canCall_24 (by decide) (by have := hN.m1 k9; omega) (by omega) (fun c24 => ?_) (fun c24 => ?_)
      · refine P_iconst (v := nI 0) dX7_canCall_31 (by decide) ?_
        refine P_zret dX7_canCall_32 rfl (by decide) ?_
        exact q_f (by rw [mccall_n hk9 hc6, decide_eq_false (fun q => q c24), Bool.and_false])
      · refine P_iconst (v := nI 1) dX7_canCall_27 (by decide) ?_
        refine P_goto (tgt := 32) dX7_canCall_28 (by decide) ?_
        refine P_zret dX7_canCall_32 rfl (by decide) ?_
        exact q_t (by rw [mccall_n hk9 hc6, c14, decide_eq_true c24]; rfl)
set_option maxHeartbeats 4000000 in
set_option maxRecDepth 100000 in
theorem c_X7_sayOn {σ : vS} {v : vV} {c r : Nat} {S : mS} {m B : Nat} (hr : vK σ r 8 2012) (hR : RR c v r S) (hN : NB c S B) (hB : B + 100 < 1000000000) (hm : m < c) (h7 : gM S m 7 < 4) : vC M_X7_sayOn yX7_sayOn [.ref (r), .int (nI (m))] (σ, v) (qS σ (some (.int (nI (4 * m + gM S m 7)))) (rP c v r (msay S m))) := by
  have hc6 := hR.c6
  have hO : vO9 v v r := vO9.rf
  refine vC_of (ls := [some (.ref (r)), some (.int (nI (m))), none, none]) pn_X7 rfl rfl (Nat.le_of_ble_eq_true rfl) rfl ?_
  refine P_iconst (v := nI 4) dX7_sayOn_0 (by decide) ?_
  refine P_iload_n dX7_sayOn_1 rfl rfl ?_
  refine P_imulN dX7_sayOn_2 ?_
  refine P_aload_n dX7_sayOn_3 rfl rfl ?_
  refine P_iload_n dX7_sayOn_4 rfl rfl ?_
  refine P_bipush (v := nI 7) dX7_sayOn_5 (by decide) ?_
  refine P_cSp (rest := [.int (nI (4 * m))]) (As := [.ref (r), .int (nI (m)), .int (nI (7))]) dX7_sayOn_7 lX7_44 yk_X7_of ys_X7_of (by decide) rfl rfl (Nat.le_of_ble_eq_true rfl) rfl (c_X7_of hr (by omega) (by decide)) ?_
  refine P_top (y := (nI (gM S m 7))) (hR.m (by omega) (by decide)) ?_
  refine P_iaddN dX7_sayOn_10 ?_
  refine P_istore_n (ls2 := [some (.ref (r)), some (.int (nI (m))), some (.int (nI (4 * m + (gM S m 7)))), none]) dX7_sayOn_11 rfl (by decide) rfl ?_
  refine P_aload_n dX7_sayOn_12 rfl rfl ?_
  refine P_iload_n dX7_sayOn_13 rfl rfl ?_
  refine P_bipush (v := nI 7) dX7_sayOn_14 (by decide) ?_
  refine P_aload_n dX7_sayOn_16 rfl rfl ?_
  refine P_iload_n dX7_sayOn_17 rfl rfl ?_
  refine P_bipush (v := nI 7) dX7_sayOn_18 (by decide) ?_
  refine P_cSp (rest := [.int (nI (7)), .int (nI (m)), .ref (r)]) (As := [.ref (r), .int (nI (m)), .int (nI (7))]) dX7_sayOn_20 lX7_44 yk_X7_of ys_X7_of (by decide) rfl rfl (Nat.le_of_ble_eq_true rfl) rfl (c_X7_of hr (by omega) (by decide)) ?_
  refine P_top (y := (nI (gM S m 7))) (hR.m (by omega) (by decide)) ?_
  refine P_iconst (v := nI 1) dX7_sayOn_23 (by decide) ?_
  refine P_iaddN dX7_sayOn_24 ?_
  refine P_cSs (rest := []) (As := [.ref (r), .int (nI (m)), .int (nI (7)), .int (nI (gM S m 7 + 1))]) dX7_sayOn_25 lX7_58 yk_X7_lay ys_X7_lay (by decide) rfl rfl (Nat.le_of_ble_eq_true rfl) rfl (c_X7_lay hr (by omega) (by decide)) (fun v3 e4 => ?_)
  have hR1 : RR c v3 r (sM S m 7 (gM S m 7 + 1)) := by rw [e4]; exact hR.M (by omega) (by decide)
  have hO2 : vO9 v v3 r := by rw [e4]; exact hO.u
  clear e4
  refine P_aload_n dX7_sayOn_28 rfl rfl ?_
  refine P_iload_n dX7_sayOn_29 rfl rfl ?_
  refine P_iconst (v := nI 5) dX7_sayOn_30 (by decide) ?_
  refine P_aload_n dX7_sayOn_31 rfl rfl ?_
  refine P_iload_n dX7_sayOn_32 rfl rfl ?_
  refine P_iconst (v := nI 5) dX7_sayOn_33 (by decide) ?_
  refine P_cSp (rest := [.int (nI (5)), .int (nI (m)), .ref (r)]) (As := [.ref (r), .int (nI (m)), .int (nI (5))]) dX7_sayOn_34 lX7_44 yk_X7_of ys_X7_of (by decide) rfl rfl (Nat.le_of_ble_eq_true rfl) rfl (c_X7_of hr (by omega) (by decide)) ?_
  refine P_top (y := nI (gM S m 5)) (by rw [hR1.m hm (by decide), msay5]) ?_
  refine P_iconst (v := nI 1) dX7_sayOn_37 (by decide) ?_
  refine P_iload_n dX7_sayOn_38 rfl rfl ?_
  refine P_ishlN dX7_sayOn_39 (by omega) ?_
  refine P_iorN dX7_sayOn_40 ?_
  refine P_cSs (rest := []) (As := [.ref (r), .int (nI (m)), .int (nI (5)), .int (nI ((gM S m 5) ||| (1 <<< (4 * m + (gM S m 7)))))]) dX7_sayOn_41 lX7_58 yk_X7_lay ys_X7_lay (by decide) rfl rfl (Nat.le_of_ble_eq_true rfl) rfl (c_X7_lay hr (by omega) (by decide)) (fun v7 e8 => ?_)
  have hR5 : RR c v7 r (sM (sM S m 7 (gM S m 7 + 1)) m 5 ((gM S m 5) ||| (1 <<< (4 * m + (gM S m 7))))) := by rw [e8]; exact hR1.M (by omega) (by decide)
  have hO6 : vO9 v v7 r := by rw [e8]; exact hO2.u
  clear e8
  refine P_aload_n dX7_sayOn_44 rfl rfl ?_
  refine P_iconst (v := nI 4) dX7_sayOn_45 (by decide) ?_
  refine P_dup2 dX7_sayOn_46 rfl rfl ?_
  refine P_ialdN (x := nI (gG (sM (sM S m 7 (gM S m 7 + 1)) m 5 ((gM S m 5) ||| (1 <<< (4 * m + (gM S m 7))))) 4)) (4) dX7_sayOn_47 hr rfl (by omega) (by decide) (hR5.g (by decide) (by decide)) ?_
  refine P_iconst (v := nI 1) dX7_sayOn_48 (by decide) ?_
  refine P_iaddN dX7_sayOn_49 ?_
  refine P_iast (4) dX7_sayOn_50 hr rfl (by omega) (by decide) ?_
  have hR9 : RR c (vU v7 r (4) (nI (gG (sM (sM S m 7 (gM S m 7 + 1)) m 5 ((gM S m 5) ||| (1 <<< (4 * m + (gM S m 7))))) 4 + 1))) r (sG (sM (sM S m 7 (gM S m 7 + 1)) m 5 ((gM S m 5) ||| (1 <<< (4 * m + (gM S m 7))))) 4 (gG (sM (sM S m 7 (gM S m 7 + 1)) m 5 ((gM S m 5) ||| (1 <<< (4 * m + (gM S m 7))))) 4 + 1)) := (hR5.G (x := gG (sM (sM S m 7 (gM S m 7 + 1)) m 5 ((gM S m 5) ||| (1 <<< (4 * m + (gM S m 7))))) 4 + 1) (by decide) (by decide) (by decide))
  have hO10 : vO9 v (vU v7 r (4) (nI (gG (sM (sM S m 7 (gM S m 7 + 1)) m 5 ((gM S m 5) ||| (1 <<< (4 * m + (gM S m 7))))) 4 + 1))) r := hO6.u
  generalize vU v7 r (4) (nI (gG (sM (sM S m 7 (gM S m 7 + 1)) m 5 ((gM S m 5) ||| (1 <<< (4 * m + (gM S m 7))))) 4 + 1)) = v11 at hR9 hO10 ⊢
  have hRs : RR c v11 r (msay0 S m) := hR9
  refine P_iconst (v := nI 0) dX7_sayOn_51 (by decide) ?_
  refine P_istore_n (ls2 := [some (.ref (r)), some (.int (nI (m))), some (.int (nI (4 * m + (gM S m 7)))), some (.int (nI (0)))]) dX7_sayOn_52 rfl (by decide) rfl ?_
  have hL53 : ∀ (n53 : Nat) (k : Nat) (v1 : vV), (k ≤ c) → (k + n53 = c + 1) → (RR c v1 r (mup (msayF m (4 * m + gM S m 7)) k (msay0 S m))) → (vO9 v v1 r) → vP M_X7_sayOn 53 [some (.ref (r)), some (.int (nI (m))), some (.int (nI (4 * m + gM S m 7))), some (.int (nI (k)))] [] ((vRm M_X7_sayOn).cells, (vRm M_X7_sayOn).slots) (σ, v1) (vN (qS σ (some (.int (nI (4 * m + gM S m 7)))) (rP c v r (msay S m)))) := by
    intro n53
    induction n53 with
    | zero =>
      intro k v1 h1 h2 hRk hOk
      exact absurd h2 (by omega)
    | succ n53 ih53 =>
      intro k v1 h1 h2 hRk hOk
      have hNk : NB c (mup (msayF m (4 * m + gM S m 7)) k (msay0 S m)) (B + 7) := hN.say hm h7 k h1
      refine P_iload_n dX7_sayOn_53 rfl rfl ?_
      refine P_aload_n dX7_sayOn_54 rfl rfl ?_
      refine P_iconst (v := nI 0) dX7_sayOn_55 (by decide) ?_
      refine P_ialdN (x := nI (c)) (0) dX7_sayOn_56 hr rfl (by omega) (by decide) hRk.cc ?_
      refine P_icmp_geN (tgt := 104) dX7_sayOn_57 (by decide) (by omega) (by omega) (fun c57 => ?_) (fun c57 => ?_)
      · refine P_iload_n dX7_sayOn_104 rfl rfl ?_
        refine P_iret dX7_sayOn_105 rfl ?_
        refine q_s rfl ⟨?_, hOk⟩
        unfold msay
        rw [hR.c0]
        have ek : k = c := by omega
        rw [ek] at hRk
        exact hRk
      · refine P_iload_n dX7_sayOn_60 rfl rfl ?_
        refine P_iload_n dX7_sayOn_61 rfl rfl ?_
        refine P_icmp_eqN (tgt := 98) dX7_sayOn_62 (by decide) (by omega) (by omega) (fun c62 => ?_) (fun c62 => ?_)
        · refine P_iinc (v := nI (k + 1)) (ls2 := [some (.ref (r)), some (.int (nI (m))), some (.int (nI (4 * m + gM S m 7))), some (.int (nI (k + 1)))]) dX7_sayOn_98 rfl (nI_inc _ 1) (by decide) rfl ?_
          refine P_goto (tgt := 53) dX7_sayOn_101 (by decide) ?_
          refine ih53 (k + 1) v1 (by omega) (by omega) ?_ hOk
          show RR c v1 r (msayF m (4 * m + gM S m 7) k (mup (msayF m (4 * m + gM S m 7)) k (msay0 S m)))
          rw [msayF_m c62]
          exact hRk
        · refine P_aload_n dX7_sayOn_65 rfl rfl ?_
          refine P_iload_n dX7_sayOn_66 rfl rfl ?_
          refine P_iconst (v := nI 4) dX7_sayOn_67 (by decide) ?_
          refine P_cSp (rest := []) (As := [.ref (r), .int (nI (m)), .int (nI (4))]) dX7_sayOn_68 lX7_44 yk_X7_of ys_X7_of (by decide) rfl rfl (Nat.le_of_ble_eq_true rfl) rfl (c_X7_of hr (by omega) (by decide)) ?_
          refine P_top (y := (nI (gM (mup (msayF m (4 * m + gM S m 7)) k (msay0 S m)) m 4))) (hRk.m (by omega) (by decide)) ?_
          refine P_iload_n dX7_sayOn_71 rfl rfl ?_
          refine P_cSp (rest := []) (As := [.int (nI (gM (mup (msayF m (4 * m + gM S m 7)) k (msay0 S m)) m 4)), .int (nI (k))]) dX7_sayOn_72 lX7_48 yk_X7_has ys_X7_has (by decide) rfl rfl (Nat.le_of_ble_eq_true rfl) rfl (c_X7_has (by have := hNk.m4 m; omega) (by omega)) ?_
          refine P_bif_eq (tgt := 98) dX7_sayOn_75 (by decide) (fun c75 => ?_) (fun c75 => ?_)
          · refine P_iinc (v := nI (k + 1)) (ls2 := [some (.ref (r)), some (.int (nI (m))), some (.int (nI (4 * m + gM S m 7))), some (.int (nI (k + 1)))]) dX7_sayOn_98 rfl (nI_inc _ 1) (by decide) rfl ?_
            refine P_goto (tgt := 53) dX7_sayOn_101 (by decide) ?_
            refine ih53 (k + 1) v1 (by omega) (by omega) ?_ hOk
            show RR c v1 r (msayF m (4 * m + gM S m 7) k (mup (msayF m (4 * m + gM S m 7)) k (msay0 S m)))
            rw [msayF_b c75]
            exact hRk
          · refine P_aload_n dX7_sayOn_78 rfl rfl ?_
            refine P_iconst (v := nI 0) dX7_sayOn_79 (by decide) ?_
            refine P_iload_n dX7_sayOn_80 rfl rfl ?_
            refine P_iload_n dX7_sayOn_81 rfl rfl ?_
            refine P_aload_n dX7_sayOn_82 rfl rfl ?_
            refine P_iload_n dX7_sayOn_83 rfl rfl ?_
            refine P_iconst (v := nI 2) dX7_sayOn_84 (by decide) ?_
            refine P_cSp (rest := [.int (nI (k)), .int (nI (m)), .int (nI (0)), .ref (r)]) (As := [.ref (r), .int (nI (m)), .int (nI (2))]) dX7_sayOn_85 lX7_44 yk_X7_of ys_X7_of (by decide) rfl rfl (Nat.le_of_ble_eq_true rfl) rfl (c_X7_of hr (by omega) (by decide)) ?_
            refine P_top (y := (nI (gM (mup (msayF m (4 * m + gM S m 7)) k (msay0 S m)) m 2))) (hRk.m (by omega) (by decide)) ?_
            refine P_aload_n dX7_sayOn_88 rfl rfl ?_
            refine P_iload_n dX7_sayOn_89 rfl rfl ?_
            refine P_iconst (v := nI 3) dX7_sayOn_90 (by decide) ?_
            refine P_cSp (rest := [.int (nI (gM (mup (msayF m (4 * m + gM S m 7)) k (msay0 S m)) m 2)), .int (nI (k)), .int (nI (m)), .int (nI (0)), .ref (r)]) (As := [.ref (r), .int (nI (m)), .int (nI (3))]) dX7_sayOn_91 lX7_44 yk_X7_of ys_X7_of (by decide) rfl rfl (Nat.le_of_ble_eq_true rfl) rfl (c_X7_of hr (by omega) (by decide)) ?_
            refine P_top (y := (nI (gM (mup (msayF m (4 * m + gM S m 7)) k (msay0 S m)) m 3))) (hRk.m (by omega) (by decide)) ?_
            refine P_iload_n dX7_sayOn_94 rfl rfl ?_
            refine P_cSs (rest := []) (As := [.ref (r), .int (nI (0)), .int (nI (m)), .int (nI (k)), .int (nI (gM (mup (msayF m (4 * m + gM S m 7)) k (msay0 S m)) m 2)), .int (nI (gM (mup (msayF m (4 * m + gM S m 7)) k (msay0 S m)) m 3)), .int (nI (4 * m + gM S m 7))]) dX7_sayOn_95 lX7_81 yk_X7_send ys_X7_send (by decide) rfl rfl (Nat.le_of_ble_eq_true rfl) rfl (c_X7_send hr hRk hNk (by omega) hm (by omega)) (fun v14 ⟨hR12, hO13⟩ => ?_)
            replace hO13 := hOk.tr hO13
            refine P_iinc (v := nI (k + 1)) (ls2 := [some (.ref (r)), some (.int (nI (m))), some (.int (nI (4 * m + gM S m 7))), some (.int (nI (k + 1)))]) dX7_sayOn_98 rfl (nI_inc _ 1) (by decide) rfl ?_
            refine P_goto (tgt := 53) dX7_sayOn_101 (by decide) ?_
            refine ih53 (k + 1) v14 (by omega) (by omega) ?_ hO13
            show RR c v14 r (msayF m (4 * m + gM S m 7) k (mup (msayF m (4 * m + gM S m 7)) k (msay0 S m)))
            rw [msayF_s c62 c75]
            exact hR12
  exact hL53 (c + 1) 0 v11 (by omega) (by omega) hRs hO10
set_option maxHeartbeats 4000000 in
set_option maxRecDepth 100000 in
theorem c_X7_leaveOn {σ : vS} {v : vV} {c r : Nat} {S : mS} {m : Nat} (hr : vK σ r 8 2012) (hR : RR c v r S) (hm : m < c) : vC M_X7_leaveOn yX7_leaveOn [.ref (r), .int (nI (m))] (σ, v) (qS σ (some (.int (nI (gM S m 2)))) (rP c v r (mleave S m))) := by
  have hc6 := hR.c6
  have hO : vO9 v v r := vO9.rf
  refine vC_of (ls := [some (.ref (r)), some (.int (nI (m)))]) pn_X7 rfl rfl (Nat.le_of_ble_eq_true rfl) rfl ?_
  refine P_aload_n dX7_leaveOn_0 rfl rfl ?_
  refine P_iload_n dX7_leaveOn_1 rfl rfl ?_
  refine P_iconst (v := nI 1) dX7_leaveOn_2 (by decide) ?_
  refine P_iconst (v := nI 2) dX7_leaveOn_3 (by decide) ?_
  refine P_cSs (rest := []) (As := [.ref (r), .int (nI (m)), .int (nI (1)), .int (nI (2))]) dX7_leaveOn_4 lX7_58 yk_X7_lay ys_X7_lay (by decide) rfl rfl (Nat.le_of_ble_eq_true rfl) rfl (c_X7_lay hr (by omega) (by decide)) (fun v3 e4 => ?_)
  have hR1 : RR c v3 r (sM S m 1 2) := by rw [e4]; exact hR.M (by omega) (by decide)
  have hO2 : vO9 v v3 r := by rw [e4]; exact hO.u
  clear e4
  refine P_aload_n dX7_leaveOn_7 rfl rfl ?_
  refine P_iload_n dX7_leaveOn_8 rfl rfl ?_
  refine P_cSs (rest := []) (As := [.ref (r), .int (nI (m))]) dX7_leaveOn_9 lX7_85 yk_X7_callsNone ys_X7_callsNone (by decide) rfl rfl (Nat.le_of_ble_eq_true rfl) rfl (c_X7_callsNone hr hR1 hm) (fun v7 ⟨hR5, hO6⟩ => ?_)
  replace hO6 := hO2.tr hO6
  refine P_aload_n dX7_leaveOn_12 rfl rfl ?_
  refine P_iload_n dX7_leaveOn_13 rfl rfl ?_
  refine P_bipush (v := nI 30) dX7_leaveOn_14 (by decide) ?_
  refine P_iconst (v := nI 0) dX7_leaveOn_16 (by decide) ?_
  refine P_cSs (rest := []) (As := [.ref (r), .int (nI (m)), .int (nI (30)), .int (nI (0))]) dX7_leaveOn_17 lX7_58 yk_X7_lay ys_X7_lay (by decide) rfl rfl (Nat.le_of_ble_eq_true rfl) rfl (c_X7_lay hr (by omega) (by decide)) (fun v9 e9 => ?_)
  have hR9 : RR c v9 r (mleave S m) := by
    rw [e9]
    exact RR.setK0 hR5 hm (by decide) vU_s (fun k t q => by cases q) (fun i q => vU_o (by omega))
  have hO9 : vO9 v v9 r := by rw [e9]; exact hO6.u
  refine P_aload_n dX7_leaveOn_20 rfl rfl ?_
  refine P_iload_n dX7_leaveOn_21 rfl rfl ?_
  refine P_iconst (v := nI 2) dX7_leaveOn_22 (by decide) ?_
  refine P_cSp (rest := []) (As := [.ref (r), .int (nI (m)), .int (nI (2))]) dX7_leaveOn_23 lX7_44 yk_X7_of ys_X7_of (by decide) rfl rfl (Nat.le_of_ble_eq_true rfl) rfl (c_X7_of hr (by omega) (by decide)) ?_
  refine P_top (y := nI (gM S m 2)) (by rw [hR9.m hm (by decide), mleave2]) ?_
  refine P_iret dX7_leaveOn_26 rfl ?_
  exact q_s rfl ⟨hR9, hO9⟩
set_option maxHeartbeats 4000000 in
set_option maxRecDepth 100000 in
theorem c_X7_backOn {σ : vS} {v : vV} {c r : Nat} {S : mS} {m : Nat} (hr : vK σ r 8 2012) (hR : RR c v r S) (hm : m < c) : vC M_X7_backOn yX7_backOn [.ref (r), .int (nI (m))] (σ, v) (qS σ (some (.int (nI (gM S m 6 + 1)))) (rP c v r (mback S m))) := by
  have hc6 := hR.c6
  have hO : vO9 v v r := vO9.rf
  refine vC_of (ls := [some (.ref (r)), some (.int (nI (m))), none]) pn_X7 rfl rfl (Nat.le_of_ble_eq_true rfl) rfl ?_
  refine P_aload_n dX7_backOn_0 rfl rfl ?_
  refine P_iload_n dX7_backOn_1 rfl rfl ?_
  refine P_bipush (v := nI 6) dX7_backOn_2 (by decide) ?_
  refine P_cSp (rest := []) (As := [.ref (r), .int (nI (m)), .int (nI (6))]) dX7_backOn_4 lX7_44 yk_X7_of ys_X7_of (by decide) rfl rfl (Nat.le_of_ble_eq_true rfl) rfl (c_X7_of hr (by omega) (by decide)) ?_
  refine P_top (y := (nI (gM S m 6))) (hR.m (by omega) (by decide)) ?_
  refine P_iconst (v := nI 1) dX7_backOn_7 (by decide) ?_
  refine P_iaddN dX7_backOn_8 ?_
  refine P_istore_n (ls2 := [some (.ref (r)), some (.int (nI (m))), some (.int (nI (gM S m 6 + 1)))]) dX7_backOn_9 rfl (by decide) rfl ?_
  refine P_aload_n dX7_backOn_10 rfl rfl ?_
  refine P_iload_n dX7_backOn_11 rfl rfl ?_
  refine P_aload_n dX7_backOn_12 rfl rfl ?_
  refine P_iload_n dX7_backOn_13 rfl rfl ?_
  refine P_iconst (v := nI 5) dX7_backOn_14 (by decide) ?_
  refine P_cSp (rest := [.int (nI (m)), .ref (r)]) (As := [.ref (r), .int (nI (m)), .int (nI (5))]) dX7_backOn_15 lX7_44 yk_X7_of ys_X7_of (by decide) rfl rfl (Nat.le_of_ble_eq_true rfl) rfl (c_X7_of hr (by omega) (by decide)) ?_
  refine P_top (y := (nI (gM S m 5))) (hR.m (by omega) (by decide)) ?_
  refine P_cSs (rest := []) (As := [.ref (r), .int (nI (m)), .int (nI (gM S m 5))]) dX7_backOn_18 lX7_62 yk_X7_over ys_X7_over (by decide) rfl rfl (Nat.le_of_ble_eq_true rfl) rfl (c_X7_over hr hR hm) (fun v3 ⟨hR1, hO2⟩ => ?_)
  replace hO2 := hO.tr hO2
  refine P_aload_n dX7_backOn_21 rfl rfl ?_
  refine P_iload_n dX7_backOn_22 rfl rfl ?_
  refine P_bipush (v := nI 6) dX7_backOn_23 (by decide) ?_
  refine P_iload_n dX7_backOn_25 rfl rfl ?_
  refine P_cSs (rest := []) (As := [.ref (r), .int (nI (m)), .int (nI (6)), .int (nI (gM S m 6 + 1))]) dX7_backOn_26 lX7_58 yk_X7_lay ys_X7_lay (by decide) rfl rfl (Nat.le_of_ble_eq_true rfl) rfl (c_X7_lay hr (by omega) (by decide)) (fun v6 e7 => ?_)
  have hR4 : RR c v6 r (sM (mover S m (gM S m 5)) m 6 (gM S m 6 + 1)) := by rw [e7]; exact hR1.M (by omega) (by decide)
  have hO5 : vO9 v v6 r := by rw [e7]; exact hO2.u
  clear e7
  refine P_aload_n dX7_backOn_29 rfl rfl ?_
  refine P_iload_n dX7_backOn_30 rfl rfl ?_
  refine P_iload_n dX7_backOn_31 rfl rfl ?_
  refine P_iload_n dX7_backOn_32 rfl rfl ?_
  refine P_iconst (v := nI 1) dX7_backOn_33 (by decide) ?_
  refine P_iload_n dX7_backOn_34 rfl rfl ?_
  refine P_ishlN dX7_backOn_35 (by omega) ?_
  refine P_cSs (rest := []) (As := [.ref (r), .int (nI (m)), .int (nI (gM S m 6 + 1)), .int (nI (m)), .int (nI (1 <<< m))]) dX7_backOn_36 lX7_66 yk_X7_enter ys_X7_enter (by decide) rfl rfl (Nat.le_of_ble_eq_true rfl) rfl (c_X7_enter hr hR4 hm) (fun v10 ⟨hR8, hO9⟩ => ?_)
  replace hO9 := hO5.tr hO9
  refine P_iload_n dX7_backOn_39 rfl rfl ?_
  refine P_iret dX7_backOn_40 rfl ?_
  exact q_s rfl ⟨hR8, hO9⟩
set_option maxHeartbeats 4000000 in
set_option maxRecDepth 100000 in
theorem c_X7_cutOn {σ : vS} {v : vV} {c r : Nat} {S : mS} {a d B : Nat} {cut : Bool} (hr : vK σ r 8 2012) (hR : RR c v r S) (hN : NB c S B) (ha : a < c) (hd : d < c) (had : a ≠ d) : vC M_X7_cutOn yX7_cutOn [.ref (r), .int (nI (a)), .int (nI (d)), .int (vb (cut))] (σ, v) (qS σ (some (.int (nI (mways (mcut S a d cut))))) (rP c v r (mcut S a d cut))) := by
  have hc6 := hR.c6
  have hO : vO9 v v r := vO9.rf
  refine vC_of (ls := [some (.ref (r)), some (.int (nI (a))), some (.int (nI (d))), some (.int (vb (cut))), none, none]) pn_X7 rfl rfl (Nat.le_of_ble_eq_true rfl) rfl ?_
  refine P_aload_n dX7_cutOn_0 rfl rfl ?_
  refine P_bipush (v := nI 8) dX7_cutOn_1 (by decide) ?_
  refine P_iload_n dX7_cutOn_3 rfl rfl ?_
  refine P_iaddN dX7_cutOn_4 ?_
  refine P_iload_n dX7_cutOn_5 rfl rfl ?_
  refine P_bif_eq (tgt := 22) dX7_cutOn_6 (by decide) (fun c6 => ?_) (fun c6 => ?_)
  · refine P_aload_n dX7_cutOn_22 rfl rfl ?_
    refine P_bipush (v := nI 8) dX7_cutOn_23 (by decide) ?_
    refine P_iload_n dX7_cutOn_25 rfl rfl ?_
    refine P_iaddN dX7_cutOn_26 ?_
    refine P_ialdN (x := nI (gG S (8 + a))) (8 + a) dX7_cutOn_27 hr rfl (by omega) (by decide) (hR.g (by omega) (by omega)) ?_
    refine P_iconst (v := nI 1) dX7_cutOn_28 (by decide) ?_
    refine P_iload_n dX7_cutOn_29 rfl rfl ?_
    refine P_ishlN dX7_cutOn_30 (by omega) ?_
    refine P_iconst (v := -1) dX7_cutOn_31 (by decide) ?_
    refine P_ixor dX7_cutOn_32 ?_
    refine P_iand dX7_cutOn_33 ?_
    refine P_top (y := nI (mclr (gG S (8 + a)) d)) (cut_clr _ (hN.cut (by omega)) _ (by omega)) ?_
    refine P_iast (8 + a) dX7_cutOn_34 hr rfl (by omega) (by decide) ?_
    have hR1 : RR c (vU v r (8 + a) (nI (mclr (gG S (8 + a)) d))) r (sG S (8 + a) (mclr (gG S (8 + a)) d)) := (hR.G (i := 8 + a) (x := mclr (gG S (8 + a)) d) (by omega) (by omega) (by omega))
    have hO2 : vO9 v (vU v r (8 + a) (nI (mclr (gG S (8 + a)) d))) r := hO.u
    generalize vU v r (8 + a) (nI (mclr (gG S (8 + a)) d)) = v3 at hR1 hO2 ⊢
    have hN2 : NB c (sG S (8 + a) (mclr (gG S (8 + a)) d)) B := NB.G hN (i := 8 + a) (by omega) (by unfold okG; rw [if_pos (by omega)]; exact mclr_lt (hN.cut (by omega)) (by omega))
    refine P_aload_n dX7_cutOn_35 rfl rfl ?_
    refine P_bipush (v := nI 8) dX7_cutOn_36 (by decide) ?_
    refine P_iload_n dX7_cutOn_38 rfl rfl ?_
    refine P_iaddN dX7_cutOn_39 ?_
    refine P_iload_n dX7_cutOn_40 rfl rfl ?_
    refine P_bif_eq (tgt := 57) dX7_cutOn_41 (by decide) (fun c41 => ?_) (fun c41 => ?_)
    · refine P_aload_n dX7_cutOn_57 rfl rfl ?_
      refine P_bipush (v := nI 8) dX7_cutOn_58 (by decide) ?_
      refine P_iload_n dX7_cutOn_60 rfl rfl ?_
      refine P_iaddN dX7_cutOn_61 ?_
      refine P_ialdN (x := nI (gG (sG S (8 + a) (mclr (gG S (8 + a)) d)) (8 + d))) (8 + d) dX7_cutOn_62 hr rfl (by omega) (by decide) (hR1.g (by omega) (by omega)) ?_
      refine P_iconst (v := nI 1) dX7_cutOn_63 (by decide) ?_
      refine P_iload_n dX7_cutOn_64 rfl rfl ?_
      refine P_ishlN dX7_cutOn_65 (by omega) ?_
      refine P_iconst (v := -1) dX7_cutOn_66 (by decide) ?_
      refine P_ixor dX7_cutOn_67 ?_
      refine P_iand dX7_cutOn_68 ?_
      refine P_top (y := nI (mclr (gG (sG S (8 + a) (mclr (gG S (8 + a)) d)) (8 + d)) a)) (cut_clr _ (hN2.cut (by omega)) _ (by omega)) ?_
      refine P_iast (8 + d) dX7_cutOn_69 hr rfl (by omega) (by decide) ?_
      have hR4 : RR c (vU v3 r (8 + d) (nI (mclr (gG (sG S (8 + a) (mclr (gG S (8 + a)) d)) (8 + d)) a))) r (sG (sG S (8 + a) (mclr (gG S (8 + a)) d)) (8 + d) (mclr (gG (sG S (8 + a) (mclr (gG S (8 + a)) d)) (8 + d)) a)) := (hR1.G (i := 8 + d) (x := mclr (gG (sG S (8 + a) (mclr (gG S (8 + a)) d)) (8 + d)) a) (by omega) (by omega) (by omega))
      have hO5 : vO9 v (vU v3 r (8 + d) (nI (mclr (gG (sG S (8 + a) (mclr (gG S (8 + a)) d)) (8 + d)) a))) r := hO2.u
      generalize vU v3 r (8 + d) (nI (mclr (gG (sG S (8 + a) (mclr (gG S (8 + a)) d)) (8 + d)) a)) = v6 at hR4 hO5 ⊢
      rw [gG_o (S := S) (i := 8 + a) (j := 8 + d) (by omega)] at hR4
      have hR9 : RR c v6 r (mcut S a d cut) := by unfold mcut; rw [if_neg (by rw [c6]; exact Bool.false_ne_true)]; exact hR4
      have hN9 := hN.cut9 (a := a) (d := d) (by omega) (by omega) cut
      refine P_iconst (v := nI 0) dX7_cutOn_70 (by decide) ?_
      refine P_istore (ls2 := [some (.ref (r)), some (.int (nI (a))), some (.int (nI (d))), some (.int (vb (cut))), some (.int (nI (0))), none]) dX7_cutOn_71 (by decide) rfl ?_
      refine P_iconst (v := nI 0) dX7_cutOn_73 (by decide) ?_
      refine P_istore (ls2 := [some (.ref (r)), some (.int (nI (a))), some (.int (nI (d))), some (.int (vb (cut))), some (.int (nI (0))), some (.int (nI (0)))]) dX7_cutOn_74 (by decide) rfl ?_
      have hL76 : ∀ (n76 : Nat) (k : Nat), (k ≤ 6) → (k + n76 = 7) → vP M_X7_cutOn 76 [some (.ref (r)), some (.int (nI (a))), some (.int (nI (d))), some (.int (vb (cut))), some (.int (nI (msb (mcut S a d cut) k))), some (.int (nI (k)))] [] ((vRm M_X7_cutOn).cells, (vRm M_X7_cutOn).slots) (σ, v6) (vN (qS σ (some (.int (nI (mways (mcut S a d cut))))) (rP c v r (mcut S a d cut)))) := by
        intro n76
        induction n76 with
        | zero =>
          intro k h1 h2
          exact absurd h2 (by omega)
        | succ n76 ih76 =>
          intro k h1 h2
          refine P_iload dX7_cutOn_76 rfl ?_
          refine P_bipush (v := nI 6) dX7_cutOn_78 (by decide) ?_
          refine P_icmp_geN (tgt := 104) dX7_cutOn_80 (by decide) (by omega) (by omega) (fun c80 => ?_) (fun c80 => ?_)
          · refine P_iload dX7_cutOn_104 rfl ?_
            refine P_iconst (v := nI 2) dX7_cutOn_106 (by decide) ?_
            refine P_idivN dX7_cutOn_107 (by have := msb_le (S := mcut S a d cut) k; omega) (by decide) (by decide) ?_
            refine P_iret dX7_cutOn_108 rfl ?_
            refine q_s ?_ ⟨hR9, hO5⟩
            have ek : k = 6 := by omega
            rw [ek]; rfl
          · refine P_iload dX7_cutOn_83 rfl ?_
            refine P_aload_n dX7_cutOn_85 rfl rfl ?_
            refine P_bipush (v := nI 8) dX7_cutOn_86 (by decide) ?_
            refine P_iload dX7_cutOn_88 rfl ?_
            refine P_iaddN dX7_cutOn_90 ?_
            refine P_ialdN (x := nI (gG (mcut S a d cut) (8 + k))) (8 + k) dX7_cutOn_91 hr rfl (by omega) (by decide) (hR9.g (by omega) (by omega)) ?_
            refine P_cSp (rest := [.int (nI (msb (mcut S a d cut) k))]) (As := [.int (nI (gG (mcut S a d cut) (8 + k)))]) dX7_cutOn_92 lX7_120 yk_X7_bits ys_X7_bits (by decide) rfl rfl (Nat.le_of_ble_eq_true rfl) rfl (c_X7_bits (by have := hN9.cut (i := k) (by omega); omega)) ?_
            refine P_iaddN dX7_cutOn_95 ?_
            refine P_istore (ls2 := [some (.ref (r)), some (.int (nI (a))), some (.int (nI (d))), some (.int (vb (cut))), some (.int (nI (msb (mcut S a d cut) k + (mbits (gG (mcut S a d cut) (8 + k)) 24)))), some (.int (nI (k)))]) dX7_cutOn_96 (by decide) rfl ?_
            refine P_iinc (v := nI (k + 1)) (ls2 := [some (.ref (r)), some (.int (nI (a))), some (.int (nI (d))), some (.int (vb (cut))), some (.int (nI (msb (mcut S a d cut) k + (mbits (gG (mcut S a d cut) (8 + k)) 24)))), some (.int (nI (k + 1)))]) dX7_cutOn_98 rfl (nI_inc _ 1) (by decide) rfl ?_
            refine P_goto (tgt := 76) dX7_cutOn_101 (by decide) ?_
            exact ih76 (k + 1) (by omega) (by omega)
      exact hL76 7 0 (by omega) (by omega)
    · rw [c6] at c41; cases c41
  · refine P_aload_n dX7_cutOn_9 rfl rfl ?_
    refine P_bipush (v := nI 8) dX7_cutOn_10 (by decide) ?_
    refine P_iload_n dX7_cutOn_12 rfl rfl ?_
    refine P_iaddN dX7_cutOn_13 ?_
    refine P_ialdN (x := nI (gG S (8 + a))) (8 + a) dX7_cutOn_14 hr rfl (by omega) (by decide) (hR.g (by omega) (by omega)) ?_
    refine P_iconst (v := nI 1) dX7_cutOn_15 (by decide) ?_
    refine P_iload_n dX7_cutOn_16 rfl rfl ?_
    refine P_ishlN dX7_cutOn_17 (by omega) ?_
    refine P_iorN dX7_cutOn_18 ?_
    refine P_goto (tgt := 34) dX7_cutOn_19 (by decide) ?_
    refine P_iast (8 + a) dX7_cutOn_34 hr rfl (by omega) (by decide) ?_
    have hR7 : RR c (vU v r (8 + a) (nI ((gG S (8 + a)) ||| (1 <<< d)))) r (sG S (8 + a) ((gG S (8 + a)) ||| (1 <<< d))) := (hR.G (i := 8 + a) (x := (gG S (8 + a)) ||| (1 <<< d)) (by omega) (by omega) (by omega))
    have hO8 : vO9 v (vU v r (8 + a) (nI ((gG S (8 + a)) ||| (1 <<< d)))) r := hO.u
    generalize vU v r (8 + a) (nI ((gG S (8 + a)) ||| (1 <<< d))) = v9 at hR7 hO8 ⊢
    have hN2 : NB c (sG S (8 + a) ((gG S (8 + a)) ||| (1 <<< d))) B := NB.G hN (i := 8 + a) (by omega) (by unfold okG; rw [if_pos (by omega)]; exact or6 (hN.cut (by omega)) (sh6 (by omega)))
    refine P_aload_n dX7_cutOn_35 rfl rfl ?_
    refine P_bipush (v := nI 8) dX7_cutOn_36 (by decide) ?_
    refine P_iload_n dX7_cutOn_38 rfl rfl ?_
    refine P_iaddN dX7_cutOn_39 ?_
    refine P_iload_n dX7_cutOn_40 rfl rfl ?_
    refine P_bif_eq (tgt := 57) dX7_cutOn_41 (by decide) (fun c41 => ?_) (fun c41 => ?_)
    · rw [c6] at c41; cases c41
    · refine P_aload_n dX7_cutOn_44 rfl rfl ?_
      refine P_bipush (v := nI 8) dX7_cutOn_45 (by decide) ?_
      refine P_iload_n dX7_cutOn_47 rfl rfl ?_
      refine P_iaddN dX7_cutOn_48 ?_
      refine P_ialdN (x := nI (gG (sG S (8 + a) ((gG S (8 + a)) ||| (1 <<< d))) (8 + d))) (8 + d) dX7_cutOn_49 hr rfl (by omega) (by decide) (hR7.g (by omega) (by omega)) ?_
      refine P_iconst (v := nI 1) dX7_cutOn_50 (by decide) ?_
      refine P_iload_n dX7_cutOn_51 rfl rfl ?_
      refine P_ishlN dX7_cutOn_52 (by omega) ?_
      refine P_iorN dX7_cutOn_53 ?_
      refine P_goto (tgt := 69) dX7_cutOn_54 (by decide) ?_
      refine P_iast (8 + d) dX7_cutOn_69 hr rfl (by omega) (by decide) ?_
      have hR10 : RR c (vU v9 r (8 + d) (nI ((gG (sG S (8 + a) ((gG S (8 + a)) ||| (1 <<< d))) (8 + d)) ||| (1 <<< a)))) r (sG (sG S (8 + a) ((gG S (8 + a)) ||| (1 <<< d))) (8 + d) ((gG (sG S (8 + a) ((gG S (8 + a)) ||| (1 <<< d))) (8 + d)) ||| (1 <<< a))) := (hR7.G (i := 8 + d) (x := (gG (sG S (8 + a) ((gG S (8 + a)) ||| (1 <<< d))) (8 + d)) ||| (1 <<< a)) (by omega) (by omega) (by omega))
      have hO11 : vO9 v (vU v9 r (8 + d) (nI ((gG (sG S (8 + a) ((gG S (8 + a)) ||| (1 <<< d))) (8 + d)) ||| (1 <<< a)))) r := hO8.u
      generalize vU v9 r (8 + d) (nI ((gG (sG S (8 + a) ((gG S (8 + a)) ||| (1 <<< d))) (8 + d)) ||| (1 <<< a))) = v12 at hR10 hO11 ⊢
      rw [gG_o (S := S) (i := 8 + a) (j := 8 + d) (by omega)] at hR10
      have hR9 : RR c v12 r (mcut S a d cut) := by unfold mcut; rw [if_pos c6]; exact hR10
      have hN9 := hN.cut9 (a := a) (d := d) (by omega) (by omega) cut
      refine P_iconst (v := nI 0) dX7_cutOn_70 (by decide) ?_
      refine P_istore (ls2 := [some (.ref (r)), some (.int (nI (a))), some (.int (nI (d))), some (.int (vb (cut))), some (.int (nI (0))), none]) dX7_cutOn_71 (by decide) rfl ?_
      refine P_iconst (v := nI 0) dX7_cutOn_73 (by decide) ?_
      refine P_istore (ls2 := [some (.ref (r)), some (.int (nI (a))), some (.int (nI (d))), some (.int (vb (cut))), some (.int (nI (0))), some (.int (nI (0)))]) dX7_cutOn_74 (by decide) rfl ?_
      have hL76 : ∀ (n76 : Nat) (k : Nat), (k ≤ 6) → (k + n76 = 7) → vP M_X7_cutOn 76 [some (.ref (r)), some (.int (nI (a))), some (.int (nI (d))), some (.int (vb (cut))), some (.int (nI (msb (mcut S a d cut) k))), some (.int (nI (k)))] [] ((vRm M_X7_cutOn).cells, (vRm M_X7_cutOn).slots) (σ, v12) (vN (qS σ (some (.int (nI (mways (mcut S a d cut))))) (rP c v r (mcut S a d cut)))) := by
        intro n76
        induction n76 with
        | zero =>
          intro k h1 h2
          exact absurd h2 (by omega)
        | succ n76 ih76 =>
          intro k h1 h2
          refine P_iload dX7_cutOn_76 rfl ?_
          refine P_bipush (v := nI 6) dX7_cutOn_78 (by decide) ?_
          refine P_icmp_geN (tgt := 104) dX7_cutOn_80 (by decide) (by omega) (by omega) (fun c80 => ?_) (fun c80 => ?_)
          · refine P_iload dX7_cutOn_104 rfl ?_
            refine P_iconst (v := nI 2) dX7_cutOn_106 (by decide) ?_
            refine P_idivN dX7_cutOn_107 (by have := msb_le (S := mcut S a d cut) k; omega) (by decide) (by decide) ?_
            refine P_iret dX7_cutOn_108 rfl ?_
            refine q_s ?_ ⟨hR9, hO11⟩
            have ek : k = 6 := by omega
            rw [ek]; rfl
          · refine P_iload dX7_cutOn_83 rfl ?_
            refine P_aload_n dX7_cutOn_85 rfl rfl ?_
            refine P_bipush (v := nI 8) dX7_cutOn_86 (by decide) ?_
            refine P_iload dX7_cutOn_88 rfl ?_
            refine P_iaddN dX7_cutOn_90 ?_
            refine P_ialdN (x := nI (gG (mcut S a d cut) (8 + k))) (8 + k) dX7_cutOn_91 hr rfl (by omega) (by decide) (hR9.g (by omega) (by omega)) ?_
            refine P_cSp (rest := [.int (nI (msb (mcut S a d cut) k))]) (As := [.int (nI (gG (mcut S a d cut) (8 + k)))]) dX7_cutOn_92 lX7_120 yk_X7_bits ys_X7_bits (by decide) rfl rfl (Nat.le_of_ble_eq_true rfl) rfl (c_X7_bits (by have := hN9.cut (i := k) (by omega); omega)) ?_
            refine P_iaddN dX7_cutOn_95 ?_
            refine P_istore (ls2 := [some (.ref (r)), some (.int (nI (a))), some (.int (nI (d))), some (.int (vb (cut))), some (.int (nI (msb (mcut S a d cut) k + (mbits (gG (mcut S a d cut) (8 + k)) 24)))), some (.int (nI (k)))]) dX7_cutOn_96 (by decide) rfl ?_
            refine P_iinc (v := nI (k + 1)) (ls2 := [some (.ref (r)), some (.int (nI (a))), some (.int (nI (d))), some (.int (vb (cut))), some (.int (nI (msb (mcut S a d cut) k + (mbits (gG (mcut S a d cut) (8 + k)) 24)))), some (.int (nI (k + 1)))]) dX7_cutOn_98 rfl (nI_inc _ 1) (by decide) rfl ?_
            refine P_goto (tgt := 76) dX7_cutOn_101 (by decide) ?_
            exact ih76 (k + 1) (by omega) (by omega)
      exact hL76 7 0 (by omega) (by omega)
