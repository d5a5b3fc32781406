
/-- of the first n members, those who are so -/
def mwho (S : mS) (is : Nat) : Nat → Nat
  | 0 => 0
  | k + 1 => mwho S is k ||| (if gM S k 1 = is then 1 <<< k else 0)
theorem mwho_lt {S : mS} {is : Nat} : ∀ n, n ≤ 6 → mwho S is n < 64 := by
  intro n
  induction n with
  | zero => intro _; show 0 < 64; decide
  | succ n ih =>
    intro h
    refine or6 (ih (by omega)) ?_
    split
    · exact sh6 (by omega)
    · decide
abbrev msame (S : mS) (a d k l w : Nat) : Prop := (((gH S a).getD k t0).1 = ((gH S d).getD l t0).1 ∧ ((gH S a).getD k t0).2.1 = ((gH S d).getD l t0).2.1) ∧ (w = 0 ∨ ¬ ((gH S a).getD k t0).2.2 = ((gH S d).getD l t0).2.2)
def mcmpL (S : mS) (a d w k : Nat) : Nat → Nat
  | 0 => 0
  | l + 1 => mcmpL S a d w k l + (if msame S a d k l w then 1 else 0)
def mcmpK (S : mS) (a d w : Nat) : Nat → Nat
  | 0 => 0
  | k + 1 => mcmpK S a d w k + mcmpL S a d w k (gH S d).length
def mcmp (S : mS) (a d w : Nat) : Nat := mcmpK S a d w (gH S a).length
theorem mcmpL_le {S : mS} {a d w k : Nat} : ∀ l, mcmpL S a d w k l ≤ l := by
  intro l
  induction l with
  | zero => exact Nat.le_refl _
  | succ l ih => rw [mcmpL]; split <;> omega
theorem mcmpK_le {S : mS} {a d w : Nat} : ∀ k, mcmpK S a d w k ≤ k * (gH S d).length := by
  intro k
  induction k with
  | zero => exact Nat.zero_le _
  | succ k ih =>
    rw [mcmpK, Nat.succ_mul]
    have := mcmpL_le (S := S) (a := a) (d := d) (w := w) (k := k) (gH S d).length
    omega
def mthere (S : mS) (m num set : Nat) : Nat → Bool
  | 0 => true
  | k + 1 => mthere S m num set k && (!set.testBit k || decide (gM S k 1 = 0 ∧ gM S k 2 = num ∧ gM S k 3 = m))
theorem RR.s1 {c : Nat} {v : vV} {r : Nat} {S : mS} (h : RR c v r S) {m k : Nat} (hm : m < c) (hk : k < (gH S m).length) : v r (14 + 83 * m + (68 + 3 * k)) = nI ((gH S m).getD k t0).1 := by rw [show 14 + 83 * m + (68 + 3 * k) = 14 + 83 * m + 68 + 3 * k by omega]; exact (h.hr hm (getD_some hk)).1
theorem RR.s2 {c : Nat} {v : vV} {r : Nat} {S : mS} (h : RR c v r S) {m k : Nat} (hm : m < c) (hk : k < (gH S m).length) : v r (14 + 83 * m + (68 + 3 * k + 1)) = nI ((gH S m).getD k t0).2.1 := by rw [show 14 + 83 * m + (68 + 3 * k + 1) = 14 + 83 * m + 68 + 3 * k + 1 by omega]; exact (h.hr hm (getD_some hk)).2.1
theorem RR.s3 {c : Nat} {v : vV} {r : Nat} {S : mS} (h : RR c v r S) {m k : Nat} (hm : m < c) (hk : k < (gH S m).length) : v r (14 + 83 * m + (68 + 3 * k + 2)) = nI ((gH S m).getD k t0).2.2 := by rw [show 14 + 83 * m + (68 + 3 * k + 2) = 14 + 83 * m + 68 + 3 * k + 2 by omega]; exact (h.hr hm (getD_some hk)).2.2
theorem NB.hd {c B : Nat} {S : mS} (h : NB c S B) {m k : Nat} (hk : k < (gH S m).length) : ((gH S m).getD k t0).1 ≤ B ∧ ((gH S m).getD k t0).2.1 < 6 ∧ ((gH S m).getD k t0).2.2 < 16777216 := h.h (List.mem_of_getElem? (getD_some hk))
set_option maxHeartbeats 4000000 in
set_option maxRecDepth 100000 in
theorem c_X7_ticksOn {σ : vS} {v : vV} {c r : Nat} {S : mS} {q n B : Nat} (hq : LR σ q) (hr : vK σ r 8 2012) (hR : RR c v r S) (hrq : r ≠ q + 7) (hN : NB c S B) (hB : B + 100000 < 1000000000) (hI : Iv c 1 S) (hn : n ≤ 60) : vC M_X7_ticksOn yX7_ticksOn [.ref (q), .ref (r), .int (nI (n))] (σ, v) (qS σ (some (.int (nI (gG (mticks n S) 6 - gG S 6)))) (fun v9 => RR c v9 r (mticks n S) ∧ vO2 v v9 r (q + 7))) := by
  have hc6 := hR.c6
  have hO : vO2 v v r (q + 7) := vO2.rf
  refine vC_of (ls := [some (.ref (q)), some (.ref (r)), some (.int (nI (n))), none, none]) pn_X7 rfl rfl (Nat.le_of_ble_eq_true rfl) rfl ?_
  refine P_aload_n dX7_ticksOn_0 rfl rfl ?_
  refine P_bipush (v := nI 6) dX7_ticksOn_1 (by decide) ?_
  refine P_ialdN (x := nI (gG S 6)) (6) dX7_ticksOn_3 hr rfl (by omega) (by decide) (hR.g (by decide) (by decide)) ?_
  refine P_istore_n (ls2 := [some (.ref (q)), some (.ref (r)), some (.int (nI (n))), some (.int (nI (gG S 6))), none]) dX7_ticksOn_4 rfl (by decide) rfl ?_
  refine P_iconst (v := nI 0) dX7_ticksOn_5 (by decide) ?_
  refine P_istore (ls2 := [some (.ref (q)), some (.ref (r)), some (.int (nI (n))), some (.int (nI (gG S 6))), some (.int (nI (0)))]) dX7_ticksOn_6 (by decide) rfl ?_
  have hL8 : ∀ (n8 : Nat) (k : Nat) (v1 : vV), (k ≤ n) → (k + n8 = n + 1) → (RR c v1 r (mticks k S)) → (vO2 v v1 r (q + 7)) → vP M_X7_ticksOn 8 [some (.ref (q)), some (.ref (r)), some (.int (nI (n))), some (.int (nI (gG S 6))), some (.int (nI (k)))] [] ((vRm M_X7_ticksOn).cells, (vRm M_X7_ticksOn).slots) (σ, v1) (vN (qS σ (some (.int (nI (gG (mticks n S) 6 - gG S 6)))) (fun v9 => RR c v9 r (mticks n S) ∧ vO2 v v9 r (q + 7)))) := by
    intro n8
    induction n8 with
    | zero =>
      intro k v1 h1 h2 hRk hOk
      exact absurd h2 (by omega)
    | succ n8 ih8 =>
      intro k v1 h1 h2 hRk hOk
      have hNk := hN.ticks k
      refine P_iload dX7_ticksOn_8 rfl ?_
      refine P_iload_n dX7_ticksOn_10 rfl rfl ?_
      refine P_icmp_geN (tgt := 25) dX7_ticksOn_11 (by decide) (by omega) (by omega) (fun c11 => ?_) (fun c11 => ?_)
      · refine P_aload_n dX7_ticksOn_25 rfl rfl ?_
        refine P_bipush (v := nI 6) dX7_ticksOn_26 (by decide) ?_
        refine P_ialdN (x := nI (gG (mticks k S) 6)) (6) dX7_ticksOn_28 hr rfl (by omega) (by decide) (hRk.g (by decide) (by decide)) ?_
        refine P_iload_n dX7_ticksOn_29 rfl rfl ?_
        refine P_isubN dX7_ticksOn_30 (by exact ticks_6 k) ?_
        refine P_iret dX7_ticksOn_31 rfl ?_
        have ek : k = n := by omega
        rw [ek] at hRk ⊢
        exact q_s rfl ⟨hRk, hOk⟩
      · refine P_aload_n dX7_ticksOn_14 rfl rfl ?_
        refine P_aload_n dX7_ticksOn_15 rfl rfl ?_
        refine P_cVs (rest := []) (As := [.ref (r)]) dX7_ticksOn_16 lX7_109 yk_X7_tick yv_X7_tick kX7 rfl (by decide) hq.o rfl rfl (Nat.le_of_ble_eq_true rfl) rfl (c_X7_tick hq hr hRk hrq hNk (by omega) (hI.ticks hN k)) (fun v2 ⟨hR2, hO2⟩ => ?_)
        refine P_iinc (v := nI (k + 1)) (ls2 := [some (.ref (q)), some (.ref (r)), some (.int (nI (n))), some (.int (nI (gG S 6))), some (.int (nI (k + 1)))]) dX7_ticksOn_19 rfl (nI_inc _ 1) (by decide) rfl ?_
        refine P_goto (tgt := 8) dX7_ticksOn_22 (by decide) ?_
        exact ih8 (k + 1) v2 (by omega) (by omega) hR2 (hOk.tr hO2)
  exact hL8 (n + 1) 0 v (by omega) (by omega) hR hO
set_option maxHeartbeats 4000000 in
set_option maxRecDepth 100000 in
theorem c_X7_copyState {σ : vS} {v : vV} {r t fa ta nr nt : Nat} (hr : vK σ r 8 nr) (ht : vK σ t 8 nt) (hrt : r ≠ t) (h1 : fa + 2012 ≤ nr) (h2 : ta + 2012 ≤ nt) (hnr : nr < 100000) (hnt : nt < 100000) : vC M_X7_copyState yX7_copyState [.ref (r), .int (nI (fa)), .ref (t), .int (nI (ta))] (σ, v) (qS σ none (fun v9 => vO9 v v9 t ∧ ∀ i, v9 t i = if ta ≤ i ∧ i < ta + 2012 then v r (fa + (i - ta)) else v t i)) := by
  refine vC_of (ls := [some (.ref (r)), some (.int (nI (fa))), some (.ref (t)), some (.int (nI (ta))), none]) pn_X7 rfl rfl (Nat.le_of_ble_eq_true rfl) rfl ?_
  refine P_iconst (v := nI 0) dX7_copyState_0 (by decide) ?_
  refine P_istore (ls2 := [some (.ref (r)), some (.int (nI (fa))), some (.ref (t)), some (.int (nI (ta))), some (.int (nI (0)))]) dX7_copyState_1 (by decide) rfl ?_
  have hL3 : ∀ (n3 : Nat) (k : Nat) (v1 : vV), (k ≤ 2012) → (k + n3 = 2013) → (vO9 v v1 t) → (∀ i, v1 t i = if ta ≤ i ∧ i < ta + k then v r (fa + (i - ta)) else v t i) → vP M_X7_copyState 3 [some (.ref (r)), some (.int (nI (fa))), some (.ref (t)), some (.int (nI (ta))), some (.int (nI (k)))] [] ((vRm M_X7_copyState).cells, (vRm M_X7_copyState).slots) (σ, v1) (vN (qS σ none (fun v9 => vO9 v v9 t ∧ ∀ i, v9 t i = if ta ≤ i ∧ i < ta + 2012 then v r (fa + (i - ta)) else v t i))) := by
    intro n3
    induction n3 with
    | zero =>
      intro k v1 h1 h2 h9 hs
      exact absurd h2 (by omega)
    | succ n3 ih3 =>
      intro k v1 h1 h2 h9 hs
      refine P_iload dX7_copyState_3 rfl ?_
      refine P_sipush (v := nI 2012) dX7_copyState_5 (by decide) ?_
      refine P_icmp_geN (tgt := 29) dX7_copyState_8 (by decide) (by omega) (by omega) (fun c8 => ?_) (fun c8 => ?_)
      · refine P_vret dX7_copyState_29 rfl ?_
        refine q_s rfl ⟨h9, fun i => ?_⟩
        rw [hs, show k = 2012 by omega]
      · refine P_aload_n dX7_copyState_11 rfl rfl ?_
        refine P_iload_n dX7_copyState_12 rfl rfl ?_
        refine P_iload dX7_copyState_13 rfl ?_
        refine P_iaddN dX7_copyState_15 ?_
        refine P_aload_n dX7_copyState_16 rfl rfl ?_
        refine P_iload_n dX7_copyState_17 rfl rfl ?_
        refine P_iload dX7_copyState_18 rfl ?_
        refine P_iaddN dX7_copyState_20 ?_
        refine P_ialdN (x := (v r (fa + k))) (fa + k) dX7_copyState_21 hr rfl (by omega) (by omega) (by rw [h9 r hrt]) ?_
        refine P_iast (ta + k) dX7_copyState_22 ht rfl (by omega) (by omega) ?_
        refine P_iinc (v := nI (k + 1)) (ls2 := [some (.ref (r)), some (.int (nI (fa))), some (.ref (t)), some (.int (nI (ta))), some (.int (nI (k + 1)))]) dX7_copyState_23 rfl (nI_inc _ 1) (by decide) rfl ?_
        refine P_goto (tgt := 3) dX7_copyState_26 (by decide) ?_
        refine ih3 (k + 1) _ (by omega) (by omega) h9.u (fun i => ?_)
        by_cases e : i = ta + k
        · subst e; rw [vU_s, if_pos (by omega)]; congr 1; omega
        · rw [vU_o (Or.inr e), hs]
          by_cases e2 : ta ≤ i ∧ i < ta + k
          · rw [if_pos e2, if_pos (by omega)]
          · rw [if_neg e2, if_neg (by omega)]
  exact hL3 2013 0 v (by omega) (by omega) vO9.rf (fun i => by rw [if_neg (by omega)])
set_option maxHeartbeats 4000000 in
set_option maxRecDepth 100000 in
theorem c_X7_clear {σ : vS} {v : vV} {r : Nat} (hr : vK σ r 8 2012) : vC M_X7_clear yX7_clear [.ref (r)] (σ, v) (qS σ none (fun v9 => vO9 v v9 r ∧ ∀ i, i < 2012 → v9 r i = nI 0)) := by
  refine vC_of (ls := [some (.ref (r)), none]) pn_X7 rfl rfl (Nat.le_of_ble_eq_true rfl) rfl ?_
  refine P_iconst (v := nI 0) dX7_clear_0 (by decide) ?_
  refine P_istore_n (ls2 := [some (.ref (r)), some (.int (nI (0)))]) dX7_clear_1 rfl (by decide) rfl ?_
  have hL2 : ∀ (n2 : Nat) (k : Nat) (v1 : vV), (k ≤ 2012) → (k + n2 = 2013) → (vO9 v v1 r) → (∀ i, i < k → v1 r i = nI 0) → vP M_X7_clear 2 [some (.ref (r)), some (.int (nI (k)))] [] ((vRm M_X7_clear).cells, (vRm M_X7_clear).slots) (σ, v1) (vN (qS σ none (fun v9 => vO9 v v9 r ∧ ∀ i, i < 2012 → v9 r i = nI 0))) := by
    intro n2
    induction n2 with
    | zero =>
      intro k v1 h1 h2 h9 hs
      exact absurd h2 (by omega)
    | succ n2 ih2 =>
      intro k v1 h1 h2 h9 hs
      refine P_iload_n dX7_clear_2 rfl rfl ?_
      refine P_sipush (v := nI 2012) dX7_clear_3 (by decide) ?_
      refine P_icmp_geN (tgt := 19) dX7_clear_6 (by decide) (by omega) (by omega) (fun c6 => ?_) (fun c6 => ?_)
      · refine P_vret dX7_clear_19 rfl ?_
        exact q_s rfl ⟨h9, fun i hi => hs i (by omega)⟩
      · refine P_aload_n dX7_clear_9 rfl rfl ?_
        refine P_iload_n dX7_clear_10 rfl rfl ?_
        refine P_iconst (v := nI 0) dX7_clear_11 (by decide) ?_
        refine P_iast (k) dX7_clear_12 hr rfl (by omega) (by decide) ?_
        refine P_iinc (v := nI (k + 1)) (ls2 := [some (.ref (r)), some (.int (nI (k + 1)))]) dX7_clear_13 rfl (nI_inc _ 1) (by decide) rfl ?_
        refine P_goto (tgt := 2) dX7_clear_16 (by decide) ?_
        refine ih2 (k + 1) _ (by omega) (by omega) h9.u (fun i hi => ?_)
        by_cases e : i = k
        · subst e; exact vU_s
        · rw [vU_o (Or.inr e)]; exact hs i (by omega)
  exact hL2 2013 0 v (by omega) (by omega) vO9.rf (fun i hi => absurd hi (by omega))
set_option maxHeartbeats 4000000 in
set_option maxRecDepth 100000 in
theorem c_X7_thoseWho {σ : vS} {v : vV} {c r : Nat} {S : mS} {is B : Nat} (hr : vK σ r 8 2012) (hR : RR c v r S) (hN : NB c S B) (his : is < 3) : vC M_X7_thoseWho yX7_thoseWho [.ref (r), .int (nI (is))] (σ, v) (qP (σ, v) (.int (nI (mwho S is c)))) := by
  have hc6 := hR.c6
  refine vC_of (ls := [some (.ref (r)), some (.int (nI (is))), none, none]) pn_X7 rfl rfl (Nat.le_of_ble_eq_true rfl) rfl ?_
  refine P_iconst (v := nI 0) dX7_thoseWho_0 (by decide) ?_
  refine P_istore_n (ls2 := [some (.ref (r)), some (.int (nI (is))), some (.int (nI (0))), none]) dX7_thoseWho_1 rfl (by decide) rfl ?_
  refine P_iconst (v := nI 0) dX7_thoseWho_2 (by decide) ?_
  refine P_istore_n (ls2 := [some (.ref (r)), some (.int (nI (is))), some (.int (nI (0))), some (.int (nI (0)))]) dX7_thoseWho_3 rfl (by decide) rfl ?_
  have hL4 : ∀ (n4 : Nat) (k : Nat), (k ≤ c) → (k + n4 = c + 1) → vP M_X7_thoseWho 4 [some (.ref (r)), some (.int (nI (is))), some (.int (nI (mwho S is k))), some (.int (nI (k)))] [] ((vRm M_X7_thoseWho).cells, (vRm M_X7_thoseWho).slots) (σ, v) (vN (qP (σ, v) (.int (nI (mwho S is c))))) := by
    intro n4
    induction n4 with
    | zero =>
      intro k h1 h2
      exact absurd h2 (by omega)
    | succ n4 ih4 =>
      intro k h1 h2
      refine P_iload_n dX7_thoseWho_4 rfl rfl ?_
      refine P_aload_n dX7_thoseWho_5 rfl rfl ?_
      refine P_iconst (v := nI 0) dX7_thoseWho_6 (by decide) ?_
      refine P_ialdN (x := nI (c)) (0) dX7_thoseWho_7 hr rfl (by omega) (by decide) hR.cc ?_
      refine P_icmp_geN (tgt := 37) dX7_thoseWho_8 (by decide) (by omega) (by omega) (fun c8 => ?_) (fun c8 => ?_)
      · refine P_iload_n dX7_thoseWho_37 rfl rfl ?_
        refine P_iret dX7_thoseWho_38 rfl ?_
        have ek : k = c := by omega
        rw [ek]
        exact q_n rfl
      · refine P_iload_n dX7_thoseWho_11 rfl rfl ?_
        refine P_aload_n dX7_thoseWho_12 rfl rfl ?_
        refine P_iload_n dX7_thoseWho_13 rfl rfl ?_
        refine P_iconst (v := nI 1) dX7_thoseWho_14 (by decide) ?_
        refine P_cSp (rest := [.int (nI (mwho S is k))]) (As := [.ref (r), .int (nI (k)), .int (nI (1))]) dX7_thoseWho_15 lX7_44 yk_X7_of ys_X7_of (by decide) rfl rfl (Nat.le_of_ble_eq_true rfl) rfl (c_X7_of hr (by omega) (by decide)) ?_
        refine P_top (y := (nI (gM S k 1))) (hR.m (by omega) (by decide)) ?_
        refine P_iload_n dX7_thoseWho_18 rfl rfl ?_
        refine P_icmp_neN (tgt := 28) dX7_thoseWho_19 (by decide) (by first | omega | (have := hN.m1 k; omega)) (by first | omega | (have := hN.m1 k; omega)) (fun c19 => ?_) (fun c19 => ?_)
        · refine P_iconst (v := nI 0) dX7_thoseWho_28 (by decide) ?_
          refine P_iorN dX7_thoseWho_29 ?_
          refine P_istore_n (ls2 := [some (.ref (r)), some (.int (nI (is))), some (.int (nI ((mwho S is k) ||| 0))), some (.int (nI (k)))]) dX7_thoseWho_30 rfl (by decide) rfl ?_
          refine P_iinc (v := nI (k + 1)) (ls2 := [some (.ref (r)), some (.int (nI (is))), some (.int (nI ((mwho S is k) ||| 0))), some (.int (nI (k + 1)))]) dX7_thoseWho_31 rfl (nI_inc _ 1) (by decide) rfl ?_
          refine P_goto (tgt := 4) dX7_thoseWho_34 (by decide) ?_
          rw [show mwho S is k ||| 0 = mwho S is (k + 1) by rw [mwho, if_neg c19]]
          exact ih4 (k + 1) (by omega) (by omega)
        · refine P_iconst (v := nI 1) dX7_thoseWho_22 (by decide) ?_
          refine P_iload_n dX7_thoseWho_23 rfl rfl ?_
          refine P_ishlN dX7_thoseWho_24 (by omega) ?_
          refine P_goto (tgt := 29) dX7_thoseWho_25 (by decide) ?_
          refine P_iorN dX7_thoseWho_29 ?_
          refine P_istore_n (ls2 := [some (.ref (r)), some (.int (nI (is))), some (.int (nI ((mwho S is k) ||| (1 <<< k)))), some (.int (nI (k)))]) dX7_thoseWho_30 rfl (by decide) rfl ?_
          refine P_iinc (v := nI (k + 1)) (ls2 := [some (.ref (r)), some (.int (nI (is))), some (.int (nI ((mwho S is k) ||| (1 <<< k)))), some (.int (nI (k + 1)))]) dX7_thoseWho_31 rfl (nI_inc _ 1) (by decide) rfl ?_
          refine P_goto (tgt := 4) dX7_thoseWho_34 (by decide) ?_
          rw [show mwho S is k ||| 1 <<< k = mwho S is (k + 1) by rw [mwho, if_pos c19]]
          exact ih4 (k + 1) (by omega) (by omega)
  exact hL4 (c + 1) 0 (by omega) (by omega)
set_option maxHeartbeats 4000000 in
set_option maxRecDepth 100000 in
theorem c_X7_standsNow {σ : vS} {v : vV} {c : Nat} {S : mS} {q m num B : Nat} (hq : LR σ q) (hR : RR c v (q + 3) S) (hN : NB c S B) (hm : m < c) (hB : B < 1000000000) (hn : num < 2147483648) : vC M_X7_standsNow yX7_standsNow [.ref (q), .int (nI (m)), .int (nI (num))] (σ, v) (qP (σ, v) (.int (vb (decide (gM S m 2 = num ∧ gM S m 3 = m))))) := by
  have hc6 := hR.c6
  refine vC_of (ls := [some (.ref (q)), some (.int (nI (m))), some (.int (nI (num)))]) pn_X7 rfl rfl (Nat.le_of_ble_eq_true rfl) rfl ?_
  refine P_aload_n dX7_standsNow_0 rfl rfl ?_
  refine P_getr (t := q + 3) dX7_standsNow_1 kX7 fX7_16 rfl (by decide) hq.o hq.r3 hq.k3.1.2 ?_
  refine P_iload_n dX7_standsNow_4 rfl rfl ?_
  refine P_iconst (v := nI 2) dX7_standsNow_5 (by decide) ?_
  refine P_cSp (rest := []) (As := [.ref (q + 3), .int (nI (m)), .int (nI (2))]) dX7_standsNow_6 lX7_44 yk_X7_of ys_X7_of (by decide) rfl rfl (Nat.le_of_ble_eq_true rfl) rfl (c_X7_of hq.k3 (by omega) (by decide)) ?_
  refine P_top (y := (nI (gM S m 2))) (hR.m (by omega) (by decide)) ?_
  refine P_iload_n dX7_standsNow_9 rfl rfl ?_
  refine P_icmp_neN (tgt := 30) dX7_standsNow_10 (by decide) (by have := hN.m2 m; omega) (by omega) (fun c10 => ?_) (fun c10 => ?_)
  · refine P_iconst (v := nI 0) dX7_standsNow_30 (by decide) ?_
    refine P_zret dX7_standsNow_31 rfl (by decide) ?_
    exact q_fD (fun e => c10 e.1)
  · refine P_aload_n dX7_standsNow_13 rfl rfl ?_
    refine P_getr (t := q + 3) dX7_standsNow_14 kX7 fX7_16 rfl (by decide) hq.o hq.r3 hq.k3.1.2 ?_
    refine P_iload_n dX7_standsNow_17 rfl rfl ?_
    refine P_iconst (v := nI 3) dX7_standsNow_18 (by decide) ?_
    refine P_cSp (rest := []) (As := [.ref (q + 3), .int (nI (m)), .int (nI (3))]) dX7_standsNow_19 lX7_44 yk_X7_of ys_X7_of (by decide) rfl rfl (Nat.le_of_ble_eq_true rfl) rfl (c_X7_of hq.k3 (by omega) (by decide)) ?_
    refine P_top (y := (nI (gM S m 3))) (hR.m (by omega) (by decide)) ?_
    refine P_iload_n dX7_standsNow_22 rfl rfl ?_
    refine P_icmp_neN (tgt := 30) dX7_standsNow_23 (by decide) (by have := hN.m3 m; omega) (by omega) (fun c23 => ?_) (fun c23 => ?_)
    · refine P_iconst (v := nI 0) dX7_standsNow_30 (by decide) ?_
      refine P_zret dX7_standsNow_31 rfl (by decide) ?_
      exact q_fD (fun e => c23 e.2)
    · refine P_iconst (v := nI 1) dX7_standsNow_26 (by decide) ?_
      refine P_goto (tgt := 31) dX7_standsNow_27 (by decide) ?_
      refine P_zret dX7_standsNow_31 rfl (by decide) ?_
      exact q_tD ⟨c10, c23⟩
