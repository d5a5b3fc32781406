
theorem getD_mem {α : Type} {l : List α} {k : Nat} {d : α} (hk : k < l.length) : l.getD k d ∈ l := List.mem_of_getElem? (getD_some hk)
theorem mat_step {L : List mN} {t p : Nat} (h : 0 < p) (g : t < (L.getD (p - 1) n0) 3) : mat L t p = mat L t (p - 1) := by
  obtain ⟨q, rfl⟩ : ∃ q, p = q + 1 := ⟨p - 1, by omega⟩
  rw [Nat.add_sub_cancel] at g ⊢
  rw [mat, if_pos g]
theorem mat_stop {L : List mN} {t p : Nat} (h : 0 < p → (L.getD (p - 1) n0) 3 ≤ t) : mat L t p = p := by
  cases p with
  | zero => rfl
  | succ q =>
    have := h (Nat.succ_pos q)
    rw [Nat.add_sub_cancel] at this
    rw [mat, if_neg (by omega)]
theorem mins_get {L : List mN} {p : Nat} {x : mN} (hp : p ≤ L.length) (k : Nat) : (mins L p x)[k]? = if k < p then L[k]? else if k = p then some x else L[k - 1]? := by
  have hl : (L.take p).length = p := by rw [List.length_take]; omega
  unfold mins
  by_cases h : k < p
  · rw [if_pos h, List.getElem?_append_left (by omega), List.getElem?_take_of_lt h]
  · rw [if_neg h, List.getElem?_append_right (by omega), hl]
    by_cases e : k = p
    · subst e; rw [if_pos rfl, Nat.sub_self]; rfl
    · rw [if_neg e]
      obtain ⟨d, rfl⟩ : ∃ d, k = p + 1 + d := ⟨k - p - 1, by omega⟩
      rw [show p + 1 + d - p = d + 1 by omega, List.getElem?_cons_succ, List.getElem?_drop]
      congr 1; omega
theorem RR.ins {c : Nat} {v v3 : vV} {r : Nat} {S : mS} {p : Nat} {x : mN} (h : RR c v r S) (hl : (gN S).length < 150) (hp : p ≤ (gN S).length) (e2 : v3 r 2 = nI ((gN S).length + 1)) (e0 : ∀ i, i < 512 → i ≠ 2 → v3 r i = v r i) (ea : ∀ i, 512 ≤ i → i < 512 + 10 * p → v3 r i = v r i) (ex : ∀ j, j < 10 → v3 r (512 + 10 * p + j) = nI (x j)) (eb : ∀ i, 522 + 10 * p ≤ i → i < 522 + 10 * (gN S).length → v3 r i = v r (i - 10)) : RR c v3 r (sN S (mins (gN S) p x)) := by
  obtain ⟨ha, hc, h1, h2, h3, h4, h5, h6, b2, b3, b4⟩ := h
  have hlen := mins_len (L := gN S) (x := x) hp
  refine ⟨ha, hc, fun i a q => by rw [e0 i (by omega) q]; exact h1 i a q, by rw [e2]; exact congrArg nI hlen.symm, fun m a w q => by rw [e0 _ (by omega) (by omega)]; exact h3 m a w q, fun m a => ⟨by rw [e0 _ (by omega) (by omega)]; exact (h4 m a).1, fun k t q => ?_⟩, fun m a => ⟨by rw [e0 _ (by omega) (by omega)]; exact (h5 m a).1, fun k t q => ?_⟩, fun k y q j a => ?_, b2, b3, ?_⟩
  · have q1 : k < (gK S m).length := (List.getElem?_eq_some_iff.mp q).1; have := b2 m
    rw [e0 _ (by omega) (by omega), e0 _ (by omega) (by omega), e0 _ (by omega) (by omega)]; exact (h4 m a).2 k t q
  · have q1 : k < (gH S m).length := (List.getElem?_eq_some_iff.mp q).1; have := b3 m
    rw [e0 _ (by omega) (by omega), e0 _ (by omega) (by omega), e0 _ (by omega) (by omega)]; exact (h5 m a).2 k t q
  · have q' : (mins (gN S) p x)[k]? = some y := q
    have q1 : k < (mins (gN S) p x).length := (List.getElem?_eq_some_iff.mp q').1
    rw [mins_get hp] at q'
    by_cases g : k < p
    · rw [if_pos g] at q'
      rw [ea _ (by omega) (by omega)]; exact h6 k y q' j a
    · rw [if_neg g] at q'
      by_cases e : k = p
      · rw [if_pos e] at q'
        cases q'; subst e; exact ex j a
      · rw [if_neg e] at q'
        rw [eb _ (by omega) (by omega), show 512 + 10 * k + j - 10 = 512 + 10 * (k - 1) + j by omega]; exact h6 (k - 1) y q' j a
  · show (mins (gN S) p x).length ≤ 150
    omega
theorem msend_lost {S : mS} {kd frm to num by9 data : Nat} (h : (gG S (8 + frm)).testBit to = true ∨ (gN S).length = 150) : msend S kd frm to num by9 data = sG S 3 (gG S 3 + 1) := by unfold msend; rw [if_pos h]
theorem msend_in {S : mS} {kd frm to num by9 data p : Nat} (h1 : (gG S (8 + frm)).testBit to = false) (h2 : ¬ (gN S).length = 150) (hp : mat (gN S) (gG S 1 + mfar S frm to) (gN S).length = p) : msend S kd frm to num by9 data = sN S (mins (gN S) p (mnote kd frm to (gG S 1 + mfar S frm to) num by9 data (gM S frm 2) (gM S frm 3) (gM S frm 4))) := by
  unfold msend
  rw [if_neg (fun q => q.elim (fun g => by rw [h1] at g; cases g) h2), hp]
set_option maxHeartbeats 4000000 in
set_option maxRecDepth 100000 in
theorem c_X7_enter {σ : vS} {v : vV} {c r : Nat} {S : mS} {m num by9 set : Nat} (hr : vK σ r 8 2012) (hR : RR c v r S) (hm : m < c) : vC M_X7_enter yX7_enter [.ref (r), .int (nI (m)), .int (nI (num)), .int (nI (by9)), .int (nI (set))] (σ, v) (qS σ none (rP c v r (menter S m num by9 set))) := by
  have hc6 := hR.c6
  have hO : vO9 v v r := vO9.rf
  refine vC_of (ls := [some (.ref (r)), some (.int (nI (m))), some (.int (nI (num))), some (.int (nI (by9))), some (.int (nI (set)))]) pn_X7 rfl rfl (Nat.le_of_ble_eq_true rfl) rfl ?_
  refine P_aload_n dX7_enter_0 rfl rfl ?_
  refine P_iload_n dX7_enter_1 rfl rfl ?_
  refine P_iconst (v := nI 1) dX7_enter_2 (by decide) ?_
  refine P_iconst (v := nI 0) dX7_enter_3 (by decide) ?_
  refine P_cSs (rest := []) (As := [.ref (r), .int (nI (m)), .int (nI (1)), .int (nI (0))]) dX7_enter_4 lX7_58 yk_X7_lay ys_X7_lay (by decide) rfl rfl (Nat.le_of_ble_eq_true rfl) rfl (c_X7_lay hr (by omega) (by decide)) (fun v3 e4 => ?_)
  have hR1 : RR c v3 r (sM S m 1 0) := by rw [e4]; exact hR.M (by omega) (by decide)
  have hO2 : vO9 v v3 r := by rw [e4]; exact hO.u
  clear e4
  refine P_aload_n dX7_enter_7 rfl rfl ?_
  refine P_iload_n dX7_enter_8 rfl rfl ?_
  refine P_iconst (v := nI 2) dX7_enter_9 (by decide) ?_
  refine P_iload_n dX7_enter_10 rfl rfl ?_
  refine P_cSs (rest := []) (As := [.ref (r), .int (nI (m)), .int (nI (2)), .int (nI (num))]) dX7_enter_11 lX7_58 yk_X7_lay ys_X7_lay (by decide) rfl rfl (Nat.le_of_ble_eq_true rfl) rfl (c_X7_lay hr (by omega) (by decide)) (fun v7 e8 => ?_)
  have hR5 : RR c v7 r (sM (sM S m 1 0) m 2 num) := by rw [e8]; exact hR1.M (by omega) (by decide)
  have hO6 : vO9 v v7 r := by rw [e8]; exact hO2.u
  clear e8
  refine P_aload_n dX7_enter_14 rfl rfl ?_
  refine P_iload_n dX7_enter_15 rfl rfl ?_
  refine P_iconst (v := nI 3) dX7_enter_16 (by decide) ?_
  refine P_iload_n dX7_enter_17 rfl rfl ?_
  refine P_cSs (rest := []) (As := [.ref (r), .int (nI (m)), .int (nI (3)), .int (nI (by9))]) dX7_enter_18 lX7_58 yk_X7_lay ys_X7_lay (by decide) rfl rfl (Nat.le_of_ble_eq_true rfl) rfl (c_X7_lay hr (by omega) (by decide)) (fun v11 e12 => ?_)
  have hR9 : RR c v11 r (sM (sM (sM S m 1 0) m 2 num) m 3 by9) := by rw [e12]; exact hR5.M (by omega) (by decide)
  have hO10 : vO9 v v11 r := by rw [e12]; exact hO6.u
  clear e12
  refine P_aload_n dX7_enter_21 rfl rfl ?_
  refine P_iload_n dX7_enter_22 rfl rfl ?_
  refine P_iconst (v := nI 4) dX7_enter_23 (by decide) ?_
  refine P_iload dX7_enter_24 rfl ?_
  refine P_cSs (rest := []) (As := [.ref (r), .int (nI (m)), .int (nI (4)), .int (nI (set))]) dX7_enter_26 lX7_58 yk_X7_lay ys_X7_lay (by decide) rfl rfl (Nat.le_of_ble_eq_true rfl) rfl (c_X7_lay hr (by omega) (by decide)) (fun v15 e16 => ?_)
  have hR13 : RR c v15 r (sM (sM (sM (sM S m 1 0) m 2 num) m 3 by9) m 4 set) := by rw [e16]; exact hR9.M (by omega) (by decide)
  have hO14 : vO9 v v15 r := by rw [e16]; exact hO10.u
  clear e16
  refine P_aload_n dX7_enter_29 rfl rfl ?_
  refine P_iload_n dX7_enter_30 rfl rfl ?_
  refine P_iconst (v := nI 5) dX7_enter_31 (by decide) ?_
  refine P_iconst (v := nI 0) dX7_enter_32 (by decide) ?_
  refine P_cSs (rest := []) (As := [.ref (r), .int (nI (m)), .int (nI (5)), .int (nI (0))]) dX7_enter_33 lX7_58 yk_X7_lay ys_X7_lay (by decide) rfl rfl (Nat.le_of_ble_eq_true rfl) rfl (c_X7_lay hr (by omega) (by decide)) (fun v19 e20 => ?_)
  have hR17 : RR c v19 r (sM (sM (sM (sM (sM S m 1 0) m 2 num) m 3 by9) m 4 set) m 5 0) := by rw [e20]; exact hR13.M (by omega) (by decide)
  have hO18 : vO9 v v19 r := by rw [e20]; exact hO14.u
  clear e20
  refine P_aload_n dX7_enter_36 rfl rfl ?_
  refine P_iload_n dX7_enter_37 rfl rfl ?_
  refine P_bipush (v := nI 7) dX7_enter_38 (by decide) ?_
  refine P_iconst (v := nI 0) dX7_enter_40 (by decide) ?_
  refine P_cSs (rest := []) (As := [.ref (r), .int (nI (m)), .int (nI (7)), .int (nI (0))]) dX7_enter_41 lX7_58 yk_X7_lay ys_X7_lay (by decide) rfl rfl (Nat.le_of_ble_eq_true rfl) rfl (c_X7_lay hr (by omega) (by decide)) (fun v23 e24 => ?_)
  have hR21 : RR c v23 r (sM (sM (sM (sM (sM (sM S m 1 0) m 2 num) m 3 by9) m 4 set) m 5 0) m 7 0) := by rw [e24]; exact hR17.M (by omega) (by decide)
  have hO22 : vO9 v v23 r := by rw [e24]; exact hO18.u
  clear e24
  refine P_vret dX7_enter_44 rfl ?_
  exact q_s rfl ⟨hR21, hO22⟩
set_option maxHeartbeats 4000000 in
set_option maxRecDepth 100000 in
theorem c_X7_callsNone {σ : vS} {v : vV} {c r : Nat} {S : mS} {m : Nat} (hr : vK σ r 8 2012) (hR : RR c v r S) (hm : m < c) : vC M_X7_callsNone yX7_callsNone [.ref (r), .int (nI (m))] (σ, v) (qS σ none (rP c v r (mnone S m))) := by
  have hc6 := hR.c6
  have hO : vO9 v v r := vO9.rf
  refine vC_of (ls := [some (.ref (r)), some (.int (nI (m)))]) pn_X7 rfl rfl (Nat.le_of_ble_eq_true rfl) rfl ?_
  refine P_aload_n dX7_callsNone_0 rfl rfl ?_
  refine P_iload_n dX7_callsNone_1 rfl rfl ?_
  refine P_bipush (v := nI 8) dX7_callsNone_2 (by decide) ?_
  refine P_iconst (v := nI 0) dX7_callsNone_4 (by decide) ?_
  refine P_cSs (rest := []) (As := [.ref (r), .int (nI (m)), .int (nI (8)), .int (nI (0))]) dX7_callsNone_5 lX7_58 yk_X7_lay ys_X7_lay (by decide) rfl rfl (Nat.le_of_ble_eq_true rfl) rfl (c_X7_lay hr (by omega) (by decide)) (fun v3 e4 => ?_)
  have hR1 : RR c v3 r (sM S m 8 0) := by rw [e4]; exact hR.M (by omega) (by decide)
  have hO2 : vO9 v v3 r := by rw [e4]; exact hO.u
  clear e4
  refine P_aload_n dX7_callsNone_8 rfl rfl ?_
  refine P_iload_n dX7_callsNone_9 rfl rfl ?_
  refine P_bipush (v := nI 9) dX7_callsNone_10 (by decide) ?_
  refine P_iconst (v := nI 0) dX7_callsNone_12 (by decide) ?_
  refine P_cSs (rest := []) (As := [.ref (r), .int (nI (m)), .int (nI (9)), .int (nI (0))]) dX7_callsNone_13 lX7_58 yk_X7_lay ys_X7_lay (by decide) rfl rfl (Nat.le_of_ble_eq_true rfl) rfl (c_X7_lay hr (by omega) (by decide)) (fun v7 e8 => ?_)
  have hR5 : RR c v7 r (sM (sM S m 8 0) m 9 0) := by rw [e8]; exact hR1.M (by omega) (by decide)
  have hO6 : vO9 v v7 r := by rw [e8]; exact hO2.u
  clear e8
  refine P_aload_n dX7_callsNone_16 rfl rfl ?_
  refine P_iload_n dX7_callsNone_17 rfl rfl ?_
  refine P_bipush (v := nI 10) dX7_callsNone_18 (by decide) ?_
  refine P_iconst (v := nI 0) dX7_callsNone_20 (by decide) ?_
  refine P_cSs (rest := []) (As := [.ref (r), .int (nI (m)), .int (nI (10)), .int (nI (0))]) dX7_callsNone_21 lX7_58 yk_X7_lay ys_X7_lay (by decide) rfl rfl (Nat.le_of_ble_eq_true rfl) rfl (c_X7_lay hr (by omega) (by decide)) (fun v11 e12 => ?_)
  have hR9 : RR c v11 r (sM (sM (sM S m 8 0) m 9 0) m 10 0) := by rw [e12]; exact hR5.M (by omega) (by decide)
  have hO10 : vO9 v v11 r := by rw [e12]; exact hO6.u
  clear e12
  refine P_vret dX7_callsNone_24 rfl ?_
  exact q_s rfl ⟨hR9, hO10⟩
set_option maxHeartbeats 4000000 in
set_option maxRecDepth 100000 in
theorem c_X7_send {σ : vS} {v : vV} {c r : Nat} {S : mS} {kd frm to num by9 data B : Nat} (hr : vK σ r 8 2012) (hR : RR c v r S) (hN : NB c S B) (hB : B < 1000000000) (hf : frm < c) (ht : to < c) : vC M_X7_send yX7_send [.ref (r), .int (nI (kd)), .int (nI (frm)), .int (nI (to)), .int (nI (num)), .int (nI (by9)), .int (nI (data))] (σ, v) (qS σ none (rP c v r (msend S kd frm to num by9 data))) := by
  have hc6 := hR.c6
  have hO : vO9 v v r := vO9.rf
  refine vC_of (ls := [some (.ref (r)), some (.int (nI (kd))), some (.int (nI (frm))), some (.int (nI (to))), some (.int (nI (num))), some (.int (nI (by9))), some (.int (nI (data))), none, none, none]) pn_X7 rfl rfl (Nat.le_of_ble_eq_true rfl) rfl ?_
  refine P_aload_n dX7_send_0 rfl rfl ?_
  refine P_bipush (v := nI 8) dX7_send_1 (by decide) ?_
  refine P_iload_n dX7_send_3 rfl rfl ?_
  refine P_iaddN dX7_send_4 ?_
  refine P_ialdN (x := nI (gG S (8 + frm))) (8 + frm) dX7_send_5 hr rfl (by omega) (by decide) (hR.g (by omega) (by omega)) ?_
  refine P_iload_n dX7_send_6 rfl rfl ?_
  refine P_cSp (rest := []) (As := [.int (nI (gG S (8 + frm))), .int (nI (to))]) dX7_send_7 lX7_48 yk_X7_has ys_X7_has (by decide) rfl rfl (Nat.le_of_ble_eq_true rfl) rfl (c_X7_has (by have := hN.cut (i := frm) (by omega); omega) (by omega)) ?_
  refine P_bif_ne (tgt := 22) dX7_send_10 (by decide) (fun c10 => ?_) (fun c10 => ?_)
  · refine P_aload_n dX7_send_22 rfl rfl ?_
    refine P_iconst (v := nI 3) dX7_send_23 (by decide) ?_
    refine P_dup2 dX7_send_24 rfl rfl ?_
    refine P_ialdN (x := nI (gG S 3)) (3) dX7_send_25 hr rfl (by omega) (by decide) (hR.g (by decide) (by decide)) ?_
    refine P_iconst (v := nI 1) dX7_send_26 (by decide) ?_
    refine P_iaddN dX7_send_27 ?_
    refine P_iast (3) dX7_send_28 hr rfl (by omega) (by decide) ?_
    have hR1 : RR c (vU v r (3) (nI (gG S 3 + 1))) r (sG S 3 (gG S 3 + 1)) := (hR.G (x := gG S 3 + 1) (by decide) (by decide) (by decide))
    have hO2 : vO9 v (vU v r (3) (nI (gG S 3 + 1))) r := hO.u
    generalize vU v r (3) (nI (gG S 3 + 1)) = v3 at hR1 hO2 ⊢
    refine P_vret dX7_send_29 rfl ?_
    exact q_s rfl ⟨by rw [msend_lost (Or.inl c10)]; exact hR1, hO2⟩
  · refine P_aload_n dX7_send_13 rfl rfl ?_
    refine P_iconst (v := nI 2) dX7_send_14 (by decide) ?_
    refine P_ialdN (x := nI ((gN S).length)) (2) dX7_send_15 hr rfl (by omega) (by decide) hR.n ?_
    refine P_sipush (v := nI 150) dX7_send_16 (by decide) ?_
    refine P_icmp_neN (tgt := 30) dX7_send_19 (by decide) (by have := hN.b.2.2; omega) (by omega) (fun c19 => ?_) (fun c19 => ?_)
    · refine P_aload_n dX7_send_30 rfl rfl ?_
      refine P_iconst (v := nI 1) dX7_send_31 (by decide) ?_
      refine P_ialdN (x := nI (gG S 1)) (1) dX7_send_32 hr rfl (by omega) (by decide) (hR.g (by decide) (by decide)) ?_
      refine P_aload_n dX7_send_33 rfl rfl ?_
      refine P_iload_n dX7_send_34 rfl rfl ?_
      refine P_iload_n dX7_send_35 rfl rfl ?_
      refine P_cSp (rest := [.int (nI (gG S 1))]) (As := [.ref (r), .int (nI (frm)), .int (nI (to))]) dX7_send_36 lX7_52 yk_X7_far ys_X7_far (by decide) rfl rfl (Nat.le_of_ble_eq_true rfl) rfl (c_X7_far hr hR hN (by omega) (by omega)) ?_
      refine P_iaddN dX7_send_39 ?_
      refine P_istore (ls2 := [some (.ref (r)), some (.int (nI (kd))), some (.int (nI (frm))), some (.int (nI (to))), some (.int (nI (num))), some (.int (nI (by9))), some (.int (nI (data))), some (.int (nI (gG S 1 + (mfar S frm to)))), none, none]) dX7_send_40 (by decide) rfl ?_
      have hl9 : (gN S).length < 150 := by have := hR.b.2.2; omega
      have hJ118 : ∀ (p : Nat) (v1 : vV), (p ≤ (gN S).length) → (∀ i, v1 r i = if 512 + 10 * (p + 1) ≤ i ∧ i < 522 + 10 * (gN S).length then v r (i - 10) else v r i) → (vO9 v v1 r) → (mat (gN S) (gG S 1 + mfar S frm to) (gN S).length = p) → vP M_X7_send 118 [some (.ref (r)), some (.int (nI (kd))), some (.int (nI (frm))), some (.int (nI (to))), some (.int (nI (num))), some (.int (nI (by9))), some (.int (nI (data))), some (.int (nI (gG S 1 + mfar S frm to))), some (.int (nI (p))), none] [] ((vRm M_X7_send).cells, (vRm M_X7_send).slots) (σ, v1) (vN (qS σ none (rP c v r (msend S kd frm to num by9 data)))) := by
        intro p v1 hp hs hO1 hm
        refine P_sipush (v := nI 512) dX7_send_118 (by decide) ?_
        refine P_bipush (v := nI 10) dX7_send_121 (by decide) ?_
        refine P_iload dX7_send_123 rfl ?_
        refine P_imulN dX7_send_125 ?_
        refine P_iaddN dX7_send_126 ?_
        refine P_istore (ls2 := [some (.ref (r)), some (.int (nI (kd))), some (.int (nI (frm))), some (.int (nI (to))), some (.int (nI (num))), some (.int (nI (by9))), some (.int (nI (data))), some (.int (nI (gG S 1 + mfar S frm to))), some (.int (nI (p))), some (.int (nI (512 + 10 * p)))]) dX7_send_127 (by decide) rfl ?_
        refine P_aload_n dX7_send_129 rfl rfl ?_
        refine P_iload dX7_send_130 rfl ?_
        refine P_iconst (v := nI 0) dX7_send_132 (by decide) ?_
        refine P_iaddN dX7_send_133 ?_
        refine P_iload_n dX7_send_134 rfl rfl ?_
        refine P_iast (512 + 10 * p + 0) dX7_send_135 hr rfl (by omega) (by decide) ?_
        refine P_aload_n dX7_send_136 rfl rfl ?_
        refine P_iload dX7_send_137 rfl ?_
        refine P_iconst (v := nI 1) dX7_send_139 (by decide) ?_
        refine P_iaddN dX7_send_140 ?_
        refine P_iload_n dX7_send_141 rfl rfl ?_
        refine P_iast (512 + 10 * p + 1) dX7_send_142 hr rfl (by omega) (by decide) ?_
        refine P_aload_n dX7_send_143 rfl rfl ?_
        refine P_iload dX7_send_144 rfl ?_
        refine P_iconst (v := nI 2) dX7_send_146 (by decide) ?_
        refine P_iaddN dX7_send_147 ?_
        refine P_iload_n dX7_send_148 rfl rfl ?_
        refine P_iast (512 + 10 * p + 2) dX7_send_149 hr rfl (by omega) (by decide) ?_
        refine P_aload_n dX7_send_150 rfl rfl ?_
        refine P_iload dX7_send_151 rfl ?_
        refine P_iconst (v := nI 3) dX7_send_153 (by decide) ?_
        refine P_iaddN dX7_send_154 ?_
        refine P_iload dX7_send_155 rfl ?_
        refine P_iast (512 + 10 * p + 3) dX7_send_157 hr rfl (by omega) (by decide) ?_
        refine P_aload_n dX7_send_158 rfl rfl ?_
        refine P_iload dX7_send_159 rfl ?_
        refine P_iconst (v := nI 4) dX7_send_161 (by decide) ?_
        refine P_iaddN dX7_send_162 ?_
        refine P_iload dX7_send_163 rfl ?_
        refine P_iast (512 + 10 * p + 4) dX7_send_165 hr rfl (by omega) (by decide) ?_
        refine P_aload_n dX7_send_166 rfl rfl ?_
        refine P_iload dX7_send_167 rfl ?_
        refine P_iconst (v := nI 5) dX7_send_169 (by decide) ?_
        refine P_iaddN dX7_send_170 ?_
        refine P_iload dX7_send_171 rfl ?_
        refine P_iast (512 + 10 * p + 5) dX7_send_173 hr rfl (by omega) (by decide) ?_
        refine P_aload_n dX7_send_174 rfl rfl ?_
        refine P_iload dX7_send_175 rfl ?_
        refine P_bipush (v := nI 6) dX7_send_177 (by decide) ?_
        refine P_iaddN dX7_send_179 ?_
        refine P_iload dX7_send_180 rfl ?_
        refine P_iast (512 + 10 * p + 6) dX7_send_182 hr rfl (by omega) (by decide) ?_
        refine P_aload_n dX7_send_183 rfl rfl ?_
        refine P_iload dX7_send_184 rfl ?_
        refine P_bipush (v := nI 7) dX7_send_186 (by decide) ?_
        refine P_iaddN dX7_send_188 ?_
        refine P_aload_n dX7_send_189 rfl rfl ?_
        refine P_iload_n dX7_send_190 rfl rfl ?_
        refine P_iconst (v := nI 2) dX7_send_191 (by decide) ?_
        refine P_cSp (rest := [.int (nI (512 + 10 * p + 7)), .ref (r)]) (As := [.ref (r), .int (nI (frm)), .int (nI (2))]) dX7_send_192 lX7_44 yk_X7_of ys_X7_of (by decide) rfl rfl (Nat.le_of_ble_eq_true rfl) rfl (c_X7_of hr (by omega) (by decide)) ?_
        refine P_top (y := nI (gM S frm 2)) (by (repeat rw [vU_o (by omega)]); rw [hs, if_neg (by omega)]; exact hR.m (by omega) (by decide)) ?_
        refine P_iast (512 + 10 * p + 7) dX7_send_195 hr rfl (by omega) (by decide) ?_
        refine P_aload_n dX7_send_196 rfl rfl ?_
        refine P_iload dX7_send_197 rfl ?_
        refine P_bipush (v := nI 8) dX7_send_199 (by decide) ?_
        refine P_iaddN dX7_send_201 ?_
        refine P_aload_n dX7_send_202 rfl rfl ?_
        refine P_iload_n dX7_send_203 rfl rfl ?_
        refine P_iconst (v := nI 3) dX7_send_204 (by decide) ?_
        refine P_cSp (rest := [.int (nI (512 + 10 * p + 8)), .ref (r)]) (As := [.ref (r), .int (nI (frm)), .int (nI (3))]) dX7_send_205 lX7_44 yk_X7_of ys_X7_of (by decide) rfl rfl (Nat.le_of_ble_eq_true rfl) rfl (c_X7_of hr (by omega) (by decide)) ?_
        refine P_top (y := nI (gM S frm 3)) (by (repeat rw [vU_o (by omega)]); rw [hs, if_neg (by omega)]; exact hR.m (by omega) (by decide)) ?_
        refine P_iast (512 + 10 * p + 8) dX7_send_208 hr rfl (by omega) (by decide) ?_
        refine P_aload_n dX7_send_209 rfl rfl ?_
        refine P_iload dX7_send_210 rfl ?_
        refine P_bipush (v := nI 9) dX7_send_212 (by decide) ?_
        refine P_iaddN dX7_send_214 ?_
        refine P_aload_n dX7_send_215 rfl rfl ?_
        refine P_iload_n dX7_send_216 rfl rfl ?_
        refine P_iconst (v := nI 4) dX7_send_217 (by decide) ?_
        refine P_cSp (rest := [.int (nI (512 + 10 * p + 9)), .ref (r)]) (As := [.ref (r), .int (nI (frm)), .int (nI (4))]) dX7_send_218 lX7_44 yk_X7_of ys_X7_of (by decide) rfl rfl (Nat.le_of_ble_eq_true rfl) rfl (c_X7_of hr (by omega) (by decide)) ?_
        refine P_top (y := nI (gM S frm 4)) (by (repeat rw [vU_o (by omega)]); rw [hs, if_neg (by omega)]; exact hR.m (by omega) (by decide)) ?_
        refine P_iast (512 + 10 * p + 9) dX7_send_221 hr rfl (by omega) (by decide) ?_
        refine P_aload_n dX7_send_222 rfl rfl ?_
        refine P_iconst (v := nI 2) dX7_send_223 (by decide) ?_
        refine P_dup2 dX7_send_224 rfl rfl ?_
        refine P_ialdN (x := nI ((gN S).length)) (2) dX7_send_225 hr rfl (by omega) (by decide) (by (repeat rw [vU_o (by omega)]); rw [hs, if_neg (by omega)]; exact hR.n) ?_
        refine P_iconst (v := nI 1) dX7_send_226 (by decide) ?_
        refine P_iaddN dX7_send_227 ?_
        refine P_iast (2) dX7_send_228 hr rfl (by omega) (by decide) ?_
        refine P_vret dX7_send_229 rfl ?_
        refine q_s rfl ⟨?_, ?_⟩
        · rw [msend_in c10 c19 hm]
          refine RR.ins hR hl9 hp vU_s (fun i a q => ?_) (fun i a q => ?_) (fun j hj => ?_) (fun i a q => ?_)
          · repeat rw [vU_o (by omega)]
            rw [hs, if_neg (by omega)]
          · repeat rw [vU_o (by omega)]
            rw [hs, if_neg (by omega)]
          · rcases (by omega : j = 0 ∨ j = 1 ∨ j = 2 ∨ j = 3 ∨ j = 4 ∨ j = 5 ∨ j = 6 ∨ j = 7 ∨ j = 8 ∨ j = 9) with rfl | rfl | rfl | rfl | rfl | rfl | rfl | rfl | rfl | rfl <;> (repeat rw [vU_o (by omega)]) <;> exact vU_s
          · repeat rw [vU_o (by omega)]
            rw [hs, if_pos (by omega)]
        · repeat refine vO9.u ?_
          exact hO1
      refine P_aload_n dX7_send_42 rfl rfl ?_
      refine P_iconst (v := nI 2) dX7_send_43 (by decide) ?_
      refine P_ialdN (x := nI ((gN S).length)) (2) dX7_send_44 hr rfl (by omega) (by decide) hR.n ?_
      refine P_istore (ls2 := [some (.ref (r)), some (.int (nI (kd))), some (.int (nI (frm))), some (.int (nI (to))), some (.int (nI (num))), some (.int (nI (by9))), some (.int (nI (data))), some (.int (nI (gG S 1 + (mfar S frm to)))), some (.int (nI ((gN S).length))), none]) dX7_send_45 (by decide) rfl ?_
      have hL47 : ∀ (n47 : Nat) (p : Nat) (v1 : vV), (p ≤ (gN S).length) → (p < n47) → (∀ i, v1 r i = if 512 + 10 * (p + 1) ≤ i ∧ i < 522 + 10 * (gN S).length then v r (i - 10) else v r i) → (vO9 v v1 r) → (mat (gN S) (gG S 1 + mfar S frm to) (gN S).length = mat (gN S) (gG S 1 + mfar S frm to) p) → vP M_X7_send 47 [some (.ref (r)), some (.int (nI (kd))), some (.int (nI (frm))), some (.int (nI (to))), some (.int (nI (num))), some (.int (nI (by9))), some (.int (nI (data))), some (.int (nI (gG S 1 + mfar S frm to))), some (.int (nI (p))), none] [] ((vRm M_X7_send).cells, (vRm M_X7_send).slots) (σ, v1) (vN (qS σ none (rP c v r (msend S kd frm to num by9 data)))) := by
        intro n47
        induction n47 with
        | zero =>
          intro p v1 h1 h2 hs hO1 hm
          exact absurd h2 (by omega)
        | succ n47 ih47 =>
          intro p v1 h1 h2 hs hO1 hm
          refine P_iload dX7_send_47 rfl ?_
          refine P_if_leN (tgt := 118) dX7_send_49 (by decide) (by omega) (fun c49 => ?_) (fun c49 => ?_)
          · exact hJ118 p v1 h1 hs hO1 (by rw [hm]; exact mat_stop (fun q => by omega))
          · refine P_aload_n dX7_send_52 rfl rfl ?_
            refine P_iload dX7_send_53 rfl ?_
            refine P_iconst (v := nI 1) dX7_send_55 (by decide) ?_
            refine P_isubN dX7_send_56 (by omega) ?_
            refine P_iconst (v := nI 3) dX7_send_57 (by decide) ?_
            refine P_cSp (rest := []) (As := [.ref (r), .int (nI (p - 1)), .int (nI (3))]) dX7_send_58 lX7_55 yk_X7_ofNote ys_X7_ofNote (by decide) rfl rfl (Nat.le_of_ble_eq_true rfl) rfl (c_X7_ofNote hr (by omega) (by decide)) ?_
            refine P_top (y := (nI (((gN S).getD (p - 1) n0) 3))) (by rw [hs, if_neg (by omega)]; exact hR.xd (by omega) (by decide)) ?_
            have hx3 := (hN.n (getD_mem (d := n0) (l := gN S) (k := p - 1) (by omega))).2.2.2.1
            refine P_iload dX7_send_61 rfl ?_
            refine P_icmp_leN (tgt := 118) dX7_send_63 (by decide) (by have a1 := hN.g (i := 1) (by decide); have a2 := mfar_le hN frm to; omega) (by have a1 := hN.g (i := 1) (by decide); have a2 := mfar_le hN frm to; omega) (fun c63 => ?_) (fun c63 => ?_)
            · exact hJ118 p v1 h1 hs hO1 (by rw [hm]; exact mat_stop (fun q => by omega))
            · refine P_iconst (v := nI 0) dX7_send_66 (by decide) ?_
              refine P_istore (ls2 := [some (.ref (r)), some (.int (nI (kd))), some (.int (nI (frm))), some (.int (nI (to))), some (.int (nI (num))), some (.int (nI (by9))), some (.int (nI (data))), some (.int (nI (gG S 1 + mfar S frm to))), some (.int (nI (p))), some (.int (nI (0)))]) dX7_send_67 (by decide) rfl ?_
              have hL69 : ∀ (n69 : Nat) (j : Nat) (v2 : vV), (j ≤ 10) → (j + n69 = 11) → (∀ i, v2 r i = if 512 + 10 * p ≤ i ∧ i < 512 + 10 * p + j then v1 r (i - 10) else v1 r i) → (vO9 v v2 r) → vP M_X7_send 69 [some (.ref (r)), some (.int (nI (kd))), some (.int (nI (frm))), some (.int (nI (to))), some (.int (nI (num))), some (.int (nI (by9))), some (.int (nI (data))), some (.int (nI (gG S 1 + mfar S frm to))), some (.int (nI (p))), some (.int (nI (j)))] [] ((vRm M_X7_send).cells, (vRm M_X7_send).slots) (σ, v2) (vN (qS σ none (rP c v r (msend S kd frm to num by9 data)))) := by
                intro n69
                induction n69 with
                | zero =>
                  intro j v2 k1 k2 hs2 hO2
                  exact absurd k2 (by omega)
                | succ n69 ih69 =>
                  intro j v2 k1 k2 hs2 hO2
                  refine P_iload dX7_send_69 rfl ?_
                  refine P_bipush (v := nI 10) dX7_send_71 (by decide) ?_
                  refine P_icmp_geN (tgt := 112) dX7_send_73 (by decide) (by omega) (by omega) (fun c73 => ?_) (fun c73 => ?_)
                  · refine P_iinc (v := nI (p - 1)) (ls2 := [some (.ref (r)), some (.int (nI (kd))), some (.int (nI (frm))), some (.int (nI (to))), some (.int (nI (num))), some (.int (nI (by9))), some (.int (nI (data))), some (.int (nI (gG S 1 + mfar S frm to))), some (.int (nI (p - 1))), some (.int (nI (j)))]) dX7_send_112 rfl (nI_dec _ 1 (by omega)) (by decide) rfl ?_
                    refine P_goto (tgt := 47) dX7_send_115 (by decide) ?_
                    refine P_weak (ls2 := [some (.ref (r)), some (.int (nI (kd))), some (.int (nI (frm))), some (.int (nI (to))), some (.int (nI (num))), some (.int (nI (by9))), some (.int (nI (data))), some (.int (nI (gG S 1 + mfar S frm to))), some (.int (nI (p - 1))), none]) ⟨rfl, rfl, rfl, rfl, rfl, rfl, rfl, rfl, rfl, trivial⟩ ?_
                    refine ih47 (p - 1) v2 (by omega) (by omega) (fun i => ?_) hO2 (by rw [hm]; exact mat_step (by omega) (by omega))
                    rw [hs2]
                    by_cases g1 : 512 + 10 * p ≤ i ∧ i < 512 + 10 * p + j
                    · rw [if_pos g1, hs, if_neg (by omega), if_pos (by omega)]
                    · rw [if_neg g1, hs]
                      by_cases g2 : 512 + 10 * (p + 1) ≤ i ∧ i < 522 + 10 * (gN S).length
                      · rw [if_pos g2, if_pos (by omega)]
                      · rw [if_neg g2, if_neg (by omega)]
                  · refine P_aload_n dX7_send_76 rfl rfl ?_
                    refine P_sipush (v := nI 512) dX7_send_77 (by decide) ?_
                    refine P_bipush (v := nI 10) dX7_send_80 (by decide) ?_
                    refine P_iload dX7_send_82 rfl ?_
                    refine P_imulN dX7_send_84 ?_
                    refine P_iaddN dX7_send_85 ?_
                    refine P_iload dX7_send_86 rfl ?_
                    refine P_iaddN dX7_send_88 ?_
                    refine P_aload_n dX7_send_89 rfl rfl ?_
                    refine P_sipush (v := nI 512) dX7_send_90 (by decide) ?_
                    refine P_bipush (v := nI 10) dX7_send_93 (by decide) ?_
                    refine P_iload dX7_send_95 rfl ?_
                    refine P_iconst (v := nI 1) dX7_send_97 (by decide) ?_
                    refine P_isubN dX7_send_98 (by omega) ?_
                    refine P_imulN dX7_send_99 ?_
                    refine P_iaddN dX7_send_100 ?_
                    refine P_iload dX7_send_101 rfl ?_
                    refine P_iaddN dX7_send_103 ?_
                    refine P_iald (512 + (10 * (p - 1)) + j) dX7_send_104 hr rfl (by omega) (by decide) ?_
                    refine P_iast (512 + 10 * p + j) dX7_send_105 hr rfl (by omega) (by decide) ?_
                    refine P_iinc (v := nI (j + 1)) (ls2 := [some (.ref (r)), some (.int (nI (kd))), some (.int (nI (frm))), some (.int (nI (to))), some (.int (nI (num))), some (.int (nI (by9))), some (.int (nI (data))), some (.int (nI (gG S 1 + mfar S frm to))), some (.int (nI (p))), some (.int (nI (j + 1)))]) dX7_send_106 rfl (nI_inc _ 1) (by decide) rfl ?_
                    refine P_goto (tgt := 69) dX7_send_109 (by decide) ?_
                    refine ih69 (j + 1) _ (by omega) (by omega) (fun i => ?_) hO2.u
                    by_cases e9 : i = 512 + 10 * p + j
                    · subst e9
                      rw [vU_s, hs2, if_neg (by omega), if_pos (by omega)]
                      congr 1; omega
                    · rw [vU_o (Or.inr e9), hs2]
                      by_cases g1 : 512 + 10 * p ≤ i ∧ i < 512 + 10 * p + j
                      · rw [if_pos g1, if_pos (by omega)]
                      · rw [if_neg g1, if_neg (by omega)]
              exact hL69 11 0 v1 (by omega) (by omega) (fun i => by rw [if_neg (by omega)]) hO1
      exact hL47 ((gN S).length + 1) (gN S).length v (Nat.le_refl _) (by omega) (fun i => by rw [if_neg (by omega)]) hO rfl
    · refine P_aload_n dX7_send_22 rfl rfl ?_
      refine P_iconst (v := nI 3) dX7_send_23 (by decide) ?_
      refine P_dup2 dX7_send_24 rfl rfl ?_
      refine P_ialdN (x := nI (gG S 3)) (3) dX7_send_25 hr rfl (by omega) (by decide) (hR.g (by decide) (by decide)) ?_
      refine P_iconst (v := nI 1) dX7_send_26 (by decide) ?_
      refine P_iaddN dX7_send_27 ?_
      refine P_iast (3) dX7_send_28 hr rfl (by omega) (by decide) ?_
      have hR4 : RR c (vU v r (3) (nI (gG S 3 + 1))) r (sG S 3 (gG S 3 + 1)) := (hR.G (x := gG S 3 + 1) (by decide) (by decide) (by decide))
      have hO5 : vO9 v (vU v r (3) (nI (gG S 3 + 1))) r := hO.u
      generalize vU v r (3) (nI (gG S 3 + 1)) = v6 at hR4 hO5 ⊢
      refine P_vret dX7_send_29 rfl ?_
      exact q_s rfl ⟨by rw [msend_lost (Or.inr c19)]; exact hR4, hO5⟩
