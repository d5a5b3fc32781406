
/-! THE WRAPPERS: which exception, the answer in out -/
theorem nL_13 : Cond.classLink RL 13 "java/lang/IllegalArgumentException" ∈ aw := aw_t 325 (by decide +kernel) (by decide +kernel)
theorem nL_15 : Cond.classLink RL 15 "java/lang/IllegalStateException" ∈ aw := aw_t 326 (by decide +kernel) (by decide +kernel)
theorem nL_28 : Cond.classLink RL 28 "java/lang/IndexOutOfBoundsException" ∈ aw := aw_t 627 (by decide +kernel) (by decide +kernel)
theorem wc_13 : Cond.castable "java/lang/IllegalArgumentException" "java/lang/IllegalArgumentException" ∈ tables_1 := List.mem_of_getElem? (i := 333) (by decide +kernel)
theorem wc_15 : Cond.castable "java/lang/IllegalStateException" "java/lang/IllegalStateException" ∈ tables_1 := List.mem_of_getElem? (i := 401) (by decide +kernel)
theorem wc_28 : Cond.castable "java/lang/IndexOutOfBoundsException" "java/lang/IndexOutOfBoundsException" ∈ tables_1 := List.mem_of_getElem? (i := 639) (by decide +kernel)
theorem KT.out {v v' : vV} {b r w : Nat} {T : gT} (h : KT v b T) (e : vOw v v' r w) (hb : b + 1603 ≤ r ∨ r + w ≤ b) : KT v' b T :=
  ⟨h.t.ow e (by omega), h.c.ow e (by omega), h.n.ow e (by omega), h.tr.ow e (by omega), h.d.ow e (by omega), fun i hi => ⟨(h.s hi).1.ow e (by omega), by rw [e (b + 1602) (by omega)]; exact (h.s hi).2.1, fun Y hY => ((h.s hi).2.2 Y hY).ow e (by omega)⟩⟩
def qW (σ : vS) (v : vV) (b o : Nat) (R : gR gT) : Option Value → vM → Prop := fun r μ' => r = some (.int (nI R.1)) ∧ ∃ v' : vV, μ' = (σ, v') ∧ KT v' b R.2.2 ∧ (R.1 = 0 → v' o 0 = R.2.1) ∧ ∀ n, n ≠ o → (n < b ∨ b + 1603 ≤ n) → v' n = v n
theorem qw_ret {σ : vS} {v v9 : vV} {b o : Nat} {R : gR gT} (ho : b + 1603 ≤ o) (e : R.1 = 0) (hK : KT v9 b R.2.2) (hw : vOw v v9 b 1603) : vN (qW σ v b o R) (.inl (some (.int (nI 0)))) (σ, vU v9 o 0 R.2.1) :=
  ⟨by rw [e], _, rfl, hK.out (vOw.rf.u (r := o) (w := 1) (Nat.le_refl _) (by omega)) (Or.inl ho), fun _ => vU_s, fun n h1 h2 => (vU_ne h1).trans (hw n (by omega))⟩
theorem qw_thr {σ : vS} {v : vV} {b o k : Nat} {T : gT} {R : gR gT} (e : R.1 = k) (h0 : R.1 ≠ 0) (hT : R.1 ≠ 0 → R.2.2 = T) (hK : KT v b T) : vN (qW σ v b o R) (.inl (some (.int (nI k)))) (σ, v) :=
  ⟨by rw [e], v, rfl, by rw [hT h0]; exact hK, fun q => absurd q h0, fun _ _ _ => rfl⟩
theorem k_append {t : mN} {n c : Nat} {S : mS} {D : List mC} {sl : Nat → Option mC} {a : Int32} : (g_append ((t, n), (c, S), D, sl) a).1 ≤ 2 ∧ ((g_append ((t, n), (c, S), D, sl) a).1 ≠ 0 → (g_append ((t, n), (c, S), D, sl) a).2.2 = ((t, n), (c, S), D, sl)) := by
  dsimp only [g_append]
  (repeat' split) <;> first | exact ⟨Nat.le_of_ble_eq_true rfl, fun _ => rfl⟩ | exact ⟨Nat.zero_le _, fun q => absurd rfl q⟩

set_option maxHeartbeats 4000000 in
set_option maxRecDepth 100000 in
theorem c_L_append {σ : vS} {v : vV} {c b n : Nat} {S : mS} {t : mN} {D : List mC} {sl : Nat → Option mC} {a : Int32} {o : Nat} (hT : kLT σ b) (hK : KT v b ((t, n), (c, S), D, sl)) {B : Nat} (hG : GI B ((t, n), (c, S), D, sl)) (hB : B + 6000000 < 1000000000) (hf : σ.2.2.2 = false) (ho : vK σ o 12 1) (hob : b + 1603 ≤ o) : vCG M_L_append [(0, 9, 12, 13), (0, 9, 15, 15)] yL_append [.ref (b), .int (a), .ref (o)] (σ, v) (qW σ v b o (g_append ((t, n), (c, S), D, sl) a)) := by
  obtain ⟨hk1, hk0⟩ := k_append (t := t) (n := n) (c := c) (S := S) (D := D) (sl := sl) (a := a)
  refine vCG_of (ls := [some (.ref (b)), some (.int (a)), some (.ref (o)), none]) pn_L rfl rfl (Nat.le_of_ble_eq_true rfl) rfl ?_
  refine G_aload_n dL_append_0 rfl rfl ?_
  refine G_iconst (v := nI 0) dL_append_1 (by decide) ?_
  refine G_aload_n dL_append_2 rfl rfl ?_
  refine G_iload_n dL_append_3 rfl rfl ?_
  refine G_callVC (hh := [(0, 9, 12, 13), (0, 9, 15, 15)]) (rest := [.int (nI (0)), .ref (o)]) (As := [.int (a)]) dL_append_4 lL_7 yk_X6_append yv_X6_append kX6 rfl (by decide) hT.o rfl rfl (Nat.le_of_ble_eq_true rfl) (by decide) (c_X6_append hT hK hG hB hf) (fun o9 μ9 h9 hf9 => by obtain ⟨-, -, v9, rfl, -⟩ := h9; exact absurd (hf.symm.trans hf9) Bool.false_ne_true) (fun Ex μ9 h9 => ?_) ?_
  · obtain ⟨hne, rfl, rfl⟩ := h9
    refine ⟨fun q9 => absurd (hf.symm.trans q9) Bool.false_ne_true, ?_⟩
    rcases (by omega : (g_append ((t, n), (c, S), D, sl) a).1 = 1 ∨ (g_append ((t, n), (c, S), D, sl) a).1 = 2) with er | er
    · refine ⟨12, ⟨[], ⟨0, 9, 12, 13⟩, [⟨0, 9, 15, 15⟩], "java/lang/IllegalArgumentException", rfl, fun z hz => ?_, by decide, by decide, nL_13, ?_, rfl⟩, fun q9 => ?_⟩
      · exact absurd hz List.not_mem_nil
      · rw [er]; exact wc_13
      · refine G_astore_n (ls2 := [some (.ref (b)), some (.int (a)), some (.ref (o)), some (.ref (q9 + 1000000))]) dL_append_12 rfl (by decide) rfl ?_
        refine G_iconst (v := nI 1) dL_append_13 (by decide) ?_
        refine G_iret dL_append_14 rfl ?_
        exact qw_thr er hne hk0 hK
    · refine ⟨15, ⟨[⟨0, 9, 12, 13⟩], ⟨0, 9, 15, 15⟩, [], "java/lang/IllegalStateException", rfl, fun z hz => ?_, by decide, by decide, nL_15, ?_, rfl⟩, fun q9 => ?_⟩
      · simp only [List.mem_cons, List.not_mem_nil, or_false] at hz
        subst hz
        exact ⟨by decide, _, nL_13, by rw [er]; decide⟩
      · rw [er]; exact wc_15
      · refine G_astore_n (ls2 := [some (.ref (b)), some (.int (a)), some (.ref (o)), some (.ref (q9 + 1000000))]) dL_append_15 rfl (by decide) rfl ?_
        refine G_iconst (v := nI 2) dL_append_16 (by decide) ?_
        refine G_iret dL_append_17 rfl ?_
        exact qw_thr er hne hk0 hK
  rintro o9 μ9 ⟨e1, rfl, v9, rfl, hK9, hw9⟩
  refine G_i2l dL_append_7 ?_
  refine G_last (0) dL_append_8 ho rfl (by decide) (by decide) ?_
  refine G_goto (tgt := 18) dL_append_9 (by decide) ?_
  refine G_iconst (v := nI 0) dL_append_18 (by decide) ?_
  refine G_iret dL_append_19 rfl ?_
  exact qw_ret hob e1 hK9 hw9
theorem k_load {t : mN} {n c : Nat} {S : mS} {D : List mC} {sl : Nat → Option mC} : (g_load ((t, n), (c, S), D, sl)).1 ≤ 1 ∧ ((g_load ((t, n), (c, S), D, sl)).1 ≠ 0 → (g_load ((t, n), (c, S), D, sl)).2.2 = ((t, n), (c, S), D, sl)) := by
  dsimp only [g_load]
  (repeat' split) <;> first | exact ⟨Nat.le_of_ble_eq_true rfl, fun _ => rfl⟩ | exact ⟨Nat.zero_le _, fun q => absurd rfl q⟩

set_option maxHeartbeats 4000000 in
set_option maxRecDepth 100000 in
theorem c_L_load {σ : vS} {v : vV} {c b n : Nat} {S : mS} {t : mN} {D : List mC} {sl : Nat → Option mC} {o : Nat} (hT : kLT σ b) (hK : KT v b ((t, n), (c, S), D, sl)) {B : Nat} (hG : GI B ((t, n), (c, S), D, sl)) (hB : B + 6000000 < 1000000000) (hf : σ.2.2.2 = false) (ho : vK σ o 12 1) (hob : b + 1603 ≤ o) : vCG M_L_load [(0, 8, 11, 15)] yL_load [.ref (b), .ref (o)] (σ, v) (qW σ v b o (g_load ((t, n), (c, S), D, sl))) := by
  obtain ⟨hk1, hk0⟩ := k_load (t := t) (n := n) (c := c) (S := S) (D := D) (sl := sl)
  refine vCG_of (ls := [some (.ref (b)), some (.ref (o)), none]) pn_L rfl rfl (Nat.le_of_ble_eq_true rfl) rfl ?_
  refine G_aload_n dL_load_0 rfl rfl ?_
  refine G_iconst (v := nI 0) dL_load_1 (by decide) ?_
  refine G_aload_n dL_load_2 rfl rfl ?_
  refine G_callVC (hh := [(0, 8, 11, 15)]) (rest := [.int (nI (0)), .ref (o)]) (As := []) dL_load_3 lL_17 yk_X6_load yv_X6_load kX6 rfl (by decide) hT.o rfl rfl (Nat.le_of_ble_eq_true rfl) (by decide) (c_X6_load hT hK hG hB hf) (fun o9 μ9 h9 hf9 => by obtain ⟨-, -, v9, rfl, -⟩ := h9; exact absurd (hf.symm.trans hf9) Bool.false_ne_true) (fun Ex μ9 h9 => ?_) ?_
  · obtain ⟨hne, rfl, rfl⟩ := h9
    refine ⟨fun q9 => absurd (hf.symm.trans q9) Bool.false_ne_true, ?_⟩
    have er : (g_load ((t, n), (c, S), D, sl)).1 = 1 := by omega
    refine ⟨11, ⟨[], ⟨0, 8, 11, 15⟩, [], "java/lang/IllegalStateException", rfl, fun z hz => ?_, by decide, by decide, nL_15, ?_, rfl⟩, fun q9 => ?_⟩
    · exact absurd hz List.not_mem_nil
    · rw [er]; exact wc_15
    · refine G_astore_n (ls2 := [some (.ref (b)), some (.ref (o)), some (.ref (q9 + 1000000))]) dL_load_11 rfl (by decide) rfl ?_
      refine G_iconst (v := nI 1) dL_load_12 (by decide) ?_
      refine G_iret dL_load_13 rfl ?_
      exact qw_thr er hne hk0 hK
  rintro o9 μ9 ⟨e1, rfl, v9, rfl, hK9, hw9⟩
  refine G_i2l dL_load_6 ?_
  refine G_last (0) dL_load_7 ho rfl (by decide) (by decide) ?_
  refine G_goto (tgt := 14) dL_load_8 (by decide) ?_
  refine G_iconst (v := nI 0) dL_load_14 (by decide) ?_
  refine G_iret dL_load_15 rfl ?_
  exact qw_ret hob e1 hK9 hw9
theorem k_about {t : mN} {n c : Nat} {S : mS} {D : List mC} {sl : Nat → Option mC} {w : Int32} : (g_about ((t, n), (c, S), D, sl) w).1 ≤ 1 ∧ ((g_about ((t, n), (c, S), D, sl) w).1 ≠ 0 → (g_about ((t, n), (c, S), D, sl) w).2.2 = ((t, n), (c, S), D, sl)) := by
  dsimp only [g_about]
  (repeat' split) <;> first | exact ⟨Nat.le_of_ble_eq_true rfl, fun _ => rfl⟩ | exact ⟨Nat.zero_le _, fun q => absurd rfl q⟩

set_option maxHeartbeats 4000000 in
set_option maxRecDepth 100000 in
theorem c_L_about {σ : vS} {v : vV} {c b n : Nat} {S : mS} {t : mN} {D : List mC} {sl : Nat → Option mC} {w : Int32} {o : Nat} (hT : kLT σ b) (hK : KT v b ((t, n), (c, S), D, sl)) {B : Nat} (hG : GI B ((t, n), (c, S), D, sl)) (hB : B + 6000000 < 1000000000) (hf : σ.2.2.2 = false) (ho : vK σ o 12 1) (hob : b + 1603 ≤ o) : vCG M_L_about [(0, 9, 12, 13)] yL_about [.ref (b), .int (w), .ref (o)] (σ, v) (qW σ v b o (g_about ((t, n), (c, S), D, sl) w)) := by
  obtain ⟨hk1, hk0⟩ := k_about (t := t) (n := n) (c := c) (S := S) (D := D) (sl := sl) (w := w)
  refine vCG_of (ls := [some (.ref (b)), some (.int (w)), some (.ref (o)), none]) pn_L rfl rfl (Nat.le_of_ble_eq_true rfl) rfl ?_
  refine G_aload_n dL_about_0 rfl rfl ?_
  refine G_iconst (v := nI 0) dL_about_1 (by decide) ?_
  refine G_aload_n dL_about_2 rfl rfl ?_
  refine G_iload_n dL_about_3 rfl rfl ?_
  refine G_callVC (hh := [(0, 9, 12, 13)]) (rest := [.int (nI (0)), .ref (o)]) (As := [.int (w)]) dL_about_4 lL_21 yk_X6_about yv_X6_about kX6 rfl (by decide) hT.o rfl rfl (Nat.le_of_ble_eq_true rfl) (by decide) (c_X6_about hT hK hG hB hf) (fun o9 μ9 h9 hf9 => by obtain ⟨-, -, v9, rfl, -⟩ := h9; exact absurd (hf.symm.trans hf9) Bool.false_ne_true) (fun Ex μ9 h9 => ?_) ?_
  · obtain ⟨hne, rfl, rfl⟩ := h9
    refine ⟨fun q9 => absurd (hf.symm.trans q9) Bool.false_ne_true, ?_⟩
    have er : (g_about ((t, n), (c, S), D, sl) w).1 = 1 := by omega
    refine ⟨12, ⟨[], ⟨0, 9, 12, 13⟩, [], "java/lang/IllegalArgumentException", rfl, fun z hz => ?_, by decide, by decide, nL_13, ?_, rfl⟩, fun q9 => ?_⟩
    · exact absurd hz List.not_mem_nil
    · rw [er]; exact wc_13
    · refine G_astore_n (ls2 := [some (.ref (b)), some (.int (w)), some (.ref (o)), some (.ref (q9 + 1000000))]) dL_about_12 rfl (by decide) rfl ?_
      refine G_iconst (v := nI 1) dL_about_13 (by decide) ?_
      refine G_iret dL_about_14 rfl ?_
      exact qw_thr er hne hk0 hK
  rintro o9 μ9 ⟨e1, rfl, v9, rfl, hK9, hw9⟩
  refine G_i2l dL_about_7 ?_
  refine G_last (0) dL_about_8 ho rfl (by decide) (by decide) ?_
  refine G_goto (tgt := 15) dL_about_9 (by decide) ?_
  refine G_iconst (v := nI 0) dL_about_15 (by decide) ?_
  refine G_iret dL_about_16 rfl ?_
  exact qw_ret hob e1 hK9 hw9
theorem k_memberOf {t : mN} {n c : Nat} {S : mS} {D : List mC} {sl : Nat → Option mC} {m w : Int32} : (g_memberOf ((t, n), (c, S), D, sl) m w).1 ≤ 2 ∧ ((g_memberOf ((t, n), (c, S), D, sl) m w).1 ≠ 0 → (g_memberOf ((t, n), (c, S), D, sl) m w).2.2 = ((t, n), (c, S), D, sl)) := by
  dsimp only [g_memberOf]
  (repeat' split) <;> first | exact ⟨Nat.le_of_ble_eq_true rfl, fun _ => rfl⟩ | exact ⟨Nat.zero_le _, fun q => absurd rfl q⟩

set_option maxHeartbeats 4000000 in
set_option maxRecDepth 100000 in
theorem c_L_memberOf {σ : vS} {v : vV} {c b n : Nat} {S : mS} {t : mN} {D : List mC} {sl : Nat → Option mC} {m w : Int32} {o : Nat} (hT : kLT σ b) (hK : KT v b ((t, n), (c, S), D, sl)) {B : Nat} (hG : GI B ((t, n), (c, S), D, sl)) (hB : B + 6000000 < 1000000000) (hf : σ.2.2.2 = false) (ho : vK σ o 12 1) (hob : b + 1603 ≤ o) : vCG M_L_memberOf [(0, 10, 13, 28), (0, 10, 17, 13)] yL_memberOf [.ref (b), .int (m), .int (w), .ref (o)] (σ, v) (qW σ v b o (g_memberOf ((t, n), (c, S), D, sl) m w)) := by
  obtain ⟨hk1, hk0⟩ := k_memberOf (t := t) (n := n) (c := c) (S := S) (D := D) (sl := sl) (m := m) (w := w)
  refine vCG_of (ls := [some (.ref (b)), some (.int (m)), some (.int (w)), some (.ref (o)), none]) pn_L rfl rfl (Nat.le_of_ble_eq_true rfl) rfl ?_
  refine G_aload_n dL_memberOf_0 rfl rfl ?_
  refine G_iconst (v := nI 0) dL_memberOf_1 (by decide) ?_
  refine G_aload_n dL_memberOf_2 rfl rfl ?_
  refine G_iload_n dL_memberOf_3 rfl rfl ?_
  refine G_iload_n dL_memberOf_4 rfl rfl ?_
  refine G_callVC (hh := [(0, 10, 13, 28), (0, 10, 17, 13)]) (rest := [.int (nI (0)), .ref (o)]) (As := [.int (m), .int (w)]) dL_memberOf_5 lL_24 yk_X6_memberOf yv_X6_memberOf kX6 rfl (by decide) hT.o rfl rfl (Nat.le_of_ble_eq_true rfl) (by decide) (c_X6_memberOf hT hK hG hB hf) (fun o9 μ9 h9 hf9 => by obtain ⟨-, -, v9, rfl, -⟩ := h9; exact absurd (hf.symm.trans hf9) Bool.false_ne_true) (fun Ex μ9 h9 => ?_) ?_
  · obtain ⟨hne, rfl, rfl⟩ := h9
    refine ⟨fun q9 => absurd (hf.symm.trans q9) Bool.false_ne_true, ?_⟩
    rcases (by omega : (g_memberOf ((t, n), (c, S), D, sl) m w).1 = 1 ∨ (g_memberOf ((t, n), (c, S), D, sl) m w).1 = 2) with er | er
    · refine ⟨13, ⟨[], ⟨0, 10, 13, 28⟩, [⟨0, 10, 17, 13⟩], "java/lang/IndexOutOfBoundsException", rfl, fun z hz => ?_, by decide, by decide, nL_28, ?_, rfl⟩, fun q9 => ?_⟩
      · exact absurd hz List.not_mem_nil
      · rw [er]; exact wc_28
      · refine G_astore (ls2 := [some (.ref (b)), some (.int (m)), some (.int (w)), some (.ref (o)), some (.ref (q9 + 1000000))]) dL_memberOf_13 (by decide) rfl ?_
        refine G_iconst (v := nI 1) dL_memberOf_15 (by decide) ?_
        refine G_iret dL_memberOf_16 rfl ?_
        exact qw_thr er hne hk0 hK
    · refine ⟨17, ⟨[⟨0, 10, 13, 28⟩], ⟨0, 10, 17, 13⟩, [], "java/lang/IllegalArgumentException", rfl, fun z hz => ?_, by decide, by decide, nL_13, ?_, rfl⟩, fun q9 => ?_⟩
      · simp only [List.mem_cons, List.not_mem_nil, or_false] at hz
        subst hz
        exact ⟨by decide, _, nL_28, by rw [er]; decide⟩
      · rw [er]; exact wc_13
      · refine G_astore (ls2 := [some (.ref (b)), some (.int (m)), some (.int (w)), some (.ref (o)), some (.ref (q9 + 1000000))]) dL_memberOf_17 (by decide) rfl ?_
        refine G_iconst (v := nI 2) dL_memberOf_19 (by decide) ?_
        refine G_iret dL_memberOf_20 rfl ?_
        exact qw_thr er hne hk0 hK
  rintro o9 μ9 ⟨e1, rfl, v9, rfl, hK9, hw9⟩
  refine G_i2l dL_memberOf_8 ?_
  refine G_last (0) dL_memberOf_9 ho rfl (by decide) (by decide) ?_
  refine G_goto (tgt := 21) dL_memberOf_10 (by decide) ?_
  refine G_iconst (v := nI 0) dL_memberOf_21 (by decide) ?_
  refine G_iret dL_memberOf_22 rfl ?_
  exact qw_ret hob e1 hK9 hw9
theorem k_session {t : mN} {n c : Nat} {S : mS} {D : List mC} {sl : Nat → Option mC} {m k w : Int32} : (g_session ((t, n), (c, S), D, sl) m k w).1 ≤ 2 ∧ ((g_session ((t, n), (c, S), D, sl) m k w).1 ≠ 0 → (g_session ((t, n), (c, S), D, sl) m k w).2.2 = ((t, n), (c, S), D, sl)) := by
  dsimp only [g_session]
  (repeat' split) <;> first | exact ⟨Nat.le_of_ble_eq_true rfl, fun _ => rfl⟩ | exact ⟨Nat.zero_le _, fun q => absurd rfl q⟩

set_option maxHeartbeats 4000000 in
set_option maxRecDepth 100000 in
theorem c_L_session {σ : vS} {v : vV} {c b n : Nat} {S : mS} {t : mN} {D : List mC} {sl : Nat → Option mC} {m k w : Int32} {o : Nat} (hT : kLT σ b) (hK : KT v b ((t, n), (c, S), D, sl)) {B : Nat} (hG : GI B ((t, n), (c, S), D, sl)) (hB : B + 6000000 < 1000000000) (hf : σ.2.2.2 = false) (ho : vK σ o 12 1) (hob : b + 1603 ≤ o) : vCG M_L_session [(0, 12, 15, 28), (0, 12, 19, 13)] yL_session [.ref (b), .int (m), .int (k), .int (w), .ref (o)] (σ, v) (qW σ v b o (g_session ((t, n), (c, S), D, sl) m k w)) := by
  obtain ⟨hk1, hk0⟩ := k_session (t := t) (n := n) (c := c) (S := S) (D := D) (sl := sl) (m := m) (k := k) (w := w)
  refine vCG_of (ls := [some (.ref (b)), some (.int (m)), some (.int (k)), some (.int (w)), some (.ref (o)), none]) pn_L rfl rfl (Nat.le_of_ble_eq_true rfl) rfl ?_
  refine G_aload dL_session_0 rfl ?_
  refine G_iconst (v := nI 0) dL_session_2 (by decide) ?_
  refine G_aload_n dL_session_3 rfl rfl ?_
  refine G_iload_n dL_session_4 rfl rfl ?_
  refine G_iload_n dL_session_5 rfl rfl ?_
  refine G_iload_n dL_session_6 rfl rfl ?_
  refine G_callVC (hh := [(0, 12, 15, 28), (0, 12, 19, 13)]) (rest := [.int (nI (0)), .ref (o)]) (As := [.int (m), .int (k), .int (w)]) dL_session_7 lL_30 yk_X6_session yv_X6_session kX6 rfl (by decide) hT.o rfl rfl (Nat.le_of_ble_eq_true rfl) (by decide) (c_X6_session hT hK hG hB hf) (fun o9 μ9 h9 hf9 => by obtain ⟨-, -, v9, rfl, -⟩ := h9; exact absurd (hf.symm.trans hf9) Bool.false_ne_true) (fun Ex μ9 h9 => ?_) ?_
  · obtain ⟨hne, rfl, rfl⟩ := h9
    refine ⟨fun q9 => absurd (hf.symm.trans q9) Bool.false_ne_true, ?_⟩
    rcases (by omega : (g_session ((t, n), (c, S), D, sl) m k w).1 = 1 ∨ (g_session ((t, n), (c, S), D, sl) m k w).1 = 2) with er | er
    · refine ⟨15, ⟨[], ⟨0, 12, 15, 28⟩, [⟨0, 12, 19, 13⟩], "java/lang/IndexOutOfBoundsException", rfl, fun z hz => ?_, by decide, by decide, nL_28, ?_, rfl⟩, fun q9 => ?_⟩
      · exact absurd hz List.not_mem_nil
      · rw [er]; exact wc_28
      · refine G_astore (ls2 := [some (.ref (b)), some (.int (m)), some (.int (k)), some (.int (w)), some (.ref (o)), some (.ref (q9 + 1000000))]) dL_session_15 (by decide) rfl ?_
        refine G_iconst (v := nI 1) dL_session_17 (by decide) ?_
        refine G_iret dL_session_18 rfl ?_
        exact qw_thr er hne hk0 hK
    · refine ⟨19, ⟨[⟨0, 12, 15, 28⟩], ⟨0, 12, 19, 13⟩, [], "java/lang/IllegalArgumentException", rfl, fun z hz => ?_, by decide, by decide, nL_13, ?_, rfl⟩, fun q9 => ?_⟩
      · simp only [List.mem_cons, List.not_mem_nil, or_false] at hz
        subst hz
        exact ⟨by decide, _, nL_28, by rw [er]; decide⟩
      · rw [er]; exact wc_13
      · refine G_astore (ls2 := [some (.ref (b)), some (.int (m)), some (.int (k)), some (.int (w)), some (.ref (o)), some (.ref (q9 + 1000000))]) dL_session_19 (by decide) rfl ?_
        refine G_iconst (v := nI 2) dL_session_21 (by decide) ?_
        refine G_iret dL_session_22 rfl ?_
        exact qw_thr er hne hk0 hK
  rintro o9 μ9 ⟨e1, rfl, v9, rfl, hK9, hw9⟩
  refine G_i2l dL_session_10 ?_
  refine G_last (0) dL_session_11 ho rfl (by decide) (by decide) ?_
  refine G_goto (tgt := 23) dL_session_12 (by decide) ?_
  refine G_iconst (v := nI 0) dL_session_23 (by decide) ?_
  refine G_iret dL_session_24 rfl ?_
  exact qw_ret hob e1 hK9 hw9
theorem k_note {t : mN} {n c : Nat} {S : mS} {D : List mC} {sl : Nat → Option mC} {k w : Int32} : (g_note ((t, n), (c, S), D, sl) k w).1 ≤ 2 ∧ ((g_note ((t, n), (c, S), D, sl) k w).1 ≠ 0 → (g_note ((t, n), (c, S), D, sl) k w).2.2 = ((t, n), (c, S), D, sl)) := by
  dsimp only [g_note]
  (repeat' split) <;> first | exact ⟨Nat.le_of_ble_eq_true rfl, fun _ => rfl⟩ | exact ⟨Nat.zero_le _, fun q => absurd rfl q⟩

set_option maxHeartbeats 4000000 in
set_option maxRecDepth 100000 in
theorem c_L_note {σ : vS} {v : vV} {c b n : Nat} {S : mS} {t : mN} {D : List mC} {sl : Nat → Option mC} {k w : Int32} {o : Nat} (hT : kLT σ b) (hK : KT v b ((t, n), (c, S), D, sl)) {B : Nat} (hG : GI B ((t, n), (c, S), D, sl)) (hB : B + 6000000 < 1000000000) (hf : σ.2.2.2 = false) (ho : vK σ o 12 1) (hob : b + 1603 ≤ o) : vCG M_L_note [(0, 10, 13, 28), (0, 10, 17, 13)] yL_note [.ref (b), .int (k), .int (w), .ref (o)] (σ, v) (qW σ v b o (g_note ((t, n), (c, S), D, sl) k w)) := by
  obtain ⟨hk1, hk0⟩ := k_note (t := t) (n := n) (c := c) (S := S) (D := D) (sl := sl) (k := k) (w := w)
  refine vCG_of (ls := [some (.ref (b)), some (.int (k)), some (.int (w)), some (.ref (o)), none]) pn_L rfl rfl (Nat.le_of_ble_eq_true rfl) rfl ?_
  refine G_aload_n dL_note_0 rfl rfl ?_
  refine G_iconst (v := nI 0) dL_note_1 (by decide) ?_
  refine G_aload_n dL_note_2 rfl rfl ?_
  refine G_iload_n dL_note_3 rfl rfl ?_
  refine G_iload_n dL_note_4 rfl rfl ?_
  refine G_callVC (hh := [(0, 10, 13, 28), (0, 10, 17, 13)]) (rest := [.int (nI (0)), .ref (o)]) (As := [.int (k), .int (w)]) dL_note_5 lL_34 yk_X6_note yv_X6_note kX6 rfl (by decide) hT.o rfl rfl (Nat.le_of_ble_eq_true rfl) (by decide) (c_X6_note hT hK hG hB hf) (fun o9 μ9 h9 hf9 => by obtain ⟨-, -, v9, rfl, -⟩ := h9; exact absurd (hf.symm.trans hf9) Bool.false_ne_true) (fun Ex μ9 h9 => ?_) ?_
  · obtain ⟨hne, rfl, rfl⟩ := h9
    refine ⟨fun q9 => absurd (hf.symm.trans q9) Bool.false_ne_true, ?_⟩
    rcases (by omega : (g_note ((t, n), (c, S), D, sl) k w).1 = 1 ∨ (g_note ((t, n), (c, S), D, sl) k w).1 = 2) with er | er
    · refine ⟨13, ⟨[], ⟨0, 10, 13, 28⟩, [⟨0, 10, 17, 13⟩], "java/lang/IndexOutOfBoundsException", rfl, fun z hz => ?_, by decide, by decide, nL_28, ?_, rfl⟩, fun q9 => ?_⟩
      · exact absurd hz List.not_mem_nil
      · rw [er]; exact wc_28
      · refine G_astore (ls2 := [some (.ref (b)), some (.int (k)), some (.int (w)), some (.ref (o)), some (.ref (q9 + 1000000))]) dL_note_13 (by decide) rfl ?_
        refine G_iconst (v := nI 1) dL_note_15 (by decide) ?_
        refine G_iret dL_note_16 rfl ?_
        exact qw_thr er hne hk0 hK
    · refine ⟨17, ⟨[⟨0, 10, 13, 28⟩], ⟨0, 10, 17, 13⟩, [], "java/lang/IllegalArgumentException", rfl, fun z hz => ?_, by decide, by decide, nL_13, ?_, rfl⟩, fun q9 => ?_⟩
      · simp only [List.mem_cons, List.not_mem_nil, or_false] at hz
        subst hz
        exact ⟨by decide, _, nL_28, by rw [er]; decide⟩
      · rw [er]; exact wc_13
      · refine G_astore (ls2 := [some (.ref (b)), some (.int (k)), some (.int (w)), some (.ref (o)), some (.ref (q9 + 1000000))]) dL_note_17 (by decide) rfl ?_
        refine G_iconst (v := nI 2) dL_note_19 (by decide) ?_
        refine G_iret dL_note_20 rfl ?_
        exact qw_thr er hne hk0 hK
  rintro o9 μ9 ⟨e1, rfl, v9, rfl, hK9, hw9⟩
  refine G_i2l dL_note_8 ?_
  refine G_last (0) dL_note_9 ho rfl (by decide) (by decide) ?_
  refine G_goto (tgt := 21) dL_note_10 (by decide) ?_
  refine G_iconst (v := nI 0) dL_note_21 (by decide) ?_
  refine G_iret dL_note_22 rfl ?_
  exact qw_ret hob e1 hK9 hw9
theorem k_isCut {t : mN} {n c : Nat} {S : mS} {D : List mC} {sl : Nat → Option mC} {a d : Int32} : (g_isCut ((t, n), (c, S), D, sl) a d).1 ≤ 1 ∧ ((g_isCut ((t, n), (c, S), D, sl) a d).1 ≠ 0 → (g_isCut ((t, n), (c, S), D, sl) a d).2.2 = ((t, n), (c, S), D, sl)) := by
  dsimp only [g_isCut]
  (repeat' split) <;> first | exact ⟨Nat.le_of_ble_eq_true rfl, fun _ => rfl⟩ | exact ⟨Nat.zero_le _, fun q => absurd rfl q⟩

set_option maxHeartbeats 4000000 in
set_option maxRecDepth 100000 in
theorem c_L_isCut {σ : vS} {v : vV} {c b n : Nat} {S : mS} {t : mN} {D : List mC} {sl : Nat → Option mC} {a d : Int32} {o : Nat} (hT : kLT σ b) (hK : KT v b ((t, n), (c, S), D, sl)) {B : Nat} (hG : GI B ((t, n), (c, S), D, sl)) (hB : B + 6000000 < 1000000000) (hf : σ.2.2.2 = false) (ho : vK σ o 12 1) (hob : b + 1603 ≤ o) : vCG M_L_isCut [(0, 10, 13, 28)] yL_isCut [.ref (b), .int (a), .int (d), .ref (o)] (σ, v) (qW σ v b o (g_isCut ((t, n), (c, S), D, sl) a d)) := by
  obtain ⟨hk1, hk0⟩ := k_isCut (t := t) (n := n) (c := c) (S := S) (D := D) (sl := sl) (a := a) (d := d)
  refine vCG_of (ls := [some (.ref (b)), some (.int (a)), some (.int (d)), some (.ref (o)), none]) pn_L rfl rfl (Nat.le_of_ble_eq_true rfl) rfl ?_
  refine G_aload_n dL_isCut_0 rfl rfl ?_
  refine G_iconst (v := nI 0) dL_isCut_1 (by decide) ?_
  refine G_aload_n dL_isCut_2 rfl rfl ?_
  refine G_iload_n dL_isCut_3 rfl rfl ?_
  refine G_iload_n dL_isCut_4 rfl rfl ?_
  refine G_callVC (hh := [(0, 10, 13, 28)]) (rest := [.int (nI (0)), .ref (o)]) (As := [.int (a), .int (d)]) dL_isCut_5 lL_37 yk_X6_isCut yv_X6_isCut kX6 rfl (by decide) hT.o rfl rfl (Nat.le_of_ble_eq_true rfl) (by decide) (c_X6_isCut hT hK hG hB hf) (fun o9 μ9 h9 hf9 => by obtain ⟨-, -, v9, rfl, -⟩ := h9; exact absurd (hf.symm.trans hf9) Bool.false_ne_true) (fun Ex μ9 h9 => ?_) ?_
  · obtain ⟨hne, rfl, rfl⟩ := h9
    refine ⟨fun q9 => absurd (hf.symm.trans q9) Bool.false_ne_true, ?_⟩
    have er : (g_isCut ((t, n), (c, S), D, sl) a d).1 = 1 := by omega
    refine ⟨13, ⟨[], ⟨0, 10, 13, 28⟩, [], "java/lang/IndexOutOfBoundsException", rfl, fun z hz => ?_, by decide, by decide, nL_28, ?_, rfl⟩, fun q9 => ?_⟩
    · exact absurd hz List.not_mem_nil
    · rw [er]; exact wc_28
    · refine G_astore (ls2 := [some (.ref (b)), some (.int (a)), some (.int (d)), some (.ref (o)), some (.ref (q9 + 1000000))]) dL_isCut_13 (by decide) rfl ?_
      refine G_iconst (v := nI 1) dL_isCut_15 (by decide) ?_
      refine G_iret dL_isCut_16 rfl ?_
      exact qw_thr er hne hk0 hK
  rintro o9 μ9 ⟨e1, rfl, v9, rfl, hK9, hw9⟩
  refine G_i2l dL_isCut_8 ?_
  refine G_last (0) dL_isCut_9 ho rfl (by decide) (by decide) ?_
  refine G_goto (tgt := 17) dL_isCut_10 (by decide) ?_
  refine G_iconst (v := nI 0) dL_isCut_17 (by decide) ?_
  refine G_iret dL_isCut_18 rfl ?_
  exact qw_ret hob e1 hK9 hw9
theorem k_member {t : mN} {n c : Nat} {S : mS} {D : List mC} {sl : Nat → Option mC} {p : Int32} : (g_member ((t, n), (c, S), D, sl) p).1 ≤ 2 ∧ ((g_member ((t, n), (c, S), D, sl) p).1 ≠ 0 → (g_member ((t, n), (c, S), D, sl) p).2.2 = ((t, n), (c, S), D, sl)) := by
  dsimp only [g_member]
  (repeat' split) <;> first | exact ⟨Nat.le_of_ble_eq_true rfl, fun _ => rfl⟩ | exact ⟨Nat.zero_le _, fun q => absurd rfl q⟩

set_option maxHeartbeats 4000000 in
set_option maxRecDepth 100000 in
theorem c_L_member {σ : vS} {v : vV} {c b n : Nat} {S : mS} {t : mN} {D : List mC} {sl : Nat → Option mC} {p : Int32} {o : Nat} (hT : kLT σ b) (hK : KT v b ((t, n), (c, S), D, sl)) {B : Nat} (hG : GI B ((t, n), (c, S), D, sl)) (hB : B + 6000000 < 1000000000) (hf : σ.2.2.2 = false) (ho : vK σ o 12 1) (hob : b + 1603 ≤ o) : vCG M_L_member [(0, 9, 12, 13), (0, 9, 15, 15)] yL_member [.ref (b), .int (p), .ref (o)] (σ, v) (qW σ v b o (g_member ((t, n), (c, S), D, sl) p)) := by
  obtain ⟨hk1, hk0⟩ := k_member (t := t) (n := n) (c := c) (S := S) (D := D) (sl := sl) (p := p)
  refine vCG_of (ls := [some (.ref (b)), some (.int (p)), some (.ref (o)), none]) pn_L rfl rfl (Nat.le_of_ble_eq_true rfl) rfl ?_
  refine G_aload_n dL_member_0 rfl rfl ?_
  refine G_iconst (v := nI 0) dL_member_1 (by decide) ?_
  refine G_aload_n dL_member_2 rfl rfl ?_
  refine G_iload_n dL_member_3 rfl rfl ?_
  refine G_callVC (hh := [(0, 9, 12, 13), (0, 9, 15, 15)]) (rest := [.int (nI (0)), .ref (o)]) (As := [.int (p)]) dL_member_4 lL_40 yk_X6_member yv_X6_member kX6 rfl (by decide) hT.o rfl rfl (Nat.le_of_ble_eq_true rfl) (by decide) (c_X6_member hT hK hG hB hf) (fun o9 μ9 h9 hf9 => by obtain ⟨-, -, v9, rfl, -⟩ := h9; exact absurd (hf.symm.trans hf9) Bool.false_ne_true) (fun Ex μ9 h9 => ?_) ?_
  · obtain ⟨hne, rfl, rfl⟩ := h9
    refine ⟨fun q9 => absurd (hf.symm.trans q9) Bool.false_ne_true, ?_⟩
    rcases (by omega : (g_member ((t, n), (c, S), D, sl) p).1 = 1 ∨ (g_member ((t, n), (c, S), D, sl) p).1 = 2) with er | er
    · refine ⟨12, ⟨[], ⟨0, 9, 12, 13⟩, [⟨0, 9, 15, 15⟩], "java/lang/IllegalArgumentException", rfl, fun z hz => ?_, by decide, by decide, nL_13, ?_, rfl⟩, fun q9 => ?_⟩
      · exact absurd hz List.not_mem_nil
      · rw [er]; exact wc_13
      · refine G_astore_n (ls2 := [some (.ref (b)), some (.int (p)), some (.ref (o)), some (.ref (q9 + 1000000))]) dL_member_12 rfl (by decide) rfl ?_
        refine G_iconst (v := nI 1) dL_member_13 (by decide) ?_
        refine G_iret dL_member_14 rfl ?_
        exact qw_thr er hne hk0 hK
    · refine ⟨15, ⟨[⟨0, 9, 12, 13⟩], ⟨0, 9, 15, 15⟩, [], "java/lang/IllegalStateException", rfl, fun z hz => ?_, by decide, by decide, nL_15, ?_, rfl⟩, fun q9 => ?_⟩
      · simp only [List.mem_cons, List.not_mem_nil, or_false] at hz
        subst hz
        exact ⟨by decide, _, nL_13, by rw [er]; decide⟩
      · rw [er]; exact wc_15
      · refine G_astore_n (ls2 := [some (.ref (b)), some (.int (p)), some (.ref (o)), some (.ref (q9 + 1000000))]) dL_member_15 rfl (by decide) rfl ?_
        refine G_iconst (v := nI 2) dL_member_16 (by decide) ?_
        refine G_iret dL_member_17 rfl ?_
        exact qw_thr er hne hk0 hK
  rintro o9 μ9 ⟨e1, rfl, v9, rfl, hK9, hw9⟩
  refine G_i2l dL_member_7 ?_
  refine G_last (0) dL_member_8 ho rfl (by decide) (by decide) ?_
  refine G_goto (tgt := 18) dL_member_9 (by decide) ?_
  refine G_iconst (v := nI 0) dL_member_18 (by decide) ?_
  refine G_iret dL_member_19 rfl ?_
  exact qw_ret hob e1 hK9 hw9
theorem k_say {t : mN} {n c : Nat} {S : mS} {D : List mC} {sl : Nat → Option mC} {m : Int32} : (g_say ((t, n), (c, S), D, sl) m).1 ≤ 2 ∧ ((g_say ((t, n), (c, S), D, sl) m).1 ≠ 0 → (g_say ((t, n), (c, S), D, sl) m).2.2 = ((t, n), (c, S), D, sl)) := by
  dsimp only [g_say]
  (repeat' split) <;> first | exact ⟨Nat.le_of_ble_eq_true rfl, fun _ => rfl⟩ | exact ⟨Nat.zero_le _, fun q => absurd rfl q⟩

set_option maxHeartbeats 4000000 in
set_option maxRecDepth 100000 in
theorem c_L_say {σ : vS} {v : vV} {c b n : Nat} {S : mS} {t : mN} {D : List mC} {sl : Nat → Option mC} {m : Int32} {o : Nat} (hT : kLT σ b) (hK : KT v b ((t, n), (c, S), D, sl)) {B : Nat} (hG : GI B ((t, n), (c, S), D, sl)) (hB : B + 6000000 < 1000000000) (hf : σ.2.2.2 = false) (ho : vK σ o 12 1) (hob : b + 1603 ≤ o) : vCG M_L_say [(0, 9, 12, 28), (0, 9, 15, 15)] yL_say [.ref (b), .int (m), .ref (o)] (σ, v) (qW σ v b o (g_say ((t, n), (c, S), D, sl) m)) := by
  obtain ⟨hk1, hk0⟩ := k_say (t := t) (n := n) (c := c) (S := S) (D := D) (sl := sl) (m := m)
  refine vCG_of (ls := [some (.ref (b)), some (.int (m)), some (.ref (o)), none]) pn_L rfl rfl (Nat.le_of_ble_eq_true rfl) rfl ?_
  refine G_aload_n dL_say_0 rfl rfl ?_
  refine G_iconst (v := nI 0) dL_say_1 (by decide) ?_
  refine G_aload_n dL_say_2 rfl rfl ?_
  refine G_iload_n dL_say_3 rfl rfl ?_
  refine G_callVC (hh := [(0, 9, 12, 28), (0, 9, 15, 15)]) (rest := [.int (nI (0)), .ref (o)]) (As := [.int (m)]) dL_say_4 lL_43 yk_X6_say yv_X6_say kX6 rfl (by decide) hT.o rfl rfl (Nat.le_of_ble_eq_true rfl) (by decide) (c_X6_say hT hK hG hB hf) (fun o9 μ9 h9 hf9 => by obtain ⟨-, -, v9, rfl, -⟩ := h9; exact absurd (hf.symm.trans hf9) Bool.false_ne_true) (fun Ex μ9 h9 => ?_) ?_
  · obtain ⟨hne, rfl, rfl⟩ := h9
    refine ⟨fun q9 => absurd (hf.symm.trans q9) Bool.false_ne_true, ?_⟩
    rcases (by omega : (g_say ((t, n), (c, S), D, sl) m).1 = 1 ∨ (g_say ((t, n), (c, S), D, sl) m).1 = 2) with er | er
    · refine ⟨12, ⟨[], ⟨0, 9, 12, 28⟩, [⟨0, 9, 15, 15⟩], "java/lang/IndexOutOfBoundsException", rfl, fun z hz => ?_, by decide, by decide, nL_28, ?_, rfl⟩, fun q9 => ?_⟩
      · exact absurd hz List.not_mem_nil
      · rw [er]; exact wc_28
      · refine G_astore_n (ls2 := [some (.ref (b)), some (.int (m)), some (.ref (o)), some (.ref (q9 + 1000000))]) dL_say_12 rfl (by decide) rfl ?_
        refine G_iconst (v := nI 1) dL_say_13 (by decide) ?_
        refine G_iret dL_say_14 rfl ?_
        exact qw_thr er hne hk0 hK
    · refine ⟨15, ⟨[⟨0, 9, 12, 28⟩], ⟨0, 9, 15, 15⟩, [], "java/lang/IllegalStateException", rfl, fun z hz => ?_, by decide, by decide, nL_15, ?_, rfl⟩, fun q9 => ?_⟩
      · simp only [List.mem_cons, List.not_mem_nil, or_false] at hz
        subst hz
        exact ⟨by decide, _, nL_28, by rw [er]; decide⟩
      · rw [er]; exact wc_15
      · refine G_astore_n (ls2 := [some (.ref (b)), some (.int (m)), some (.ref (o)), some (.ref (q9 + 1000000))]) dL_say_15 rfl (by decide) rfl ?_
        refine G_iconst (v := nI 2) dL_say_16 (by decide) ?_
        refine G_iret dL_say_17 rfl ?_
        exact qw_thr er hne hk0 hK
  rintro o9 μ9 ⟨e1, rfl, v9, rfl, hK9, hw9⟩
  refine G_i2l dL_say_7 ?_
  refine G_last (0) dL_say_8 ho rfl (by decide) (by decide) ?_
  refine G_goto (tgt := 18) dL_say_9 (by decide) ?_
  refine G_iconst (v := nI 0) dL_say_18 (by decide) ?_
  refine G_iret dL_say_19 rfl ?_
  exact qw_ret hob e1 hK9 hw9
theorem k_call {t : mN} {n c : Nat} {S : mS} {D : List mC} {sl : Nat → Option mC} {m s : Int32} : (g_call ((t, n), (c, S), D, sl) m s).1 ≤ 3 ∧ ((g_call ((t, n), (c, S), D, sl) m s).1 ≠ 0 → (g_call ((t, n), (c, S), D, sl) m s).2.2 = ((t, n), (c, S), D, sl)) := by
  dsimp only [g_call]
  (repeat' split) <;> first | exact ⟨Nat.le_of_ble_eq_true rfl, fun _ => rfl⟩ | exact ⟨Nat.zero_le _, fun q => absurd rfl q⟩

set_option maxHeartbeats 4000000 in
set_option maxRecDepth 100000 in
theorem c_L_call {σ : vS} {v : vV} {c b n : Nat} {S : mS} {t : mN} {D : List mC} {sl : Nat → Option mC} {m s : Int32} {o : Nat} (hT : kLT σ b) (hK : KT v b ((t, n), (c, S), D, sl)) {B : Nat} (hG : GI B ((t, n), (c, S), D, sl)) (hB : B + 6000000 < 1000000000) (hf : σ.2.2.2 = false) (ho : vK σ o 12 1) (hob : b + 1603 ≤ o) : vCG M_L_call [(0, 10, 13, 28), (0, 10, 17, 13), (0, 10, 21, 15)] yL_call [.ref (b), .int (m), .int (s), .ref (o)] (σ, v) (qW σ v b o (g_call ((t, n), (c, S), D, sl) m s)) := by
  obtain ⟨hk1, hk0⟩ := k_call (t := t) (n := n) (c := c) (S := S) (D := D) (sl := sl) (m := m) (s := s)
  refine vCG_of (ls := [some (.ref (b)), some (.int (m)), some (.int (s)), some (.ref (o)), none]) pn_L rfl rfl (Nat.le_of_ble_eq_true rfl) rfl ?_
  refine G_aload_n dL_call_0 rfl rfl ?_
  refine G_iconst (v := nI 0) dL_call_1 (by decide) ?_
  refine G_aload_n dL_call_2 rfl rfl ?_
  refine G_iload_n dL_call_3 rfl rfl ?_
  refine G_iload_n dL_call_4 rfl rfl ?_
  refine G_callVC (hh := [(0, 10, 13, 28), (0, 10, 17, 13), (0, 10, 21, 15)]) (rest := [.int (nI (0)), .ref (o)]) (As := [.int (m), .int (s)]) dL_call_5 lL_46 yk_X6_call yv_X6_call kX6 rfl (by decide) hT.o rfl rfl (Nat.le_of_ble_eq_true rfl) (by decide) (c_X6_call hT hK hG hB hf) (fun o9 μ9 h9 hf9 => by obtain ⟨-, -, v9, rfl, -⟩ := h9; exact absurd (hf.symm.trans hf9) Bool.false_ne_true) (fun Ex μ9 h9 => ?_) ?_
  · obtain ⟨hne, rfl, rfl⟩ := h9
    refine ⟨fun q9 => absurd (hf.symm.trans q9) Bool.false_ne_true, ?_⟩
    rcases (by omega : (g_call ((t, n), (c, S), D, sl) m s).1 = 1 ∨ (g_call ((t, n), (c, S), D, sl) m s).1 = 2 ∨ (g_call ((t, n), (c, S), D, sl) m s).1 = 3) with er | er | er
    · refine ⟨13, ⟨[], ⟨0, 10, 13, 28⟩, [⟨0, 10, 17, 13⟩, ⟨0, 10, 21, 15⟩], "java/lang/IndexOutOfBoundsException", rfl, fun z hz => ?_, by decide, by decide, nL_28, ?_, rfl⟩, fun q9 => ?_⟩
      · exact absurd hz List.not_mem_nil
      · rw [er]; exact wc_28
      · refine G_astore (ls2 := [some (.ref (b)), some (.int (m)), some (.int (s)), some (.ref (o)), some (.ref (q9 + 1000000))]) dL_call_13 (by decide) rfl ?_
        refine G_iconst (v := nI 1) dL_call_15 (by decide) ?_
        refine G_iret dL_call_16 rfl ?_
        exact qw_thr er hne hk0 hK
    · refine ⟨17, ⟨[⟨0, 10, 13, 28⟩], ⟨0, 10, 17, 13⟩, [⟨0, 10, 21, 15⟩], "java/lang/IllegalArgumentException", rfl, fun z hz => ?_, by decide, by decide, nL_13, ?_, rfl⟩, fun q9 => ?_⟩
      · simp only [List.mem_cons, List.not_mem_nil, or_false] at hz
        subst hz
        exact ⟨by decide, _, nL_28, by rw [er]; decide⟩
      · rw [er]; exact wc_13
      · refine G_astore (ls2 := [some (.ref (b)), some (.int (m)), some (.int (s)), some (.ref (o)), some (.ref (q9 + 1000000))]) dL_call_17 (by decide) rfl ?_
        refine G_iconst (v := nI 2) dL_call_19 (by decide) ?_
        refine G_iret dL_call_20 rfl ?_
        exact qw_thr er hne hk0 hK
    · refine ⟨21, ⟨[⟨0, 10, 13, 28⟩, ⟨0, 10, 17, 13⟩], ⟨0, 10, 21, 15⟩, [], "java/lang/IllegalStateException", rfl, fun z hz => ?_, by decide, by decide, nL_15, ?_, rfl⟩, fun q9 => ?_⟩
      · simp only [List.mem_cons, List.not_mem_nil, or_false] at hz
        rcases hz with rfl | rfl
        · exact ⟨by decide, _, nL_28, by rw [er]; decide⟩
        · exact ⟨by decide, _, nL_13, by rw [er]; decide⟩
      · rw [er]; exact wc_15
      · refine G_astore (ls2 := [some (.ref (b)), some (.int (m)), some (.int (s)), some (.ref (o)), some (.ref (q9 + 1000000))]) dL_call_21 (by decide) rfl ?_
        refine G_iconst (v := nI 3) dL_call_23 (by decide) ?_
        refine G_iret dL_call_24 rfl ?_
        exact qw_thr er hne hk0 hK
  rintro o9 μ9 ⟨e1, rfl, v9, rfl, hK9, hw9⟩
  refine G_i2l dL_call_8 ?_
  refine G_last (0) dL_call_9 ho rfl (by decide) (by decide) ?_
  refine G_goto (tgt := 25) dL_call_10 (by decide) ?_
  refine G_iconst (v := nI 0) dL_call_25 (by decide) ?_
  refine G_iret dL_call_26 rfl ?_
  exact qw_ret hob e1 hK9 hw9
theorem k_cut {t : mN} {n c : Nat} {S : mS} {D : List mC} {sl : Nat → Option mC} {a d : Int32} {z : Bool} : (g_cut ((t, n), (c, S), D, sl) a d z).1 ≤ 2 ∧ ((g_cut ((t, n), (c, S), D, sl) a d z).1 ≠ 0 → (g_cut ((t, n), (c, S), D, sl) a d z).2.2 = ((t, n), (c, S), D, sl)) := by
  dsimp only [g_cut]
  (repeat' split) <;> first | exact ⟨Nat.le_of_ble_eq_true rfl, fun _ => rfl⟩ | exact ⟨Nat.zero_le _, fun q => absurd rfl q⟩

set_option maxHeartbeats 4000000 in
set_option maxRecDepth 100000 in
theorem c_L_cut {σ : vS} {v : vV} {c b n : Nat} {S : mS} {t : mN} {D : List mC} {sl : Nat → Option mC} {a d : Int32} {z : Bool} {o : Nat} (hT : kLT σ b) (hK : KT v b ((t, n), (c, S), D, sl)) {B : Nat} (hG : GI B ((t, n), (c, S), D, sl)) (hB : B + 6000000 < 1000000000) (hf : σ.2.2.2 = false) (ho : vK σ o 12 1) (hob : b + 1603 ≤ o) : vCG M_L_cut [(0, 12, 15, 28), (0, 12, 19, 13)] yL_cut [.ref (b), .int (a), .int (d), .int (vb (z)), .ref (o)] (σ, v) (qW σ v b o (g_cut ((t, n), (c, S), D, sl) a d z)) := by
  obtain ⟨hk1, hk0⟩ := k_cut (t := t) (n := n) (c := c) (S := S) (D := D) (sl := sl) (a := a) (d := d) (z := z)
  refine vCG_of (ls := [some (.ref (b)), some (.int (a)), some (.int (d)), some (.int (vb (z))), some (.ref (o)), none]) pn_L rfl rfl (Nat.le_of_ble_eq_true rfl) rfl ?_
  refine G_aload dL_cut_0 rfl ?_
  refine G_iconst (v := nI 0) dL_cut_2 (by decide) ?_
  refine G_aload_n dL_cut_3 rfl rfl ?_
  refine G_iload_n dL_cut_4 rfl rfl ?_
  refine G_iload_n dL_cut_5 rfl rfl ?_
  refine G_iload_n dL_cut_6 rfl rfl ?_
  refine G_callVC (hh := [(0, 12, 15, 28), (0, 12, 19, 13)]) (rest := [.int (nI (0)), .ref (o)]) (As := [.int (a), .int (d), .int (vb (z))]) dL_cut_7 lL_49 yk_X6_cut yv_X6_cut kX6 rfl (by decide) hT.o rfl rfl (Nat.le_of_ble_eq_true rfl) (by decide) (c_X6_cut hT hK hG hB hf) (fun o9 μ9 h9 hf9 => by obtain ⟨-, -, v9, rfl, -⟩ := h9; exact absurd (hf.symm.trans hf9) Bool.false_ne_true) (fun Ex μ9 h9 => ?_) ?_
  · obtain ⟨hne, rfl, rfl⟩ := h9
    refine ⟨fun q9 => absurd (hf.symm.trans q9) Bool.false_ne_true, ?_⟩
    rcases (by omega : (g_cut ((t, n), (c, S), D, sl) a d z).1 = 1 ∨ (g_cut ((t, n), (c, S), D, sl) a d z).1 = 2) with er | er
    · refine ⟨15, ⟨[], ⟨0, 12, 15, 28⟩, [⟨0, 12, 19, 13⟩], "java/lang/IndexOutOfBoundsException", rfl, fun z hz => ?_, by decide, by decide, nL_28, ?_, rfl⟩, fun q9 => ?_⟩
      · exact absurd hz List.not_mem_nil
      · rw [er]; exact wc_28
      · refine G_astore (ls2 := [some (.ref (b)), some (.int (a)), some (.int (d)), some (.int (vb (z))), some (.ref (o)), some (.ref (q9 + 1000000))]) dL_cut_15 (by decide) rfl ?_
        refine G_iconst (v := nI 1) dL_cut_17 (by decide) ?_
        refine G_iret dL_cut_18 rfl ?_
        exact qw_thr er hne hk0 hK
    · refine ⟨19, ⟨[⟨0, 12, 15, 28⟩], ⟨0, 12, 19, 13⟩, [], "java/lang/IllegalArgumentException", rfl, fun z hz => ?_, by decide, by decide, nL_13, ?_, rfl⟩, fun q9 => ?_⟩
      · simp only [List.mem_cons, List.not_mem_nil, or_false] at hz
        subst hz
        exact ⟨by decide, _, nL_28, by rw [er]; decide⟩
      · rw [er]; exact wc_13
      · refine G_astore (ls2 := [some (.ref (b)), some (.int (a)), some (.int (d)), some (.int (vb (z))), some (.ref (o)), some (.ref (q9 + 1000000))]) dL_cut_19 (by decide) rfl ?_
        refine G_iconst (v := nI 2) dL_cut_21 (by decide) ?_
        refine G_iret dL_cut_22 rfl ?_
        exact qw_thr er hne hk0 hK
  rintro o9 μ9 ⟨e1, rfl, v9, rfl, hK9, hw9⟩
  refine G_i2l dL_cut_10 ?_
  refine G_last (0) dL_cut_11 ho rfl (by decide) (by decide) ?_
  refine G_goto (tgt := 23) dL_cut_12 (by decide) ?_
  refine G_iconst (v := nI 0) dL_cut_23 (by decide) ?_
  refine G_iret dL_cut_24 rfl ?_
  exact qw_ret hob e1 hK9 hw9
theorem k_leave {t : mN} {n c : Nat} {S : mS} {D : List mC} {sl : Nat → Option mC} {m : Int32} : (g_leave ((t, n), (c, S), D, sl) m).1 ≤ 2 ∧ ((g_leave ((t, n), (c, S), D, sl) m).1 ≠ 0 → (g_leave ((t, n), (c, S), D, sl) m).2.2 = ((t, n), (c, S), D, sl)) := by
  dsimp only [g_leave]
  (repeat' split) <;> first | exact ⟨Nat.le_of_ble_eq_true rfl, fun _ => rfl⟩ | exact ⟨Nat.zero_le _, fun q => absurd rfl q⟩

set_option maxHeartbeats 4000000 in
set_option maxRecDepth 100000 in
theorem c_L_leave {σ : vS} {v : vV} {c b n : Nat} {S : mS} {t : mN} {D : List mC} {sl : Nat → Option mC} {m : Int32} {o : Nat} (hT : kLT σ b) (hK : KT v b ((t, n), (c, S), D, sl)) {B : Nat} (hG : GI B ((t, n), (c, S), D, sl)) (hB : B + 6000000 < 1000000000) (hf : σ.2.2.2 = false) (ho : vK σ o 12 1) (hob : b + 1603 ≤ o) : vCG M_L_leave [(0, 9, 12, 28), (0, 9, 15, 15)] yL_leave [.ref (b), .int (m), .ref (o)] (σ, v) (qW σ v b o (g_leave ((t, n), (c, S), D, sl) m)) := by
  obtain ⟨hk1, hk0⟩ := k_leave (t := t) (n := n) (c := c) (S := S) (D := D) (sl := sl) (m := m)
  refine vCG_of (ls := [some (.ref (b)), some (.int (m)), some (.ref (o)), none]) pn_L rfl rfl (Nat.le_of_ble_eq_true rfl) rfl ?_
  refine G_aload_n dL_leave_0 rfl rfl ?_
  refine G_iconst (v := nI 0) dL_leave_1 (by decide) ?_
  refine G_aload_n dL_leave_2 rfl rfl ?_
  refine G_iload_n dL_leave_3 rfl rfl ?_
  refine G_callVC (hh := [(0, 9, 12, 28), (0, 9, 15, 15)]) (rest := [.int (nI (0)), .ref (o)]) (As := [.int (m)]) dL_leave_4 lL_53 yk_X6_leave yv_X6_leave kX6 rfl (by decide) hT.o rfl rfl (Nat.le_of_ble_eq_true rfl) (by decide) (c_X6_leave hT hK hG hB hf) (fun o9 μ9 h9 hf9 => by obtain ⟨-, -, v9, rfl, -⟩ := h9; exact absurd (hf.symm.trans hf9) Bool.false_ne_true) (fun Ex μ9 h9 => ?_) ?_
  · obtain ⟨hne, rfl, rfl⟩ := h9
    refine ⟨fun q9 => absurd (hf.symm.trans q9) Bool.false_ne_true, ?_⟩
    rcases (by omega : (g_leave ((t, n), (c, S), D, sl) m).1 = 1 ∨ (g_leave ((t, n), (c, S), D, sl) m).1 = 2) with er | er
    · refine ⟨12, ⟨[], ⟨0, 9, 12, 28⟩, [⟨0, 9, 15, 15⟩], "java/lang/IndexOutOfBoundsException", rfl, fun z hz => ?_, by decide, by decide, nL_28, ?_, rfl⟩, fun q9 => ?_⟩
      · exact absurd hz List.not_mem_nil
      · rw [er]; exact wc_28
      · refine G_astore_n (ls2 := [some (.ref (b)), some (.int (m)), some (.ref (o)), some (.ref (q9 + 1000000))]) dL_leave_12 rfl (by decide) rfl ?_
        refine G_iconst (v := nI 1) dL_leave_13 (by decide) ?_
        refine G_iret dL_leave_14 rfl ?_
        exact qw_thr er hne hk0 hK
    · refine ⟨15, ⟨[⟨0, 9, 12, 28⟩], ⟨0, 9, 15, 15⟩, [], "java/lang/IllegalStateException", rfl, fun z hz => ?_, by decide, by decide, nL_15, ?_, rfl⟩, fun q9 => ?_⟩
      · simp only [List.mem_cons, List.not_mem_nil, or_false] at hz
        subst hz
        exact ⟨by decide, _, nL_28, by rw [er]; decide⟩
      · rw [er]; exact wc_15
      · refine G_astore_n (ls2 := [some (.ref (b)), some (.int (m)), some (.ref (o)), some (.ref (q9 + 1000000))]) dL_leave_15 rfl (by decide) rfl ?_
        refine G_iconst (v := nI 2) dL_leave_16 (by decide) ?_
        refine G_iret dL_leave_17 rfl ?_
        exact qw_thr er hne hk0 hK
  rintro o9 μ9 ⟨e1, rfl, v9, rfl, hK9, hw9⟩
  refine G_i2l dL_leave_7 ?_
  refine G_last (0) dL_leave_8 ho rfl (by decide) (by decide) ?_
  refine G_goto (tgt := 18) dL_leave_9 (by decide) ?_
  refine G_iconst (v := nI 0) dL_leave_18 (by decide) ?_
  refine G_iret dL_leave_19 rfl ?_
  exact qw_ret hob e1 hK9 hw9
theorem k_back {t : mN} {n c : Nat} {S : mS} {D : List mC} {sl : Nat → Option mC} {m : Int32} : (g_back ((t, n), (c, S), D, sl) m).1 ≤ 2 ∧ ((g_back ((t, n), (c, S), D, sl) m).1 ≠ 0 → (g_back ((t, n), (c, S), D, sl) m).2.2 = ((t, n), (c, S), D, sl)) := by
  dsimp only [g_back]
  (repeat' split) <;> first | exact ⟨Nat.le_of_ble_eq_true rfl, fun _ => rfl⟩ | exact ⟨Nat.zero_le _, fun q => absurd rfl q⟩

set_option maxHeartbeats 4000000 in
set_option maxRecDepth 100000 in
theorem c_L_back {σ : vS} {v : vV} {c b n : Nat} {S : mS} {t : mN} {D : List mC} {sl : Nat → Option mC} {m : Int32} {o : Nat} (hT : kLT σ b) (hK : KT v b ((t, n), (c, S), D, sl)) {B : Nat} (hG : GI B ((t, n), (c, S), D, sl)) (hB : B + 6000000 < 1000000000) (hf : σ.2.2.2 = false) (ho : vK σ o 12 1) (hob : b + 1603 ≤ o) : vCG M_L_back [(0, 9, 12, 28), (0, 9, 15, 15)] yL_back [.ref (b), .int (m), .ref (o)] (σ, v) (qW σ v b o (g_back ((t, n), (c, S), D, sl) m)) := by
  obtain ⟨hk1, hk0⟩ := k_back (t := t) (n := n) (c := c) (S := S) (D := D) (sl := sl) (m := m)
  refine vCG_of (ls := [some (.ref (b)), some (.int (m)), some (.ref (o)), none]) pn_L rfl rfl (Nat.le_of_ble_eq_true rfl) rfl ?_
  refine G_aload_n dL_back_0 rfl rfl ?_
  refine G_iconst (v := nI 0) dL_back_1 (by decide) ?_
  refine G_aload_n dL_back_2 rfl rfl ?_
  refine G_iload_n dL_back_3 rfl rfl ?_
  refine G_callVC (hh := [(0, 9, 12, 28), (0, 9, 15, 15)]) (rest := [.int (nI (0)), .ref (o)]) (As := [.int (m)]) dL_back_4 lL_56 yk_X6_back yv_X6_back kX6 rfl (by decide) hT.o rfl rfl (Nat.le_of_ble_eq_true rfl) (by decide) (c_X6_back hT hK hG hB hf) (fun o9 μ9 h9 hf9 => by obtain ⟨-, -, v9, rfl, -⟩ := h9; exact absurd (hf.symm.trans hf9) Bool.false_ne_true) (fun Ex μ9 h9 => ?_) ?_
  · obtain ⟨hne, rfl, rfl⟩ := h9
    refine ⟨fun q9 => absurd (hf.symm.trans q9) Bool.false_ne_true, ?_⟩
    rcases (by omega : (g_back ((t, n), (c, S), D, sl) m).1 = 1 ∨ (g_back ((t, n), (c, S), D, sl) m).1 = 2) with er | er
    · refine ⟨12, ⟨[], ⟨0, 9, 12, 28⟩, [⟨0, 9, 15, 15⟩], "java/lang/IndexOutOfBoundsException", rfl, fun z hz => ?_, by decide, by decide, nL_28, ?_, rfl⟩, fun q9 => ?_⟩
      · exact absurd hz List.not_mem_nil
      · rw [er]; exact wc_28
      · refine G_astore_n (ls2 := [some (.ref (b)), some (.int (m)), some (.ref (o)), some (.ref (q9 + 1000000))]) dL_back_12 rfl (by decide) rfl ?_
        refine G_iconst (v := nI 1) dL_back_13 (by decide) ?_
        refine G_iret dL_back_14 rfl ?_
        exact qw_thr er hne hk0 hK
    · refine ⟨15, ⟨[⟨0, 9, 12, 28⟩], ⟨0, 9, 15, 15⟩, [], "java/lang/IllegalStateException", rfl, fun z hz => ?_, by decide, by decide, nL_15, ?_, rfl⟩, fun q9 => ?_⟩
      · simp only [List.mem_cons, List.not_mem_nil, or_false] at hz
        subst hz
        exact ⟨by decide, _, nL_28, by rw [er]; decide⟩
      · rw [er]; exact wc_15
      · refine G_astore_n (ls2 := [some (.ref (b)), some (.int (m)), some (.ref (o)), some (.ref (q9 + 1000000))]) dL_back_15 rfl (by decide) rfl ?_
        refine G_iconst (v := nI 2) dL_back_16 (by decide) ?_
        refine G_iret dL_back_17 rfl ?_
        exact qw_thr er hne hk0 hK
  rintro o9 μ9 ⟨e1, rfl, v9, rfl, hK9, hw9⟩
  refine G_i2l dL_back_7 ?_
  refine G_last (0) dL_back_8 ho rfl (by decide) (by decide) ?_
  refine G_goto (tgt := 18) dL_back_9 (by decide) ?_
  refine G_iconst (v := nI 0) dL_back_18 (by decide) ?_
  refine G_iret dL_back_19 rfl ?_
  exact qw_ret hob e1 hK9 hw9
theorem k_set {t : mN} {n c : Nat} {S : mS} {D : List mC} {sl : Nat → Option mC} {a : Int32} : (g_set ((t, n), (c, S), D, sl) a).1 ≤ 1 ∧ ((g_set ((t, n), (c, S), D, sl) a).1 ≠ 0 → (g_set ((t, n), (c, S), D, sl) a).2.2 = ((t, n), (c, S), D, sl)) := by
  dsimp only [g_set]
  (repeat' split) <;> first | exact ⟨Nat.le_of_ble_eq_true rfl, fun _ => rfl⟩ | exact ⟨Nat.zero_le _, fun q => absurd rfl q⟩

set_option maxHeartbeats 4000000 in
set_option maxRecDepth 100000 in
theorem c_L_set {σ : vS} {v : vV} {c b n : Nat} {S : mS} {t : mN} {D : List mC} {sl : Nat → Option mC} {a : Int32} {o : Nat} (hT : kLT σ b) (hK : KT v b ((t, n), (c, S), D, sl)) {B : Nat} (hG : GI B ((t, n), (c, S), D, sl)) (hB : B + 6000000 < 1000000000) (hf : σ.2.2.2 = false) (ho : vK σ o 12 1) (hob : b + 1603 ≤ o) : vCG M_L_set [(0, 9, 12, 13)] yL_set [.ref (b), .int (a), .ref (o)] (σ, v) (qW σ v b o (g_set ((t, n), (c, S), D, sl) a)) := by
  obtain ⟨hk1, hk0⟩ := k_set (t := t) (n := n) (c := c) (S := S) (D := D) (sl := sl) (a := a)
  refine vCG_of (ls := [some (.ref (b)), some (.int (a)), some (.ref (o)), none]) pn_L rfl rfl (Nat.le_of_ble_eq_true rfl) rfl ?_
  refine G_aload_n dL_set_0 rfl rfl ?_
  refine G_iconst (v := nI 0) dL_set_1 (by decide) ?_
  refine G_aload_n dL_set_2 rfl rfl ?_
  refine G_iload_n dL_set_3 rfl rfl ?_
  refine G_callVC (hh := [(0, 9, 12, 13)]) (rest := [.int (nI (0)), .ref (o)]) (As := [.int (a)]) dL_set_4 lL_59 yk_X6_set yv_X6_set kX6 rfl (by decide) hT.o rfl rfl (Nat.le_of_ble_eq_true rfl) (by decide) (c_X6_set hT hK hG hB hf) (fun o9 μ9 h9 hf9 => by obtain ⟨-, -, v9, rfl, -⟩ := h9; exact absurd (hf.symm.trans hf9) Bool.false_ne_true) (fun Ex μ9 h9 => ?_) ?_
  · obtain ⟨hne, rfl, rfl⟩ := h9
    refine ⟨fun q9 => absurd (hf.symm.trans q9) Bool.false_ne_true, ?_⟩
    have er : (g_set ((t, n), (c, S), D, sl) a).1 = 1 := by omega
    refine ⟨12, ⟨[], ⟨0, 9, 12, 13⟩, [], "java/lang/IllegalArgumentException", rfl, fun z hz => ?_, by decide, by decide, nL_13, ?_, rfl⟩, fun q9 => ?_⟩
    · exact absurd hz List.not_mem_nil
    · rw [er]; exact wc_13
    · refine G_astore_n (ls2 := [some (.ref (b)), some (.int (a)), some (.ref (o)), some (.ref (q9 + 1000000))]) dL_set_12 rfl (by decide) rfl ?_
      refine G_iconst (v := nI 1) dL_set_13 (by decide) ?_
      refine G_iret dL_set_14 rfl ?_
      exact qw_thr er hne hk0 hK
  rintro o9 μ9 ⟨e1, rfl, v9, rfl, hK9, hw9⟩
  refine G_i2l dL_set_7 ?_
  refine G_last (0) dL_set_8 ho rfl (by decide) (by decide) ?_
  refine G_goto (tgt := 15) dL_set_9 (by decide) ?_
  refine G_iconst (v := nI 0) dL_set_15 (by decide) ?_
  refine G_iret dL_set_16 rfl ?_
  exact qw_ret hob e1 hK9 hw9
theorem k_ticks {t : mN} {n c : Nat} {S : mS} {D : List mC} {sl : Nat → Option mC} {a : Int32} : (g_ticks ((t, n), (c, S), D, sl) a).1 ≤ 1 ∧ ((g_ticks ((t, n), (c, S), D, sl) a).1 ≠ 0 → (g_ticks ((t, n), (c, S), D, sl) a).2.2 = ((t, n), (c, S), D, sl)) := by
  dsimp only [g_ticks]
  (repeat' split) <;> first | exact ⟨Nat.le_of_ble_eq_true rfl, fun _ => rfl⟩ | exact ⟨Nat.zero_le _, fun q => absurd rfl q⟩

set_option maxHeartbeats 4000000 in
set_option maxRecDepth 100000 in
theorem c_L_ticks {σ : vS} {v : vV} {c b n : Nat} {S : mS} {t : mN} {D : List mC} {sl : Nat → Option mC} {a : Int32} {o : Nat} (hT : kLT σ b) (hK : KT v b ((t, n), (c, S), D, sl)) {B : Nat} (hG : GI B ((t, n), (c, S), D, sl)) (hB : B + 6000000 < 1000000000) (hf : σ.2.2.2 = false) (ho : vK σ o 12 1) (hob : b + 1603 ≤ o) : vCG M_L_ticks [(0, 9, 12, 13)] yL_ticks [.ref (b), .int (a), .ref (o)] (σ, v) (qW σ v b o (g_ticks ((t, n), (c, S), D, sl) a)) := by
  obtain ⟨hk1, hk0⟩ := k_ticks (t := t) (n := n) (c := c) (S := S) (D := D) (sl := sl) (a := a)
  refine vCG_of (ls := [some (.ref (b)), some (.int (a)), some (.ref (o)), none]) pn_L rfl rfl (Nat.le_of_ble_eq_true rfl) rfl ?_
  refine G_aload_n dL_ticks_0 rfl rfl ?_
  refine G_iconst (v := nI 0) dL_ticks_1 (by decide) ?_
  refine G_aload_n dL_ticks_2 rfl rfl ?_
  refine G_iload_n dL_ticks_3 rfl rfl ?_
  refine G_callVC (hh := [(0, 9, 12, 13)]) (rest := [.int (nI (0)), .ref (o)]) (As := [.int (a)]) dL_ticks_4 lL_62 yk_X6_ticks yv_X6_ticks kX6 rfl (by decide) hT.o rfl rfl (Nat.le_of_ble_eq_true rfl) (by decide) (c_X6_ticks hT hK hG hB hf) (fun o9 μ9 h9 hf9 => by obtain ⟨-, -, v9, rfl, -⟩ := h9; exact absurd (hf.symm.trans hf9) Bool.false_ne_true) (fun Ex μ9 h9 => ?_) ?_
  · obtain ⟨hne, rfl, rfl⟩ := h9
    refine ⟨fun q9 => absurd (hf.symm.trans q9) Bool.false_ne_true, ?_⟩
    have er : (g_ticks ((t, n), (c, S), D, sl) a).1 = 1 := by omega
    refine ⟨12, ⟨[], ⟨0, 9, 12, 13⟩, [], "java/lang/IllegalArgumentException", rfl, fun z hz => ?_, by decide, by decide, nL_13, ?_, rfl⟩, fun q9 => ?_⟩
    · exact absurd hz List.not_mem_nil
    · rw [er]; exact wc_13
    · refine G_astore_n (ls2 := [some (.ref (b)), some (.int (a)), some (.ref (o)), some (.ref (q9 + 1000000))]) dL_ticks_12 rfl (by decide) rfl ?_
      refine G_iconst (v := nI 1) dL_ticks_13 (by decide) ?_
      refine G_iret dL_ticks_14 rfl ?_
      exact qw_thr er hne hk0 hK
  rintro o9 μ9 ⟨e1, rfl, v9, rfl, hK9, hw9⟩
  refine G_i2l dL_ticks_7 ?_
  refine G_last (0) dL_ticks_8 ho rfl (by decide) (by decide) ?_
  refine G_goto (tgt := 15) dL_ticks_9 (by decide) ?_
  refine G_iconst (v := nI 0) dL_ticks_15 (by decide) ?_
  refine G_iret dL_ticks_16 rfl ?_
  exact qw_ret hob e1 hK9 hw9
theorem k_undo {t : mN} {n c : Nat} {S : mS} {D : List mC} {sl : Nat → Option mC} : (g_undo ((t, n), (c, S), D, sl)).1 ≤ 1 ∧ ((g_undo ((t, n), (c, S), D, sl)).1 ≠ 0 → (g_undo ((t, n), (c, S), D, sl)).2.2 = ((t, n), (c, S), D, sl)) := by
  dsimp only [g_undo]
  (repeat' split) <;> first | exact ⟨Nat.le_of_ble_eq_true rfl, fun _ => rfl⟩ | exact ⟨Nat.zero_le _, fun q => absurd rfl q⟩

set_option maxHeartbeats 4000000 in
set_option maxRecDepth 100000 in
theorem c_L_undo {σ : vS} {v : vV} {c b n : Nat} {S : mS} {t : mN} {D : List mC} {sl : Nat → Option mC} {o : Nat} (hT : kLT σ b) (hK : KT v b ((t, n), (c, S), D, sl)) {B : Nat} (hG : GI B ((t, n), (c, S), D, sl)) (hB : B + 6000000 < 1000000000) (hf : σ.2.2.2 = false) (ho : vK σ o 12 1) (hob : b + 1603 ≤ o) : vCG M_L_undo [(0, 8, 11, 15)] yL_undo [.ref (b), .ref (o)] (σ, v) (qW σ v b o (g_undo ((t, n), (c, S), D, sl))) := by
  obtain ⟨hk1, hk0⟩ := k_undo (t := t) (n := n) (c := c) (S := S) (D := D) (sl := sl)
  refine vCG_of (ls := [some (.ref (b)), some (.ref (o)), none]) pn_L rfl rfl (Nat.le_of_ble_eq_true rfl) rfl ?_
  refine G_aload_n dL_undo_0 rfl rfl ?_
  refine G_iconst (v := nI 0) dL_undo_1 (by decide) ?_
  refine G_aload_n dL_undo_2 rfl rfl ?_
  refine G_callVC (hh := [(0, 8, 11, 15)]) (rest := [.int (nI (0)), .ref (o)]) (As := []) dL_undo_3 lL_65 yk_X6_undo yv_X6_undo kX6 rfl (by decide) hT.o rfl rfl (Nat.le_of_ble_eq_true rfl) (by decide) (c_X6_undo hT hK hG hB hf) (fun o9 μ9 h9 hf9 => by obtain ⟨-, -, v9, rfl, -⟩ := h9; exact absurd (hf.symm.trans hf9) Bool.false_ne_true) (fun Ex μ9 h9 => ?_) ?_
  · obtain ⟨hne, rfl, rfl⟩ := h9
    refine ⟨fun q9 => absurd (hf.symm.trans q9) Bool.false_ne_true, ?_⟩
    have er : (g_undo ((t, n), (c, S), D, sl)).1 = 1 := by omega
    refine ⟨11, ⟨[], ⟨0, 8, 11, 15⟩, [], "java/lang/IllegalStateException", rfl, fun z hz => ?_, by decide, by decide, nL_15, ?_, rfl⟩, fun q9 => ?_⟩
    · exact absurd hz List.not_mem_nil
    · rw [er]; exact wc_15
    · refine G_astore_n (ls2 := [some (.ref (b)), some (.ref (o)), some (.ref (q9 + 1000000))]) dL_undo_11 rfl (by decide) rfl ?_
      refine G_iconst (v := nI 1) dL_undo_12 (by decide) ?_
      refine G_iret dL_undo_13 rfl ?_
      exact qw_thr er hne hk0 hK
  rintro o9 μ9 ⟨e1, rfl, v9, rfl, hK9, hw9⟩
  refine G_i2l dL_undo_6 ?_
  refine G_last (0) dL_undo_7 ho rfl (by decide) (by decide) ?_
  refine G_goto (tgt := 14) dL_undo_8 (by decide) ?_
  refine G_iconst (v := nI 0) dL_undo_14 (by decide) ?_
  refine G_iret dL_undo_15 rfl ?_
  exact qw_ret hob e1 hK9 hw9
theorem k_standsIn {t : mN} {n c : Nat} {S : mS} {D : List mC} {sl : Nat → Option mC} {m s w : Int32} : (g_standsIn ((t, n), (c, S), D, sl) m s w).1 ≤ 2 ∧ ((g_standsIn ((t, n), (c, S), D, sl) m s w).1 ≠ 0 → (g_standsIn ((t, n), (c, S), D, sl) m s w).2.2 = ((t, n), (c, S), D, sl)) := by
  dsimp only [g_standsIn]
  (repeat' split) <;> first | exact ⟨Nat.le_of_ble_eq_true rfl, fun _ => rfl⟩ | exact ⟨Nat.zero_le _, fun q => absurd rfl q⟩

set_option maxHeartbeats 4000000 in
set_option maxRecDepth 100000 in
theorem c_L_standsIn {σ : vS} {v : vV} {c b n : Nat} {S : mS} {t : mN} {D : List mC} {sl : Nat → Option mC} {m s w : Int32} {o : Nat} (hT : kLT σ b) (hK : KT v b ((t, n), (c, S), D, sl)) {B : Nat} (hG : GI B ((t, n), (c, S), D, sl)) (hB : B + 6000000 < 1000000000) (hf : σ.2.2.2 = false) (ho : vK σ o 12 1) (hob : b + 1603 ≤ o) : vCG M_L_standsIn [(0, 12, 15, 28), (0, 12, 19, 13)] yL_standsIn [.ref (b), .int (m), .int (s), .int (w), .ref (o)] (σ, v) (qW σ v b o (g_standsIn ((t, n), (c, S), D, sl) m s w)) := by
  obtain ⟨hk1, hk0⟩ := k_standsIn (t := t) (n := n) (c := c) (S := S) (D := D) (sl := sl) (m := m) (s := s) (w := w)
  refine vCG_of (ls := [some (.ref (b)), some (.int (m)), some (.int (s)), some (.int (w)), some (.ref (o)), none]) pn_L rfl rfl (Nat.le_of_ble_eq_true rfl) rfl ?_
  refine G_aload dL_standsIn_0 rfl ?_
  refine G_iconst (v := nI 0) dL_standsIn_2 (by decide) ?_
  refine G_aload_n dL_standsIn_3 rfl rfl ?_
  refine G_iload_n dL_standsIn_4 rfl rfl ?_
  refine G_iload_n dL_standsIn_5 rfl rfl ?_
  refine G_iload_n dL_standsIn_6 rfl rfl ?_
  refine G_callVC (hh := [(0, 12, 15, 28), (0, 12, 19, 13)]) (rest := [.int (nI (0)), .ref (o)]) (As := [.int (m), .int (s), .int (w)]) dL_standsIn_7 lL_68 yk_X6_standsIn yv_X6_standsIn kX6 rfl (by decide) hT.o rfl rfl (Nat.le_of_ble_eq_true rfl) (by decide) (c_X6_standsIn hT hK hG hB hf) (fun o9 μ9 h9 hf9 => by obtain ⟨-, -, v9, rfl, -⟩ := h9; exact absurd (hf.symm.trans hf9) Bool.false_ne_true) (fun Ex μ9 h9 => ?_) ?_
  · obtain ⟨hne, rfl, rfl⟩ := h9
    refine ⟨fun q9 => absurd (hf.symm.trans q9) Bool.false_ne_true, ?_⟩
    rcases (by omega : (g_standsIn ((t, n), (c, S), D, sl) m s w).1 = 1 ∨ (g_standsIn ((t, n), (c, S), D, sl) m s w).1 = 2) with er | er
    · refine ⟨15, ⟨[], ⟨0, 12, 15, 28⟩, [⟨0, 12, 19, 13⟩], "java/lang/IndexOutOfBoundsException", rfl, fun z hz => ?_, by decide, by decide, nL_28, ?_, rfl⟩, fun q9 => ?_⟩
      · exact absurd hz List.not_mem_nil
      · rw [er]; exact wc_28
      · refine G_astore (ls2 := [some (.ref (b)), some (.int (m)), some (.int (s)), some (.int (w)), some (.ref (o)), some (.ref (q9 + 1000000))]) dL_standsIn_15 (by decide) rfl ?_
        refine G_iconst (v := nI 1) dL_standsIn_17 (by decide) ?_
        refine G_iret dL_standsIn_18 rfl ?_
        exact qw_thr er hne hk0 hK
    · refine ⟨19, ⟨[⟨0, 12, 15, 28⟩], ⟨0, 12, 19, 13⟩, [], "java/lang/IllegalArgumentException", rfl, fun z hz => ?_, by decide, by decide, nL_13, ?_, rfl⟩, fun q9 => ?_⟩
      · simp only [List.mem_cons, List.not_mem_nil, or_false] at hz
        subst hz
        exact ⟨by decide, _, nL_28, by rw [er]; decide⟩
      · rw [er]; exact wc_13
      · refine G_astore (ls2 := [some (.ref (b)), some (.int (m)), some (.int (s)), some (.int (w)), some (.ref (o)), some (.ref (q9 + 1000000))]) dL_standsIn_19 (by decide) rfl ?_
        refine G_iconst (v := nI 2) dL_standsIn_21 (by decide) ?_
        refine G_iret dL_standsIn_22 rfl ?_
        exact qw_thr er hne hk0 hK
  rintro o9 μ9 ⟨e1, rfl, v9, rfl, hK9, hw9⟩
  refine G_i2l dL_standsIn_10 ?_
  refine G_last (0) dL_standsIn_11 ho rfl (by decide) (by decide) ?_
  refine G_goto (tgt := 23) dL_standsIn_12 (by decide) ?_
  refine G_iconst (v := nI 0) dL_standsIn_23 (by decide) ?_
  refine G_iret dL_standsIn_24 rfl ?_
  exact qw_ret hob e1 hK9 hw9
theorem k_compare {t : mN} {n c : Nat} {S : mS} {D : List mC} {sl : Nat → Option mC} {a d w : Int32} : (g_compare ((t, n), (c, S), D, sl) a d w).1 ≤ 2 ∧ ((g_compare ((t, n), (c, S), D, sl) a d w).1 ≠ 0 → (g_compare ((t, n), (c, S), D, sl) a d w).2.2 = ((t, n), (c, S), D, sl)) := by
  dsimp only [g_compare]
  (repeat' split) <;> first | exact ⟨Nat.le_of_ble_eq_true rfl, fun _ => rfl⟩ | exact ⟨Nat.zero_le _, fun q => absurd rfl q⟩

set_option maxHeartbeats 4000000 in
set_option maxRecDepth 100000 in
theorem c_L_compare {σ : vS} {v : vV} {c b n : Nat} {S : mS} {t : mN} {D : List mC} {sl : Nat → Option mC} {a d w : Int32} {o : Nat} (hT : kLT σ b) (hK : KT v b ((t, n), (c, S), D, sl)) {B : Nat} (hG : GI B ((t, n), (c, S), D, sl)) (hB : B + 6000000 < 1000000000) (hf : σ.2.2.2 = false) (ho : vK σ o 12 1) (hob : b + 1603 ≤ o) : vCG M_L_compare [(0, 12, 15, 28), (0, 12, 19, 13)] yL_compare [.ref (b), .int (a), .int (d), .int (w), .ref (o)] (σ, v) (qW σ v b o (g_compare ((t, n), (c, S), D, sl) a d w)) := by
  obtain ⟨hk1, hk0⟩ := k_compare (t := t) (n := n) (c := c) (S := S) (D := D) (sl := sl) (a := a) (d := d) (w := w)
  refine vCG_of (ls := [some (.ref (b)), some (.int (a)), some (.int (d)), some (.int (w)), some (.ref (o)), none]) pn_L rfl rfl (Nat.le_of_ble_eq_true rfl) rfl ?_
  refine G_aload dL_compare_0 rfl ?_
  refine G_iconst (v := nI 0) dL_compare_2 (by decide) ?_
  refine G_aload_n dL_compare_3 rfl rfl ?_
  refine G_iload_n dL_compare_4 rfl rfl ?_
  refine G_iload_n dL_compare_5 rfl rfl ?_
  refine G_iload_n dL_compare_6 rfl rfl ?_
  refine G_callVC (hh := [(0, 12, 15, 28), (0, 12, 19, 13)]) (rest := [.int (nI (0)), .ref (o)]) (As := [.int (a), .int (d), .int (w)]) dL_compare_7 lL_71 yk_X6_compare yv_X6_compare kX6 rfl (by decide) hT.o rfl rfl (Nat.le_of_ble_eq_true rfl) (by decide) (c_X6_compare hT hK hG hB hf) (fun o9 μ9 h9 hf9 => by obtain ⟨-, -, v9, rfl, -⟩ := h9; exact absurd (hf.symm.trans hf9) Bool.false_ne_true) (fun Ex μ9 h9 => ?_) ?_
  · obtain ⟨hne, rfl, rfl⟩ := h9
    refine ⟨fun q9 => absurd (hf.symm.trans q9) Bool.false_ne_true, ?_⟩
    rcases (by omega : (g_compare ((t, n), (c, S), D, sl) a d w).1 = 1 ∨ (g_compare ((t, n), (c, S), D, sl) a d w).1 = 2) with er | er
    · refine ⟨15, ⟨[], ⟨0, 12, 15, 28⟩, [⟨0, 12, 19, 13⟩], "java/lang/IndexOutOfBoundsException", rfl, fun z hz => ?_, by decide, by decide, nL_28, ?_, rfl⟩, fun q9 => ?_⟩
      · exact absurd hz List.not_mem_nil
      · rw [er]; exact wc_28
      · refine G_astore (ls2 := [some (.ref (b)), some (.int (a)), some (.int (d)), some (.int (w)), some (.ref (o)), some (.ref (q9 + 1000000))]) dL_compare_15 (by decide) rfl ?_
        refine G_iconst (v := nI 1) dL_compare_17 (by decide) ?_
        refine G_iret dL_compare_18 rfl ?_
        exact qw_thr er hne hk0 hK
    · refine ⟨19, ⟨[⟨0, 12, 15, 28⟩], ⟨0, 12, 19, 13⟩, [], "java/lang/IllegalArgumentException", rfl, fun z hz => ?_, by decide, by decide, nL_13, ?_, rfl⟩, fun q9 => ?_⟩
      · simp only [List.mem_cons, List.not_mem_nil, or_false] at hz
        subst hz
        exact ⟨by decide, _, nL_28, by rw [er]; decide⟩
      · rw [er]; exact wc_13
      · refine G_astore (ls2 := [some (.ref (b)), some (.int (a)), some (.int (d)), some (.int (w)), some (.ref (o)), some (.ref (q9 + 1000000))]) dL_compare_19 (by decide) rfl ?_
        refine G_iconst (v := nI 2) dL_compare_21 (by decide) ?_
        refine G_iret dL_compare_22 rfl ?_
        exact qw_thr er hne hk0 hK
  rintro o9 μ9 ⟨e1, rfl, v9, rfl, hK9, hw9⟩
  refine G_i2l dL_compare_10 ?_
  refine G_last (0) dL_compare_11 ho rfl (by decide) (by decide) ?_
  refine G_goto (tgt := 23) dL_compare_12 (by decide) ?_
  refine G_iconst (v := nI 0) dL_compare_23 (by decide) ?_
  refine G_iret dL_compare_24 rfl ?_
  exact qw_ret hob e1 hK9 hw9
theorem k_lacks {t : mN} {n c : Nat} {S : mS} {D : List mC} {sl : Nat → Option mC} {m : Int32} : (g_lacks ((t, n), (c, S), D, sl) m).1 ≤ 1 ∧ ((g_lacks ((t, n), (c, S), D, sl) m).1 ≠ 0 → (g_lacks ((t, n), (c, S), D, sl) m).2.2 = ((t, n), (c, S), D, sl)) := by
  dsimp only [g_lacks]
  (repeat' split) <;> first | exact ⟨Nat.le_of_ble_eq_true rfl, fun _ => rfl⟩ | exact ⟨Nat.zero_le _, fun q => absurd rfl q⟩

set_option maxHeartbeats 4000000 in
set_option maxRecDepth 100000 in
theorem c_L_lacks {σ : vS} {v : vV} {c b n : Nat} {S : mS} {t : mN} {D : List mC} {sl : Nat → Option mC} {m : Int32} {o : Nat} (hT : kLT σ b) (hK : KT v b ((t, n), (c, S), D, sl)) {B : Nat} (hG : GI B ((t, n), (c, S), D, sl)) (hB : B + 6000000 < 1000000000) (hf : σ.2.2.2 = false) (ho : vK σ o 12 1) (hob : b + 1603 ≤ o) : vCG M_L_lacks [(0, 9, 12, 28)] yL_lacks [.ref (b), .int (m), .ref (o)] (σ, v) (qW σ v b o (g_lacks ((t, n), (c, S), D, sl) m)) := by
  obtain ⟨hk1, hk0⟩ := k_lacks (t := t) (n := n) (c := c) (S := S) (D := D) (sl := sl) (m := m)
  refine vCG_of (ls := [some (.ref (b)), some (.int (m)), some (.ref (o)), none]) pn_L rfl rfl (Nat.le_of_ble_eq_true rfl) rfl ?_
  refine G_aload_n dL_lacks_0 rfl rfl ?_
  refine G_iconst (v := nI 0) dL_lacks_1 (by decide) ?_
  refine G_aload_n dL_lacks_2 rfl rfl ?_
  refine G_iload_n dL_lacks_3 rfl rfl ?_
  refine G_callVC (hh := [(0, 9, 12, 28)]) (rest := [.int (nI (0)), .ref (o)]) (As := [.int (m)]) dL_lacks_4 lL_74 yk_X6_lacks yv_X6_lacks kX6 rfl (by decide) hT.o rfl rfl (Nat.le_of_ble_eq_true rfl) (by decide) (c_X6_lacks hT hK hG hB hf) (fun o9 μ9 h9 hf9 => by obtain ⟨-, -, v9, rfl, -⟩ := h9; exact absurd (hf.symm.trans hf9) Bool.false_ne_true) (fun Ex μ9 h9 => ?_) ?_
  · obtain ⟨hne, rfl, rfl⟩ := h9
    refine ⟨fun q9 => absurd (hf.symm.trans q9) Bool.false_ne_true, ?_⟩
    have er : (g_lacks ((t, n), (c, S), D, sl) m).1 = 1 := by omega
    refine ⟨12, ⟨[], ⟨0, 9, 12, 28⟩, [], "java/lang/IndexOutOfBoundsException", rfl, fun z hz => ?_, by decide, by decide, nL_28, ?_, rfl⟩, fun q9 => ?_⟩
    · exact absurd hz List.not_mem_nil
    · rw [er]; exact wc_28
    · refine G_astore_n (ls2 := [some (.ref (b)), some (.int (m)), some (.ref (o)), some (.ref (q9 + 1000000))]) dL_lacks_12 rfl (by decide) rfl ?_
      refine G_iconst (v := nI 1) dL_lacks_13 (by decide) ?_
      refine G_iret dL_lacks_14 rfl ?_
      exact qw_thr er hne hk0 hK
  rintro o9 μ9 ⟨e1, rfl, v9, rfl, hK9, hw9⟩
  refine G_i2l dL_lacks_7 ?_
  refine G_last (0) dL_lacks_8 ho rfl (by decide) (by decide) ?_
  refine G_goto (tgt := 15) dL_lacks_9 (by decide) ?_
  refine G_iconst (v := nI 0) dL_lacks_15 (by decide) ?_
  refine G_iret dL_lacks_16 rfl ?_
  exact qw_ret hob e1 hK9 hw9
theorem k_runScript {t : mN} {n c : Nat} {S : mS} {D : List mC} {sl : Nat → Option mC} {n9 : Int32} {s : Int64} : (g_runScript ((t, n), (c, S), D, sl) n9 s).1 ≤ 1 ∧ ((g_runScript ((t, n), (c, S), D, sl) n9 s).1 ≠ 0 → (g_runScript ((t, n), (c, S), D, sl) n9 s).2.2 = ((t, n), (c, S), D, sl)) := by
  dsimp only [g_runScript]
  (repeat' split) <;> first | exact ⟨Nat.le_of_ble_eq_true rfl, fun _ => rfl⟩ | exact ⟨Nat.zero_le _, fun q => absurd rfl q⟩

set_option maxHeartbeats 4000000 in
set_option maxRecDepth 100000 in
theorem c_L_runScript {σ : vS} {v : vV} {c b n : Nat} {S : mS} {t : mN} {D : List mC} {sl : Nat → Option mC} {n9 : Int32} {s : Int64} {o : Nat} (hT : kLT σ b) (hK : KT v b ((t, n), (c, S), D, sl)) {B : Nat} (hG : GI B ((t, n), (c, S), D, sl)) (hB : B + 6000000 < 1000000000) (hf : σ.2.2.2 = false) (ho : vK σ o 12 1) (hob : b + 1603 ≤ o) : vCG M_L_runScript [(0, 11, 14, 13)] yL_runScript [.ref (b), .int (n9), .long (s), .ref (o)] (σ, v) (qW σ v b o (g_runScript ((t, n), (c, S), D, sl) n9 s)) := by
  obtain ⟨hk1, hk0⟩ := k_runScript (t := t) (n := n) (c := c) (S := S) (D := D) (sl := sl) (n9 := n9) (s := s)
  refine vCG_of (ls := [some (.ref (b)), some (.int (n9)), some (.long (s)), none, some (.ref (o)), none]) pn_L rfl rfl (Nat.le_of_ble_eq_true rfl) rfl ?_
  refine G_aload dL_runScript_0 rfl ?_
  refine G_iconst (v := nI 0) dL_runScript_2 (by decide) ?_
  refine G_aload_n dL_runScript_3 rfl rfl ?_
  refine G_iload_n dL_runScript_4 rfl rfl ?_
  refine G_lload_n dL_runScript_5 rfl rfl ?_
  refine G_callVC (hh := [(0, 11, 14, 13)]) (rest := [.int (nI (0)), .ref (o)]) (As := [.int (n9), .long (s)]) dL_runScript_6 lL_77 yk_X6_runScript yv_X6_runScript kX6 rfl (by decide) hT.o rfl rfl (Nat.le_of_ble_eq_true rfl) (by decide) (c_X6_runScript hT hK hG hB hf) (fun o9 μ9 h9 hf9 => by obtain ⟨-, -, v9, rfl, -⟩ := h9; exact absurd (hf.symm.trans hf9) Bool.false_ne_true) (fun Ex μ9 h9 => ?_) ?_
  · obtain ⟨hne, rfl, rfl⟩ := h9
    refine ⟨fun q9 => absurd (hf.symm.trans q9) Bool.false_ne_true, ?_⟩
    have er : (g_runScript ((t, n), (c, S), D, sl) n9 s).1 = 1 := by omega
    refine ⟨14, ⟨[], ⟨0, 11, 14, 13⟩, [], "java/lang/IllegalArgumentException", rfl, fun z hz => ?_, by decide, by decide, nL_13, ?_, rfl⟩, fun q9 => ?_⟩
    · exact absurd hz List.not_mem_nil
    · rw [er]; exact wc_13
    · refine G_astore (ls2 := [some (.ref (b)), some (.int (n9)), some (.long (s)), none, some (.ref (o)), some (.ref (q9 + 1000000))]) dL_runScript_14 (by decide) rfl ?_
      refine G_iconst (v := nI 1) dL_runScript_16 (by decide) ?_
      refine G_iret dL_runScript_17 rfl ?_
      exact qw_thr er hne hk0 hK
  rintro o9 μ9 ⟨e1, rfl, v9, rfl, hK9, hw9⟩
  refine G_i2l dL_runScript_9 ?_
  refine G_last (0) dL_runScript_10 ho rfl (by decide) (by decide) ?_
  refine G_goto (tgt := 18) dL_runScript_11 (by decide) ?_
  refine G_iconst (v := nI 0) dL_runScript_18 (by decide) ?_
  refine G_iret dL_runScript_19 rfl ?_
  exact qw_ret hob e1 hK9 hw9
theorem k_simulate {t : mN} {n c : Nat} {S : mS} {D : List mC} {sl : Nat → Option mC} {n8 : Int32} {x : Int64} : (g_simulate ((t, n), (c, S), D, sl) x n8).1 ≤ 1 ∧ ((g_simulate ((t, n), (c, S), D, sl) x n8).1 ≠ 0 → (g_simulate ((t, n), (c, S), D, sl) x n8).2.2 = ((t, n), (c, S), D, sl)) := by
  dsimp only [g_simulate]
  (repeat' split) <;> first | exact ⟨Nat.le_of_ble_eq_true rfl, fun _ => rfl⟩ | exact ⟨Nat.zero_le _, fun q => absurd rfl q⟩

set_option maxHeartbeats 4000000 in
set_option maxRecDepth 100000 in
theorem c_L_simulate {σ : vS} {v : vV} {c b n : Nat} {S : mS} {t : mN} {D : List mC} {sl : Nat → Option mC} {n8 : Int32} {x : Int64} {o : Nat} (hT : kLT σ b) (hK : KT v b ((t, n), (c, S), D, sl)) {B : Nat} (hG : GI B ((t, n), (c, S), D, sl)) (hB : B + 6000000 < 1000000000) (hf : σ.2.2.2 = false) (ho : vK σ o 12 1) (hob : b + 1603 ≤ o) : vCG M_L_simulate [(0, 11, 14, 13)] yL_simulate [.ref (b), .long (x), .int (n8), .ref (o)] (σ, v) (qW σ v b o (g_simulate ((t, n), (c, S), D, sl) x n8)) := by
  obtain ⟨hk1, hk0⟩ := k_simulate (t := t) (n := n) (c := c) (S := S) (D := D) (sl := sl) (x := x) (n8 := n8)
  refine vCG_of (ls := [some (.ref (b)), some (.long (x)), none, some (.int (n8)), some (.ref (o)), none]) pn_L rfl rfl (Nat.le_of_ble_eq_true rfl) rfl ?_
  refine G_aload dL_simulate_0 rfl ?_
  refine G_iconst (v := nI 0) dL_simulate_2 (by decide) ?_
  refine G_aload_n dL_simulate_3 rfl rfl ?_
  refine G_lload_n dL_simulate_4 rfl rfl ?_
  refine G_iload_n dL_simulate_5 rfl rfl ?_
  refine G_callVC (hh := [(0, 11, 14, 13)]) (rest := [.int (nI (0)), .ref (o)]) (As := [.long (x), .int (n8)]) dL_simulate_6 lL_81 yk_X6_simulate yv_X6_simulate kX6 rfl (by decide) hT.o rfl rfl (Nat.le_of_ble_eq_true rfl) (by decide) (c_X6_simulate hT hK hG hB hf) (fun o9 μ9 h9 hf9 => by obtain ⟨-, -, v9, rfl, -⟩ := h9; exact absurd (hf.symm.trans hf9) Bool.false_ne_true) (fun Ex μ9 h9 => ?_) ?_
  · obtain ⟨hne, rfl, rfl⟩ := h9
    refine ⟨fun q9 => absurd (hf.symm.trans q9) Bool.false_ne_true, ?_⟩
    have er : (g_simulate ((t, n), (c, S), D, sl) x n8).1 = 1 := by omega
    refine ⟨14, ⟨[], ⟨0, 11, 14, 13⟩, [], "java/lang/IllegalArgumentException", rfl, fun z hz => ?_, by decide, by decide, nL_13, ?_, rfl⟩, fun q9 => ?_⟩
    · exact absurd hz List.not_mem_nil
    · rw [er]; exact wc_13
    · refine G_astore (ls2 := [some (.ref (b)), some (.long (x)), none, some (.int (n8)), some (.ref (o)), some (.ref (q9 + 1000000))]) dL_simulate_14 (by decide) rfl ?_
      refine G_iconst (v := nI 1) dL_simulate_16 (by decide) ?_
      refine G_iret dL_simulate_17 rfl ?_
      exact qw_thr er hne hk0 hK
  rintro o9 μ9 ⟨e1, rfl, v9, rfl, hK9, hw9⟩
  refine G_i2l dL_simulate_9 ?_
  refine G_last (0) dL_simulate_10 ho rfl (by decide) (by decide) ?_
  refine G_goto (tgt := 18) dL_simulate_11 (by decide) ?_
  refine G_iconst (v := nI 0) dL_simulate_18 (by decide) ?_
  refine G_iret dL_simulate_19 rfl ?_
  exact qw_ret hob e1 hK9 hw9
theorem k_save {t : mN} {n c : Nat} {S : mS} {D : List mC} {sl : Nat → Option mC} {s : Int32} : (g_save ((t, n), (c, S), D, sl) s).1 ≤ 1 ∧ ((g_save ((t, n), (c, S), D, sl) s).1 ≠ 0 → (g_save ((t, n), (c, S), D, sl) s).2.2 = ((t, n), (c, S), D, sl)) := by
  dsimp only [g_save]
  (repeat' split) <;> first | exact ⟨Nat.le_of_ble_eq_true rfl, fun _ => rfl⟩ | exact ⟨Nat.zero_le _, fun q => absurd rfl q⟩

set_option maxHeartbeats 4000000 in
set_option maxRecDepth 100000 in
theorem c_L_save {σ : vS} {v : vV} {c b n : Nat} {S : mS} {t : mN} {D : List mC} {sl : Nat → Option mC} {s : Int32} {o : Nat} (hT : kLT σ b) (hK : KT v b ((t, n), (c, S), D, sl)) {B : Nat} (hG : GI B ((t, n), (c, S), D, sl)) (hB : B + 6000000 < 1000000000) (hf : σ.2.2.2 = false) (ho : vK σ o 12 1) (hob : b + 1603 ≤ o) : vCG M_L_save [(0, 9, 12, 28)] yL_save [.ref (b), .int (s), .ref (o)] (σ, v) (qW σ v b o (g_save ((t, n), (c, S), D, sl) s)) := by
  obtain ⟨hk1, hk0⟩ := k_save (t := t) (n := n) (c := c) (S := S) (D := D) (sl := sl) (s := s)
  refine vCG_of (ls := [some (.ref (b)), some (.int (s)), some (.ref (o)), none]) pn_L rfl rfl (Nat.le_of_ble_eq_true rfl) rfl ?_
  refine G_aload_n dL_save_0 rfl rfl ?_
  refine G_iconst (v := nI 0) dL_save_1 (by decide) ?_
  refine G_aload_n dL_save_2 rfl rfl ?_
  refine G_iload_n dL_save_3 rfl rfl ?_
  refine G_callVC (hh := [(0, 9, 12, 28)]) (rest := [.int (nI (0)), .ref (o)]) (As := [.int (s)]) dL_save_4 lL_85 yk_X6_save yv_X6_save kX6 rfl (by decide) hT.o rfl rfl (Nat.le_of_ble_eq_true rfl) (by decide) (c_X6_save hT hK hG hB hf) (fun o9 μ9 h9 hf9 => by obtain ⟨-, -, v9, rfl, -⟩ := h9; exact absurd (hf.symm.trans hf9) Bool.false_ne_true) (fun Ex μ9 h9 => ?_) ?_
  · obtain ⟨hne, rfl, rfl⟩ := h9
    refine ⟨fun q9 => absurd (hf.symm.trans q9) Bool.false_ne_true, ?_⟩
    have er : (g_save ((t, n), (c, S), D, sl) s).1 = 1 := by omega
    refine ⟨12, ⟨[], ⟨0, 9, 12, 28⟩, [], "java/lang/IndexOutOfBoundsException", rfl, fun z hz => ?_, by decide, by decide, nL_28, ?_, rfl⟩, fun q9 => ?_⟩
    · exact absurd hz List.not_mem_nil
    · rw [er]; exact wc_28
    · refine G_astore_n (ls2 := [some (.ref (b)), some (.int (s)), some (.ref (o)), some (.ref (q9 + 1000000))]) dL_save_12 rfl (by decide) rfl ?_
      refine G_iconst (v := nI 1) dL_save_13 (by decide) ?_
      refine G_iret dL_save_14 rfl ?_
      exact qw_thr er hne hk0 hK
  rintro o9 μ9 ⟨e1, rfl, v9, rfl, hK9, hw9⟩
  refine G_i2l dL_save_7 ?_
  refine G_last (0) dL_save_8 ho rfl (by decide) (by decide) ?_
  refine G_goto (tgt := 15) dL_save_9 (by decide) ?_
  refine G_iconst (v := nI 0) dL_save_15 (by decide) ?_
  refine G_iret dL_save_16 rfl ?_
  exact qw_ret hob e1 hK9 hw9
theorem k_restore {t : mN} {n c : Nat} {S : mS} {D : List mC} {sl : Nat → Option mC} {s : Int32} : (g_restore ((t, n), (c, S), D, sl) s).1 ≤ 2 ∧ ((g_restore ((t, n), (c, S), D, sl) s).1 ≠ 0 → (g_restore ((t, n), (c, S), D, sl) s).2.2 = ((t, n), (c, S), D, sl)) := by
  dsimp only [g_restore]
  split
  · exact ⟨Nat.le_of_ble_eq_true rfl, fun _ => rfl⟩
  · cases sl s.toInt.toNat with
    | none => exact ⟨Nat.le_of_ble_eq_true rfl, fun _ => rfl⟩
    | some Y => exact ⟨Nat.zero_le _, fun q => absurd rfl q⟩

set_option maxHeartbeats 4000000 in
set_option maxRecDepth 100000 in
theorem c_L_restore {σ : vS} {v : vV} {c b n : Nat} {S : mS} {t : mN} {D : List mC} {sl : Nat → Option mC} {s : Int32} {o : Nat} (hT : kLT σ b) (hK : KT v b ((t, n), (c, S), D, sl)) {B : Nat} (hG : GI B ((t, n), (c, S), D, sl)) (hB : B + 6000000 < 1000000000) (hf : σ.2.2.2 = false) (ho : vK σ o 12 1) (hob : b + 1603 ≤ o) : vCG M_L_restore [(0, 9, 12, 28), (0, 9, 15, 15)] yL_restore [.ref (b), .int (s), .ref (o)] (σ, v) (qW σ v b o (g_restore ((t, n), (c, S), D, sl) s)) := by
  obtain ⟨hk1, hk0⟩ := k_restore (t := t) (n := n) (c := c) (S := S) (D := D) (sl := sl) (s := s)
  refine vCG_of (ls := [some (.ref (b)), some (.int (s)), some (.ref (o)), none]) pn_L rfl rfl (Nat.le_of_ble_eq_true rfl) rfl ?_
  refine G_aload_n dL_restore_0 rfl rfl ?_
  refine G_iconst (v := nI 0) dL_restore_1 (by decide) ?_
  refine G_aload_n dL_restore_2 rfl rfl ?_
  refine G_iload_n dL_restore_3 rfl rfl ?_
  refine G_callVC (hh := [(0, 9, 12, 28), (0, 9, 15, 15)]) (rest := [.int (nI (0)), .ref (o)]) (As := [.int (s)]) dL_restore_4 lL_88 yk_X6_restore yv_X6_restore kX6 rfl (by decide) hT.o rfl rfl (Nat.le_of_ble_eq_true rfl) (by decide) (c_X6_restore hT hK hG hB hf) (fun o9 μ9 h9 hf9 => by obtain ⟨-, -, v9, rfl, -⟩ := h9; exact absurd (hf.symm.trans hf9) Bool.false_ne_true) (fun Ex μ9 h9 => ?_) ?_
  · obtain ⟨hne, rfl, rfl⟩ := h9
    refine ⟨fun q9 => absurd (hf.symm.trans q9) Bool.false_ne_true, ?_⟩
    rcases (by omega : (g_restore ((t, n), (c, S), D, sl) s).1 = 1 ∨ (g_restore ((t, n), (c, S), D, sl) s).1 = 2) with er | er
    · refine ⟨12, ⟨[], ⟨0, 9, 12, 28⟩, [⟨0, 9, 15, 15⟩], "java/lang/IndexOutOfBoundsException", rfl, fun z hz => ?_, by decide, by decide, nL_28, ?_, rfl⟩, fun q9 => ?_⟩
      · exact absurd hz List.not_mem_nil
      · rw [er]; exact wc_28
      · refine G_astore_n (ls2 := [some (.ref (b)), some (.int (s)), some (.ref (o)), some (.ref (q9 + 1000000))]) dL_restore_12 rfl (by decide) rfl ?_
        refine G_iconst (v := nI 1) dL_restore_13 (by decide) ?_
        refine G_iret dL_restore_14 rfl ?_
        exact qw_thr er hne hk0 hK
    · refine ⟨15, ⟨[⟨0, 9, 12, 28⟩], ⟨0, 9, 15, 15⟩, [], "java/lang/IllegalStateException", rfl, fun z hz => ?_, by decide, by decide, nL_15, ?_, rfl⟩, fun q9 => ?_⟩
      · simp only [List.mem_cons, List.not_mem_nil, or_false] at hz
        subst hz
        exact ⟨by decide, _, nL_28, by rw [er]; decide⟩
      · rw [er]; exact wc_15
      · refine G_astore_n (ls2 := [some (.ref (b)), some (.int (s)), some (.ref (o)), some (.ref (q9 + 1000000))]) dL_restore_15 rfl (by decide) rfl ?_
        refine G_iconst (v := nI 2) dL_restore_16 (by decide) ?_
        refine G_iret dL_restore_17 rfl ?_
        exact qw_thr er hne hk0 hK
  rintro o9 μ9 ⟨e1, rfl, v9, rfl, hK9, hw9⟩
  refine G_i2l dL_restore_7 ?_
  refine G_last (0) dL_restore_8 ho rfl (by decide) (by decide) ?_
  refine G_goto (tgt := 18) dL_restore_9 (by decide) ?_
  refine G_iconst (v := nI 0) dL_restore_18 (by decide) ?_
  refine G_iret dL_restore_19 rfl ?_
  exact qw_ret hob e1 hK9 hw9
