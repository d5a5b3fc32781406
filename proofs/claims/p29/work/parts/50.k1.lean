
theorem P_mmin {M : vR} {pc idx : Nat} {ls : List (Option Value)} {st : List Value} {b : Nat × Nat} {μ : vM} {Q : vO → vM → Prop} {x y : Int32} (hd : decode (vCC M) pc = .ok (.invokestatic idx, 3)) (hl : Cond.methodLink (vOwn M) idx yJ9_min_7cf53 ∈ aw) (hR : 1 ≤ (vRm M).frames ∧ (st.map fun v => v.category).sum + 13 ≤ (vRm M).locals) (k : vP M (pc + 3) ls (.int (if y < x then y else x) :: st) b μ Q) : vP M pc ls (.int y :: .int x :: st) b μ Q := by
  intro p l e s m args below meth c D yc hz Qs X E H locs cells slots lsA hL hH hS h1 h2 h3
  refine va_mmin X.1 X.2.1 (X.2.2.1.trans hL.1.symm) X.2.2.2.1 (X.2.2.2.2.1 _ hl) (X.2.2.2.2.1 _ ys_J9_min_7cf53) (X.2.2.2.2.1 _ yk_J9_min_7cf53.2.1) (X.2.2.2.2.1 _ yk_J9_min_7cf53.1) hR.1 ?_ (by omega) (by omega) hd (k p l e s m args below meth c D yc hz Qs X E H locs cells slots lsA hL hH hS h1 h2 h3)
  rw [vcat_sum]
  exact hR.2
theorem P_mabs {M : vR} {pc idx : Nat} {ls : List (Option Value)} {st : List Value} {b : Nat × Nat} {μ : vM} {Q : vO → vM → Prop} {x : Int32} (hd : decode (vCC M) pc = .ok (.invokestatic idx, 3)) (hl : Cond.methodLink (vOwn M) idx yJ9_abs_0f7a4 ∈ aw) (hR : 1 ≤ (vRm M).frames ∧ (st.map fun v => v.category).sum + 13 ≤ (vRm M).locals) (k : vP M (pc + 3) ls (.int (if 0 ≤ x then x else 0 - x) :: st) b μ Q) : vP M pc ls (.int x :: st) b μ Q := by
  intro p l e s m args below meth c D yc hz Qs X E H locs cells slots lsA hL hH hS h1 h2 h3
  refine va_mabs X.1 X.2.1 (X.2.2.1.trans hL.1.symm) X.2.2.2.1 (X.2.2.2.2.1 _ hl) (X.2.2.2.2.1 _ ys_J9_abs_0f7a4) (X.2.2.2.2.1 _ yk_J9_abs_0f7a4.2.1) (X.2.2.2.2.1 _ yk_J9_abs_0f7a4.1) hR.1 ?_ (by omega) (by omega) hd (k p l e s m args below meth c D yc hz Qs X E H locs cells slots lsA hL hH hS h1 h2 h3)
  rw [vcat_sum]
  exact hR.2
/-! THE CLASS: its nodes, reports -/
/-- but for w nodes from r on all stay -/
def vOw (v v' : vV) (r w : Nat) : Prop := ∀ n, (n < r ∨ r + w ≤ n) → v' n = v n
theorem vOw.rf {v : vV} {r w : Nat} : vOw v v r w := fun _ _ => rfl
theorem vOw.tr {v v' v'' : vV} {r w : Nat} (h : vOw v v' r w) (g : vOw v' v'' r w) : vOw v v'' r w := fun n q => (g n q).trans (h n q)
theorem vOw.mono {v v' : vV} {r w r2 w2 : Nat} (h : vOw v v' r w) (h1 : r2 ≤ r) (h2 : r + w ≤ r2 + w2) : vOw v v' r2 w2 := fun n q => h n (by omega)
theorem vOw.u {v v' : vV} {r w n k : Nat} {x : Int32} (h : vOw v v' r w) (h1 : r ≤ n) (h2 : n < r + w) : vOw v (vU v' n k x) r w := fun j q => (vU_ne (by omega)).trans (h j q)
theorem vOw.ua {v v' : vV} {r w n : Nat} {f : Nat → Int32} (h : vOw v v' r w) (h1 : r ≤ n) (h2 : n < r + w) : vOw v (vUA v' n f) r w := fun j q => (vUA_ne (by omega)).trans (h j q)
theorem cpy_in {f g : Nat → Int32} {sp dp n k : Nat} (h1 : dp ≤ k) (h2 : k < dp + n) : va_cpy f g sp dp n k = f (sp + (k - dp)) := if_pos ⟨h1, h2⟩
theorem cpy_out {f g : Nat → Int32} {sp dp n k : Nat} (h : k < dp ∨ dp + n ≤ k) : va_cpy f g sp dp n k = g k := if_neg (by omega)
def kLP (σ : vS) (r ln : Nat) : Prop := vK σ r 4 0 ∧ vK σ (r + 1) 8 ln ∧ vK σ (r + 2) 8 ln ∧ vK σ (r + 3) 8 ln ∧ σ.2.2.1 r 0 = some (r + 1) ∧ σ.2.2.1 r 1 = some (r + 2) ∧ σ.2.2.1 r 2 = some (r + 3)
theorem kLP.o {σ : vS} {r ln : Nat} (h : kLP σ r ln) : vK σ r 4 0 := h.1
theorem kLP.a1 {σ : vS} {r ln : Nat} (h : kLP σ r ln) : vK σ (r + 1) 8 ln := h.2.1
theorem kLP.a2 {σ : vS} {r ln : Nat} (h : kLP σ r ln) : vK σ (r + 2) 8 ln := h.2.2.1
theorem kLP.a3 {σ : vS} {r ln : Nat} (h : kLP σ r ln) : vK σ (r + 3) 8 ln := h.2.2.2.1
theorem kLP.c0 {σ : vS} {r ln : Nat} (h : kLP σ r ln) : σ.2.2.1 r 0 = some (r + 1) := h.2.2.2.2.1
theorem kLP.c1 {σ : vS} {r ln : Nat} (h : kLP σ r ln) : σ.2.2.1 r 1 = some (r + 2) := h.2.2.2.2.2.1
theorem kLP.c2 {σ : vS} {r ln : Nat} (h : kLP σ r ln) : σ.2.2.1 r 2 = some (r + 3) := h.2.2.2.2.2.2
/-- the reports tell these rows -/
def RP (v : vV) (r : Nat) (l : List mT) : Prop := v r 3 = nI l.length ∧ ∀ (k : Nat) (t : mT), l[k]? = some t → v (r + 1) k = nI t.1 ∧ v (r + 2) k = nI t.2.1 ∧ v (r + 3) k = nI t.2.2
theorem RP.d {v : vV} {r : Nat} {l : List mT} (h : RP v r l) {k : Nat} (hk : k < l.length) : v (r + 1) k = nI (l.getD k t0).1 ∧ v (r + 2) k = nI (l.getD k t0).2.1 ∧ v (r + 3) k = nI (l.getD k t0).2.2 := h.2 k _ (getD_some hk)
theorem RP.of {v v' : vV} {r : Nat} {l : List mT} (h : RP v r l) (e0 : v' r = v r) (e1 : v' (r + 1) = v (r + 1)) (e2 : v' (r + 2) = v (r + 2)) (e3 : v' (r + 3) = v (r + 3)) : RP v' r l := ⟨by rw [e0]; exact h.1, fun k t q => by rw [e1, e2, e3]; exact h.2 k t q⟩
theorem RP.add {v : vV} {r n c h : Nat} {l : List mT} (hR : RP v r l) : RP (vU (vU (vU (vU v (r + 1) l.length (nI n)) (r + 2) l.length (nI c)) (r + 3) l.length (nI h)) r 3 (nI (l.length + 1))) r (l ++ [(n, c, h)]) := by
  refine ⟨by rw [vU_s, List.length_append]; rfl, fun k t q => ?_⟩
  by_cases e : k < l.length
  · rw [List.getElem?_append_left e] at q
    have g := hR.2 k t q
    rw [vU_o (by omega), vU_o (by omega), vU_o (by omega), vU_o (by omega), vU_o (by omega), vU_o (by omega), vU_o (by omega), vU_o (by omega), vU_o (by omega), vU_o (by omega), vU_o (by omega), vU_o (by omega)]
    exact g
  · rw [List.getElem?_append_right (by omega)] at q
    have e2 : k - l.length = 0 := by
      have := (List.getElem?_eq_some_iff.mp q).1
      simp only [List.length_singleton] at this
      omega
    rw [e2] at q
    cases q
    have e3 : k = l.length := by omega
    subst e3
    refine ⟨?_, ?_, ?_⟩
    · rw [vU_o (by omega), vU_o (by omega), vU_o (by omega), vU_s]
    · rw [vU_o (by omega), vU_o (by omega), vU_s]
    · rw [vU_o (by omega), vU_s]
def mtk (num by9 : Nat) (l : List mT) : Nat := l.foldl (fun a t => if t.1 = num ∧ t.2.1 = by9 then a ||| t.2.2 else a) 0
theorem mtk_s {num by9 : Nat} {l : List mT} {k : Nat} (h : k < l.length) : mtk num by9 (l.take (k + 1)) = if (l.getD k t0).1 = num ∧ (l.getD k t0).2.1 = by9 then mtk num by9 (l.take k) ||| (l.getD k t0).2.2 else mtk num by9 (l.take k) := by
  rw [take_s (d := t0) h]; unfold mtk; rw [List.foldl_append]; rfl
/-- of the first n rows that a set names, those with the roll of one: all that they tell -/
def mhl (A D H : Nat → Nat) (row rows : Nat) : Nat → Nat
  | 0 => 0
  | k + 1 => mhl A D H row rows k ||| (if rows.testBit k = true ∧ A k = A row ∧ D k = D row then H k else 0)
theorem abs_9 : ∀ a, a < 10 → ∀ d, d < 10 → (if 0 ≤ nI a - nI d then nI a - nI d else 0 - (nI a - nI d)) = nI (a - d + (d - a)) := by decide +kernel
set_option maxHeartbeats 4000000 in
set_option maxRecDepth 100000 in
theorem c_X6_hasBit {μ : vM} {s k : Nat} (hs : s < 2147483648) (hk : k < 32) : vC M_X6_hasBit yX6_hasBit [.int (nI (s)), .int (nI (k))] μ (qP μ (.int (vb (s.testBit k)))) := by
  refine vC_of (ls := [some (.int (nI (s))), some (.int (nI (k)))]) pn_X6 rfl rfl (Nat.le_of_ble_eq_true rfl) rfl ?_
  refine P_iload_n dX6_hasBit_0 rfl rfl ?_
  refine P_iload_n dX6_hasBit_1 rfl rfl ?_
  refine P_ishrN dX6_hasBit_2 (by omega) (by omega) ?_
  refine P_iconst (v := nI 1) dX6_hasBit_3 (by decide) ?_
  refine P_iandN dX6_hasBit_4 ?_
  refine P_if_eqN (tgt := 12) dX6_hasBit_5 (by decide) (by exact Nat.lt_of_le_of_lt Nat.and_le_right (by decide)) (fun c5 => ?_) (fun c5 => ?_)
  · refine P_iconst (v := nI 0) dX6_hasBit_12 (by decide) ?_
    refine P_zret dX6_hasBit_13 rfl (by decide) ?_
    refine q_f ?_
    rw [← Bool.not_eq_true]
    intro q9
    rw [tb_has.mpr q9] at c5
    exact absurd c5 (by decide)
  · refine P_iconst (v := nI 1) dX6_hasBit_8 (by decide) ?_
    refine P_goto (tgt := 13) dX6_hasBit_9 (by decide) ?_
    refine P_zret dX6_hasBit_13 rfl (by decide) ?_
    refine q_t (tb_has.mp ?_)
    have : s >>> k &&& 1 < 2 := Nat.lt_succ_of_le Nat.and_le_right
    omega
set_option maxHeartbeats 4000000 in
set_option maxRecDepth 100000 in
theorem c_X4_copyFrom {σ : vS} {v : vV} {r t ln : Nat} (hp : kLP σ r ln) (ht : kLP σ t ln) (hln : ln < 100) (hrt : r + 4 ≤ t ∨ t + 4 ≤ r) : vC M_X4_copyFrom yX4_copyFrom [.ref (r), .ref (t)] (σ, v) (qS σ none (fun v9 => vOw v v9 r 4 ∧ v9 r 3 = v t 3 ∧ ∀ k, k < ln → v9 (r + 1) k = v (t + 1) k ∧ v9 (r + 2) k = v (t + 2) k ∧ v9 (r + 3) k = v (t + 3) k)) := by
  refine vC_of (ls := [some (.ref (r)), some (.ref (t)), none]) pn_X4 rfl rfl (Nat.le_of_ble_eq_true rfl) rfl ?_
  refine P_aload_n dX4_copyFrom_0 rfl rfl ?_
  refine P_getr (t := r + 1) dX4_copyFrom_1 kX4 fX4_7 rfl (by decide) hp.o hp.c0 hp.a1.1.2 ?_
  refine P_alen dX4_copyFrom_4 hp.a1 ?_
  refine P_aload_n dX4_copyFrom_5 rfl rfl ?_
  refine P_getr (t := t + 1) dX4_copyFrom_6 kX4 fX4_7 rfl (by decide) ht.o ht.c0 ht.a1.1.2 ?_
  refine P_alen dX4_copyFrom_9 ht.a1 ?_
  refine P_mmin dX4_copyFrom_10 lX4_19 (by decide) ?_
  refine P_top (y := nI (ln)) (ite_self _) ?_
  refine P_istore_n (ls2 := [some (.ref (r)), some (.ref (t)), some (.int (nI (ln)))]) dX4_copyFrom_13 rfl (by decide) rfl ?_
  refine P_aload_n dX4_copyFrom_14 rfl rfl ?_
  refine P_getr (t := t + 1) dX4_copyFrom_15 kX4 fX4_7 rfl (by decide) ht.o ht.c0 ht.a1.1.2 ?_
  refine P_iconst (v := nI 0) dX4_copyFrom_18 (by decide) ?_
  refine P_aload_n dX4_copyFrom_19 rfl rfl ?_
  refine P_getr (t := r + 1) dX4_copyFrom_20 kX4 fX4_7 rfl (by decide) hp.o hp.c0 hp.a1.1.2 ?_
  refine P_iconst (v := nI 0) dX4_copyFrom_23 (by decide) ?_
  refine P_iload_n dX4_copyFrom_24 rfl rfl ?_
  refine P_copy (0) (0) (ln) dX4_copyFrom_25 lX4_25 ht.a1 hp.a1 rfl rfl rfl (by omega) (by omega) (by omega) (by omega) (by decide) ?_
  refine P_aload_n dX4_copyFrom_28 rfl rfl ?_
  refine P_getr (t := t + 2) dX4_copyFrom_29 kX4 fX4_13 rfl (by decide) ht.o ht.c1 ht.a2.1.2 ?_
  refine P_iconst (v := nI 0) dX4_copyFrom_32 (by decide) ?_
  refine P_aload_n dX4_copyFrom_33 rfl rfl ?_
  refine P_getr (t := r + 2) dX4_copyFrom_34 kX4 fX4_13 rfl (by decide) hp.o hp.c1 hp.a2.1.2 ?_
  refine P_iconst (v := nI 0) dX4_copyFrom_37 (by decide) ?_
  refine P_iload_n dX4_copyFrom_38 rfl rfl ?_
  refine P_copy (0) (0) (ln) dX4_copyFrom_39 lX4_25 ht.a2 hp.a2 rfl rfl rfl (by omega) (by omega) (by omega) (by omega) (by decide) ?_
  refine P_aload_n dX4_copyFrom_42 rfl rfl ?_
  refine P_getr (t := t + 3) dX4_copyFrom_43 kX4 fX4_16 rfl (by decide) ht.o ht.c2 ht.a3.1.2 ?_
  refine P_iconst (v := nI 0) dX4_copyFrom_46 (by decide) ?_
  refine P_aload_n dX4_copyFrom_47 rfl rfl ?_
  refine P_getr (t := r + 3) dX4_copyFrom_48 kX4 fX4_16 rfl (by decide) hp.o hp.c2 hp.a3.1.2 ?_
  refine P_iconst (v := nI 0) dX4_copyFrom_51 (by decide) ?_
  refine P_iload_n dX4_copyFrom_52 rfl rfl ?_
  refine P_copy (0) (0) (ln) dX4_copyFrom_53 lX4_25 ht.a3 hp.a3 rfl rfl rfl (by omega) (by omega) (by omega) (by omega) (by decide) ?_
  refine P_aload_n dX4_copyFrom_56 rfl rfl ?_
  refine P_aload_n dX4_copyFrom_57 rfl rfl ?_
  refine P_getiN (x := (v t 3)) dX4_copyFrom_58 kX4 fX4_31 rfl (by decide) ht.o (by rw [vUA_ne (by omega), vUA_ne (by omega), vUA_ne (by omega)]) ?_
  refine P_puti dX4_copyFrom_61 kX4 fX4_31 rfl (by decide) rfl hp.o ?_
  refine P_vret dX4_copyFrom_64 rfl ?_
  refine q_s rfl ⟨fun n9 q9 => ?_, vU_s, fun k hk => ⟨?_, ?_, ?_⟩⟩
  · rw [vU_ne (by omega), vUA_ne (by omega), vUA_ne (by omega), vUA_ne (by omega)]
  · rw [vU_o (by omega), vUA_ne (by omega), vUA_ne (by omega), vUA_at, cpy_in (by omega) (by omega), Nat.zero_add, Nat.sub_zero]
  · rw [vU_o (by omega), vUA_ne (by omega), vUA_at, cpy_in (by omega) (by omega), vUA_ne (by omega), Nat.zero_add, Nat.sub_zero]
  · rw [vU_o (by omega), vUA_at, cpy_in (by omega) (by omega), vUA_ne (by omega), vUA_ne (by omega), Nat.zero_add, Nat.sub_zero]
set_option maxHeartbeats 4000000 in
set_option maxRecDepth 100000 in
theorem c_X4_isFull {σ : vS} {v : vV} {r ln : Nat} (hp : kLP σ r ln) (hln : ln < 100) {l : List mT} (hR : RP v r l) (hl : l.length ≤ ln)  : vC M_X4_isFull yX4_isFull [.ref (r)] (σ, v) (qP (σ, v) (.int (vb (decide (l.length = ln))))) := by
  refine vC_of (ls := [some (.ref (r))]) pn_X4 rfl rfl (Nat.le_of_ble_eq_true rfl) rfl ?_
  refine P_aload_n dX4_isFull_0 rfl rfl ?_
  refine P_getiN (x := nI (l.length)) dX4_isFull_1 kX4 fX4_31 rfl (by decide) hp.o hR.1 ?_
  refine P_aload_n dX4_isFull_4 rfl rfl ?_
  refine P_getr (t := r + 1) dX4_isFull_5 kX4 fX4_7 rfl (by decide) hp.o hp.c0 hp.a1.1.2 ?_
  refine P_alen dX4_isFull_8 hp.a1 ?_
  refine P_icmp_ltN (tgt := 16) dX4_isFull_9 (by decide) (by omega) (by omega) (fun c9 => ?_) (fun c9 => ?_)
  · refine P_iconst (v := nI 0) dX4_isFull_16 (by decide) ?_
    refine P_zret dX4_isFull_17 rfl (by decide) ?_
    exact q_fD (by omega)
  · refine P_iconst (v := nI 1) dX4_isFull_12 (by decide) ?_
    refine P_goto (tgt := 17) dX4_isFull_13 (by decide) ?_
    refine P_zret dX4_isFull_17 rfl (by decide) ?_
    exact q_tD (by omega)
set_option maxHeartbeats 4000000 in
set_option maxRecDepth 100000 in
theorem c_X4_put {σ : vS} {v : vV} {r ln : Nat} (hp : kLP σ r ln) (hln : ln < 100) {k : Nat} {x y z : Int32} (hk : k < ln) : vC M_X4_put yX4_put [.ref (r), .int (nI (k)), .int (x), .int (y), .int (z)] (σ, v) (qS σ none (fun v9 => v9 = vU (vU (vU v (r + 1) k x) (r + 2) k y) (r + 3) k z)) := by
  refine vC_of (ls := [some (.ref (r)), some (.int (nI (k))), some (.int (x)), some (.int (y)), some (.int (z))]) pn_X4 rfl rfl (Nat.le_of_ble_eq_true rfl) rfl ?_
  refine P_iload_n dX4_put_0 rfl rfl ?_
  refine P_if_ltN (tgt := 35) dX4_put_1 (by decide) (by omega) (fun c1 => ?_) (fun c1 => ?_)
  · exact c1.elim
  · refine P_iload_n dX4_put_4 rfl rfl ?_
    refine P_aload_n dX4_put_5 rfl rfl ?_
    refine P_getr (t := r + 1) dX4_put_6 kX4 fX4_7 rfl (by decide) hp.o hp.c0 hp.a1.1.2 ?_
    refine P_alen dX4_put_9 hp.a1 ?_
    refine P_icmp_geN (tgt := 35) dX4_put_10 (by decide) (by omega) (by omega) (fun c10 => ?_) (fun c10 => ?_)
    · exact absurd c10 (by omega)
    · refine P_aload_n dX4_put_13 rfl rfl ?_
      refine P_getr (t := r + 1) dX4_put_14 kX4 fX4_7 rfl (by decide) hp.o hp.c0 hp.a1.1.2 ?_
      refine P_iload_n dX4_put_17 rfl rfl ?_
      refine P_iload_n dX4_put_18 rfl rfl ?_
      refine P_iast (k) dX4_put_19 hp.a1 rfl (by omega) (by omega) ?_
      refine P_aload_n dX4_put_20 rfl rfl ?_
      refine P_getr (t := r + 2) dX4_put_21 kX4 fX4_13 rfl (by decide) hp.o hp.c1 hp.a2.1.2 ?_
      refine P_iload_n dX4_put_24 rfl rfl ?_
      refine P_iload_n dX4_put_25 rfl rfl ?_
      refine P_iast (k) dX4_put_26 hp.a2 rfl (by omega) (by omega) ?_
      refine P_aload_n dX4_put_27 rfl rfl ?_
      refine P_getr (t := r + 3) dX4_put_28 kX4 fX4_16 rfl (by decide) hp.o hp.c2 hp.a3.1.2 ?_
      refine P_iload_n dX4_put_31 rfl rfl ?_
      refine P_iload dX4_put_32 rfl ?_
      refine P_iast (k) dX4_put_34 hp.a3 rfl (by omega) (by omega) ?_
      refine P_vret dX4_put_35 rfl ?_
      exact q_s rfl rfl
set_option maxHeartbeats 4000000 in
set_option maxRecDepth 100000 in
theorem c_X4_add {σ : vS} {v : vV} {r ln : Nat} (hp : kLP σ r ln) (hln : ln < 100) {l : List mT} (hR : RP v r l) (hl : l.length ≤ ln) {n c h : Nat} (h0 : 1 ≤ ln) : vC M_X4_add yX4_add [.ref (r), .int (nI (n)), .int (nI (c)), .int (nI (h))] (σ, v) (qS σ none (fun v9 => RP v9 r ((if l.length = ln then l.drop 1 else l) ++ [(n, c, h)]) ∧ vOw v v9 r 4)) := by
  refine vC_of (ls := [some (.ref (r)), some (.int (nI (n))), some (.int (nI (c))), some (.int (nI (h))), none, none]) pn_X4 rfl rfl (Nat.le_of_ble_eq_true rfl) rfl ?_
  have hJ88 : ∀ (v2 : vV) (l9 : List mT), (l9.length < ln) → (RP v2 r l9) → (vOw v v2 r 4) → ((if l.length = ln then l.drop 1 else l) = l9) → vP M_X4_add 88 [some (.ref (r)), some (.int (nI (n))), some (.int (nI (c))), some (.int (nI (h))), some (.int (nI (ln - 1))), none] [] ((vRm M_X4_add).cells, (vRm M_X4_add).slots) (σ, v2) (vN (qS σ none (fun v9 => RP v9 r ((if l.length = ln then l.drop 1 else l) ++ [(n, c, h)]) ∧ vOw v v9 r 4))) := by
    intro v2 l9 hl9 hR9 hO9 hq9
    refine P_aload_n dX4_add_88 rfl rfl ?_
    refine P_getr (t := r + 1) dX4_add_89 kX4 fX4_7 rfl (by decide) hp.o hp.c0 hp.a1.1.2 ?_
    refine P_aload_n dX4_add_92 rfl rfl ?_
    refine P_getiN (x := nI (l9.length)) dX4_add_93 kX4 fX4_31 rfl (by decide) hp.o hR9.1 ?_
    refine P_iload_n dX4_add_96 rfl rfl ?_
    refine P_iast (l9.length) dX4_add_97 hp.a1 rfl (by omega) (by omega) ?_
    refine P_aload_n dX4_add_98 rfl rfl ?_
    refine P_getr (t := r + 2) dX4_add_99 kX4 fX4_13 rfl (by decide) hp.o hp.c1 hp.a2.1.2 ?_
    refine P_aload_n dX4_add_102 rfl rfl ?_
    refine P_getiN (x := nI (l9.length)) dX4_add_103 kX4 fX4_31 rfl (by decide) hp.o (by rw [vU_ne (by omega)]; exact hR9.1) ?_
    refine P_iload_n dX4_add_106 rfl rfl ?_
    refine P_iast (l9.length) dX4_add_107 hp.a2 rfl (by omega) (by omega) ?_
    refine P_aload_n dX4_add_108 rfl rfl ?_
    refine P_getr (t := r + 3) dX4_add_109 kX4 fX4_16 rfl (by decide) hp.o hp.c2 hp.a3.1.2 ?_
    refine P_aload_n dX4_add_112 rfl rfl ?_
    refine P_getiN (x := nI (l9.length)) dX4_add_113 kX4 fX4_31 rfl (by decide) hp.o (by rw [vU_ne (by omega), vU_ne (by omega)]; exact hR9.1) ?_
    refine P_iload_n dX4_add_116 rfl rfl ?_
    refine P_iast (l9.length) dX4_add_117 hp.a3 rfl (by omega) (by omega) ?_
    refine P_aload_n dX4_add_118 rfl rfl ?_
    refine P_dup dX4_add_119 rfl ?_
    refine P_getiN (x := nI (l9.length)) dX4_add_120 kX4 fX4_31 rfl (by decide) hp.o (by rw [vU_ne (by omega), vU_ne (by omega), vU_ne (by omega)]; exact hR9.1) ?_
    refine P_iconst (v := nI 1) dX4_add_123 (by decide) ?_
    refine P_iaddN dX4_add_124 ?_
    refine P_puti dX4_add_125 kX4 fX4_31 rfl (by decide) rfl hp.o ?_
    refine P_vret dX4_add_128 rfl ?_
    refine q_s rfl ?_
    rw [hq9]
    exact ⟨hR9.add, (((hO9.u (by omega) (by omega)).u (by omega) (by omega)).u (by omega) (by omega)).u (by omega) (by omega)⟩
  refine P_aload_n dX4_add_0 rfl rfl ?_
  refine P_getr (t := r + 1) dX4_add_1 kX4 fX4_7 rfl (by decide) hp.o hp.c0 hp.a1.1.2 ?_
  refine P_alen dX4_add_4 hp.a1 ?_
  refine P_iconst (v := nI 1) dX4_add_5 (by decide) ?_
  refine P_isubN dX4_add_6 (by omega) ?_
  refine P_istore (ls2 := [some (.ref (r)), some (.int (nI (n))), some (.int (nI (c))), some (.int (nI (h))), some (.int (nI (ln - 1))), none]) dX4_add_7 (by decide) rfl ?_
  refine P_aload_n dX4_add_9 rfl rfl ?_
  refine P_getiN (x := nI (l.length)) dX4_add_10 kX4 fX4_31 rfl (by decide) hp.o hR.1 ?_
  refine P_iload dX4_add_13 rfl ?_
  refine P_icmp_leN (tgt := 88) dX4_add_15 (by decide) (by omega) (by omega) (fun c15 => ?_) (fun c15 => ?_)
  · exact hJ88 v l (by omega) hR vOw.rf (by rw [if_neg (by omega)])
  · refine P_iconst (v := nI 0) dX4_add_18 (by decide) ?_
    refine P_istore (ls2 := [some (.ref (r)), some (.int (nI (n))), some (.int (nI (c))), some (.int (nI (h))), some (.int (nI (ln - 1))), some (.int (nI (0)))]) dX4_add_19 (by decide) rfl ?_
    have hL21 : ∀ (n21 : Nat) (k : Nat) (v1 : vV), (k ≤ ln - 1) → (k + n21 = ln) → (∀ i, v1 (r + 1) i = (if i < k then v (r + 1) (i + 1) else v (r + 1) i) ∧ v1 (r + 2) i = (if i < k then v (r + 2) (i + 1) else v (r + 2) i) ∧ v1 (r + 3) i = (if i < k then v (r + 3) (i + 1) else v (r + 3) i)) → (vOw v v1 r 4) → (v1 r 3 = v r 3) → vP M_X4_add 21 [some (.ref (r)), some (.int (nI (n))), some (.int (nI (c))), some (.int (nI (h))), some (.int (nI (ln - 1))), some (.int (nI (k)))] [] ((vRm M_X4_add).cells, (vRm M_X4_add).slots) (σ, v1) (vN (qS σ none (fun v9 => RP v9 r ((if l.length = ln then l.drop 1 else l) ++ [(n, c, h)]) ∧ vOw v v9 r 4))) := by
      intro n21
      induction n21 with
      | zero =>
        intro k v1 h1 h2 hs hO1 h3
        exact absurd h2 (by omega)
      | succ n21 ih21 =>
        intro k v1 h1 h2 hs hO1 h3
        refine P_iload dX4_add_21 rfl ?_
        refine P_iload dX4_add_23 rfl ?_
        refine P_icmp_geN (tgt := 82) dX4_add_25 (by decide) (by omega) (by omega) (fun c25 => ?_) (fun c25 => ?_)
        · refine P_aload_n dX4_add_82 rfl rfl ?_
          refine P_iload dX4_add_83 rfl ?_
          refine P_puti dX4_add_85 kX4 fX4_31 rfl (by decide) rfl hp.o ?_
          refine P_weak (ls2 := [some (.ref (r)), some (.int (nI (n))), some (.int (nI (c))), some (.int (nI (h))), some (.int (nI (ln - 1))), none]) ⟨rfl, rfl, rfl, rfl, rfl, trivial⟩ ?_
          refine hJ88 _ (l.drop 1) (by rw [List.length_drop]; omega) ⟨by rw [vU_s, List.length_drop]; exact congrArg nI (by omega), fun k9 t q => ?_⟩ (hO1.u (by omega) (by omega)) (by rw [if_pos (by omega)])
          rw [List.getElem?_drop] at q
          have q1 : 1 + k9 < l.length := (List.getElem?_eq_some_iff.mp q).1
          have g1 := hR.2 _ t q
          rw [Nat.add_comm 1 k9] at g1
          obtain ⟨a1, a2, a3⟩ := hs k9
          rw [vU_o (by omega), vU_o (by omega), vU_o (by omega), a1, a2, a3, if_pos (by omega), if_pos (by omega), if_pos (by omega)]
          exact g1
        · refine P_aload_n dX4_add_28 rfl rfl ?_
          refine P_getr (t := r + 1) dX4_add_29 kX4 fX4_7 rfl (by decide) hp.o hp.c0 hp.a1.1.2 ?_
          refine P_iload dX4_add_32 rfl ?_
          refine P_aload_n dX4_add_34 rfl rfl ?_
          refine P_getr (t := r + 1) dX4_add_35 kX4 fX4_7 rfl (by decide) hp.o hp.c0 hp.a1.1.2 ?_
          refine P_iload dX4_add_38 rfl ?_
          refine P_iconst (v := nI 1) dX4_add_40 (by decide) ?_
          refine P_iaddN dX4_add_41 ?_
          refine P_iald (k + 1) dX4_add_42 hp.a1 rfl (by omega) (by omega) ?_
          refine P_iast (k) dX4_add_43 hp.a1 rfl (by omega) (by omega) ?_
          refine P_aload_n dX4_add_44 rfl rfl ?_
          refine P_getr (t := r + 2) dX4_add_45 kX4 fX4_13 rfl (by decide) hp.o hp.c1 hp.a2.1.2 ?_
          refine P_iload dX4_add_48 rfl ?_
          refine P_aload_n dX4_add_50 rfl rfl ?_
          refine P_getr (t := r + 2) dX4_add_51 kX4 fX4_13 rfl (by decide) hp.o hp.c1 hp.a2.1.2 ?_
          refine P_iload dX4_add_54 rfl ?_
          refine P_iconst (v := nI 1) dX4_add_56 (by decide) ?_
          refine P_iaddN dX4_add_57 ?_
          refine P_iald (k + 1) dX4_add_58 hp.a2 rfl (by omega) (by omega) ?_
          refine P_iast (k) dX4_add_59 hp.a2 rfl (by omega) (by omega) ?_
          refine P_aload_n dX4_add_60 rfl rfl ?_
          refine P_getr (t := r + 3) dX4_add_61 kX4 fX4_16 rfl (by decide) hp.o hp.c2 hp.a3.1.2 ?_
          refine P_iload dX4_add_64 rfl ?_
          refine P_aload_n dX4_add_66 rfl rfl ?_
          refine P_getr (t := r + 3) dX4_add_67 kX4 fX4_16 rfl (by decide) hp.o hp.c2 hp.a3.1.2 ?_
          refine P_iload dX4_add_70 rfl ?_
          refine P_iconst (v := nI 1) dX4_add_72 (by decide) ?_
          refine P_iaddN dX4_add_73 ?_
          refine P_iald (k + 1) dX4_add_74 hp.a3 rfl (by omega) (by omega) ?_
          refine P_iast (k) dX4_add_75 hp.a3 rfl (by omega) (by omega) ?_
          refine P_iinc (v := nI (k + 1)) (ls2 := [some (.ref (r)), some (.int (nI (n))), some (.int (nI (c))), some (.int (nI (h))), some (.int (nI (ln - 1))), some (.int (nI (k + 1)))]) dX4_add_76 rfl (nI_inc _ 1) (by decide) rfl ?_
          refine P_goto (tgt := 21) dX4_add_79 (by decide) ?_
          refine ih21 (k + 1) _ (by omega) (by omega) (fun i => ?_) (((hO1.u (by omega) (by omega)).u (by omega) (by omega)).u (by omega) (by omega)) (by rw [vU_ne (by omega), vU_ne (by omega), vU_ne (by omega)]; exact h3)
          have b1 := hs i
          have b2 := hs (k + 1)
          by_cases e9 : i = k
          · subst e9
            rw [if_neg (by omega), if_neg (by omega), if_neg (by omega)] at b2
            refine ⟨?_, ?_, ?_⟩
            · rw [vU_o (by omega), vU_o (by omega), vU_s, b2.1, if_pos (by omega)]
            · rw [vU_o (by omega), vU_s, vU_o (by omega), b2.2.1, if_pos (by omega)]
            · rw [vU_s, vU_o (by omega), vU_o (by omega), b2.2.2, if_pos (by omega)]
          · rw [vU_o (by omega), vU_o (by omega), vU_o (by omega), vU_o (by omega), vU_o (by omega), vU_o (by omega), vU_o (by omega), vU_o (by omega), vU_o (by omega), b1.1, b1.2.1, b1.2.2]
            by_cases g1 : i < k
            · rw [if_pos g1, if_pos g1, if_pos g1, if_pos (by omega), if_pos (by omega), if_pos (by omega)]; exact ⟨rfl, rfl, rfl⟩
            · rw [if_neg g1, if_neg g1, if_neg g1, if_neg (by omega), if_neg (by omega), if_neg (by omega)]; exact ⟨rfl, rfl, rfl⟩
    exact hL21 ln 0 v (by omega) (by omega) (fun i => by rw [if_neg (by omega), if_neg (by omega), if_neg (by omega)]; exact ⟨rfl, rfl, rfl⟩) vOw.rf rfl
set_option maxHeartbeats 4000000 in
set_option maxRecDepth 100000 in
theorem c_X4_takeUpTo {σ : vS} {v : vV} {r ln : Nat} (hp : kLP σ r ln) (hln : ln < 100) {l : List mT} (hR : RP v r l) (hl : l.length ≤ ln) {num by9 : Nat} (hb : ∀ t, t ∈ l → t.1 < 2147483648 ∧ t.2.1 < 2147483648) (hn : num < 2147483648) (hy : by9 < 2147483648) : vC M_X4_takeUpTo yX4_takeUpTo [.ref (r), .int (nI (num)), .int (nI (by9))] (σ, v) (qS σ (some (.int (nI (mtk num by9 l)))) (fun v9 => RP v9 r (l.filter (fun t => decide (num < t.1))) ∧ vOw v v9 r 4)) := by
  refine vC_of (ls := [some (.ref (r)), some (.int (nI (num))), some (.int (nI (by9))), none, none, none]) pn_X4 rfl rfl (Nat.le_of_ble_eq_true rfl) rfl ?_
  refine P_iconst (v := nI 0) dX4_takeUpTo_0 (by decide) ?_
  refine P_istore_n (ls2 := [some (.ref (r)), some (.int (nI (num))), some (.int (nI (by9))), some (.int (nI (0))), none, none]) dX4_takeUpTo_1 rfl (by decide) rfl ?_
  refine P_iconst (v := nI 0) dX4_takeUpTo_2 (by decide) ?_
  refine P_istore (ls2 := [some (.ref (r)), some (.int (nI (num))), some (.int (nI (by9))), some (.int (nI (0))), some (.int (nI (0))), none]) dX4_takeUpTo_3 (by decide) rfl ?_
  refine P_iconst (v := nI 0) dX4_takeUpTo_5 (by decide) ?_
  refine P_istore (ls2 := [some (.ref (r)), some (.int (nI (num))), some (.int (nI (by9))), some (.int (nI (0))), some (.int (nI (0))), some (.int (nI (0)))]) dX4_takeUpTo_6 (by decide) rfl ?_
  have hL8 : ∀ (n8 : Nat) (k : Nat) (v1 : vV), (k ≤ l.length) → (k + n8 = l.length + 1) → (v1 r 3 = nI l.length) → (∀ (i : Nat) (t : mT), ((l.take k).filter (fun t => decide (num < t.1)))[i]? = some t → v1 (r + 1) i = nI t.1 ∧ v1 (r + 2) i = nI t.2.1 ∧ v1 (r + 3) i = nI t.2.2) → (∀ i, k ≤ i → v1 (r + 1) i = v (r + 1) i ∧ v1 (r + 2) i = v (r + 2) i ∧ v1 (r + 3) i = v (r + 3) i) → (vOw v v1 r 4) → vP M_X4_takeUpTo 8 [some (.ref (r)), some (.int (nI (num))), some (.int (nI (by9))), some (.int (nI (mtk num by9 (l.take k)))), some (.int (nI (((l.take k).filter (fun t => decide (num < t.1))).length))), some (.int (nI (k)))] [] ((vRm M_X4_takeUpTo).cells, (vRm M_X4_takeUpTo).slots) (σ, v1) (vN (qS σ (some (.int (nI (mtk num by9 l)))) (fun v9 => RP v9 r (l.filter (fun t => decide (num < t.1))) ∧ vOw v v9 r 4))) := by
    intro n8
    induction n8 with
    | zero =>
      intro k v1 h1 h2 h3 hcm hrs hO1
      exact absurd h2 (by omega)
    | succ n8 ih8 =>
      intro k v1 h1 h2 h3 hcm hrs hO1
      refine P_iload dX4_takeUpTo_8 rfl ?_
      refine P_aload_n dX4_takeUpTo_10 rfl rfl ?_
      refine P_getiN (x := nI (l.length)) dX4_takeUpTo_11 kX4 fX4_31 rfl (by decide) hp.o h3 ?_
      refine P_icmp_geN (tgt := 114) dX4_takeUpTo_14 (by decide) (by omega) (by omega) (fun c14 => ?_) (fun c14 => ?_)
      · refine P_aload_n dX4_takeUpTo_114 rfl rfl ?_
        refine P_iload dX4_takeUpTo_115 rfl ?_
        refine P_puti dX4_takeUpTo_117 kX4 fX4_31 rfl (by decide) rfl hp.o ?_
        refine P_iload_n dX4_takeUpTo_120 rfl rfl ?_
        refine P_iret dX4_takeUpTo_121 rfl ?_
        have e9 : k = l.length := by omega
        subst e9
        rw [List.take_length] at hcm ⊢
        refine q_s rfl ⟨⟨vU_s, fun i t q => ?_⟩, hO1.u (by omega) (by omega)⟩
        rw [vU_o (by omega), vU_o (by omega), vU_o (by omega)]
        exact hcm i t q
      · obtain ⟨b1, b2⟩ := hb _ (List.mem_iff_getElem?.mpr ⟨k, getD_some (d := t0) (by omega)⟩)
        have hrow : v1 (r + 1) k = nI (l.getD k t0).1 ∧ v1 (r + 2) k = nI (l.getD k t0).2.1 ∧ v1 (r + 3) k = nI (l.getD k t0).2.2 := by obtain ⟨w1, w2, w3⟩ := hrs k (Nat.le_refl k); rw [w1, w2, w3]; exact hR.d (by omega)
        have hfl : ((l.take k).filter (fun t => decide (num < t.1))).length ≤ k := fil_le
        have hmt := mtk_s (num := num) (by9 := by9) (l := l) (k := k) (by omega)
        have hfi := fil_s (num := num) (l := l) (k := k) (by omega)
        refine P_aload_n dX4_takeUpTo_17 rfl rfl ?_
        refine P_getr (t := r + 1) dX4_takeUpTo_18 kX4 fX4_7 rfl (by decide) hp.o hp.c0 hp.a1.1.2 ?_
        refine P_iload dX4_takeUpTo_21 rfl ?_
        refine P_ialdN (x := nI ((l.getD k t0).1)) (k) dX4_takeUpTo_23 hp.a1 rfl (by omega) (by omega) (by exact hrow.1) ?_
        refine P_iload_n dX4_takeUpTo_24 rfl rfl ?_
        refine P_icmp_leN (tgt := 76) dX4_takeUpTo_25 (by decide) (by omega) (by omega) (fun c25 => ?_) (fun c25 => ?_)
        · refine P_aload_n dX4_takeUpTo_76 rfl rfl ?_
          refine P_getr (t := r + 1) dX4_takeUpTo_77 kX4 fX4_7 rfl (by decide) hp.o hp.c0 hp.a1.1.2 ?_
          refine P_iload dX4_takeUpTo_80 rfl ?_
          refine P_ialdN (x := nI ((l.getD k t0).1)) (k) dX4_takeUpTo_82 hp.a1 rfl (by omega) (by omega) (by exact hrow.1) ?_
          refine P_iload_n dX4_takeUpTo_83 rfl rfl ?_
          refine P_icmp_neN (tgt := 108) dX4_takeUpTo_84 (by decide) (by omega) (by omega) (fun c84 => ?_) (fun c84 => ?_)
          · refine P_iinc (v := nI (k + 1)) (ls2 := [some (.ref (r)), some (.int (nI (num))), some (.int (nI (by9))), some (.int (nI (mtk num by9 (l.take k)))), some (.int (nI (((l.take k).filter (fun t => decide (num < t.1))).length))), some (.int (nI (k + 1)))]) dX4_takeUpTo_108 rfl (nI_inc _ 1) (by decide) rfl ?_
            refine P_goto (tgt := 8) dX4_takeUpTo_111 (by decide) ?_
            have e9 : (l.take (k + 1)).filter (fun t => decide (num < t.1)) = (l.take k).filter (fun t => decide (num < t.1)) := by rw [hfi, if_neg (by omega), List.append_nil]
            rw [if_neg (fun q => c84 q.1)] at hmt
            rw [← hmt, ← e9]
            refine ih8 (k + 1) v1 (by omega) (by omega) h3 (by rw [e9]; exact hcm) (fun i hi => hrs i (by omega)) hO1
          · refine P_aload_n dX4_takeUpTo_87 rfl rfl ?_
            refine P_getr (t := r + 2) dX4_takeUpTo_88 kX4 fX4_13 rfl (by decide) hp.o hp.c1 hp.a2.1.2 ?_
            refine P_iload dX4_takeUpTo_91 rfl ?_
            refine P_ialdN (x := nI ((l.getD k t0).2.1)) (k) dX4_takeUpTo_93 hp.a2 rfl (by omega) (by omega) (by exact hrow.2.1) ?_
            refine P_iload_n dX4_takeUpTo_94 rfl rfl ?_
            refine P_icmp_neN (tgt := 108) dX4_takeUpTo_95 (by decide) (by omega) (by omega) (fun c95 => ?_) (fun c95 => ?_)
            · refine P_iinc (v := nI (k + 1)) (ls2 := [some (.ref (r)), some (.int (nI (num))), some (.int (nI (by9))), some (.int (nI (mtk num by9 (l.take k)))), some (.int (nI (((l.take k).filter (fun t => decide (num < t.1))).length))), some (.int (nI (k + 1)))]) dX4_takeUpTo_108 rfl (nI_inc _ 1) (by decide) rfl ?_
              refine P_goto (tgt := 8) dX4_takeUpTo_111 (by decide) ?_
              have e9 : (l.take (k + 1)).filter (fun t => decide (num < t.1)) = (l.take k).filter (fun t => decide (num < t.1)) := by rw [hfi, if_neg (by omega), List.append_nil]
              rw [if_neg (fun q => c95 q.2)] at hmt
              rw [← hmt, ← e9]
              refine ih8 (k + 1) v1 (by omega) (by omega) h3 (by rw [e9]; exact hcm) (fun i hi => hrs i (by omega)) hO1
            · refine P_iload_n dX4_takeUpTo_98 rfl rfl ?_
              refine P_aload_n dX4_takeUpTo_99 rfl rfl ?_
              refine P_getr (t := r + 3) dX4_takeUpTo_100 kX4 fX4_16 rfl (by decide) hp.o hp.c2 hp.a3.1.2 ?_
              refine P_iload dX4_takeUpTo_103 rfl ?_
              refine P_ialdN (x := nI ((l.getD k t0).2.2)) (k) dX4_takeUpTo_105 hp.a3 rfl (by omega) (by omega) (by exact hrow.2.2) ?_
              refine P_iorN dX4_takeUpTo_106 ?_
              refine P_istore_n (ls2 := [some (.ref (r)), some (.int (nI (num))), some (.int (nI (by9))), some (.int (nI ((mtk num by9 (l.take k)) ||| ((l.getD k t0).2.2)))), some (.int (nI (((l.take k).filter (fun t => decide (num < t.1))).length))), some (.int (nI (k)))]) dX4_takeUpTo_107 rfl (by decide) rfl ?_
              refine P_iinc (v := nI (k + 1)) (ls2 := [some (.ref (r)), some (.int (nI (num))), some (.int (nI (by9))), some (.int (nI ((mtk num by9 (l.take k)) ||| ((l.getD k t0).2.2)))), some (.int (nI (((l.take k).filter (fun t => decide (num < t.1))).length))), some (.int (nI (k + 1)))]) dX4_takeUpTo_108 rfl (nI_inc _ 1) (by decide) rfl ?_
              refine P_goto (tgt := 8) dX4_takeUpTo_111 (by decide) ?_
              have e9 : (l.take (k + 1)).filter (fun t => decide (num < t.1)) = (l.take k).filter (fun t => decide (num < t.1)) := by rw [hfi, if_neg (by omega), List.append_nil]
              rw [if_pos ⟨c84, c95⟩] at hmt
              rw [← hmt, ← e9]
              refine ih8 (k + 1) v1 (by omega) (by omega) h3 (by rw [e9]; exact hcm) (fun i hi => hrs i (by omega)) hO1
        · refine P_aload_n dX4_takeUpTo_28 rfl rfl ?_
          refine P_getr (t := r + 1) dX4_takeUpTo_29 kX4 fX4_7 rfl (by decide) hp.o hp.c0 hp.a1.1.2 ?_
          refine P_iload dX4_takeUpTo_32 rfl ?_
          refine P_aload_n dX4_takeUpTo_34 rfl rfl ?_
          refine P_getr (t := r + 1) dX4_takeUpTo_35 kX4 fX4_7 rfl (by decide) hp.o hp.c0 hp.a1.1.2 ?_
          refine P_iload dX4_takeUpTo_38 rfl ?_
          refine P_ialdN (x := nI ((l.getD k t0).1)) (k) dX4_takeUpTo_40 hp.a1 rfl (by omega) (by omega) (by exact hrow.1) ?_
          refine P_iast (((l.take k).filter (fun t => decide (num < t.1))).length) dX4_takeUpTo_41 hp.a1 rfl (by omega) (by omega) ?_
          refine P_aload_n dX4_takeUpTo_42 rfl rfl ?_
          refine P_getr (t := r + 2) dX4_takeUpTo_43 kX4 fX4_13 rfl (by decide) hp.o hp.c1 hp.a2.1.2 ?_
          refine P_iload dX4_takeUpTo_46 rfl ?_
          refine P_aload_n dX4_takeUpTo_48 rfl rfl ?_
          refine P_getr (t := r + 2) dX4_takeUpTo_49 kX4 fX4_13 rfl (by decide) hp.o hp.c1 hp.a2.1.2 ?_
          refine P_iload dX4_takeUpTo_52 rfl ?_
          refine P_ialdN (x := nI ((l.getD k t0).2.1)) (k) dX4_takeUpTo_54 hp.a2 rfl (by omega) (by omega) (by rw [vU_o (by omega)]; exact hrow.2.1) ?_
          refine P_iast (((l.take k).filter (fun t => decide (num < t.1))).length) dX4_takeUpTo_55 hp.a2 rfl (by omega) (by omega) ?_
          refine P_aload_n dX4_takeUpTo_56 rfl rfl ?_
          refine P_getr (t := r + 3) dX4_takeUpTo_57 kX4 fX4_16 rfl (by decide) hp.o hp.c2 hp.a3.1.2 ?_
          refine P_iload dX4_takeUpTo_60 rfl ?_
          refine P_aload_n dX4_takeUpTo_62 rfl rfl ?_
          refine P_getr (t := r + 3) dX4_takeUpTo_63 kX4 fX4_16 rfl (by decide) hp.o hp.c2 hp.a3.1.2 ?_
          refine P_iload dX4_takeUpTo_66 rfl ?_
          refine P_ialdN (x := nI ((l.getD k t0).2.2)) (k) dX4_takeUpTo_68 hp.a3 rfl (by omega) (by omega) (by rw [vU_o (by omega)]; rw [vU_o (by omega)]; exact hrow.2.2) ?_
          refine P_iast (((l.take k).filter (fun t => decide (num < t.1))).length) dX4_takeUpTo_69 hp.a3 rfl (by omega) (by omega) ?_
          refine P_iinc (v := nI (((l.take k).filter (fun t => decide (num < t.1))).length + 1)) (ls2 := [some (.ref (r)), some (.int (nI (num))), some (.int (nI (by9))), some (.int (nI (mtk num by9 (l.take k)))), some (.int (nI (((l.take k).filter (fun t => decide (num < t.1))).length + 1))), some (.int (nI (k)))]) dX4_takeUpTo_70 rfl (nI_inc _ 1) (by decide) rfl ?_
          refine P_goto (tgt := 108) dX4_takeUpTo_73 (by decide) ?_
          refine P_iinc (v := nI (k + 1)) (ls2 := [some (.ref (r)), some (.int (nI (num))), some (.int (nI (by9))), some (.int (nI (mtk num by9 (l.take k)))), some (.int (nI (((l.take k).filter (fun t => decide (num < t.1))).length + 1))), some (.int (nI (k + 1)))]) dX4_takeUpTo_108 rfl (nI_inc _ 1) (by decide) rfl ?_
          refine P_goto (tgt := 8) dX4_takeUpTo_111 (by decide) ?_
          rw [if_neg (fun q => absurd q.1 (by omega))] at hmt
          rw [if_pos (by omega)] at hfi
          have e9 : ((l.take k).filter (fun t => decide (num < t.1))).length + 1 = ((l.take (k + 1)).filter (fun t => decide (num < t.1))).length := by rw [hfi, List.length_append]; rfl
          rw [← hmt, e9]
          refine ih8 (k + 1) _ (by omega) (by omega) (by rw [vU_ne (by omega), vU_ne (by omega), vU_ne (by omega)]; exact h3) (fun i t q => ?_) (fun i hi => ?_) (((hO1.u (by omega) (by omega)).u (by omega) (by omega)).u (by omega) (by omega))
          · rw [hfi] at q
            by_cases e8 : i < ((l.take k).filter (fun t => decide (num < t.1))).length
            · rw [List.getElem?_append_left e8] at q
              rw [vU_o (by omega), vU_o (by omega), vU_o (by omega), vU_o (by omega), vU_o (by omega), vU_o (by omega), vU_o (by omega), vU_o (by omega), vU_o (by omega)]
              exact hcm i t q
            · rw [List.getElem?_append_right (by omega)] at q
              have e7 : i - ((l.take k).filter (fun t => decide (num < t.1))).length = 0 := by
                have := (List.getElem?_eq_some_iff.mp q).1
                simp only [List.length_singleton] at this
                omega
              rw [e7] at q
              cases q
              have e6 : i = ((l.take k).filter (fun t => decide (num < t.1))).length := by omega
              subst e6
              refine ⟨?_, ?_, ?_⟩
              · rw [vU_o (by omega), vU_o (by omega), vU_s]
              · rw [vU_o (by omega), vU_s]
              · rw [vU_s]
          · rw [vU_o (by omega), vU_o (by omega), vU_o (by omega), vU_o (by omega), vU_o (by omega), vU_o (by omega), vU_o (by omega), vU_o (by omega), vU_o (by omega)]
            exact hrs i (by omega)
  exact hL8 (l.length + 1) 0 v (by omega) (by omega) hR.1 (fun i t q => by simp at q) (fun i _ => ⟨rfl, rfl, rfl⟩) vOw.rf
set_option maxHeartbeats 4000000 in
set_option maxRecDepth 100000 in
theorem c_X4_heardLike {σ : vS} {v : vV} {r row rows : Nat} {A D H : Nat → Nat} (hp : kLP σ r 6) (hrow : row < 6) (hrows : rows < 2147483648) (hv : ∀ k, k < 6 → v (r + 1) k = nI (A k) ∧ v (r + 2) k = nI (D k) ∧ v (r + 3) k = nI (H k)) (hb : ∀ k, k < 6 → A k < 2147483648 ∧ D k < 2147483648) : vC M_X4_heardLike yX4_heardLike [.ref (r), .int (nI (row)), .int (nI (rows))] (σ, v) (qP (σ, v) (.int (nI (mhl A D H row rows 6)))) := by
  refine vC_of (ls := [some (.ref (r)), some (.int (nI (row))), some (.int (nI (rows))), none, none]) pn_X4 rfl rfl (Nat.le_of_ble_eq_true rfl) rfl ?_
  refine P_iconst (v := nI 0) dX4_heardLike_0 (by decide) ?_
  refine P_istore_n (ls2 := [some (.ref (r)), some (.int (nI (row))), some (.int (nI (rows))), some (.int (nI (0))), none]) dX4_heardLike_1 rfl (by decide) rfl ?_
  refine P_iconst (v := nI 0) dX4_heardLike_2 (by decide) ?_
  refine P_istore (ls2 := [some (.ref (r)), some (.int (nI (row))), some (.int (nI (rows))), some (.int (nI (0))), some (.int (nI (0)))]) dX4_heardLike_3 (by decide) rfl ?_
  have hL5 : ∀ (n5 : Nat) (k : Nat), (k ≤ 6) → (k + n5 = 7) → vP M_X4_heardLike 5 [some (.ref (r)), some (.int (nI (row))), some (.int (nI (rows))), some (.int (nI (mhl A D H row rows k))), some (.int (nI (k)))] [] ((vRm M_X4_heardLike).cells, (vRm M_X4_heardLike).slots) (σ, v) (vN (qP (σ, v) (.int (nI (mhl A D H row rows 6))))) := by
    intro n5
    induction n5 with
    | zero =>
      intro k h1 h2
      exact absurd h2 (by omega)
    | succ n5 ih5 =>
      intro k h1 h2
      refine P_iload dX4_heardLike_5 rfl ?_
      refine P_aload_n dX4_heardLike_7 rfl rfl ?_
      refine P_getr (t := r + 1) dX4_heardLike_8 kX4 fX4_7 rfl (by decide) hp.o hp.c0 hp.a1.1.2 ?_
      refine P_alen dX4_heardLike_11 hp.a1 ?_
      refine P_icmp_geN (tgt := 72) dX4_heardLike_12 (by decide) (by omega) (by omega) (fun c12 => ?_) (fun c12 => ?_)
      · refine P_iload_n dX4_heardLike_72 rfl rfl ?_
        refine P_iret dX4_heardLike_73 rfl ?_
        exact q_n (by rw [show k = 6 by omega])
      · refine P_iload_n dX4_heardLike_15 rfl rfl ?_
        refine P_iload dX4_heardLike_16 rfl ?_
        refine P_cSNp (rest := []) (As := [.int (nI (rows)), .int (nI (k))]) dX4_heardLike_18 lnX4_35 yk_X6_hasBit ys_X6_hasBit (by decide) rfl rfl (Nat.le_of_ble_eq_true rfl) rfl (c_X6_hasBit (by omega) (by omega)) ?_
        refine P_bif_eq (tgt := 66) dX4_heardLike_21 (by decide) (fun c21 => ?_) (fun c21 => ?_)
        · refine P_iinc (v := nI (k + 1)) (ls2 := [some (.ref (r)), some (.int (nI (row))), some (.int (nI (rows))), some (.int (nI (mhl A D H row rows k))), some (.int (nI (k + 1)))]) dX4_heardLike_66 rfl (nI_inc _ 1) (by decide) rfl ?_
          refine P_goto (tgt := 5) dX4_heardLike_69 (by decide) ?_
          have e9 : mhl A D H row rows k = mhl A D H row rows (k + 1) := (by rw [mhl, if_neg (fun q => by rw [c21] at q; exact absurd q.1 Bool.false_ne_true), Nat.or_zero])
          rw [e9]
          exact ih5 (k + 1) (by omega) (by omega)
        · refine P_aload_n dX4_heardLike_24 rfl rfl ?_
          refine P_getr (t := r + 1) dX4_heardLike_25 kX4 fX4_7 rfl (by decide) hp.o hp.c0 hp.a1.1.2 ?_
          refine P_iload dX4_heardLike_28 rfl ?_
          refine P_ialdN (x := nI (A k)) (k) dX4_heardLike_30 hp.a1 rfl (by omega) (by decide) (hv k (by omega)).1 ?_
          refine P_aload_n dX4_heardLike_31 rfl rfl ?_
          refine P_getr (t := r + 1) dX4_heardLike_32 kX4 fX4_7 rfl (by decide) hp.o hp.c0 hp.a1.1.2 ?_
          refine P_iload_n dX4_heardLike_35 rfl rfl ?_
          refine P_ialdN (x := nI (A row)) (row) dX4_heardLike_36 hp.a1 rfl (by omega) (by decide) (hv row (by omega)).1 ?_
          refine P_icmp_neN (tgt := 66) dX4_heardLike_37 (by decide) (by first | exact (hb k (by omega)).1 | exact (hb row (by omega)).1) (by first | exact (hb k (by omega)).1 | exact (hb row (by omega)).1) (fun c37 => ?_) (fun c37 => ?_)
          · refine P_iinc (v := nI (k + 1)) (ls2 := [some (.ref (r)), some (.int (nI (row))), some (.int (nI (rows))), some (.int (nI (mhl A D H row rows k))), some (.int (nI (k + 1)))]) dX4_heardLike_66 rfl (nI_inc _ 1) (by decide) rfl ?_
            refine P_goto (tgt := 5) dX4_heardLike_69 (by decide) ?_
            have e9 : mhl A D H row rows k = mhl A D H row rows (k + 1) := (by rw [mhl, if_neg (fun q => c37 q.2.1), Nat.or_zero])
            rw [e9]
            exact ih5 (k + 1) (by omega) (by omega)
          · refine P_aload_n dX4_heardLike_40 rfl rfl ?_
            refine P_getr (t := r + 2) dX4_heardLike_41 kX4 fX4_13 rfl (by decide) hp.o hp.c1 hp.a2.1.2 ?_
            refine P_iload dX4_heardLike_44 rfl ?_
            refine P_ialdN (x := nI (D k)) (k) dX4_heardLike_46 hp.a2 rfl (by omega) (by decide) (hv k (by omega)).2.1 ?_
            refine P_aload_n dX4_heardLike_47 rfl rfl ?_
            refine P_getr (t := r + 2) dX4_heardLike_48 kX4 fX4_13 rfl (by decide) hp.o hp.c1 hp.a2.1.2 ?_
            refine P_iload_n dX4_heardLike_51 rfl rfl ?_
            refine P_ialdN (x := nI (D row)) (row) dX4_heardLike_52 hp.a2 rfl (by omega) (by decide) (hv row (by omega)).2.1 ?_
            refine P_icmp_neN (tgt := 66) dX4_heardLike_53 (by decide) (by first | exact (hb k (by omega)).2 | exact (hb row (by omega)).2) (by first | exact (hb k (by omega)).2 | exact (hb row (by omega)).2) (fun c53 => ?_) (fun c53 => ?_)
            · refine P_iinc (v := nI (k + 1)) (ls2 := [some (.ref (r)), some (.int (nI (row))), some (.int (nI (rows))), some (.int (nI (mhl A D H row rows k))), some (.int (nI (k + 1)))]) dX4_heardLike_66 rfl (nI_inc _ 1) (by decide) rfl ?_
              refine P_goto (tgt := 5) dX4_heardLike_69 (by decide) ?_
              have e9 : mhl A D H row rows k = mhl A D H row rows (k + 1) := (by rw [mhl, if_neg (fun q => c53 q.2.2), Nat.or_zero])
              rw [e9]
              exact ih5 (k + 1) (by omega) (by omega)
            · refine P_iload_n dX4_heardLike_56 rfl rfl ?_
              refine P_aload_n dX4_heardLike_57 rfl rfl ?_
              refine P_getr (t := r + 3) dX4_heardLike_58 kX4 fX4_16 rfl (by decide) hp.o hp.c2 hp.a3.1.2 ?_
              refine P_iload dX4_heardLike_61 rfl ?_
              refine P_ialdN (x := nI (H k)) (k) dX4_heardLike_63 hp.a3 rfl (by omega) (by decide) (hv k (by omega)).2.2 ?_
              refine P_iorN dX4_heardLike_64 ?_
              refine P_istore_n (ls2 := [some (.ref (r)), some (.int (nI (row))), some (.int (nI (rows))), some (.int (nI ((mhl A D H row rows k) ||| (H k)))), some (.int (nI (k)))]) dX4_heardLike_65 rfl (by decide) rfl ?_
              refine P_iinc (v := nI (k + 1)) (ls2 := [some (.ref (r)), some (.int (nI (row))), some (.int (nI (rows))), some (.int (nI ((mhl A D H row rows k) ||| (H k)))), some (.int (nI (k + 1)))]) dX4_heardLike_66 rfl (nI_inc _ 1) (by decide) rfl ?_
              refine P_goto (tgt := 5) dX4_heardLike_69 (by decide) ?_
              have e9 : (mhl A D H row rows k) ||| (H k) = mhl A D H row rows (k + 1) := by rw [mhl, if_pos ⟨c21, c37, c53⟩]
              rw [e9]
              exact ih5 (k + 1) (by omega) (by omega)
  exact hL5 7 0 (by omega) (by omega)
