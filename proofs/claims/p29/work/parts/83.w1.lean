
/-! CONTRACTS WITH A CONDITION ON THE START; the law's wrappers -/
def kZs (Zs : Nat → State → Prop) : kZ9 := fun s _ _ hz => Zs hz s
def zN : Nat → State → Prop := fun _ U => vNcs U
def zX (a L : Nat) (xs : Nat → Int32) : Nat → State → Prop := fun hz U => a < hz ∧ va_X a L xs U U.heap
/-- a call's frames don't touch it -/
def zBl (Zs : Nat → State → Prop) : Prop := ∀ (hz : Nat) (a : Array Value) (U : State) (g : JFrame) (mk : MethodId), Zs hz U → Zs hz (U.calling g mk a)
theorem zN_bl : zBl zN := fun _ a U g mk q w hw => va_Nc.moved (u := U) (U := U.calling g mk a) (Vm.Alike.refl U.vm) (q w hw)
theorem zX_bl {b L : Nat} {xs : Nat → Int32} : zBl (zX b L xs) := fun _ a U g mk q => ⟨q.1, va_X.moved (u := U) (U := U.calling g mk a) (Vm.Alike.refl U.vm) q.2⟩
/-- the start's condition gives the callee's -/
def zGo (Z9 : kZ9) (Zs : Nat → State → Prop) : Prop := ∀ (s : State) (args : Array Value) (c : Code) (hz : Nat) (U : State), Z9 s args c hz → s.vm.Alike U.vm → (∀ q, q < hz → U.heap[q]? = s.heap[q]?) → Zs hz U
theorem zN_go : zGo (kZs zN) zN := fun _ _ _ _ _ z9 hv _ w hw => va_Nc.moved hv (z9 w hw)
def vCZ (Zs : Nat → State → Prop) (z : vR) (y : MethodName) (As : List Value) (μ : vM) (Q : Option Value → vM → Prop) : Prop := ∀ (l : Launch) (D : va_G) (yc : Nat → ClassId) (hz : Nat), l.stackTraces = false →
  vx_Met l y (Cond.code y (vCC z) (vNL z) (vRt z) :: aw) (vRm z) (fun a U => vPc D yc hz As μ a U ∧ Zs hz U) (vQr D yc hz (vN Q)) (vQt D yc hz (vN Q)) (vRm z).cells (vRm z).slots (fun q => hz ≤ q)
theorem vCZ_of {Zs : Nat → State → Prop} {z : vR} {y : MethodName} {As : List Value} {μ : vM} {Q : Option Value → vM → Prop} {ls : List (Option Value)} (hy : plainName y.cls = true) (hcls : y.cls = vOwn z) (hnm : y.name = vNm z) (hlen : (vargs0 As).length ≤ vNL z) (hls : vargs (vNL z) As = ls) (h : vG (kZs Zs) z 0 ls [] ((vRm z).cells, (vRm z).slots) μ (vN Q)) : vCZ Zs z y As μ Q := by
  intro l D yc hz hl
  refine vx_ofW (cc := vCC z) (maxL := vNL z) (ret := vRt z) hy rfl ?_
  intro p e s m args below meth c s₁ B hml htab hv
  have X := vX_body hcls hnm B hml hl hv.1
  have hnc := hv.2
  obtain ⟨⟨rfl, hH, hK, hz1, hT, hal⟩, -⟩ := hv
  rw [lg_entry_eq]
  subst hls
  exact h p l e s m _ below meth c D yc hz _ X ⟨fun o pc lsA μ H locs cells slots ho hq hH hS h1 h2 => vx_ret (vEnd_ret X o pc lsA μ H locs cells slots ho hq hH hS h1 h2), fun Ex _ _ _ _ _ μ _ _ _ _ q => absurd q id, Or.inr (fun _ _ q => q)⟩ hnc s.heap [] 0 0 _ (vargs_L hlen) hH va_S.rf (by simp) (by simp) (fun q => hal q)
theorem G_callZ {Z9 : kZ9} {Zs : Nat → State → Prop} {M z : vR} {y : MethodName} {idx pc np : Nat} {ls : List (Option Value)} {st rest As : List Value} {b : Nat × Nat} {μ : vM} {Q : vO → vM → Prop} {Qc : Option Value → vM → Prop} (hZ : zGo Z9 Zs) (hZb : zBl Zs) (hd : decode (vCC M) pc = .ok (.invokestatic idx, 3)) (hl : Cond.methodLink (vOwn M) idx y ∈ aw) (hy : vY z y np) (hv : Cond.static y ∈ aw) (hR : (vRm z).frames + 1 ≤ (vRm M).frames ∧ 8 + (vNL z + 11) + (vRm z).locals ≤ (vRm M).locals) (hst : st = As.reverse ++ rest) (hnp : As.length = np) (hcat : (rest.map fun v => v.category).sum ≤ 8) (hb : (vRm z).cells ≤ b.1 ∧ (vRm z).slots ≤ b.2)
    (hc : vCZ Zs z y As μ Qc) (hal : ∀ o μ', Qc o μ' → μ'.1.2.2.2 = true → μ.1.2.2.2 = true ∧ μ'.1.1 = μ.1.1 + (vRm z).cells) (k : ∀ (o : Option Value) (μ' : vM), Qc o μ' → vG Z9 M (pc + 3) ls (o.toList ++ rest) (b.1 - (vRm z).cells, b.2 - (vRm z).slots) μ' Q) : vG Z9 M pc ls st b μ Q := by
  intro p l e s m args below meth c D yc hz Qs X E G9 H locs cells slots lsA hL hH hS h1 h2 h3
  subst hst
  intro T hT S
  have hal9 : μ.1.2.2.2 = true → hz + μ.1.1 = H.size := fun g => by have := vsize S (by rw [hT]; exact hH) (by rw [hT]; exact hS) X.2.2.2.2.2.2.1 (h3 g); rw [hT] at this; omega
  have hG : GoodIn (Cond.code y (vCC z) (vNL z) (vRt z) :: aw) (Cond.code y (vCC z) (vNL z) (vRt z) :: aw) := aw_sub0 hy.1
  have hts : ∀ w ∈ Cond.code y (vCC z) (vNL z) (vRt z) :: aw, w.before args s = true := fun w h => (List.mem_cons.mp h).elim (fun g => by rw [g]; exact X.2.2.2.2.1 _ hy.1) (X.2.2.2.2.1 w)
  have hbl : FrameBlind (fun a U => vPc D yc hz As μ a U ∧ Zs hz U) := fun a U g mk q => ⟨vPc_blind a U g mk q.1, hZb hz a U g mk q.2⟩
  have hr := vx_runS (e := e) (meth := meth) (cells := cells) (slots := slots) (mc := (vRm z).cells) (ms := (vRm z).slots) (locs := locs) (H := H) (below := below) (own := vOwn M) (cc := vCC M) (nL := vNL M) (Ts := aw) (As := As.map (vph hz)) (rest := rest.map (vph hz)) (n := np) (g := F0 m pc lsA ((As.reverse ++ rest).map (vph hz))) ⟨X.1, X.2.1, X.2.2.1, X.2.2.2.1, X.2.2.2.2.1⟩ (hc l D yc hz X.2.2.2.2.2.2.2.1)
    ⟨callB_of (Ts := Cond.code y (vCC z) (vNL z) (vRt z) :: aw) np hts hG rfl rfl rfl (X.2.2.2.2.1 _ hy.2.1) (X.2.2.2.2.1 _ hl) hy.2.2 hR, X.2.2.2.2.1 _ hv⟩
    ⟨hbl, fun U hU hW => ⟨vPc_at (As := As) hH X.2.2.2.2.2.1 hS X.2.2.2.2.2.2.1 X.2.2.2.2.2.2.2.2.2.2.1 hal9 hU hW, hZ s args c hz U G9 hW.alike (fun q hq => by rw [hU]; exact hS.2.1 q (Nat.lt_of_lt_of_le hq X.2.2.2.2.2.2.1) (Nat.not_le.mpr hq))⟩⟩ rfl (by rw [List.length_map]; exact hnp) (hL.1) (by show (As.reverse ++ rest).map (vph hz) = _; rw [vmap_rev]) (lv_room (by rw [vcat_sum]; exact hcat)) hd ⟨by have := hb.1; omega, by have := hb.2; omega⟩
  rcases hr T hT S with ⟨v, st₀, t, T', L, h0, S', hL', e1, e2, ⟨⟨o, μ', hv, hp, hh9⟩, hz9, hk9⟩, st9⟩ | ⟨q, st₀, t, T', L, Ex, ce, h0, S', hL', e1, e2, ⟨⟨μ', hp, hh9⟩, hz9, hk9⟩, hce, hcv, hcl, st9⟩
  · cases hv
    rw [h0] at hz9 hk9
    obtain ⟨t2, a1, b1⟩ := k o μ' hp p l e s m args below meth c D yc hz Qs X E G9 T'.heap (locs ++ L) (cells + (vRm z).cells) (slots + (vRm z).slots) lsA hL (by rw [e1]; exact hh9)
      ⟨Nat.le_trans hS.1 (by rw [e1]; exact hz9), fun q g1 g2 => by rw [e1, hk9 q (Nat.lt_of_lt_of_le g1 hS.1) g2]; exact hS.2.1 q g1 g2, fun q hq => by
        rcases List.mem_append.mp hq with h | h
        · exact hS.2.2 q h
        · exact hL' q h⟩ (by have := hb.1; show cells + (vRm z).cells + (b.1 - (vRm z).cells) ≤ _; omega) (by have := hb.2; show slots + (vRm z).slots + (b.2 - (vRm z).slots) ≤ _; omega) (fun q => by obtain ⟨g1, g2⟩ := hal o μ' hp q; have := h3 g1; omega) T' rfl S'
    refine ⟨t2, st9 t2 ?_, b1⟩
    rw [show (Option.map (vph hz) o).toList ++ List.map (vph hz) rest = List.map (vph hz) (o.toList ++ rest) by cases o <;> rfl]
    exact a1
  · exact absurd hp id
theorem pn_L : plainName RL = true := by decide +kernel
theorem nL_13 : Cond.classLink RL 13 "java/lang/IndexOutOfBoundsException" ∈ aw := aw_t 608 (by decide +kernel) (by decide +kernel)
theorem nL_16 : Cond.classLink RL 16 "java/lang/IllegalArgumentException" ∈ aw := aw_t 274 (by decide +kernel) (by decide +kernel)
theorem nL_31 : Cond.classLink RL 31 "java/lang/IllegalStateException" ∈ aw := aw_t 275 (by decide +kernel) (by decide +kernel)
theorem wc_16 : Cond.castable "java/lang/IllegalArgumentException" "java/lang/IllegalArgumentException" ∈ tables_1 := List.mem_of_getElem? (i := 282) (by decide +kernel)
theorem wc_31 : Cond.castable "java/lang/IllegalStateException" "java/lang/IllegalStateException" ∈ tables_1 := List.mem_of_getElem? (i := 350) (by decide +kernel)
theorem wc_13 : Cond.castable "java/lang/IndexOutOfBoundsException" "java/lang/IndexOutOfBoundsException" ∈ tables_1 := List.mem_of_getElem? (i := 620) (by decide +kernel)
theorem KT.out {v v' : vV} {b r w : Nat} {T : gT} (h : KT v b T) (e : vOw v v' r w) (hb : b + 1603 ≤ r ∨ r + w ≤ b) : KT v' b T :=
  ⟨h.t.ow e (by omega), h.c.ow e (by omega), h.n.ow e (by omega), h.tr.ow e (by omega), h.d.ow e (by omega), fun i hi => ⟨(h.s hi).1.ow e (by omega), by rw [e (b + 1602) (by omega)]; exact (h.s hi).2.1, fun Y hY => ((h.s hi).2.2 Y hY).ow e (by omega)⟩⟩
abbrev eIO : Int32 := -9999001
abbrev eIA : Int32 := -9999002
abbrev eIS : Int32 := -9999003
/-- what the law makes of a call: its answer, or the number of what was thrown; the object then -/
def gP (cs : List Int32) (R : gR gT) : Int32 × gT := (if R.1 = 0 then R.2.1 else cs.getD (R.1 - 1) 0, R.2.2)
def qC (σ : vS) (v : vV) (b : Nat) (R : Int32 × gT) : Option Value → vM → Prop := fun r μ' => r = some (.int R.1) ∧ ∃ v' : vV, μ' = (σ, v') ∧ KT v' b R.2 ∧ vOw v v' b 1603
theorem qc_ret {σ : vS} {v v9 : vV} {b : Nat} {cs : List Int32} {R : gR gT} (e : R.1 = 0) (hK : KT v9 b R.2.2) (hw : vOw v v9 b 1603) : vN (qC σ v b (gP cs R)) (.inl (some (.int R.2.1))) (σ, v9) :=
  ⟨by unfold gP; rw [if_pos e], v9, rfl, hK, hw⟩
theorem qc_thr {σ : vS} {v : vV} {b : Nat} {cs : List Int32} {x : Int32} {T : gT} {R : gR gT} (h0 : R.1 ≠ 0) (hx : cs.getD (R.1 - 1) 0 = x) (hT : R.1 ≠ 0 → R.2.2 = T) (hK : KT v b T) : vN (qC σ v b (gP cs R)) (.inl (some (.int x))) (σ, v) :=
  ⟨by unfold gP; rw [if_neg h0, hx], v, rfl, by show KT v b R.2.2; rw [hT h0]; exact hK, vOw.rf⟩
theorem qc_al {σ : vS} {v : vV} {b n : Nat} {R : Int32 × gT} (hf : σ.2.2.2 = false) : ∀ (o : Option Value) (μ' : vM), qC σ v b R o μ' → μ'.1.2.2.2 = true → (σ, v).1.2.2.2 = true ∧ μ'.1.1 = (σ, v).1.1 + n := fun o μ' h g => by
  obtain ⟨-, v9, rfl, -⟩ := h
  exact absurd (hf.symm.trans g) Bool.false_ne_true
theorem k_append {t : mN} {n c : Nat} {S : mS} {D : List mC} {sl : Nat → Option mC} {a : Int32} : (g_append ((t, n), (c, S), D, sl) a).1 ≤ 2 ∧ ((g_append ((t, n), (c, S), D, sl) a).1 ≠ 0 → (g_append ((t, n), (c, S), D, sl) a).2.2 = ((t, n), (c, S), D, sl)) := by
  dsimp only [g_append]
  (repeat' split) <;> first | exact ⟨Nat.le_of_ble_eq_true rfl, fun _ => rfl⟩ | exact ⟨Nat.zero_le _, fun q => absurd rfl q⟩

set_option maxHeartbeats 4000000 in
set_option maxRecDepth 100000 in
theorem c_L_tryAppend {σ : vS} {v : vV} {c b n : Nat} {S : mS} {t : mN} {D : List mC} {sl : Nat → Option mC} {a : Int32} (hT : kLT σ b) (hK : KT v b ((t, n), (c, S), D, sl)) {B : Nat} (hG : GI B ((t, n), (c, S), D, sl)) (hB : B + 6000000 < 1000000000) (hf : σ.2.2.2 = false) : vCG M_L_tryAppend [(0, 5, 6, 16), (0, 5, 10, 31)] yL_tryAppend [.ref (b), .int (a)] (σ, v) (qC σ v b (gP [eIA, eIS] (g_append ((t, n), (c, S), D, sl) a))) := by
  obtain ⟨hk1, hk0⟩ := k_append (t := t) (n := n) (c := c) (S := S) (D := D) (sl := sl) (a := a)
  refine vCG_of (ls := [some (.ref (b)), some (.int (a)), none]) pn_L rfl rfl (Nat.le_of_ble_eq_true rfl) rfl ?_
  refine G_aload_n dL_tryAppend_0 rfl rfl ?_
  refine G_iload_n dL_tryAppend_1 rfl rfl ?_
  refine G_callVC (hh := [(0, 5, 6, 16), (0, 5, 10, 31)]) (rest := []) (As := [.int (a)]) dL_tryAppend_2 lL_27 yk_X6_append yv_X6_append kX6 rfl (by decide) hT.o rfl rfl (Nat.le_of_ble_eq_true rfl) (by decide) (c_X6_append hT hK hG hB hf) (fun o9 μ9 h9 hf9 => by obtain ⟨-, -, v9, rfl, -⟩ := h9; exact absurd (hf.symm.trans hf9) Bool.false_ne_true) (fun Ex μ9 h9 => ?_) ?_
  · obtain ⟨hne, rfl, rfl⟩ := h9
    refine ⟨fun q9 => absurd (hf.symm.trans q9) Bool.false_ne_true, ?_⟩
    rcases (by omega : (g_append ((t, n), (c, S), D, sl) a).1 = 1 ∨ (g_append ((t, n), (c, S), D, sl) a).1 = 2) with er | er
    · refine ⟨6, ⟨[], ⟨0, 5, 6, 16⟩, [⟨0, 5, 10, 31⟩], "java/lang/IllegalArgumentException", rfl, fun z hz => ?_, by decide, by decide, nL_16, ?_, rfl⟩, fun q9 => ?_⟩
      · exact absurd hz List.not_mem_nil
      · rw [er]; exact wc_16
      · refine G_astore_n (ls2 := [some (.ref (b)), some (.int (a)), some (.ref (q9 + 1000000))]) dL_tryAppend_6 rfl (by decide) rfl ?_
        refine G_ldc dL_tryAppend_7 cL_18 ?_
        refine G_iret dL_tryAppend_9 rfl ?_
        exact qc_thr hne (by rw [er]; rfl) hk0 hK
    · refine ⟨10, ⟨[⟨0, 5, 6, 16⟩], ⟨0, 5, 10, 31⟩, [], "java/lang/IllegalStateException", rfl, fun z hz => ?_, by decide, by decide, nL_31, ?_, rfl⟩, fun q9 => ?_⟩
      · simp only [List.mem_cons, List.not_mem_nil, or_false] at hz
        subst hz
        exact ⟨by decide, _, nL_16, by rw [er]; decide⟩
      · rw [er]; exact wc_31
      · refine G_astore_n (ls2 := [some (.ref (b)), some (.int (a)), some (.ref (q9 + 1000000))]) dL_tryAppend_10 rfl (by decide) rfl ?_
        refine G_ldc dL_tryAppend_11 cL_33 ?_
        refine G_iret dL_tryAppend_13 rfl ?_
        exact qc_thr hne (by rw [er]; rfl) hk0 hK
  rintro o9 μ9 ⟨e1, rfl, v9, rfl, hK9, hw9⟩
  refine G_iret dL_tryAppend_5 rfl ?_
  exact qc_ret e1 hK9 hw9
theorem k_load {t : mN} {n c : Nat} {S : mS} {D : List mC} {sl : Nat → Option mC} : (g_load ((t, n), (c, S), D, sl)).1 ≤ 1 ∧ ((g_load ((t, n), (c, S), D, sl)).1 ≠ 0 → (g_load ((t, n), (c, S), D, sl)).2.2 = ((t, n), (c, S), D, sl)) := by
  dsimp only [g_load]
  (repeat' split) <;> first | exact ⟨Nat.le_of_ble_eq_true rfl, fun _ => rfl⟩ | exact ⟨Nat.zero_le _, fun q => absurd rfl q⟩

set_option maxHeartbeats 4000000 in
set_option maxRecDepth 100000 in
theorem c_L_tryLoad {σ : vS} {v : vV} {c b n : Nat} {S : mS} {t : mN} {D : List mC} {sl : Nat → Option mC} (hT : kLT σ b) (hK : KT v b ((t, n), (c, S), D, sl)) {B : Nat} (hG : GI B ((t, n), (c, S), D, sl)) (hB : B + 6000000 < 1000000000) (hf : σ.2.2.2 = false) : vCG M_L_tryLoad [(0, 4, 5, 31)] yL_tryLoad [.ref (b)] (σ, v) (qC σ v b (gP [eIS] (g_load ((t, n), (c, S), D, sl)))) := by
  obtain ⟨hk1, hk0⟩ := k_load (t := t) (n := n) (c := c) (S := S) (D := D) (sl := sl)
  refine vCG_of (ls := [some (.ref (b)), none]) pn_L rfl rfl (Nat.le_of_ble_eq_true rfl) rfl ?_
  refine G_aload_n dL_tryLoad_0 rfl rfl ?_
  refine G_callVC (hh := [(0, 4, 5, 31)]) (rest := []) (As := []) dL_tryLoad_1 lL_34 yk_X6_load yv_X6_load kX6 rfl (by decide) hT.o rfl rfl (Nat.le_of_ble_eq_true rfl) (by decide) (c_X6_load hT hK hG hB hf) (fun o9 μ9 h9 hf9 => by obtain ⟨-, -, v9, rfl, -⟩ := h9; exact absurd (hf.symm.trans hf9) Bool.false_ne_true) (fun Ex μ9 h9 => ?_) ?_
  · obtain ⟨hne, rfl, rfl⟩ := h9
    refine ⟨fun q9 => absurd (hf.symm.trans q9) Bool.false_ne_true, ?_⟩
    have er : (g_load ((t, n), (c, S), D, sl)).1 = 1 := by omega
    refine ⟨5, ⟨[], ⟨0, 4, 5, 31⟩, [], "java/lang/IllegalStateException", rfl, fun z hz => ?_, by decide, by decide, nL_31, ?_, rfl⟩, fun q9 => ?_⟩
    · exact absurd hz List.not_mem_nil
    · rw [er]; exact wc_31
    · refine G_astore_n (ls2 := [some (.ref (b)), some (.ref (q9 + 1000000))]) dL_tryLoad_5 rfl (by decide) rfl ?_
      refine G_ldc dL_tryLoad_6 cL_33 ?_
      refine G_iret dL_tryLoad_8 rfl ?_
      exact qc_thr hne (by rw [er]; rfl) hk0 hK
  rintro o9 μ9 ⟨e1, rfl, v9, rfl, hK9, hw9⟩
  refine G_iret dL_tryLoad_4 rfl ?_
  exact qc_ret e1 hK9 hw9
theorem k_about {t : mN} {n c : Nat} {S : mS} {D : List mC} {sl : Nat → Option mC} {w : Int32} : (g_about ((t, n), (c, S), D, sl) w).1 ≤ 1 ∧ ((g_about ((t, n), (c, S), D, sl) w).1 ≠ 0 → (g_about ((t, n), (c, S), D, sl) w).2.2 = ((t, n), (c, S), D, sl)) := by
  dsimp only [g_about]
  (repeat' split) <;> first | exact ⟨Nat.le_of_ble_eq_true rfl, fun _ => rfl⟩ | exact ⟨Nat.zero_le _, fun q => absurd rfl q⟩

set_option maxHeartbeats 4000000 in
set_option maxRecDepth 100000 in
theorem c_L_tryAbout {σ : vS} {v : vV} {c b n : Nat} {S : mS} {t : mN} {D : List mC} {sl : Nat → Option mC} {w : Int32} (hT : kLT σ b) (hK : KT v b ((t, n), (c, S), D, sl)) {B : Nat} (hG : GI B ((t, n), (c, S), D, sl)) (hB : B + 6000000 < 1000000000) (hf : σ.2.2.2 = false) : vCG M_L_tryAbout [(0, 5, 6, 16)] yL_tryAbout [.ref (b), .int (w)] (σ, v) (qC σ v b (gP [eIA] (g_about ((t, n), (c, S), D, sl) w))) := by
  obtain ⟨hk1, hk0⟩ := k_about (t := t) (n := n) (c := c) (S := S) (D := D) (sl := sl) (w := w)
  refine vCG_of (ls := [some (.ref (b)), some (.int (w)), none]) pn_L rfl rfl (Nat.le_of_ble_eq_true rfl) rfl ?_
  refine G_aload_n dL_tryAbout_0 rfl rfl ?_
  refine G_iload_n dL_tryAbout_1 rfl rfl ?_
  refine G_callVC (hh := [(0, 5, 6, 16)]) (rest := []) (As := [.int (w)]) dL_tryAbout_2 lL_38 yk_X6_about yv_X6_about kX6 rfl (by decide) hT.o rfl rfl (Nat.le_of_ble_eq_true rfl) (by decide) (c_X6_about hT hK hG hB hf) (fun o9 μ9 h9 hf9 => by obtain ⟨-, -, v9, rfl, -⟩ := h9; exact absurd (hf.symm.trans hf9) Bool.false_ne_true) (fun Ex μ9 h9 => ?_) ?_
  · obtain ⟨hne, rfl, rfl⟩ := h9
    refine ⟨fun q9 => absurd (hf.symm.trans q9) Bool.false_ne_true, ?_⟩
    have er : (g_about ((t, n), (c, S), D, sl) w).1 = 1 := by omega
    refine ⟨6, ⟨[], ⟨0, 5, 6, 16⟩, [], "java/lang/IllegalArgumentException", rfl, fun z hz => ?_, by decide, by decide, nL_16, ?_, rfl⟩, fun q9 => ?_⟩
    · exact absurd hz List.not_mem_nil
    · rw [er]; exact wc_16
    · refine G_astore_n (ls2 := [some (.ref (b)), some (.int (w)), some (.ref (q9 + 1000000))]) dL_tryAbout_6 rfl (by decide) rfl ?_
      refine G_ldc dL_tryAbout_7 cL_18 ?_
      refine G_iret dL_tryAbout_9 rfl ?_
      exact qc_thr hne (by rw [er]; rfl) hk0 hK
  rintro o9 μ9 ⟨e1, rfl, v9, rfl, hK9, hw9⟩
  refine G_iret dL_tryAbout_5 rfl ?_
  exact qc_ret e1 hK9 hw9
theorem k_memberOf {t : mN} {n c : Nat} {S : mS} {D : List mC} {sl : Nat → Option mC} {m w : Int32} : (g_memberOf ((t, n), (c, S), D, sl) m w).1 ≤ 2 ∧ ((g_memberOf ((t, n), (c, S), D, sl) m w).1 ≠ 0 → (g_memberOf ((t, n), (c, S), D, sl) m w).2.2 = ((t, n), (c, S), D, sl)) := by
  dsimp only [g_memberOf]
  (repeat' split) <;> first | exact ⟨Nat.le_of_ble_eq_true rfl, fun _ => rfl⟩ | exact ⟨Nat.zero_le _, fun q => absurd rfl q⟩

set_option maxHeartbeats 4000000 in
set_option maxRecDepth 100000 in
theorem c_L_tryMember {σ : vS} {v : vV} {c b n : Nat} {S : mS} {t : mN} {D : List mC} {sl : Nat → Option mC} {m w : Int32} (hT : kLT σ b) (hK : KT v b ((t, n), (c, S), D, sl)) {B : Nat} (hG : GI B ((t, n), (c, S), D, sl)) (hB : B + 6000000 < 1000000000) (hf : σ.2.2.2 = false) : vCG M_L_tryMember [(0, 6, 7, 13), (0, 6, 11, 16)] yL_tryMember [.ref (b), .int (m), .int (w)] (σ, v) (qC σ v b (gP [eIO, eIA] (g_memberOf ((t, n), (c, S), D, sl) m w))) := by
  obtain ⟨hk1, hk0⟩ := k_memberOf (t := t) (n := n) (c := c) (S := S) (D := D) (sl := sl) (m := m) (w := w)
  refine vCG_of (ls := [some (.ref (b)), some (.int (m)), some (.int (w)), none]) pn_L rfl rfl (Nat.le_of_ble_eq_true rfl) rfl ?_
  refine G_aload_n dL_tryMember_0 rfl rfl ?_
  refine G_iload_n dL_tryMember_1 rfl rfl ?_
  refine G_iload_n dL_tryMember_2 rfl rfl ?_
  refine G_callVC (hh := [(0, 6, 7, 13), (0, 6, 11, 16)]) (rest := []) (As := [.int (m), .int (w)]) dL_tryMember_3 lL_41 yk_X6_memberOf yv_X6_memberOf kX6 rfl (by decide) hT.o rfl rfl (Nat.le_of_ble_eq_true rfl) (by decide) (c_X6_memberOf hT hK hG hB hf) (fun o9 μ9 h9 hf9 => by obtain ⟨-, -, v9, rfl, -⟩ := h9; exact absurd (hf.symm.trans hf9) Bool.false_ne_true) (fun Ex μ9 h9 => ?_) ?_
  · obtain ⟨hne, rfl, rfl⟩ := h9
    refine ⟨fun q9 => absurd (hf.symm.trans q9) Bool.false_ne_true, ?_⟩
    rcases (by omega : (g_memberOf ((t, n), (c, S), D, sl) m w).1 = 1 ∨ (g_memberOf ((t, n), (c, S), D, sl) m w).1 = 2) with er | er
    · refine ⟨7, ⟨[], ⟨0, 6, 7, 13⟩, [⟨0, 6, 11, 16⟩], "java/lang/IndexOutOfBoundsException", rfl, fun z hz => ?_, by decide, by decide, nL_13, ?_, rfl⟩, fun q9 => ?_⟩
      · exact absurd hz List.not_mem_nil
      · rw [er]; exact wc_13
      · refine G_astore_n (ls2 := [some (.ref (b)), some (.int (m)), some (.int (w)), some (.ref (q9 + 1000000))]) dL_tryMember_7 rfl (by decide) rfl ?_
        refine G_ldc dL_tryMember_8 cL_15 ?_
        refine G_iret dL_tryMember_10 rfl ?_
        exact qc_thr hne (by rw [er]; rfl) hk0 hK
    · refine ⟨11, ⟨[⟨0, 6, 7, 13⟩], ⟨0, 6, 11, 16⟩, [], "java/lang/IllegalArgumentException", rfl, fun z hz => ?_, by decide, by decide, nL_16, ?_, rfl⟩, fun q9 => ?_⟩
      · simp only [List.mem_cons, List.not_mem_nil, or_false] at hz
        subst hz
        exact ⟨by decide, _, nL_13, by rw [er]; decide⟩
      · rw [er]; exact wc_16
      · refine G_astore_n (ls2 := [some (.ref (b)), some (.int (m)), some (.int (w)), some (.ref (q9 + 1000000))]) dL_tryMember_11 rfl (by decide) rfl ?_
        refine G_ldc dL_tryMember_12 cL_18 ?_
        refine G_iret dL_tryMember_14 rfl ?_
        exact qc_thr hne (by rw [er]; rfl) hk0 hK
  rintro o9 μ9 ⟨e1, rfl, v9, rfl, hK9, hw9⟩
  refine G_iret dL_tryMember_6 rfl ?_
  exact qc_ret e1 hK9 hw9
theorem k_session {t : mN} {n c : Nat} {S : mS} {D : List mC} {sl : Nat → Option mC} {m k w : Int32} : (g_session ((t, n), (c, S), D, sl) m k w).1 ≤ 2 ∧ ((g_session ((t, n), (c, S), D, sl) m k w).1 ≠ 0 → (g_session ((t, n), (c, S), D, sl) m k w).2.2 = ((t, n), (c, S), D, sl)) := by
  dsimp only [g_session]
  (repeat' split) <;> first | exact ⟨Nat.le_of_ble_eq_true rfl, fun _ => rfl⟩ | exact ⟨Nat.zero_le _, fun q => absurd rfl q⟩

set_option maxHeartbeats 4000000 in
set_option maxRecDepth 100000 in
theorem c_L_trySession {σ : vS} {v : vV} {c b n : Nat} {S : mS} {t : mN} {D : List mC} {sl : Nat → Option mC} {m k w : Int32} (hT : kLT σ b) (hK : KT v b ((t, n), (c, S), D, sl)) {B : Nat} (hG : GI B ((t, n), (c, S), D, sl)) (hB : B + 6000000 < 1000000000) (hf : σ.2.2.2 = false) : vCG M_L_trySession [(0, 7, 8, 13), (0, 7, 13, 16)] yL_trySession [.ref (b), .int (m), .int (k), .int (w)] (σ, v) (qC σ v b (gP [eIO, eIA] (g_session ((t, n), (c, S), D, sl) m k w))) := by
  obtain ⟨hk1, hk0⟩ := k_session (t := t) (n := n) (c := c) (S := S) (D := D) (sl := sl) (m := m) (k := k) (w := w)
  refine vCG_of (ls := [some (.ref (b)), some (.int (m)), some (.int (k)), some (.int (w)), none]) pn_L rfl rfl (Nat.le_of_ble_eq_true rfl) rfl ?_
  refine G_aload_n dL_trySession_0 rfl rfl ?_
  refine G_iload_n dL_trySession_1 rfl rfl ?_
  refine G_iload_n dL_trySession_2 rfl rfl ?_
  refine G_iload_n dL_trySession_3 rfl rfl ?_
  refine G_callVC (hh := [(0, 7, 8, 13), (0, 7, 13, 16)]) (rest := []) (As := [.int (m), .int (k), .int (w)]) dL_trySession_4 lL_45 yk_X6_session yv_X6_session kX6 rfl (by decide) hT.o rfl rfl (Nat.le_of_ble_eq_true rfl) (by decide) (c_X6_session hT hK hG hB hf) (fun o9 μ9 h9 hf9 => by obtain ⟨-, -, v9, rfl, -⟩ := h9; exact absurd (hf.symm.trans hf9) Bool.false_ne_true) (fun Ex μ9 h9 => ?_) ?_
  · obtain ⟨hne, rfl, rfl⟩ := h9
    refine ⟨fun q9 => absurd (hf.symm.trans q9) Bool.false_ne_true, ?_⟩
    rcases (by omega : (g_session ((t, n), (c, S), D, sl) m k w).1 = 1 ∨ (g_session ((t, n), (c, S), D, sl) m k w).1 = 2) with er | er
    · refine ⟨8, ⟨[], ⟨0, 7, 8, 13⟩, [⟨0, 7, 13, 16⟩], "java/lang/IndexOutOfBoundsException", rfl, fun z hz => ?_, by decide, by decide, nL_13, ?_, rfl⟩, fun q9 => ?_⟩
      · exact absurd hz List.not_mem_nil
      · rw [er]; exact wc_13
      · refine G_astore (ls2 := [some (.ref (b)), some (.int (m)), some (.int (k)), some (.int (w)), some (.ref (q9 + 1000000))]) dL_trySession_8 (by decide) rfl ?_
        refine G_ldc dL_trySession_10 cL_15 ?_
        refine G_iret dL_trySession_12 rfl ?_
        exact qc_thr hne (by rw [er]; rfl) hk0 hK
    · refine ⟨13, ⟨[⟨0, 7, 8, 13⟩], ⟨0, 7, 13, 16⟩, [], "java/lang/IllegalArgumentException", rfl, fun z hz => ?_, by decide, by decide, nL_16, ?_, rfl⟩, fun q9 => ?_⟩
      · simp only [List.mem_cons, List.not_mem_nil, or_false] at hz
        subst hz
        exact ⟨by decide, _, nL_13, by rw [er]; decide⟩
      · rw [er]; exact wc_16
      · refine G_astore (ls2 := [some (.ref (b)), some (.int (m)), some (.int (k)), some (.int (w)), some (.ref (q9 + 1000000))]) dL_trySession_13 (by decide) rfl ?_
        refine G_ldc dL_trySession_15 cL_18 ?_
        refine G_iret dL_trySession_17 rfl ?_
        exact qc_thr hne (by rw [er]; rfl) hk0 hK
  rintro o9 μ9 ⟨e1, rfl, v9, rfl, hK9, hw9⟩
  refine G_iret dL_trySession_7 rfl ?_
  exact qc_ret e1 hK9 hw9
theorem k_note {t : mN} {n c : Nat} {S : mS} {D : List mC} {sl : Nat → Option mC} {k w : Int32} : (g_note ((t, n), (c, S), D, sl) k w).1 ≤ 2 ∧ ((g_note ((t, n), (c, S), D, sl) k w).1 ≠ 0 → (g_note ((t, n), (c, S), D, sl) k w).2.2 = ((t, n), (c, S), D, sl)) := by
  dsimp only [g_note]
  (repeat' split) <;> first | exact ⟨Nat.le_of_ble_eq_true rfl, fun _ => rfl⟩ | exact ⟨Nat.zero_le _, fun q => absurd rfl q⟩

set_option maxHeartbeats 4000000 in
set_option maxRecDepth 100000 in
theorem c_L_tryNote {σ : vS} {v : vV} {c b n : Nat} {S : mS} {t : mN} {D : List mC} {sl : Nat → Option mC} {k w : Int32} (hT : kLT σ b) (hK : KT v b ((t, n), (c, S), D, sl)) {B : Nat} (hG : GI B ((t, n), (c, S), D, sl)) (hB : B + 6000000 < 1000000000) (hf : σ.2.2.2 = false) : vCG M_L_tryNote [(0, 6, 7, 13), (0, 6, 11, 16)] yL_tryNote [.ref (b), .int (k), .int (w)] (σ, v) (qC σ v b (gP [eIO, eIA] (g_note ((t, n), (c, S), D, sl) k w))) := by
  obtain ⟨hk1, hk0⟩ := k_note (t := t) (n := n) (c := c) (S := S) (D := D) (sl := sl) (k := k) (w := w)
  refine vCG_of (ls := [some (.ref (b)), some (.int (k)), some (.int (w)), none]) pn_L rfl rfl (Nat.le_of_ble_eq_true rfl) rfl ?_
  refine G_aload_n dL_tryNote_0 rfl rfl ?_
  refine G_iload_n dL_tryNote_1 rfl rfl ?_
  refine G_iload_n dL_tryNote_2 rfl rfl ?_
  refine G_callVC (hh := [(0, 6, 7, 13), (0, 6, 11, 16)]) (rest := []) (As := [.int (k), .int (w)]) dL_tryNote_3 lL_49 yk_X6_note yv_X6_note kX6 rfl (by decide) hT.o rfl rfl (Nat.le_of_ble_eq_true rfl) (by decide) (c_X6_note hT hK hG hB hf) (fun o9 μ9 h9 hf9 => by obtain ⟨-, -, v9, rfl, -⟩ := h9; exact absurd (hf.symm.trans hf9) Bool.false_ne_true) (fun Ex μ9 h9 => ?_) ?_
  · obtain ⟨hne, rfl, rfl⟩ := h9
    refine ⟨fun q9 => absurd (hf.symm.trans q9) Bool.false_ne_true, ?_⟩
    rcases (by omega : (g_note ((t, n), (c, S), D, sl) k w).1 = 1 ∨ (g_note ((t, n), (c, S), D, sl) k w).1 = 2) with er | er
    · refine ⟨7, ⟨[], ⟨0, 6, 7, 13⟩, [⟨0, 6, 11, 16⟩], "java/lang/IndexOutOfBoundsException", rfl, fun z hz => ?_, by decide, by decide, nL_13, ?_, rfl⟩, fun q9 => ?_⟩
      · exact absurd hz List.not_mem_nil
      · rw [er]; exact wc_13
      · refine G_astore_n (ls2 := [some (.ref (b)), some (.int (k)), some (.int (w)), some (.ref (q9 + 1000000))]) dL_tryNote_7 rfl (by decide) rfl ?_
        refine G_ldc dL_tryNote_8 cL_15 ?_
        refine G_iret dL_tryNote_10 rfl ?_
        exact qc_thr hne (by rw [er]; rfl) hk0 hK
    · refine ⟨11, ⟨[⟨0, 6, 7, 13⟩], ⟨0, 6, 11, 16⟩, [], "java/lang/IllegalArgumentException", rfl, fun z hz => ?_, by decide, by decide, nL_16, ?_, rfl⟩, fun q9 => ?_⟩
      · simp only [List.mem_cons, List.not_mem_nil, or_false] at hz
        subst hz
        exact ⟨by decide, _, nL_13, by rw [er]; decide⟩
      · rw [er]; exact wc_16
      · refine G_astore_n (ls2 := [some (.ref (b)), some (.int (k)), some (.int (w)), some (.ref (q9 + 1000000))]) dL_tryNote_11 rfl (by decide) rfl ?_
        refine G_ldc dL_tryNote_12 cL_18 ?_
        refine G_iret dL_tryNote_14 rfl ?_
        exact qc_thr hne (by rw [er]; rfl) hk0 hK
  rintro o9 μ9 ⟨e1, rfl, v9, rfl, hK9, hw9⟩
  refine G_iret dL_tryNote_6 rfl ?_
  exact qc_ret e1 hK9 hw9
theorem k_isCut {t : mN} {n c : Nat} {S : mS} {D : List mC} {sl : Nat → Option mC} {a d : Int32} : (g_isCut ((t, n), (c, S), D, sl) a d).1 ≤ 1 ∧ ((g_isCut ((t, n), (c, S), D, sl) a d).1 ≠ 0 → (g_isCut ((t, n), (c, S), D, sl) a d).2.2 = ((t, n), (c, S), D, sl)) := by
  dsimp only [g_isCut]
  (repeat' split) <;> first | exact ⟨Nat.le_of_ble_eq_true rfl, fun _ => rfl⟩ | exact ⟨Nat.zero_le _, fun q => absurd rfl q⟩

set_option maxHeartbeats 4000000 in
set_option maxRecDepth 100000 in
theorem c_L_tryCut {σ : vS} {v : vV} {c b n : Nat} {S : mS} {t : mN} {D : List mC} {sl : Nat → Option mC} {a d : Int32} (hT : kLT σ b) (hK : KT v b ((t, n), (c, S), D, sl)) {B : Nat} (hG : GI B ((t, n), (c, S), D, sl)) (hB : B + 6000000 < 1000000000) (hf : σ.2.2.2 = false) : vCG M_L_tryCut [(0, 6, 7, 13)] yL_tryCut [.ref (b), .int (a), .int (d)] (σ, v) (qC σ v b (gP [eIO] (g_isCut ((t, n), (c, S), D, sl) a d))) := by
  obtain ⟨hk1, hk0⟩ := k_isCut (t := t) (n := n) (c := c) (S := S) (D := D) (sl := sl) (a := a) (d := d)
  refine vCG_of (ls := [some (.ref (b)), some (.int (a)), some (.int (d)), none]) pn_L rfl rfl (Nat.le_of_ble_eq_true rfl) rfl ?_
  refine G_aload_n dL_tryCut_0 rfl rfl ?_
  refine G_iload_n dL_tryCut_1 rfl rfl ?_
  refine G_iload_n dL_tryCut_2 rfl rfl ?_
  refine G_callVC (hh := [(0, 6, 7, 13)]) (rest := []) (As := [.int (a), .int (d)]) dL_tryCut_3 lL_52 yk_X6_isCut yv_X6_isCut kX6 rfl (by decide) hT.o rfl rfl (Nat.le_of_ble_eq_true rfl) (by decide) (c_X6_isCut hT hK hG hB hf) (fun o9 μ9 h9 hf9 => by obtain ⟨-, -, v9, rfl, -⟩ := h9; exact absurd (hf.symm.trans hf9) Bool.false_ne_true) (fun Ex μ9 h9 => ?_) ?_
  · obtain ⟨hne, rfl, rfl⟩ := h9
    refine ⟨fun q9 => absurd (hf.symm.trans q9) Bool.false_ne_true, ?_⟩
    have er : (g_isCut ((t, n), (c, S), D, sl) a d).1 = 1 := by omega
    refine ⟨7, ⟨[], ⟨0, 6, 7, 13⟩, [], "java/lang/IndexOutOfBoundsException", rfl, fun z hz => ?_, by decide, by decide, nL_13, ?_, rfl⟩, fun q9 => ?_⟩
    · exact absurd hz List.not_mem_nil
    · rw [er]; exact wc_13
    · refine G_astore_n (ls2 := [some (.ref (b)), some (.int (a)), some (.int (d)), some (.ref (q9 + 1000000))]) dL_tryCut_7 rfl (by decide) rfl ?_
      refine G_ldc dL_tryCut_8 cL_15 ?_
      refine G_iret dL_tryCut_10 rfl ?_
      exact qc_thr hne (by rw [er]; rfl) hk0 hK
  rintro o9 μ9 ⟨e1, rfl, v9, rfl, hK9, hw9⟩
  refine G_iret dL_tryCut_6 rfl ?_
  exact qc_ret e1 hK9 hw9
theorem k_member {t : mN} {n c : Nat} {S : mS} {D : List mC} {sl : Nat → Option mC} {p : Int32} : (g_member ((t, n), (c, S), D, sl) p).1 ≤ 2 ∧ ((g_member ((t, n), (c, S), D, sl) p).1 ≠ 0 → (g_member ((t, n), (c, S), D, sl) p).2.2 = ((t, n), (c, S), D, sl)) := by
  dsimp only [g_member]
  (repeat' split) <;> first | exact ⟨Nat.le_of_ble_eq_true rfl, fun _ => rfl⟩ | exact ⟨Nat.zero_le _, fun q => absurd rfl q⟩

set_option maxHeartbeats 4000000 in
set_option maxRecDepth 100000 in
theorem c_L_tryCome {σ : vS} {v : vV} {c b n : Nat} {S : mS} {t : mN} {D : List mC} {sl : Nat → Option mC} {p : Int32} (hT : kLT σ b) (hK : KT v b ((t, n), (c, S), D, sl)) {B : Nat} (hG : GI B ((t, n), (c, S), D, sl)) (hB : B + 6000000 < 1000000000) (hf : σ.2.2.2 = false) : vCG M_L_tryCome [(0, 5, 6, 16), (0, 5, 10, 31)] yL_tryCome [.ref (b), .int (p)] (σ, v) (qC σ v b (gP [eIA, eIS] (g_member ((t, n), (c, S), D, sl) p))) := by
  obtain ⟨hk1, hk0⟩ := k_member (t := t) (n := n) (c := c) (S := S) (D := D) (sl := sl) (p := p)
  refine vCG_of (ls := [some (.ref (b)), some (.int (p)), none]) pn_L rfl rfl (Nat.le_of_ble_eq_true rfl) rfl ?_
  refine G_aload_n dL_tryCome_0 rfl rfl ?_
  refine G_iload_n dL_tryCome_1 rfl rfl ?_
  refine G_callVC (hh := [(0, 5, 6, 16), (0, 5, 10, 31)]) (rest := []) (As := [.int (p)]) dL_tryCome_2 lL_55 yk_X6_member yv_X6_member kX6 rfl (by decide) hT.o rfl rfl (Nat.le_of_ble_eq_true rfl) (by decide) (c_X6_member hT hK hG hB hf) (fun o9 μ9 h9 hf9 => by obtain ⟨-, -, v9, rfl, -⟩ := h9; exact absurd (hf.symm.trans hf9) Bool.false_ne_true) (fun Ex μ9 h9 => ?_) ?_
  · obtain ⟨hne, rfl, rfl⟩ := h9
    refine ⟨fun q9 => absurd (hf.symm.trans q9) Bool.false_ne_true, ?_⟩
    rcases (by omega : (g_member ((t, n), (c, S), D, sl) p).1 = 1 ∨ (g_member ((t, n), (c, S), D, sl) p).1 = 2) with er | er
    · refine ⟨6, ⟨[], ⟨0, 5, 6, 16⟩, [⟨0, 5, 10, 31⟩], "java/lang/IllegalArgumentException", rfl, fun z hz => ?_, by decide, by decide, nL_16, ?_, rfl⟩, fun q9 => ?_⟩
      · exact absurd hz List.not_mem_nil
      · rw [er]; exact wc_16
      · refine G_astore_n (ls2 := [some (.ref (b)), some (.int (p)), some (.ref (q9 + 1000000))]) dL_tryCome_6 rfl (by decide) rfl ?_
        refine G_ldc dL_tryCome_7 cL_18 ?_
        refine G_iret dL_tryCome_9 rfl ?_
        exact qc_thr hne (by rw [er]; rfl) hk0 hK
    · refine ⟨10, ⟨[⟨0, 5, 6, 16⟩], ⟨0, 5, 10, 31⟩, [], "java/lang/IllegalStateException", rfl, fun z hz => ?_, by decide, by decide, nL_31, ?_, rfl⟩, fun q9 => ?_⟩
      · simp only [List.mem_cons, List.not_mem_nil, or_false] at hz
        subst hz
        exact ⟨by decide, _, nL_16, by rw [er]; decide⟩
      · rw [er]; exact wc_31
      · refine G_astore_n (ls2 := [some (.ref (b)), some (.int (p)), some (.ref (q9 + 1000000))]) dL_tryCome_10 rfl (by decide) rfl ?_
        refine G_ldc dL_tryCome_11 cL_33 ?_
        refine G_iret dL_tryCome_13 rfl ?_
        exact qc_thr hne (by rw [er]; rfl) hk0 hK
  rintro o9 μ9 ⟨e1, rfl, v9, rfl, hK9, hw9⟩
  refine G_iret dL_tryCome_5 rfl ?_
  exact qc_ret e1 hK9 hw9
theorem k_say {t : mN} {n c : Nat} {S : mS} {D : List mC} {sl : Nat → Option mC} {m : Int32} : (g_say ((t, n), (c, S), D, sl) m).1 ≤ 2 ∧ ((g_say ((t, n), (c, S), D, sl) m).1 ≠ 0 → (g_say ((t, n), (c, S), D, sl) m).2.2 = ((t, n), (c, S), D, sl)) := by
  dsimp only [g_say]
  (repeat' split) <;> first | exact ⟨Nat.le_of_ble_eq_true rfl, fun _ => rfl⟩ | exact ⟨Nat.zero_le _, fun q => absurd rfl q⟩

set_option maxHeartbeats 4000000 in
set_option maxRecDepth 100000 in
theorem c_L_trySay {σ : vS} {v : vV} {c b n : Nat} {S : mS} {t : mN} {D : List mC} {sl : Nat → Option mC} {m : Int32} (hT : kLT σ b) (hK : KT v b ((t, n), (c, S), D, sl)) {B : Nat} (hG : GI B ((t, n), (c, S), D, sl)) (hB : B + 6000000 < 1000000000) (hf : σ.2.2.2 = false) : vCG M_L_trySay [(0, 5, 6, 13), (0, 5, 10, 31)] yL_trySay [.ref (b), .int (m)] (σ, v) (qC σ v b (gP [eIO, eIS] (g_say ((t, n), (c, S), D, sl) m))) := by
  obtain ⟨hk1, hk0⟩ := k_say (t := t) (n := n) (c := c) (S := S) (D := D) (sl := sl) (m := m)
  refine vCG_of (ls := [some (.ref (b)), some (.int (m)), none]) pn_L rfl rfl (Nat.le_of_ble_eq_true rfl) rfl ?_
  refine G_aload_n dL_trySay_0 rfl rfl ?_
  refine G_iload_n dL_trySay_1 rfl rfl ?_
  refine G_callVC (hh := [(0, 5, 6, 13), (0, 5, 10, 31)]) (rest := []) (As := [.int (m)]) dL_trySay_2 lL_58 yk_X6_say yv_X6_say kX6 rfl (by decide) hT.o rfl rfl (Nat.le_of_ble_eq_true rfl) (by decide) (c_X6_say hT hK hG hB hf) (fun o9 μ9 h9 hf9 => by obtain ⟨-, -, v9, rfl, -⟩ := h9; exact absurd (hf.symm.trans hf9) Bool.false_ne_true) (fun Ex μ9 h9 => ?_) ?_
  · obtain ⟨hne, rfl, rfl⟩ := h9
    refine ⟨fun q9 => absurd (hf.symm.trans q9) Bool.false_ne_true, ?_⟩
    rcases (by omega : (g_say ((t, n), (c, S), D, sl) m).1 = 1 ∨ (g_say ((t, n), (c, S), D, sl) m).1 = 2) with er | er
    · refine ⟨6, ⟨[], ⟨0, 5, 6, 13⟩, [⟨0, 5, 10, 31⟩], "java/lang/IndexOutOfBoundsException", rfl, fun z hz => ?_, by decide, by decide, nL_13, ?_, rfl⟩, fun q9 => ?_⟩
      · exact absurd hz List.not_mem_nil
      · rw [er]; exact wc_13
      · refine G_astore_n (ls2 := [some (.ref (b)), some (.int (m)), some (.ref (q9 + 1000000))]) dL_trySay_6 rfl (by decide) rfl ?_
        refine G_ldc dL_trySay_7 cL_15 ?_
        refine G_iret dL_trySay_9 rfl ?_
        exact qc_thr hne (by rw [er]; rfl) hk0 hK
    · refine ⟨10, ⟨[⟨0, 5, 6, 13⟩], ⟨0, 5, 10, 31⟩, [], "java/lang/IllegalStateException", rfl, fun z hz => ?_, by decide, by decide, nL_31, ?_, rfl⟩, fun q9 => ?_⟩
      · simp only [List.mem_cons, List.not_mem_nil, or_false] at hz
        subst hz
        exact ⟨by decide, _, nL_13, by rw [er]; decide⟩
      · rw [er]; exact wc_31
      · refine G_astore_n (ls2 := [some (.ref (b)), some (.int (m)), some (.ref (q9 + 1000000))]) dL_trySay_10 rfl (by decide) rfl ?_
        refine G_ldc dL_trySay_11 cL_33 ?_
        refine G_iret dL_trySay_13 rfl ?_
        exact qc_thr hne (by rw [er]; rfl) hk0 hK
  rintro o9 μ9 ⟨e1, rfl, v9, rfl, hK9, hw9⟩
  refine G_iret dL_trySay_5 rfl ?_
  exact qc_ret e1 hK9 hw9
theorem k_call {t : mN} {n c : Nat} {S : mS} {D : List mC} {sl : Nat → Option mC} {m s : Int32} : (g_call ((t, n), (c, S), D, sl) m s).1 ≤ 3 ∧ ((g_call ((t, n), (c, S), D, sl) m s).1 ≠ 0 → (g_call ((t, n), (c, S), D, sl) m s).2.2 = ((t, n), (c, S), D, sl)) := by
  dsimp only [g_call]
  (repeat' split) <;> first | exact ⟨Nat.le_of_ble_eq_true rfl, fun _ => rfl⟩ | exact ⟨Nat.zero_le _, fun q => absurd rfl q⟩

set_option maxHeartbeats 4000000 in
set_option maxRecDepth 100000 in
theorem c_L_tryCall {σ : vS} {v : vV} {c b n : Nat} {S : mS} {t : mN} {D : List mC} {sl : Nat → Option mC} {m s : Int32} (hT : kLT σ b) (hK : KT v b ((t, n), (c, S), D, sl)) {B : Nat} (hG : GI B ((t, n), (c, S), D, sl)) (hB : B + 6000000 < 1000000000) (hf : σ.2.2.2 = false) : vCG M_L_tryCall [(0, 6, 7, 13), (0, 6, 11, 16), (0, 6, 15, 31)] yL_tryCall [.ref (b), .int (m), .int (s)] (σ, v) (qC σ v b (gP [eIO, eIA, eIS] (g_call ((t, n), (c, S), D, sl) m s))) := by
  obtain ⟨hk1, hk0⟩ := k_call (t := t) (n := n) (c := c) (S := S) (D := D) (sl := sl) (m := m) (s := s)
  refine vCG_of (ls := [some (.ref (b)), some (.int (m)), some (.int (s)), none]) pn_L rfl rfl (Nat.le_of_ble_eq_true rfl) rfl ?_
  refine G_aload_n dL_tryCall_0 rfl rfl ?_
  refine G_iload_n dL_tryCall_1 rfl rfl ?_
  refine G_iload_n dL_tryCall_2 rfl rfl ?_
  refine G_callVC (hh := [(0, 6, 7, 13), (0, 6, 11, 16), (0, 6, 15, 31)]) (rest := []) (As := [.int (m), .int (s)]) dL_tryCall_3 lL_61 yk_X6_call yv_X6_call kX6 rfl (by decide) hT.o rfl rfl (Nat.le_of_ble_eq_true rfl) (by decide) (c_X6_call hT hK hG hB hf) (fun o9 μ9 h9 hf9 => by obtain ⟨-, -, v9, rfl, -⟩ := h9; exact absurd (hf.symm.trans hf9) Bool.false_ne_true) (fun Ex μ9 h9 => ?_) ?_
  · obtain ⟨hne, rfl, rfl⟩ := h9
    refine ⟨fun q9 => absurd (hf.symm.trans q9) Bool.false_ne_true, ?_⟩
    rcases (by omega : (g_call ((t, n), (c, S), D, sl) m s).1 = 1 ∨ (g_call ((t, n), (c, S), D, sl) m s).1 = 2 ∨ (g_call ((t, n), (c, S), D, sl) m s).1 = 3) with er | er | er
    · refine ⟨7, ⟨[], ⟨0, 6, 7, 13⟩, [⟨0, 6, 11, 16⟩, ⟨0, 6, 15, 31⟩], "java/lang/IndexOutOfBoundsException", rfl, fun z hz => ?_, by decide, by decide, nL_13, ?_, rfl⟩, fun q9 => ?_⟩
      · exact absurd hz List.not_mem_nil
      · rw [er]; exact wc_13
      · refine G_astore_n (ls2 := [some (.ref (b)), some (.int (m)), some (.int (s)), some (.ref (q9 + 1000000))]) dL_tryCall_7 rfl (by decide) rfl ?_
        refine G_ldc dL_tryCall_8 cL_15 ?_
        refine G_iret dL_tryCall_10 rfl ?_
        exact qc_thr hne (by rw [er]; rfl) hk0 hK
    · refine ⟨11, ⟨[⟨0, 6, 7, 13⟩], ⟨0, 6, 11, 16⟩, [⟨0, 6, 15, 31⟩], "java/lang/IllegalArgumentException", rfl, fun z hz => ?_, by decide, by decide, nL_16, ?_, rfl⟩, fun q9 => ?_⟩
      · simp only [List.mem_cons, List.not_mem_nil, or_false] at hz
        subst hz
        exact ⟨by decide, _, nL_13, by rw [er]; decide⟩
      · rw [er]; exact wc_16
      · refine G_astore_n (ls2 := [some (.ref (b)), some (.int (m)), some (.int (s)), some (.ref (q9 + 1000000))]) dL_tryCall_11 rfl (by decide) rfl ?_
        refine G_ldc dL_tryCall_12 cL_18 ?_
        refine G_iret dL_tryCall_14 rfl ?_
        exact qc_thr hne (by rw [er]; rfl) hk0 hK
    · refine ⟨15, ⟨[⟨0, 6, 7, 13⟩, ⟨0, 6, 11, 16⟩], ⟨0, 6, 15, 31⟩, [], "java/lang/IllegalStateException", rfl, fun z hz => ?_, by decide, by decide, nL_31, ?_, rfl⟩, fun q9 => ?_⟩
      · simp only [List.mem_cons, List.not_mem_nil, or_false] at hz
        rcases hz with rfl | rfl
        · exact ⟨by decide, _, nL_13, by rw [er]; decide⟩
        · exact ⟨by decide, _, nL_16, by rw [er]; decide⟩
      · rw [er]; exact wc_31
      · refine G_astore_n (ls2 := [some (.ref (b)), some (.int (m)), some (.int (s)), some (.ref (q9 + 1000000))]) dL_tryCall_15 rfl (by decide) rfl ?_
        refine G_ldc dL_tryCall_16 cL_33 ?_
        refine G_iret dL_tryCall_18 rfl ?_
        exact qc_thr hne (by rw [er]; rfl) hk0 hK
  rintro o9 μ9 ⟨e1, rfl, v9, rfl, hK9, hw9⟩
  refine G_iret dL_tryCall_6 rfl ?_
  exact qc_ret e1 hK9 hw9
theorem k_cut {t : mN} {n c : Nat} {S : mS} {D : List mC} {sl : Nat → Option mC} {a d : Int32} {z : Bool} : (g_cut ((t, n), (c, S), D, sl) a d z).1 ≤ 2 ∧ ((g_cut ((t, n), (c, S), D, sl) a d z).1 ≠ 0 → (g_cut ((t, n), (c, S), D, sl) a d z).2.2 = ((t, n), (c, S), D, sl)) := by
  dsimp only [g_cut]
  (repeat' split) <;> first | exact ⟨Nat.le_of_ble_eq_true rfl, fun _ => rfl⟩ | exact ⟨Nat.zero_le _, fun q => absurd rfl q⟩

set_option maxHeartbeats 4000000 in
set_option maxRecDepth 100000 in
theorem c_L_cuts {σ : vS} {v : vV} {c b n : Nat} {S : mS} {t : mN} {D : List mC} {sl : Nat → Option mC} {a d : Int32} {z : Bool} (hT : kLT σ b) (hK : KT v b ((t, n), (c, S), D, sl)) {B : Nat} (hG : GI B ((t, n), (c, S), D, sl)) (hB : B + 6000000 < 1000000000) (hf : σ.2.2.2 = false) : vCG M_L_cuts [(0, 7, 8, 13), (0, 7, 13, 16)] yL_cuts [.ref (b), .int (a), .int (d), .int (vb (z))] (σ, v) (qC σ v b (gP [eIO, eIA] (g_cut ((t, n), (c, S), D, sl) a d z))) := by
  obtain ⟨hk1, hk0⟩ := k_cut (t := t) (n := n) (c := c) (S := S) (D := D) (sl := sl) (a := a) (d := d) (z := z)
  refine vCG_of (ls := [some (.ref (b)), some (.int (a)), some (.int (d)), some (.int (vb (z))), none]) pn_L rfl rfl (Nat.le_of_ble_eq_true rfl) rfl ?_
  refine G_aload_n dL_cuts_0 rfl rfl ?_
  refine G_iload_n dL_cuts_1 rfl rfl ?_
  refine G_iload_n dL_cuts_2 rfl rfl ?_
  refine G_iload_n dL_cuts_3 rfl rfl ?_
  refine G_callVC (hh := [(0, 7, 8, 13), (0, 7, 13, 16)]) (rest := []) (As := [.int (a), .int (d), .int (vb (z))]) dL_cuts_4 lL_7 yk_X6_cut yv_X6_cut kX6 rfl (by decide) hT.o rfl rfl (Nat.le_of_ble_eq_true rfl) (by decide) (c_X6_cut hT hK hG hB hf) (fun o9 μ9 h9 hf9 => by obtain ⟨-, -, v9, rfl, -⟩ := h9; exact absurd (hf.symm.trans hf9) Bool.false_ne_true) (fun Ex μ9 h9 => ?_) ?_
  · obtain ⟨hne, rfl, rfl⟩ := h9
    refine ⟨fun q9 => absurd (hf.symm.trans q9) Bool.false_ne_true, ?_⟩
    rcases (by omega : (g_cut ((t, n), (c, S), D, sl) a d z).1 = 1 ∨ (g_cut ((t, n), (c, S), D, sl) a d z).1 = 2) with er | er
    · refine ⟨8, ⟨[], ⟨0, 7, 8, 13⟩, [⟨0, 7, 13, 16⟩], "java/lang/IndexOutOfBoundsException", rfl, fun z hz => ?_, by decide, by decide, nL_13, ?_, rfl⟩, fun q9 => ?_⟩
      · exact absurd hz List.not_mem_nil
      · rw [er]; exact wc_13
      · refine G_astore (ls2 := [some (.ref (b)), some (.int (a)), some (.int (d)), some (.int (vb (z))), some (.ref (q9 + 1000000))]) dL_cuts_8 (by decide) rfl ?_
        refine G_ldc dL_cuts_10 cL_15 ?_
        refine G_iret dL_cuts_12 rfl ?_
        exact qc_thr hne (by rw [er]; rfl) hk0 hK
    · refine ⟨13, ⟨[⟨0, 7, 8, 13⟩], ⟨0, 7, 13, 16⟩, [], "java/lang/IllegalArgumentException", rfl, fun z hz => ?_, by decide, by decide, nL_16, ?_, rfl⟩, fun q9 => ?_⟩
      · simp only [List.mem_cons, List.not_mem_nil, or_false] at hz
        subst hz
        exact ⟨by decide, _, nL_13, by rw [er]; decide⟩
      · rw [er]; exact wc_16
      · refine G_astore (ls2 := [some (.ref (b)), some (.int (a)), some (.int (d)), some (.int (vb (z))), some (.ref (q9 + 1000000))]) dL_cuts_13 (by decide) rfl ?_
        refine G_ldc dL_cuts_15 cL_18 ?_
        refine G_iret dL_cuts_17 rfl ?_
        exact qc_thr hne (by rw [er]; rfl) hk0 hK
  rintro o9 μ9 ⟨e1, rfl, v9, rfl, hK9, hw9⟩
  refine G_iret dL_cuts_7 rfl ?_
  exact qc_ret e1 hK9 hw9
theorem k_leave {t : mN} {n c : Nat} {S : mS} {D : List mC} {sl : Nat → Option mC} {m : Int32} : (g_leave ((t, n), (c, S), D, sl) m).1 ≤ 2 ∧ ((g_leave ((t, n), (c, S), D, sl) m).1 ≠ 0 → (g_leave ((t, n), (c, S), D, sl) m).2.2 = ((t, n), (c, S), D, sl)) := by
  dsimp only [g_leave]
  (repeat' split) <;> first | exact ⟨Nat.le_of_ble_eq_true rfl, fun _ => rfl⟩ | exact ⟨Nat.zero_le _, fun q => absurd rfl q⟩

set_option maxHeartbeats 4000000 in
set_option maxRecDepth 100000 in
theorem c_L_tryLeave {σ : vS} {v : vV} {c b n : Nat} {S : mS} {t : mN} {D : List mC} {sl : Nat → Option mC} {m : Int32} (hT : kLT σ b) (hK : KT v b ((t, n), (c, S), D, sl)) {B : Nat} (hG : GI B ((t, n), (c, S), D, sl)) (hB : B + 6000000 < 1000000000) (hf : σ.2.2.2 = false) : vCG M_L_tryLeave [(0, 5, 6, 13), (0, 5, 10, 31)] yL_tryLeave [.ref (b), .int (m)] (σ, v) (qC σ v b (gP [eIO, eIS] (g_leave ((t, n), (c, S), D, sl) m))) := by
  obtain ⟨hk1, hk0⟩ := k_leave (t := t) (n := n) (c := c) (S := S) (D := D) (sl := sl) (m := m)
  refine vCG_of (ls := [some (.ref (b)), some (.int (m)), none]) pn_L rfl rfl (Nat.le_of_ble_eq_true rfl) rfl ?_
  refine G_aload_n dL_tryLeave_0 rfl rfl ?_
  refine G_iload_n dL_tryLeave_1 rfl rfl ?_
  refine G_callVC (hh := [(0, 5, 6, 13), (0, 5, 10, 31)]) (rest := []) (As := [.int (m)]) dL_tryLeave_2 lL_64 yk_X6_leave yv_X6_leave kX6 rfl (by decide) hT.o rfl rfl (Nat.le_of_ble_eq_true rfl) (by decide) (c_X6_leave hT hK hG hB hf) (fun o9 μ9 h9 hf9 => by obtain ⟨-, -, v9, rfl, -⟩ := h9; exact absurd (hf.symm.trans hf9) Bool.false_ne_true) (fun Ex μ9 h9 => ?_) ?_
  · obtain ⟨hne, rfl, rfl⟩ := h9
    refine ⟨fun q9 => absurd (hf.symm.trans q9) Bool.false_ne_true, ?_⟩
    rcases (by omega : (g_leave ((t, n), (c, S), D, sl) m).1 = 1 ∨ (g_leave ((t, n), (c, S), D, sl) m).1 = 2) with er | er
    · refine ⟨6, ⟨[], ⟨0, 5, 6, 13⟩, [⟨0, 5, 10, 31⟩], "java/lang/IndexOutOfBoundsException", rfl, fun z hz => ?_, by decide, by decide, nL_13, ?_, rfl⟩, fun q9 => ?_⟩
      · exact absurd hz List.not_mem_nil
      · rw [er]; exact wc_13
      · refine G_astore_n (ls2 := [some (.ref (b)), some (.int (m)), some (.ref (q9 + 1000000))]) dL_tryLeave_6 rfl (by decide) rfl ?_
        refine G_ldc dL_tryLeave_7 cL_15 ?_
        refine G_iret dL_tryLeave_9 rfl ?_
        exact qc_thr hne (by rw [er]; rfl) hk0 hK
    · refine ⟨10, ⟨[⟨0, 5, 6, 13⟩], ⟨0, 5, 10, 31⟩, [], "java/lang/IllegalStateException", rfl, fun z hz => ?_, by decide, by decide, nL_31, ?_, rfl⟩, fun q9 => ?_⟩
      · simp only [List.mem_cons, List.not_mem_nil, or_false] at hz
        subst hz
        exact ⟨by decide, _, nL_13, by rw [er]; decide⟩
      · rw [er]; exact wc_31
      · refine G_astore_n (ls2 := [some (.ref (b)), some (.int (m)), some (.ref (q9 + 1000000))]) dL_tryLeave_10 rfl (by decide) rfl ?_
        refine G_ldc dL_tryLeave_11 cL_33 ?_
        refine G_iret dL_tryLeave_13 rfl ?_
        exact qc_thr hne (by rw [er]; rfl) hk0 hK
  rintro o9 μ9 ⟨e1, rfl, v9, rfl, hK9, hw9⟩
  refine G_iret dL_tryLeave_5 rfl ?_
  exact qc_ret e1 hK9 hw9
theorem k_back {t : mN} {n c : Nat} {S : mS} {D : List mC} {sl : Nat → Option mC} {m : Int32} : (g_back ((t, n), (c, S), D, sl) m).1 ≤ 2 ∧ ((g_back ((t, n), (c, S), D, sl) m).1 ≠ 0 → (g_back ((t, n), (c, S), D, sl) m).2.2 = ((t, n), (c, S), D, sl)) := by
  dsimp only [g_back]
  (repeat' split) <;> first | exact ⟨Nat.le_of_ble_eq_true rfl, fun _ => rfl⟩ | exact ⟨Nat.zero_le _, fun q => absurd rfl q⟩

set_option maxHeartbeats 4000000 in
set_option maxRecDepth 100000 in
theorem c_L_tryReturn {σ : vS} {v : vV} {c b n : Nat} {S : mS} {t : mN} {D : List mC} {sl : Nat → Option mC} {m : Int32} (hT : kLT σ b) (hK : KT v b ((t, n), (c, S), D, sl)) {B : Nat} (hG : GI B ((t, n), (c, S), D, sl)) (hB : B + 6000000 < 1000000000) (hf : σ.2.2.2 = false) : vCG M_L_tryReturn [(0, 5, 6, 13), (0, 5, 10, 31)] yL_tryReturn [.ref (b), .int (m)] (σ, v) (qC σ v b (gP [eIO, eIS] (g_back ((t, n), (c, S), D, sl) m))) := by
  obtain ⟨hk1, hk0⟩ := k_back (t := t) (n := n) (c := c) (S := S) (D := D) (sl := sl) (m := m)
  refine vCG_of (ls := [some (.ref (b)), some (.int (m)), none]) pn_L rfl rfl (Nat.le_of_ble_eq_true rfl) rfl ?_
  refine G_aload_n dL_tryReturn_0 rfl rfl ?_
  refine G_iload_n dL_tryReturn_1 rfl rfl ?_
  refine G_callVC (hh := [(0, 5, 6, 13), (0, 5, 10, 31)]) (rest := []) (As := [.int (m)]) dL_tryReturn_2 lL_67 yk_X6_back yv_X6_back kX6 rfl (by decide) hT.o rfl rfl (Nat.le_of_ble_eq_true rfl) (by decide) (c_X6_back hT hK hG hB hf) (fun o9 μ9 h9 hf9 => by obtain ⟨-, -, v9, rfl, -⟩ := h9; exact absurd (hf.symm.trans hf9) Bool.false_ne_true) (fun Ex μ9 h9 => ?_) ?_
  · obtain ⟨hne, rfl, rfl⟩ := h9
    refine ⟨fun q9 => absurd (hf.symm.trans q9) Bool.false_ne_true, ?_⟩
    rcases (by omega : (g_back ((t, n), (c, S), D, sl) m).1 = 1 ∨ (g_back ((t, n), (c, S), D, sl) m).1 = 2) with er | er
    · refine ⟨6, ⟨[], ⟨0, 5, 6, 13⟩, [⟨0, 5, 10, 31⟩], "java/lang/IndexOutOfBoundsException", rfl, fun z hz => ?_, by decide, by decide, nL_13, ?_, rfl⟩, fun q9 => ?_⟩
      · exact absurd hz List.not_mem_nil
      · rw [er]; exact wc_13
      · refine G_astore_n (ls2 := [some (.ref (b)), some (.int (m)), some (.ref (q9 + 1000000))]) dL_tryReturn_6 rfl (by decide) rfl ?_
        refine G_ldc dL_tryReturn_7 cL_15 ?_
        refine G_iret dL_tryReturn_9 rfl ?_
        exact qc_thr hne (by rw [er]; rfl) hk0 hK
    · refine ⟨10, ⟨[⟨0, 5, 6, 13⟩], ⟨0, 5, 10, 31⟩, [], "java/lang/IllegalStateException", rfl, fun z hz => ?_, by decide, by decide, nL_31, ?_, rfl⟩, fun q9 => ?_⟩
      · simp only [List.mem_cons, List.not_mem_nil, or_false] at hz
        subst hz
        exact ⟨by decide, _, nL_13, by rw [er]; decide⟩
      · rw [er]; exact wc_31
      · refine G_astore_n (ls2 := [some (.ref (b)), some (.int (m)), some (.ref (q9 + 1000000))]) dL_tryReturn_10 rfl (by decide) rfl ?_
        refine G_ldc dL_tryReturn_11 cL_33 ?_
        refine G_iret dL_tryReturn_13 rfl ?_
        exact qc_thr hne (by rw [er]; rfl) hk0 hK
  rintro o9 μ9 ⟨e1, rfl, v9, rfl, hK9, hw9⟩
  refine G_iret dL_tryReturn_5 rfl ?_
  exact qc_ret e1 hK9 hw9
theorem k_set {t : mN} {n c : Nat} {S : mS} {D : List mC} {sl : Nat → Option mC} {a : Int32} : (g_set ((t, n), (c, S), D, sl) a).1 ≤ 1 ∧ ((g_set ((t, n), (c, S), D, sl) a).1 ≠ 0 → (g_set ((t, n), (c, S), D, sl) a).2.2 = ((t, n), (c, S), D, sl)) := by
  dsimp only [g_set]
  (repeat' split) <;> first | exact ⟨Nat.le_of_ble_eq_true rfl, fun _ => rfl⟩ | exact ⟨Nat.zero_le _, fun q => absurd rfl q⟩

set_option maxHeartbeats 4000000 in
set_option maxRecDepth 100000 in
theorem c_L_tryLay {σ : vS} {v : vV} {c b n : Nat} {S : mS} {t : mN} {D : List mC} {sl : Nat → Option mC} {a : Int32} (hT : kLT σ b) (hK : KT v b ((t, n), (c, S), D, sl)) {B : Nat} (hG : GI B ((t, n), (c, S), D, sl)) (hB : B + 6000000 < 1000000000) (hf : σ.2.2.2 = false) : vCG M_L_tryLay [(0, 5, 6, 16)] yL_tryLay [.ref (b), .int (a)] (σ, v) (qC σ v b (gP [eIA] (g_set ((t, n), (c, S), D, sl) a))) := by
  obtain ⟨hk1, hk0⟩ := k_set (t := t) (n := n) (c := c) (S := S) (D := D) (sl := sl) (a := a)
  refine vCG_of (ls := [some (.ref (b)), some (.int (a)), none]) pn_L rfl rfl (Nat.le_of_ble_eq_true rfl) rfl ?_
  refine G_aload_n dL_tryLay_0 rfl rfl ?_
  refine G_iload_n dL_tryLay_1 rfl rfl ?_
  refine G_callVC (hh := [(0, 5, 6, 16)]) (rest := []) (As := [.int (a)]) dL_tryLay_2 lL_70 yk_X6_set yv_X6_set kX6 rfl (by decide) hT.o rfl rfl (Nat.le_of_ble_eq_true rfl) (by decide) (c_X6_set hT hK hG hB hf) (fun o9 μ9 h9 hf9 => by obtain ⟨-, -, v9, rfl, -⟩ := h9; exact absurd (hf.symm.trans hf9) Bool.false_ne_true) (fun Ex μ9 h9 => ?_) ?_
  · obtain ⟨hne, rfl, rfl⟩ := h9
    refine ⟨fun q9 => absurd (hf.symm.trans q9) Bool.false_ne_true, ?_⟩
    have er : (g_set ((t, n), (c, S), D, sl) a).1 = 1 := by omega
    refine ⟨6, ⟨[], ⟨0, 5, 6, 16⟩, [], "java/lang/IllegalArgumentException", rfl, fun z hz => ?_, by decide, by decide, nL_16, ?_, rfl⟩, fun q9 => ?_⟩
    · exact absurd hz List.not_mem_nil
    · rw [er]; exact wc_16
    · refine G_astore_n (ls2 := [some (.ref (b)), some (.int (a)), some (.ref (q9 + 1000000))]) dL_tryLay_6 rfl (by decide) rfl ?_
      refine G_ldc dL_tryLay_7 cL_18 ?_
      refine G_iret dL_tryLay_9 rfl ?_
      exact qc_thr hne (by rw [er]; rfl) hk0 hK
  rintro o9 μ9 ⟨e1, rfl, v9, rfl, hK9, hw9⟩
  refine G_iret dL_tryLay_5 rfl ?_
  exact qc_ret e1 hK9 hw9
theorem k_ticks {t : mN} {n c : Nat} {S : mS} {D : List mC} {sl : Nat → Option mC} {a : Int32} : (g_ticks ((t, n), (c, S), D, sl) a).1 ≤ 1 ∧ ((g_ticks ((t, n), (c, S), D, sl) a).1 ≠ 0 → (g_ticks ((t, n), (c, S), D, sl) a).2.2 = ((t, n), (c, S), D, sl)) := by
  dsimp only [g_ticks]
  (repeat' split) <;> first | exact ⟨Nat.le_of_ble_eq_true rfl, fun _ => rfl⟩ | exact ⟨Nat.zero_le _, fun q => absurd rfl q⟩

set_option maxHeartbeats 4000000 in
set_option maxRecDepth 100000 in
theorem c_L_tryTicks {σ : vS} {v : vV} {c b n : Nat} {S : mS} {t : mN} {D : List mC} {sl : Nat → Option mC} {a : Int32} (hT : kLT σ b) (hK : KT v b ((t, n), (c, S), D, sl)) {B : Nat} (hG : GI B ((t, n), (c, S), D, sl)) (hB : B + 6000000 < 1000000000) (hf : σ.2.2.2 = false) : vCG M_L_tryTicks [(0, 5, 6, 16)] yL_tryTicks [.ref (b), .int (a)] (σ, v) (qC σ v b (gP [eIA] (g_ticks ((t, n), (c, S), D, sl) a))) := by
  obtain ⟨hk1, hk0⟩ := k_ticks (t := t) (n := n) (c := c) (S := S) (D := D) (sl := sl) (a := a)
  refine vCG_of (ls := [some (.ref (b)), some (.int (a)), none]) pn_L rfl rfl (Nat.le_of_ble_eq_true rfl) rfl ?_
  refine G_aload_n dL_tryTicks_0 rfl rfl ?_
  refine G_iload_n dL_tryTicks_1 rfl rfl ?_
  refine G_callVC (hh := [(0, 5, 6, 16)]) (rest := []) (As := [.int (a)]) dL_tryTicks_2 lL_73 yk_X6_ticks yv_X6_ticks kX6 rfl (by decide) hT.o rfl rfl (Nat.le_of_ble_eq_true rfl) (by decide) (c_X6_ticks hT hK hG hB hf) (fun o9 μ9 h9 hf9 => by obtain ⟨-, -, v9, rfl, -⟩ := h9; exact absurd (hf.symm.trans hf9) Bool.false_ne_true) (fun Ex μ9 h9 => ?_) ?_
  · obtain ⟨hne, rfl, rfl⟩ := h9
    refine ⟨fun q9 => absurd (hf.symm.trans q9) Bool.false_ne_true, ?_⟩
    have er : (g_ticks ((t, n), (c, S), D, sl) a).1 = 1 := by omega
    refine ⟨6, ⟨[], ⟨0, 5, 6, 16⟩, [], "java/lang/IllegalArgumentException", rfl, fun z hz => ?_, by decide, by decide, nL_16, ?_, rfl⟩, fun q9 => ?_⟩
    · exact absurd hz List.not_mem_nil
    · rw [er]; exact wc_16
    · refine G_astore_n (ls2 := [some (.ref (b)), some (.int (a)), some (.ref (q9 + 1000000))]) dL_tryTicks_6 rfl (by decide) rfl ?_
      refine G_ldc dL_tryTicks_7 cL_18 ?_
      refine G_iret dL_tryTicks_9 rfl ?_
      exact qc_thr hne (by rw [er]; rfl) hk0 hK
  rintro o9 μ9 ⟨e1, rfl, v9, rfl, hK9, hw9⟩
  refine G_iret dL_tryTicks_5 rfl ?_
  exact qc_ret e1 hK9 hw9
theorem k_undo {t : mN} {n c : Nat} {S : mS} {D : List mC} {sl : Nat → Option mC} : (g_undo ((t, n), (c, S), D, sl)).1 ≤ 1 ∧ ((g_undo ((t, n), (c, S), D, sl)).1 ≠ 0 → (g_undo ((t, n), (c, S), D, sl)).2.2 = ((t, n), (c, S), D, sl)) := by
  dsimp only [g_undo]
  (repeat' split) <;> first | exact ⟨Nat.le_of_ble_eq_true rfl, fun _ => rfl⟩ | exact ⟨Nat.zero_le _, fun q => absurd rfl q⟩

set_option maxHeartbeats 4000000 in
set_option maxRecDepth 100000 in
theorem c_L_tryUndo {σ : vS} {v : vV} {c b n : Nat} {S : mS} {t : mN} {D : List mC} {sl : Nat → Option mC} (hT : kLT σ b) (hK : KT v b ((t, n), (c, S), D, sl)) {B : Nat} (hG : GI B ((t, n), (c, S), D, sl)) (hB : B + 6000000 < 1000000000) (hf : σ.2.2.2 = false) : vCG M_L_tryUndo [(0, 4, 5, 31)] yL_tryUndo [.ref (b)] (σ, v) (qC σ v b (gP [eIS] (g_undo ((t, n), (c, S), D, sl)))) := by
  obtain ⟨hk1, hk0⟩ := k_undo (t := t) (n := n) (c := c) (S := S) (D := D) (sl := sl)
  refine vCG_of (ls := [some (.ref (b)), none]) pn_L rfl rfl (Nat.le_of_ble_eq_true rfl) rfl ?_
  refine G_aload_n dL_tryUndo_0 rfl rfl ?_
  refine G_callVC (hh := [(0, 4, 5, 31)]) (rest := []) (As := []) dL_tryUndo_1 lL_76 yk_X6_undo yv_X6_undo kX6 rfl (by decide) hT.o rfl rfl (Nat.le_of_ble_eq_true rfl) (by decide) (c_X6_undo hT hK hG hB hf) (fun o9 μ9 h9 hf9 => by obtain ⟨-, -, v9, rfl, -⟩ := h9; exact absurd (hf.symm.trans hf9) Bool.false_ne_true) (fun Ex μ9 h9 => ?_) ?_
  · obtain ⟨hne, rfl, rfl⟩ := h9
    refine ⟨fun q9 => absurd (hf.symm.trans q9) Bool.false_ne_true, ?_⟩
    have er : (g_undo ((t, n), (c, S), D, sl)).1 = 1 := by omega
    refine ⟨5, ⟨[], ⟨0, 4, 5, 31⟩, [], "java/lang/IllegalStateException", rfl, fun z hz => ?_, by decide, by decide, nL_31, ?_, rfl⟩, fun q9 => ?_⟩
    · exact absurd hz List.not_mem_nil
    · rw [er]; exact wc_31
    · refine G_astore_n (ls2 := [some (.ref (b)), some (.ref (q9 + 1000000))]) dL_tryUndo_5 rfl (by decide) rfl ?_
      refine G_ldc dL_tryUndo_6 cL_33 ?_
      refine G_iret dL_tryUndo_8 rfl ?_
      exact qc_thr hne (by rw [er]; rfl) hk0 hK
  rintro o9 μ9 ⟨e1, rfl, v9, rfl, hK9, hw9⟩
  refine G_iret dL_tryUndo_4 rfl ?_
  exact qc_ret e1 hK9 hw9
theorem k_standsIn {t : mN} {n c : Nat} {S : mS} {D : List mC} {sl : Nat → Option mC} {m s w : Int32} : (g_standsIn ((t, n), (c, S), D, sl) m s w).1 ≤ 2 ∧ ((g_standsIn ((t, n), (c, S), D, sl) m s w).1 ≠ 0 → (g_standsIn ((t, n), (c, S), D, sl) m s w).2.2 = ((t, n), (c, S), D, sl)) := by
  dsimp only [g_standsIn]
  (repeat' split) <;> first | exact ⟨Nat.le_of_ble_eq_true rfl, fun _ => rfl⟩ | exact ⟨Nat.zero_le _, fun q => absurd rfl q⟩

set_option maxHeartbeats 4000000 in
set_option maxRecDepth 100000 in
theorem c_L_tryStands {σ : vS} {v : vV} {c b n : Nat} {S : mS} {t : mN} {D : List mC} {sl : Nat → Option mC} {m s w : Int32} (hT : kLT σ b) (hK : KT v b ((t, n), (c, S), D, sl)) {B : Nat} (hG : GI B ((t, n), (c, S), D, sl)) (hB : B + 6000000 < 1000000000) (hf : σ.2.2.2 = false) : vCG M_L_tryStands [(0, 7, 8, 13), (0, 7, 13, 16)] yL_tryStands [.ref (b), .int (m), .int (s), .int (w)] (σ, v) (qC σ v b (gP [eIO, eIA] (g_standsIn ((t, n), (c, S), D, sl) m s w))) := by
  obtain ⟨hk1, hk0⟩ := k_standsIn (t := t) (n := n) (c := c) (S := S) (D := D) (sl := sl) (m := m) (s := s) (w := w)
  refine vCG_of (ls := [some (.ref (b)), some (.int (m)), some (.int (s)), some (.int (w)), none]) pn_L rfl rfl (Nat.le_of_ble_eq_true rfl) rfl ?_
  refine G_aload_n dL_tryStands_0 rfl rfl ?_
  refine G_iload_n dL_tryStands_1 rfl rfl ?_
  refine G_iload_n dL_tryStands_2 rfl rfl ?_
  refine G_iload_n dL_tryStands_3 rfl rfl ?_
  refine G_callVC (hh := [(0, 7, 8, 13), (0, 7, 13, 16)]) (rest := []) (As := [.int (m), .int (s), .int (w)]) dL_tryStands_4 lL_79 yk_X6_standsIn yv_X6_standsIn kX6 rfl (by decide) hT.o rfl rfl (Nat.le_of_ble_eq_true rfl) (by decide) (c_X6_standsIn hT hK hG hB hf) (fun o9 μ9 h9 hf9 => by obtain ⟨-, -, v9, rfl, -⟩ := h9; exact absurd (hf.symm.trans hf9) Bool.false_ne_true) (fun Ex μ9 h9 => ?_) ?_
  · obtain ⟨hne, rfl, rfl⟩ := h9
    refine ⟨fun q9 => absurd (hf.symm.trans q9) Bool.false_ne_true, ?_⟩
    rcases (by omega : (g_standsIn ((t, n), (c, S), D, sl) m s w).1 = 1 ∨ (g_standsIn ((t, n), (c, S), D, sl) m s w).1 = 2) with er | er
    · refine ⟨8, ⟨[], ⟨0, 7, 8, 13⟩, [⟨0, 7, 13, 16⟩], "java/lang/IndexOutOfBoundsException", rfl, fun z hz => ?_, by decide, by decide, nL_13, ?_, rfl⟩, fun q9 => ?_⟩
      · exact absurd hz List.not_mem_nil
      · rw [er]; exact wc_13
      · refine G_astore (ls2 := [some (.ref (b)), some (.int (m)), some (.int (s)), some (.int (w)), some (.ref (q9 + 1000000))]) dL_tryStands_8 (by decide) rfl ?_
        refine G_ldc dL_tryStands_10 cL_15 ?_
        refine G_iret dL_tryStands_12 rfl ?_
        exact qc_thr hne (by rw [er]; rfl) hk0 hK
    · refine ⟨13, ⟨[⟨0, 7, 8, 13⟩], ⟨0, 7, 13, 16⟩, [], "java/lang/IllegalArgumentException", rfl, fun z hz => ?_, by decide, by decide, nL_16, ?_, rfl⟩, fun q9 => ?_⟩
      · simp only [List.mem_cons, List.not_mem_nil, or_false] at hz
        subst hz
        exact ⟨by decide, _, nL_13, by rw [er]; decide⟩
      · rw [er]; exact wc_16
      · refine G_astore (ls2 := [some (.ref (b)), some (.int (m)), some (.int (s)), some (.int (w)), some (.ref (q9 + 1000000))]) dL_tryStands_13 (by decide) rfl ?_
        refine G_ldc dL_tryStands_15 cL_18 ?_
        refine G_iret dL_tryStands_17 rfl ?_
        exact qc_thr hne (by rw [er]; rfl) hk0 hK
  rintro o9 μ9 ⟨e1, rfl, v9, rfl, hK9, hw9⟩
  refine G_iret dL_tryStands_7 rfl ?_
  exact qc_ret e1 hK9 hw9
theorem k_compare {t : mN} {n c : Nat} {S : mS} {D : List mC} {sl : Nat → Option mC} {a d w : Int32} : (g_compare ((t, n), (c, S), D, sl) a d w).1 ≤ 2 ∧ ((g_compare ((t, n), (c, S), D, sl) a d w).1 ≠ 0 → (g_compare ((t, n), (c, S), D, sl) a d w).2.2 = ((t, n), (c, S), D, sl)) := by
  dsimp only [g_compare]
  (repeat' split) <;> first | exact ⟨Nat.le_of_ble_eq_true rfl, fun _ => rfl⟩ | exact ⟨Nat.zero_le _, fun q => absurd rfl q⟩

set_option maxHeartbeats 4000000 in
set_option maxRecDepth 100000 in
theorem c_L_tryCompare {σ : vS} {v : vV} {c b n : Nat} {S : mS} {t : mN} {D : List mC} {sl : Nat → Option mC} {a d w : Int32} (hT : kLT σ b) (hK : KT v b ((t, n), (c, S), D, sl)) {B : Nat} (hG : GI B ((t, n), (c, S), D, sl)) (hB : B + 6000000 < 1000000000) (hf : σ.2.2.2 = false) : vCG M_L_tryCompare [(0, 7, 8, 13), (0, 7, 13, 16)] yL_tryCompare [.ref (b), .int (a), .int (d), .int (w)] (σ, v) (qC σ v b (gP [eIO, eIA] (g_compare ((t, n), (c, S), D, sl) a d w))) := by
  obtain ⟨hk1, hk0⟩ := k_compare (t := t) (n := n) (c := c) (S := S) (D := D) (sl := sl) (a := a) (d := d) (w := w)
  refine vCG_of (ls := [some (.ref (b)), some (.int (a)), some (.int (d)), some (.int (w)), none]) pn_L rfl rfl (Nat.le_of_ble_eq_true rfl) rfl ?_
  refine G_aload_n dL_tryCompare_0 rfl rfl ?_
  refine G_iload_n dL_tryCompare_1 rfl rfl ?_
  refine G_iload_n dL_tryCompare_2 rfl rfl ?_
  refine G_iload_n dL_tryCompare_3 rfl rfl ?_
  refine G_callVC (hh := [(0, 7, 8, 13), (0, 7, 13, 16)]) (rest := []) (As := [.int (a), .int (d), .int (w)]) dL_tryCompare_4 lL_82 yk_X6_compare yv_X6_compare kX6 rfl (by decide) hT.o rfl rfl (Nat.le_of_ble_eq_true rfl) (by decide) (c_X6_compare hT hK hG hB hf) (fun o9 μ9 h9 hf9 => by obtain ⟨-, -, v9, rfl, -⟩ := h9; exact absurd (hf.symm.trans hf9) Bool.false_ne_true) (fun Ex μ9 h9 => ?_) ?_
  · obtain ⟨hne, rfl, rfl⟩ := h9
    refine ⟨fun q9 => absurd (hf.symm.trans q9) Bool.false_ne_true, ?_⟩
    rcases (by omega : (g_compare ((t, n), (c, S), D, sl) a d w).1 = 1 ∨ (g_compare ((t, n), (c, S), D, sl) a d w).1 = 2) with er | er
    · refine ⟨8, ⟨[], ⟨0, 7, 8, 13⟩, [⟨0, 7, 13, 16⟩], "java/lang/IndexOutOfBoundsException", rfl, fun z hz => ?_, by decide, by decide, nL_13, ?_, rfl⟩, fun q9 => ?_⟩
      · exact absurd hz List.not_mem_nil
      · rw [er]; exact wc_13
      · refine G_astore (ls2 := [some (.ref (b)), some (.int (a)), some (.int (d)), some (.int (w)), some (.ref (q9 + 1000000))]) dL_tryCompare_8 (by decide) rfl ?_
        refine G_ldc dL_tryCompare_10 cL_15 ?_
        refine G_iret dL_tryCompare_12 rfl ?_
        exact qc_thr hne (by rw [er]; rfl) hk0 hK
    · refine ⟨13, ⟨[⟨0, 7, 8, 13⟩], ⟨0, 7, 13, 16⟩, [], "java/lang/IllegalArgumentException", rfl, fun z hz => ?_, by decide, by decide, nL_16, ?_, rfl⟩, fun q9 => ?_⟩
      · simp only [List.mem_cons, List.not_mem_nil, or_false] at hz
        subst hz
        exact ⟨by decide, _, nL_13, by rw [er]; decide⟩
      · rw [er]; exact wc_16
      · refine G_astore (ls2 := [some (.ref (b)), some (.int (a)), some (.int (d)), some (.int (w)), some (.ref (q9 + 1000000))]) dL_tryCompare_13 (by decide) rfl ?_
        refine G_ldc dL_tryCompare_15 cL_18 ?_
        refine G_iret dL_tryCompare_17 rfl ?_
        exact qc_thr hne (by rw [er]; rfl) hk0 hK
  rintro o9 μ9 ⟨e1, rfl, v9, rfl, hK9, hw9⟩
  refine G_iret dL_tryCompare_7 rfl ?_
  exact qc_ret e1 hK9 hw9
theorem k_lacks {t : mN} {n c : Nat} {S : mS} {D : List mC} {sl : Nat → Option mC} {m : Int32} : (g_lacks ((t, n), (c, S), D, sl) m).1 ≤ 1 ∧ ((g_lacks ((t, n), (c, S), D, sl) m).1 ≠ 0 → (g_lacks ((t, n), (c, S), D, sl) m).2.2 = ((t, n), (c, S), D, sl)) := by
  dsimp only [g_lacks]
  (repeat' split) <;> first | exact ⟨Nat.le_of_ble_eq_true rfl, fun _ => rfl⟩ | exact ⟨Nat.zero_le _, fun q => absurd rfl q⟩

set_option maxHeartbeats 4000000 in
set_option maxRecDepth 100000 in
theorem c_L_tryLacks {σ : vS} {v : vV} {c b n : Nat} {S : mS} {t : mN} {D : List mC} {sl : Nat → Option mC} {m : Int32} (hT : kLT σ b) (hK : KT v b ((t, n), (c, S), D, sl)) {B : Nat} (hG : GI B ((t, n), (c, S), D, sl)) (hB : B + 6000000 < 1000000000) (hf : σ.2.2.2 = false) : vCG M_L_tryLacks [(0, 5, 6, 13)] yL_tryLacks [.ref (b), .int (m)] (σ, v) (qC σ v b (gP [eIO] (g_lacks ((t, n), (c, S), D, sl) m))) := by
  obtain ⟨hk1, hk0⟩ := k_lacks (t := t) (n := n) (c := c) (S := S) (D := D) (sl := sl) (m := m)
  refine vCG_of (ls := [some (.ref (b)), some (.int (m)), none]) pn_L rfl rfl (Nat.le_of_ble_eq_true rfl) rfl ?_
  refine G_aload_n dL_tryLacks_0 rfl rfl ?_
  refine G_iload_n dL_tryLacks_1 rfl rfl ?_
  refine G_callVC (hh := [(0, 5, 6, 13)]) (rest := []) (As := [.int (m)]) dL_tryLacks_2 lL_85 yk_X6_lacks yv_X6_lacks kX6 rfl (by decide) hT.o rfl rfl (Nat.le_of_ble_eq_true rfl) (by decide) (c_X6_lacks hT hK hG hB hf) (fun o9 μ9 h9 hf9 => by obtain ⟨-, -, v9, rfl, -⟩ := h9; exact absurd (hf.symm.trans hf9) Bool.false_ne_true) (fun Ex μ9 h9 => ?_) ?_
  · obtain ⟨hne, rfl, rfl⟩ := h9
    refine ⟨fun q9 => absurd (hf.symm.trans q9) Bool.false_ne_true, ?_⟩
    have er : (g_lacks ((t, n), (c, S), D, sl) m).1 = 1 := by omega
    refine ⟨6, ⟨[], ⟨0, 5, 6, 13⟩, [], "java/lang/IndexOutOfBoundsException", rfl, fun z hz => ?_, by decide, by decide, nL_13, ?_, rfl⟩, fun q9 => ?_⟩
    · exact absurd hz List.not_mem_nil
    · rw [er]; exact wc_13
    · refine G_astore_n (ls2 := [some (.ref (b)), some (.int (m)), some (.ref (q9 + 1000000))]) dL_tryLacks_6 rfl (by decide) rfl ?_
      refine G_ldc dL_tryLacks_7 cL_15 ?_
      refine G_iret dL_tryLacks_9 rfl ?_
      exact qc_thr hne (by rw [er]; rfl) hk0 hK
  rintro o9 μ9 ⟨e1, rfl, v9, rfl, hK9, hw9⟩
  refine G_iret dL_tryLacks_5 rfl ?_
  exact qc_ret e1 hK9 hw9
theorem k_runScript {t : mN} {n c : Nat} {S : mS} {D : List mC} {sl : Nat → Option mC} {n9 : Int32} {s : Int64} : (g_runScript ((t, n), (c, S), D, sl) n9 s).1 ≤ 1 ∧ ((g_runScript ((t, n), (c, S), D, sl) n9 s).1 ≠ 0 → (g_runScript ((t, n), (c, S), D, sl) n9 s).2.2 = ((t, n), (c, S), D, sl)) := by
  dsimp only [g_runScript]
  (repeat' split) <;> first | exact ⟨Nat.le_of_ble_eq_true rfl, fun _ => rfl⟩ | exact ⟨Nat.zero_le _, fun q => absurd rfl q⟩

set_option maxHeartbeats 4000000 in
set_option maxRecDepth 100000 in
theorem c_L_doScript {σ : vS} {v : vV} {c b n : Nat} {S : mS} {t : mN} {D : List mC} {sl : Nat → Option mC} {n9 : Int32} {s : Int64} (hT : kLT σ b) (hK : KT v b ((t, n), (c, S), D, sl)) {B : Nat} (hG : GI B ((t, n), (c, S), D, sl)) (hB : B + 6000000 < 1000000000) (hf : σ.2.2.2 = false) : vCG M_L_doScript [(0, 6, 7, 16)] yL_doScript [.ref (b), .int (n9), .long (s)] (σ, v) (qC σ v b (gP [eIA] (g_runScript ((t, n), (c, S), D, sl) n9 s))) := by
  obtain ⟨hk1, hk0⟩ := k_runScript (t := t) (n := n) (c := c) (S := S) (D := D) (sl := sl) (n9 := n9) (s := s)
  refine vCG_of (ls := [some (.ref (b)), some (.int (n9)), some (.long (s)), none, none]) pn_L rfl rfl (Nat.le_of_ble_eq_true rfl) rfl ?_
  refine G_aload_n dL_doScript_0 rfl rfl ?_
  refine G_iload_n dL_doScript_1 rfl rfl ?_
  refine G_lload_n dL_doScript_2 rfl rfl ?_
  refine G_callVC (hh := [(0, 6, 7, 16)]) (rest := []) (As := [.int (n9), .long (s)]) dL_doScript_3 lL_19 yk_X6_runScript yv_X6_runScript kX6 rfl (by decide) hT.o rfl rfl (Nat.le_of_ble_eq_true rfl) (by decide) (c_X6_runScript hT hK hG hB hf) (fun o9 μ9 h9 hf9 => by obtain ⟨-, -, v9, rfl, -⟩ := h9; exact absurd (hf.symm.trans hf9) Bool.false_ne_true) (fun Ex μ9 h9 => ?_) ?_
  · obtain ⟨hne, rfl, rfl⟩ := h9
    refine ⟨fun q9 => absurd (hf.symm.trans q9) Bool.false_ne_true, ?_⟩
    have er : (g_runScript ((t, n), (c, S), D, sl) n9 s).1 = 1 := by omega
    refine ⟨7, ⟨[], ⟨0, 6, 7, 16⟩, [], "java/lang/IllegalArgumentException", rfl, fun z hz => ?_, by decide, by decide, nL_16, ?_, rfl⟩, fun q9 => ?_⟩
    · exact absurd hz List.not_mem_nil
    · rw [er]; exact wc_16
    · refine G_astore (ls2 := [some (.ref (b)), some (.int (n9)), some (.long (s)), none, some (.ref (q9 + 1000000))]) dL_doScript_7 (by decide) rfl ?_
      refine G_ldc dL_doScript_9 cL_18 ?_
      refine G_iret dL_doScript_11 rfl ?_
      exact qc_thr hne (by rw [er]; rfl) hk0 hK
  rintro o9 μ9 ⟨e1, rfl, v9, rfl, hK9, hw9⟩
  refine G_iret dL_doScript_6 rfl ?_
  exact qc_ret e1 hK9 hw9
theorem k_simulate {t : mN} {n c : Nat} {S : mS} {D : List mC} {sl : Nat → Option mC} {n8 : Int32} {x : Int64} : (g_simulate ((t, n), (c, S), D, sl) x n8).1 ≤ 1 ∧ ((g_simulate ((t, n), (c, S), D, sl) x n8).1 ≠ 0 → (g_simulate ((t, n), (c, S), D, sl) x n8).2.2 = ((t, n), (c, S), D, sl)) := by
  dsimp only [g_simulate]
  (repeat' split) <;> first | exact ⟨Nat.le_of_ble_eq_true rfl, fun _ => rfl⟩ | exact ⟨Nat.zero_le _, fun q => absurd rfl q⟩

set_option maxHeartbeats 4000000 in
set_option maxRecDepth 100000 in
theorem c_L_doSimulate {σ : vS} {v : vV} {c b n : Nat} {S : mS} {t : mN} {D : List mC} {sl : Nat → Option mC} {n8 : Int32} {x : Int64} (hT : kLT σ b) (hK : KT v b ((t, n), (c, S), D, sl)) {B : Nat} (hG : GI B ((t, n), (c, S), D, sl)) (hB : B + 6000000 < 1000000000) (hf : σ.2.2.2 = false) : vCG M_L_doSimulate [(0, 6, 7, 16)] yL_doSimulate [.ref (b), .long (x), .int (n8)] (σ, v) (qC σ v b (gP [eIA] (g_simulate ((t, n), (c, S), D, sl) x n8))) := by
  obtain ⟨hk1, hk0⟩ := k_simulate (t := t) (n := n) (c := c) (S := S) (D := D) (sl := sl) (x := x) (n8 := n8)
  refine vCG_of (ls := [some (.ref (b)), some (.long (x)), none, some (.int (n8)), none]) pn_L rfl rfl (Nat.le_of_ble_eq_true rfl) rfl ?_
  refine G_aload_n dL_doSimulate_0 rfl rfl ?_
  refine G_lload_n dL_doSimulate_1 rfl rfl ?_
  refine G_iload_n dL_doSimulate_2 rfl rfl ?_
  refine G_callVC (hh := [(0, 6, 7, 16)]) (rest := []) (As := [.long (x), .int (n8)]) dL_doSimulate_3 lL_23 yk_X6_simulate yv_X6_simulate kX6 rfl (by decide) hT.o rfl rfl (Nat.le_of_ble_eq_true rfl) (by decide) (c_X6_simulate hT hK hG hB hf) (fun o9 μ9 h9 hf9 => by obtain ⟨-, -, v9, rfl, -⟩ := h9; exact absurd (hf.symm.trans hf9) Bool.false_ne_true) (fun Ex μ9 h9 => ?_) ?_
  · obtain ⟨hne, rfl, rfl⟩ := h9
    refine ⟨fun q9 => absurd (hf.symm.trans q9) Bool.false_ne_true, ?_⟩
    have er : (g_simulate ((t, n), (c, S), D, sl) x n8).1 = 1 := by omega
    refine ⟨7, ⟨[], ⟨0, 6, 7, 16⟩, [], "java/lang/IllegalArgumentException", rfl, fun z hz => ?_, by decide, by decide, nL_16, ?_, rfl⟩, fun q9 => ?_⟩
    · exact absurd hz List.not_mem_nil
    · rw [er]; exact wc_16
    · refine G_astore (ls2 := [some (.ref (b)), some (.long (x)), none, some (.int (n8)), some (.ref (q9 + 1000000))]) dL_doSimulate_7 (by decide) rfl ?_
      refine G_ldc dL_doSimulate_9 cL_18 ?_
      refine G_iret dL_doSimulate_11 rfl ?_
      exact qc_thr hne (by rw [er]; rfl) hk0 hK
  rintro o9 μ9 ⟨e1, rfl, v9, rfl, hK9, hw9⟩
  refine G_iret dL_doSimulate_6 rfl ?_
  exact qc_ret e1 hK9 hw9
theorem k_save {t : mN} {n c : Nat} {S : mS} {D : List mC} {sl : Nat → Option mC} {s : Int32} : (g_save ((t, n), (c, S), D, sl) s).1 ≤ 1 ∧ ((g_save ((t, n), (c, S), D, sl) s).1 ≠ 0 → (g_save ((t, n), (c, S), D, sl) s).2.2 = ((t, n), (c, S), D, sl)) := by
  dsimp only [g_save]
  (repeat' split) <;> first | exact ⟨Nat.le_of_ble_eq_true rfl, fun _ => rfl⟩ | exact ⟨Nat.zero_le _, fun q => absurd rfl q⟩

set_option maxHeartbeats 4000000 in
set_option maxRecDepth 100000 in
theorem c_L_tryKeep {σ : vS} {v : vV} {c b n : Nat} {S : mS} {t : mN} {D : List mC} {sl : Nat → Option mC} {s : Int32} (hT : kLT σ b) (hK : KT v b ((t, n), (c, S), D, sl)) {B : Nat} (hG : GI B ((t, n), (c, S), D, sl)) (hB : B + 6000000 < 1000000000) (hf : σ.2.2.2 = false) : vCG M_L_tryKeep [(0, 5, 6, 13)] yL_tryKeep [.ref (b), .int (s)] (σ, v) (qC σ v b (gP [eIO] (g_save ((t, n), (c, S), D, sl) s))) := by
  obtain ⟨hk1, hk0⟩ := k_save (t := t) (n := n) (c := c) (S := S) (D := D) (sl := sl) (s := s)
  refine vCG_of (ls := [some (.ref (b)), some (.int (s)), none]) pn_L rfl rfl (Nat.le_of_ble_eq_true rfl) rfl ?_
  refine G_aload_n dL_tryKeep_0 rfl rfl ?_
  refine G_iload_n dL_tryKeep_1 rfl rfl ?_
  refine G_callVC (hh := [(0, 5, 6, 13)]) (rest := []) (As := [.int (s)]) dL_tryKeep_2 lL_88 yk_X6_save yv_X6_save kX6 rfl (by decide) hT.o rfl rfl (Nat.le_of_ble_eq_true rfl) (by decide) (c_X6_save hT hK hG hB hf) (fun o9 μ9 h9 hf9 => by obtain ⟨-, -, v9, rfl, -⟩ := h9; exact absurd (hf.symm.trans hf9) Bool.false_ne_true) (fun Ex μ9 h9 => ?_) ?_
  · obtain ⟨hne, rfl, rfl⟩ := h9
    refine ⟨fun q9 => absurd (hf.symm.trans q9) Bool.false_ne_true, ?_⟩
    have er : (g_save ((t, n), (c, S), D, sl) s).1 = 1 := by omega
    refine ⟨6, ⟨[], ⟨0, 5, 6, 13⟩, [], "java/lang/IndexOutOfBoundsException", rfl, fun z hz => ?_, by decide, by decide, nL_13, ?_, rfl⟩, fun q9 => ?_⟩
    · exact absurd hz List.not_mem_nil
    · rw [er]; exact wc_13
    · refine G_astore_n (ls2 := [some (.ref (b)), some (.int (s)), some (.ref (q9 + 1000000))]) dL_tryKeep_6 rfl (by decide) rfl ?_
      refine G_ldc dL_tryKeep_7 cL_15 ?_
      refine G_iret dL_tryKeep_9 rfl ?_
      exact qc_thr hne (by rw [er]; rfl) hk0 hK
  rintro o9 μ9 ⟨e1, rfl, v9, rfl, hK9, hw9⟩
  refine G_iret dL_tryKeep_5 rfl ?_
  exact qc_ret e1 hK9 hw9
theorem k_restore {t : mN} {n c : Nat} {S : mS} {D : List mC} {sl : Nat → Option mC} {s : Int32} : (g_restore ((t, n), (c, S), D, sl) s).1 ≤ 2 ∧ ((g_restore ((t, n), (c, S), D, sl) s).1 ≠ 0 → (g_restore ((t, n), (c, S), D, sl) s).2.2 = ((t, n), (c, S), D, sl)) := by
  dsimp only [g_restore]
  split
  · exact ⟨Nat.le_of_ble_eq_true rfl, fun _ => rfl⟩
  · cases sl s.toInt.toNat with
    | none => exact ⟨Nat.le_of_ble_eq_true rfl, fun _ => rfl⟩
    | some Y => exact ⟨Nat.zero_le _, fun q => absurd rfl q⟩

set_option maxHeartbeats 4000000 in
set_option maxRecDepth 100000 in
theorem c_L_tryBack {σ : vS} {v : vV} {c b n : Nat} {S : mS} {t : mN} {D : List mC} {sl : Nat → Option mC} {s : Int32} (hT : kLT σ b) (hK : KT v b ((t, n), (c, S), D, sl)) {B : Nat} (hG : GI B ((t, n), (c, S), D, sl)) (hB : B + 6000000 < 1000000000) (hf : σ.2.2.2 = false) : vCG M_L_tryBack [(0, 5, 6, 13), (0, 5, 10, 31)] yL_tryBack [.ref (b), .int (s)] (σ, v) (qC σ v b (gP [eIO, eIS] (g_restore ((t, n), (c, S), D, sl) s))) := by
  obtain ⟨hk1, hk0⟩ := k_restore (t := t) (n := n) (c := c) (S := S) (D := D) (sl := sl) (s := s)
  refine vCG_of (ls := [some (.ref (b)), some (.int (s)), none]) pn_L rfl rfl (Nat.le_of_ble_eq_true rfl) rfl ?_
  refine G_aload_n dL_tryBack_0 rfl rfl ?_
  refine G_iload_n dL_tryBack_1 rfl rfl ?_
  refine G_callVC (hh := [(0, 5, 6, 13), (0, 5, 10, 31)]) (rest := []) (As := [.int (s)]) dL_tryBack_2 lL_91 yk_X6_restore yv_X6_restore kX6 rfl (by decide) hT.o rfl rfl (Nat.le_of_ble_eq_true rfl) (by decide) (c_X6_restore hT hK hG hB hf) (fun o9 μ9 h9 hf9 => by obtain ⟨-, -, v9, rfl, -⟩ := h9; exact absurd (hf.symm.trans hf9) Bool.false_ne_true) (fun Ex μ9 h9 => ?_) ?_
  · obtain ⟨hne, rfl, rfl⟩ := h9
    refine ⟨fun q9 => absurd (hf.symm.trans q9) Bool.false_ne_true, ?_⟩
    rcases (by omega : (g_restore ((t, n), (c, S), D, sl) s).1 = 1 ∨ (g_restore ((t, n), (c, S), D, sl) s).1 = 2) with er | er
    · refine ⟨6, ⟨[], ⟨0, 5, 6, 13⟩, [⟨0, 5, 10, 31⟩], "java/lang/IndexOutOfBoundsException", rfl, fun z hz => ?_, by decide, by decide, nL_13, ?_, rfl⟩, fun q9 => ?_⟩
      · exact absurd hz List.not_mem_nil
      · rw [er]; exact wc_13
      · refine G_astore_n (ls2 := [some (.ref (b)), some (.int (s)), some (.ref (q9 + 1000000))]) dL_tryBack_6 rfl (by decide) rfl ?_
        refine G_ldc dL_tryBack_7 cL_15 ?_
        refine G_iret dL_tryBack_9 rfl ?_
        exact qc_thr hne (by rw [er]; rfl) hk0 hK
    · refine ⟨10, ⟨[⟨0, 5, 6, 13⟩], ⟨0, 5, 10, 31⟩, [], "java/lang/IllegalStateException", rfl, fun z hz => ?_, by decide, by decide, nL_31, ?_, rfl⟩, fun q9 => ?_⟩
      · simp only [List.mem_cons, List.not_mem_nil, or_false] at hz
        subst hz
        exact ⟨by decide, _, nL_13, by rw [er]; decide⟩
      · rw [er]; exact wc_31
      · refine G_astore_n (ls2 := [some (.ref (b)), some (.int (s)), some (.ref (q9 + 1000000))]) dL_tryBack_10 rfl (by decide) rfl ?_
        refine G_ldc dL_tryBack_11 cL_33 ?_
        refine G_iret dL_tryBack_13 rfl ?_
        exact qc_thr hne (by rw [er]; rfl) hk0 hK
  rintro o9 μ9 ⟨e1, rfl, v9, rfl, hK9, hw9⟩
  refine G_iret dL_tryBack_5 rfl ?_
  exact qc_ret e1 hK9 hw9
