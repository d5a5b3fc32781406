
/-! METHODS THAT CATCH: the wrappers of the law -/
abbrev ncPairs : List (String × String) := [("java/lang/IllegalStateException", "java/lang/IllegalArgumentException"), ("java/lang/IllegalArgumentException", "java/lang/IndexOutOfBoundsException"), ("java/lang/IllegalStateException", "java/lang/IndexOutOfBoundsException")]
def vNcs (s : State) : Prop := ∀ w ∈ ncPairs, va_Nc w.1 w.2 s
def kZh (hh : List (Nat × Nat × Nat × Nat)) : kZ9 := fun s _ c _ => c.exceptionTable.toList = tableOf hh ∧ vNcs s
def vPcG (D : va_G) (yc : Nat → ClassId) (hz : Nat) (As : List Value) (μ : vM) : Array Value → State → Prop := fun a U => vPc D yc hz As μ a U ∧ vNcs U
def vCG (z : vR) (hh : List (Nat × Nat × Nat × Nat)) (y : MethodName) (As : List Value) (μ : vM) (Q : Option Value → vM → Prop) : Prop := ∀ (l : Launch) (D : va_G) (yc : Nat → ClassId) (hz : Nat), l.stackTraces = false →
  vx_Met l y (Cond.codeWith y (vCC z) (vNL z) (vRt z) hh :: aw) (vRm z) (vPcG D yc hz As μ) (vQr D yc hz (vN Q)) (vQt D yc hz (vN Q)) (vRm z).cells (vRm z).slots (fun q => hz ≤ q)
theorem vCG_of {z : vR} {hh : List (Nat × Nat × Nat × Nat)} {y : MethodName} {As : List Value} {μ : vM} {Q : Option Value → vM → Prop} {ls : List (Option Value)} (hy : plainName y.cls = true) (hcls : y.cls = vOwn z) (hnm : y.name = vNm z) (hlen : (vargs0 As).length ≤ vNL z) (hls : vargs (vNL z) As = ls) (h : vG (kZh hh) z 0 ls [] ((vRm z).cells, (vRm z).slots) μ (vN Q)) : vCG z hh y As μ Q := by
  intro l D yc hz hl
  refine vx_ofWH (cc := vCC z) (maxL := vNL z) (ret := vRt z) (hh := hh) hy rfl ?_
  intro p e s m args below meth c s₁ B hml hv
  have X := vX_body hcls hnm B hml hl hv.1
  have hnc := hv.2
  have htab := vx_table (x := y) B (atoms_spec (ws := Cond.codeWith y (vCC z) (vNL z) (vRt z) hh :: aw) B.pre _ List.mem_cons_self)
  obtain ⟨⟨rfl, hH, hK, hz1, hT, hal⟩, -⟩ := hv
  rw [lg_entry_eq]
  subst hls
  exact h p l e s m _ below meth c D yc hz _ X ⟨fun o pc lsA μ H locs cells slots ho hq hH hS h1 h2 => vx_ret (vEnd_ret X o pc lsA μ H locs cells slots ho hq hH hS h1 h2), fun Ex _ _ _ _ _ μ _ _ _ _ q => absurd q id, Or.inr (fun _ _ q => q)⟩ ⟨htab, hnc⟩ s.heap [] 0 0 _ (vargs_L hlen) hH va_S.rf (by simp) (by simp) (fun q => hal q)
theorem vph_ex {hz q : Nat} : vph hz (.ref (q + 1000000)) = .ref q := by
  show Value.ref (if q + 1000000 < 1000000 then hz + (q + 1000000) else q + 1000000 - 1000000) = .ref q
  rw [if_neg (by omega), Nat.add_sub_cancel]
/-- what a throw finds here: a handler that takes it -/
def vHd (M : vR) (hh : List (Nat × Nat × Nat × Nat)) (pc : Nat) (Ex : String) (hpc : Nat) : Prop := ∃ (pre : List ExceptionTableEntry) (x : ExceptionTableEntry) (suf : List ExceptionTableEntry) (nm : String), tableOf hh = pre ++ x :: suf ∧ (∀ z ∈ pre, z.catchType ≠ 0 ∧ ∃ nm9 : String, Cond.classLink (vOwn M) z.catchType nm9 ∈ aw ∧ (Ex, nm9) ∈ ncPairs) ∧ covers x pc = true ∧ x.catchType ≠ 0 ∧ Cond.classLink (vOwn M) x.catchType nm ∈ aw ∧ Cond.castable Ex nm ∈ tables_1 ∧ x.handlerPc = hpc
theorem vrunC_x {M z : vR} {hh : List (Nat × Nat × Nat × Nat)} {pc : Nat} {ls : List (Option Value)} {st rest : List Value} {b : Nat × Nat} {μ : vM} {Q Qc : vO → vM → Prop} {a : Array Value} (hb : (vRm z).cells ≤ b.1 ∧ (vRm z).slots ≤ b.2) (hal : ∀ o μ', Qc (.inl o) μ' → μ'.1.2.2.2 = true → μ.1.2.2.2 = true ∧ μ'.1.1 = μ.1.1 + (vRm z).cells)
    (kx : ∀ (Ex : String) (μ' : vM), Qc (.inr Ex) μ' → ¬ μ'.1.2.2.2 = true ∧ ∃ hpc, vHd M hh pc Ex hpc ∧ ∀ q : Nat, vG (kZh hh) M hpc ls [.ref (q + 1000000)] (b.1 - (vRm z).cells, b.2 - (vRm z).slots) μ' Q)
    (k : ∀ (o : Option Value) (μ' : vM), Qc (.inl o) μ' → vG (kZh hh) M (pc + 3) ls (o.toList ++ rest) (b.1 - (vRm z).cells, b.2 - (vRm z).slots) μ' Q)
    {p : Program} {l : Launch} {e : Env} {s : State} {m : MethodId} {args : Array Value} {below : List Frame} {meth : Method} {c : Code} {D : va_G} {yc : Nat → ClassId} {hz : Nat} {Qs : State → Prop} (X : vX M p l e s m args below meth c D yc hz) (E : vEnd M p l e s m args below meth c D yc hz Q Qs) (G9 : kZh hh s args c hz) {H : Heap} {locs : List Loc} {cells slots : Nat} {lsA : Array Slot} (hL : vL lsA (vNL M) hz ls) (hS : va_S (fun q => hz ≤ q) s.heap H locs) (h1 : cells + b.1 ≤ (vRm M).cells) (h2 : slots + b.2 ≤ (vRm M).slots) (h3 : μ.1.2.2.2 = true → hz + μ.1.1 = s.heap.size + cells)
    (hr : vx_Run p l e (vRm M) s m args below meth c H locs cells slots (vRm z).cells (vRm z).slots (F0 m pc lsA st) (rest.map (vph hz)) (vQr D yc hz Qc a) (vQt D yc hz Qc) (fun q => hz ≤ q)) : W p l e (vRm M) s m args below meth c H locs cells slots Qs (F0 m pc lsA st) := by
  intro T hT S
  rcases hr T hT S with ⟨v, st₀, t, T', L, h0, S', hL', e1, e2, ⟨⟨o, μ', hv, hp, hh9⟩, hz9, hk9⟩, st9⟩ | ⟨q, st₀, t, T', L, Ex, ce, h0, S', hL', e1, e2, ⟨⟨μ', hp, hh9⟩, hz9, hk9⟩, hce, hcv, hcl, st9⟩
  · cases hv
    rw [h0] at hz9 hk9
    obtain ⟨t2, a1, b1⟩ := k o μ' hp p l e s m args below meth c D yc hz Qs X E G9 T'.heap (locs ++ L) (cells + (vRm z).cells) (slots + (vRm z).slots) lsA hL (by rw [e1]; exact hh9)
      ⟨Nat.le_trans hS.1 (by rw [e1]; exact hz9), fun q g1 g2 => by rw [e1, hk9 q (Nat.lt_of_lt_of_le g1 hS.1) g2]; exact hS.2.1 q g1 g2, fun q hq => by
        rcases List.mem_append.mp hq with h | h
        · exact hS.2.2 q h
        · exact hL' q h⟩ (by have := hb.1; show cells + (vRm z).cells + (b.1 - (vRm z).cells) ≤ _; omega) (by have := hb.2; show slots + (vRm z).slots + (b.2 - (vRm z).slots) ≤ _; omega) (fun q => by obtain ⟨g1, g2⟩ := hal o μ' hp q; have := h3 g1; omega) T' rfl S'
    refine ⟨t2, st9 t2 ?_, b1⟩
    rw [show (Option.map (vph hz) o).toList ++ List.map (vph hz) rest = List.map (vph hz) (o.toList ++ rest) by cases o <;> rfl]
    exact a1
  · rw [h0] at hz9 hk9
    obtain ⟨hnf, hpc, ⟨pre, x, suf, nm, g1, g2, g3, g4, g5, g6, rfl⟩, kq⟩ := kx Ex μ' hp
    have K9 := kq q p l e s m args below meth c D yc hz Qs X E G9 T'.heap (locs ++ L) (cells + (vRm z).cells) (slots + (vRm z).slots) lsA hL (by rw [e1]; exact hh9)
      ⟨Nat.le_trans hS.1 (by rw [e1]; exact hz9), fun q g1 g2 => by rw [e1, hk9 q (Nat.lt_of_lt_of_le g1 hS.1) g2]; exact hS.2.1 q g1 g2, fun q hq => by
        rcases List.mem_append.mp hq with h | h
        · exact hS.2.2 q h
        · exact hL' q h⟩ (by have := hb.1; show cells + (vRm z).cells + (b.1 - (vRm z).cells) ≤ _; omega) (by have := hb.2; show slots + (vRm z).slots + (b.2 - (vRm z).slots) ≤ _; omega) (fun g => absurd g hnf)
    rw [List.map_cons, List.map_nil, vph_ex] at K9
    obtain ⟨t2, a1, b1⟩ := vx_catch (own := vOwn M) (name := nm) (E := Ex) (ce := ce) (q := q) X.2.2.2.1 pre x suf (G9.1.trans g1) (fun z hz => by
      obtain ⟨i1, nm9, i2, i3⟩ := g2 z hz
      exact Or.inr ⟨i1, nm9, X.2.2.2.2.1 _ i2, G9.2 _ i3⟩) g3 g4 (X.2.2.2.2.1 _ g5) (va_Nw.use rfl (X.2.2.2.2.2.2.2.2.2.2.1.2.2.2 _ g6 rfl)) (by rw [e1]; exact hce) hcv hcl K9 T' rfl S'
    exact ⟨t2, st9.trans a1, b1⟩
/-- a call that may throw, in a method whose table takes what is thrown -/
theorem G_callVC {M z : vR} {hh : List (Nat × Nat × Nat × Nat)} {y : MethodName} {idx pc ci ln n np : Nat} {ls : List (Option Value)} {st rest As : List Value} {b : Nat × Nat} {μ : vM} {Q Qc : vO → vM → Prop} {q : vw_C} (hd : decode (vCC M) pc = .ok (.invokevirtual idx, 3)) (hl : Cond.methodLink (vOwn M) idx y ∈ aw) (hy : vY z y np) (hv : vYV y) (hq : vCk ci q) (hyc : y.cls = q.1) (hR : (vRm z).frames + 1 ≤ (vRm M).frames ∧ 8 + (vNL z + 11) + (vRm z).locals ≤ (vRm M).locals) (hn : vK μ.1 n ci ln) (hst : st = As.reverse ++ .ref n :: rest) (hnp : As.length = np) (hcat : (rest.map fun v => v.category).sum ≤ 8) (hb : (vRm z).cells ≤ b.1 ∧ (vRm z).slots ≤ b.2)
    (hc : vCX z y (.ref n :: As) μ Qc) (hal : ∀ o μ', Qc (.inl o) μ' → μ'.1.2.2.2 = true → μ.1.2.2.2 = true ∧ μ'.1.1 = μ.1.1 + (vRm z).cells)
    (kx : ∀ (Ex : String) (μ' : vM), Qc (.inr Ex) μ' → ¬ μ'.1.2.2.2 = true ∧ ∃ hpc, vHd M hh pc Ex hpc ∧ ∀ q : Nat, vG (kZh hh) M hpc ls [.ref (q + 1000000)] (b.1 - (vRm z).cells, b.2 - (vRm z).slots) μ' Q)
    (k : ∀ (o : Option Value) (μ' : vM), Qc (.inl o) μ' → vG (kZh hh) M (pc + 3) ls (o.toList ++ rest) (b.1 - (vRm z).cells, b.2 - (vRm z).slots) μ' Q) : vG (kZh hh) M pc ls st b μ Q := by
  intro p l e s m args below meth c D yc hz Qs X E G9 H locs cells slots lsA hL hH hS h1 h2 h3
  subst hst
  intro T hT S
  have hal9 : μ.1.2.2.2 = true → hz + μ.1.1 = H.size := fun g => by have := vsize S (by rw [hT]; exact hH) (by rw [hT]; exact hS) X.2.2.2.2.2.2.1 (h3 g); rw [hT] at this; omega
  have hG : GoodIn (Cond.code y (vCC z) (vNL z) (vRt z) :: aw) (Cond.code y (vCC z) (vNL z) (vRt z) :: aw) := aw_sub0 hy.1
  have hts : ∀ w ∈ Cond.code y (vCC z) (vNL z) (vRt z) :: aw, w.before args s = true := fun w h => (List.mem_cons.mp h).elim (fun g => by rw [g]; exact X.2.2.2.2.1 _ hy.1) (X.2.2.2.2.1 w)
  refine vrunC_x (st := (As.reverse ++ .ref n :: rest).map (vph hz)) hb hal kx k X E G9 hL hS h1 h2 h3 (vx_runV (own := vOwn M) (cc := vCC M) (nL := vNL M) (Ts := aw) (C := y.cls) (b := hz + n) (As := As.map (vph hz)) (rest := rest.map (vph hz)) (n := np) ⟨X.1, X.2.1, X.2.2.1, X.2.2.2.1, X.2.2.2.2.1⟩ (hc l D yc hz X.2.2.2.2.2.2.2.1)
    ⟨callB_of (Ts := Cond.code y (vCC z) (vNL z) (vRt z) :: aw) np hts hG rfl rfl rfl (X.2.2.2.2.1 _ hy.2.1) (X.2.2.2.2.1 _ hl) hy.2.2 hR, X.2.2.2.2.1 _ hv.1, X.2.2.2.2.1 _ hv.2⟩
    ⟨vPc_blind, by rw [hyc]; exact va_recv X.2.2.2.2.2.1 hH hq.1 ((vW_get hn.1.1).trans (by rw [vE_o hn hq.2.2.1])), fun U hU hW => by
      have := vPc_at (As := .ref n :: As) hH X.2.2.2.2.2.1 hS X.2.2.2.2.2.2.1 X.2.2.2.2.2.2.2.2.2.2.1 hal9 hU hW
      rw [List.map_cons, vph_ref hn.1.2] at this
      exact this⟩ rfl (by rw [List.length_map]; exact hnp) (hL.1) (by rw [vmap_rev, List.map_cons, vph_ref hn.1.2]) (lv_room (by rw [vcat_sum]; exact hcat)) hd ⟨by have := hb.1; omega, by have := hb.2; omega⟩) T hT S
