
/-! THROWS: a new exception that leaves its method; calls of methods that may throw -/
abbrev nmE : List String := ["java/lang/RuntimeException", "java/lang/Exception"]
/-- a word that a start has, of either sort -/
def vWd (w : Cond) : Bool := (goodWord w && decide (w ∈ lw_tbl)) || ((vnk w && w.onTables) && decide (w ∈ tables_1))
theorem vWd_ok {w : Cond} {hz : Nat} {s : State} {args : Array Value} (h : vWd w = true) (h1 : ∀ w ∈ aw, w.before args s = true) (h2 : vTh hz s) : w.before args s = true := by
  rcases Bool.or_eq_true_iff.mp h with g | g
  · obtain ⟨a, b⟩ := Bool.and_eq_true_iff.mp g
    exact h1 w (List.mem_filter.mpr ⟨of_decide_eq_true b, a⟩)
  · obtain ⟨a, b⟩ := Bool.and_eq_true_iff.mp g
    obtain ⟨a1, a2⟩ := Bool.and_eq_true_iff.mp a
    exact va_Nw.use a2 (h2.2.2.2 w (of_decide_eq_true b) a1)
/-- what the words say of an exception's class -/
def vEx (cls : String) (ik ic : Nat) : Prop := Bundle.fit cls = true ∧ (∀ w ∈ vx_atS RX6 ic cls nmE, vWd w = true) ∧ vWd (Cond.classLink RX6 ik cls) = true ∧ vWd (Cond.initialized cls) = true ∧ ∀ w ∈ Cond.classLink RX6 ik cls :: Cond.initialized cls :: vx_atS RX6 ic cls nmE, vx_ot w = true
theorem vExA : vEx "java/lang/IllegalArgumentException" 44 48 := ⟨by decide +kernel, by decide +kernel, by decide +kernel, by decide +kernel, by decide +kernel⟩
theorem vExS : vEx "java/lang/IllegalStateException" 55 59 := ⟨by decide +kernel, by decide +kernel, by decide +kernel, by decide +kernel, by decide +kernel⟩
theorem vExO : vEx "java/lang/IndexOutOfBoundsException" 174 178 := ⟨by decide +kernel, by decide +kernel, by decide +kernel, by decide +kernel, by decide +kernel⟩
theorem nmE_fit : ∀ n ∈ nmE, Bundle.fit n = true := by decide +kernel
theorem P_throw {M : vR} {pc ik is ic : Nat} {ls : List (Option Value)} {st : List Value} {b : Nat × Nat} {μ : vM} {Q : vO → vM → Prop} {cls text : String} (hE : vEx cls ik ic) (how : vOwn M = RX6) (hstr : (is, text) ∈ vStr) (d0 : decode (vCC M) pc = .ok (.new ik, 3)) (d3 : decode (vCC M) (pc + 3) = .ok (.dup, 1)) (d4 : decode (vCC M) (pc + 4) = .ok (.ldc is, 2)) (d6 : decode (vCC M) (pc + 6) = .ok (.invokespecial ic, 3)) (d9 : decode (vCC M) (pc + 9) = .ok (.athrow, 1)) (hR : 6 ≤ (vRm M).frames ∧ (st.map fun v => v.category).sum + 82 ≤ (vRm M).locals) (hb : 1 ≤ b.1 ∧ 6 ≤ b.2) (hq : Q (.inr cls) μ) : vP M pc ls st b μ Q := by
  intro p l e s m args below meth c D yc hz Qs X E H locs cells slots lsA hL hH hS h1 h2 h3
  obtain ⟨e1, e2, e3, e4, e5⟩ := hE
  obtain ⟨sa, hsa⟩ := X.2.2.2.2.2.2.2.2.2.2.1.2.2.1 _ hstr
  have hT := X.2.2.2.2.2.2.2.2.2.2.1
  have hw := X.2.2.2.2.1
  rcases E.2.2 with ⟨hQs, htab⟩ | hno
  · subst hQs
    refine vx_throwS (A := fun q => hz ≤ q) (own := RX6) (names := nmE) (cls := cls) (text := text) (sa := sa) X.1 X.2.1 X.2.2.2.2.2.2.2.1 (by rw [← how]; exact X.2.2.2.1) e1 nmE_fit (vWd_ok e3 hw hT) (vWd_ok e4 hw hT) hsa (fun w h => vWd_ok (e2 w h) hw hT) e5 hT.1 hT.2.1 hS (hL.1.trans X.2.2.1.symm) d0 d3 d4 d6 d9 (fun x hx => (htab x hx).elim) (by have := hR.1; show 5 < _; omega) ?_ (by have := hb.1; omega) (by have := hb.2; omega) X.2.2.2.2.2.2.2.2.2.1 (fun t hA hsz hk => ⟨⟨μ, hq, ?_⟩, ?_⟩) hS.2.2 (by have := hb.1; omega) (by have := hb.2; omega)
    · rw [vcat_sum]
      exact hR.2
    · exact va_P.kept hH (fun k x hx => hk x.1 (hH k x hx).lt)
    · exact ⟨Nat.le_trans hS.1 hsz, fun q g1 g2 => (hk q (Nat.lt_of_lt_of_le g1 hS.1)).trans (hS.2.1 q g1 g2)⟩
  · exact absurd hq (hno cls μ)
theorem P_throwW {M : vR} {pc ik is ic : Nat} {ls : List (Option Value)} {st : List Value} {b : Nat × Nat} {μ : vM} {Q : vO → vM → Prop} {cls text : String} (hE : vEx cls ik ic) (how : vOwn M = RX6) (hstr : (is, text) ∈ vStr) (d0 : decode (vCC M) pc = .ok (.new ik, 3)) (d3 : decode (vCC M) (pc + 3) = .ok (.dup, 1)) (d4 : decode (vCC M) (pc + 4) = .ok (.ldc_w is, 3)) (d6 : decode (vCC M) (pc + 7) = .ok (.invokespecial ic, 3)) (d9 : decode (vCC M) (pc + 10) = .ok (.athrow, 1)) (hR : 6 ≤ (vRm M).frames ∧ (st.map fun v => v.category).sum + 82 ≤ (vRm M).locals) (hb : 1 ≤ b.1 ∧ 6 ≤ b.2) (hq : Q (.inr cls) μ) : vP M pc ls st b μ Q := by
  intro p l e s m args below meth c D yc hz Qs X E H locs cells slots lsA hL hH hS h1 h2 h3
  obtain ⟨e1, e2, e3, e4, e5⟩ := hE
  obtain ⟨sa, hsa⟩ := X.2.2.2.2.2.2.2.2.2.2.1.2.2.1 _ hstr
  have hT := X.2.2.2.2.2.2.2.2.2.2.1
  have hw := X.2.2.2.2.1
  rcases E.2.2 with ⟨hQs, htab⟩ | hno
  · subst hQs
    refine vx_throwSW (A := fun q => hz ≤ q) (own := RX6) (names := nmE) (cls := cls) (text := text) (sa := sa) X.1 X.2.1 X.2.2.2.2.2.2.2.1 (by rw [← how]; exact X.2.2.2.1) e1 nmE_fit (vWd_ok e3 hw hT) (vWd_ok e4 hw hT) hsa (fun w h => vWd_ok (e2 w h) hw hT) e5 hT.1 hT.2.1 hS (hL.1.trans X.2.2.1.symm) d0 d3 d4 d6 d9 (fun x hx => (htab x hx).elim) (by have := hR.1; show 5 < _; omega) ?_ (by have := hb.1; omega) (by have := hb.2; omega) X.2.2.2.2.2.2.2.2.2.1 (fun t hA hsz hk => ⟨⟨μ, hq, ?_⟩, ?_⟩) hS.2.2 (by have := hb.1; omega) (by have := hb.2; omega)
    · rw [vcat_sum]
      exact hR.2
    · exact va_P.kept hH (fun k x hx => hk x.1 (hH k x hx).lt)
    · exact ⟨Nat.le_trans hS.1 hsz, fun q g1 g2 => (hk q (Nat.lt_of_lt_of_le g1 hS.1)).trans (hS.2.1 q g1 g2)⟩
  · exact absurd hq (hno cls μ)
/-- a body that may throw gives its contract -/
theorem vCX_of {z : vR} {y : MethodName} {As : List Value} {μ : vM} {Q : vO → vM → Prop} {ls : List (Option Value)} (hy : plainName y.cls = true) (hcls : y.cls = vOwn z) (hnm : y.name = vNm z) (hlen : (vargs0 As).length ≤ vNL z) (hls : vargs (vNL z) As = ls) (h : vP z 0 ls [] ((vRm z).cells, (vRm z).slots) μ Q) : vCX z y As μ Q := by
  intro l D yc hz hl
  refine vx_ofW (cc := vCC z) (maxL := vNL z) (ret := vRt z) hy rfl ?_
  intro p e s m args below meth c s₁ B hml htab hv
  have X := vX_body hcls hnm B hml hl hv
  obtain ⟨rfl, hH, hK, hz1, hT, hal⟩ := hv
  rw [lg_entry_eq]
  subst hls
  exact h p l e s m _ below meth c D yc hz _ X ⟨fun o pc lsA μ H locs cells slots ho hq hH hS h1 h2 => vx_ret (vEnd_ret X o pc lsA μ H locs cells slots ho hq hH hS h1 h2), fun Ex q ce pc lsA st μ H locs cells slots hq hH hS h1 h2 hcell hv hcl => vx_widen h1 h2 (vx_out (fun x hx => (htab x hx).elim) X.2.2.2.2.2.2.2.2.2.1 hcell hv hcl (fun t ht hA => ⟨⟨μ, hq, by rw [ht]; exact hH⟩, hS.F ht⟩) hS.2.2 (Nat.le_refl _) (Nat.le_refl _)), Or.inl ⟨rfl, htab⟩⟩ s.heap [] 0 0 _ (vargs_L hlen) hH va_S.rf (by simp) (by simp) (fun q => hal q)
/-- behind a call that returns or throws; what is thrown leaves this method too -/
theorem vrun_x {M z : vR} {pc : Nat} {ls : List (Option Value)} {st rest : List Value} {b : Nat × Nat} {μ : vM} {Q Qc : vO → vM → Prop} {a : Array Value} (hb : (vRm z).cells ≤ b.1 ∧ (vRm z).slots ≤ b.2) (hal : ∀ o μ', Qc (.inl o) μ' → μ'.1.2.2.2 = true → μ.1.2.2.2 = true ∧ μ'.1.1 = μ.1.1 + (vRm z).cells)
    (kx : ∀ (Ex : String) (μ' : vM), Qc (.inr Ex) μ' → Q (.inr Ex) μ')
    (k : ∀ (o : Option Value) (μ' : vM), Qc (.inl o) μ' → vP M (pc + 3) ls (o.toList ++ rest) (b.1 - (vRm z).cells, b.2 - (vRm z).slots) μ' Q)
    {p : Program} {l : Launch} {e : Env} {s : State} {m : MethodId} {args : Array Value} {below : List Frame} {meth : Method} {c : Code} {D : va_G} {yc : Nat → ClassId} {hz : Nat} {Qs : State → Prop} (X : vX M p l e s m args below meth c D yc hz) (E : vEnd M p l e s m args below meth c D yc hz Q Qs) {H : Heap} {locs : List Loc} {cells slots : Nat} {lsA : Array Slot} (hL : vL lsA (vNL M) hz ls) (hS : va_S (fun q => hz ≤ q) s.heap H locs) (h1 : cells + b.1 ≤ (vRm M).cells) (h2 : slots + b.2 ≤ (vRm M).slots) (h3 : μ.1.2.2.2 = true → hz + μ.1.1 = s.heap.size + cells)
    (hr : vx_Run p l e (vRm M) s m args below meth c H locs cells slots (vRm z).cells (vRm z).slots (F0 m pc lsA st) (rest.map (vph hz)) (vQr D yc hz Qc a) (vQt D yc hz Qc) (fun q => hz ≤ q)) : W p l e (vRm M) s m args below meth c H locs cells slots Qs (F0 m pc lsA st) := by
  intro T hT S
  rcases hr T hT S with ⟨v, st₀, t, T', L, h0, S', hL', e1, e2, ⟨⟨o, μ', hv, hp, hh⟩, hz9, hk9⟩, st9⟩ | ⟨q, st₀, t, T', L, Ex, ce, h0, S', hL', e1, e2, ⟨⟨μ', hp, hh⟩, hz9, hk9⟩, hce, hcv, hcl, st9⟩
  · cases hv
    rw [h0] at hz9 hk9
    obtain ⟨t2, a1, b1⟩ := k o μ' hp p l e s m args below meth c D yc hz Qs X E T'.heap (locs ++ L) (cells + (vRm z).cells) (slots + (vRm z).slots) lsA hL (by rw [e1]; exact hh)
      ⟨Nat.le_trans hS.1 (by rw [e1]; exact hz9), fun q g1 g2 => by rw [e1, hk9 q (Nat.lt_of_lt_of_le g1 hS.1) g2]; exact hS.2.1 q g1 g2, fun q hq => by
        rcases List.mem_append.mp hq with h | h
        · exact hS.2.2 q h
        · exact hL' q h⟩ (by have := hb.1; show cells + (vRm z).cells + (b.1 - (vRm z).cells) ≤ _; omega) (by have := hb.2; show slots + (vRm z).slots + (b.2 - (vRm z).slots) ≤ _; omega) (fun q => by obtain ⟨g1, g2⟩ := hal o μ' hp q; have := h3 g1; omega) T' rfl S'
    refine ⟨t2, st9 t2 ?_, b1⟩
    rw [show (Option.map (vph hz) o).toList ++ List.map (vph hz) rest = List.map (vph hz) (o.toList ++ rest) by cases o <;> rfl]
    exact a1
  · rw [h0] at hz9 hk9
    obtain ⟨t2, a1, b1⟩ := E.2.1 Ex q ce pc lsA (rest.map (vph hz)) μ' T'.heap (locs ++ L) (cells + (vRm z).cells) (slots + (vRm z).slots) (kx Ex μ' hp) (by rw [e1]; exact hh)
      ⟨Nat.le_trans hS.1 (by rw [e1]; exact hz9), fun q g1 g2 => by rw [e1, hk9 q (Nat.lt_of_lt_of_le g1 hS.1) g2]; exact hS.2.1 q g1 g2, fun q hq => by
        rcases List.mem_append.mp hq with h | h
        · exact hS.2.2 q h
        · exact hL' q h⟩ (by have := hb.1; omega) (by have := hb.2; omega) (by rw [e1]; exact hce) hcv hcl T' rfl S'
    exact ⟨t2, st9.trans a1, b1⟩
theorem P_callVX {M z : vR} {y : MethodName} {idx pc ci ln n np : Nat} {ls : List (Option Value)} {st rest As : List Value} {b : Nat × Nat} {μ : vM} {Q Qc : vO → vM → Prop} {q : vw_C} (hd : decode (vCC M) pc = .ok (.invokevirtual idx, 3)) (hl : Cond.methodLink (vOwn M) idx y ∈ aw) (hy : vY z y np) (hv : vYV y) (hq : vCk ci q) (hyc : y.cls = q.1) (hR : (vRm z).frames + 1 ≤ (vRm M).frames ∧ 8 + (vNL z + 11) + (vRm z).locals ≤ (vRm M).locals) (hn : vK μ.1 n ci ln) (hst : st = As.reverse ++ .ref n :: rest) (hnp : As.length = np) (hcat : (rest.map fun v => v.category).sum ≤ 8) (hb : (vRm z).cells ≤ b.1 ∧ (vRm z).slots ≤ b.2)
    (hc : vCX z y (.ref n :: As) μ Qc) (hal : ∀ o μ', Qc (.inl o) μ' → μ'.1.2.2.2 = true → μ.1.2.2.2 = true ∧ μ'.1.1 = μ.1.1 + (vRm z).cells) (kx : ∀ (Ex : String) (μ' : vM), Qc (.inr Ex) μ' → Q (.inr Ex) μ') (k : ∀ (o : Option Value) (μ' : vM), Qc (.inl o) μ' → vP M (pc + 3) ls (o.toList ++ rest) (b.1 - (vRm z).cells, b.2 - (vRm z).slots) μ' Q) : vP M pc ls st b μ Q := by
  intro p l e s m args below meth c D yc hz Qs X E H locs cells slots lsA hL hH hS h1 h2 h3
  subst hst
  intro T hT S
  have hal9 : μ.1.2.2.2 = true → hz + μ.1.1 = H.size := fun g => by have := vsize S (by rw [hT]; exact hH) (by rw [hT]; exact hS) X.2.2.2.2.2.2.1 (h3 g); rw [hT] at this; omega
  have hG : GoodIn (Cond.code y (vCC z) (vNL z) (vRt z) :: aw) (Cond.code y (vCC z) (vNL z) (vRt z) :: aw) := aw_sub0 hy.1
  have hts : ∀ w ∈ Cond.code y (vCC z) (vNL z) (vRt z) :: aw, w.before args s = true := fun w h => (List.mem_cons.mp h).elim (fun g => by rw [g]; exact X.2.2.2.2.1 _ hy.1) (X.2.2.2.2.1 w)
  refine vrun_x (st := (As.reverse ++ .ref n :: rest).map (vph hz)) hb hal kx k X E hL hS h1 h2 h3 (vx_runV (own := vOwn M) (cc := vCC M) (nL := vNL M) (Ts := aw) (C := y.cls) (b := hz + n) (As := As.map (vph hz)) (rest := rest.map (vph hz)) (n := np) ⟨X.1, X.2.1, X.2.2.1, X.2.2.2.1, X.2.2.2.2.1⟩ (hc l D yc hz X.2.2.2.2.2.2.2.1)
    ⟨callB_of (Ts := Cond.code y (vCC z) (vNL z) (vRt z) :: aw) np hts hG rfl rfl rfl (X.2.2.2.2.1 _ hy.2.1) (X.2.2.2.2.1 _ hl) hy.2.2 hR, X.2.2.2.2.1 _ hv.1, X.2.2.2.2.1 _ hv.2⟩
    ⟨vPc_blind, by rw [hyc]; exact va_recv X.2.2.2.2.2.1 hH hq.1 ((vW_get hn.1.1).trans (by rw [vE_o hn hq.2.2.1])), fun U hU hW => by
      have := vPc_at (As := .ref n :: As) hH X.2.2.2.2.2.1 hS X.2.2.2.2.2.2.1 X.2.2.2.2.2.2.2.2.2.2.1 hal9 hU hW
      rw [List.map_cons, vph_ref hn.1.2] at this
      exact this⟩ rfl (by rw [List.length_map]; exact hnp) (hL.1) (by rw [vmap_rev, List.map_cons, vph_ref hn.1.2]) (lv_room (by rw [vcat_sum]; exact hcat)) hd ⟨by have := hb.1; omega, by have := hb.2; omega⟩) T hT S
theorem P_callSX {M z : vR} {y : MethodName} {idx pc np : Nat} {ls : List (Option Value)} {st rest As : List Value} {b : Nat × Nat} {μ : vM} {Q Qc : vO → vM → Prop} (hd : decode (vCC M) pc = .ok (.invokestatic idx, 3)) (hl : Cond.methodLink (vOwn M) idx y ∈ aw) (hy : vY z y np) (hv : Cond.static y ∈ aw) (hR : (vRm z).frames + 1 ≤ (vRm M).frames ∧ 8 + (vNL z + 11) + (vRm z).locals ≤ (vRm M).locals) (hst : st = As.reverse ++ rest) (hnp : As.length = np) (hcat : (rest.map fun v => v.category).sum ≤ 8) (hb : (vRm z).cells ≤ b.1 ∧ (vRm z).slots ≤ b.2)
    (hc : vCX z y As μ Qc) (hal : ∀ o μ', Qc (.inl o) μ' → μ'.1.2.2.2 = true → μ.1.2.2.2 = true ∧ μ'.1.1 = μ.1.1 + (vRm z).cells) (kx : ∀ (Ex : String) (μ' : vM), Qc (.inr Ex) μ' → Q (.inr Ex) μ') (k : ∀ (o : Option Value) (μ' : vM), Qc (.inl o) μ' → vP M (pc + 3) ls (o.toList ++ rest) (b.1 - (vRm z).cells, b.2 - (vRm z).slots) μ' Q) : vP M pc ls st b μ Q := by
  intro p l e s m args below meth c D yc hz Qs X E H locs cells slots lsA hL hH hS h1 h2 h3
  subst hst
  intro T hT S
  have hal9 : μ.1.2.2.2 = true → hz + μ.1.1 = H.size := fun g => by have := vsize S (by rw [hT]; exact hH) (by rw [hT]; exact hS) X.2.2.2.2.2.2.1 (h3 g); rw [hT] at this; omega
  have hG : GoodIn (Cond.code y (vCC z) (vNL z) (vRt z) :: aw) (Cond.code y (vCC z) (vNL z) (vRt z) :: aw) := aw_sub0 hy.1
  have hts : ∀ w ∈ Cond.code y (vCC z) (vNL z) (vRt z) :: aw, w.before args s = true := fun w h => (List.mem_cons.mp h).elim (fun g => by rw [g]; exact X.2.2.2.2.1 _ hy.1) (X.2.2.2.2.1 w)
  refine vrun_x (st := (As.reverse ++ rest).map (vph hz)) hb hal kx k X E hL hS h1 h2 h3 (vx_runS (own := vOwn M) (cc := vCC M) (nL := vNL M) (Ts := aw) (As := As.map (vph hz)) (rest := rest.map (vph hz)) (n := np) ⟨X.1, X.2.1, X.2.2.1, X.2.2.2.1, X.2.2.2.2.1⟩ (hc l D yc hz X.2.2.2.2.2.2.2.1)
    ⟨callB_of (Ts := Cond.code y (vCC z) (vNL z) (vRt z) :: aw) np hts hG rfl rfl rfl (X.2.2.2.2.1 _ hy.2.1) (X.2.2.2.2.1 _ hl) hy.2.2 hR, X.2.2.2.2.1 _ hv⟩
    ⟨vPc_blind, fun U hU hW => vPc_at (As := As) hH X.2.2.2.2.2.1 hS X.2.2.2.2.2.2.1 X.2.2.2.2.2.2.2.2.2.2.1 hal9 hU hW⟩ rfl (by rw [List.length_map]; exact hnp) (hL.1) (by rw [vmap_rev]) (lv_room (by rw [vcat_sum]; exact hcat)) hd ⟨by have := hb.1; omega, by have := hb.2; omega⟩) T hT S
/-- what a call of the whole leaves: it threw (which of its exceptions), or an answer; a model of all -/
abbrev gR (T : Type) : Type := Nat × Int32 × T
def qG {T : Type} (σ : vS) (v : vV) (rel : vV → T → Prop) (fr : vV → Prop) (nm : Nat → String) (R : gR T) : vO → vM → Prop := fun o μ' => match o with
  | .inl r => R.1 = 0 ∧ r = some (.int R.2.1) ∧ ∃ v', μ' = (σ, v') ∧ rel v' R.2.2 ∧ fr v'
  | .inr Ex => R.1 ≠ 0 ∧ Ex = nm R.1 ∧ μ' = (σ, v)
theorem g_ret {T : Type} {σ : vS} {v v9 : vV} {rel : vV → T → Prop} {fr : vV → Prop} {nm : Nat → String} {R : gR T} {x : Int32} {t : T} (e : R = (0, x, t)) (h : rel v9 t) (hf : fr v9) : qG σ v rel fr nm R (.inl (some (.int x))) (σ, v9) := by
  subst e
  exact ⟨rfl, rfl, v9, rfl, h, hf⟩
theorem g_thr {T : Type} {σ : vS} {v : vV} {rel : vV → T → Prop} {fr : vV → Prop} {nm : Nat → String} {R : gR T} {Ex : String} {k : Nat} {x : Int32} {t : T} (e : R = (k + 1, x, t)) (hx : nm (k + 1) = Ex) : qG σ v rel fr nm R (.inr Ex) (σ, v) := by
  subst e
  exact ⟨Nat.succ_ne_zero k, hx.symm, rfl⟩
