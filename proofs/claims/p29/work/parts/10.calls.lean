
def vN (Q : Option Value → vM → Prop) : vO → vM → Prop := fun o μ => match o with | .inl v => Q v μ | .inr _ => False
def vPc (D : va_G) (yc : Nat → ClassId) (hz : Nat) (As : List Value) (μ : vM) : Array Value → State → Prop := fun a U => a = (As.map (vph hz)).toArray ∧ vH D yc hz μ U.heap ∧ va_K D vwCl (vT yc) U ∧ hz ≤ U.heap.size ∧ vTh hz U ∧ (μ.1.2.2.2 = true → hz + μ.1.1 = U.heap.size)
/-- a method's contract: it returns, as Q says -/
def vC (z : vR) (y : MethodName) (As : List Value) (μ : vM) (Q : Option Value → vM → Prop) : Prop := ∀ (l : Launch) (D : va_G) (yc : Nat → ClassId) (hz : Nat), l.stackTraces = false →
  Met l y (Cond.code y (vCC z) (vNL z) (vRt z) :: aw) (vRm z) (vPc D yc hz As μ) (vQr D yc hz (vN Q)) (vRm z).cells (vRm z).slots (fun q => hz ≤ q)
/-- a method's contract: it returns or throws, as Q says -/
def vCX (z : vR) (y : MethodName) (As : List Value) (μ : vM) (Q : vO → vM → Prop) : Prop := ∀ (l : Launch) (D : va_G) (yc : Nat → ClassId) (hz : Nat), l.stackTraces = false →
  vx_Met l y (Cond.code y (vCC z) (vNL z) (vRt z) :: aw) (vRm z) (vPc D yc hz As μ) (vQr D yc hz Q) (vQt D yc hz Q) (vRm z).cells (vRm z).slots (fun q => hz ≤ q)
def vargs0 : List Value → List (Option Value)
  | [] => []
  | v :: t => if v.category = 2 then some v :: none :: vargs0 t else some v :: vargs0 t
def vargs (n : Nat) (As : List Value) : List (Option Value) := vargs0 As ++ List.replicate (n - (vargs0 As).length) none
theorem vargs0_mem (hz : Nat) : ∀ (As : List Value) (k i : Nat) (v : Value), (vargs0 As)[i]? = some (some v) → (k + i, vph hz v) ∈ lv_args k (As.map (vph hz)) := by
  intro As
  induction As with
  | nil => intro k i v h; simp [vargs0] at h
  | cons u t ih =>
    intro k i v h
    simp only [List.map_cons, lv_args, vph_cat]
    simp only [vargs0] at h
    by_cases hc : u.category = 2
    · simp only [hc, if_true] at h ⊢
      match i with
      | 0 => simp at h; subst h; exact List.mem_cons_self
      | 1 => simp at h
      | j + 2 =>
        simp only [List.getElem?_cons_succ] at h
        have := ih (k + 2) j v h
        rw [show k + (j + 2) = k + 2 + j by omega]
        exact List.mem_cons_of_mem _ this
    · simp only [hc, if_false] at h ⊢
      match i with
      | 0 => simp at h; subst h; exact List.mem_cons_self
      | j + 1 =>
        simp only [List.getElem?_cons_succ] at h
        have := ih (k + 1) j v h
        rw [show k + (j + 1) = k + 1 + j by omega]
        exact List.mem_cons_of_mem _ this
theorem lg_sl_len (hz : Nat) (As : List Value) : (lg_sl (As.map (vph hz))).length = (vargs0 As).length := by
  induction As with
  | nil => rfl
  | cons u t ih =>
    cases u <;> (simp only [List.map_cons, lg_sl, List.flatMap_cons, vargs0, vph, Value.category] at ih ⊢; simp at ih ⊢; omega)
theorem vargs_L {hz n : Nat} {As : List Value} (h : (vargs0 As).length ≤ n) : vL ((lg_sl (As.map (vph hz)) ++ List.replicate (n - (lg_sl (As.map (vph hz))).length) Slot.unset).toArray) n hz (vargs n As) := by
  have h9 := lv_entry (As.map (vph hz)) (n := n) (by rw [lg_sl_len]; exact h)
  refine ⟨h9.1, h9.2.1, fun i v hi => ?_⟩
  simp only [vargs] at hi
  by_cases hlt : i < (vargs0 As).length
  · rw [List.getElem?_append_left hlt] at hi
    have := vargs0_mem hz As 0 i v hi
    rw [Nat.zero_add] at this
    exact h9.2.2 _ this
  · rw [List.getElem?_append_right (by omega), List.getElem?_replicate] at hi
    split at hi <;> cases hi
theorem vPc_blind {D : va_G} {yc : Nat → ClassId} {hz : Nat} {As : List Value} {μ : vM} : FrameBlind (vPc D yc hz As μ) := by
  intro a U g mk q
  obtain ⟨q1, q2, q3, q4, q5, q6⟩ := q
  refine ⟨q1, q2, va_K.moved (u := U) (U := U.calling g mk a) (Vm.Alike.refl U.vm) q3, q4, ⟨vx_Zq.moved (u := U) (U := U.calling g mk a) (Vm.Alike.refl U.vm) q5.1, vx_Zq.moved (u := U) (U := U.calling g mk a) (Vm.Alike.refl U.vm) q5.2.1, fun x hx => ?_, fun w hw hg => vnk_same (s := U) (U := U.calling g mk a) hg rfl (q5.2.2.2 w hw hg)⟩, q6⟩
  obtain ⟨sa, h⟩ := q5.2.2.1 x hx
  exact ⟨sa, vk_R.same (u := U) (U := U.calling g mk a) rfl h⟩
/-- what a body's frame has at its entry -/
theorem vX_body {z : vR} {y : MethodName} {p : Program} {l : Launch} {e : Env} {s s₁ : State} {m : MethodId} {args : Array Value} {below : List Frame} {meth : Method} {c : Code} {D : va_G} {yc : Nat → ClassId} {hz : Nat} {As : List Value} {μ : vM} {y1 : Cond} (hcls : y.cls = vOwn z) (hnm : y.name = vNm z) (B : BodyLoose p l y (headSpec (y1 :: aw) (vRm z)) (vCC z) (vNL z) (vRt z) e s m args below meth c s₁) (hml : c.maxLocals = vNL z) (hl : l.stackTraces = false) (hv : vPc D yc hz As μ args s) : vX z p l e s m args below meth c D yc hz :=
  ⟨B.exec, B.bytes, hml, by rw [← hcls]; exact findClass_of_methodNamed B.named, fun w hw => atoms_spec (ws := y1 :: aw) B.pre w (List.mem_cons_of_mem _ hw), hv.2.2.1, hv.2.2.2.1, hl, B.returns, B.notSynchronized, hv.2.2.2.2.1, by rw [← hnm]; exact (name_of_methodNamed B.named B.method).1⟩
theorem vEnd_ret {z : vR} {p : Program} {l : Launch} {e : Env} {s : State} {m : MethodId} {args : Array Value} {below : List Frame} {meth : Method} {c : Code} {D : va_G} {yc : Nat → ClassId} {hz : Nat} {Q : vO → vM → Prop} (X : vX z p l e s m args below meth c D yc hz) (o : Option Value) (pc : Nat) (lsA : Array Slot) (μ : vM) (H : Heap) (locs : List Loc) (cells slots : Nat) (ho : match o with | none => decode (vCC z) pc = .ok (.return_, 1) ∧ vRt z = none | some (.int v) => decode (vCC z) pc = .ok (.ireturn, 1) ∧ (vRt z = some .int ∨ vRt z = some .boolean ∧ narrow .boolean (.int v) = .int v) | some (.ref _) => decode (vCC z) pc = .ok (.areturn, 1) ∧ vRt z = some (.object "ClubRolls$Club") | _ => False) (hq : Q (.inl o) μ) (hH : vH D yc hz μ H) (hS : va_S (fun q => hz ≤ q) s.heap H locs) (h1 : cells ≤ (vRm z).cells) (h2 : slots ≤ (vRm z).slots) :
    W p l e (vRm z) s m args below meth c H locs cells slots (MQ below (vQr D yc hz Q) args s (vRm z).cells (vRm z).slots (fun q => hz ≤ q)) (F0 m pc lsA ((o.map (vph hz)).toList)) := by
  have hqr : ∀ t : State, t.heap = H → s.WarmedH t.vm → vQr D yc hz Q args s (.returned (o.map (vph hz))) t := fun t ht hW => ⟨⟨o, μ, rfl, hq, by rw [ht]; exact hH⟩, hS.F ht⟩
  refine W.widen h1 h2 ?_
  match o, ho, hqr with
  | none, ho, hqr => exact W.vret X.1 X.2.1 (X.2.2.2.2.2.2.2.2.1.trans ho.2) hqr hS.2.2 ho.1 (hlocks := X.2.2.2.2.2.2.2.2.2.1)
  | some (.int v), ho, hqr =>
    rcases ho.2 with hr | ⟨hr, hn⟩
    · exact W.iret (v := v) X.1 X.2.1 (X.2.2.2.2.2.2.2.2.1.trans hr) hqr hS.2.2 ho.1 (hlocks := X.2.2.2.2.2.2.2.2.2.1)
    · exact W.zret (v := v) X.1 X.2.1 (X.2.2.2.2.2.2.2.2.1.trans hr) hn hqr hS.2.2 ho.1 (hlocks := X.2.2.2.2.2.2.2.2.2.1)
  | some (.ref a), ho, hqr => exact W.aret (v := vph hz (.ref a)) X.1 X.2.1 (X.2.2.2.2.2.2.2.2.1.trans ho.2) (Or.inl ⟨_, rfl⟩) (Or.inr ⟨_, rfl⟩) hqr hS.2.2 ho.1 (hlocks := X.2.2.2.2.2.2.2.2.2.1)
/-- a body that doesn't throw gives its contract -/
theorem vC_of {z : vR} {y : MethodName} {As : List Value} {μ : vM} {Q : Option Value → vM → Prop} {ls : List (Option Value)} (hy : plainName y.cls = true) (hcls : y.cls = vOwn z) (hnm : y.name = vNm z) (hlen : (vargs0 As).length ≤ vNL z) (hls : vargs (vNL z) As = ls) (h : vP z 0 ls [] ((vRm z).cells, (vRm z).slots) μ (vN Q)) : vC z y As μ Q := by
  intro l D yc hz hl
  refine Met.ofW (cc := vCC z) (maxL := vNL z) (ret := vRt z) hy rfl ?_
  intro p e s m args below meth c s₁ B hml hv
  have X := vX_body hcls hnm B hml hl hv
  obtain ⟨rfl, hH, hK, hz1, hT, hal⟩ := hv
  rw [lg_entry_eq]
  subst hls
  exact h p l e s m _ below meth c D yc hz _ X ⟨vEnd_ret X, fun Ex _ _ _ _ _ μ _ _ _ _ q => absurd q id, Or.inr (fun _ _ q => q)⟩ s.heap [] 0 0 _ (vargs_L hlen) hH va_S.rf (by simp) (by simp) (fun q => hal q)
theorem vTh_moved {hz : Nat} {s U : State} {H : Heap} {locs : List Loc} (hS : va_S (fun q => hz ≤ q) s.heap H locs) (hU : U.heap = H) (hW : s.WarmedH U.vm) (h : vTh hz s) : vTh hz U := by
  subst hU
  have hk : ∀ a : Nat, a < s.heap.size → ¬ hz ≤ a → U.heap[a]? = s.heap[a]? := fun a h1 h2 => hS.2.1 a h1 h2
  refine ⟨(h.1.moved hW.alike).kept hk, (h.2.1.moved hW.alike).kept hk, fun q hq => ?_, fun w hw hg => vnk_warm hg hW (h.2.2.2 w hw hg)⟩
  obtain ⟨sa, h9⟩ := h.2.2.1 q hq
  exact ⟨sa, vk_R.warm hW h9⟩
theorem vH_size {D : va_G} {yc : Nat → ClassId} {hz : Nat} {μ : vM} {H : Heap} (h : vH D yc hz μ H) (h0 : hz ≤ H.size) : hz + μ.1.1 ≤ H.size := by
  rcases Nat.eq_zero_or_pos μ.1.1 with q | q
  · omega
  · have := (h (μ.1.1 - 1) _ (vW_get (by omega))).lt
    simp only at this
    omega
theorem vsize {p : Program} {l : Launch} {e : Env} {R : Room} {s : State} {m : MethodId} {args : Array Value} {below : List Frame} {meth : Method} {c : Code} {T : State} {locs : List Loc} {cells slots : Nat} {D : va_G} {yc : Nat → ClassId} {hz : Nat} {μ : vM} (X : Stand p l e R s m args below meth c T locs cells slots) (hH : vH D yc hz μ T.heap) (hS : va_S (fun q => hz ≤ q) s.heap T.heap locs) (h0 : hz ≤ s.heap.size) (h3 : hz + μ.1.1 = s.heap.size + cells) : T.heap.size = hz + μ.1.1 := by
  have e1 := vH_size hH (Nat.le_trans h0 hS.1)
  have e2 := X.heapSize
  omega
theorem vPc_at {D : va_G} {yc : Nat → ClassId} {hz : Nat} {μ : vM} {As : List Value} {s U : State} {H : Heap} {locs : List Loc} (hH : vH D yc hz μ H) (hK : va_K D vwCl (vT yc) s) (hS : va_S (fun q => hz ≤ q) s.heap H locs) (h0 : hz ≤ s.heap.size) (hT : vTh hz s) (hal : μ.1.2.2.2 = true → hz + μ.1.1 = H.size) (hU : U.heap = H) (hW : s.WarmedH U.vm) : vPc D yc hz As μ ((As.map (vph hz)).toArray) U :=
  ⟨rfl, by rw [hU]; exact hH, va_K.moved hW.alike hK, by rw [hU]; exact Nat.le_trans h0 hS.1, vTh_moved hS hU hW hT, by rw [hU]; exact hal⟩
theorem vmap_rev (hz : Nat) (As rest : List Value) : List.map (vph hz) (As.reverse ++ rest) = (As.map (vph hz)).reverse ++ rest.map (vph hz) := by simp
theorem vcat_sum (hz : Nat) (rest : List Value) : ((rest.map (vph hz)).map fun v => v.category).sum = (rest.map fun v => v.category).sum := by
  rw [List.map_map]; congr 1; apply List.map_congr_left; intro v _; exact vph_cat hz v
/-- behind a call that returns -/
theorem vrun_k {M z : vR} {pc : Nat} {ls : List (Option Value)} {st rest : List Value} {b : Nat × Nat} {μ : vM} {Q : vO → vM → Prop} {Qc : Option Value → vM → Prop} {a : Array Value} (hb : (vRm z).cells ≤ b.1 ∧ (vRm z).slots ≤ b.2) (hal : ∀ o μ', Qc o μ' → μ'.1.2.2.2 = true → μ.1.2.2.2 = true ∧ μ'.1.1 = μ.1.1 + (vRm z).cells)
    (k : ∀ (o : Option Value) (μ' : vM), Qc o μ' → vP M (pc + 3) ls (o.toList ++ rest) (b.1 - (vRm z).cells, b.2 - (vRm z).slots) μ' Q)
    {p : Program} {l : Launch} {e : Env} {s : State} {m : MethodId} {args : Array Value} {below : List Frame} {meth : Method} {c : Code} {D : va_G} {yc : Nat → ClassId} {hz : Nat} {Qs : State → Prop} (X : vX M p l e s m args below meth c D yc hz) (E : vEnd M p l e s m args below meth c D yc hz Q Qs) {H : Heap} {locs : List Loc} {cells slots : Nat} {lsA : Array Slot} (hL : vL lsA (vNL M) hz ls) (hS : va_S (fun q => hz ≤ q) s.heap H locs) (h1 : cells + b.1 ≤ (vRm M).cells) (h2 : slots + b.2 ≤ (vRm M).slots) (h3 : μ.1.2.2.2 = true → hz + μ.1.1 = s.heap.size + cells)
    (hr : va_Run p l e (vRm M) s m args below meth c H locs cells slots (vRm z).cells (vRm z).slots (F0 m pc lsA st) (rest.map (vph hz)) (vQr D yc hz (vN Qc) a) (fun q => hz ≤ q)) : W p l e (vRm M) s m args below meth c H locs cells slots Qs (F0 m pc lsA st) := by
  intro T hT S
  obtain ⟨v, st₀, t, T', L, h0, S', hL', e1, e2, ⟨⟨o, μ', hv, hp, hh⟩, hz9, hk9⟩, st9⟩ := hr T hT S
  cases hv
  rw [h0] at hz9 hk9
  obtain ⟨t2, a1, b1⟩ := k o μ' hp p l e s m args below meth c D yc hz Qs X E T'.heap (locs ++ L) (cells + (vRm z).cells) (slots + (vRm z).slots) lsA hL (by rw [e1]; exact hh)
    ⟨Nat.le_trans hS.1 (by rw [e1]; exact hz9), fun q g1 g2 => by rw [e1, hk9 q (Nat.lt_of_lt_of_le g1 hS.1) g2]; exact hS.2.1 q g1 g2, fun q hq => by
      rcases List.mem_append.mp hq with h | h
      · exact hS.2.2 q h
      · exact hL' q h⟩ (by have := hb.1; show cells + (vRm z).cells + (b.1 - (vRm z).cells) ≤ _; omega) (by have := hb.2; show slots + (vRm z).slots + (b.2 - (vRm z).slots) ≤ _; omega) (fun q => by obtain ⟨g1, g2⟩ := hal o μ' hp q; have := h3 g1; omega) T' rfl S'
  refine ⟨t2, st9 t2 ?_, b1⟩
  rw [show (Option.map (vph hz) o).toList ++ List.map (vph hz) rest = List.map (vph hz) (o.toList ++ rest) by cases o <;> rfl]
  exact a1
/-- a call of an instance method that returns -/
theorem P_callV {M z : vR} {y : MethodName} {idx pc ci ln n np : Nat} {ls : List (Option Value)} {st rest As : List Value} {b : Nat × Nat} {μ : vM} {Q : vO → vM → Prop} {Qc : Option Value → vM → Prop} {q : vw_C} (hd : decode (vCC M) pc = .ok (.invokevirtual idx, 3)) (hl : Cond.methodLink (vOwn M) idx y ∈ aw) (hy : vY z y np) (hv : vYV y) (hq : vCk ci q) (hyc : y.cls = q.1) (hR : (vRm z).frames + 1 ≤ (vRm M).frames ∧ 8 + (vNL z + 11) + (vRm z).locals ≤ (vRm M).locals) (hn : vK μ.1 n ci ln) (hst : st = As.reverse ++ .ref n :: rest) (hnp : As.length = np) (hcat : (rest.map fun v => v.category).sum ≤ 8) (hb : (vRm z).cells ≤ b.1 ∧ (vRm z).slots ≤ b.2)
    (hc : vC z y (.ref n :: As) μ Qc) (hal : ∀ o μ', Qc o μ' → μ'.1.2.2.2 = true → μ.1.2.2.2 = true ∧ μ'.1.1 = μ.1.1 + (vRm z).cells) (k : ∀ (o : Option Value) (μ' : vM), Qc o μ' → vP M (pc + 3) ls (o.toList ++ rest) (b.1 - (vRm z).cells, b.2 - (vRm z).slots) μ' Q) : vP M pc ls st b μ Q := by
  intro p l e s m args below meth c D yc hz Qs X E H locs cells slots lsA hL hH hS h1 h2 h3
  subst hst
  intro T hT S
  have hal9 : μ.1.2.2.2 = true → hz + μ.1.1 = H.size := fun g => by have := vsize S (by rw [hT]; exact hH) (by rw [hT]; exact hS) X.2.2.2.2.2.2.1 (h3 g); rw [hT] at this; omega
  have hG : GoodIn (Cond.code y (vCC z) (vNL z) (vRt z) :: aw) (Cond.code y (vCC z) (vNL z) (vRt z) :: aw) := aw_sub0 hy.1
  have hts : ∀ w ∈ Cond.code y (vCC z) (vNL z) (vRt z) :: aw, w.before args s = true := fun w h => (List.mem_cons.mp h).elim (fun g => by rw [g]; exact X.2.2.2.2.1 _ hy.1) (X.2.2.2.2.1 w)
  refine vrun_k (st := (As.reverse ++ .ref n :: rest).map (vph hz)) hb hal k X E hL hS h1 h2 h3 (va_runV (own := vOwn M) (cc := vCC M) (nL := vNL M) (Ts := aw) (C := y.cls) (b := hz + n) (As := As.map (vph hz)) (rest := rest.map (vph hz)) (n := np) ⟨X.1, X.2.1, X.2.2.1, X.2.2.2.1, X.2.2.2.2.1⟩ (hc l D yc hz X.2.2.2.2.2.2.2.1)
    ⟨callB_of (Ts := Cond.code y (vCC z) (vNL z) (vRt z) :: aw) np hts hG rfl rfl rfl (X.2.2.2.2.1 _ hy.2.1) (X.2.2.2.2.1 _ hl) hy.2.2 hR, X.2.2.2.2.1 _ hv.1, X.2.2.2.2.1 _ hv.2⟩
    ⟨vPc_blind, by rw [hyc]; exact va_recv X.2.2.2.2.2.1 hH hq.1 ((vW_get hn.1.1).trans (by rw [vE_o hn hq.2.2.1])), fun U hU hW => by
      have := vPc_at (As := .ref n :: As) hH X.2.2.2.2.2.1 hS X.2.2.2.2.2.2.1 X.2.2.2.2.2.2.2.2.2.2.1 hal9 hU hW
      rw [List.map_cons, vph_ref hn.1.2] at this
      exact this⟩ rfl (by rw [List.length_map]; exact hnp) (hL.1) (by rw [vmap_rev, List.map_cons, vph_ref hn.1.2]) (lv_room (by rw [vcat_sum]; exact hcat)) hd ⟨by have := hb.1; omega, by have := hb.2; omega⟩) T hT S
/-- a call of a static method that returns -/
theorem P_callS {M z : vR} {y : MethodName} {idx pc np : Nat} {ls : List (Option Value)} {st rest As : List Value} {b : Nat × Nat} {μ : vM} {Q : vO → vM → Prop} {Qc : Option Value → vM → Prop} (hd : decode (vCC M) pc = .ok (.invokestatic idx, 3)) (hl : Cond.methodLink (vOwn M) idx y ∈ aw) (hy : vY z y np) (hv : Cond.static y ∈ aw) (hR : (vRm z).frames + 1 ≤ (vRm M).frames ∧ 8 + (vNL z + 11) + (vRm z).locals ≤ (vRm M).locals) (hst : st = As.reverse ++ rest) (hnp : As.length = np) (hcat : (rest.map fun v => v.category).sum ≤ 8) (hb : (vRm z).cells ≤ b.1 ∧ (vRm z).slots ≤ b.2)
    (hc : vC z y As μ Qc) (hal : ∀ o μ', Qc o μ' → μ'.1.2.2.2 = true → μ.1.2.2.2 = true ∧ μ'.1.1 = μ.1.1 + (vRm z).cells) (k : ∀ (o : Option Value) (μ' : vM), Qc o μ' → vP M (pc + 3) ls (o.toList ++ rest) (b.1 - (vRm z).cells, b.2 - (vRm z).slots) μ' Q) : vP M pc ls st b μ Q := by
  intro p l e s m args below meth c D yc hz Qs X E H locs cells slots lsA hL hH hS h1 h2 h3
  subst hst
  intro T hT S
  have hal9 : μ.1.2.2.2 = true → hz + μ.1.1 = H.size := fun g => by have := vsize S (by rw [hT]; exact hH) (by rw [hT]; exact hS) X.2.2.2.2.2.2.1 (h3 g); rw [hT] at this; omega
  have hG : GoodIn (Cond.code y (vCC z) (vNL z) (vRt z) :: aw) (Cond.code y (vCC z) (vNL z) (vRt z) :: aw) := aw_sub0 hy.1
  have hts : ∀ w ∈ Cond.code y (vCC z) (vNL z) (vRt z) :: aw, w.before args s = true := fun w h => (List.mem_cons.mp h).elim (fun g => by rw [g]; exact X.2.2.2.2.1 _ hy.1) (X.2.2.2.2.1 w)
  refine vrun_k (st := (As.reverse ++ rest).map (vph hz)) hb hal k X E hL hS h1 h2 h3 (va_runS (own := vOwn M) (cc := vCC M) (nL := vNL M) (Ts := aw) (As := As.map (vph hz)) (rest := rest.map (vph hz)) (n := np) ⟨X.1, X.2.1, X.2.2.1, X.2.2.2.1, X.2.2.2.2.1⟩ (hc l D yc hz X.2.2.2.2.2.2.2.1)
    ⟨callB_of (Ts := Cond.code y (vCC z) (vNL z) (vRt z) :: aw) np hts hG rfl rfl rfl (X.2.2.2.2.1 _ hy.2.1) (X.2.2.2.2.1 _ hl) hy.2.2 hR, X.2.2.2.2.1 _ hv⟩
    ⟨vPc_blind, fun U hU hW => vPc_at (As := As) hH X.2.2.2.2.2.1 hS X.2.2.2.2.2.2.1 X.2.2.2.2.2.2.2.2.2.2.1 hal9 hU hW⟩ rfl (by rw [List.length_map]; exact hnp) (hL.1) (by rw [vmap_rev]) (lv_room (by rw [vcat_sum]; exact hcat)) hd ⟨by have := hb.1; omega, by have := hb.2; omega⟩) T hT S
