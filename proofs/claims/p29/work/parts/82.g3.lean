theorem vPcG_blind {D : va_G} {yc : Nat → ClassId} {hz : Nat} {As : List Value} {μ : vM} : FrameBlind (vPcG D yc hz As μ) := by
  intro a U g mk q
  exact ⟨vPc_blind a U g mk q.1, fun w hw => va_Nc.moved (u := U) (U := U.calling g mk a) (Vm.Alike.refl U.vm) (q.2 w hw)⟩
theorem G_callSW {Z9 : kZ9} {M z : vR} {hh : List (Nat × Nat × Nat × Nat)} {y : MethodName} {idx pc np : Nat} {ls : List (Option Value)} {st rest As : List Value} {b : Nat × Nat} {μ : vM} {Q : vO → vM → Prop} {Qc : Option Value → vM → Prop} (hZ : ∀ s args c hz, Z9 s args c hz → vNcs s) (hd : decode (vCC M) pc = .ok (.invokestatic idx, 3)) (hl : Cond.methodLink (vOwn M) idx y ∈ aw) (hcw : Cond.codeWith y (vCC z) (vNL z) (vRt z) hh ∈ aw) (hini : Cond.initialized y.cls ∈ aw) (hdd : y.cls ≠ "java/lang/invoke/MethodHandle" ∧ y.cls ≠ "java/lang/invoke/VarHandle" ∧ (parseMethodDescriptor y.desc).map (fun d => d.parameters.length) = some np) (hv : Cond.static y ∈ aw) (hR : (vRm z).frames + 1 ≤ (vRm M).frames ∧ 8 + (vNL z + 11) + (vRm z).locals ≤ (vRm M).locals) (hst : st = As.reverse ++ rest) (hnp : As.length = np) (hcat : (rest.map fun v => v.category).sum ≤ 8) (hb : (vRm z).cells ≤ b.1 ∧ (vRm z).slots ≤ b.2)
    (hc : vCG z hh y As μ Qc) (hal : ∀ o μ', Qc o μ' → μ'.1.2.2.2 = true → μ.1.2.2.2 = true ∧ μ'.1.1 = μ.1.1 + (vRm z).cells) (k : ∀ (o : Option Value) (μ' : vM), Qc o μ' → vG Z9 M (pc + 3) ls (o.toList ++ rest) (b.1 - (vRm z).cells, b.2 - (vRm z).slots) μ' Q) : vG Z9 M pc ls st b μ Q := by
  intro p l e s m args below meth c D yc hz Qs X E G9 H locs cells slots lsA hL hH hS h1 h2 h3
  subst hst
  intro T hT S
  have hal9 : μ.1.2.2.2 = true → hz + μ.1.1 = H.size := fun g => by have := vsize S (by rw [hT]; exact hH) (by rw [hT]; exact hS) X.2.2.2.2.2.2.1 (h3 g); rw [hT] at this; omega
  have hG0 : GoodIn (Cond.codeWith y (vCC z) (vNL z) (vRt z) hh :: aw) (Cond.codeWith y (vCC z) (vNL z) (vRt z) hh :: aw) := aw_sub0 hcw
  have hts : ∀ w ∈ Cond.codeWith y (vCC z) (vNL z) (vRt z) hh :: aw, w.before args s = true := fun w h => (List.mem_cons.mp h).elim (fun g => by rw [g]; exact X.2.2.2.2.1 _ hcw) (X.2.2.2.2.1 w)
  have hG : GoodIn (Cond.codeWith y (vCC z) (vNL z) (vRt z) hh :: aw) (va_wsS (vOwn M) idx y (Cond.codeWith y (vCC z) (vNL z) (vRt z) hh :: aw)) := by
    intro w hw
    refine hG0 w ?_
    unfold va_wsS at hw
    rcases List.mem_append.mp hw with h | h
    · simp only [List.mem_cons, List.not_mem_nil, or_false] at h
      rcases h with h | h | h <;> subst h <;> exact List.mem_cons_of_mem _ (by assumption)
    · exact h
  have hr := vx_runSX (e := e) (meth := meth) (cells := cells) (slots := slots) (mc := (vRm z).cells) (ms := (vRm z).slots) (locs := locs) (H := H) (below := below) (own := vOwn M) (cc := vCC M) (nL := vNL M) (Ts := aw) (As := As.map (vph hz)) (rest := rest.map (vph hz)) (n := np) (g := F0 m pc lsA ((As.reverse ++ rest).map (vph hz))) ⟨X.1, X.2.1, X.2.2.1, X.2.2.2.1, X.2.2.2.2.1⟩ (hc l D yc hz X.2.2.2.2.2.2.2.1)
    (vx_cwSW (Ts := Cond.codeWith y (vCC z) (vNL z) (vRt z) hh :: aw) (ws' := aw) np hts hG rfl rfl rfl hdd hR)
    ⟨vPcG_blind, fun U hU hW => ⟨vPc_at (As := As) hH X.2.2.2.2.2.1 hS X.2.2.2.2.2.2.1 X.2.2.2.2.2.2.2.2.2.2.1 hal9 hU hW, fun w hw => va_Nc.moved hW.alike (hZ _ _ _ _ G9 w hw)⟩⟩ rfl (by rw [List.length_map]; exact hnp) (hL.1) (by show (As.reverse ++ rest).map (vph hz) = _; rw [vmap_rev]) (lv_room (by rw [vcat_sum]; exact hcat)) hd ⟨by have := hb.1; omega, by have := hb.2; omega⟩
  rcases hr T hT S with ⟨v, st₀, t, T', L, h0, S', hL', e1, e2, ⟨⟨o, μ', hv, hp, hh9⟩, hz9, hk9⟩, st9⟩ | ⟨q, st₀, t, T', L, Ex, ce, h0, S', hL', e1, e2, ⟨⟨μ', hp, hh9⟩, hz9, hk9⟩, hce, hcv, hcl, st9⟩
  · cases hv
    rw [h0] at hz9 hk9
    obtain ⟨t2, a1, b1⟩ := k o μ' hp p l e s m args below meth c D yc hz Qs X E G9 T'.heap (locs ++ L) (cells + (vRm z).cells) (slots + (vRm z).slots) lsA hL (by rw [e1]; exact hh9)
      ⟨Nat.le_trans hS.1 (by rw [e1]; exact hz9), fun q g1 g2 => by rw [e1, hk9 q (Nat.lt_of_lt_of_le g1 hS.1) g2]; exact hS.2.1 q g1 g2, fun q hq => by
        rcases List.mem_append.mp hq with h | h
        · exact hS.2.2 q h
        · exact hL' q h⟩ (by have := hb.1; show cells + (vRm z).cells + (b.1 - (vRm z).cells) ≤ _; omega) (by have := hb.2; show slots + (vRm z).slots + (b.2 - (vRm z).slots) ≤ _; omega) (fun q => by obtain ⟨g1, g2⟩ := hal o μ' hp q; have := h3 g1; omega) T' rfl S'
    refine ⟨t2, st9 t2 ?_, b1⟩
    rw [show (Option.map (vph hz) o).toList ++ List.map (vph hz) rest = List.map (vph hz) (o.toList ++ rest) by cases o <;> rfl]
    exact a1
  · exact absurd hp id
