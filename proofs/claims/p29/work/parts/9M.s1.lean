
/-! THE LAW'S START -/
theorem AG_newO {Z9 : kZ9} {M : vR} {pc idx ci N : Nat} {ls : List (Option Value)} {st : List Value} {b : Nat × Nat} {σ : vS} {v : vV} {Q : vO → vM → Prop} {q : vw_C} (hc : σ.1 = N) (hf : σ.2.2.2 = true) (hN : N < 1000000) (hd : decode (vCC M) pc = .ok (.new idx, 3)) (hq : vCk ci q) (hcl : Cond.classLink (vOwn M) idx q.1 ∈ aw) (hins : Cond.instantiable q.1 q.2.2 ∈ aw) (hini : Cond.initialized q.1 ∈ aw) (hb : 1 ≤ b.1 ∧ vNs ci ≤ b.2)
    (K : ∀ (σ1 : vS) (v1 : vV), σ1.1 = N + 1 → σ1.2.2.2 = true → (∀ n, n ≠ N → kAg σ v σ1 v1 n) → σ1.2.1 N = (ci, 0) → (∀ k, v1 N k = nI 0) → vG Z9 M (pc + 3) ls (.ref N :: st) (b.1 - 1, b.2 - vNs ci) (σ1, v1) Q) : vG Z9 M pc ls st b (σ, v) Q := by
  subst hc
  exact G_newO hd hq hcl hins hini hb hf hN (K (vNew (σ, v) (ci, 0)).1 (vNew (σ, v) (ci, 0)).2 rfl hf (fun n hn => vNew_ag hn) vNew_at vNew_0)
theorem AG_callI {Z9 : kZ9} {M z : vR} {y : MethodName} {idx pc p w np : Nat} {ls : List (Option Value)} {st rest As : List Value} {b : Nat × Nat} {σ : vS} {v : vV} {Q : vO → vM → Prop} {post : vS → vV → Prop} (hd : decode (vCC M) pc = .ok (.invokespecial idx, 3)) (hl : Cond.methodLink (vOwn M) idx y ∈ aw) (hy : vY z y np) (hv : Cond.instanceMethod y ∈ aw) (hnm : y.name = "<init>") (hrt : vRt z = none) (hR : (vRm z).frames + 1 ≤ (vRm M).frames ∧ 8 + (vNL z + 11) + (vRm z).locals ≤ (vRm M).locals) (hst : st = As.reverse ++ .ref p :: rest) (hnp : As.length = np) (hcat : (rest.map fun v => v.category).sum ≤ 8) (hb : (vRm z).cells ≤ b.1 ∧ (vRm z).slots ≤ b.2)
    (hc0 : σ.1 = p + 1) (hf : σ.2.2.2 = true) (hp : p < 1000000) (hw : w = (vRm z).cells + 1) (hc : vC z y (.ref p :: As) (σ, v) (kIn σ v p w post))
    (K : ∀ (σ1 : vS) (v1 : vV), σ1.1 = p + w → σ1.2.2.2 = true → (∀ n, n < p → kAg σ v σ1 v1 n) → σ1.2.1 p = σ.2.1 p → post σ1 v1 → vG Z9 M (pc + 3) ls rest (b.1 - (vRm z).cells, b.2 - (vRm z).slots) (σ1, v1) Q) : vG Z9 M pc ls st b (σ, v) Q :=
  G_callI hd hl hy hv hnm hrt hR hp hst hnp hcat hb hc (fun o μ' h _ => by
    obtain ⟨-, σ1, v1, rfl, g1, g2, -⟩ := h
    exact ⟨hf, by show σ1.1 = σ.1 + _; omega⟩) (fun o μ' h => by
    obtain ⟨rfl, σ1, v1, rfl, g1, g2, g3, g4, g5⟩ := h
    exact K σ1 v1 g1 g2 g3 g4 g5)
theorem kLT.up9 {σ σ' : vS} {v v' : vV} {b : Nat} (h : kLT σ b) (hc : σ.1 ≤ σ'.1) (e : ∀ n, b ≤ n → n < b + 1603 → kAg σ v σ' v' n) : kLT σ' b := by
  obtain ⟨h0, h1, h2, h3, h4, h5, h6, h7, h8, r0, r1, r2, r3, r4, r5, r6⟩ := h
  have e0 := (e b (by omega) (by omega)).2.1
  have e9 := (e (b + 1433) (by omega) (by omega)).2.1
  exact ⟨h0.up hc (e _ (by omega) (by omega)), h1.up hc (fun n g1 g2 => e n (by omega) (by omega)), h2.up hc (fun n g1 g2 => e n (by omega) (by omega)), h3.up hc (fun n g1 g2 => e n (by omega) (by omega)), h4.up hc (fun n g1 g2 => e n (by omega) (by omega)), h5.up hc (fun n g1 g2 => e n (by omega) (by omega)), h6.up hc (e _ (by omega) (by omega)), fun i hi => ⟨by rw [e9]; exact (h7 i hi).1, (h7 i hi).2.up hc (fun n g1 g2 => e n (by omega) (by omega))⟩, h8.up hc (e _ (by omega) (by omega)), by rw [e0]; exact r0, by rw [e0]; exact r1, by rw [e0]; exact r2, by rw [e0]; exact r3, by rw [e0]; exact r4, by rw [e0]; exact r5, by rw [e0]; exact r6⟩
theorem KT.up9 {σ σ' : vS} {v v' : vV} {b : Nat} {T : gT} (h : KT v b T) (e : ∀ n, b ≤ n → n < b + 1603 → kAg σ v σ' v' n) : KT v' b T :=
  ⟨h.t.of (e _ (by omega) (by omega)).2.2 (e _ (by omega) (by omega)).2.2, h.c.up (fun n g1 g2 => e n (by omega) (by omega)), h.n.up (fun n g1 g2 => e n (by omega) (by omega)), fun m hm => by rw [(e _ (by omega) (by omega)).2.2]; exact h.tr m hm, h.d.up (fun n g1 g2 => e n (by omega) (by omega)), fun i hi => ⟨fun m hm => by rw [(e _ (by omega) (by omega)).2.2]; exact (h.s hi).1 m hm, by rw [(e (b + 1602) (by omega) (by omega)).2.2]; exact (h.s hi).2.1, fun Y hY => ((h.s hi).2.2 Y hY).up (fun n g1 g2 => e n (by omega) (by omega))⟩⟩
theorem law_fin {σ2 σ3 σ4 : vS} {v2 v3 v4 : vV} {a L : Nat} {xs : Nat → Int32} (hL : L ≤ 260) (hT : kLT σ2 0) (hK : KT v2 0 gT0) (hq : kLT σ4 1603) (hR : KT v4 1603 gT0) (hc2 : σ2.1 = 1603) (hc4 : σ4.1 = 3206) (ha3 : ∀ n, n ≠ 1603 → kAg σ2 v2 σ3 v3 n) (ha4 : ∀ n, n < 1603 → kAg σ3 v3 σ4 v4 n) : vG (kZl a L xs) M_L_law 16 [some (.ref (a + 1000000)), some (.ref (0)), some (.ref (1603)), none, none, none, none, none, none] [] (4 * (112720 - 0), 24 * (112720 - 0)) ((σ4.1, σ4.2.1, σ4.2.2.1, false), v4) (vN (fun o _ => o = some (.int (nI 1)))) := by
  have hA : ∀ n, n < 1603 → kAg σ2 v2 σ4 v4 n := fun n h => (ha3 n (by omega)).tr (ha4 n h)
  refine law_loop ?_ ?_ rfl hL ⟨hK.up9 (σ := σ2) (σ' := σ4) (fun n _ h => hA n (by omega)), hR⟩
  · exact hT.up9 (σ' := (σ4.1, σ4.2.1, σ4.2.2.1, false)) (v := v2) (v' := v4) (by show σ2.1 ≤ σ4.1; omega) (fun n _ h => hA n (by omega))
  · exact hq.up9 (σ' := (σ4.1, σ4.2.1, σ4.2.2.1, false)) (v := v4) (v' := v4) (Nat.le_refl _) (fun n _ _ => ⟨rfl, rfl, rfl⟩)
set_option maxHeartbeats 4000000 in
set_option maxRecDepth 100000 in
theorem law_start {σ : vS} {v : vV} {a L : Nat} {xs : Nat → Int32} (hL : L ≤ 260) (hc : σ.1 = 0) (hf : σ.2.2.2 = true) : vG (kZl a L xs) M_L_law 0 [some (.ref (a + 1000000)), none, none, none, none, none, none, none, none] [] (460000, 2900000) (σ, v) (vN (fun o _ => o = some (.int (nI 1)))) := by
  refine AG_newO (N := 0) hc hf (by decide) dL_law_0 kX6 nL_8 nnX6 niX6 (by decide) (fun σ1 v1 hc1 hf1 ha1 hk1 hz1 => ?_)
  refine G_dup dL_law_3 rfl ?_
  refine AG_callI (p := 0) (w := 1603) (rest := [.ref 0]) (As := []) dL_law_4 lL_191 yk_X6_init yi_X6_init rfl rfl ⟨Nat.le_of_ble_eq_true rfl, Nat.le_of_ble_eq_true rfl⟩ rfl rfl (Nat.le_of_ble_eq_true rfl) (by decide) hc1 hf1 (by decide) rfl (c_X6_init hc1 hf1 hk1 hz1 (by decide)) (fun σ2 v2 hc2 hf2 ha2 hk2 hp2 => ?_)
  obtain ⟨hT, hK⟩ := hp2
  refine G_astore_n (ls2 := [some (.ref (a + 1000000)), some (.ref 0), none, none, none, none, none, none, none]) dL_law_7 rfl (by decide) rfl ?_
  refine AG_newO (N := 1603) hc2 hf2 (by decide) dL_law_8 kX6 nL_8 nnX6 niX6 (by decide) (fun σ3 v3 hc3 hf3 ha3 hk3 hz3 => ?_)
  refine G_dup dL_law_11 rfl ?_
  refine AG_callI (p := 1603) (w := 1603) (rest := [.ref 1603]) (As := []) dL_law_12 lL_191 yk_X6_init yi_X6_init rfl rfl ⟨Nat.le_of_ble_eq_true rfl, Nat.le_of_ble_eq_true rfl⟩ rfl rfl (Nat.le_of_ble_eq_true rfl) (by decide) hc3 hf3 (by decide) rfl (c_X6_init hc3 hf3 hk3 hz3 (by decide)) (fun σ4 v4 hc4 hf4 ha4 hk4 hp4 => ?_)
  obtain ⟨hq, hR⟩ := hp4
  refine G_astore_n (ls2 := [some (.ref (a + 1000000)), some (.ref 0), some (.ref 1603), none, none, none, none, none, none]) dL_law_15 rfl (by decide) rfl ?_
  refine G_off ?_
  refine G_bud (b2 := (4 * (112720 - 0), 24 * (112720 - 0))) (by decide) ?_
  exact law_fin hL hT hK hq hR hc2 hc4 ha3 ha4
