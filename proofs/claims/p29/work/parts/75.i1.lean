
/-! WHAT GROWS WHILE OBJECTS ARE MADE -/
def kAg (σ : vS) (v : vV) (σ' : vS) (v' : vV) (n : Nat) : Prop := σ'.2.1 n = σ.2.1 n ∧ σ'.2.2.1 n = σ.2.2.1 n ∧ v' n = v n
theorem kAg.rf {σ : vS} {v : vV} {n : Nat} : kAg σ v σ v n := ⟨rfl, rfl, rfl⟩
theorem kAg.tr {σ σ' σ'' : vS} {v v' v'' : vV} {n : Nat} (h : kAg σ v σ' v' n) (g : kAg σ' v' σ'' v'' n) : kAg σ v σ'' v'' n := ⟨g.1.trans h.1, g.2.1.trans h.2.1, g.2.2.trans h.2.2⟩
theorem vK.up {σ σ' : vS} {v v' : vV} {n c l : Nat} (h : vK σ n c l) (hc : σ.1 ≤ σ'.1) (e : kAg σ v σ' v' n) : vK σ' n c l := ⟨⟨Nat.lt_of_lt_of_le h.1.1 hc, h.1.2⟩, e.1.trans h.2⟩
theorem kLP.up {σ σ' : vS} {v v' : vV} {p l : Nat} (h : kLP σ p l) (hc : σ.1 ≤ σ'.1) (e : ∀ n, p ≤ n → n < p + 4 → kAg σ v σ' v' n) : kLP σ' p l := by
  obtain ⟨h0, h1, h2, h3, h4, h5, h6⟩ := h
  have e0 := e p (by omega) (by omega)
  exact ⟨h0.up hc e0, h1.up hc (e _ (by omega) (by omega)), h2.up hc (e _ (by omega) (by omega)), h3.up hc (e _ (by omega) (by omega)), by rw [e0.2.1]; exact h4, by rw [e0.2.1]; exact h5, by rw [e0.2.1]; exact h6⟩
theorem kLM.up {σ σ' : vS} {v v' : vV} {p : Nat} (h : kLM σ p) (hc : σ.1 ≤ σ'.1) (e : ∀ n, p ≤ n → n < p + 13 → kAg σ v σ' v' n) : kLM σ' p := by
  obtain ⟨h0, h1, h2, h3, h4, h5, h6⟩ := h
  have e0 := e p (by omega) (by omega)
  exact ⟨h0.up hc e0, h1.up hc (fun n g1 g2 => e n (by omega) (by omega)), h2.up hc (fun n g1 g2 => e n (by omega) (by omega)), h3.up hc (fun n g1 g2 => e n (by omega) (by omega)), by rw [e0.2.1]; exact h4, by rw [e0.2.1]; exact h5, by rw [e0.2.1]; exact h6⟩
theorem kLC.up {σ σ' : vS} {v v' : vV} {b : Nat} (h : kLC σ b) (hc : σ.1 ≤ σ'.1) (e : ∀ n, b ≤ n → n < b + 84 → kAg σ v σ' v' n) : kLC σ' b := by
  obtain ⟨h0, h1, h2, h3, h4, h5, h6, h7, h8, h9, ha, hb⟩ := h
  have e0 := e b (by omega) (by omega)
  have e1 := e (b + 1) (by omega) (by omega)
  have e2 := e (b + 2) (by omega) (by omega)
  exact ⟨h0.up hc e0, h1.up hc e1, h2.up hc e2, h3.up hc (e _ (by omega) (by omega)), h4.up hc (e _ (by omega) (by omega)), h5.up hc (e _ (by omega) (by omega)), by rw [e0.2.1]; exact h6, by rw [e0.2.1]; exact h7, by rw [e0.2.1]; exact h8, by rw [e2.2.1]; exact h9, by rw [e2.2.1]; exact ha, fun m hm => ⟨by rw [e1.2.1]; exact (hb m hm).1, (hb m hm).2.up hc (fun n g1 g2 => e n (by omega) (by omega))⟩⟩
theorem kTX.up {σ σ' : vS} {v v' : vV} {p : Nat} (h : kTX σ p) (hc : σ.1 ≤ σ'.1) (e : ∀ n, p ≤ n → n < p + 2 → kAg σ v σ' v' n) : kTX σ' p := by
  obtain ⟨h0, h1, h2⟩ := h
  have e0 := e p (by omega) (by omega)
  exact ⟨h0.up hc e0, h1.up hc (e _ (by omega) (by omega)), by rw [e0.2.1]; exact h2⟩
theorem kLH.up {σ σ' : vS} {v v' : vV} {h : Nat} (H : kLH σ h) (hc : σ.1 ≤ σ'.1) (e : ∀ n, h ≤ n → n < h + 1178 → kAg σ v σ' v' n) : kLH σ' h := by
  obtain ⟨h0, h1, h2, h3⟩ := H
  have e0 := e h (by omega) (by omega)
  have e1 := e (h + 1) (by omega) (by omega)
  exact ⟨h0.up hc e0, h1.up hc e1, by rw [e0.2.1]; exact h2, fun i hi => ⟨by rw [e1.2.1]; exact (h3 i hi).1, (h3 i hi).2.up hc (fun n g1 g2 => e n (by omega) (by omega))⟩⟩
theorem CR.up {c : Nat} {σ σ' : vS} {v v' : vV} {b : Nat} {S : mS} (h : CR c v b S) (e : ∀ n, b ≤ n → n < b + 84 → kAg σ v σ' v' n) : CR c v' b S := h.of (fun n g1 g2 _ => (e n g1 g2).2.2)
theorem MR.up {σ σ' : vS} {v v' : vV} {p m : Nat} {S : mS} (h : MR v p m S) (e : ∀ n, p ≤ n → n < p + 13 → kAg σ v σ' v' n) : MR v' p m S := h.of (fun n g1 g2 => (e n g1 g2).2.2) rfl rfl rfl
theorem vNew_ag {σ : vS} {v : vV} {kl : Nat × Nat} {n : Nat} (h : n ≠ σ.1) : kAg σ v (vNew (σ, v) kl).1 (vNew (σ, v) kl).2 n := by
  refine ⟨?_, ?_, ?_⟩
  · show va_up σ.2.1 σ.1 kl n = _
    unfold va_up
    exact if_neg h
  · show (fun k => if n = σ.1 then none else σ.2.2.1 n k) = _
    funext k
    exact if_neg h
  · show (fun k => if n = σ.1 then 0 else v n k) = _
    funext k
    exact if_neg h
theorem vNew_at {σ : vS} {v : vV} {kl : Nat × Nat} : (vNew (σ, v) kl).1.2.1 σ.1 = kl := by
  show va_up σ.2.1 σ.1 kl σ.1 = _
  unfold va_up
  exact if_pos rfl
theorem vNew_0 {σ : vS} {v : vV} {kl : Nat × Nat} (k : Nat) : (vNew (σ, v) kl).2 σ.1 k = nI 0 := if_pos rfl
theorem A_bud {M : vR} {pc : Nat} {ls : List (Option Value)} {st : List Value} {b : Nat × Nat} {μ : vM} {Q : vO → vM → Prop} {b2 : Nat × Nat} (h : b2.1 ≤ b.1 ∧ b2.2 ≤ b.2) (k : vP M pc ls st b2 μ Q) : vP M pc ls st b μ Q := by
  intro p l e s m args below meth c D yc hz Qs X E H locs cells slots lsA hL hH hS h1 h2 h3
  exact k p l e s m args below meth c D yc hz Qs X E H locs cells slots lsA hL hH hS (by omega) (by omega) h3
theorem A_newO {M : vR} {pc idx ci N : Nat} {ls : List (Option Value)} {st : List Value} {b : Nat × Nat} {σ : vS} {v : vV} {Q : vO → vM → Prop} {q : vw_C} (hc : σ.1 = N) (hf : σ.2.2.2 = true) (hN : N < 1000000) (hd : decode (vCC M) pc = .ok (.new idx, 3)) (hq : vCk ci q) (hcl : Cond.classLink (vOwn M) idx q.1 ∈ aw) (hins : Cond.instantiable q.1 q.2.2 ∈ aw) (hini : Cond.initialized q.1 ∈ aw) (hb : 1 ≤ b.1 ∧ vNs ci ≤ b.2)
    (K : ∀ (σ1 : vS) (v1 : vV), σ1.1 = N + 1 → σ1.2.2.2 = true → (∀ n, n ≠ N → kAg σ v σ1 v1 n) → σ1.2.1 N = (ci, 0) → (∀ k, v1 N k = nI 0) → vP M (pc + 3) ls (.ref N :: st) (b.1 - 1, b.2 - vNs ci) (σ1, v1) Q) : vP M pc ls st b (σ, v) Q := by
  subst hc
  exact P_newO hd hq hcl hins hini hb hf hN (K (vNew (σ, v) (ci, 0)).1 (vNew (σ, v) (ci, 0)).2 rfl hf (fun n hn => vNew_ag hn) vNew_at vNew_0)
theorem A_newA {M : vR} {pc N : Nat} {ls : List (Option Value)} {st : List Value} {b : Nat × Nat} {σ : vS} {v : vV} {Q : vO → vM → Prop} {at9 : ArrayType} {n : Int32} (jn kd : Nat) (hc : σ.1 = N) (hf : σ.2.2.2 = true) (hN : N < 1000000) (hd : decode (vCC M) pc = .ok (.newarray at9, 2)) (hk : (at9 = .int ∧ kd = 8) ∨ (at9 = .boolean ∧ kd = 9) ∨ False) (hw : Cond.arrayClass (newarray.typeOf at9) ∈ aw) (e1 : n = nI jn) (g1 : jn < 1000000) (hb : 1 ≤ b.1 ∧ jn ≤ b.2)
    (K : ∀ (σ1 : vS) (v1 : vV), σ1.1 = N + 1 → σ1.2.2.2 = true → (∀ n, n ≠ N → kAg σ v σ1 v1 n) → σ1.2.1 N = (kd, jn) → (∀ k, v1 N k = nI 0) → vP M (pc + 2) ls (.ref N :: st) (b.1 - 1, b.2 - jn) (σ1, v1) Q) : vP M pc ls (.int n :: st) b (σ, v) Q := by
  subst hc
  exact P_newA jn kd hd hk hw e1 g1 hb hf hN (K (vNew (σ, v) (kd, jn)).1 (vNew (σ, v) (kd, jn)).2 rfl hf (fun n hn => vNew_ag hn) vNew_at vNew_0)
theorem A_newQ {M : vR} {pc idx N : Nat} {ls : List (Option Value)} {st : List Value} {b : Nat × Nat} {σ : vS} {v : vV} {Q : vO → vM → Prop} {n : Int32} {C : String} (jn kd : Nat) (hc : σ.1 = N) (hf : σ.2.2.2 = true) (hN : N < 1000000) (hd : decode (vCC M) pc = .ok (.anewarray idx, 3)) (hk : (C = "ClubRolls$Club" ∧ kd = 10) ∨ (C = "ClubRolls$Member" ∧ kd = 11)) (hcl : Cond.classLink (vOwn M) idx C ∈ aw) (ho : Cond.arrayOver (.object C) ∈ tables_1) (e1 : n = nI jn) (g1 : jn < 1000000) (hb : 1 ≤ b.1 ∧ jn ≤ b.2)
    (K : ∀ (σ1 : vS) (v1 : vV), σ1.1 = N + 1 → σ1.2.2.2 = true → (∀ n, n ≠ N → kAg σ v σ1 v1 n) → σ1.2.1 N = (kd, jn) → (∀ k, v1 N k = nI 0) → vP M (pc + 3) ls (.ref N :: st) (b.1 - 1, b.2 - jn) (σ1, v1) Q) : vP M pc ls (.int n :: st) b (σ, v) Q := by
  subst hc
  exact P_newQ jn kd hd hk hcl ho e1 g1 hb hf hN (K (vNew (σ, v) (kd, jn)).1 (vNew (σ, v) (kd, jn)).2 rfl hf (fun n hn => vNew_ag hn) vNew_at vNew_0)
theorem vPutR_r {σ : vS} {v : vV} {n k t : Nat} : (∀ m, m ≠ n → (vPutR (σ, v) n k t).1.2.2.1 m = σ.2.2.1 m) ∧ (∀ j, j ≠ k → (vPutR (σ, v) n k t).1.2.2.1 n j = σ.2.2.1 n j) ∧ (vPutR (σ, v) n k t).1.2.2.1 n k = some t := by
  refine ⟨fun m hm => ?_, fun j hj => if_neg (fun q => hj q.2), if_pos ⟨rfl, rfl⟩⟩
  funext j
  exact if_neg (fun q => hm q.1)
theorem A_putr {M : vR} {pc idx ci k ln n t : Nat} {ls : List (Option Value)} {st : List Value} {b : Nat × Nat} {σ : vS} {v : vV} {Q : vO → vM → Prop} {q : vw_C} (hd : decode (vCC M) pc = .ok (.putfield idx, 3)) (hq : vCk ci q) (hw : Cond.fieldLink (vOwn M) idx q.1 (q.2.1 k).2.1 (q.2.1 k).2.2.1 ∈ aw) (hi : vIs ci k = false) (hk : k < vNs ci) (hf : (q.2.1 k).2.2.2 = true) (hnm : vNm M = "<init>") (how : q.1 = vOwn M) (hn : vK σ n ci ln) (ht : t < 1000000)
    (K : ∀ (σ1 : vS), σ1.1 = σ.1 → σ1.2.2.2 = σ.2.2.2 → σ1.2.1 = σ.2.1 → (∀ m, m ≠ n → σ1.2.2.1 m = σ.2.2.1 m) → (∀ j, j ≠ k → σ1.2.2.1 n j = σ.2.2.1 n j) → σ1.2.2.1 n k = some t → vP M (pc + 3) ls st b (σ1, v) Q) : vP M pc ls (.ref t :: .ref n :: st) b (σ, v) Q :=
  P_putr hd hq hw hi hk hf hnm how hn ht (K (vPutR (σ, v) n k t).1 rfl rfl rfl vPutR_r.1 vPutR_r.2.1 vPutR_r.2.2)
theorem A_aastC {M : vR} {pc : Nat} {ls : List (Option Value)} {st : List Value} {b : Nat × Nat} {σ : vS} {v : vV} {Q : vO → vM → Prop} {i : Int32} {ln n t lt : Nat} (j : Nat) (hd : decode (vCC M) pc = .ok (.aastore, 1)) (hn : vK σ n 10 ln) (hi : i = nI j) (hj : j < ln) (hl : ln < 2147483648) (ht : vK σ t 0 lt)
    (K : ∀ (σ1 : vS), σ1.1 = σ.1 → σ1.2.2.2 = σ.2.2.2 → σ1.2.1 = σ.2.1 → (∀ m, m ≠ n → σ1.2.2.1 m = σ.2.2.1 m) → (∀ k, k ≠ j → σ1.2.2.1 n k = σ.2.2.1 n k) → σ1.2.2.1 n j = some t → vP M (pc + 1) ls st b (σ1, v) Q) : vP M pc ls (.ref t :: .int i :: .ref n :: st) b (σ, v) Q :=
  P_aastC j hd hn hi hj hl ht (K (vPutR (σ, v) n j t).1 rfl rfl rfl vPutR_r.1 vPutR_r.2.1 vPutR_r.2.2)
theorem A_aastM {M : vR} {pc : Nat} {ls : List (Option Value)} {st : List Value} {b : Nat × Nat} {σ : vS} {v : vV} {Q : vO → vM → Prop} {i : Int32} {ln n t lt : Nat} (j : Nat) (hd : decode (vCC M) pc = .ok (.aastore, 1)) (hn : vK σ n 11 ln) (hi : i = nI j) (hj : j < ln) (hl : ln < 2147483648) (ht : vK σ t 2 lt)
    (K : ∀ (σ1 : vS), σ1.1 = σ.1 → σ1.2.2.2 = σ.2.2.2 → σ1.2.1 = σ.2.1 → (∀ m, m ≠ n → σ1.2.2.1 m = σ.2.2.1 m) → (∀ k, k ≠ j → σ1.2.2.1 n k = σ.2.2.1 n k) → σ1.2.2.1 n j = some t → vP M (pc + 1) ls st b (σ1, v) Q) : vP M pc ls (.ref t :: .int i :: .ref n :: st) b (σ, v) Q :=
  P_aastM j hd hn hi hj hl ht (K (vPutR (σ, v) n j t).1 rfl rfl rfl vPutR_r.1 vPutR_r.2.1 vPutR_r.2.2)
/-- what a constructor leaves: the nodes from its object on are w, those ahead are as they were -/
def kIn (σ : vS) (v : vV) (p w : Nat) (post : vS → vV → Prop) : Option Value → vM → Prop := fun o μ' => o = none ∧ ∃ (σ1 : vS) (v1 : vV), μ' = (σ1, v1) ∧ σ1.1 = p + w ∧ σ1.2.2.2 = true ∧ (∀ n, n < p → kAg σ v σ1 v1 n) ∧ σ1.2.1 p = σ.2.1 p ∧ post σ1 v1
theorem A_callI {M z : vR} {y : MethodName} {idx pc p w np : Nat} {ls : List (Option Value)} {st rest As : List Value} {b : Nat × Nat} {σ : vS} {v : vV} {Q : vO → vM → Prop} {post : vS → vV → Prop} (hd : decode (vCC M) pc = .ok (.invokespecial idx, 3)) (hl : Cond.methodLink (vOwn M) idx y ∈ aw) (hy : vY z y np) (hv : Cond.instanceMethod y ∈ aw) (hnm : y.name = "<init>") (hrt : vRt z = none) (hR : (vRm z).frames + 1 ≤ (vRm M).frames ∧ 8 + (vNL z + 11) + (vRm z).locals ≤ (vRm M).locals) (hst : st = As.reverse ++ .ref p :: rest) (hnp : As.length = np) (hcat : (rest.map fun v => v.category).sum ≤ 8) (hb : (vRm z).cells ≤ b.1 ∧ (vRm z).slots ≤ b.2)
    (hc0 : σ.1 = p + 1) (hf : σ.2.2.2 = true) (hp : p < 1000000) (hw : w = (vRm z).cells + 1) (hc : vC z y (.ref p :: As) (σ, v) (kIn σ v p w post))
    (K : ∀ (σ1 : vS) (v1 : vV), σ1.1 = p + w → σ1.2.2.2 = true → (∀ n, n < p → kAg σ v σ1 v1 n) → σ1.2.1 p = σ.2.1 p → post σ1 v1 → vP M (pc + 3) ls rest (b.1 - (vRm z).cells, b.2 - (vRm z).slots) (σ1, v1) Q) : vP M pc ls st b (σ, v) Q :=
  P_callI hd hl hy hv hnm hrt hR hp hst hnp hcat hb hc (fun o μ' h _ => by
    obtain ⟨-, σ1, v1, rfl, g1, g2, -⟩ := h
    exact ⟨hf, by show σ1.1 = σ.1 + _; omega⟩) (fun o μ' h => by
    obtain ⟨rfl, σ1, v1, rfl, g1, g2, g3, g4, g5⟩ := h
    exact K σ1 v1 g1 g2 g3 g4 g5)
theorem A_callIN {M z : vR} {y : MethodName} {idx pc p w np : Nat} {ls : List (Option Value)} {st rest As : List Value} {b : Nat × Nat} {σ : vS} {v : vV} {Q : vO → vM → Prop} {post : vS → vV → Prop} (hd : decode (vCC M) pc = .ok (.invokespecial idx, 3)) (hl : Cond.methodLinkNest (vOwn M) idx y RX6 ∈ tables_1) (hy : vY z y np) (hv : Cond.instanceMethod y ∈ aw) (hnm : y.name = "<init>") (hrt : vRt z = none) (hR : (vRm z).frames + 1 ≤ (vRm M).frames ∧ 8 + (vNL z + 11) + (vRm z).locals ≤ (vRm M).locals) (hst : st = As.reverse ++ .ref p :: rest) (hnp : As.length = np) (hcat : (rest.map fun v => v.category).sum ≤ 8) (hb : (vRm z).cells ≤ b.1 ∧ (vRm z).slots ≤ b.2)
    (hc0 : σ.1 = p + 1) (hf : σ.2.2.2 = true) (hp : p < 1000000) (hw : w = (vRm z).cells + 1) (hc : vC z y (.ref p :: As) (σ, v) (kIn σ v p w post))
    (K : ∀ (σ1 : vS) (v1 : vV), σ1.1 = p + w → σ1.2.2.2 = true → (∀ n, n < p → kAg σ v σ1 v1 n) → σ1.2.1 p = σ.2.1 p → post σ1 v1 → vP M (pc + 3) ls rest (b.1 - (vRm z).cells, b.2 - (vRm z).slots) (σ1, v1) Q) : vP M pc ls st b (σ, v) Q :=
  P_callIN hd hl hy hv hnm hrt hR hp hst hnp hcat hb hc (fun o μ' h _ => by
    obtain ⟨-, σ1, v1, rfl, g1, g2, -⟩ := h
    exact ⟨hf, by show σ1.1 = σ.1 + _; omega⟩) (fun o μ' h => by
    obtain ⟨rfl, σ1, v1, rfl, g1, g2, g3, g4, g5⟩ := h
    exact K σ1 v1 g1 g2 g3 g4 g5)
set_option maxHeartbeats 4000000 in
set_option maxRecDepth 100000 in
theorem c_X4_init {σ : vS} {v : vV} {p : Nat} {l : Nat} (hl : l ≤ 12) (hc0 : σ.1 = p + 1) (hf0 : σ.2.2.2 = true) (hk0 : σ.2.1 (p) = (4, 0)) (hz0 : ∀ k, v (p) k = nI 0) (hp0 : p + 4 < 1000000) : vC M_X4_init yX4_init [.ref (p), .int (nI (l))] (σ, v) (kIn σ v p 4 (fun σ1 v1 => kLP σ1 p l ∧ RP v1 p [] ∧ (∀ k, v1 (p + 1) k = nI 0) ∧ (∀ k, v1 (p + 2) k = nI 0) ∧ ∀ k, v1 (p + 3) k = nI 0)) := by
  have hO0 : ∀ n, n < p → kAg σ v σ v n := fun _ _ => kAg.rf
  refine vC_of (ls := [some (.ref (p)), some (.int (nI (l)))]) pn_X4 rfl rfl (Nat.le_of_ble_eq_true rfl) rfl ?_
  refine A_bud (b2 := (3, 36)) (by decide) ?_
  refine P_aload_n dX4_init_0 rfl rfl ?_
  refine P_oinit dX4_init_1 lX4_1 (by decide) (by omega) ?_
  refine P_aload_n dX4_init_4 rfl rfl ?_
  refine P_iload_n dX4_init_5 rfl rfl ?_
  refine A_newA (N := p + 1) (l) 8 hc0 hf0 (by omega) dX4_init_6 (Or.inl ⟨rfl, rfl⟩) wa_int rfl (by omega) ⟨by show 1 ≤ 3; omega, by show l ≤ 36; omega⟩ (fun σ1 v1 hc1 hf1 ha1 hk1 hz1 => ?_)
  replace hc1 : σ1.1 = p + 2 := by omega
  have f1 : σ1.2.1 (p) = (4, 0) := (ha1 (p) (by omega)).1.trans hk0
  have f2 : ∀ k, v1 (p) k = nI 0 := fun k => (congrFun (ha1 (p) (by omega)).2.2 k).trans (hz0 k)
  have f3 : ∀ n, n < p → kAg σ v σ1 v1 n := fun n h9 => (hO0 n h9).tr (ha1 (n) (by omega))
  refine A_bud (b2 := (2, 36 - l)) ⟨by show 2 ≤ 3 - 1; omega, by show 36 - l ≤ 36 - l; omega⟩ ?_
  refine A_putr dX4_init_8 kX4 fX4_7 rfl (by decide) rfl rfl rfl ⟨⟨(by show p < σ1.1; omega), by omega⟩, f1⟩ (by omega) (fun σ2 hc2 hf2 hp2 hq2 hr2 hs2 => ?_)
  replace hc2 : σ2.1 = p + 2 := hc2.trans hc1
  replace hf2 : σ2.2.2.2 = true := hf2.trans hf1
  have f4 : σ2.2.1 (p) = (4, 0) := (congrFun hp2 _).trans f1
  have f5 : ∀ k, v1 (p) k = nI 0 := f2
  have f6 : ∀ n, n < p → kAg σ v σ2 v1 n := fun n h9 => (f3 n h9).tr (⟨congrFun hp2 (n), hq2 (n) (by omega), rfl⟩ : kAg σ1 v1 σ2 v1 (n))
  have f7 : σ2.2.1 (p + 1) = (8, l) := (congrFun hp2 _).trans hk1
  have f8 : ∀ k, v1 (p + 1) k = nI 0 := hz1
  refine P_aload_n dX4_init_11 rfl rfl ?_
  refine P_iload_n dX4_init_12 rfl rfl ?_
  refine A_newA (N := p + 2) (l) 8 hc2 hf2 (by omega) dX4_init_13 (Or.inl ⟨rfl, rfl⟩) wa_int rfl (by omega) ⟨by show 1 ≤ 2; omega, by show l ≤ 36 - l; omega⟩ (fun σ3 v3 hc3 hf3 ha3 hk3 hz3 => ?_)
  replace hc3 : σ3.1 = p + 3 := by omega
  have f9 : σ3.2.1 (p) = (4, 0) := (ha3 (p) (by omega)).1.trans f4
  have f10 : ∀ k, v3 (p) k = nI 0 := fun k => (congrFun (ha3 (p) (by omega)).2.2 k).trans (f5 k)
  have f11 : ∀ n, n < p → kAg σ v σ3 v3 n := fun n h9 => (f6 n h9).tr (ha3 (n) (by omega))
  have f12 : σ3.2.1 (p + 1) = (8, l) := (ha3 (p + 1) (by omega)).1.trans f7
  have f13 : ∀ k, v3 (p + 1) k = nI 0 := fun k => (congrFun (ha3 (p + 1) (by omega)).2.2 k).trans (f8 k)
  have f14 : σ3.2.2.1 (p) 0 = some (p + 1) := (congrFun (ha3 (p) (by omega)).2.1 _).trans hs2
  refine A_bud (b2 := (1, 36 - l - l)) ⟨by show 1 ≤ 2 - 1; omega, by show 36 - l - l ≤ (36 - l) - l; omega⟩ ?_
  refine A_putr dX4_init_15 kX4 fX4_13 rfl (by decide) rfl rfl rfl ⟨⟨(by show p < σ3.1; omega), by omega⟩, f9⟩ (by omega) (fun σ4 hc4 hf4 hp4 hq4 hr4 hs4 => ?_)
  replace hc4 : σ4.1 = p + 3 := hc4.trans hc3
  replace hf4 : σ4.2.2.2 = true := hf4.trans hf3
  have f15 : σ4.2.1 (p) = (4, 0) := (congrFun hp4 _).trans f9
  have f16 : ∀ k, v3 (p) k = nI 0 := f10
  have f17 : ∀ n, n < p → kAg σ v σ4 v3 n := fun n h9 => (f11 n h9).tr (⟨congrFun hp4 (n), hq4 (n) (by omega), rfl⟩ : kAg σ3 v3 σ4 v3 (n))
  have f18 : σ4.2.1 (p + 1) = (8, l) := (congrFun hp4 _).trans f12
  have f19 : ∀ k, v3 (p + 1) k = nI 0 := f13
  have f20 : σ4.2.2.1 (p) 0 = some (p + 1) := (hr4 _ (by decide)).trans f14
  have f21 : σ4.2.1 (p + 2) = (8, l) := (congrFun hp4 _).trans hk3
  have f22 : ∀ k, v3 (p + 2) k = nI 0 := hz3
  refine P_aload_n dX4_init_18 rfl rfl ?_
  refine P_iload_n dX4_init_19 rfl rfl ?_
  refine A_newA (N := p + 3) (l) 8 hc4 hf4 (by omega) dX4_init_20 (Or.inl ⟨rfl, rfl⟩) wa_int rfl (by omega) ⟨by show 1 ≤ 1; omega, by show l ≤ 36 - l - l; omega⟩ (fun σ5 v5 hc5 hf5 ha5 hk5 hz5 => ?_)
  replace hc5 : σ5.1 = p + 4 := by omega
  have f23 : σ5.2.1 (p) = (4, 0) := (ha5 (p) (by omega)).1.trans f15
  have f24 : ∀ k, v5 (p) k = nI 0 := fun k => (congrFun (ha5 (p) (by omega)).2.2 k).trans (f16 k)
  have f25 : ∀ n, n < p → kAg σ v σ5 v5 n := fun n h9 => (f17 n h9).tr (ha5 (n) (by omega))
  have f26 : σ5.2.1 (p + 1) = (8, l) := (ha5 (p + 1) (by omega)).1.trans f18
  have f27 : ∀ k, v5 (p + 1) k = nI 0 := fun k => (congrFun (ha5 (p + 1) (by omega)).2.2 k).trans (f19 k)
  have f28 : σ5.2.2.1 (p) 0 = some (p + 1) := (congrFun (ha5 (p) (by omega)).2.1 _).trans f20
  have f29 : σ5.2.1 (p + 2) = (8, l) := (ha5 (p + 2) (by omega)).1.trans f21
  have f30 : ∀ k, v5 (p + 2) k = nI 0 := fun k => (congrFun (ha5 (p + 2) (by omega)).2.2 k).trans (f22 k)
  have f31 : σ5.2.2.1 (p) 1 = some (p + 2) := (congrFun (ha5 (p) (by omega)).2.1 _).trans hs4
  refine A_bud (b2 := (0, 36 - l - l - l)) ⟨by show 0 ≤ 1 - 1; omega, by show 36 - l - l - l ≤ (36 - l - l) - l; omega⟩ ?_
  refine A_putr dX4_init_22 kX4 fX4_16 rfl (by decide) rfl rfl rfl ⟨⟨(by show p < σ5.1; omega), by omega⟩, f23⟩ (by omega) (fun σ6 hc6 hf6 hp6 hq6 hr6 hs6 => ?_)
  replace hc6 : σ6.1 = p + 4 := hc6.trans hc5
  replace hf6 : σ6.2.2.2 = true := hf6.trans hf5
  have f32 : σ6.2.1 (p) = (4, 0) := (congrFun hp6 _).trans f23
  have f33 : ∀ k, v5 (p) k = nI 0 := f24
  have f34 : ∀ n, n < p → kAg σ v σ6 v5 n := fun n h9 => (f25 n h9).tr (⟨congrFun hp6 (n), hq6 (n) (by omega), rfl⟩ : kAg σ5 v5 σ6 v5 (n))
  have f35 : σ6.2.1 (p + 1) = (8, l) := (congrFun hp6 _).trans f26
  have f36 : ∀ k, v5 (p + 1) k = nI 0 := f27
  have f37 : σ6.2.2.1 (p) 0 = some (p + 1) := (hr6 _ (by decide)).trans f28
  have f38 : σ6.2.1 (p + 2) = (8, l) := (congrFun hp6 _).trans f29
  have f39 : ∀ k, v5 (p + 2) k = nI 0 := f30
  have f40 : σ6.2.2.1 (p) 1 = some (p + 2) := (hr6 _ (by decide)).trans f31
  have f41 : σ6.2.1 (p + 3) = (8, l) := (congrFun hp6 _).trans hk5
  have f42 : ∀ k, v5 (p + 3) k = nI 0 := hz5
  refine P_vret dX4_init_25 rfl ?_
  exact ⟨rfl, σ6, v5, rfl, hc6, hf6, f34, f32.trans hk0.symm, ⟨⟨⟨by omega, by omega⟩, f32⟩, ⟨⟨by omega, by omega⟩, f35⟩, ⟨⟨by omega, by omega⟩, f38⟩, ⟨⟨by omega, by omega⟩, f41⟩, f37, f40, hs6⟩, ⟨f33 3, fun k t h9 => by simp at h9⟩, f36, f39, f42⟩
set_option maxHeartbeats 4000000 in
set_option maxRecDepth 100000 in
theorem c_X3_init {σ : vS} {v : vV} {p : Nat} (hc0 : σ.1 = p + 1) (hf0 : σ.2.2.2 = true) (hk0 : σ.2.1 (p) = (3, 0)) (hz0 : ∀ k, v (p) k = nI 0) (hp0 : p + 3 < 1000000) : vC M_X3_init yX3_init [.ref (p)] (σ, v) (kIn σ v p 3 (fun σ1 v1 => (vK σ1 p 3 0 ∧ vK σ1 (p + 1) 8 6 ∧ vK σ1 (p + 2) 8 1350 ∧ σ1.2.2.1 p 0 = some (p + 1) ∧ σ1.2.2.1 p 1 = some (p + 2)) ∧ (∀ k, v1 p k = nI 0) ∧ ∀ k, v1 (p + 1) k = nI 0)) := by
  have hO0 : ∀ n, n < p → kAg σ v σ v n := fun _ _ => kAg.rf
  refine vC_of (ls := [some (.ref (p))]) pn_X3 rfl rfl (Nat.le_of_ble_eq_true rfl) rfl ?_
  refine A_bud (b2 := (2, 1356)) (by decide) ?_
  refine P_aload_n dX3_init_0 rfl rfl ?_
  refine P_oinit dX3_init_1 lX3_3 (by decide) (by omega) ?_
  refine P_aload_n dX3_init_4 rfl rfl ?_
  refine P_bipush (v := nI 6) dX3_init_5 (by decide) ?_
  refine A_newA (N := p + 1) (6) 8 hc0 hf0 (by omega) dX3_init_7 (Or.inl ⟨rfl, rfl⟩) wa_int rfl (by omega) ⟨by show 1 ≤ 2; omega, by show 6 ≤ 1356; omega⟩ (fun σ1 v1 hc1 hf1 ha1 hk1 hz1 => ?_)
  replace hc1 : σ1.1 = p + 2 := by omega
  have f1 : σ1.2.1 (p) = (3, 0) := (ha1 (p) (by omega)).1.trans hk0
  have f2 : ∀ k, v1 (p) k = nI 0 := fun k => (congrFun (ha1 (p) (by omega)).2.2 k).trans (hz0 k)
  have f3 : ∀ n, n < p → kAg σ v σ1 v1 n := fun n h9 => (hO0 n h9).tr (ha1 (n) (by omega))
  refine A_bud (b2 := (1, 1350)) ⟨by show 1 ≤ 2 - 1; omega, by show 1350 ≤ 1356 - 6; omega⟩ ?_
  refine A_putr dX3_init_9 kX3 fX3_9 rfl (by decide) rfl rfl rfl ⟨⟨(by show p < σ1.1; omega), by omega⟩, f1⟩ (by omega) (fun σ2 hc2 hf2 hp2 hq2 hr2 hs2 => ?_)
  replace hc2 : σ2.1 = p + 2 := hc2.trans hc1
  replace hf2 : σ2.2.2.2 = true := hf2.trans hf1
  have f4 : σ2.2.1 (p) = (3, 0) := (congrFun hp2 _).trans f1
  have f5 : ∀ k, v1 (p) k = nI 0 := f2
  have f6 : ∀ n, n < p → kAg σ v σ2 v1 n := fun n h9 => (f3 n h9).tr (⟨congrFun hp2 (n), hq2 (n) (by omega), rfl⟩ : kAg σ1 v1 σ2 v1 (n))
  have f7 : σ2.2.1 (p + 1) = (8, 6) := (congrFun hp2 _).trans hk1
  have f8 : ∀ k, v1 (p + 1) k = nI 0 := hz1
  refine P_aload_n dX3_init_12 rfl rfl ?_
  refine P_sipush (v := nI 1350) dX3_init_13 (by decide) ?_
  refine A_newA (N := p + 2) (1350) 8 hc2 hf2 (by omega) dX3_init_16 (Or.inl ⟨rfl, rfl⟩) wa_int rfl (by omega) ⟨by show 1 ≤ 1; omega, by show 1350 ≤ 1350; omega⟩ (fun σ3 v3 hc3 hf3 ha3 hk3 hz3 => ?_)
  replace hc3 : σ3.1 = p + 3 := by omega
  have f9 : σ3.2.1 (p) = (3, 0) := (ha3 (p) (by omega)).1.trans f4
  have f10 : ∀ k, v3 (p) k = nI 0 := fun k => (congrFun (ha3 (p) (by omega)).2.2 k).trans (f5 k)
  have f11 : ∀ n, n < p → kAg σ v σ3 v3 n := fun n h9 => (f6 n h9).tr (ha3 (n) (by omega))
  have f12 : σ3.2.1 (p + 1) = (8, 6) := (ha3 (p + 1) (by omega)).1.trans f7
  have f13 : ∀ k, v3 (p + 1) k = nI 0 := fun k => (congrFun (ha3 (p + 1) (by omega)).2.2 k).trans (f8 k)
  have f14 : σ3.2.2.1 (p) 0 = some (p + 1) := (congrFun (ha3 (p) (by omega)).2.1 _).trans hs2
  refine A_bud (b2 := (0, 0)) ⟨by show 0 ≤ 1 - 1; omega, by show 0 ≤ 1350 - 1350; omega⟩ ?_
  refine A_putr dX3_init_18 kX3 fX3_15 rfl (by decide) rfl rfl rfl ⟨⟨(by show p < σ3.1; omega), by omega⟩, f9⟩ (by omega) (fun σ4 hc4 hf4 hp4 hq4 hr4 hs4 => ?_)
  replace hc4 : σ4.1 = p + 3 := hc4.trans hc3
  replace hf4 : σ4.2.2.2 = true := hf4.trans hf3
  have f15 : σ4.2.1 (p) = (3, 0) := (congrFun hp4 _).trans f9
  have f16 : ∀ k, v3 (p) k = nI 0 := f10
  have f17 : ∀ n, n < p → kAg σ v σ4 v3 n := fun n h9 => (f11 n h9).tr (⟨congrFun hp4 (n), hq4 (n) (by omega), rfl⟩ : kAg σ3 v3 σ4 v3 (n))
  have f18 : σ4.2.1 (p + 1) = (8, 6) := (congrFun hp4 _).trans f12
  have f19 : ∀ k, v3 (p + 1) k = nI 0 := f13
  have f20 : σ4.2.2.1 (p) 0 = some (p + 1) := (hr4 _ (by decide)).trans f14
  have f21 : σ4.2.1 (p + 2) = (8, 1350) := (congrFun hp4 _).trans hk3
  have f22 : ∀ k, v3 (p + 2) k = nI 0 := hz3
  refine P_vret dX3_init_21 rfl ?_
  exact ⟨rfl, σ4, v3, rfl, hc4, hf4, f17, f15.trans hk0.symm, ⟨⟨⟨by omega, by omega⟩, f15⟩, ⟨⟨by omega, by omega⟩, f18⟩, ⟨⟨by omega, by omega⟩, f21⟩, f20, hs4⟩, f16, f19⟩
set_option maxHeartbeats 4000000 in
set_option maxRecDepth 100000 in
theorem c_X5_init {σ : vS} {v : vV} {p : Nat} (hc0 : σ.1 = p + 1) (hf0 : σ.2.2.2 = true) (hk0 : σ.2.1 (p) = (5, 0)) (hz0 : ∀ k, v (p) k = nI 0) (hp0 : p + 2 < 1000000) : vC M_X5_init yX5_init [.ref (p)] (σ, v) (kIn σ v p 2 (fun σ1 v1 => kTX σ1 p ∧ mTC v1 p (fun _ => 0) 0)) := by
  have hO0 : ∀ n, n < p → kAg σ v σ v n := fun _ _ => kAg.rf
  refine vC_of (ls := [some (.ref (p))]) pn_X5 rfl rfl (Nat.le_of_ble_eq_true rfl) rfl ?_
  refine A_bud (b2 := (1, 120)) (by decide) ?_
  refine P_aload_n dX5_init_0 rfl rfl ?_
  refine P_oinit dX5_init_1 lX5_3 (by decide) (by omega) ?_
  refine P_aload_n dX5_init_4 rfl rfl ?_
  refine P_bipush (v := nI 120) dX5_init_5 (by decide) ?_
  refine A_newA (N := p + 1) (120) 8 hc0 hf0 (by omega) dX5_init_7 (Or.inl ⟨rfl, rfl⟩) wa_int rfl (by omega) ⟨by show 1 ≤ 1; omega, by show 120 ≤ 120; omega⟩ (fun σ1 v1 hc1 hf1 ha1 hk1 hz1 => ?_)
  replace hc1 : σ1.1 = p + 2 := by omega
  have f1 : σ1.2.1 (p) = (5, 0) := (ha1 (p) (by omega)).1.trans hk0
  have f2 : ∀ k, v1 (p) k = nI 0 := fun k => (congrFun (ha1 (p) (by omega)).2.2 k).trans (hz0 k)
  have f3 : ∀ n, n < p → kAg σ v σ1 v1 n := fun n h9 => (hO0 n h9).tr (ha1 (n) (by omega))
  refine A_bud (b2 := (0, 0)) ⟨by show 0 ≤ 1 - 1; omega, by show 0 ≤ 120 - 120; omega⟩ ?_
  refine A_putr dX5_init_9 kX5 fX5_9 rfl (by decide) rfl rfl rfl ⟨⟨(by show p < σ1.1; omega), by omega⟩, f1⟩ (by omega) (fun σ2 hc2 hf2 hp2 hq2 hr2 hs2 => ?_)
  replace hc2 : σ2.1 = p + 2 := hc2.trans hc1
  replace hf2 : σ2.2.2.2 = true := hf2.trans hf1
  have f4 : σ2.2.1 (p) = (5, 0) := (congrFun hp2 _).trans f1
  have f5 : ∀ k, v1 (p) k = nI 0 := f2
  have f6 : ∀ n, n < p → kAg σ v σ2 v1 n := fun n h9 => (f3 n h9).tr (⟨congrFun hp2 (n), hq2 (n) (by omega), rfl⟩ : kAg σ1 v1 σ2 v1 (n))
  have f7 : σ2.2.1 (p + 1) = (8, 120) := (congrFun hp2 _).trans hk1
  have f8 : ∀ k, v1 (p + 1) k = nI 0 := hz1
  refine P_vret dX5_init_12 rfl ?_
  exact ⟨rfl, σ2, v1, rfl, hc2, hf2, f6, f4.trans hk0.symm, ⟨⟨⟨by omega, by omega⟩, f4⟩, ⟨⟨by omega, by omega⟩, f7⟩, hs2⟩, Nat.zero_le _, f5 1, fun i h9 => absurd h9 (Nat.not_lt_zero i)⟩
