
/-! copies of rows, new objects and arrays, references that are laid, constructors -/
theorem P_copy {M : vR} {pc idx : Nat} {ls : List (Option Value)} {st : List Value} {b : Nat × Nat} {σ : vS} {v : vV} {Q : vO → vM → Prop} {n0 n1 l0 l1 : Nat} {sp dp n : Int32} (js jd jn : Nat) (hd : decode (vCC M) pc = .ok (.invokestatic idx, 3)) (hl : Cond.methodLink (vOwn M) idx arraycopyName ∈ aw) (hn0 : vK σ n0 8 l0) (hn1 : vK σ n1 8 l1) (e1 : sp = nI js) (e2 : dp = nI jd) (e3 : n = nI jn) (b1 : js + jn ≤ l0) (b2 : jd + jn ≤ l1) (g1 : l0 < 2147483648) (g2 : l1 < 2147483648) (hR : 1 ≤ (vRm M).frames ∧ (st.map fun v => v.category).sum + 18 ≤ (vRm M).locals)
    (K : vP M (pc + 3) ls st b (σ, vUA v n1 (va_cpy (v n0) (v n1) js jd jn)) Q) : vP M pc ls (.int n :: .int dp :: .ref n1 :: .int sp :: .ref n0 :: st) b (σ, v) Q := by
  intro p l e s m args below meth c D yc hz Qs X E H locs cells slots lsA hL hH hS h1 h2 h3
  subst e1; subst e2; subst e3
  rw [List.map_cons, List.map_cons, List.map_cons, List.map_cons, List.map_cons, vph_ref hn0.1.2, vph_ref hn1.1.2]
  have c1 : (nI js).toNatClampNeg = js := nI_clamp (by omega)
  have c2 : (nI jd).toNatClampNeg = jd := nI_clamp (by omega)
  have c3 : (nI jn).toNatClampNeg = jn := nI_clamp (by omega)
  refine va_copyi X.1 X.2.1 (X.2.2.1.trans hL.1.symm) X.2.2.2.1 (X.2.2.2.2.1 _ hl) (X.2.2.2.2.1 _ wac_n) (X.2.2.2.2.1 _ wac_s) (X.2.2.2.2.1 _ wac_i) X.2.2.2.2.2.1 hH vW_D hS n0 n1 0 0 ((vW_get hn0.1.1).trans (by rw [vE_i hn0])) ((vW_get hn1.1.1).trans (by rw [vE_i hn1])) rfl rfl rfl (nI_pos (by omega)) (nI_pos (by omega)) (nI_pos (by omega)) (by rw [c1, c3]; exact b1) (by rw [c2, c3]; exact b2) (fun _ _ => rfl) hR.1 ?_ hd (fun H1 locs1 hP1 _ hS1 => K p l e s m args below meth c D yc hz Qs X E H1 locs1 cells slots lsA hL (by rw [c1, c2, c3, vW_putA hn1] at hP1; exact hP1) hS1 h1 h2 h3)
  rw [vcat_sum]
  exact hR.2
def vNew (μ : vM) (kl : Nat × Nat) : vM := ((μ.1.1 + 1, va_up μ.1.2.1 μ.1.1 kl, (fun a k => if a = μ.1.1 then none else μ.1.2.2.1 a k), μ.1.2.2.2), fun a k => if a = μ.1.1 then 0 else μ.2 a k)
theorem vNew_W {yc : Nat → ClassId} {hz : Nat} {μ : vM} {kl : Nat × Nat} : vW yc hz (vNew μ kl) = vW yc hz μ ++ [(hz + μ.1.1, vE yc hz (vNew μ kl) μ.1.1)] := by
  simp only [vW, vNew, List.range_succ, List.map_append, List.map_cons, List.map_nil]
  congr 1
  apply List.map_congr_left
  intro a ha
  have hne : ¬ a = μ.1.1 := by have := List.mem_range.mp ha; omega
  simp only [vE, va_up, vFs, vRf, hne, if_false]
theorem P_newO {M : vR} {pc idx ci : Nat} {ls : List (Option Value)} {st : List Value} {b : Nat × Nat} {μ : vM} {Q : vO → vM → Prop} {q : vw_C} (hd : decode (vCC M) pc = .ok (.new idx, 3)) (hq : vCk ci q) (hcl : Cond.classLink (vOwn M) idx q.1 ∈ aw) (hins : Cond.instantiable q.1 q.2.2 ∈ aw) (hini : Cond.initialized q.1 ∈ aw) (hb : 1 ≤ b.1 ∧ vNs ci ≤ b.2) (hal : μ.1.2.2.2 = true) (hN : μ.1.1 < 1000000) (K : vP M (pc + 3) ls (.ref μ.1.1 :: st) (b.1 - 1, b.2 - vNs ci) (vNew μ (ci, 0)) Q) : vP M pc ls st b μ Q := by
  intro p l e s m args below meth c D yc hz Qs X E H locs cells slots lsA hL hH hS h1 h2 h3
  obtain ⟨c1, c2, c3, c4, c5, c6, ty, c7, c8, c9⟩ := hq
  have hKn := X.2.2.2.2.2.1.1 ci _ c1
  intro T hT S
  have hsz : H.size = hz + μ.1.1 := by have := vsize S (by rw [hT]; exact hH) (by rw [hT]; exact hS) X.2.2.2.2.2.2.1 (h3 hal); rw [hT] at this; exact this
  suffices G : W p l e (vRm M) s m args below meth c H locs cells slots Qs (F0 m pc lsA (st.map (vph hz))) from G T hT S
  refine W.newcK X.1 X.2.1 X.2.2.2.1 (X.2.2.2.2.1 _ hcl) (X.2.2.2.2.1 _ hins) (X.2.2.2.2.1 _ hini) rfl hd (by have := hb.1; omega) (by have := hb.2; omega) hKn.2.1 rfl (fun H1 kC hkC e1 z1 o1 => ?_)
  have hk : ∀ (k : Nat) (x : Nat × va_E), (vW yc hz μ)[k]? = some x → H1[x.1]? = H[x.1]? := fun k x hx => o1 x.1 ((hH k x hx).lt)
  have K9 := K p l e s m args below meth c D yc hz Qs X E H1 locs (cells + 1) (slots + q.2.2) lsA hL ?_ ⟨Nat.le_trans hS.1 (by omega), fun x g1 g2 => (o1 x (Nat.lt_of_lt_of_le g1 hS.1)).trans (hS.2.1 x g1 g2), hS.2.2⟩ (by have := hb.1; show cells + 1 + (b.1 - 1) ≤ _; omega) (by have := hb.2; show slots + q.2.2 + (b.2 - vNs ci) ≤ _; omega) (fun _ => by have := h3 hal; show hz + (μ.1.1 + 1) = _; omega)
  · rw [List.map_cons, vph_ref hN, ← hsz] at K9
    exact K9
  · show va_P D vwCl (vW yc hz (vNew μ (ci, 0))) H1
    rw [vNew_W]
    refine (va_P.kept hH hk).app (fun k x hx => ?_)
    have hz9 : k < 1 := (List.getElem?_eq_some_iff.mp hx).1
    rw [show k = 0 by omega, List.getElem?_cons_zero, Option.some.injEq] at hx
    subst hx
    rw [vE_o (μ := vNew μ (ci, 0)) (ln := 0) ⟨⟨Nat.lt_succ_self _, hN⟩, by simp [vNew, va_up]⟩ c3, ← hsz]
    refine ⟨_, c1, (u_born ty (fun w h => X.2.2.2.2.1 _ h) c4 hKn hkC e1 c7).to (fun j hj => ?_)⟩
    have hj2 : j < vNs ci := by rw [← c2]; exact hj
    show _ = (vFs hz (vNew μ (ci, 0)) ci μ.1.1).getD j .null
    rw [List.getD_eq_getElem?_getD]
    cases hb9 : vIs ci j with
    | true => rw [vFs_i hj2 hb9, c8 j hj hb9]; simp [vNew]; rfl
    | false => rw [vFs_r hj2 hb9, (c9 j hj hb9).1]; simp [vNew, vRf, va_rf]
theorem vT_int {D : va_G} {yc : Nat → ClassId} {s : State} (h : va_K D vwCl (vT yc) s) : s.vm.findClass ("[" ++ FieldType.int.toString) = some (yc 0) := (h.2 0 _ rfl).2
theorem vT_bool {D : va_G} {yc : Nat → ClassId} {s : State} (h : va_K D vwCl (vT yc) s) : s.vm.findClass ("[" ++ FieldType.boolean.toString) = some (yc 1) := (h.2 1 _ rfl).2
/-- a new array of numbers, of the kinds 8 int, 9 boolean, 12 long -/
theorem P_newA {M : vR} {pc : Nat} {ls : List (Option Value)} {st : List Value} {b : Nat × Nat} {μ : vM} {Q : vO → vM → Prop} {at9 : ArrayType} {n : Int32} (jn kd : Nat) (hd : decode (vCC M) pc = .ok (.newarray at9, 2)) (hk : (at9 = .int ∧ kd = 8) ∨ (at9 = .boolean ∧ kd = 9) ∨ False) (hw : Cond.arrayClass (newarray.typeOf at9) ∈ aw) (e1 : n = nI jn) (g1 : jn < 1000000) (hb : 1 ≤ b.1 ∧ jn ≤ b.2) (hal : μ.1.2.2.2 = true) (hN : μ.1.1 < 1000000) (K : vP M (pc + 2) ls (.ref μ.1.1 :: st) (b.1 - 1, b.2 - jn) (vNew μ (kd, jn)) Q) : vP M pc ls (.int n :: st) b μ Q := by
  intro p l e s m args below meth c D yc hz Qs X E H locs cells slots lsA hL hH hS h1 h2 h3
  subst e1
  intro T hT S
  have hsz : H.size = hz + μ.1.1 := by have := vsize S (by rw [hT]; exact hH) (by rw [hT]; exact hS) X.2.2.2.2.2.2.1 (h3 hal); rw [hT] at this; exact this
  suffices G : W p l e (vRm M) s m args below meth c H locs cells slots Qs (F0 m pc lsA (.int (nI jn) :: st.map (vph hz))) from G T hT S
  refine va_newaK X.1 X.2.1 (X.2.2.2.2.1 _ hw) rfl hd (rest := st.map (vph hz)) (n := nI jn) (N := jn) rfl (nI_pos (by omega)) (nI_clamp (by omega)) (by rcases hk with ⟨h, -⟩ | ⟨h, -⟩ | ⟨h, -⟩ <;> subst h <;> simp only [newarray.typeOf, componentBytes] <;> omega) (by have := hb.1; omega) (by have := hb.2; omega) rfl (fun H1 cA e1 z1 o1 hA9 hf9 => ?_)
  have hk9 : ∀ (k : Nat) (x : Nat × va_E), (vW yc hz μ)[k]? = some x → H1[x.1]? = H[x.1]? := fun k x hx => o1 x.1 ((hH k x hx).lt)
  have K9 := K p l e s m args below meth c D yc hz Qs X E H1 locs (cells + 1) (slots + jn) lsA hL ?_ ⟨Nat.le_trans hS.1 (by omega), fun x g1 g2 => (o1 x (Nat.lt_of_lt_of_le g1 hS.1)).trans (hS.2.1 x g1 g2), hS.2.2⟩ (by have := hb.1; show cells + 1 + (b.1 - 1) ≤ _; omega) (by have := hb.2; show slots + jn + (b.2 - jn) ≤ _; omega) (fun _ => by have := h3 hal; show hz + (μ.1.1 + 1) = _; omega)
  · rw [List.map_cons, vph_ref hN, ← hsz] at K9
    exact K9
  · show va_P D vwCl (vW yc hz (vNew μ (kd, jn))) H1
    rw [vNew_W]
    refine (va_P.kept hH hk9).app (fun k x hx => ?_)
    have hz9 : k < 1 := (List.getElem?_eq_some_iff.mp hx).1
    rw [show k = 0 by omega, List.getElem?_cons_zero, Option.some.injEq] at hx
    subst hx
    have hK0 : vK (vNew μ (kd, jn)).1 μ.1.1 kd jn := ⟨⟨Nat.lt_succ_self _, hN⟩, by simp [vNew, va_up]⟩
    rcases hk with ⟨h, h'⟩ | ⟨h, h'⟩ | ⟨h, h'⟩ <;> subst h <;> subst h'
    · have := (vT_int X.2.2.2.2.2.1).symm.trans hf9
      cases this
      rw [vE_i hK0, ← hsz]
      show H1[H.size]? = _
      rw [e1]
      simp [vNew, vp_cell]; rfl
    · have := (vT_bool X.2.2.2.2.2.1).symm.trans hf9
      cases this
      rw [vE_z hK0, ← hsz]
      show H1[H.size]? = _
      rw [e1]
      simp [vNew, vp_cell]; rfl
def vWr (w : Nat → Nat → Option Nat) (n k t : Nat) : Nat → Nat → Option Nat := fun a j => if a = n ∧ j = k then some t else w a j
def vPutR (μ : vM) (n k t : Nat) : vM := ((μ.1.1, μ.1.2.1, vWr μ.1.2.2.1 n k t, μ.1.2.2.2), μ.2)
theorem vFs_setR {hz : Nat} {μ : vM} {ci n k t : Nat} (hi : vIs ci k = false) : (vFs hz μ ci n).set k (.ref (hz + t)) = vFs hz (vPutR μ n k t) ci n := by
  refine List.ext_getElem? fun j => ?_
  rw [List.getElem?_set]
  split
  · rename_i e
    subst e
    split
    · rename_i h
      rw [vFs_len] at h
      rw [vFs_r h hi]; simp [vPutR, vRf, vWr, va_rf]
    · rename_i h
      rw [vFs_len] at h
      symm
      rw [List.getElem?_eq_none_iff, vFs_len]
      omega
  · rename_i e
    by_cases hj : j < vNs ci
    · cases hb : vIs ci j with
      | true => rw [vFs_i hj hb, vFs_i hj hb]; rfl
      | false =>
        rw [vFs_r hj hb, vFs_r hj hb]
        have e2 : ¬ j = k := fun q => e q.symm
        simp [vPutR, vRf, vWr, e2]
    · rw [List.getElem?_eq_none_iff.mpr (by rw [vFs_len]; omega), List.getElem?_eq_none_iff.mpr (by rw [vFs_len]; omega)]
theorem vPutR_ne {yc : Nat → ClassId} {hz : Nat} {μ : vM} {n k t j : Nat} (h : j ≠ n) : vE yc hz (vPutR μ n k t) j = vE yc hz μ j := by simp [vE, vFs, vRf, vPutR, vWr, h]
/-- a final reference is laid, in its constructor -/
theorem P_putr {M : vR} {pc idx ci k ln n t : Nat} {ls : List (Option Value)} {st : List Value} {b : Nat × Nat} {μ : vM} {Q : vO → vM → Prop} {q : vw_C} (hd : decode (vCC M) pc = .ok (.putfield idx, 3)) (hq : vCk ci q) (hw : Cond.fieldLink (vOwn M) idx q.1 (q.2.1 k).2.1 (q.2.1 k).2.2.1 ∈ aw) (hi : vIs ci k = false) (hk : k < vNs ci) (hf : (q.2.1 k).2.2.2 = true) (hnm : vNm M = "<init>") (how : q.1 = vOwn M) (hn : vK μ.1 n ci ln) (ht : t < 1000000) (K : vP M (pc + 3) ls st b (vPutR μ n k t) Q) : vP M pc ls (.ref t :: .ref n :: st) b μ Q := by
  intro p l e s m args below meth c D yc hz Qs X E H locs cells slots lsA hL hH hS h1 h2 h3
  obtain ⟨c1, c2, c3, c4, c5, c6, ty, c7, c8, c9⟩ := hq
  rw [List.map_cons, List.map_cons, vph_ref hn.1.2, vph_ref ht]
  have hk2 : k < q.2.2 := by rw [c2]; exact hk
  refine va_putF (v := .ref (hz + t)) (D := D) (ci := ci) X.1 X.2.1 X.2.2.2.2.1 c4 ty c7 c6 X.2.2.2.1 X.2.2.2.2.2.1 hH vW_D hS n ((vW_get hn.1.1).trans (by rw [vE_o hn c3])) c1 k hk2 (X.2.2.2.2.1 _ hw) (fun x hx => by rw [c5 k hk2] at hx; exact hx) hf (X.2.2.2.2.2.2.2.2.2.2.2.trans hnm) ((c5 k hk2).trans how) (c7 k hk2) ((c9 k hk2 hi).2.1 _) ((c9 k hk2 hi).2.2 _) (by rw [vFs_len]; exact hk) hd (fun H1 locs1 hP1 _ hS1 => K p l e s m args below meth c D yc hz Qs X E H1 locs1 cells slots lsA hL ?_ hS1 h1 h2 h3)
  rw [vFs_setR hi, vW_set (μ := μ) (μ' := vPutR μ n k t) (yc := yc) (hz := hz) (n := n) rfl (fun _ => by rw [vE_o (μ := vPutR μ n k t) hn c3]) (fun j hj => vPutR_ne hj)] at hP1
  exact hP1
/-- a final number is laid, in its constructor -/
theorem P_putiF {M : vR} {pc idx ci k ln n : Nat} {x : Int32} {ls : List (Option Value)} {st : List Value} {b : Nat × Nat} {σ : vS} {v : vV} {Q : vO → vM → Prop} {q : vw_C} (hd : decode (vCC M) pc = .ok (.putfield idx, 3)) (hq : vCk ci q) (hw : Cond.fieldLink (vOwn M) idx q.1 (q.2.1 k).2.1 (q.2.1 k).2.2.1 ∈ aw) (hi : vIs ci k = true) (hk : k < vNs ci) (hf : (q.2.1 k).2.2.2 = true) (hnm : vNm M = "<init>") (how : q.1 = vOwn M) (hn : vK σ n ci ln) (K : vP M (pc + 3) ls st b (σ, vU v n k x) Q) : vP M pc ls (.int x :: .ref n :: st) b (σ, v) Q := by
  intro p l e s m args below meth c D yc hz Qs X E H locs cells slots lsA hL hH hS h1 h2 h3
  obtain ⟨c1, c2, c3, c4, c5, c6, ty, c7, c8, c9⟩ := hq
  rw [List.map_cons, List.map_cons, vph_ref hn.1.2]
  have hk2 : k < q.2.2 := by rw [c2]; exact hk
  exact va_putF (v := .int x) (D := D) (ci := ci) X.1 X.2.1 X.2.2.2.2.1 c4 ty c7 c6 X.2.2.2.1 X.2.2.2.2.2.1 hH vW_D hS n ((vW_get hn.1.1).trans (by rw [vE_o hn c3])) c1 k hk2 (X.2.2.2.2.1 _ hw) (fun x hx => by rw [c5 k hk2] at hx; exact hx) hf (X.2.2.2.2.2.2.2.2.2.2.2.trans hnm) ((c5 k hk2).trans how) (c7 k hk2) (by rw [c8 k hk2 hi]; rfl) (by rw [c8 k hk2 hi]; rfl) (by rw [vFs_len]; exact hk) hd (fun H1 locs1 hP1 _ hS1 => K p l e s m args below meth c D yc hz Qs X E H1 locs1 cells slots lsA hL (by rw [vW_put (yc := yc) (hz := hz) (v := v) (x := x) hn c3 hi] at hP1; exact hP1) hS1 h1 h2 h3)
/-- Object's constructor -/
theorem P_oinit {M : vR} {pc idx n : Nat} {ls : List (Option Value)} {st : List Value} {b : Nat × Nat} {μ : vM} {Q : vO → vM → Prop} (hd : decode (vCC M) pc = .ok (.invokespecial idx, 3)) (hl : Cond.methodLink (vOwn M) idx objectInit ∈ aw) (hR : 1 ≤ (vRm M).frames ∧ (st.map fun v => v.category).sum + 12 ≤ (vRm M).locals) (hn : n < 1000000) (K : vP M (pc + 3) ls st b μ Q) : vP M pc ls (.ref n :: st) b μ Q := by
  intro p l e s m args below meth c D yc hz Qs X E H locs cells slots lsA hL hH hS h1 h2 h3
  rw [List.map_cons, vph_ref hn]
  refine W.objInit X.1 X.2.1 X.2.2.2.1 (X.2.2.2.2.1 _ hl) (X.2.2.2.2.1 _ woi_i) (X.2.2.2.2.1 _ woi_c) rfl (hL.1.trans X.2.2.1.symm) rfl hd hR.1 ?_ (K p l e s m args below meth c D yc hz Qs X E H locs cells slots lsA hL hH hS h1 h2 h3)
  have := hR.2
  rw [← vcat_sum hz] at this
  simpa [JFrame.monitorRoom] using this
theorem P_callI {M z : vR} {y : MethodName} {idx pc n np : Nat} {ls : List (Option Value)} {st rest As : List Value} {b : Nat × Nat} {μ : vM} {Q : vO → vM → Prop} {Qc : Option Value → vM → Prop} (hd : decode (vCC M) pc = .ok (.invokespecial idx, 3)) (hl : Cond.methodLink (vOwn M) idx y ∈ aw) (hy : vY z y np) (hv : Cond.instanceMethod y ∈ aw) (hnm : y.name = "<init>") (hrt : vRt z = none) (hR : (vRm z).frames + 1 ≤ (vRm M).frames ∧ 8 + (vNL z + 11) + (vRm z).locals ≤ (vRm M).locals) (hn : n < 1000000) (hst : st = As.reverse ++ .ref n :: rest) (hnp : As.length = np) (hcat : (rest.map fun v => v.category).sum ≤ 8) (hb : (vRm z).cells ≤ b.1 ∧ (vRm z).slots ≤ b.2)
    (hc : vC z y (.ref n :: As) μ Qc) (hal : ∀ o μ', Qc o μ' → μ'.1.2.2.2 = true → μ.1.2.2.2 = true ∧ μ'.1.1 = μ.1.1 + (vRm z).cells) (k : ∀ (o : Option Value) (μ' : vM), Qc o μ' → vP M (pc + 3) ls (o.toList ++ rest) (b.1 - (vRm z).cells, b.2 - (vRm z).slots) μ' Q) : vP M pc ls st b μ Q := by
  intro p l e s m args below meth c D yc hz Qs X E H locs cells slots lsA hL hH hS h1 h2 h3
  subst hst
  intro T hT S
  have hal9 : μ.1.2.2.2 = true → hz + μ.1.1 = H.size := fun g => by have := vsize S (by rw [hT]; exact hH) (by rw [hT]; exact hS) X.2.2.2.2.2.2.1 (h3 g); rw [hT] at this; omega
  have hG : GoodIn (Cond.code y (vCC z) (vNL z) (vRt z) :: aw) (Cond.code y (vCC z) (vNL z) (vRt z) :: aw) := aw_sub0 hy.1
  have hts : ∀ w ∈ Cond.code y (vCC z) (vNL z) (vRt z) :: aw, w.before args s = true := fun w h => (List.mem_cons.mp h).elim (fun g => by rw [g]; exact X.2.2.2.2.1 _ hy.1) (X.2.2.2.2.1 w)
  refine vrun_k (st := (As.reverse ++ .ref n :: rest).map (vph hz)) hb hal k X E hL hS h1 h2 h3 (va_runI (own := vOwn M) (cc := vCC M) (nL := vNL M) (Ts := aw) (maxL := vNL z) (bytes := vCC z) (b := hz + n) (As := As.map (vph hz)) (rest := rest.map (vph hz)) (n := np) ⟨X.1, X.2.1, X.2.2.1, X.2.2.2.1, X.2.2.2.2.1⟩ (hc l D yc hz X.2.2.2.2.2.2.2.1)
    (cwI (Ts := Cond.code y (vCC z) (vNL z) (vRt z) :: aw) (ws' := aw) np hts hG (by rw [hrt]) rfl rfl (X.2.2.2.2.1 _ hy.2.1) (X.2.2.2.2.1 _ hl) (X.2.2.2.2.1 _ hv) hnm hy.2.2 hR)
    ⟨vPc_blind, fun U hU hW => by
      have := vPc_at (As := .ref n :: As) hH X.2.2.2.2.2.1 hS X.2.2.2.2.2.2.1 X.2.2.2.2.2.2.2.2.2.2.1 hal9 hU hW
      rw [List.map_cons, vph_ref hn] at this
      exact this⟩ rfl (by rw [List.length_map]; exact hnp) (hL.1) (by rw [vmap_rev, List.map_cons, vph_ref hn]) (lv_room (by rw [vcat_sum]; exact hcat)) hd ⟨by have := hb.1; omega, by have := hb.2; omega⟩) T hT S
theorem P_callIN {M z : vR} {y : MethodName} {idx pc n np : Nat} {ls : List (Option Value)} {st rest As : List Value} {b : Nat × Nat} {μ : vM} {Q : vO → vM → Prop} {Qc : Option Value → vM → Prop} (hd : decode (vCC M) pc = .ok (.invokespecial idx, 3)) (hl : Cond.methodLinkNest (vOwn M) idx y RX6 ∈ tables_1) (hy : vY z y np) (hv : Cond.instanceMethod y ∈ aw) (hnm : y.name = "<init>") (hrt : vRt z = none) (hR : (vRm z).frames + 1 ≤ (vRm M).frames ∧ 8 + (vNL z + 11) + (vRm z).locals ≤ (vRm M).locals) (hn : n < 1000000) (hst : st = As.reverse ++ .ref n :: rest) (hnp : As.length = np) (hcat : (rest.map fun v => v.category).sum ≤ 8) (hb : (vRm z).cells ≤ b.1 ∧ (vRm z).slots ≤ b.2)
    (hc : vC z y (.ref n :: As) μ Qc) (hal : ∀ o μ', Qc o μ' → μ'.1.2.2.2 = true → μ.1.2.2.2 = true ∧ μ'.1.1 = μ.1.1 + (vRm z).cells) (k : ∀ (o : Option Value) (μ' : vM), Qc o μ' → vP M (pc + 3) ls (o.toList ++ rest) (b.1 - (vRm z).cells, b.2 - (vRm z).slots) μ' Q) : vP M pc ls st b μ Q := by
  intro p l e s m args below meth c D yc hz Qs X E H locs cells slots lsA hL hH hS h1 h2 h3
  subst hst
  intro T hT S
  have hal9 : μ.1.2.2.2 = true → hz + μ.1.1 = H.size := fun g => by have := vsize S (by rw [hT]; exact hH) (by rw [hT]; exact hS) X.2.2.2.2.2.2.1 (h3 g); rw [hT] at this; omega
  have hG : GoodIn (Cond.code y (vCC z) (vNL z) (vRt z) :: aw) (Cond.code y (vCC z) (vNL z) (vRt z) :: aw) := aw_sub0 hy.1
  have hts : ∀ w ∈ Cond.code y (vCC z) (vNL z) (vRt z) :: aw, w.before args s = true := fun w h => (List.mem_cons.mp h).elim (fun g => by rw [g]; exact X.2.2.2.2.1 _ hy.1) (X.2.2.2.2.1 w)
  refine vrun_k (st := (As.reverse ++ .ref n :: rest).map (vph hz)) hb hal k X E hL hS h1 h2 h3 (va_runIN (own := vOwn M) (cc := vCC M) (nL := vNL M) (Ts := aw) (maxL := vNL z) (bytes := vCC z) (b := hz + n) (As := As.map (vph hz)) (rest := rest.map (vph hz)) (n := np) ⟨X.1, X.2.1, X.2.2.1, X.2.2.2.1, X.2.2.2.2.1⟩ (hc l D yc hz X.2.2.2.2.2.2.2.1)
    ⟨va_cnB (Ts := Cond.code y (vCC z) (vNL z) (vRt z) :: aw) (ws' := aw) np hts hG (by rw [hrt]) rfl rfl (X.2.2.2.2.2.2.2.2.2.2.1.2.2.2 _ hl rfl) (X.2.2.2.2.1 _ hy.2.1) hy.2.2 hR, hnm, X.2.2.2.2.1 _ hv⟩
    ⟨vPc_blind, fun U hU hW => by
      have := vPc_at (As := .ref n :: As) hH X.2.2.2.2.2.1 hS X.2.2.2.2.2.2.1 X.2.2.2.2.2.2.2.2.2.2.1 hal9 hU hW
      rw [List.map_cons, vph_ref hn] at this
      exact this⟩ rfl (by rw [List.length_map]; exact hnp) (hL.1) (by rw [vmap_rev, List.map_cons, vph_ref hn]) (lv_room (by rw [vcat_sum]; exact hcat)) hd ⟨by have := hb.1; omega, by have := hb.2; omega⟩) T hT S
theorem P_callSN {M z : vR} {y : MethodName} {idx pc np : Nat} {ls : List (Option Value)} {st rest As : List Value} {b : Nat × Nat} {μ : vM} {Q : vO → vM → Prop} {Qc : Option Value → vM → Prop} (hd : decode (vCC M) pc = .ok (.invokestatic idx, 3)) (hl : Cond.methodLinkNest (vOwn M) idx y RX6 ∈ tables_1) (hy : vY z y np) (hv : Cond.static y ∈ aw) (hR : (vRm z).frames + 1 ≤ (vRm M).frames ∧ 8 + (vNL z + 11) + (vRm z).locals ≤ (vRm M).locals) (hst : st = As.reverse ++ rest) (hnp : As.length = np) (hcat : (rest.map fun v => v.category).sum ≤ 8) (hb : (vRm z).cells ≤ b.1 ∧ (vRm z).slots ≤ b.2)
    (hc : vC z y As μ Qc) (hal : ∀ o μ', Qc o μ' → μ'.1.2.2.2 = true → μ.1.2.2.2 = true ∧ μ'.1.1 = μ.1.1 + (vRm z).cells) (k : ∀ (o : Option Value) (μ' : vM), Qc o μ' → vP M (pc + 3) ls (o.toList ++ rest) (b.1 - (vRm z).cells, b.2 - (vRm z).slots) μ' Q) : vP M pc ls st b μ Q := by
  intro p l e s m args below meth c D yc hz Qs X E H locs cells slots lsA hL hH hS h1 h2 h3
  subst hst
  intro T hT S
  have hal9 : μ.1.2.2.2 = true → hz + μ.1.1 = H.size := fun g => by have := vsize S (by rw [hT]; exact hH) (by rw [hT]; exact hS) X.2.2.2.2.2.2.1 (h3 g); rw [hT] at this; omega
  have hG : GoodIn (Cond.code y (vCC z) (vNL z) (vRt z) :: aw) (Cond.code y (vCC z) (vNL z) (vRt z) :: aw) := aw_sub0 hy.1
  have hts : ∀ w ∈ Cond.code y (vCC z) (vNL z) (vRt z) :: aw, w.before args s = true := fun w h => (List.mem_cons.mp h).elim (fun g => by rw [g]; exact X.2.2.2.2.1 _ hy.1) (X.2.2.2.2.1 w)
  refine vrun_k (st := (As.reverse ++ rest).map (vph hz)) hb hal k X E hL hS h1 h2 h3 (va_runSN (own := vOwn M) (cc := vCC M) (nL := vNL M) (Ts := aw) (As := As.map (vph hz)) (rest := rest.map (vph hz)) (n := np) ⟨X.1, X.2.1, X.2.2.1, X.2.2.2.1, X.2.2.2.2.1⟩ (hc l D yc hz X.2.2.2.2.2.2.2.1)
    ⟨va_cnB (Ts := Cond.code y (vCC z) (vNL z) (vRt z) :: aw) (ws' := aw) np hts hG rfl rfl rfl (X.2.2.2.2.2.2.2.2.2.2.1.2.2.2 _ hl rfl) (X.2.2.2.2.1 _ hy.2.1) hy.2.2 hR, X.2.2.2.2.1 _ hv, trivial⟩
    ⟨vPc_blind, fun U hU hW => vPc_at (As := As) hH X.2.2.2.2.2.1 hS X.2.2.2.2.2.2.1 X.2.2.2.2.2.2.2.2.2.2.1 hal9 hU hW⟩ rfl (by rw [List.length_map]; exact hnp) (hL.1) (by rw [vmap_rev]) (lv_room (by rw [vcat_sum]; exact hcat)) hd ⟨by have := hb.1; omega, by have := hb.2; omega⟩) T hT S
