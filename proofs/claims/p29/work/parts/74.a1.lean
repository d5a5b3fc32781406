
theorem vT_C {D : va_G} {yc : Nat → ClassId} {s : State} (h : va_K D vwCl (vT yc) s) : s.vm.findClass ("[" ++ (FieldType.object "ClubRolls$Club").toString) = some (yc 2) := by
  obtain ⟨-, kA, comp, -, -, -, h4⟩ := h.2 2 _ rfl
  exact h4
theorem vT_M {D : va_G} {yc : Nat → ClassId} {s : State} (h : va_K D vwCl (vT yc) s) : s.vm.findClass ("[" ++ (FieldType.object "ClubRolls$Member").toString) = some (yc 3) := by
  obtain ⟨-, kA, comp, -, -, -, h4⟩ := h.2 3 _ rfl
  exact h4
/-- a new array of clubs or of members -/
theorem P_newQ {M : vR} {pc idx : Nat} {ls : List (Option Value)} {st : List Value} {b : Nat × Nat} {μ : vM} {Q : vO → vM → Prop} {n : Int32} {C : String} (jn kd : Nat) (hd : decode (vCC M) pc = .ok (.anewarray idx, 3)) (hk : (C = "ClubRolls$Club" ∧ kd = 10) ∨ (C = "ClubRolls$Member" ∧ kd = 11)) (hcl : Cond.classLink (vOwn M) idx C ∈ aw) (ho : Cond.arrayOver (.object C) ∈ tables_1) (e1 : n = nI jn) (g1 : jn < 1000000) (hb : 1 ≤ b.1 ∧ jn ≤ b.2) (hal : μ.1.2.2.2 = true) (hN : μ.1.1 < 1000000) (K : vP M (pc + 3) ls (.ref μ.1.1 :: st) (b.1 - 1, b.2 - jn) (vNew μ (kd, jn)) Q) : vP M pc ls (.int n :: st) b μ Q := by
  intro p l e s m args below meth c D yc hz Qs X E H locs cells slots lsA hL hH hS h1 h2 h3
  subst e1
  intro T hT S
  have hsz : H.size = hz + μ.1.1 := by have := vsize S (by rw [hT]; exact hH) (by rw [hT]; exact hS) X.2.2.2.2.2.2.1 (h3 hal); rw [hT] at this; exact this
  have c1 : (nI jn).toNatClampNeg = jn := nI_clamp (by omega)
  have hAO : va_AO C s := X.2.2.2.2.2.2.2.2.2.2.1.2.2.2 _ ho rfl
  suffices G : W p l e (vRm M) s m args below meth c H locs cells slots Qs (F0 m pc lsA (.int (nI jn) :: st.map (vph hz))) from G T hT S
  refine W.anew X.1 X.2.1 X.2.2.2.1 (X.2.2.2.2.1 _ hcl) (va_AO.use hAO) rfl hd rfl (nI_pos (by omega)) (by rw [c1]; omega) (by have := hb.1; omega) (by rw [c1]; have := hb.2; omega) fun cA kA comp f1 f2 f3 f4 => ?_
  rw [c1]
  generalize hH1 : H.push ({ cls := cA, slots := Array.replicate jn .null, vm := .none } : Cell) = H1
  have z1 : H1.size = H.size + 1 := by rw [← hH1, Array.size_push]
  have e1 : H1[H.size]? = some (arrV cA jn (fun _ => .null)) := by rw [← hH1, Array.getElem?_push_size, ← arrV_new]
  have o1 : ∀ q : Nat, q < H.size → H1[q]? = H[q]? := fun q hq => by rw [← hH1, Array.getElem?_push, if_neg (Nat.ne_of_lt hq)]
  have hk9 : ∀ (k : Nat) (x : Nat × va_E), (vW yc hz μ)[k]? = some x → H1[x.1]? = H[x.1]? := fun k x hx => o1 x.1 ((hH k x hx).lt)
  have K9 := K p l e s m args below meth c D yc hz Qs X E H1 locs (cells + 1) (slots + jn) lsA hL ?_ ⟨Nat.le_trans hS.1 (by omega), fun x g1 g2 => (o1 x (Nat.lt_of_lt_of_le g1 hS.1)).trans (hS.2.1 x g1 g2), hS.2.2⟩ (by have := hb.1; show cells + 1 + (b.1 - 1) ≤ _; omega) (by have := hb.2; show slots + jn + (b.2 - jn) ≤ _; omega) (fun _ => by have := h3 hal; show hz + (μ.1.1 + 1) = _; omega)
  · rw [List.map_cons, vph_ref hN, ← hsz] at K9
    exact K9
  · show va_P D vwCl (vW yc hz (vNew μ (kd, jn))) H1
    rw [vNew_W]
    refine (va_P.kept hH hk9).app (fun k x hx => ?_)
    have hz9 : k < 1 := (List.getElem?_eq_some_iff.mp hx).1
    rw [show k = 0 by omega, List.getElem?_cons_zero, Option.some.injEq] at hx
    subst hx
    have hK0 : vK (vNew μ (kd, jn)).1 μ.1.1 kd jn := ⟨⟨Nat.lt_succ_self _, hN⟩, by simp [vNew, va_up]⟩
    rcases hk with ⟨h, h'⟩ | ⟨h, h'⟩ <;> subst h <;> subst h'
    · have := (vT_C X.2.2.2.2.2.1).symm.trans f1
      cases this
      rw [vE_c hK0, ← hsz]
      show H1[H.size]? = some (vp_cell _ _)
      rw [vp_cell_q, e1]
      simp [vNew, va_rf]
    · have := (vT_M X.2.2.2.2.2.1).symm.trans f1
      cases this
      rw [vE_m hK0, ← hsz]
      show H1[H.size]? = some (vp_cell _ _)
      rw [vp_cell_q, e1]
      simp [vNew, va_rf]
theorem vRf_up {hz : Nat} {w : Nat → Nat → Option Nat} {n j t : Nat} : va_up (fun k => (w n k).map (fun x => hz + x)) j (some (hz + t)) = fun k => (vWr w n j t n k).map (fun x => hz + x) := by
  funext k
  by_cases e : k = j
  · subst e; simp [va_up, vWr]
  · simp [va_up, vWr, e]
/-- an element of such an array -/
theorem P_aastC {M : vR} {pc : Nat} {ls : List (Option Value)} {st : List Value} {b : Nat × Nat} {μ : vM} {Q : vO → vM → Prop} {i : Int32} {ln n t lt : Nat} (j : Nat) (hd : decode (vCC M) pc = .ok (.aastore, 1)) (hn : vK μ.1 n 10 ln) (hi : i = nI j) (hj : j < ln) (hl : ln < 2147483648) (ht : vK μ.1 t 0 lt) (K : vP M (pc + 1) ls st b (vPutR μ n j t) Q) : vP M pc ls (.ref t :: .int i :: .ref n :: st) b μ Q := by
  intro p l e s m args below meth c D yc hz Qs X E H locs cells slots lsA hL hH hS h1 h2 h3
  rw [List.map_cons, List.map_cons, List.map_cons, vph_ref hn.1.2, vph_ref ht.1.2]
  obtain ⟨g1, g2⟩ := vIn hi hj hl
  refine va_astq X.1 X.2.1 X.2.2.2.2.2.1 hH vW_D hS n 2 t 0 (r := (RX0, TX0, 9)) ((vW_get hn.1.1).trans (by rw [vE_c hn])) rfl ((vW_get ht.1.1).trans (by rw [vE_o ht (by decide)])) kX0.1 g1 hd (fun H1 locs1 hP1 _ hS1 => K p l e s m args below meth c D yc hz Qs X E H1 locs1 cells slots lsA hL ?_ hS1 h1 h2 h3)
  rw [g2, vRf_up, vW_set (μ := μ) (μ' := vPutR μ n j t) (yc := yc) (hz := hz) (n := n) rfl (fun _ => by rw [vE_c (μ := vPutR μ n j t) hn]; rfl) (fun k hk => vPutR_ne hk)] at hP1
  exact hP1
theorem P_aastM {M : vR} {pc : Nat} {ls : List (Option Value)} {st : List Value} {b : Nat × Nat} {μ : vM} {Q : vO → vM → Prop} {i : Int32} {ln n t lt : Nat} (j : Nat) (hd : decode (vCC M) pc = .ok (.aastore, 1)) (hn : vK μ.1 n 11 ln) (hi : i = nI j) (hj : j < ln) (hl : ln < 2147483648) (ht : vK μ.1 t 2 lt) (K : vP M (pc + 1) ls st b (vPutR μ n j t) Q) : vP M pc ls (.ref t :: .int i :: .ref n :: st) b μ Q := by
  intro p l e s m args below meth c D yc hz Qs X E H locs cells slots lsA hL hH hS h1 h2 h3
  rw [List.map_cons, List.map_cons, List.map_cons, vph_ref hn.1.2, vph_ref ht.1.2]
  obtain ⟨g1, g2⟩ := vIn hi hj hl
  refine va_astq X.1 X.2.1 X.2.2.2.2.2.1 hH vW_D hS n 3 t 2 (r := (RX2, TX2, 16)) ((vW_get hn.1.1).trans (by rw [vE_m hn])) rfl ((vW_get ht.1.1).trans (by rw [vE_o ht (by decide)])) kX2.1 g1 hd (fun H1 locs1 hP1 _ hS1 => K p l e s m args below meth c D yc hz Qs X E H1 locs1 cells slots lsA hL ?_ hS1 h1 h2 h3)
  rw [g2, vRf_up, vW_set (μ := μ) (μ' := vPutR μ n j t) (yc := yc) (hz := hz) (n := n) rfl (fun _ => by rw [vE_m (μ := vPutR μ n j t) hn]; rfl) (fun k hk => vPutR_ne hk)] at hP1
  exact hP1
