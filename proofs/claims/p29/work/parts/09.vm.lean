
def vph (hz : Nat) : Value → Value
  | .ref n => .ref (if n < 1000000 then hz + n else n - 1000000)
  | v => v
def vRf (hz : Nat) (w : Nat → Nat → Option Nat) (n k : Nat) : Value := va_rf ((w n k).map (fun x => hz + x))
def vFs (hz : Nat) (μ : vM) (ci n : Nat) : List Value := (List.range (vNs ci)).map (fun k => if vIs ci k = true then .int (μ.2 n k) else vRf hz μ.1.2.2.1 n k)
def vE (yc : Nat → ClassId) (hz : Nat) (μ : vM) (n : Nat) : va_E :=
  if (μ.1.2.1 n).1 < 8 then .inr ((μ.1.2.1 n).1, vFs hz μ (μ.1.2.1 n).1 n)
  else if (μ.1.2.1 n).1 = 8 then .inl (yc 0, ((μ.1.2.1 n).2, .inl (μ.2 n)))
  else if (μ.1.2.1 n).1 = 9 then .inl (yc 1, ((μ.1.2.1 n).2, .inl (μ.2 n)))
  else if (μ.1.2.1 n).1 = 10 then .inl (yc 2, ((μ.1.2.1 n).2, .inr (.inr (.inr (.inr (fun k => (μ.1.2.2.1 n k).map (fun x => hz + x)))))))
  else if (μ.1.2.1 n).1 = 11 then .inl (yc 3, ((μ.1.2.1 n).2, .inr (.inr (.inr (.inr (fun k => (μ.1.2.2.1 n k).map (fun x => hz + x)))))))
  else .inl (yc 4, ((μ.1.2.1 n).2, .inr (.inl (fun k => (μ.2 n k).toInt64))))
def vW (yc : Nat → ClassId) (hz : Nat) (μ : vM) : va_W := (List.range μ.1.1).map (fun n => (hz + n, vE yc hz μ n))
def vT (yc : Nat → ClassId) : List (ClassId × FieldType) := [(yc 0, .int), (yc 1, .boolean), (yc 2, .object "ClubRolls$Club"), (yc 3, .object "ClubRolls$Member")]
def vU (v : vV) (n k : Nat) (x : Int32) : vV := fun a b => if a = n then (if b = k then x else v a b) else v a b
def vUA (v : vV) (n : Nat) (f : Nat → Int32) : vV := fun a b => if a = n then f b else v a b
def vH (D : va_G) (yc : Nat → ClassId) (hz : Nat) (μ : vM) (H : Heap) : Prop := va_P D vwCl (vW yc hz μ) H
/-- a node of a kind and length -/
def vK (σ : vS) (n ci ln : Nat) : Prop := (n < σ.1 ∧ n < 1000000) ∧ σ.2.1 n = (ci, ln)
/-- words that speak of the tables alone, each kind with a law of its own for a later state -/
def vnk : Cond → Bool
  | .methodLinkNest _ _ _ _ => true
  | .castable _ _ => true
  | .declares _ => true
  | .arrayOver (.object _) => true
  | _ => false
theorem vnk_warm {w : Cond} {s U : State} (g : vnk w = true) (hW : s.WarmedH U.vm) (h : va_Nw w s) : va_Nw w U := by
  cases w <;> first | exact va_Nw.warmM hW h | exact va_Nw.warmC hW h | exact va_Nw.warmD hW h | exact absurd (show false = true from g) Bool.false_ne_true | (rename_i ty; cases ty <;> first | exact va_AO.moved hW.alike h | exact absurd (show false = true from g) Bool.false_ne_true)
theorem vnk_same {w : Cond} {s U : State} (g : vnk w = true) (hv : s.vm = U.vm) (h : va_Nw w s) : va_Nw w U := by
  cases w <;> first | exact va_Nw.same rfl hv h | exact absurd (show false = true from g) Bool.false_ne_true | (rename_i ty; cases ty <;> first | exact va_Nw.same rfl hv h | exact va_AO.moved (hv ▸ Vm.Alike.refl s.vm) h | exact absurd (show false = true from g) Bool.false_ne_true)
def vStr : List (Nat × String) := [(46, "the character is not 0 to 255"), (57, "the text has 120 characters"), (68, "the text is not a club"), (123, "what is not 0 to 9"), (332, "there is no such member"), (172, "what is not 0 to 11"), (176, "there is no such session"), (188, "what is not 0 to 2"), (190, "there is no such note"), (192, "what is not 0 to 5"), (205, "the place is not 0 to 9"), (207, "there are 6 members"), (219, "the member does not sit, or made 4 speeches"), (227, "the set has members that there are not, or lacks the caller"), (232, "the member is gone"), (238, "there is no way from a member to itself"), (250, "the member is not gone"), (258, "the patience is not 0 to 40"), (263, "the ticks are not 1 to 60"), (268, "no state is remembered"), (274, "what is not 0 or 1, or the set is not one to call"), (286, "what is neither 0 nor 1"), (299, "a script has 1 to 3 commands"), (303, "the script is negative or has too many digits"), (310, "the turns are not 1 to 60"), (334, "there is no such save slot"), (327, "nothing has been saved in the slot")]
/-- what a throw needs of the start: two statics, the texts -/
def vTh (hz : Nat) (U : State) : Prop := vx_Zq Bundle.tN "UNASSIGNED_STACK" Bundle.steD (fun q => hz ≤ q) U U.heap ∧ vx_Zq Bundle.tN "SUPPRESSED_SENTINEL" Bundle.listD (fun q => hz ≤ q) U U.heap ∧ (∀ q ∈ vStr, ∃ sa : Nat, vk_R "ClubRolls" q.1 q.2 sa U) ∧ ∀ w ∈ tables_1, vnk w = true → va_Nw w U
def vX (M : vR) (p : Program) (l : Launch) (_ : Env) (s : State) (m : MethodId) (args : Array Value) (_ : List Frame) (meth : Method) (c : Code) (D : va_G) (yc : Nat → ClassId) (hz : Nat) : Prop :=
  p.tables.exec = Jvm.exec ∧ c.code = vCC M ∧ c.maxLocals = vNL M ∧ s.vm.findClass (vOwn M) = some m.cls ∧ (∀ w ∈ aw, w.before args s = true) ∧ va_K D vwCl (vT yc) s ∧ hz ≤ s.heap.size ∧ l.stackTraces = false ∧ meth.sig.returnType = vRt M ∧ meth.locks = false ∧ vTh hz s ∧ meth.name = vNm M
def vL (lsA : Array Slot) (nL hz : Nat) (ls : List (Option Value)) : Prop := lsA.size = nL ∧ lv_wf lsA ∧ ∀ (i : Nat) (v : Value), ls[i]? = some (some v) → lsA[i]? = some (.val (vph hz v))
def vQr (D : va_G) (yc : Nat → ClassId) (hz : Nat) (Q : vO → vM → Prop) : Array Value → State → Outcome → State → Prop := fun _ st o t => (∃ (v : Option Value) (μ : vM), o = .returned (v.map (vph hz)) ∧ Q (.inl v) μ ∧ vH D yc hz μ t.heap) ∧ va_F (fun q => hz ≤ q) st t
def vQt (D : va_G) (yc : Nat → ClassId) (hz : Nat) (Q : vO → vM → Prop) : String → State → State → Prop := fun Ex st t => (∃ μ : vM, Q (.inr Ex) μ ∧ vH D yc hz μ t.heap) ∧ va_F (fun q => hz ≤ q) st t
/-- what the ends of a body owe -/
def vEnd (M : vR) (p : Program) (l : Launch) (e : Env) (s : State) (m : MethodId) (args : Array Value) (below : List Frame) (meth : Method) (c : Code) (D : va_G) (yc : Nat → ClassId) (hz : Nat) (Q : vO → vM → Prop) (Qs : State → Prop) : Prop :=
  (∀ (o : Option Value) (pc : Nat) (lsA : Array Slot) (μ : vM) (H : Heap) (locs : List Loc) (cells slots : Nat), (match o with | none => decode (vCC M) pc = .ok (.return_, 1) ∧ vRt M = none | some (.int v) => decode (vCC M) pc = .ok (.ireturn, 1) ∧ (vRt M = some .int ∨ vRt M = some .boolean ∧ narrow .boolean (.int v) = .int v) | some (.ref _) => decode (vCC M) pc = .ok (.areturn, 1) ∧ vRt M = some (.object "ClubRolls$Club") | _ => False) → Q (.inl o) μ → vH D yc hz μ H → va_S (fun q => hz ≤ q) s.heap H locs → cells ≤ (vRm M).cells → slots ≤ (vRm M).slots →
    W p l e (vRm M) s m args below meth c H locs cells slots Qs (F0 m pc lsA ((o.map (vph hz)).toList)))
  ∧ (∀ (Ex : String) (q : Addr) (ce : Cell) (pc : Nat) (lsA : Array Slot) (st : List Value) (μ : vM) (H : Heap) (locs : List Loc) (cells slots : Nat), Q (.inr Ex) μ → vH D yc hz μ H → va_S (fun q => hz ≤ q) s.heap H locs → cells ≤ (vRm M).cells → slots ≤ (vRm M).slots → H[q]? = some ce → ce.vm = .none → s.vm.findClass Ex = some ce.cls →
    vx_W p l e (vRm M) s m args below meth c H locs cells slots Qs (F0 m pc lsA st) q)
  ∧ ((Qs = vx_MQ below (vQr D yc hz Q) (vQt D yc hz Q) args s (vRm M).cells (vRm M).slots (fun q => hz ≤ q) ∧ ∀ x ∈ c.exceptionTable.toList, False) ∨ ∀ Ex μ, ¬ Q (.inr Ex) μ)
/-- from here the method ends as Q says -/
def vP (M : vR) (pc : Nat) (ls : List (Option Value)) (st : List Value) (b : Nat × Nat) (μ : vM) (Q : vO → vM → Prop) : Prop :=
  ∀ (p : Program) (l : Launch) (e : Env) (s : State) (m : MethodId) (args : Array Value) (below : List Frame) (meth : Method) (c : Code) (D : va_G) (yc : Nat → ClassId) (hz : Nat) (Qs : State → Prop), vX M p l e s m args below meth c D yc hz → vEnd M p l e s m args below meth c D yc hz Q Qs →
  ∀ (H : Heap) (locs : List Loc) (cells slots : Nat) (lsA : Array Slot), vL lsA (vNL M) hz ls → vH D yc hz μ H → va_S (fun q => hz ≤ q) s.heap H locs → cells + b.1 ≤ (vRm M).cells → slots + b.2 ≤ (vRm M).slots → (μ.1.2.2.2 = true → hz + μ.1.1 = s.heap.size + cells) →
  W p l e (vRm M) s m args below meth c H locs cells slots Qs (F0 m pc lsA (st.map (vph hz)))
-- locals
def vdrop (ls : List (Option Value)) : Nat → List (Option Value)
  | 0 => ls
  | j + 1 => match ls[j]? with
    | some (some v) => if v.category = 2 then ls.set j none else ls
    | _ => ls
def vset (ls : List (Option Value)) (i : Nat) (x : Value) : List (Option Value) := (vdrop ls i).set i (some x)
def vset2 (ls : List (Option Value)) (i : Nat) (x : Value) : List (Option Value) := ((vdrop ls i).set i (some x)).set (i + 1) none
def vA (hz : Nat) (ls : List (Option Value)) : List (Nat × Value) := (List.range ls.length).filterMap (fun i => (ls.getD i none).map (fun v => (i, vph hz v)))
theorem vph_cat (hz : Nat) (v : Value) : (vph hz v).category = v.category := by cases v <;> rfl
theorem vA_mem {hz : Nat} {ls : List (Option Value)} {q : Nat × Value} : q ∈ vA hz ls ↔ ∃ v, ls[q.1]? = some (some v) ∧ q.2 = vph hz v := by
  obtain ⟨i, x⟩ := q
  simp only [vA, List.mem_filterMap, List.mem_range]
  constructor
  · rintro ⟨j, hj, h⟩
    simp only [List.getD_eq_getElem?_getD, List.getElem?_eq_getElem hj, Option.getD_some] at h
    cases hv : ls[j] with
    | none => rw [hv] at h; cases h
    | some v =>
      rw [hv] at h
      cases h
      exact ⟨v, by rw [List.getElem?_eq_getElem hj, hv], rfl⟩
  · rintro ⟨v, h, rfl⟩
    obtain ⟨hj, hv⟩ := List.getElem?_eq_some_iff.mp h
    refine ⟨i, hj, ?_⟩
    simp only [List.getD_eq_getElem?_getD, h, Option.getD_some, Option.map_some]
theorem vL.has {lsA : Array Slot} {nL hz : Nat} {ls : List (Option Value)} (h : vL lsA nL hz ls) : lv_has lsA nL (vA hz ls) := ⟨h.1, h.2.1, fun q hq => by
  obtain ⟨v, h1, h2⟩ := vA_mem.mp hq
  rw [h2]
  exact h.2.2 _ _ h1⟩
theorem vdrop_get {ls : List (Option Value)} {i j : Nat} {u : Value} (h : (vdrop ls i)[j]? = some (some u)) : ls[j]? = some (some u) ∧ ¬ (j + 1 = i ∧ u.category = 2) := by
  cases i with
  | zero => exact ⟨h, fun q => by omega⟩
  | succ k =>
    simp only [vdrop] at h
    split at h
    · rename_i v hv
      split at h
      · rename_i hc
        rw [List.getElem?_set] at h
        split at h
        · split at h <;> cases h
        · rename_i hne
          exact ⟨h, fun q => hne (by omega)⟩
      · rename_i hc
        refine ⟨h, fun q => ?_⟩
        have : j = k := by omega
        subst this
        rw [hv] at h
        cases h
        exact hc q.2
    · rename_i hn
      refine ⟨h, fun q => ?_⟩
      have : j = k := by omega
      subst this
      exact hn u h
theorem vset_L {lsA : Array Slot} {nL hz i : Nat} {ls : List (Option Value)} {x : Value} (h : lv_has lsA nL ((i, vph hz x) :: (vA hz ls).filter (fun q => !(q.1 == i) && !(q.1 + 1 == i && q.2.category == 2)))) : vL lsA nL hz (vset ls i x) := by
  refine ⟨h.1, h.2.1, fun j u hj => ?_⟩
  simp only [vset] at hj
  rw [List.getElem?_set] at hj
  split at hj
  · rename_i e
    split at hj
    · cases hj; subst e; exact h.2.2 _ List.mem_cons_self
    · cases hj
  · rename_i e
    obtain ⟨g1, g2⟩ := vdrop_get hj
    refine h.2.2 (j, vph hz u) (List.mem_cons_of_mem _ (List.mem_filter.mpr ⟨vA_mem.mpr ⟨u, g1, rfl⟩, ?_⟩))
    simp only [vph_cat]
    have e1 : (j == i) = false := by simpa using fun q : j = i => e q.symm
    rw [e1]
    by_cases g : j + 1 = i
    · have : ¬ u.category = 2 := fun q => g2 ⟨g, q⟩
      simp [this]
    · simp [g]
theorem vset2_L {lsA : Array Slot} {nL hz i : Nat} {ls : List (Option Value)} {x : Value} (h : lv_has lsA nL ((i, vph hz x) :: (vA hz ls).filter (fun q => !(q.1 == i) && (!(q.1 == i + 1) && !(q.1 + 1 == i && q.2.category == 2))))) : vL lsA nL hz (vset2 ls i x) := by
  refine ⟨h.1, h.2.1, fun j u hj => ?_⟩
  simp only [vset2] at hj
  rw [List.getElem?_set] at hj
  split at hj
  · split at hj <;> cases hj
  rename_i e2
  rw [List.getElem?_set] at hj
  split at hj
  · rename_i e
    split at hj
    · cases hj; subst e; exact h.2.2 _ List.mem_cons_self
    · cases hj
  · rename_i e
    obtain ⟨g1, g2⟩ := vdrop_get hj
    refine h.2.2 (j, vph hz u) (List.mem_cons_of_mem _ (List.mem_filter.mpr ⟨vA_mem.mpr ⟨u, g1, rfl⟩, ?_⟩))
    simp only [vph_cat]
    have e1 : (j == i) = false := by simpa using fun q : j = i => e q.symm
    have e3 : (j == i + 1) = false := by simpa using fun q : j = i + 1 => e2 q.symm
    rw [e1, e3]
    by_cases g : j + 1 = i
    · have : ¬ u.category = 2 := fun q => g2 ⟨g, q⟩
      simp [this]
    · simp [g]
-- worlds
theorem vW_get {yc : Nat → ClassId} {hz : Nat} {μ : vM} {n : Nat} (h : n < μ.1.1) : (vW yc hz μ)[n]? = some (hz + n, vE yc hz μ n) := by simp [vW, h]
theorem vW_D {yc : Nat → ClassId} {hz : Nat} {μ : vM} : va_D (fun q => hz ≤ q) (vW yc hz μ) := by
  refine ⟨fun i j p q h1 h2 h3 => ?_, fun k q h => ?_⟩
  · simp only [vW, List.getElem?_map, Option.map_eq_some_iff] at h1 h2
    obtain ⟨a, ha, rfl⟩ := h1
    obtain ⟨b, hb, rfl⟩ := h2
    obtain ⟨ha1, ha2⟩ := List.getElem?_eq_some_iff.mp ha
    obtain ⟨hb1, hb2⟩ := List.getElem?_eq_some_iff.mp hb
    simp only [List.getElem_range] at ha2 hb2
    simp only at h3
    omega
  · simp only [vW, List.getElem?_map, Option.map_eq_some_iff] at h
    obtain ⟨a, ha, rfl⟩ := h
    exact Nat.le_add_right _ _
theorem vE_o {yc : Nat → ClassId} {hz : Nat} {μ : vM} {n ci ln : Nat} (h : vK μ.1 n ci ln) (hc : ci < 8) : vE yc hz μ n = .inr (ci, vFs hz μ ci n) := by
  simp only [vE, h.2, hc, if_true]
theorem vE_i {yc : Nat → ClassId} {hz : Nat} {μ : vM} {n ln : Nat} (h : vK μ.1 n 8 ln) : vE yc hz μ n = .inl (yc 0, (ln, .inl (μ.2 n))) := by simp [vE, h.2]
theorem vE_z {yc : Nat → ClassId} {hz : Nat} {μ : vM} {n ln : Nat} (h : vK μ.1 n 9 ln) : vE yc hz μ n = .inl (yc 1, (ln, .inl (μ.2 n))) := by simp [vE, h.2]
theorem vE_c {yc : Nat → ClassId} {hz : Nat} {μ : vM} {n ln : Nat} (h : vK μ.1 n 10 ln) : vE yc hz μ n = .inl (yc 2, (ln, .inr (.inr (.inr (.inr (fun k => (μ.1.2.2.1 n k).map (fun x => hz + x))))))) := by simp [vE, h.2]
theorem vE_m {yc : Nat → ClassId} {hz : Nat} {μ : vM} {n ln : Nat} (h : vK μ.1 n 11 ln) : vE yc hz μ n = .inl (yc 3, (ln, .inr (.inr (.inr (.inr (fun k => (μ.1.2.2.1 n k).map (fun x => hz + x))))))) := by simp [vE, h.2]
theorem vE_l {yc : Nat → ClassId} {hz : Nat} {μ : vM} {n ln : Nat} (h : vK μ.1 n 12 ln) : vE yc hz μ n = .inl (yc 4, (ln, .inr (.inl (fun k => (μ.2 n k).toInt64)))) := by simp [vE, h.2]
theorem vFs_i {hz : Nat} {μ : vM} {ci n k : Nat} (hk : k < vNs ci) (hi : vIs ci k = true) : (vFs hz μ ci n)[k]? = some (.int (μ.2 n k)) := by simp [vFs, hk, hi]
theorem vFs_r {hz : Nat} {μ : vM} {ci n k : Nat} (hk : k < vNs ci) (hi : vIs ci k = false) : (vFs hz μ ci n)[k]? = some (vRf hz μ.1.2.2.1 n k) := by simp [vFs, hk, hi]
/-- a node's row is changed, the others are not -/
theorem vW_set {yc : Nat → ClassId} {hz : Nat} {μ μ' : vM} {n : Nat} {x : va_E} (hN : μ'.1.1 = μ.1.1) (hx : n < μ.1.1 → vE yc hz μ' n = x) (ho : ∀ j, j ≠ n → vE yc hz μ' j = vE yc hz μ j) : (vW yc hz μ).set n (hz + n, x) = vW yc hz μ' := by
  refine List.ext_getElem? fun j => ?_
  rw [List.getElem?_set]
  split
  · rename_i e
    subst e
    split
    · rename_i h
      simp only [vW, List.length_map, List.length_range] at h
      rw [vW_get (by omega), hx h]
    · rename_i h
      simp only [vW, List.length_map, List.length_range] at h
      symm
      rw [List.getElem?_eq_none_iff]
      simp only [vW, List.length_map, List.length_range]
      omega
  · rename_i e
    by_cases h : j < μ.1.1
    · rw [vW_get h, vW_get (by omega), ho j (fun q => e q.symm)]
    · rw [List.getElem?_eq_none_iff.mpr (by simp only [vW, List.length_map, List.length_range]; omega), List.getElem?_eq_none_iff.mpr (by simp only [vW, List.length_map, List.length_range]; omega)]
theorem vU_ne {v : vV} {n k : Nat} {x : Int32} {j : Nat} (h : j ≠ n) : vU v n k x j = v j := by funext b; simp [vU, h]
theorem vU_at {v : vV} {n k : Nat} {x : Int32} : vU v n k x n = upd (v n) k x := by funext b; simp [vU, upd]
theorem vUA_ne {v : vV} {n : Nat} {f : Nat → Int32} {j : Nat} (h : j ≠ n) : vUA v n f j = v j := by funext b; simp [vUA, h]
theorem vUA_at {v : vV} {n : Nat} {f : Nat → Int32} : vUA v n f n = f := by funext b; simp [vUA]
theorem vE_v {yc : Nat → ClassId} {hz : Nat} {σ : vS} {v v' : vV} {j : Nat} (h : v' j = v j) : vE yc hz (σ, v') j = vE yc hz (σ, v) j := by simp [vE, vFs, h]
theorem vFs_set {hz : Nat} {σ : vS} {v : vV} {ci n k : Nat} {x : Int32} (hi : vIs ci k = true) : (vFs hz (σ, v) ci n).set k (.int x) = vFs hz (σ, vU v n k x) ci n := by
  refine List.ext_getElem? fun j => ?_
  rw [List.getElem?_set]
  split
  · rename_i e
    subst e
    split
    · rename_i h
      simp only [vFs, List.length_map, List.length_range] at h
      rw [vFs_i h hi]; simp [vU]
    · rename_i h
      simp only [vFs, List.length_map, List.length_range] at h
      symm
      rw [List.getElem?_eq_none_iff]
      simp only [vFs, List.length_map, List.length_range]
      omega
  · rename_i e
    by_cases hj : j < vNs ci
    · cases hb : vIs ci j with
      | true =>
        rw [vFs_i hj hb, vFs_i hj hb]
        have e2 : ¬ j = k := fun q => e q.symm
        simp [vU, e2]
      | false => rw [vFs_r hj hb, vFs_r hj hb]
    · rw [List.getElem?_eq_none_iff.mpr (by simp only [vFs, List.length_map, List.length_range]; omega), List.getElem?_eq_none_iff.mpr (by simp only [vFs, List.length_map, List.length_range]; omega)]
theorem vFs_len {hz : Nat} {μ : vM} {ci n : Nat} : (vFs hz μ ci n).length = vNs ci := by simp [vFs]
theorem vph_ref {hz n : Nat} (h : n < 1000000) : vph hz (.ref n) = .ref (hz + n) := by simp [vph, h]
theorem P_iconst {M : vR} {pc : Nat} {ls : List (Option Value)} {st : List Value} {b : Nat × Nat} {μ : vM} {Q : vO → vM → Prop} {n : Int} {v : Int32} (hd : decode (vCC M) pc = .ok (.iconst n, 1)) (hv : Int32.ofInt n = v) (k : vP M (pc + 1) ls (.int v :: st) b μ Q) : vP M pc ls (st) b μ Q :=
  fun p l e s m args below meth c D yc hz Qs X E H locs cells slots lsA hL hH hS h1 h2 h3 => lv_iconst X.1 X.2.1 hd hv (k p l e s m args below meth c D yc hz Qs X E H locs cells slots lsA hL hH hS h1 h2 h3)
theorem P_bipush {M : vR} {pc : Nat} {ls : List (Option Value)} {st : List Value} {b : Nat × Nat} {μ : vM} {Q : vO → vM → Prop} {n : Int} {v : Int32} (hd : decode (vCC M) pc = .ok (.bipush n, 2)) (hv : (Int8.ofInt n).toInt32 = v) (k : vP M (pc + 2) ls (.int v :: st) b μ Q) : vP M pc ls (st) b μ Q :=
  fun p l e s m args below meth c D yc hz Qs X E H locs cells slots lsA hL hH hS h1 h2 h3 => lv_bipush X.1 X.2.1 hd hv (k p l e s m args below meth c D yc hz Qs X E H locs cells slots lsA hL hH hS h1 h2 h3)
theorem P_sipush {M : vR} {pc : Nat} {ls : List (Option Value)} {st : List Value} {b : Nat × Nat} {μ : vM} {Q : vO → vM → Prop} {n : Int} {v : Int32} (hd : decode (vCC M) pc = .ok (.sipush n, 3)) (hv : (Int16.ofInt n).toInt32 = v) (k : vP M (pc + 3) ls (.int v :: st) b μ Q) : vP M pc ls (st) b μ Q :=
  fun p l e s m args below meth c D yc hz Qs X E H locs cells slots lsA hL hH hS h1 h2 h3 => lv_sipush X.1 X.2.1 hd hv (k p l e s m args below meth c D yc hz Qs X E H locs cells slots lsA hL hH hS h1 h2 h3)
theorem P_lconst {M : vR} {pc : Nat} {ls : List (Option Value)} {st : List Value} {b : Nat × Nat} {μ : vM} {Q : vO → vM → Prop} {n : Fin 2} {v : Int64} (hd : decode (vCC M) pc = .ok (.lconst n, 1)) (hv : Int64.ofNat (n : Nat) = v) (k : vP M (pc + 1) ls (.long v :: st) b μ Q) : vP M pc ls (st) b μ Q :=
  fun p l e s m args below meth c D yc hz Qs X E H locs cells slots lsA hL hH hS h1 h2 h3 => lv_lconst X.1 X.2.1 hd hv (k p l e s m args below meth c D yc hz Qs X E H locs cells slots lsA hL hH hS h1 h2 h3)
theorem P_ldc {M : vR} {pc : Nat} {ls : List (Option Value)} {st : List Value} {b : Nat × Nat} {μ : vM} {Q : vO → vM → Prop} {i : Nat} {v : Int32} (hd : decode (vCC M) pc = .ok (.ldc i, 2)) (hw : Jvm.Cond.constant (vOwn M) i v ∈ aw) (k : vP M (pc + 2) ls (.int v :: st) b μ Q) : vP M pc ls (st) b μ Q :=
  fun p l e s m args below meth c D yc hz Qs X E H locs cells slots lsA hL hH hS h1 h2 h3 => lv_ldc X.1 X.2.1 X.2.2.2.1 (X.2.2.2.2.1 _ hw) hd (k p l e s m args below meth c D yc hz Qs X E H locs cells slots lsA hL hH hS h1 h2 h3)
theorem P_ldc_w {M : vR} {pc : Nat} {ls : List (Option Value)} {st : List Value} {b : Nat × Nat} {μ : vM} {Q : vO → vM → Prop} {i : Nat} {v : Int32} (hd : decode (vCC M) pc = .ok (.ldc_w i, 3)) (hw : Jvm.Cond.constant (vOwn M) i v ∈ aw) (k : vP M (pc + 3) ls (.int v :: st) b μ Q) : vP M pc ls (st) b μ Q :=
  fun p l e s m args below meth c D yc hz Qs X E H locs cells slots lsA hL hH hS h1 h2 h3 => lv_ldcw X.1 X.2.1 X.2.2.2.1 (X.2.2.2.2.1 _ hw) hd (k p l e s m args below meth c D yc hz Qs X E H locs cells slots lsA hL hH hS h1 h2 h3)
theorem P_ldc2_w {M : vR} {pc : Nat} {ls : List (Option Value)} {st : List Value} {b : Nat × Nat} {μ : vM} {Q : vO → vM → Prop} {i : Nat} {v : Int64} (hd : decode (vCC M) pc = .ok (.ldc2_w i, 3)) (hw : Jvm.Cond.constantLong (vOwn M) i v ∈ aw) (k : vP M (pc + 3) ls (.long v :: st) b μ Q) : vP M pc ls (st) b μ Q :=
  fun p l e s m args below meth c D yc hz Qs X E H locs cells slots lsA hL hH hS h1 h2 h3 => lv_ldc2 X.1 X.2.1 X.2.2.2.1 (X.2.2.2.2.1 _ hw) hd (k p l e s m args below meth c D yc hz Qs X E H locs cells slots lsA hL hH hS h1 h2 h3)
theorem P_iload_n {M : vR} {pc : Nat} {ls : List (Option Value)} {st : List Value} {b : Nat × Nat} {μ : vM} {Q : vO → vM → Prop} {n : Fin 4} {i : Nat} {x : Int32} (hd : decode (vCC M) pc = .ok (.iload_n n, 1)) (hi : (n : Nat) = i) (hl : ls[i]? = some (some (.int x))) (k : vP M (pc + 1) ls (.int x :: st) b μ Q) : vP M pc ls (st) b μ Q :=
  fun p l e s m args below meth c D yc hz Qs X E H locs cells slots lsA hL hH hS h1 h2 h3 => lv_iload_n X.1 X.2.1 hd hi (hL.2.2 _ _ hl) (k p l e s m args below meth c D yc hz Qs X E H locs cells slots lsA hL hH hS h1 h2 h3)
theorem P_iload {M : vR} {pc : Nat} {ls : List (Option Value)} {st : List Value} {b : Nat × Nat} {μ : vM} {Q : vO → vM → Prop} {i : Nat} {x : Int32} (hd : decode (vCC M) pc = .ok (.iload i, 2)) (hl : ls[i]? = some (some (.int x))) (k : vP M (pc + 2) ls (.int x :: st) b μ Q) : vP M pc ls (st) b μ Q :=
  fun p l e s m args below meth c D yc hz Qs X E H locs cells slots lsA hL hH hS h1 h2 h3 => lv_iload X.1 X.2.1 hd (hL.2.2 _ _ hl) (k p l e s m args below meth c D yc hz Qs X E H locs cells slots lsA hL hH hS h1 h2 h3)
theorem P_lload_n {M : vR} {pc : Nat} {ls : List (Option Value)} {st : List Value} {b : Nat × Nat} {μ : vM} {Q : vO → vM → Prop} {n : Fin 4} {i : Nat} {x : Int64} (hd : decode (vCC M) pc = .ok (.lload_n n, 1)) (hi : (n : Nat) = i) (hl : ls[i]? = some (some (.long x))) (k : vP M (pc + 1) ls (.long x :: st) b μ Q) : vP M pc ls (st) b μ Q :=
  fun p l e s m args below meth c D yc hz Qs X E H locs cells slots lsA hL hH hS h1 h2 h3 => lv_lload_n X.1 X.2.1 hd hi (hL.2.2 _ _ hl) (k p l e s m args below meth c D yc hz Qs X E H locs cells slots lsA hL hH hS h1 h2 h3)
theorem P_lload {M : vR} {pc : Nat} {ls : List (Option Value)} {st : List Value} {b : Nat × Nat} {μ : vM} {Q : vO → vM → Prop} {i : Nat} {x : Int64} (hd : decode (vCC M) pc = .ok (.lload i, 2)) (hl : ls[i]? = some (some (.long x))) (k : vP M (pc + 2) ls (.long x :: st) b μ Q) : vP M pc ls (st) b μ Q :=
  fun p l e s m args below meth c D yc hz Qs X E H locs cells slots lsA hL hH hS h1 h2 h3 => lv_lload X.1 X.2.1 hd (hL.2.2 _ _ hl) (k p l e s m args below meth c D yc hz Qs X E H locs cells slots lsA hL hH hS h1 h2 h3)
theorem P_aload_n {M : vR} {pc : Nat} {ls : List (Option Value)} {st : List Value} {b : Nat × Nat} {μ : vM} {Q : vO → vM → Prop} {n : Fin 4} {i : Nat} {x : Nat} (hd : decode (vCC M) pc = .ok (.aload_n n, 1)) (hi : (n : Nat) = i) (hl : ls[i]? = some (some (.ref x))) (k : vP M (pc + 1) ls (.ref x :: st) b μ Q) : vP M pc ls (st) b μ Q :=
  fun p l e s m args below meth c D yc hz Qs X E H locs cells slots lsA hL hH hS h1 h2 h3 => lv_aload_n X.1 X.2.1 hd hi (hL.2.2 _ _ hl) (k p l e s m args below meth c D yc hz Qs X E H locs cells slots lsA hL hH hS h1 h2 h3)
theorem P_aload {M : vR} {pc : Nat} {ls : List (Option Value)} {st : List Value} {b : Nat × Nat} {μ : vM} {Q : vO → vM → Prop} {i : Nat} {x : Nat} (hd : decode (vCC M) pc = .ok (.aload i, 2)) (hl : ls[i]? = some (some (.ref x))) (k : vP M (pc + 2) ls (.ref x :: st) b μ Q) : vP M pc ls (st) b μ Q :=
  fun p l e s m args below meth c D yc hz Qs X E H locs cells slots lsA hL hH hS h1 h2 h3 => lv_aload X.1 X.2.1 hd (hL.2.2 _ _ hl) (k p l e s m args below meth c D yc hz Qs X E H locs cells slots lsA hL hH hS h1 h2 h3)
theorem P_istore_n {M : vR} {pc : Nat} {ls : List (Option Value)} {st : List Value} {b : Nat × Nat} {μ : vM} {Q : vO → vM → Prop} {n : Fin 4} {i : Nat} {x : Int32} {ls2 : List (Option Value)} (hd : decode (vCC M) pc = .ok (.istore_n n, 1)) (hi : (n : Nat) = i) (hn : i < vNL M) (hs : vset ls i (.int x) = ls2) (k : vP M (pc + 1) ls2 (st) b μ Q) : vP M pc ls (.int x :: st) b μ Q :=
  fun p l e s m args below meth c D yc hz Qs X E H locs cells slots lsA hL hH hS h1 h2 h3 => lv_istore_n X.1 X.2.1 hd hi hL.has hn rfl (fun ls9 h9 => k p l e s m args below meth c D yc hz Qs X E H locs cells slots ls9 (hs ▸ vset_L h9) hH hS h1 h2 h3)
theorem P_istore {M : vR} {pc : Nat} {ls : List (Option Value)} {st : List Value} {b : Nat × Nat} {μ : vM} {Q : vO → vM → Prop} {i : Nat} {x : Int32} {ls2 : List (Option Value)} (hd : decode (vCC M) pc = .ok (.istore i, 2)) (hn : i < vNL M) (hs : vset ls i (.int x) = ls2) (k : vP M (pc + 2) ls2 (st) b μ Q) : vP M pc ls (.int x :: st) b μ Q :=
  fun p l e s m args below meth c D yc hz Qs X E H locs cells slots lsA hL hH hS h1 h2 h3 => lv_istore X.1 X.2.1 hd hL.has hn rfl (fun ls9 h9 => k p l e s m args below meth c D yc hz Qs X E H locs cells slots ls9 (hs ▸ vset_L h9) hH hS h1 h2 h3)
theorem P_astore_n {M : vR} {pc : Nat} {ls : List (Option Value)} {st : List Value} {b : Nat × Nat} {μ : vM} {Q : vO → vM → Prop} {n : Fin 4} {i : Nat} {x : Nat} {ls2 : List (Option Value)} (hd : decode (vCC M) pc = .ok (.astore_n n, 1)) (hi : (n : Nat) = i) (hn : i < vNL M) (hs : vset ls i (.ref x) = ls2) (k : vP M (pc + 1) ls2 (st) b μ Q) : vP M pc ls (.ref x :: st) b μ Q :=
  fun p l e s m args below meth c D yc hz Qs X E H locs cells slots lsA hL hH hS h1 h2 h3 => lv_astore_n X.1 X.2.1 hd hi hL.has hn rfl (fun ls9 h9 => k p l e s m args below meth c D yc hz Qs X E H locs cells slots ls9 (hs ▸ vset_L h9) hH hS h1 h2 h3)
theorem P_astore {M : vR} {pc : Nat} {ls : List (Option Value)} {st : List Value} {b : Nat × Nat} {μ : vM} {Q : vO → vM → Prop} {i : Nat} {x : Nat} {ls2 : List (Option Value)} (hd : decode (vCC M) pc = .ok (.astore i, 2)) (hn : i < vNL M) (hs : vset ls i (.ref x) = ls2) (k : vP M (pc + 2) ls2 (st) b μ Q) : vP M pc ls (.ref x :: st) b μ Q :=
  fun p l e s m args below meth c D yc hz Qs X E H locs cells slots lsA hL hH hS h1 h2 h3 => lv_astore X.1 X.2.1 hd hL.has hn rfl (fun ls9 h9 => k p l e s m args below meth c D yc hz Qs X E H locs cells slots ls9 (hs ▸ vset_L h9) hH hS h1 h2 h3)
theorem P_lstore_n {M : vR} {pc : Nat} {ls : List (Option Value)} {st : List Value} {b : Nat × Nat} {μ : vM} {Q : vO → vM → Prop} {n : Fin 4} {i : Nat} {x : Int64} {ls2 : List (Option Value)} (hd : decode (vCC M) pc = .ok (.lstore_n n, 1)) (hi : (n : Nat) = i) (hn : i + 1 < vNL M) (hs : vset2 ls i (.long x) = ls2) (k : vP M (pc + 1) ls2 (st) b μ Q) : vP M pc ls (.long x :: st) b μ Q :=
  fun p l e s m args below meth c D yc hz Qs X E H locs cells slots lsA hL hH hS h1 h2 h3 => lv_lstore_n X.1 X.2.1 hd hi hL.has hn rfl (fun ls9 h9 => k p l e s m args below meth c D yc hz Qs X E H locs cells slots ls9 (hs ▸ vset2_L h9) hH hS h1 h2 h3)
theorem P_lstore {M : vR} {pc : Nat} {ls : List (Option Value)} {st : List Value} {b : Nat × Nat} {μ : vM} {Q : vO → vM → Prop} {i : Nat} {x : Int64} {ls2 : List (Option Value)} (hd : decode (vCC M) pc = .ok (.lstore i, 2)) (hn : i + 1 < vNL M) (hs : vset2 ls i (.long x) = ls2) (k : vP M (pc + 2) ls2 (st) b μ Q) : vP M pc ls (.long x :: st) b μ Q :=
  fun p l e s m args below meth c D yc hz Qs X E H locs cells slots lsA hL hH hS h1 h2 h3 => lv_lstore X.1 X.2.1 hd hL.has hn rfl (fun ls9 h9 => k p l e s m args below meth c D yc hz Qs X E H locs cells slots ls9 (hs ▸ vset2_L h9) hH hS h1 h2 h3)
theorem P_iinc {M : vR} {pc : Nat} {ls : List (Option Value)} {st : List Value} {b : Nat × Nat} {μ : vM} {Q : vO → vM → Prop} {i : Nat} {n : Int} {x v : Int32} {ls2 : List (Option Value)} (hd : decode (vCC M) pc = .ok (.iinc i n, 3)) (hl : ls[i]? = some (some (.int x))) (hv : x + Int32.ofInt n = v) (hn : i < vNL M) (hs : vset ls i (.int v) = ls2) (k : vP M (pc + 3) ls2 st b μ Q) : vP M pc ls st b μ Q := by
  intro p l e s m args below meth c D yc hz Qs X E H locs cells slots lsA hL hH hS h1 h2 h3
  obtain ⟨j, hj⟩ := List.getElem?_of_mem (vA_mem (hz := hz) (q := (i, .int x)) |>.mpr ⟨_, hl, rfl⟩)
  exact lv_iinc X.1 X.2.1 hd hL.has hj hv hn rfl (fun ls9 h9 => k p l e s m args below meth c D yc hz Qs X E H locs cells slots ls9 (hs ▸ vset_L h9) hH hS h1 h2 h3)
theorem P_iadd {M : vR} {pc : Nat} {ls : List (Option Value)} {st : List Value} {b : Nat × Nat} {μ : vM} {Q : vO → vM → Prop} {x y : Int32} (hd : decode (vCC M) pc = .ok (.iadd, 1)) (k : vP M (pc + 1) ls (.int (x + y) :: st) b μ Q) : vP M pc ls (.int y :: .int x :: st) b μ Q :=
  fun p l e s m args below meth c D yc hz Qs X E H locs cells slots lsA hL hH hS h1 h2 h3 => lv_iadd X.1 X.2.1 hd (k p l e s m args below meth c D yc hz Qs X E H locs cells slots lsA hL hH hS h1 h2 h3)
theorem P_isub {M : vR} {pc : Nat} {ls : List (Option Value)} {st : List Value} {b : Nat × Nat} {μ : vM} {Q : vO → vM → Prop} {x y : Int32} (hd : decode (vCC M) pc = .ok (.isub, 1)) (k : vP M (pc + 1) ls (.int (x - y) :: st) b μ Q) : vP M pc ls (.int y :: .int x :: st) b μ Q :=
  fun p l e s m args below meth c D yc hz Qs X E H locs cells slots lsA hL hH hS h1 h2 h3 => lv_isub X.1 X.2.1 hd (k p l e s m args below meth c D yc hz Qs X E H locs cells slots lsA hL hH hS h1 h2 h3)
theorem P_imul {M : vR} {pc : Nat} {ls : List (Option Value)} {st : List Value} {b : Nat × Nat} {μ : vM} {Q : vO → vM → Prop} {x y : Int32} (hd : decode (vCC M) pc = .ok (.imul, 1)) (k : vP M (pc + 1) ls (.int (x * y) :: st) b μ Q) : vP M pc ls (.int y :: .int x :: st) b μ Q :=
  fun p l e s m args below meth c D yc hz Qs X E H locs cells slots lsA hL hH hS h1 h2 h3 => lv_imul X.1 X.2.1 hd (k p l e s m args below meth c D yc hz Qs X E H locs cells slots lsA hL hH hS h1 h2 h3)
theorem P_iand {M : vR} {pc : Nat} {ls : List (Option Value)} {st : List Value} {b : Nat × Nat} {μ : vM} {Q : vO → vM → Prop} {x y : Int32} (hd : decode (vCC M) pc = .ok (.iand, 1)) (k : vP M (pc + 1) ls (.int (x &&& y) :: st) b μ Q) : vP M pc ls (.int y :: .int x :: st) b μ Q :=
  fun p l e s m args below meth c D yc hz Qs X E H locs cells slots lsA hL hH hS h1 h2 h3 => lv_iand X.1 X.2.1 hd (k p l e s m args below meth c D yc hz Qs X E H locs cells slots lsA hL hH hS h1 h2 h3)
theorem P_ior {M : vR} {pc : Nat} {ls : List (Option Value)} {st : List Value} {b : Nat × Nat} {μ : vM} {Q : vO → vM → Prop} {x y : Int32} (hd : decode (vCC M) pc = .ok (.ior, 1)) (k : vP M (pc + 1) ls (.int (x ||| y) :: st) b μ Q) : vP M pc ls (.int y :: .int x :: st) b μ Q :=
  fun p l e s m args below meth c D yc hz Qs X E H locs cells slots lsA hL hH hS h1 h2 h3 => lv_ior X.1 X.2.1 hd (k p l e s m args below meth c D yc hz Qs X E H locs cells slots lsA hL hH hS h1 h2 h3)
theorem P_ixor {M : vR} {pc : Nat} {ls : List (Option Value)} {st : List Value} {b : Nat × Nat} {μ : vM} {Q : vO → vM → Prop} {x y : Int32} (hd : decode (vCC M) pc = .ok (.ixor, 1)) (k : vP M (pc + 1) ls (.int (x ^^^ y) :: st) b μ Q) : vP M pc ls (.int y :: .int x :: st) b μ Q :=
  fun p l e s m args below meth c D yc hz Qs X E H locs cells slots lsA hL hH hS h1 h2 h3 => lv_ixor X.1 X.2.1 hd (k p l e s m args below meth c D yc hz Qs X E H locs cells slots lsA hL hH hS h1 h2 h3)
theorem P_ishl {M : vR} {pc : Nat} {ls : List (Option Value)} {st : List Value} {b : Nat × Nat} {μ : vM} {Q : vO → vM → Prop} {x y : Int32} (hd : decode (vCC M) pc = .ok (.ishl, 1)) (k : vP M (pc + 1) ls (.int (x <<< (y &&& 31)) :: st) b μ Q) : vP M pc ls (.int y :: .int x :: st) b μ Q :=
  fun p l e s m args below meth c D yc hz Qs X E H locs cells slots lsA hL hH hS h1 h2 h3 => lv_ishl X.1 X.2.1 hd (k p l e s m args below meth c D yc hz Qs X E H locs cells slots lsA hL hH hS h1 h2 h3)
theorem P_ishr {M : vR} {pc : Nat} {ls : List (Option Value)} {st : List Value} {b : Nat × Nat} {μ : vM} {Q : vO → vM → Prop} {x y : Int32} (hd : decode (vCC M) pc = .ok (.ishr, 1)) (k : vP M (pc + 1) ls (.int (x >>> (y &&& 31)) :: st) b μ Q) : vP M pc ls (.int y :: .int x :: st) b μ Q :=
  fun p l e s m args below meth c D yc hz Qs X E H locs cells slots lsA hL hH hS h1 h2 h3 => lv_ishr X.1 X.2.1 hd (k p l e s m args below meth c D yc hz Qs X E H locs cells slots lsA hL hH hS h1 h2 h3)
theorem P_idiv {M : vR} {pc : Nat} {ls : List (Option Value)} {st : List Value} {b : Nat × Nat} {μ : vM} {Q : vO → vM → Prop} {x y : Int32} (hd : decode (vCC M) pc = .ok (.idiv, 1)) (hne : ¬ y = 0) (k : vP M (pc + 1) ls (.int (x / y) :: st) b μ Q) : vP M pc ls (.int y :: .int x :: st) b μ Q :=
  fun p l e s m args below meth c D yc hz Qs X E H locs cells slots lsA hL hH hS h1 h2 h3 => lv_idiv X.1 X.2.1 hd hne (k p l e s m args below meth c D yc hz Qs X E H locs cells slots lsA hL hH hS h1 h2 h3)
theorem P_irem {M : vR} {pc : Nat} {ls : List (Option Value)} {st : List Value} {b : Nat × Nat} {μ : vM} {Q : vO → vM → Prop} {x y : Int32} (hd : decode (vCC M) pc = .ok (.irem, 1)) (hne : ¬ y = 0) (k : vP M (pc + 1) ls (.int (x - x / y * y) :: st) b μ Q) : vP M pc ls (.int y :: .int x :: st) b μ Q :=
  fun p l e s m args below meth c D yc hz Qs X E H locs cells slots lsA hL hH hS h1 h2 h3 => lv_irem X.1 X.2.1 hd hne (k p l e s m args below meth c D yc hz Qs X E H locs cells slots lsA hL hH hS h1 h2 h3)
theorem P_ladd {M : vR} {pc : Nat} {ls : List (Option Value)} {st : List Value} {b : Nat × Nat} {μ : vM} {Q : vO → vM → Prop} {x y : Int64} (hd : decode (vCC M) pc = .ok (.ladd, 1)) (k : vP M (pc + 1) ls (.long (x + y) :: st) b μ Q) : vP M pc ls (.long y :: .long x :: st) b μ Q :=
  fun p l e s m args below meth c D yc hz Qs X E H locs cells slots lsA hL hH hS h1 h2 h3 => lv_ladd X.1 X.2.1 hd (k p l e s m args below meth c D yc hz Qs X E H locs cells slots lsA hL hH hS h1 h2 h3)
theorem P_lsub {M : vR} {pc : Nat} {ls : List (Option Value)} {st : List Value} {b : Nat × Nat} {μ : vM} {Q : vO → vM → Prop} {x y : Int64} (hd : decode (vCC M) pc = .ok (.lsub, 1)) (k : vP M (pc + 1) ls (.long (x - y) :: st) b μ Q) : vP M pc ls (.long y :: .long x :: st) b μ Q :=
  fun p l e s m args below meth c D yc hz Qs X E H locs cells slots lsA hL hH hS h1 h2 h3 => lv_lsub X.1 X.2.1 hd (k p l e s m args below meth c D yc hz Qs X E H locs cells slots lsA hL hH hS h1 h2 h3)
theorem P_lmul {M : vR} {pc : Nat} {ls : List (Option Value)} {st : List Value} {b : Nat × Nat} {μ : vM} {Q : vO → vM → Prop} {x y : Int64} (hd : decode (vCC M) pc = .ok (.lmul, 1)) (k : vP M (pc + 1) ls (.long (x * y) :: st) b μ Q) : vP M pc ls (.long y :: .long x :: st) b μ Q :=
  fun p l e s m args below meth c D yc hz Qs X E H locs cells slots lsA hL hH hS h1 h2 h3 => lv_lmul X.1 X.2.1 hd (k p l e s m args below meth c D yc hz Qs X E H locs cells slots lsA hL hH hS h1 h2 h3)
theorem P_land {M : vR} {pc : Nat} {ls : List (Option Value)} {st : List Value} {b : Nat × Nat} {μ : vM} {Q : vO → vM → Prop} {x y : Int64} (hd : decode (vCC M) pc = .ok (.land, 1)) (k : vP M (pc + 1) ls (.long (x &&& y) :: st) b μ Q) : vP M pc ls (.long y :: .long x :: st) b μ Q :=
  fun p l e s m args below meth c D yc hz Qs X E H locs cells slots lsA hL hH hS h1 h2 h3 => lv_land X.1 X.2.1 hd (k p l e s m args below meth c D yc hz Qs X E H locs cells slots lsA hL hH hS h1 h2 h3)
theorem P_lor {M : vR} {pc : Nat} {ls : List (Option Value)} {st : List Value} {b : Nat × Nat} {μ : vM} {Q : vO → vM → Prop} {x y : Int64} (hd : decode (vCC M) pc = .ok (.lor, 1)) (k : vP M (pc + 1) ls (.long (x ||| y) :: st) b μ Q) : vP M pc ls (.long y :: .long x :: st) b μ Q :=
  fun p l e s m args below meth c D yc hz Qs X E H locs cells slots lsA hL hH hS h1 h2 h3 => lv_lor X.1 X.2.1 hd (k p l e s m args below meth c D yc hz Qs X E H locs cells slots lsA hL hH hS h1 h2 h3)
theorem P_ldiv {M : vR} {pc : Nat} {ls : List (Option Value)} {st : List Value} {b : Nat × Nat} {μ : vM} {Q : vO → vM → Prop} {x y : Int64} (hd : decode (vCC M) pc = .ok (.ldiv, 1)) (hne : ¬ y = 0) (k : vP M (pc + 1) ls (.long (x / y) :: st) b μ Q) : vP M pc ls (.long y :: .long x :: st) b μ Q :=
  fun p l e s m args below meth c D yc hz Qs X E H locs cells slots lsA hL hH hS h1 h2 h3 => lv_ldiv X.1 X.2.1 hd hne (k p l e s m args below meth c D yc hz Qs X E H locs cells slots lsA hL hH hS h1 h2 h3)
theorem P_lrem {M : vR} {pc : Nat} {ls : List (Option Value)} {st : List Value} {b : Nat × Nat} {μ : vM} {Q : vO → vM → Prop} {x y : Int64} (hd : decode (vCC M) pc = .ok (.lrem, 1)) (hne : ¬ y = 0) (k : vP M (pc + 1) ls (.long (x - x / y * y) :: st) b μ Q) : vP M pc ls (.long y :: .long x :: st) b μ Q :=
  fun p l e s m args below meth c D yc hz Qs X E H locs cells slots lsA hL hH hS h1 h2 h3 => lv_lrem X.1 X.2.1 hd hne (k p l e s m args below meth c D yc hz Qs X E H locs cells slots lsA hL hH hS h1 h2 h3)
theorem P_iushr {M : vR} {pc : Nat} {ls : List (Option Value)} {st : List Value} {b : Nat × Nat} {μ : vM} {Q : vO → vM → Prop} {x y : Int32} (hd : decode (vCC M) pc = .ok (.iushr, 1)) (k : vP M (pc + 1) ls (.int ((x.toUInt32 >>> (y.toUInt32 &&& Int32.toUInt32 31)).toInt32) :: st) b μ Q) : vP M pc ls (.int y :: .int x :: st) b μ Q :=
  fun p l e s m args below meth c D yc hz Qs X E H locs cells slots lsA hL hH hS h1 h2 h3 => lv_iushr X.1 X.2.1 hd rfl (k p l e s m args below meth c D yc hz Qs X E H locs cells slots lsA hL hH hS h1 h2 h3)
theorem P_lushr {M : vR} {pc : Nat} {ls : List (Option Value)} {st : List Value} {b : Nat × Nat} {μ : vM} {Q : vO → vM → Prop} {x : Int64} {y : Int32} (hd : decode (vCC M) pc = .ok (.lushr, 1)) (k : vP M (pc + 1) ls (.long ((x.toUInt64 >>> (y.toInt64.toUInt64 &&& Int64.toUInt64 63)).toInt64) :: st) b μ Q) : vP M pc ls (.int y :: .long x :: st) b μ Q :=
  fun p l e s m args below meth c D yc hz Qs X E H locs cells slots lsA hL hH hS h1 h2 h3 => lv_lushr X.1 X.2.1 hd rfl (k p l e s m args below meth c D yc hz Qs X E H locs cells slots lsA hL hH hS h1 h2 h3)
theorem P_lshl {M : vR} {pc : Nat} {ls : List (Option Value)} {st : List Value} {b : Nat × Nat} {μ : vM} {Q : vO → vM → Prop} {x : Int64} {y : Int32} (hd : decode (vCC M) pc = .ok (.lshl, 1)) (k : vP M (pc + 1) ls (.long (x <<< (y.toInt64 &&& 63)) :: st) b μ Q) : vP M pc ls (.int y :: .long x :: st) b μ Q :=
  fun p l e s m args below meth c D yc hz Qs X E H locs cells slots lsA hL hH hS h1 h2 h3 => lv_lshl X.1 X.2.1 hd rfl (k p l e s m args below meth c D yc hz Qs X E H locs cells slots lsA hL hH hS h1 h2 h3)
theorem P_ineg {M : vR} {pc : Nat} {ls : List (Option Value)} {st : List Value} {b : Nat × Nat} {μ : vM} {Q : vO → vM → Prop} {x : Int32} (hd : decode (vCC M) pc = .ok (.ineg, 1)) (k : vP M (pc + 1) ls (.int (-x) :: st) b μ Q) : vP M pc ls (.int x :: st) b μ Q :=
  fun p l e s m args below meth c D yc hz Qs X E H locs cells slots lsA hL hH hS h1 h2 h3 => lv_ineg X.1 X.2.1 hd (k p l e s m args below meth c D yc hz Qs X E H locs cells slots lsA hL hH hS h1 h2 h3)
theorem P_i2l {M : vR} {pc : Nat} {ls : List (Option Value)} {st : List Value} {b : Nat × Nat} {μ : vM} {Q : vO → vM → Prop} {x : Int32} (hd : decode (vCC M) pc = .ok (.i2l, 1)) (k : vP M (pc + 1) ls (.long x.toInt64 :: st) b μ Q) : vP M pc ls (.int x :: st) b μ Q :=
  fun p l e s m args below meth c D yc hz Qs X E H locs cells slots lsA hL hH hS h1 h2 h3 => lv_i2l X.1 X.2.1 hd rfl (k p l e s m args below meth c D yc hz Qs X E H locs cells slots lsA hL hH hS h1 h2 h3)
theorem P_l2i {M : vR} {pc : Nat} {ls : List (Option Value)} {st : List Value} {b : Nat × Nat} {μ : vM} {Q : vO → vM → Prop} {x : Int64} (hd : decode (vCC M) pc = .ok (.l2i, 1)) (k : vP M (pc + 1) ls (.int x.toInt32 :: st) b μ Q) : vP M pc ls (.long x :: st) b μ Q :=
  fun p l e s m args below meth c D yc hz Qs X E H locs cells slots lsA hL hH hS h1 h2 h3 => lv_l2i X.1 X.2.1 hd rfl (k p l e s m args below meth c D yc hz Qs X E H locs cells slots lsA hL hH hS h1 h2 h3)
theorem P_lcmp {M : vR} {pc : Nat} {ls : List (Option Value)} {st : List Value} {b : Nat × Nat} {μ : vM} {Q : vO → vM → Prop} {x y : Int64} (hd : decode (vCC M) pc = .ok (.lcmp, 1)) (k : vP M (pc + 1) ls (.int (lg_cmp x y) :: st) b μ Q) : vP M pc ls (.long y :: .long x :: st) b μ Q :=
  fun p l e s m args below meth c D yc hz Qs X E H locs cells slots lsA hL hH hS h1 h2 h3 => W.lcmp X.1 X.2.1 hd (k p l e s m args below meth c D yc hz Qs X E H locs cells slots lsA hL hH hS h1 h2 h3)
theorem P_dup {M : vR} {pc : Nat} {ls : List (Option Value)} {st : List Value} {b : Nat × Nat} {μ : vM} {Q : vO → vM → Prop} {v : Value} (hd : decode (vCC M) pc = .ok (.dup, 1)) (hc : v.category = 1) (k : vP M (pc + 1) ls (v :: v :: st) b μ Q) : vP M pc ls (v :: st) b μ Q :=
  fun p l e s m args below meth c D yc hz Qs X E H locs cells slots lsA hL hH hS h1 h2 h3 => lv_dup X.1 X.2.1 hd (by rw [vph_cat]; exact hc) (k p l e s m args below meth c D yc hz Qs X E H locs cells slots lsA hL hH hS h1 h2 h3)
theorem P_pop {M : vR} {pc : Nat} {ls : List (Option Value)} {st : List Value} {b : Nat × Nat} {μ : vM} {Q : vO → vM → Prop} {v : Value} (hd : decode (vCC M) pc = .ok (.pop, 1)) (hc : v.category = 1) (k : vP M (pc + 1) ls (st) b μ Q) : vP M pc ls (v :: st) b μ Q :=
  fun p l e s m args below meth c D yc hz Qs X E H locs cells slots lsA hL hH hS h1 h2 h3 => lv_pop X.1 X.2.1 hd (by rw [vph_cat]; exact hc) (k p l e s m args below meth c D yc hz Qs X E H locs cells slots lsA hL hH hS h1 h2 h3)
theorem P_dup2 {M : vR} {pc : Nat} {ls : List (Option Value)} {st : List Value} {b : Nat × Nat} {μ : vM} {Q : vO → vM → Prop} {u v : Value} (hd : decode (vCC M) pc = .ok (.dup2, 1)) (hc : u.category = 1) (hc2 : v.category = 1) (k : vP M (pc + 1) ls (u :: v :: u :: v :: st) b μ Q) : vP M pc ls (u :: v :: st) b μ Q :=
  fun p l e s m args below meth c D yc hz Qs X E H locs cells slots lsA hL hH hS h1 h2 h3 => lv_dup2_11 X.1 X.2.1 hd (by rw [vph_cat]; exact hc) (by rw [vph_cat]; exact hc2) (k p l e s m args below meth c D yc hz Qs X E H locs cells slots lsA hL hH hS h1 h2 h3)
theorem P_goto {M : vR} {pc : Nat} {ls : List (Option Value)} {st : List Value} {b : Nat × Nat} {μ : vM} {Q : vO → vM → Prop} {off : Int} {tgt : Nat} (hd : decode (vCC M) pc = .ok (.goto off, 3)) (ht : (pc : Int) + off = (tgt : Int)) (k : vP M tgt ls (st) b μ Q) : vP M pc ls (st) b μ Q :=
  fun p l e s m args below meth c D yc hz Qs X E H locs cells slots lsA hL hH hS h1 h2 h3 => lv_goto X.1 X.2.1 hd ht (k p l e s m args below meth c D yc hz Qs X E H locs cells slots lsA hL hH hS h1 h2 h3)
theorem P_if_eq {M : vR} {pc : Nat} {ls : List (Option Value)} {st : List Value} {b : Nat × Nat} {μ : vM} {Q : vO → vM → Prop} {off : Int} {tgt : Nat} {x : Int32} (hd : decode (vCC M) pc = .ok (.ifCond .eq off, 3)) (ht : (pc : Int) + off = (tgt : Int)) (k : x = 0 → vP M tgt ls st b μ Q) (k9 : ¬ x = 0 → vP M (pc + 3) ls st b μ Q) : vP M pc ls (.int x :: st) b μ Q :=
  fun p l e s m args below meth c D yc hz Qs X E H locs cells slots lsA hL hH hS h1 h2 h3 => lv_if_eq X.1 X.2.1 hd ht (fun q => k q p l e s m args below meth c D yc hz Qs X E H locs cells slots lsA hL hH hS h1 h2 h3) (fun q => k9 q p l e s m args below meth c D yc hz Qs X E H locs cells slots lsA hL hH hS h1 h2 h3)
theorem P_icmp_eq {M : vR} {pc : Nat} {ls : List (Option Value)} {st : List Value} {b : Nat × Nat} {μ : vM} {Q : vO → vM → Prop} {off : Int} {tgt : Nat} {x y : Int32} (hd : decode (vCC M) pc = .ok (.if_icmp .eq off, 3)) (ht : (pc : Int) + off = (tgt : Int)) (k : x = y → vP M tgt ls st b μ Q) (k9 : ¬ x = y → vP M (pc + 3) ls st b μ Q) : vP M pc ls (.int y :: .int x :: st) b μ Q :=
  fun p l e s m args below meth c D yc hz Qs X E H locs cells slots lsA hL hH hS h1 h2 h3 => lv_icmp_eq X.1 X.2.1 hd ht (fun q => k q p l e s m args below meth c D yc hz Qs X E H locs cells slots lsA hL hH hS h1 h2 h3) (fun q => k9 q p l e s m args below meth c D yc hz Qs X E H locs cells slots lsA hL hH hS h1 h2 h3)
theorem P_if_ne {M : vR} {pc : Nat} {ls : List (Option Value)} {st : List Value} {b : Nat × Nat} {μ : vM} {Q : vO → vM → Prop} {off : Int} {tgt : Nat} {x : Int32} (hd : decode (vCC M) pc = .ok (.ifCond .ne off, 3)) (ht : (pc : Int) + off = (tgt : Int)) (k : ¬ x = 0 → vP M tgt ls st b μ Q) (k9 : x = 0 → vP M (pc + 3) ls st b μ Q) : vP M pc ls (.int x :: st) b μ Q :=
  fun p l e s m args below meth c D yc hz Qs X E H locs cells slots lsA hL hH hS h1 h2 h3 => lv_if_ne X.1 X.2.1 hd ht (fun q => k q p l e s m args below meth c D yc hz Qs X E H locs cells slots lsA hL hH hS h1 h2 h3) (fun q => k9 q p l e s m args below meth c D yc hz Qs X E H locs cells slots lsA hL hH hS h1 h2 h3)
theorem P_icmp_ne {M : vR} {pc : Nat} {ls : List (Option Value)} {st : List Value} {b : Nat × Nat} {μ : vM} {Q : vO → vM → Prop} {off : Int} {tgt : Nat} {x y : Int32} (hd : decode (vCC M) pc = .ok (.if_icmp .ne off, 3)) (ht : (pc : Int) + off = (tgt : Int)) (k : ¬ x = y → vP M tgt ls st b μ Q) (k9 : x = y → vP M (pc + 3) ls st b μ Q) : vP M pc ls (.int y :: .int x :: st) b μ Q :=
  fun p l e s m args below meth c D yc hz Qs X E H locs cells slots lsA hL hH hS h1 h2 h3 => lv_icmp_ne X.1 X.2.1 hd ht (fun q => k q p l e s m args below meth c D yc hz Qs X E H locs cells slots lsA hL hH hS h1 h2 h3) (fun q => k9 q p l e s m args below meth c D yc hz Qs X E H locs cells slots lsA hL hH hS h1 h2 h3)
theorem P_if_lt {M : vR} {pc : Nat} {ls : List (Option Value)} {st : List Value} {b : Nat × Nat} {μ : vM} {Q : vO → vM → Prop} {off : Int} {tgt : Nat} {x : Int32} (hd : decode (vCC M) pc = .ok (.ifCond .lt off, 3)) (ht : (pc : Int) + off = (tgt : Int)) (k : x < 0 → vP M tgt ls st b μ Q) (k9 : ¬ x < 0 → vP M (pc + 3) ls st b μ Q) : vP M pc ls (.int x :: st) b μ Q :=
  fun p l e s m args below meth c D yc hz Qs X E H locs cells slots lsA hL hH hS h1 h2 h3 => lv_if_lt X.1 X.2.1 hd ht (fun q => k q p l e s m args below meth c D yc hz Qs X E H locs cells slots lsA hL hH hS h1 h2 h3) (fun q => k9 q p l e s m args below meth c D yc hz Qs X E H locs cells slots lsA hL hH hS h1 h2 h3)
theorem P_icmp_lt {M : vR} {pc : Nat} {ls : List (Option Value)} {st : List Value} {b : Nat × Nat} {μ : vM} {Q : vO → vM → Prop} {off : Int} {tgt : Nat} {x y : Int32} (hd : decode (vCC M) pc = .ok (.if_icmp .lt off, 3)) (ht : (pc : Int) + off = (tgt : Int)) (k : x < y → vP M tgt ls st b μ Q) (k9 : ¬ x < y → vP M (pc + 3) ls st b μ Q) : vP M pc ls (.int y :: .int x :: st) b μ Q :=
  fun p l e s m args below meth c D yc hz Qs X E H locs cells slots lsA hL hH hS h1 h2 h3 => lv_icmp_lt X.1 X.2.1 hd ht (fun q => k q p l e s m args below meth c D yc hz Qs X E H locs cells slots lsA hL hH hS h1 h2 h3) (fun q => k9 q p l e s m args below meth c D yc hz Qs X E H locs cells slots lsA hL hH hS h1 h2 h3)
theorem P_if_ge {M : vR} {pc : Nat} {ls : List (Option Value)} {st : List Value} {b : Nat × Nat} {μ : vM} {Q : vO → vM → Prop} {off : Int} {tgt : Nat} {x : Int32} (hd : decode (vCC M) pc = .ok (.ifCond .ge off, 3)) (ht : (pc : Int) + off = (tgt : Int)) (k : 0 ≤ x → vP M tgt ls st b μ Q) (k9 : ¬ 0 ≤ x → vP M (pc + 3) ls st b μ Q) : vP M pc ls (.int x :: st) b μ Q :=
  fun p l e s m args below meth c D yc hz Qs X E H locs cells slots lsA hL hH hS h1 h2 h3 => lv_if_ge X.1 X.2.1 hd ht (fun q => k q p l e s m args below meth c D yc hz Qs X E H locs cells slots lsA hL hH hS h1 h2 h3) (fun q => k9 q p l e s m args below meth c D yc hz Qs X E H locs cells slots lsA hL hH hS h1 h2 h3)
theorem P_icmp_ge {M : vR} {pc : Nat} {ls : List (Option Value)} {st : List Value} {b : Nat × Nat} {μ : vM} {Q : vO → vM → Prop} {off : Int} {tgt : Nat} {x y : Int32} (hd : decode (vCC M) pc = .ok (.if_icmp .ge off, 3)) (ht : (pc : Int) + off = (tgt : Int)) (k : y ≤ x → vP M tgt ls st b μ Q) (k9 : ¬ y ≤ x → vP M (pc + 3) ls st b μ Q) : vP M pc ls (.int y :: .int x :: st) b μ Q :=
  fun p l e s m args below meth c D yc hz Qs X E H locs cells slots lsA hL hH hS h1 h2 h3 => lv_icmp_ge X.1 X.2.1 hd ht (fun q => k q p l e s m args below meth c D yc hz Qs X E H locs cells slots lsA hL hH hS h1 h2 h3) (fun q => k9 q p l e s m args below meth c D yc hz Qs X E H locs cells slots lsA hL hH hS h1 h2 h3)
theorem P_if_gt {M : vR} {pc : Nat} {ls : List (Option Value)} {st : List Value} {b : Nat × Nat} {μ : vM} {Q : vO → vM → Prop} {off : Int} {tgt : Nat} {x : Int32} (hd : decode (vCC M) pc = .ok (.ifCond .gt off, 3)) (ht : (pc : Int) + off = (tgt : Int)) (k : 0 < x → vP M tgt ls st b μ Q) (k9 : ¬ 0 < x → vP M (pc + 3) ls st b μ Q) : vP M pc ls (.int x :: st) b μ Q :=
  fun p l e s m args below meth c D yc hz Qs X E H locs cells slots lsA hL hH hS h1 h2 h3 => lv_if_gt X.1 X.2.1 hd ht (fun q => k q p l e s m args below meth c D yc hz Qs X E H locs cells slots lsA hL hH hS h1 h2 h3) (fun q => k9 q p l e s m args below meth c D yc hz Qs X E H locs cells slots lsA hL hH hS h1 h2 h3)
theorem P_icmp_gt {M : vR} {pc : Nat} {ls : List (Option Value)} {st : List Value} {b : Nat × Nat} {μ : vM} {Q : vO → vM → Prop} {off : Int} {tgt : Nat} {x y : Int32} (hd : decode (vCC M) pc = .ok (.if_icmp .gt off, 3)) (ht : (pc : Int) + off = (tgt : Int)) (k : y < x → vP M tgt ls st b μ Q) (k9 : ¬ y < x → vP M (pc + 3) ls st b μ Q) : vP M pc ls (.int y :: .int x :: st) b μ Q :=
  fun p l e s m args below meth c D yc hz Qs X E H locs cells slots lsA hL hH hS h1 h2 h3 => lv_icmp_gt X.1 X.2.1 hd ht (fun q => k q p l e s m args below meth c D yc hz Qs X E H locs cells slots lsA hL hH hS h1 h2 h3) (fun q => k9 q p l e s m args below meth c D yc hz Qs X E H locs cells slots lsA hL hH hS h1 h2 h3)
theorem P_if_le {M : vR} {pc : Nat} {ls : List (Option Value)} {st : List Value} {b : Nat × Nat} {μ : vM} {Q : vO → vM → Prop} {off : Int} {tgt : Nat} {x : Int32} (hd : decode (vCC M) pc = .ok (.ifCond .le off, 3)) (ht : (pc : Int) + off = (tgt : Int)) (k : x ≤ 0 → vP M tgt ls st b μ Q) (k9 : ¬ x ≤ 0 → vP M (pc + 3) ls st b μ Q) : vP M pc ls (.int x :: st) b μ Q :=
  fun p l e s m args below meth c D yc hz Qs X E H locs cells slots lsA hL hH hS h1 h2 h3 => lv_if_le X.1 X.2.1 hd ht (fun q => k q p l e s m args below meth c D yc hz Qs X E H locs cells slots lsA hL hH hS h1 h2 h3) (fun q => k9 q p l e s m args below meth c D yc hz Qs X E H locs cells slots lsA hL hH hS h1 h2 h3)
theorem P_icmp_le {M : vR} {pc : Nat} {ls : List (Option Value)} {st : List Value} {b : Nat × Nat} {μ : vM} {Q : vO → vM → Prop} {off : Int} {tgt : Nat} {x y : Int32} (hd : decode (vCC M) pc = .ok (.if_icmp .le off, 3)) (ht : (pc : Int) + off = (tgt : Int)) (k : x ≤ y → vP M tgt ls st b μ Q) (k9 : ¬ x ≤ y → vP M (pc + 3) ls st b μ Q) : vP M pc ls (.int y :: .int x :: st) b μ Q :=
  fun p l e s m args below meth c D yc hz Qs X E H locs cells slots lsA hL hH hS h1 h2 h3 => lv_icmp_le X.1 X.2.1 hd ht (fun q => k q p l e s m args below meth c D yc hz Qs X E H locs cells slots lsA hL hH hS h1 h2 h3) (fun q => k9 q p l e s m args below meth c D yc hz Qs X E H locs cells slots lsA hL hH hS h1 h2 h3)
theorem P_lsw {M : vR} {pc : Nat} {ls : List (Option Value)} {st : List Value} {b : Nat × Nat} {μ : vM} {Q : vO → vM → Prop} {dflt : Int} {ps : Array (Int × Int)} {len : Nat} {x : Int32} {off : Int} {tgt : Nat} (hd : decode (vCC M) pc = .ok (.lookupswitch dflt ps, len)) (hp : (ps.toList.zip (ps.toList.drop 1)).all (fun (a, next) => a.1 < next.1) = true) (ho : Op.lookupswitch.offset ps.toList dflt x.toInt = off) (ht : (pc : Int) + off = (tgt : Int)) (k : vP M tgt ls st b μ Q) : vP M pc ls (.int x :: st) b μ Q :=
  fun p l e s m args below meth c D yc hz Qs X E H locs cells slots lsA hL hH hS h1 h2 h3 => lv_lookup X.1 X.2.1 hd hp ho ht (k p l e s m args below meth c D yc hz Qs X E H locs cells slots lsA hL hH hS h1 h2 h3)
theorem P_tswOut {M : vR} {pc : Nat} {ls : List (Option Value)} {st : List Value} {b : Nat × Nat} {μ : vM} {Q : vO → vM → Prop} {dflt lo hi : Int} {offs : Array Int} {len : Nat} {x : Int32} {tgt : Nat} (hd : decode (vCC M) pc = .ok (.tableswitch dflt lo hi offs, len)) (h : x.toInt < lo ∨ hi < x.toInt) (ht : (pc : Int) + dflt = (tgt : Int)) (k : vP M tgt ls st b μ Q) : vP M pc ls (.int x :: st) b μ Q :=
  fun p l e s m args below meth c D yc hz Qs X E H locs cells slots lsA hL hH hS h1 h2 h3 => lv_tableOut X.1 X.2.1 hd h ht (k p l e s m args below meth c D yc hz Qs X E H locs cells slots lsA hL hH hS h1 h2 h3)
theorem P_tswIn {M : vR} {pc : Nat} {ls : List (Option Value)} {st : List Value} {b : Nat × Nat} {μ : vM} {Q : vO → vM → Prop} {dflt lo hi : Int} {offs : Array Int} {len : Nat} {x : Int32} {off : Int} {tgt : Nat} (hd : decode (vCC M) pc = .ok (.tableswitch dflt lo hi offs, len)) (g1 : ¬ x.toInt < lo) (g2 : ¬ hi < x.toInt) (ho : offs[(x.toInt - lo).toNat]? = some off) (ht : (pc : Int) + off = (tgt : Int)) (k : vP M tgt ls st b μ Q) : vP M pc ls (.int x :: st) b μ Q :=
  fun p l e s m args below meth c D yc hz Qs X E H locs cells slots lsA hL hH hS h1 h2 h3 => lv_tableIn X.1 X.2.1 hd g1 g2 ho ht (k p l e s m args below meth c D yc hz Qs X E H locs cells slots lsA hL hH hS h1 h2 h3)
-- the memory
theorem P_geti {M : vR} {pc : Nat} {ls : List (Option Value)} {st : List Value} {b : Nat × Nat} {σ : vS} {v : vV} {Q : vO → vM → Prop} {idx ci k ln n : Nat} {q : vw_C} (hd : decode (vCC M) pc = .ok (.getfield idx, 3)) (hq : vCk ci q) (hw : Cond.fieldLink (vOwn M) idx q.1 (q.2.1 k).2.1 (q.2.1 k).2.2.1 ∈ aw) (hi : vIs ci k = true) (hk : k < vNs ci) (hn : vK σ n ci ln) (K : vP M (pc + 3) ls (.int (v n k) :: st) b (σ, v) Q) : vP M pc ls (.ref n :: st) b (σ, v) Q := by
  intro p l e s m args below meth c D yc hz Qs X E H locs cells slots lsA hL hH hS h1 h2 h3
  obtain ⟨c1, c2, c3, c4, c5, c6, -⟩ := hq
  rw [List.map_cons, vph_ref hn.1.2]
  exact va_get (D := D) (ci := ci) X.1 X.2.1 X.2.2.2.2.1 c4 X.2.2.2.1 X.2.2.2.2.2.1 hH n ((vW_get hn.1.1).trans (by rw [vE_o hn c3])) c1 k (by rw [c2]; exact hk) (X.2.2.2.2.1 _ hw) (fun x hx => by rw [c5 k (by rw [c2]; exact hk)] at hx; exact hx) (vFs_i (μ := (σ, v)) hk hi) hd (K p l e s m args below meth c D yc hz Qs X E H locs cells slots lsA hL hH hS h1 h2 h3)
theorem P_getr {M : vR} {pc : Nat} {ls : List (Option Value)} {st : List Value} {b : Nat × Nat} {μ : vM} {Q : vO → vM → Prop} {idx ci k ln n t : Nat} {q : vw_C} (hd : decode (vCC M) pc = .ok (.getfield idx, 3)) (hq : vCk ci q) (hw : Cond.fieldLink (vOwn M) idx q.1 (q.2.1 k).2.1 (q.2.1 k).2.2.1 ∈ aw) (hi : vIs ci k = false) (hk : k < vNs ci) (hn : vK μ.1 n ci ln) (ht : μ.1.2.2.1 n k = some t) (ht2 : t < 1000000) (K : vP M (pc + 3) ls (.ref t :: st) b μ Q) : vP M pc ls (.ref n :: st) b μ Q := by
  intro p l e s m args below meth c D yc hz Qs X E H locs cells slots lsA hL hH hS h1 h2 h3
  obtain ⟨c1, c2, c3, c4, c5, c6, -⟩ := hq
  rw [List.map_cons, vph_ref hn.1.2]
  have K9 := K p l e s m args below meth c D yc hz Qs X E H locs cells slots lsA hL hH hS h1 h2 h3
  rw [List.map_cons, vph_ref ht2] at K9
  exact va_get (D := D) (ci := ci) X.1 X.2.1 X.2.2.2.2.1 c4 X.2.2.2.1 X.2.2.2.2.2.1 hH n ((vW_get hn.1.1).trans (by rw [vE_o hn c3])) c1 k (by rw [c2]; exact hk) (X.2.2.2.2.1 _ hw) (fun x hx => by rw [c5 k (by rw [c2]; exact hk)] at hx; exact hx) ((vFs_r hk hi).trans (by rw [vRf, ht]; rfl)) hd K9
theorem vW_put {yc : Nat → ClassId} {hz : Nat} {σ : vS} {v : vV} {n ci ln k : Nat} {x : Int32} (hn : vK σ n ci ln) (hc : ci < 8) (hi : vIs ci k = true) : (vW yc hz (σ, v)).set n (hz + n, .inr (ci, (vFs hz (σ, v) ci n).set k (.int x))) = vW yc hz (σ, vU v n k x) :=
  vW_set rfl (fun _ => by rw [vE_o (μ := (σ, vU v n k x)) hn hc, vFs_set hi]) (fun j hj => vE_v (vU_ne hj))
theorem vW_puti {yc : Nat → ClassId} {hz : Nat} {σ : vS} {v : vV} {n ln k : Nat} {x : Int32} (hn : vK σ n 8 ln) : (vW yc hz (σ, v)).set n (hz + n, .inl (yc 0, (ln, .inl (upd (v n) k x)))) = vW yc hz (σ, vU v n k x) :=
  vW_set rfl (fun _ => by rw [vE_i (μ := (σ, vU v n k x)) hn]; show Sum.inl (yc 0, ln, Sum.inl (vU v n k x n)) = _; rw [vU_at]) (fun j hj => vE_v (vU_ne hj))
theorem vW_putz {yc : Nat → ClassId} {hz : Nat} {σ : vS} {v : vV} {n ln k : Nat} {x : Int32} (hn : vK σ n 9 ln) : (vW yc hz (σ, v)).set n (hz + n, .inl (yc 1, (ln, .inl (upd (v n) k x)))) = vW yc hz (σ, vU v n k x) :=
  vW_set rfl (fun _ => by rw [vE_z (μ := (σ, vU v n k x)) hn]; show Sum.inl (yc 1, ln, Sum.inl (vU v n k x n)) = _; rw [vU_at]) (fun j hj => vE_v (vU_ne hj))
theorem vW_putA {yc : Nat → ClassId} {hz : Nat} {σ : vS} {v : vV} {n ln : Nat} {f : Nat → Int32} (hn : vK σ n 8 ln) : (vW yc hz (σ, v)).set n (hz + n, .inl (yc 0, (ln, .inl f))) = vW yc hz (σ, vUA v n f) :=
  vW_set rfl (fun _ => by rw [vE_i (μ := (σ, vUA v n f)) hn]; show Sum.inl (yc 0, ln, Sum.inl (vUA v n f n)) = _; rw [vUA_at]) (fun j hj => vE_v (vUA_ne hj))
theorem vIn {i : Int32} {j ln : Nat} (hi : i = nI j) (hj : j < ln) (hl : ln < 2147483648) : vp_in i ln ∧ i.toNatClampNeg = j := by
  subst hi
  exact ⟨nI_in hj hl, nI_clamp (Nat.lt_trans hj hl)⟩
theorem P_iald {M : vR} {pc : Nat} {ls : List (Option Value)} {st : List Value} {b : Nat × Nat} {σ : vS} {v : vV} {Q : vO → vM → Prop} {i : Int32} {ln n : Nat} (j : Nat) (hd : decode (vCC M) pc = .ok (.iaload, 1)) (hn : vK σ n 8 ln) (hi : i = nI j) (hj : j < ln) (hl : ln < 2147483648) (K : vP M (pc + 1) ls (.int (v n j) :: st) b (σ, v) Q) : vP M pc ls (.int i :: .ref n :: st) b (σ, v) Q := by
  intro p l e s m args below meth c D yc hz Qs X E H locs cells slots lsA hL hH hS h1 h2 h3
  rw [List.map_cons, List.map_cons, vph_ref hn.1.2]
  obtain ⟨g1, g2⟩ := vIn hi hj hl
  refine va_iald X.1 X.2.1 X.2.2.2.2.2.1 hH n 0 ((vW_get hn.1.1).trans (by rw [vE_i hn])) rfl g1 hd ?_
  rw [g2]
  exact K p l e s m args below meth c D yc hz Qs X E H locs cells slots lsA hL hH hS h1 h2 h3
theorem P_zald {M : vR} {pc : Nat} {ls : List (Option Value)} {st : List Value} {b : Nat × Nat} {σ : vS} {v : vV} {Q : vO → vM → Prop} {i : Int32} {ln n : Nat} (j : Nat) (hd : decode (vCC M) pc = .ok (.baload, 1)) (hn : vK σ n 9 ln) (hi : i = nI j) (hj : j < ln) (hl : ln < 2147483648) (K : vP M (pc + 1) ls (.int (v n j) :: st) b (σ, v) Q) : vP M pc ls (.int i :: .ref n :: st) b (σ, v) Q := by
  intro p l e s m args below meth c D yc hz Qs X E H locs cells slots lsA hL hH hS h1 h2 h3
  rw [List.map_cons, List.map_cons, vph_ref hn.1.2]
  obtain ⟨g1, g2⟩ := vIn hi hj hl
  refine va_zald X.1 X.2.1 X.2.2.2.2.2.1 hH n 1 ((vW_get hn.1.1).trans (by rw [vE_z hn])) rfl g1 hd ?_
  rw [g2]
  exact K p l e s m args below meth c D yc hz Qs X E H locs cells slots lsA hL hH hS h1 h2 h3
theorem P_alen {M : vR} {pc : Nat} {ls : List (Option Value)} {st : List Value} {b : Nat × Nat} {σ : vS} {v : vV} {Q : vO → vM → Prop} {ln n : Nat} (hd : decode (vCC M) pc = .ok (.arraylength, 1)) (hn : vK σ n 8 ln) (K : vP M (pc + 1) ls (.int (nI ln) :: st) b (σ, v) Q) : vP M pc ls (.ref n :: st) b (σ, v) Q := by
  intro p l e s m args below meth c D yc hz Qs X E H locs cells slots lsA hL hH hS h1 h2 h3
  rw [List.map_cons, vph_ref hn.1.2]
  exact va_alen (x := (ln, .inl (v n))) X.1 X.2.1 X.2.2.2.2.2.1 hH n 0 ((vW_get hn.1.1).trans (by rw [vE_i hn])) rfl rfl hd (K p l e s m args below meth c D yc hz Qs X E H locs cells slots lsA hL hH hS h1 h2 h3)
theorem P_aaldC {M : vR} {pc : Nat} {ls : List (Option Value)} {st : List Value} {b : Nat × Nat} {μ : vM} {Q : vO → vM → Prop} {i : Int32} {ln n t : Nat} (j : Nat) (hd : decode (vCC M) pc = .ok (.aaload, 1)) (hn : vK μ.1 n 10 ln) (hi : i = nI j) (hj : j < ln) (hl : ln < 2147483648) (ht : μ.1.2.2.1 n j = some t) (ht2 : t < 1000000) (K : vP M (pc + 1) ls (.ref t :: st) b μ Q) : vP M pc ls (.int i :: .ref n :: st) b μ Q := by
  intro p l e s m args below meth c D yc hz Qs X E H locs cells slots lsA hL hH hS h1 h2 h3
  rw [List.map_cons, List.map_cons, vph_ref hn.1.2]
  obtain ⟨g1, g2⟩ := vIn hi hj hl
  have K9 := K p l e s m args below meth c D yc hz Qs X E H locs cells slots lsA hL hH hS h1 h2 h3
  rw [List.map_cons, vph_ref ht2] at K9
  refine va_aldq X.1 X.2.1 X.2.2.2.2.2.1 hH n 2 ((vW_get hn.1.1).trans (by rw [vE_c hn])) rfl g1 hd ?_
  rw [g2, ht]
  exact K9
theorem P_aaldM {M : vR} {pc : Nat} {ls : List (Option Value)} {st : List Value} {b : Nat × Nat} {μ : vM} {Q : vO → vM → Prop} {i : Int32} {ln n t : Nat} (j : Nat) (hd : decode (vCC M) pc = .ok (.aaload, 1)) (hn : vK μ.1 n 11 ln) (hi : i = nI j) (hj : j < ln) (hl : ln < 2147483648) (ht : μ.1.2.2.1 n j = some t) (ht2 : t < 1000000) (K : vP M (pc + 1) ls (.ref t :: st) b μ Q) : vP M pc ls (.int i :: .ref n :: st) b μ Q := by
  intro p l e s m args below meth c D yc hz Qs X E H locs cells slots lsA hL hH hS h1 h2 h3
  rw [List.map_cons, List.map_cons, vph_ref hn.1.2]
  obtain ⟨g1, g2⟩ := vIn hi hj hl
  have K9 := K p l e s m args below meth c D yc hz Qs X E H locs cells slots lsA hL hH hS h1 h2 h3
  rw [List.map_cons, vph_ref ht2] at K9
  refine va_aldq X.1 X.2.1 X.2.2.2.2.2.1 hH n 3 ((vW_get hn.1.1).trans (by rw [vE_m hn])) rfl g1 hd ?_
  rw [g2, ht]
  exact K9
theorem va_S_size {A : Nat → Prop} {H0 H : Heap} {locs : List Loc} (h : va_S A H0 H locs) : H0.size ≤ H.size := h.1
theorem P_puti {M : vR} {pc : Nat} {ls : List (Option Value)} {st : List Value} {b : Nat × Nat} {σ : vS} {v : vV} {Q : vO → vM → Prop} {idx ci k ln n : Nat} {x : Int32} {q : vw_C} (hd : decode (vCC M) pc = .ok (.putfield idx, 3)) (hq : vCk ci q) (hw : Cond.fieldLink (vOwn M) idx q.1 (q.2.1 k).2.1 (q.2.1 k).2.2.1 ∈ aw) (hi : vIs ci k = true) (hk : k < vNs ci) (hf : (q.2.1 k).2.2.2 = false) (hn : vK σ n ci ln) (K : vP M (pc + 3) ls st b (σ, vU v n k x) Q) : vP M pc ls (.int x :: .ref n :: st) b (σ, v) Q := by
  intro p l e s m args below meth c D yc hz Qs X E H locs cells slots lsA hL hH hS h1 h2 h3
  obtain ⟨c1, c2, c3, c4, c5, c6, ty, c7, c8, -⟩ := hq
  rw [List.map_cons, List.map_cons, vph_ref hn.1.2]
  have hk2 : k < q.2.2 := by rw [c2]; exact hk
  exact va_put (v := .int x) (D := D) (ci := ci) X.1 X.2.1 X.2.2.2.2.1 c4 ty c7 c6 X.2.2.2.1 X.2.2.2.2.2.1 hH vW_D hS n ((vW_get hn.1.1).trans (by rw [vE_o hn c3])) c1 k hk2 (X.2.2.2.2.1 _ hw) (fun x hx => by rw [c5 k hk2] at hx; exact hx) hf (c7 k hk2) (by rw [c8 k hk2 hi]; rfl) (by rw [c8 k hk2 hi]; rfl) (by rw [vFs_len]; exact hk) hd (fun H1 locs1 hP1 _ hS1 => K p l e s m args below meth c D yc hz Qs X E H1 locs1 cells slots lsA hL (by rw [vW_put (yc := yc) (hz := hz) (v := v) (x := x) hn c3 hi] at hP1; exact hP1) hS1 h1 h2 h3)
theorem P_iast {M : vR} {pc : Nat} {ls : List (Option Value)} {st : List Value} {b : Nat × Nat} {σ : vS} {v : vV} {Q : vO → vM → Prop} {i x : Int32} {ln n : Nat} (j : Nat) (hd : decode (vCC M) pc = .ok (.iastore, 1)) (hn : vK σ n 8 ln) (hi : i = nI j) (hj : j < ln) (hl : ln < 2147483648) (K : vP M (pc + 1) ls st b (σ, vU v n j x) Q) : vP M pc ls (.int x :: .int i :: .ref n :: st) b (σ, v) Q := by
  intro p l e s m args below meth c D yc hz Qs X E H locs cells slots lsA hL hH hS h1 h2 h3
  rw [List.map_cons, List.map_cons, List.map_cons, vph_ref hn.1.2]
  obtain ⟨g1, g2⟩ := vIn hi hj hl
  exact va_iast X.1 X.2.1 X.2.2.2.2.2.1 hH vW_D hS n 0 ((vW_get hn.1.1).trans (by rw [vE_i hn])) rfl g1 hd (fun H1 locs1 hP1 _ hS1 => K p l e s m args below meth c D yc hz Qs X E H1 locs1 cells slots lsA hL (by rw [g2, vW_puti hn] at hP1; exact hP1) hS1 h1 h2 h3)
theorem P_zast {M : vR} {pc : Nat} {ls : List (Option Value)} {st : List Value} {b : Nat × Nat} {σ : vS} {v : vV} {Q : vO → vM → Prop} {i x : Int32} {ln n : Nat} (j : Nat) (hd : decode (vCC M) pc = .ok (.bastore, 1)) (hn : vK σ n 9 ln) (hi : i = nI j) (hj : j < ln) (hl : ln < 2147483648) (hx : vp_nar .boolean x = x) (K : vP M (pc + 1) ls st b (σ, vU v n j x) Q) : vP M pc ls (.int x :: .int i :: .ref n :: st) b (σ, v) Q := by
  intro p l e s m args below meth c D yc hz Qs X E H locs cells slots lsA hL hH hS h1 h2 h3
  rw [List.map_cons, List.map_cons, List.map_cons, vph_ref hn.1.2]
  obtain ⟨g1, g2⟩ := vIn hi hj hl
  exact va_zast X.1 X.2.1 X.2.2.2.2.2.1 hH vW_D hS n 1 ((vW_get hn.1.1).trans (by rw [vE_z hn])) rfl g1 hd (fun H1 locs1 hP1 _ hS1 => K p l e s m args below meth c D yc hz Qs X E H1 locs1 cells slots lsA hL (by rw [g2, hx, vW_putz hn] at hP1; exact hP1) hS1 h1 h2 h3)
-- ends
theorem P_iret {M : vR} {pc : Nat} {ls : List (Option Value)} {b : Nat × Nat} {μ : vM} {Q : vO → vM → Prop} {x : Int32} (hd : decode (vCC M) pc = .ok (.ireturn, 1)) (hr : vRt M = some .int) (hq : Q (.inl (some (.int x))) μ) : vP M pc ls [.int x] b μ Q :=
  fun p l e s m args below meth c D yc hz Qs X E H locs cells slots lsA hL hH hS h1 h2 h3 => E.1 (some (.int x)) pc lsA μ H locs cells slots ⟨hd, Or.inl hr⟩ hq hH hS (by omega) (by omega)
theorem P_zret {M : vR} {pc : Nat} {ls : List (Option Value)} {b : Nat × Nat} {μ : vM} {Q : vO → vM → Prop} {x : Int32} (hd : decode (vCC M) pc = .ok (.ireturn, 1)) (hr : vRt M = some .boolean) (hx : narrow .boolean (.int x) = .int x) (hq : Q (.inl (some (.int x))) μ) : vP M pc ls [.int x] b μ Q :=
  fun p l e s m args below meth c D yc hz Qs X E H locs cells slots lsA hL hH hS h1 h2 h3 => E.1 (some (.int x)) pc lsA μ H locs cells slots ⟨hd, Or.inr ⟨hr, hx⟩⟩ hq hH hS (by omega) (by omega)
theorem P_vret {M : vR} {pc : Nat} {ls : List (Option Value)} {b : Nat × Nat} {μ : vM} {Q : vO → vM → Prop} (hd : decode (vCC M) pc = .ok (.return_, 1)) (hr : vRt M = none) (hq : Q (.inl none) μ) : vP M pc ls [] b μ Q :=
  fun p l e s m args below meth c D yc hz Qs X E H locs cells slots lsA hL hH hS h1 h2 h3 => E.1 none pc lsA μ H locs cells slots ⟨hd, hr⟩ hq hH hS (by omega) (by omega)
theorem P_aret {M : vR} {pc : Nat} {ls : List (Option Value)} {b : Nat × Nat} {μ : vM} {Q : vO → vM → Prop} {n : Nat} (hd : decode (vCC M) pc = .ok (.areturn, 1)) (hr : vRt M = some (.object "ClubRolls$Club")) (hq : Q (.inl (some (.ref n))) μ) : vP M pc ls [.ref n] b μ Q :=
  fun p l e s m args below meth c D yc hz Qs X E H locs cells slots lsA hL hH hS h1 h2 h3 => E.1 (some (.ref n)) pc lsA μ H locs cells slots ⟨hd, hr⟩ hq hH hS (by omega) (by omega)
