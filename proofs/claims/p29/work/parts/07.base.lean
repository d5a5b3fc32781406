/-! A PURE JUDGEMENT OVER A MEMORY OF NUMBERED NODES. Node n lies at the address hz + n; a reference in a frame is .ref n (n < 1000000: the node n; else the address n - 1000000). -/
def aw : List Cond := lw_tbl.filter goodWord
theorem aw_t {w : Cond} (i : Nat) (h : tables_1[i]? = some w) (g : goodWord w = true) : w ∈ aw := List.mem_filter.mpr ⟨List.mem_append_right _ (List.mem_of_getElem? h), g⟩
theorem aw_s {w : Cond} (h : w ∈ k2_sels lw_privs) (g : goodWord w = true) : w ∈ aw := List.mem_filter.mpr ⟨List.mem_append_left _ h, g⟩
theorem aw_good {w : Cond} (h : w ∈ aw) : goodWord w = true := (List.mem_filter.mp h).2
theorem aw_sub {ws : List Cond} (h : ∀ w ∈ ws, w ∈ aw) {y : Cond} : GoodIn (y :: aw) ws := fun w hw => ⟨List.mem_cons_of_mem _ (h w hw), good_of_word (aw_good (h w hw))⟩
/-- a memory: how many nodes, their kinds and lengths, their references, whether the next node comes at the heap's end; their numbers -/
abbrev vS : Type := Nat × (Nat → Nat × Nat) × (Nat → Nat → Option Nat) × Bool
abbrev vV : Type := Nat → Nat → Int32
abbrev vM : Type := vS × vV
/-- how a method ends: returned, or thrown by a class' name -/
abbrev vO : Type := Option Value ⊕ String
/-- a method: its class, its code, its locals, what it returns, its room -/
abbrev vR : Type := String × ByteArray × Nat × Option FieldType × Room × String
abbrev vOwn (M : vR) : String := M.1
abbrev vCC (M : vR) : ByteArray := M.2.1
abbrev vNL (M : vR) : Nat := M.2.2.1
abbrev vRt (M : vR) : Option FieldType := M.2.2.2.1
abbrev vRm (M : vR) : Room := M.2.2.2.2.1
abbrev vNm (M : vR) : String := M.2.2.2.2.2
def vIs : Nat → Nat → Bool
  | 0, k => decide (3 ≤ k)
  | 1, k => decide (1 ≤ k)
  | 2, k => decide (k < 13)
  | 3, k => decide (2 ≤ k)
  | 4, k => decide (k = 3)
  | 5, k => decide (k = 1)
  | 6, _ => false
  | 7, k => decide (k = 0) || decide (k = 2) || decide (k = 6) || decide (k = 10) || decide (k = 11)
  | _, _ => false
def vNs : Nat → Nat
  | 0 => 9 | 1 => 3 | 2 => 16 | 3 => 5 | 4 => 4 | 5 => 2 | 6 => 7 | 7 => 12 | _ => 0
/-- a class of the worlds: its place, its fields -/
def vCk (ci : Nat) (q : vw_C) : Prop := vwCl[ci]? = some q ∧ q.2.2 = vNs ci ∧ ci < 8 ∧ (∀ w ∈ u_ws q.1 q.2.1 q.2.2, w ∈ aw) ∧ (∀ k, k < q.2.2 → (q.2.1 k).1 = q.1) ∧ (∀ a, a < q.2.2 → ∀ b, b < q.2.2 → a ≠ b → (q.2.1 a).2.1 ≠ (q.2.1 b).2.1) ∧ ∃ ty : Nat → FieldType, (∀ k, k < q.2.2 → parseFieldDescriptor (q.2.1 k).2.2.1 = some (ty k)) ∧ (∀ k, k < q.2.2 → vIs ci k = true → ty k = .int) ∧ ∀ k, k < q.2.2 → vIs ci k = false → defaultValue (ty k) = .null ∧ (∀ a, narrow (ty k) (.ref a) = .ref a) ∧ ∀ a, fits (ty k) (.ref a) = true
/-- a method that is called: its words in the list -/
def vY (z : vR) (y : MethodName) (np : Nat) : Prop := Cond.code y (vCC z) (vNL z) (vRt z) ∈ aw ∧ Cond.initialized y.cls ∈ aw ∧ (y.cls ≠ "java/lang/invoke/MethodHandle" ∧ y.cls ≠ "java/lang/invoke/VarHandle" ∧ (parseMethodDescriptor y.desc).map (fun d => d.parameters.length) = some np)
def vYV (y : MethodName) : Prop := Cond.instanceMethod y ∈ aw ∧ Cond.selects y.cls y y ∈ aw

theorem aw_sub0 {y : Cond} (h : y ∈ aw) : GoodIn (y :: aw) (y :: aw) := fun w hw => ⟨hw, good_of_word ((List.mem_cons.mp hw).elim (fun g => by rw [g]; exact aw_good h) aw_good)⟩
