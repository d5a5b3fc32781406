
/-! rows over natural numbers, truths, calls that only answer or only change the numbers -/
theorem nI_bv (n : Nat) : (nI n).toBitVec = BitVec.ofNat 32 n := rfl
theorem nI_ext {x y : Int32} (h : x.toBitVec.toNat = y.toBitVec.toNat) : x = y := Int32.toBitVec_inj.mp (BitVec.eq_of_toNat_eq h)
theorem nI_mul (a b : Nat) : nI a * nI b = nI (a * b) := by
  apply nI_ext
  simp only [Int32.toBitVec_mul, nI_bv, BitVec.toNat_mul, BitVec.toNat_ofNat, Nat.mul_mod_mod, Nat.mod_mul_mod]
theorem nI_and (a b : Nat) : nI a &&& nI b = nI (a &&& b) := by
  apply nI_ext
  simp only [Int32.toBitVec_and, nI_bv, BitVec.toNat_and, BitVec.toNat_ofNat, Nat.and_mod_two_pow]
theorem nI_or (a b : Nat) : nI a ||| nI b = nI (a ||| b) := by
  apply nI_ext
  simp only [Int32.toBitVec_or, nI_bv, BitVec.toNat_or, BitVec.toNat_ofNat, Nat.or_mod_two_pow]
theorem nI_xor (a b : Nat) : nI a ^^^ nI b = nI (a ^^^ b) := by
  apply nI_ext
  simp only [Int32.toBitVec_xor, nI_bv, BitVec.toNat_xor, BitVec.toNat_ofNat, Nat.xor_mod_two_pow]
theorem nI_amt : ∀ k : Nat, k < 32 → ((nI k &&& 31).toBitVec.smod 32).toNat = k := by decide +kernel
theorem nI_shl {a k : Nat} (hk : k < 32) : nI a <<< (nI k &&& 31) = nI (a <<< k) := by
  apply nI_ext
  rw [Int32.toBitVec_shiftLeft, BitVec.shiftLeft_eq', nI_amt k hk, nI_bv, nI_bv, BitVec.toNat_shiftLeft, BitVec.toNat_ofNat, BitVec.toNat_ofNat]
  simp only [Nat.shiftLeft_eq, Nat.mod_mul_mod]
theorem nI_shr {a k : Nat} (hk : k < 32) (ha : a < 2147483648) : nI a >>> (nI k &&& 31) = nI (a >>> k) := by
  apply nI_ext
  rw [Int32.toBitVec_shiftRight, BitVec.sshiftRight_eq', nI_amt k hk, nI_bv, nI_bv]
  have hm : (BitVec.ofNat 32 a).msb = false := by
    rw [BitVec.msb_eq_decide, BitVec.toNat_ofNat]
    exact decide_eq_false (by omega)
  rw [BitVec.sshiftRight_eq_of_msb_false hm, BitVec.toNat_ushiftRight, BitVec.toNat_ofNat, BitVec.toNat_ofNat, Nat.mod_eq_of_lt (by omega : a < 2 ^ 32), Nat.mod_eq_of_lt]
  exact Nat.lt_of_le_of_lt (Nat.shiftRight_le a k) (by omega)
theorem nI_sub {a b : Nat} (h : b ≤ a) : nI a - nI b = nI (a - b) := by
  have := nI_add (a - b) b
  rw [Nat.sub_add_cancel h] at this
  rw [← this, Int32.add_sub_cancel]
theorem nI_of_toInt {x : Int32} {n : Nat} (h : x.toInt = (n : Int)) (hn : n < 2147483648) : x = nI n := by
  apply Int32.toInt_inj.mp
  rw [h, nI_toInt hn]
theorem nI_div {a b : Nat} (ha : a < 2147483648) (hb : b < 2147483648) : nI a / nI b = nI (a / b) := by
  apply nI_of_toInt
  · have hq := Nat.div_le_self a b
    rw [Int32.toInt_div, nI_toInt ha, nI_toInt hb, ← Int.ofNat_tdiv]
    generalize a / b = q at hq ⊢
    rw [Int.bmod_eq_of_le] <;> omega
  · exact Nat.lt_of_le_of_lt (Nat.div_le_self a b) ha
theorem nI_inc (a c : Nat) : nI a + Int32.ofInt (c : Int) = nI (a + c) := by
  rw [← nI_add]; rfl
theorem nI_dec (a c : Nat) (h : c ≤ a) : nI a + Int32.ofInt (-(c : Int)) = nI (a - c) := by
  rw [← nI_sub h, Int32.sub_eq_add_neg]
  congr 1
  rw [Int32.ofInt_neg]; rfl
def vb (b : Bool) : Int32 := if b then 1 else 0
theorem vb_t {b : Bool} (h : b = true) : nI 1 = vb b := by subst h; rfl
theorem vb_f {b : Bool} (h : b = false) : nI 0 = vb b := by subst h; rfl
theorem vb_nar (b : Bool) : narrow .boolean (.int (vb b)) = .int (vb b) := by cases b <;> rfl
theorem P_top {M : vR} {pc : Nat} {ls : List (Option Value)} {st : List Value} {b : Nat × Nat} {μ : vM} {Q : vO → vM → Prop} {x y : Int32} (h : x = y) (k : vP M pc ls (.int y :: st) b μ Q) : vP M pc ls (.int x :: st) b μ Q := h ▸ k
theorem P_iaddN {M : vR} {pc : Nat} {ls : List (Option Value)} {st : List Value} {b : Nat × Nat} {μ : vM} {Q : vO → vM → Prop} {x y : Nat} (hd : decode (vCC M) pc = .ok (.iadd, 1)) (k : vP M (pc + 1) ls (.int (nI (x + y)) :: st) b μ Q) : vP M pc ls (.int (nI y) :: .int (nI x) :: st) b μ Q := P_iadd hd (P_top (nI_add x y) k)
theorem P_imulN {M : vR} {pc : Nat} {ls : List (Option Value)} {st : List Value} {b : Nat × Nat} {μ : vM} {Q : vO → vM → Prop} {x y : Nat} (hd : decode (vCC M) pc = .ok (.imul, 1)) (k : vP M (pc + 1) ls (.int (nI (x * y)) :: st) b μ Q) : vP M pc ls (.int (nI y) :: .int (nI x) :: st) b μ Q := P_imul hd (P_top (nI_mul x y) k)
theorem P_iandN {M : vR} {pc : Nat} {ls : List (Option Value)} {st : List Value} {b : Nat × Nat} {μ : vM} {Q : vO → vM → Prop} {x y : Nat} (hd : decode (vCC M) pc = .ok (.iand, 1)) (k : vP M (pc + 1) ls (.int (nI (x &&& y)) :: st) b μ Q) : vP M pc ls (.int (nI y) :: .int (nI x) :: st) b μ Q := P_iand hd (P_top (nI_and x y) k)
theorem P_iorN {M : vR} {pc : Nat} {ls : List (Option Value)} {st : List Value} {b : Nat × Nat} {μ : vM} {Q : vO → vM → Prop} {x y : Nat} (hd : decode (vCC M) pc = .ok (.ior, 1)) (k : vP M (pc + 1) ls (.int (nI (x ||| y)) :: st) b μ Q) : vP M pc ls (.int (nI y) :: .int (nI x) :: st) b μ Q := P_ior hd (P_top (nI_or x y) k)
theorem P_ixorN {M : vR} {pc : Nat} {ls : List (Option Value)} {st : List Value} {b : Nat × Nat} {μ : vM} {Q : vO → vM → Prop} {x y : Nat} (hd : decode (vCC M) pc = .ok (.ixor, 1)) (k : vP M (pc + 1) ls (.int (nI (x ^^^ y)) :: st) b μ Q) : vP M pc ls (.int (nI y) :: .int (nI x) :: st) b μ Q := P_ixor hd (P_top (nI_xor x y) k)
theorem P_ishlN {M : vR} {pc : Nat} {ls : List (Option Value)} {st : List Value} {b : Nat × Nat} {μ : vM} {Q : vO → vM → Prop} {x y : Nat} (hd : decode (vCC M) pc = .ok (.ishl, 1)) (hy : y < 32) (k : vP M (pc + 1) ls (.int (nI (x <<< y)) :: st) b μ Q) : vP M pc ls (.int (nI y) :: .int (nI x) :: st) b μ Q := P_ishl hd (P_top (nI_shl hy) k)
theorem P_ishrN {M : vR} {pc : Nat} {ls : List (Option Value)} {st : List Value} {b : Nat × Nat} {μ : vM} {Q : vO → vM → Prop} {x y : Nat} (hd : decode (vCC M) pc = .ok (.ishr, 1)) (hy : y < 32) (hx : x < 2147483648) (k : vP M (pc + 1) ls (.int (nI (x >>> y)) :: st) b μ Q) : vP M pc ls (.int (nI y) :: .int (nI x) :: st) b μ Q := P_ishr hd (P_top (nI_shr hy hx) k)
theorem P_isubN {M : vR} {pc : Nat} {ls : List (Option Value)} {st : List Value} {b : Nat × Nat} {μ : vM} {Q : vO → vM → Prop} {x y : Nat} (hd : decode (vCC M) pc = .ok (.isub, 1)) (h : y ≤ x) (k : vP M (pc + 1) ls (.int (nI (x - y)) :: st) b μ Q) : vP M pc ls (.int (nI y) :: .int (nI x) :: st) b μ Q := P_isub hd (P_top (nI_sub h) k)
theorem P_idivN {M : vR} {pc : Nat} {ls : List (Option Value)} {st : List Value} {b : Nat × Nat} {μ : vM} {Q : vO → vM → Prop} {x y : Nat} (hd : decode (vCC M) pc = .ok (.idiv, 1)) (hx : x < 2147483648) (hy : y < 2147483648) (h0 : 0 < y) (k : vP M (pc + 1) ls (.int (nI (x / y)) :: st) b μ Q) : vP M pc ls (.int (nI y) :: .int (nI x) :: st) b μ Q := P_idiv hd (nI_ne0 h0 hy) (P_top (nI_div hx hy) k)
theorem P_iremN {M : vR} {pc : Nat} {ls : List (Option Value)} {st : List Value} {b : Nat × Nat} {μ : vM} {Q : vO → vM → Prop} {x y : Nat} (hd : decode (vCC M) pc = .ok (.irem, 1)) (hx : x < 2147483648) (hy : y < 2147483648) (h0 : 0 < y) (k : vP M (pc + 1) ls (.int (nI (x % y)) :: st) b μ Q) : vP M pc ls (.int (nI y) :: .int (nI x) :: st) b μ Q :=
  P_irem hd (nI_ne0 h0 hy) (P_top (by rw [nI_div hx hy, nI_mul, nI_sub (Nat.div_mul_le_self x y)]; congr 1; have := Nat.div_add_mod x y; rw [Nat.mul_comm] at this; omega) k)
theorem P_getiN {M : vR} {pc : Nat} {ls : List (Option Value)} {st : List Value} {b : Nat × Nat} {σ : vS} {v : vV} {Q : vO → vM → Prop} {idx ci k ln n : Nat} {x : Int32} {q : vw_C} (hd : decode (vCC M) pc = .ok (.getfield idx, 3)) (hq : vCk ci q) (hw : Cond.fieldLink (vOwn M) idx q.1 (q.2.1 k).2.1 (q.2.1 k).2.2.1 ∈ aw) (hi : vIs ci k = true) (hk : k < vNs ci) (hn : vK σ n ci ln) (e : v n k = x) (K : vP M (pc + 3) ls (.int x :: st) b (σ, v) Q) : vP M pc ls (.ref n :: st) b (σ, v) Q := P_geti hd hq hw hi hk hn (P_top e K)
theorem P_ialdN {M : vR} {pc : Nat} {ls : List (Option Value)} {st : List Value} {b : Nat × Nat} {σ : vS} {v : vV} {Q : vO → vM → Prop} {i : Int32} {ln n : Nat} {x : Int32} (j : Nat) (hd : decode (vCC M) pc = .ok (.iaload, 1)) (hn : vK σ n 8 ln) (hi : i = nI j) (hj : j < ln) (hl : ln < 2147483648) (e : v n j = x) (K : vP M (pc + 1) ls (.int x :: st) b (σ, v) Q) : vP M pc ls (.int i :: .ref n :: st) b (σ, v) Q := P_iald j hd hn hi hj hl (P_top e K)
theorem P_zaldN {M : vR} {pc : Nat} {ls : List (Option Value)} {st : List Value} {b : Nat × Nat} {σ : vS} {v : vV} {Q : vO → vM → Prop} {i : Int32} {ln n : Nat} {x : Int32} (j : Nat) (hd : decode (vCC M) pc = .ok (.baload, 1)) (hn : vK σ n 9 ln) (hi : i = nI j) (hj : j < ln) (hl : ln < 2147483648) (e : v n j = x) (K : vP M (pc + 1) ls (.int x :: st) b (σ, v) Q) : vP M pc ls (.int i :: .ref n :: st) b (σ, v) Q := P_zald j hd hn hi hj hl (P_top e K)
theorem P_bif_eq {M : vR} {pc : Nat} {ls : List (Option Value)} {st : List Value} {b : Nat × Nat} {μ : vM} {Q : vO → vM → Prop} {off : Int} {tgt : Nat} {x : Bool} (hd : decode (vCC M) pc = .ok (.ifCond .eq off, 3)) (ht : (pc : Int) + off = (tgt : Int)) (k : x = false → vP M tgt ls st b μ Q) (k9 : x = true → vP M (pc + 3) ls st b μ Q) : vP M pc ls (.int (vb x) :: st) b μ Q :=
  P_if_eq hd ht (fun q => k (by cases x; rfl; exact absurd q (by decide))) (fun q => k9 (by cases x; exact absurd rfl q; rfl))
theorem P_bif_ne {M : vR} {pc : Nat} {ls : List (Option Value)} {st : List Value} {b : Nat × Nat} {μ : vM} {Q : vO → vM → Prop} {off : Int} {tgt : Nat} {x : Bool} (hd : decode (vCC M) pc = .ok (.ifCond .ne off, 3)) (ht : (pc : Int) + off = (tgt : Int)) (k : x = true → vP M tgt ls st b μ Q) (k9 : x = false → vP M (pc + 3) ls st b μ Q) : vP M pc ls (.int (vb x) :: st) b μ Q :=
  P_if_ne hd ht (fun q => k (by cases x; exact absurd rfl q; rfl)) (fun q => k9 (by cases x; rfl; exact absurd q (by decide)))
/-- fewer locals are known -/
def vsub : List (Option Value) → List (Option Value) → Prop
  | [], _ => True
  | none :: a, _ :: b => vsub a b
  | some x :: a, y :: b => y = some x ∧ vsub a b
  | _ :: _, [] => False
theorem vsub_get : ∀ {a b : List (Option Value)} {i : Nat} {v : Value}, vsub a b → a[i]? = some (some v) → b[i]? = some (some v) := by
  intro a
  induction a with
  | nil => intro b i v _ h; simp at h
  | cons x a ih =>
    intro b i v hs h
    cases b with
    | nil => cases x <;> exact hs.elim
    | cons y b =>
      cases i with
      | zero =>
        simp only [List.getElem?_cons_zero, Option.some.injEq] at h ⊢
        subst h
        exact hs.1
      | succ i =>
        simp only [List.getElem?_cons_succ] at h ⊢
        cases x with
        | none => exact ih hs h
        | some u => exact ih hs.2 h
theorem P_weak {M : vR} {pc : Nat} {ls ls2 : List (Option Value)} {st : List Value} {b : Nat × Nat} {μ : vM} {Q : vO → vM → Prop} (hs : vsub ls2 ls) (k : vP M pc ls2 st b μ Q) : vP M pc ls st b μ Q :=
  fun p l e s m args below meth c D yc hz Qs X E H locs cells slots lsA hL hH hS h1 h2 h3 => k p l e s m args below meth c D yc hz Qs X E H locs cells slots lsA ⟨hL.1, hL.2.1, fun i v h => hL.2.2 i v (vsub_get hs h)⟩ hH hS h1 h2 h3
/-- only an answer -/
def qP (μ : vM) (x : Value) : Option Value → vM → Prop := fun o μ' => o = some x ∧ μ' = μ
/-- an answer or none, and other numbers -/
def qS (σ : vS) (x : Option Value) (post : vV → Prop) : Option Value → vM → Prop := fun o μ' => ∃ v' : vV, o = x ∧ μ' = (σ, v') ∧ post v'
def vZ (z : vR) : Prop := (vRm z).cells = 0 ∧ (vRm z).slots = 0
theorem P_cSp {M z : vR} {y : MethodName} {idx pc np : Nat} {ls : List (Option Value)} {st rest As : List Value} {b : Nat × Nat} {μ : vM} {x : Value} {Q : vO → vM → Prop} (hd : decode (vCC M) pc = .ok (.invokestatic idx, 3)) (hl : Cond.methodLink (vOwn M) idx y ∈ aw) (hy : vY z y np) (hv : Cond.static y ∈ aw) (hR : (vRm z).frames + 1 ≤ (vRm M).frames ∧ 8 + (vNL z + 11) + (vRm z).locals ≤ (vRm M).locals) (hst : st = As.reverse ++ rest) (hnp : As.length = np) (hcat : (rest.map fun v => v.category).sum ≤ 8) (hz0 : ((vRm z).cells, (vRm z).slots) = (0, 0)) (hc : vC z y As μ (qP μ x)) (k : vP M (pc + 3) ls (x :: rest) b μ Q) : vP M pc ls st b μ Q := by
  have hz : vZ z := ⟨congrArg Prod.fst hz0, congrArg Prod.snd hz0⟩
  exact P_callS hd hl hy hv hR hst hnp hcat ⟨by rw [hz.1]; exact Nat.zero_le _, by rw [hz.2]; exact Nat.zero_le _⟩ hc (by rintro _ _ ⟨rfl, rfl⟩ h; exact ⟨h, by rw [hz.1]; rfl⟩) (by rintro _ _ ⟨rfl, rfl⟩; rw [hz.1, hz.2]; exact k)
theorem P_cVp {M z : vR} {y : MethodName} {idx pc ci ln n np : Nat} {ls : List (Option Value)} {st rest As : List Value} {b : Nat × Nat} {μ : vM} {x : Value} {Q : vO → vM → Prop} {q : vw_C} (hd : decode (vCC M) pc = .ok (.invokevirtual idx, 3)) (hl : Cond.methodLink (vOwn M) idx y ∈ aw) (hy : vY z y np) (hv : vYV y) (hq : vCk ci q) (hyc : y.cls = q.1) (hR : (vRm z).frames + 1 ≤ (vRm M).frames ∧ 8 + (vNL z + 11) + (vRm z).locals ≤ (vRm M).locals) (hn : vK μ.1 n ci ln) (hst : st = As.reverse ++ .ref n :: rest) (hnp : As.length = np) (hcat : (rest.map fun v => v.category).sum ≤ 8) (hz0 : ((vRm z).cells, (vRm z).slots) = (0, 0)) (hc : vC z y (.ref n :: As) μ (qP μ x)) (k : vP M (pc + 3) ls (x :: rest) b μ Q) : vP M pc ls st b μ Q := by
  have hz : vZ z := ⟨congrArg Prod.fst hz0, congrArg Prod.snd hz0⟩
  exact P_callV hd hl hy hv hq hyc hR hn hst hnp hcat ⟨by rw [hz.1]; exact Nat.zero_le _, by rw [hz.2]; exact Nat.zero_le _⟩ hc (by rintro _ _ ⟨rfl, rfl⟩ h; exact ⟨h, by rw [hz.1]; rfl⟩) (by rintro _ _ ⟨rfl, rfl⟩; rw [hz.1, hz.2]; exact k)
theorem P_cSs {M z : vR} {y : MethodName} {idx pc np : Nat} {ls : List (Option Value)} {st rest As : List Value} {b : Nat × Nat} {σ : vS} {v : vV} {x : Option Value} {post : vV → Prop} {Q : vO → vM → Prop} (hd : decode (vCC M) pc = .ok (.invokestatic idx, 3)) (hl : Cond.methodLink (vOwn M) idx y ∈ aw) (hy : vY z y np) (hv : Cond.static y ∈ aw) (hR : (vRm z).frames + 1 ≤ (vRm M).frames ∧ 8 + (vNL z + 11) + (vRm z).locals ≤ (vRm M).locals) (hst : st = As.reverse ++ rest) (hnp : As.length = np) (hcat : (rest.map fun v => v.category).sum ≤ 8) (hz0 : ((vRm z).cells, (vRm z).slots) = (0, 0)) (hc : vC z y As (σ, v) (qS σ x post)) (k : ∀ v9, post v9 → vP M (pc + 3) ls (x.toList ++ rest) b (σ, v9) Q) : vP M pc ls st b (σ, v) Q := by
  have hz : vZ z := ⟨congrArg Prod.fst hz0, congrArg Prod.snd hz0⟩
  exact P_callS hd hl hy hv hR hst hnp hcat ⟨by rw [hz.1]; exact Nat.zero_le _, by rw [hz.2]; exact Nat.zero_le _⟩ hc (by rintro _ _ ⟨v9, rfl, rfl, hp⟩ h; exact ⟨h, by rw [hz.1]; rfl⟩) (by rintro _ _ ⟨v9, rfl, rfl, hp⟩; rw [hz.1, hz.2]; exact k v9 hp)
theorem P_cVs {M z : vR} {y : MethodName} {idx pc ci ln n np : Nat} {ls : List (Option Value)} {st rest As : List Value} {b : Nat × Nat} {σ : vS} {v : vV} {x : Option Value} {post : vV → Prop} {Q : vO → vM → Prop} {q : vw_C} (hd : decode (vCC M) pc = .ok (.invokevirtual idx, 3)) (hl : Cond.methodLink (vOwn M) idx y ∈ aw) (hy : vY z y np) (hv : vYV y) (hq : vCk ci q) (hyc : y.cls = q.1) (hR : (vRm z).frames + 1 ≤ (vRm M).frames ∧ 8 + (vNL z + 11) + (vRm z).locals ≤ (vRm M).locals) (hn : vK σ n ci ln) (hst : st = As.reverse ++ .ref n :: rest) (hnp : As.length = np) (hcat : (rest.map fun v => v.category).sum ≤ 8) (hz0 : ((vRm z).cells, (vRm z).slots) = (0, 0)) (hc : vC z y (.ref n :: As) (σ, v) (qS σ x post)) (k : ∀ v9, post v9 → vP M (pc + 3) ls (x.toList ++ rest) b (σ, v9) Q) : vP M pc ls st b (σ, v) Q := by
  have hz : vZ z := ⟨congrArg Prod.fst hz0, congrArg Prod.snd hz0⟩
  exact P_callV hd hl hy hv hq hyc hR hn hst hnp hcat ⟨by rw [hz.1]; exact Nat.zero_le _, by rw [hz.2]; exact Nat.zero_le _⟩ hc (by rintro _ _ ⟨v9, rfl, rfl, hp⟩ h; exact ⟨h, by rw [hz.1]; rfl⟩) (by rintro _ _ ⟨v9, rfl, rfl, hp⟩; rw [hz.1, hz.2]; exact k v9 hp)
theorem P_cSNp {M z : vR} {y : MethodName} {idx pc np : Nat} {ls : List (Option Value)} {st rest As : List Value} {b : Nat × Nat} {μ : vM} {x : Value} {Q : vO → vM → Prop} (hd : decode (vCC M) pc = .ok (.invokestatic idx, 3)) (hl : Cond.methodLinkNest (vOwn M) idx y RX6 ∈ tables_1) (hy : vY z y np) (hv : Cond.static y ∈ aw) (hR : (vRm z).frames + 1 ≤ (vRm M).frames ∧ 8 + (vNL z + 11) + (vRm z).locals ≤ (vRm M).locals) (hst : st = As.reverse ++ rest) (hnp : As.length = np) (hcat : (rest.map fun v => v.category).sum ≤ 8) (hz0 : ((vRm z).cells, (vRm z).slots) = (0, 0)) (hc : vC z y As μ (qP μ x)) (k : vP M (pc + 3) ls (x :: rest) b μ Q) : vP M pc ls st b μ Q := by
  have hz : vZ z := ⟨congrArg Prod.fst hz0, congrArg Prod.snd hz0⟩
  exact P_callSN hd hl hy hv hR hst hnp hcat ⟨by rw [hz.1]; exact Nat.zero_le _, by rw [hz.2]; exact Nat.zero_le _⟩ hc (by rintro _ _ ⟨rfl, rfl⟩ h; exact ⟨h, by rw [hz.1]; rfl⟩) (by rintro _ _ ⟨rfl, rfl⟩; rw [hz.1, hz.2]; exact k)
theorem P_cSNs {M z : vR} {y : MethodName} {idx pc np : Nat} {ls : List (Option Value)} {st rest As : List Value} {b : Nat × Nat} {σ : vS} {v : vV} {x : Option Value} {post : vV → Prop} {Q : vO → vM → Prop} (hd : decode (vCC M) pc = .ok (.invokestatic idx, 3)) (hl : Cond.methodLinkNest (vOwn M) idx y RX6 ∈ tables_1) (hy : vY z y np) (hv : Cond.static y ∈ aw) (hR : (vRm z).frames + 1 ≤ (vRm M).frames ∧ 8 + (vNL z + 11) + (vRm z).locals ≤ (vRm M).locals) (hst : st = As.reverse ++ rest) (hnp : As.length = np) (hcat : (rest.map fun v => v.category).sum ≤ 8) (hz0 : ((vRm z).cells, (vRm z).slots) = (0, 0)) (hc : vC z y As (σ, v) (qS σ x post)) (k : ∀ v9, post v9 → vP M (pc + 3) ls (x.toList ++ rest) b (σ, v9) Q) : vP M pc ls st b (σ, v) Q := by
  have hz : vZ z := ⟨congrArg Prod.fst hz0, congrArg Prod.snd hz0⟩
  exact P_callSN hd hl hy hv hR hst hnp hcat ⟨by rw [hz.1]; exact Nat.zero_le _, by rw [hz.2]; exact Nat.zero_le _⟩ hc (by rintro _ _ ⟨v9, rfl, rfl, hp⟩ h; exact ⟨h, by rw [hz.1]; rfl⟩) (by rintro _ _ ⟨v9, rfl, rfl, hp⟩; rw [hz.1, hz.2]; exact k v9 hp)
theorem nI_z {x : Nat} (hx : x < 2147483648) : nI x = 0 ↔ x = 0 := by rw [← nI_0]; exact nI_eq hx (by decide)
theorem nI_gt0 {x : Nat} (hx : x < 2147483648) : 0 < nI x ↔ 0 < x := by rw [← nI_0]; exact nI_ltI (by decide) hx
theorem nI_le0 {x : Nat} (hx : x < 2147483648) : nI x ≤ 0 ↔ x = 0 := by rw [← nI_0]; exact (nI_leI hx (by decide)).trans Nat.le_zero
theorem P_if_eqN {M : vR} {pc : Nat} {ls : List (Option Value)} {st : List Value} {b : Nat × Nat} {μ : vM} {Q : vO → vM → Prop} {off : Int} {tgt : Nat} {x : Nat} (hd : decode (vCC M) pc = .ok (.ifCond .eq off, 3)) (ht : (pc : Int) + off = (tgt : Int)) (hx : x < 2147483648) (k : x = 0 → vP M tgt ls st b μ Q) (k9 : ¬ x = 0 → vP M (pc + 3) ls st b μ Q) : vP M pc ls (.int (nI x) :: st) b μ Q := P_if_eq hd ht (fun q => k ((nI_z hx).mp q)) (fun q => k9 (fun e => q ((nI_z hx).mpr e)))
theorem P_if_neN {M : vR} {pc : Nat} {ls : List (Option Value)} {st : List Value} {b : Nat × Nat} {μ : vM} {Q : vO → vM → Prop} {off : Int} {tgt : Nat} {x : Nat} (hd : decode (vCC M) pc = .ok (.ifCond .ne off, 3)) (ht : (pc : Int) + off = (tgt : Int)) (hx : x < 2147483648) (k : ¬ x = 0 → vP M tgt ls st b μ Q) (k9 : x = 0 → vP M (pc + 3) ls st b μ Q) : vP M pc ls (.int (nI x) :: st) b μ Q := P_if_ne hd ht (fun q => k (fun e => q ((nI_z hx).mpr e))) (fun q => k9 ((nI_z hx).mp q))
theorem P_if_ltN {M : vR} {pc : Nat} {ls : List (Option Value)} {st : List Value} {b : Nat × Nat} {μ : vM} {Q : vO → vM → Prop} {off : Int} {tgt : Nat} {x : Nat} (hd : decode (vCC M) pc = .ok (.ifCond .lt off, 3)) (ht : (pc : Int) + off = (tgt : Int)) (hx : x < 2147483648) (k : False → vP M tgt ls st b μ Q) (k9 : True → vP M (pc + 3) ls st b μ Q) : vP M pc ls (.int (nI x) :: st) b μ Q := P_if_lt hd ht (fun q => k (nI_pos hx q)) (fun q => k9 (trivial))
theorem P_if_geN {M : vR} {pc : Nat} {ls : List (Option Value)} {st : List Value} {b : Nat × Nat} {μ : vM} {Q : vO → vM → Prop} {off : Int} {tgt : Nat} {x : Nat} (hd : decode (vCC M) pc = .ok (.ifCond .ge off, 3)) (ht : (pc : Int) + off = (tgt : Int)) (hx : x < 2147483648) (k : True → vP M tgt ls st b μ Q) (k9 : False → vP M (pc + 3) ls st b μ Q) : vP M pc ls (.int (nI x) :: st) b μ Q := P_if_ge hd ht (fun q => k (trivial)) (fun q => k9 (q (nI_pos' hx)))
theorem P_if_gtN {M : vR} {pc : Nat} {ls : List (Option Value)} {st : List Value} {b : Nat × Nat} {μ : vM} {Q : vO → vM → Prop} {off : Int} {tgt : Nat} {x : Nat} (hd : decode (vCC M) pc = .ok (.ifCond .gt off, 3)) (ht : (pc : Int) + off = (tgt : Int)) (hx : x < 2147483648) (k : 0 < x → vP M tgt ls st b μ Q) (k9 : ¬ 0 < x → vP M (pc + 3) ls st b μ Q) : vP M pc ls (.int (nI x) :: st) b μ Q := P_if_gt hd ht (fun q => k ((nI_gt0 hx).mp q)) (fun q => k9 (fun e => q ((nI_gt0 hx).mpr e)))
theorem P_if_leN {M : vR} {pc : Nat} {ls : List (Option Value)} {st : List Value} {b : Nat × Nat} {μ : vM} {Q : vO → vM → Prop} {off : Int} {tgt : Nat} {x : Nat} (hd : decode (vCC M) pc = .ok (.ifCond .le off, 3)) (ht : (pc : Int) + off = (tgt : Int)) (hx : x < 2147483648) (k : x = 0 → vP M tgt ls st b μ Q) (k9 : ¬ x = 0 → vP M (pc + 3) ls st b μ Q) : vP M pc ls (.int (nI x) :: st) b μ Q := P_if_le hd ht (fun q => k ((nI_le0 hx).mp q)) (fun q => k9 (fun e => q ((nI_le0 hx).mpr e)))
theorem P_icmp_eqN {M : vR} {pc : Nat} {ls : List (Option Value)} {st : List Value} {b : Nat × Nat} {μ : vM} {Q : vO → vM → Prop} {off : Int} {tgt : Nat} {x y : Nat} (hd : decode (vCC M) pc = .ok (.if_icmp .eq off, 3)) (ht : (pc : Int) + off = (tgt : Int)) (hx : x < 2147483648) (hy : y < 2147483648) (k : x = y → vP M tgt ls st b μ Q) (k9 : ¬ x = y → vP M (pc + 3) ls st b μ Q) : vP M pc ls (.int (nI y) :: .int (nI x) :: st) b μ Q := P_icmp_eq hd ht (fun q => k ((nI_eq hx hy).mp q)) (fun q => k9 (fun e => q ((nI_eq hx hy).mpr e)))
theorem P_icmp_neN {M : vR} {pc : Nat} {ls : List (Option Value)} {st : List Value} {b : Nat × Nat} {μ : vM} {Q : vO → vM → Prop} {off : Int} {tgt : Nat} {x y : Nat} (hd : decode (vCC M) pc = .ok (.if_icmp .ne off, 3)) (ht : (pc : Int) + off = (tgt : Int)) (hx : x < 2147483648) (hy : y < 2147483648) (k : ¬ x = y → vP M tgt ls st b μ Q) (k9 : x = y → vP M (pc + 3) ls st b μ Q) : vP M pc ls (.int (nI y) :: .int (nI x) :: st) b μ Q := P_icmp_ne hd ht (fun q => k (fun e => q ((nI_eq hx hy).mpr e))) (fun q => k9 ((nI_eq hx hy).mp q))
theorem P_icmp_ltN {M : vR} {pc : Nat} {ls : List (Option Value)} {st : List Value} {b : Nat × Nat} {μ : vM} {Q : vO → vM → Prop} {off : Int} {tgt : Nat} {x y : Nat} (hd : decode (vCC M) pc = .ok (.if_icmp .lt off, 3)) (ht : (pc : Int) + off = (tgt : Int)) (hx : x < 2147483648) (hy : y < 2147483648) (k : x < y → vP M tgt ls st b μ Q) (k9 : ¬ x < y → vP M (pc + 3) ls st b μ Q) : vP M pc ls (.int (nI y) :: .int (nI x) :: st) b μ Q := P_icmp_lt hd ht (fun q => k ((nI_ltI hx hy).mp q)) (fun q => k9 (fun e => q ((nI_ltI hx hy).mpr e)))
theorem P_icmp_geN {M : vR} {pc : Nat} {ls : List (Option Value)} {st : List Value} {b : Nat × Nat} {μ : vM} {Q : vO → vM → Prop} {off : Int} {tgt : Nat} {x y : Nat} (hd : decode (vCC M) pc = .ok (.if_icmp .ge off, 3)) (ht : (pc : Int) + off = (tgt : Int)) (hx : x < 2147483648) (hy : y < 2147483648) (k : y ≤ x → vP M tgt ls st b μ Q) (k9 : ¬ y ≤ x → vP M (pc + 3) ls st b μ Q) : vP M pc ls (.int (nI y) :: .int (nI x) :: st) b μ Q := P_icmp_ge hd ht (fun q => k ((nI_leI hy hx).mp q)) (fun q => k9 (fun e => q ((nI_leI hy hx).mpr e)))
theorem P_icmp_gtN {M : vR} {pc : Nat} {ls : List (Option Value)} {st : List Value} {b : Nat × Nat} {μ : vM} {Q : vO → vM → Prop} {off : Int} {tgt : Nat} {x y : Nat} (hd : decode (vCC M) pc = .ok (.if_icmp .gt off, 3)) (ht : (pc : Int) + off = (tgt : Int)) (hx : x < 2147483648) (hy : y < 2147483648) (k : y < x → vP M tgt ls st b μ Q) (k9 : ¬ y < x → vP M (pc + 3) ls st b μ Q) : vP M pc ls (.int (nI y) :: .int (nI x) :: st) b μ Q := P_icmp_gt hd ht (fun q => k ((nI_ltI hy hx).mp q)) (fun q => k9 (fun e => q ((nI_ltI hy hx).mpr e)))
theorem P_icmp_leN {M : vR} {pc : Nat} {ls : List (Option Value)} {st : List Value} {b : Nat × Nat} {μ : vM} {Q : vO → vM → Prop} {off : Int} {tgt : Nat} {x y : Nat} (hd : decode (vCC M) pc = .ok (.if_icmp .le off, 3)) (ht : (pc : Int) + off = (tgt : Int)) (hx : x < 2147483648) (hy : y < 2147483648) (k : x ≤ y → vP M tgt ls st b μ Q) (k9 : ¬ x ≤ y → vP M (pc + 3) ls st b μ Q) : vP M pc ls (.int (nI y) :: .int (nI x) :: st) b μ Q := P_icmp_le hd ht (fun q => k ((nI_leI hx hy).mp q)) (fun q => k9 (fun e => q ((nI_leI hx hy).mpr e)))
theorem vsw (x lo hi : Nat) (hx : x < 2147483648) (hlh : lo ≤ hi) : (x < lo ∨ hi < x) ∨ ∃ j, j ≤ hi - lo ∧ x = lo + j := by
  by_cases h : x < lo ∨ hi < x
  · exact Or.inl h
  · exact Or.inr ⟨x - lo, by omega, by omega⟩
theorem vsw_out {x lo hi : Nat} (hx : x < 2147483648) (h : x < lo ∨ hi < x) : (nI x).toInt < (lo : Int) ∨ (hi : Int) < (nI x).toInt := by rw [nI_toInt hx]; omega
theorem vsw_int {x k : Nat} (h : x = k) (hk : k < 2147483648) : (nI x).toInt = (k : Int) := by subst h; exact nI_toInt hk
