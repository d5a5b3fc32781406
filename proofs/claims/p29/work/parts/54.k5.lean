
/-- the members know their own numbers -/
def CS (v : vV) (b : Nat) : Prop := ∀ m, m < 6 → v (b + 6 + 13 * m) 0 = nI m
theorem CR.cs {c : Nat} {v : vV} {b : Nat} {S : mS} (h : CR c v b S) : CS v b := fun m hm => (h.m hm).s
theorem CS.ow {v v' : vV} {b r w : Nat} (h : CS v b) (e : vOw v v' r w) (hb : b + 84 ≤ r ∨ r + w ≤ b) : CS v' b := fun m hm => by rw [e _ (by omega)]; exact h m hm
theorem MR.copy {v v1 v2 v3 v4 : vV} {p t m : Nat} {S : mS} (h : MR v t m S) (hk : (gK S m).length ≤ 12) (hh : (gH S m).length ≤ 5) (hpt : p + 13 ≤ t ∨ t + 13 ≤ p) (h0 : v p 0 = nI m) (ho : vOw v v1 p 1) (hF : ∀ k, 1 ≤ k → k < 13 → v1 p k = v t k) (h00 : v1 p 0 = v p 0)
    (c1 : vOw v1 v2 (p + 1) 4 ∧ v2 (p + 1) 3 = v1 (t + 1) 3 ∧ ∀ k, k < 6 → v2 (p + 1 + 1) k = v1 (t + 1 + 1) k ∧ v2 (p + 1 + 2) k = v1 (t + 1 + 2) k ∧ v2 (p + 1 + 3) k = v1 (t + 1 + 3) k)
    (c2 : vOw v2 v3 (p + 5) 4 ∧ v3 (p + 5) 3 = v2 (t + 5) 3 ∧ ∀ k, k < 12 → v3 (p + 5 + 1) k = v2 (t + 5 + 1) k ∧ v3 (p + 5 + 2) k = v2 (t + 5 + 2) k ∧ v3 (p + 5 + 3) k = v2 (t + 5 + 3) k)
    (c3 : vOw v3 v4 (p + 9) 4 ∧ v4 (p + 9) 3 = v3 (t + 9) 3 ∧ ∀ k, k < 5 → v4 (p + 9 + 1) k = v3 (t + 9 + 1) k ∧ v4 (p + 9 + 2) k = v3 (t + 9 + 2) k ∧ v4 (p + 9 + 3) k = v3 (t + 9 + 3) k) : MR v4 p m S ∧ vOw v v4 p 13 := by
  have hO : vOw v v4 p 13 := (((ho.mono (Nat.le_refl p) (by omega)).tr (c1.1.mono (by omega) (by omega))).tr (c2.1.mono (by omega) (by omega))).tr (c3.1.mono (by omega) (by omega))
  have ep : v4 p = v1 p := by rw [c3.1 p (by omega), c2.1 p (by omega), c1.1 p (by omega)]
  have et : ∀ n, (n < p ∨ p + 13 ≤ n) → v1 n = v n ∧ v2 n = v n ∧ v3 n = v n := fun n hn => by
    have e1 := ho n (by omega)
    have e2 := c1.1 n (by omega)
    have e3 := c2.1 n (by omega)
    exact ⟨e1, e2.trans e1, e3.trans (e2.trans e1)⟩
  refine ⟨⟨?_, fun w hw => ?_, fun q => ?_, ?_, ?_, ?_, fun k hk9 => ?_, ⟨?_, fun k u hu => ?_⟩, ⟨?_, fun k u hu => ?_⟩⟩, hO⟩
  · rw [ep, h00]; exact h0
  · rw [ep, hF _ (by omega) (by omega)]; exact h.w hw
  · rw [ep, hF 9 (by decide) (by decide)]; exact h.n9 q
  · rw [ep, hF 10 (by decide) (by decide)]; exact h.n10
  · rw [ep, hF 11 (by decide) (by decide)]; exact h.n11
  · rw [ep, hF 12 (by decide) (by decide)]; exact h.n12
  · have g := c1.2.2 k hk9
    rw [c3.1 _ (by omega), c3.1 _ (by omega), c3.1 _ (by omega), c2.1 _ (by omega), c2.1 _ (by omega), c2.1 _ (by omega), g.1, g.2.1, g.2.2, (et (t + 1 + 1) (by omega)).1, (et (t + 1 + 2) (by omega)).1, (et (t + 1 + 3) (by omega)).1]
    exact h.a hk9
  · rw [c3.1 _ (by omega), c2.2.1, (et (t + 5) (by omega)).2.1]; exact h.k.1
  · have hk2 : k < ((gK S m).map kq).length := (List.getElem?_eq_some_iff.mp hu).1
    rw [List.length_map] at hk2
    have g := c2.2.2 k (by omega)
    rw [c3.1 _ (by omega), c3.1 _ (by omega), c3.1 _ (by omega), g.1, g.2.1, g.2.2, (et (t + 5 + 1) (by omega)).2.1, (et (t + 5 + 2) (by omega)).2.1, (et (t + 5 + 3) (by omega)).2.1]
    exact h.k.2 k u hu
  · rw [c3.2.1, (et (t + 9) (by omega)).2.2]; exact h.h.1
  · have hk2 : k < (gH S m).length := (List.getElem?_eq_some_iff.mp hu).1
    have g := c3.2.2 k (by omega)
    rw [g.1, g.2.1, g.2.2, (et (t + 9 + 1) (by omega)).2.2, (et (t + 9 + 2) (by omega)).2.2, (et (t + 9 + 3) (by omega)).2.2]
    exact h.h.2 k u hu
theorem CR.made {c : Nat} {v v9 : vV} {b d : Nat} {S : mS} (h : CR c v d S) (h1 : ∀ j, 3 ≤ j → j < 9 → v9 b j = v d j) (h2 : ∀ j, 2 ≤ j → j < 5 → v9 (b + 2) j = v (d + 2) j) (h3 : ∀ a, a < 6 → v9 (b + 3) a = v (d + 3) a) (h4 : ∀ i, i < (gN S).length * 9 → v9 (b + 4) i = v (d + 4) i) (h5 : ∀ m, m < 6 → MR v9 (b + 6 + 13 * m) m S) : CR c v9 b S := by
  refine ⟨⟨h.c0, h.c6⟩, ?_, ⟨?_, ?_, ?_⟩, fun a ha => ?_, fun k x hx j hj => ?_, h5, h.b⟩
  · rw [h1 3 (by decide) (by decide), h1 4 (by decide) (by decide), h1 5 (by decide) (by decide), h1 6 (by decide) (by decide), h1 7 (by decide) (by decide), h1 8 (by decide) (by decide)]
    exact ⟨h.g3, h.g4, h.g5, h.g6, h.g7, h.g8⟩
  · rw [h2 2 (by decide) (by decide)]; exact h.p2
  · rw [h2 3 (by decide) (by decide)]; exact h.p3
  · rw [h2 4 (by decide) (by decide)]; exact h.p4
  · rw [h3 a ha]; exact h.cu ha
  · have hk : k < (gN S).length := (List.getElem?_eq_some_iff.mp hx).1
    rw [h4 _ (by omega)]; exact h.x hx hj
theorem i_lt {x y : Int32} : x < y ↔ x.toInt < y.toInt := Int32.lt_iff_toInt_lt
theorem i_le {x y : Int32} : x ≤ y ↔ x.toInt ≤ y.toInt := Int32.le_iff_toInt_le
theorem i_0 : (0 : Int32).toInt = 0 := by decide
theorem mb_lo {c : Nat} {m : Int32} (h : m < 0) : mb c m = false := by
  unfold mb; rw [i_lt, i_0] at h; exact decide_eq_false (by omega)
theorem mb_hi {c : Nat} {m : Int32} (hc : c ≤ 6) (h : nI c ≤ m) : mb c m = false := by
  unfold mb; rw [i_le, nI_toInt (by omega)] at h; exact decide_eq_false (by omega)
theorem mb_ok {c : Nat} {m : Int32} (hc : c ≤ 6) (h1 : ¬ m < 0) (h2 : ¬ nI c ≤ m) : mb c m = true := by
  unfold mb; rw [i_lt, i_0] at h1; rw [i_le, nI_toInt (by omega)] at h2; exact decide_eq_true (by omega)
theorem shl_pos {c : Nat} : 1 ≤ 1 <<< c := by rw [Nat.shiftLeft_eq, Nat.one_mul]; exact Nat.one_le_two_pow
theorem msk_bit : ∀ c, c ≤ 6 → ∀ j, j < 32 → ((nI (1 <<< c - 1) ^^^ (-1)).toBitVec.toNat).testBit j = decide (c ≤ j) := by decide +kernel
theorem roll_and {c : Nat} {s : Int32} (hc : c ≤ 6) : s &&& (nI (1 <<< c - 1) ^^^ (-1)) = 0 ↔ s.toBitVec.toNat < 2 ^ c := by
  have e0 : s &&& (nI (1 <<< c - 1) ^^^ (-1)) = 0 ↔ s.toBitVec.toNat &&& (nI (1 <<< c - 1) ^^^ (-1)).toBitVec.toNat = 0 := by
    rw [← BitVec.toNat_and, ← Int32.toBitVec_and]
    constructor
    · intro h; rw [h]; rfl
    · intro h; exact nI_ext h
  rw [e0]
  have hlt : s.toBitVec.toNat < 2 ^ 32 := s.toBitVec.isLt
  constructor
  · intro h
    refine Nat.lt_pow_two_of_testBit _ (fun j hj => ?_)
    by_cases g : j < 32
    · have h9 : (s.toBitVec.toNat &&& (nI (1 <<< c - 1) ^^^ (-1)).toBitVec.toNat).testBit j = false := by rw [h]; exact Nat.zero_testBit j
      rw [Nat.testBit_and, msk_bit c hc j g, decide_eq_true (show c ≤ j by omega), Bool.and_true] at h9
      exact h9
    · exact Nat.testBit_lt_two_pow (Nat.lt_of_lt_of_le hlt (Nat.pow_le_pow_right (by decide) (by omega)))
  · intro h
    apply Nat.eq_of_testBit_eq
    intro j
    rw [Nat.testBit_and, Nat.zero_testBit]
    by_cases g : j < c
    · rw [msk_bit c hc j (by omega), decide_eq_false (by omega), Bool.and_false]
    · rw [Nat.testBit_lt_two_pow (Nat.lt_of_lt_of_le h (Nat.pow_le_pow_right (by decide) (by omega))), Bool.false_and]
theorem bv_int {s : Int32} {k : Nat} (h : s.toBitVec.toNat = k) (hk : k < 2147483648) : s = nI k := by
  apply nI_ext
  rw [h]
  show k = (BitVec.ofNat 32 k).toNat
  rw [BitVec.toNat_ofNat, Nat.mod_eq_of_lt (by omega)]
theorem roll_nat {c : Nat} {s : Int32} (hc : c ≤ 6) (h : s &&& (nI (1 <<< c - 1) ^^^ (-1)) = 0) : ∃ k, k < 2 ^ c ∧ s = nI k := by
  have h9 := (roll_and hc).mp h
  have := two_c hc
  exact ⟨_, h9, bv_int rfl (by omega)⟩
theorem roll_no {c m : Nat} {s : Int32} (hc : c ≤ 6) (h : ¬ s &&& (nI (1 <<< c - 1) ^^^ (-1)) = 0) : mset c m s = false := by
  cases g : mset c m s with
  | false => rfl
  | true =>
    exfalso
    apply h
    unfold mset at g
    have g1 := of_decide_eq_true (Bool.and_eq_true_iff.mp g).1
    have e : ((2 : Int) ^ c) = ((2 ^ c : Nat) : Int) := by norm_cast
    rw [e] at g1
    have := two_c hc
    have es : s = nI s.toInt.toNat := nI_of_toInt (by omega) (by omega)
    rw [roll_and hc, es]
    show (BitVec.ofNat 32 s.toInt.toNat).toNat < _
    rw [BitVec.toNat_ofNat, Nat.mod_eq_of_lt (by omega)]
    omega
/-- of the first n members, those in one roll with one, none of them gone -/
def mgrp (S : mS) (m : Nat) : Nat → Nat
  | 0 => 0
  | k + 1 => mgrp S m k ||| (if (gM S m 1 ≠ 2 ∧ gM S k 1 ≠ 2) ∧ gM S k 2 = gM S m 2 ∧ gM S k 3 = gM S m 3 then 1 <<< k else 0)
theorem mgrp_lt {S : mS} {m : Nat} : ∀ n, n ≤ 6 → mgrp S m n < 64 := by
  intro n
  induction n with
  | zero => intro _; show 0 < 64; decide
  | succ n ih =>
    intro h
    refine or6 (ih (by omega)) ?_
    split
    · exact sh6 (by omega)
    · decide
def mgrq (S : mS) (m : Nat) : Nat → Nat
  | 0 => 0
  | k + 1 => mgrq S m k ||| (if gM S k 1 ≠ 2 ∧ gM S k 2 = gM S m 2 ∧ gM S k 3 = gM S m 3 then 1 <<< k else 0)
theorem mgrq_b {S : mS} {m j : Nat} : ∀ n, (mgrq S m n).testBit j = decide (j < n ∧ gM S j 1 ≠ 2 ∧ gM S j 2 = gM S m 2 ∧ gM S j 3 = gM S m 3) := by
  intro n
  induction n with
  | zero => show Nat.testBit 0 j = _; rw [Nat.zero_testBit]; exact (decide_eq_false (fun q => absurd q.1 (Nat.not_lt_zero j))).symm
  | succ n ih =>
    rw [mgrq, Nat.testBit_or, ih]
    by_cases e : n = j
    · subst e
      rw [decide_eq_false (fun q => absurd q.1 (Nat.lt_irrefl n)), Bool.false_or]
      split
      · rename_i g; rw [tb_one, decide_eq_true rfl]; exact (decide_eq_true ⟨Nat.lt_succ_self n, g⟩).symm
      · rename_i g; rw [Nat.zero_testBit]; exact (decide_eq_false (fun q => g q.2)).symm
    · have h0 : ((if gM S n 1 ≠ 2 ∧ gM S n 2 = gM S m 2 ∧ gM S n 3 = gM S m 3 then 1 <<< n else 0)).testBit j = false := by
        split
        · rw [tb_one, decide_eq_false e]
        · exact Nat.zero_testBit j
      rw [h0, Bool.or_false]
      exact decide_eq_decide.mpr ⟨fun q => ⟨by omega, q.2⟩, fun q => ⟨by omega, q.2⟩⟩
theorem mgrq_lt {S : mS} {m : Nat} : ∀ n, n ≤ 6 → mgrq S m n < 64 := by
  intro n
  induction n with
  | zero => intro _; show 0 < 64; decide
  | succ n ih =>
    intro h
    refine or6 (ih (by omega)) ?_
    split
    · exact sh6 (by omega)
    · decide
theorem mgrp_q {S : mS} {m : Nat} (h : gM S m 1 ≠ 2) : ∀ n, mgrp S m n = mgrq S m n := by
  intro n
  induction n with
  | zero => rfl
  | succ n ih =>
    rw [mgrp, mgrq, ih]
    congr 1
    by_cases g : gM S n 1 ≠ 2 ∧ gM S n 2 = gM S m 2 ∧ gM S n 3 = gM S m 3
    · rw [if_pos ⟨⟨h, g.1⟩, g.2⟩, if_pos g]
    · rw [if_neg (fun q => g ⟨q.1.2, q.2⟩), if_neg g]
theorem mgrp_0 {S : mS} {m : Nat} (h : gM S m 1 = 2) : ∀ n, mgrp S m n = 0 := by
  intro n
  induction n with
  | zero => rfl
  | succ n ih => rw [mgrp, ih, if_neg (fun q => q.1.1 h)]; rfl
/-- of the first n members, what those in one roll with one have heard -/
def mlck (S : mS) (m : Nat) : Nat → Nat
  | 0 => 0
  | k + 1 => mlck S m k ||| (if gM S m 2 = gM S k 2 ∧ gM S m 3 = gM S k 3 then gM S k 5 else 0)
theorem mlck_lt {c B : Nat} {S : mS} (h : NB c S B) {m : Nat} : ∀ n, mlck S m n < 16777216 := by
  intro n
  induction n with
  | zero => show 0 < 16777216; decide
  | succ n ih =>
    refine or24 ih ?_
    split
    · exact h.m5 n
    · decide

theorem there_no {S : mS} {m num set k : Nat} : ∀ {n : Nat}, k < n → (!set.testBit k || decide (gM S k 1 = 0 ∧ gM S k 2 = num ∧ gM S k 3 = m)) = false → mthere S m num set n = false := by
  intro n
  induction n with
  | zero => intro h; exact absurd h (Nat.not_lt_zero k)
  | succ n ih =>
    intro h g
    rw [mthere]
    by_cases e : k = n
    · subst e; rw [g, Bool.and_false]
    · rw [ih (by omega) g, Bool.false_and]
set_option maxHeartbeats 4000000 in
set_option maxRecDepth 100000 in
theorem c_X2_copyFrom {σ : vS} {v : vV} {p t m : Nat} {S : mS} (hp : kLM σ p) (ht : kLM σ t) (hM : MR v t m S) (hk : (gK S m).length ≤ 12) (hh : (gH S m).length ≤ 5) (hpt : p + 13 ≤ t ∨ t + 13 ≤ p) (h0 : v p 0 = nI m) : vC M_X2_copyFrom yX2_copyFrom [.ref (p), .ref (t)] (σ, v) (qS σ none (fun v9 => MR v9 p m S ∧ vOw v v9 p 13)) := by
  refine vC_of (ls := [some (.ref (p)), some (.ref (t))]) pn_X2 rfl rfl (Nat.le_of_ble_eq_true rfl) rfl ?_
  refine P_aload_n dX2_copyFrom_0 rfl rfl ?_
  refine P_aload_n dX2_copyFrom_1 rfl rfl ?_
  refine P_getiN (x := (v t 1)) dX2_copyFrom_2 kX2 fX2_36 rfl (by decide) ht.o rfl ?_
  refine P_puti dX2_copyFrom_5 kX2 fX2_36 rfl (by decide) rfl hp.o ?_
  refine P_aload_n dX2_copyFrom_8 rfl rfl ?_
  refine P_aload_n dX2_copyFrom_9 rfl rfl ?_
  refine P_getiN (x := (v t 2)) dX2_copyFrom_10 kX2 fX2_39 rfl (by decide) ht.o (by rw [vU_ne (by omega)]) ?_
  refine P_puti dX2_copyFrom_13 kX2 fX2_39 rfl (by decide) rfl hp.o ?_
  refine P_aload_n dX2_copyFrom_16 rfl rfl ?_
  refine P_aload_n dX2_copyFrom_17 rfl rfl ?_
  refine P_getiN (x := (v t 3)) dX2_copyFrom_18 kX2 fX2_42 rfl (by decide) ht.o (by rw [vU_ne (by omega), vU_ne (by omega)]) ?_
  refine P_puti dX2_copyFrom_21 kX2 fX2_42 rfl (by decide) rfl hp.o ?_
  refine P_aload_n dX2_copyFrom_24 rfl rfl ?_
  refine P_aload_n dX2_copyFrom_25 rfl rfl ?_
  refine P_getiN (x := (v t 4)) dX2_copyFrom_26 kX2 fX2_30 rfl (by decide) ht.o (by rw [vU_ne (by omega), vU_ne (by omega), vU_ne (by omega)]) ?_
  refine P_puti dX2_copyFrom_29 kX2 fX2_30 rfl (by decide) rfl hp.o ?_
  refine P_aload_n dX2_copyFrom_32 rfl rfl ?_
  refine P_aload_n dX2_copyFrom_33 rfl rfl ?_
  refine P_getiN (x := (v t 5)) dX2_copyFrom_34 kX2 fX2_33 rfl (by decide) ht.o (by rw [vU_ne (by omega), vU_ne (by omega), vU_ne (by omega), vU_ne (by omega)]) ?_
  refine P_puti dX2_copyFrom_37 kX2 fX2_33 rfl (by decide) rfl hp.o ?_
  refine P_aload_n dX2_copyFrom_40 rfl rfl ?_
  refine P_aload_n dX2_copyFrom_41 rfl rfl ?_
  refine P_getiN (x := (v t 6)) dX2_copyFrom_42 kX2 fX2_45 rfl (by decide) ht.o (by rw [vU_ne (by omega), vU_ne (by omega), vU_ne (by omega), vU_ne (by omega), vU_ne (by omega)]) ?_
  refine P_puti dX2_copyFrom_45 kX2 fX2_45 rfl (by decide) rfl hp.o ?_
  refine P_aload_n dX2_copyFrom_48 rfl rfl ?_
  refine P_aload_n dX2_copyFrom_49 rfl rfl ?_
  refine P_getiN (x := (v t 7)) dX2_copyFrom_50 kX2 fX2_48 rfl (by decide) ht.o (by rw [vU_ne (by omega), vU_ne (by omega), vU_ne (by omega), vU_ne (by omega), vU_ne (by omega), vU_ne (by omega)]) ?_
  refine P_puti dX2_copyFrom_53 kX2 fX2_48 rfl (by decide) rfl hp.o ?_
  refine P_aload_n dX2_copyFrom_56 rfl rfl ?_
  refine P_aload_n dX2_copyFrom_57 rfl rfl ?_
  refine P_getiN (x := (v t 8)) dX2_copyFrom_58 kX2 fX2_51 rfl (by decide) ht.o (by rw [vU_ne (by omega), vU_ne (by omega), vU_ne (by omega), vU_ne (by omega), vU_ne (by omega), vU_ne (by omega), vU_ne (by omega)]) ?_
  refine P_puti dX2_copyFrom_61 kX2 fX2_51 rfl (by decide) rfl hp.o ?_
  refine P_aload_n dX2_copyFrom_64 rfl rfl ?_
  refine P_aload_n dX2_copyFrom_65 rfl rfl ?_
  refine P_getiN (x := (v t 9)) dX2_copyFrom_66 kX2 fX2_54 rfl (by decide) ht.o (by rw [vU_ne (by omega), vU_ne (by omega), vU_ne (by omega), vU_ne (by omega), vU_ne (by omega), vU_ne (by omega), vU_ne (by omega), vU_ne (by omega)]) ?_
  refine P_puti dX2_copyFrom_69 kX2 fX2_54 rfl (by decide) rfl hp.o ?_
  refine P_aload_n dX2_copyFrom_72 rfl rfl ?_
  refine P_aload_n dX2_copyFrom_73 rfl rfl ?_
  refine P_getiN (x := (v t 10)) dX2_copyFrom_74 kX2 fX2_57 rfl (by decide) ht.o (by rw [vU_ne (by omega), vU_ne (by omega), vU_ne (by omega), vU_ne (by omega), vU_ne (by omega), vU_ne (by omega), vU_ne (by omega), vU_ne (by omega), vU_ne (by omega)]) ?_
  refine P_puti dX2_copyFrom_77 kX2 fX2_57 rfl (by decide) rfl hp.o ?_
  refine P_aload_n dX2_copyFrom_80 rfl rfl ?_
  refine P_aload_n dX2_copyFrom_81 rfl rfl ?_
  refine P_getiN (x := (v t 11)) dX2_copyFrom_82 kX2 fX2_60 rfl (by decide) ht.o (by rw [vU_ne (by omega), vU_ne (by omega), vU_ne (by omega), vU_ne (by omega), vU_ne (by omega), vU_ne (by omega), vU_ne (by omega), vU_ne (by omega), vU_ne (by omega), vU_ne (by omega)]) ?_
  refine P_puti dX2_copyFrom_85 kX2 fX2_60 rfl (by decide) rfl hp.o ?_
  refine P_aload_n dX2_copyFrom_88 rfl rfl ?_
  refine P_aload_n dX2_copyFrom_89 rfl rfl ?_
  refine P_getiN (x := (v t 12)) dX2_copyFrom_90 kX2 fX2_63 rfl (by decide) ht.o (by rw [vU_ne (by omega), vU_ne (by omega), vU_ne (by omega), vU_ne (by omega), vU_ne (by omega), vU_ne (by omega), vU_ne (by omega), vU_ne (by omega), vU_ne (by omega), vU_ne (by omega), vU_ne (by omega)]) ?_
  refine P_puti dX2_copyFrom_93 kX2 fX2_63 rfl (by decide) rfl hp.o ?_
  have hF : ∀ k, 1 ≤ k → k < 13 → (vU (vU (vU (vU (vU (vU (vU (vU (vU (vU (vU (vU v (p) (1) ((v t 1))) (p) (2) ((v t 2))) (p) (3) ((v t 3))) (p) (4) ((v t 4))) (p) (5) ((v t 5))) (p) (6) ((v t 6))) (p) (7) ((v t 7))) (p) (8) ((v t 8))) (p) (9) ((v t 9))) (p) (10) ((v t 10))) (p) (11) ((v t 11))) (p) (12) ((v t 12))) p k = v t k := by
    intro k h1 h2
    rcases (by omega : k = 1 ∨ k = 2 ∨ k = 3 ∨ k = 4 ∨ k = 5 ∨ k = 6 ∨ k = 7 ∨ k = 8 ∨ k = 9 ∨ k = 10 ∨ k = 11 ∨ k = 12) with rfl | rfl | rfl | rfl | rfl | rfl | rfl | rfl | rfl | rfl | rfl | rfl
    · rw [vU_o (by omega), vU_o (by omega), vU_o (by omega), vU_o (by omega), vU_o (by omega), vU_o (by omega), vU_o (by omega), vU_o (by omega), vU_o (by omega), vU_o (by omega), vU_o (by omega), vU_s]
    · rw [vU_o (by omega), vU_o (by omega), vU_o (by omega), vU_o (by omega), vU_o (by omega), vU_o (by omega), vU_o (by omega), vU_o (by omega), vU_o (by omega), vU_o (by omega), vU_s]
    · rw [vU_o (by omega), vU_o (by omega), vU_o (by omega), vU_o (by omega), vU_o (by omega), vU_o (by omega), vU_o (by omega), vU_o (by omega), vU_o (by omega), vU_s]
    · rw [vU_o (by omega), vU_o (by omega), vU_o (by omega), vU_o (by omega), vU_o (by omega), vU_o (by omega), vU_o (by omega), vU_o (by omega), vU_s]
    · rw [vU_o (by omega), vU_o (by omega), vU_o (by omega), vU_o (by omega), vU_o (by omega), vU_o (by omega), vU_o (by omega), vU_s]
    · rw [vU_o (by omega), vU_o (by omega), vU_o (by omega), vU_o (by omega), vU_o (by omega), vU_o (by omega), vU_s]
    · rw [vU_o (by omega), vU_o (by omega), vU_o (by omega), vU_o (by omega), vU_o (by omega), vU_s]
    · rw [vU_o (by omega), vU_o (by omega), vU_o (by omega), vU_o (by omega), vU_s]
    · rw [vU_o (by omega), vU_o (by omega), vU_o (by omega), vU_s]
    · rw [vU_o (by omega), vU_o (by omega), vU_s]
    · rw [vU_o (by omega), vU_s]
    · rw [vU_s]
  have h00 : (vU (vU (vU (vU (vU (vU (vU (vU (vU (vU (vU (vU v (p) (1) ((v t 1))) (p) (2) ((v t 2))) (p) (3) ((v t 3))) (p) (4) ((v t 4))) (p) (5) ((v t 5))) (p) (6) ((v t 6))) (p) (7) ((v t 7))) (p) (8) ((v t 8))) (p) (9) ((v t 9))) (p) (10) ((v t 10))) (p) (11) ((v t 11))) (p) (12) ((v t 12))) p 0 = v p 0 := by rw [vU_o (by omega), vU_o (by omega), vU_o (by omega), vU_o (by omega), vU_o (by omega), vU_o (by omega), vU_o (by omega), vU_o (by omega), vU_o (by omega), vU_o (by omega), vU_o (by omega), vU_o (by omega)]
  have ho : vOw v (vU (vU (vU (vU (vU (vU (vU (vU (vU (vU (vU (vU v (p) (1) ((v t 1))) (p) (2) ((v t 2))) (p) (3) ((v t 3))) (p) (4) ((v t 4))) (p) (5) ((v t 5))) (p) (6) ((v t 6))) (p) (7) ((v t 7))) (p) (8) ((v t 8))) (p) (9) ((v t 9))) (p) (10) ((v t 10))) (p) (11) ((v t 11))) (p) (12) ((v t 12))) p 1 := ((((((((((((vOw.rf.u (by omega) (by omega)).u (by omega) (by omega)).u (by omega) (by omega)).u (by omega) (by omega)).u (by omega) (by omega)).u (by omega) (by omega)).u (by omega) (by omega)).u (by omega) (by omega)).u (by omega) (by omega)).u (by omega) (by omega)).u (by omega) (by omega)).u (by omega) (by omega))
  generalize (vU (vU (vU (vU (vU (vU (vU (vU (vU (vU (vU (vU v (p) (1) ((v t 1))) (p) (2) ((v t 2))) (p) (3) ((v t 3))) (p) (4) ((v t 4))) (p) (5) ((v t 5))) (p) (6) ((v t 6))) (p) (7) ((v t 7))) (p) (8) ((v t 8))) (p) (9) ((v t 9))) (p) (10) ((v t 10))) (p) (11) ((v t 11))) (p) (12) ((v t 12))) = v1 at hF h00 ho ⊢
  refine P_aload_n dX2_copyFrom_96 rfl rfl ?_
  refine P_getr (t := p + 1) dX2_copyFrom_97 kX2 fX2_14 rfl (by decide) hp.o hp.c13 hp.pa.o.1.2 ?_
  refine P_aload_n dX2_copyFrom_100 rfl rfl ?_
  refine P_getr (t := t + 1) dX2_copyFrom_101 kX2 fX2_14 rfl (by decide) ht.o ht.c13 ht.pa.o.1.2 ?_
  refine P_cVs (rest := []) (As := [.ref (t + 1)]) dX2_copyFrom_104 lX2_66 yk_X4_copyFrom yv_X4_copyFrom kX4 rfl (by decide) hp.pa.o rfl rfl (Nat.le_of_ble_eq_true rfl) rfl (c_X4_copyFrom hp.pa ht.pa (by decide) (by omega)) (fun v2 c1 => ?_)
  refine P_aload_n dX2_copyFrom_107 rfl rfl ?_
  refine P_getr (t := p + 5) dX2_copyFrom_108 kX2 fX2_20 rfl (by decide) hp.o hp.c14 hp.pk.o.1.2 ?_
  refine P_aload_n dX2_copyFrom_111 rfl rfl ?_
  refine P_getr (t := t + 5) dX2_copyFrom_112 kX2 fX2_20 rfl (by decide) ht.o ht.c14 ht.pk.o.1.2 ?_
  refine P_cVs (rest := []) (As := [.ref (t + 5)]) dX2_copyFrom_115 lX2_66 yk_X4_copyFrom yv_X4_copyFrom kX4 rfl (by decide) hp.pk.o rfl rfl (Nat.le_of_ble_eq_true rfl) rfl (c_X4_copyFrom hp.pk ht.pk (by decide) (by omega)) (fun v3 c2 => ?_)
  refine P_aload_n dX2_copyFrom_118 rfl rfl ?_
  refine P_getr (t := p + 9) dX2_copyFrom_119 kX2 fX2_23 rfl (by decide) hp.o hp.c15 hp.ps.o.1.2 ?_
  refine P_aload_n dX2_copyFrom_122 rfl rfl ?_
  refine P_getr (t := t + 9) dX2_copyFrom_123 kX2 fX2_23 rfl (by decide) ht.o ht.c15 ht.ps.o.1.2 ?_
  refine P_cVs (rest := []) (As := [.ref (t + 9)]) dX2_copyFrom_126 lX2_66 yk_X4_copyFrom yv_X4_copyFrom kX4 rfl (by decide) hp.ps.o rfl rfl (Nat.le_of_ble_eq_true rfl) rfl (c_X4_copyFrom hp.ps ht.ps (by decide) (by omega)) (fun v4 c3 => ?_)
  refine P_vret dX2_copyFrom_129 rfl ?_
  exact q_s rfl (hM.copy hk hh hpt h0 ho hF h00 c1 c2 c3)
set_option maxHeartbeats 4000000 in
set_option maxRecDepth 100000 in
theorem c_X3_copyFrom {σ : vS} {v : vV} {c b d : Nat} {S : mS} (hq : kLC σ b) (hd : kLC σ d) (hbd : b + 84 ≤ d ∨ d + 84 ≤ b) (hC : CR c v d S) : vC M_X3_copyFrom yX3_copyFrom [.ref (b + 2), .ref (d + 2)] (σ, v) (qS σ none (fun v9 => vOw v v9 (b + 2) 3 ∧ (∀ a, a < 6 → v9 (b + 3) a = v (d + 3) a) ∧ (∀ i, i < (gN S).length * 9 → v9 (b + 4) i = v (d + 4) i) ∧ ∀ j, 2 ≤ j → j < 5 → v9 (b + 2) j = v (d + 2) j)) := by
  refine vC_of (ls := [some (.ref (b + 2)), some (.ref (d + 2))]) pn_X3 rfl rfl (Nat.le_of_ble_eq_true rfl) rfl ?_
  refine P_aload_n dX3_copyFrom_0 rfl rfl ?_
  refine P_getr (t := d + 3) dX3_copyFrom_1 kX3 fX3_9 rfl (by decide) hd.k2 hd.p0 hd.k3.1.2 ?_
  refine P_iconst (v := nI 0) dX3_copyFrom_4 (by decide) ?_
  refine P_aload_n dX3_copyFrom_5 rfl rfl ?_
  refine P_getr (t := b + 3) dX3_copyFrom_6 kX3 fX3_9 rfl (by decide) hq.k2 hq.p0 hq.k3.1.2 ?_
  refine P_iconst (v := nI 0) dX3_copyFrom_9 (by decide) ?_
  refine P_bipush (v := nI 6) dX3_copyFrom_10 (by decide) ?_
  refine P_copy (0) (0) (6) dX3_copyFrom_12 lX3_18 hd.k3 hq.k3 rfl rfl rfl (by have := hC.b.2.2; omega) (by have := hC.b.2.2; omega) (by decide) (by decide) (by decide) ?_
  refine P_aload_n dX3_copyFrom_15 rfl rfl ?_
  refine P_getr (t := d + 4) dX3_copyFrom_16 kX3 fX3_15 rfl (by decide) hd.k2 hd.p1 hd.k4.1.2 ?_
  refine P_iconst (v := nI 0) dX3_copyFrom_19 (by decide) ?_
  refine P_aload_n dX3_copyFrom_20 rfl rfl ?_
  refine P_getr (t := b + 4) dX3_copyFrom_21 kX3 fX3_15 rfl (by decide) hq.k2 hq.p1 hq.k4.1.2 ?_
  refine P_iconst (v := nI 0) dX3_copyFrom_24 (by decide) ?_
  refine P_aload_n dX3_copyFrom_25 rfl rfl ?_
  refine P_getiN (x := nI ((gN S).length)) dX3_copyFrom_26 kX3 fX3_24 rfl (by decide) hd.k2 (by rw [vUA_ne (by omega)]; exact hC.p3) ?_
  refine P_bipush (v := nI 9) dX3_copyFrom_29 (by decide) ?_
  refine P_imulN dX3_copyFrom_31 ?_
  refine P_copy (0) (0) (((gN S).length) * 9) dX3_copyFrom_32 lX3_18 hd.k4 hq.k4 rfl rfl rfl (by have := hC.b.2.2; omega) (by have := hC.b.2.2; omega) (by decide) (by decide) (by decide) ?_
  refine P_aload_n dX3_copyFrom_35 rfl rfl ?_
  refine P_aload_n dX3_copyFrom_36 rfl rfl ?_
  refine P_getiN (x := (v (d + 2) 2)) dX3_copyFrom_37 kX3 fX3_28 rfl (by decide) hd.k2 (by rw [vUA_ne (by omega), vUA_ne (by omega)]) ?_
  refine P_puti dX3_copyFrom_40 kX3 fX3_28 rfl (by decide) rfl hq.k2 ?_
  refine P_aload_n dX3_copyFrom_43 rfl rfl ?_
  refine P_aload_n dX3_copyFrom_44 rfl rfl ?_
  refine P_getiN (x := (v (d + 2) 3)) dX3_copyFrom_45 kX3 fX3_24 rfl (by decide) hd.k2 (by rw [vU_ne (by omega), vUA_ne (by omega), vUA_ne (by omega)]) ?_
  refine P_puti dX3_copyFrom_48 kX3 fX3_24 rfl (by decide) rfl hq.k2 ?_
  refine P_aload_n dX3_copyFrom_51 rfl rfl ?_
  refine P_aload_n dX3_copyFrom_52 rfl rfl ?_
  refine P_getiN (x := (v (d + 2) 4)) dX3_copyFrom_53 kX3 fX3_31 rfl (by decide) hd.k2 (by rw [vU_ne (by omega), vU_ne (by omega), vUA_ne (by omega), vUA_ne (by omega)]) ?_
  refine P_puti dX3_copyFrom_56 kX3 fX3_31 rfl (by decide) rfl hq.k2 ?_
  refine P_vret dX3_copyFrom_59 rfl ?_
  refine q_s rfl ⟨?_, fun a ha => ?_, fun i hi => ?_, fun j h1 h2 => ?_⟩
  · exact ((((vOw.rf.ua (by omega) (by omega)).ua (by omega) (by omega)).u (by omega) (by omega)).u (by omega) (by omega)).u (by omega) (by omega)
  · rw [vU_ne (by omega), vU_ne (by omega), vU_ne (by omega), vUA_ne (by omega), vUA_at, cpy_in (by omega) (by omega), Nat.zero_add, Nat.sub_zero]
  · rw [vU_ne (by omega), vU_ne (by omega), vU_ne (by omega), vUA_at, cpy_in (by omega) (by omega), vUA_ne (by omega), Nat.zero_add, Nat.sub_zero]
  · rcases (by omega : j = 2 ∨ j = 3 ∨ j = 4) with rfl | rfl | rfl
    · rw [vU_o (by omega), vU_o (by omega), vU_s]
    · rw [vU_o (by omega), vU_s]
    · rw [vU_s]
set_option maxHeartbeats 4000000 in
set_option maxRecDepth 100000 in
theorem c_X0_copyFrom {σ : vS} {v : vV} {c b d : Nat} {S : mS} (hq : kLC σ b) (hd : kLC σ d) (hbd : b + 84 ≤ d ∨ d + 84 ≤ b) (hC : CR c v d S) (hS : CS v b) : vC M_X0_copyFrom yX0_copyFrom [.ref (b), .ref (d)] (σ, v) (qS σ none (kPo c v b S)) := by
  refine vC_of (ls := [some (.ref (b)), some (.ref (d)), none]) pn_X0 rfl rfl (Nat.le_of_ble_eq_true rfl) rfl ?_
  refine P_iconst (v := nI 0) dX0_copyFrom_0 (by decide) ?_
  refine P_istore_n (ls2 := [some (.ref (b)), some (.ref (d)), some (.int (nI (0)))]) dX0_copyFrom_1 rfl (by decide) rfl ?_
  have hL2 : ∀ (n2 : Nat) (k : Nat) (v1 : vV), (k ≤ 6) → (k + n2 = 7) → (vOw v v1 (b + 6) (13 * k)) → (∀ m, m < k → MR v1 (b + 6 + 13 * m) m S) → vP M_X0_copyFrom 2 [some (.ref (b)), some (.ref (d)), some (.int (nI (k)))] [] ((vRm M_X0_copyFrom).cells, (vRm M_X0_copyFrom).slots) (σ, v1) (vN (qS σ none (kPo c v b S))) := by
    intro n2
    induction n2 with
    | zero =>
      intro k v1 h1 h2 hO1 hm1
      exact absurd h2 (by omega)
    | succ n2 ih2 =>
      intro k v1 h1 h2 hO1 hm1
      refine P_iload_n dX0_copyFrom_2 rfl rfl ?_
      refine P_bipush (v := nI 6) dX0_copyFrom_3 (by decide) ?_
      refine P_icmp_geN (tgt := 29) dX0_copyFrom_5 (by decide) (by omega) (by omega) (fun c5 => ?_) (fun c5 => ?_)
      · have e6 : k = 6 := by omega
        subst e6
        refine P_aload_n dX0_copyFrom_29 rfl rfl ?_
        refine P_getr (t := b + 2) dX0_copyFrom_30 kX0 fX0_20 rfl (by decide) hq.o hq.r1 hq.k2.1.2 ?_
        refine P_aload_n dX0_copyFrom_33 rfl rfl ?_
        refine P_getr (t := d + 2) dX0_copyFrom_34 kX0 fX0_20 rfl (by decide) hd.o hd.r1 hd.k2.1.2 ?_
        refine P_cVs (rest := []) (As := [.ref (d + 2)]) dX0_copyFrom_37 lX0_35 yk_X3_copyFrom yv_X3_copyFrom kX3 rfl (by decide) hq.k2 rfl rfl (Nat.le_of_ble_eq_true rfl) rfl (c_X3_copyFrom hq hd hbd (hC.ow hO1 (by omega))) (fun v3 ⟨c1, c2, c3, c4⟩ => ?_)
        refine P_aload_n dX0_copyFrom_40 rfl rfl ?_
        refine P_aload_n dX0_copyFrom_41 rfl rfl ?_
        refine P_getiN (x := (v3 d 3)) dX0_copyFrom_42 kX0 fX0_38 rfl (by decide) hd.o rfl ?_
        refine P_puti dX0_copyFrom_45 kX0 fX0_38 rfl (by decide) rfl hq.o ?_
        refine P_aload_n dX0_copyFrom_48 rfl rfl ?_
        refine P_aload_n dX0_copyFrom_49 rfl rfl ?_
        refine P_getiN (x := (v3 d 4)) dX0_copyFrom_50 kX0 fX0_42 rfl (by decide) hd.o (by rw [vU_ne (by omega)]) ?_
        refine P_puti dX0_copyFrom_53 kX0 fX0_42 rfl (by decide) rfl hq.o ?_
        refine P_aload_n dX0_copyFrom_56 rfl rfl ?_
        refine P_aload_n dX0_copyFrom_57 rfl rfl ?_
        refine P_getiN (x := (v3 d 5)) dX0_copyFrom_58 kX0 fX0_45 rfl (by decide) hd.o (by rw [vU_ne (by omega), vU_ne (by omega)]) ?_
        refine P_puti dX0_copyFrom_61 kX0 fX0_45 rfl (by decide) rfl hq.o ?_
        refine P_aload_n dX0_copyFrom_64 rfl rfl ?_
        refine P_aload_n dX0_copyFrom_65 rfl rfl ?_
        refine P_getiN (x := (v3 d 6)) dX0_copyFrom_66 kX0 fX0_48 rfl (by decide) hd.o (by rw [vU_ne (by omega), vU_ne (by omega), vU_ne (by omega)]) ?_
        refine P_puti dX0_copyFrom_69 kX0 fX0_48 rfl (by decide) rfl hq.o ?_
        refine P_aload_n dX0_copyFrom_72 rfl rfl ?_
        refine P_aload_n dX0_copyFrom_73 rfl rfl ?_
        refine P_getiN (x := (v3 d 7)) dX0_copyFrom_74 kX0 fX0_51 rfl (by decide) hd.o (by rw [vU_ne (by omega), vU_ne (by omega), vU_ne (by omega), vU_ne (by omega)]) ?_
        refine P_puti dX0_copyFrom_77 kX0 fX0_51 rfl (by decide) rfl hq.o ?_
        refine P_aload_n dX0_copyFrom_80 rfl rfl ?_
        refine P_aload_n dX0_copyFrom_81 rfl rfl ?_
        refine P_getiN (x := (v3 d 8)) dX0_copyFrom_82 kX0 fX0_54 rfl (by decide) hd.o (by rw [vU_ne (by omega), vU_ne (by omega), vU_ne (by omega), vU_ne (by omega), vU_ne (by omega)]) ?_
        refine P_puti dX0_copyFrom_85 kX0 fX0_54 rfl (by decide) rfl hq.o ?_
        refine P_vret dX0_copyFrom_88 rfl ?_
        refine q_s rfl ⟨(hC.ow hO1 (by omega)).made (fun j g1 g2 => ?_) (fun j g1 g2 => ?_) (fun a ha => ?_) (fun i hi => ?_) (fun m hm => ?_), ?_⟩
        · have e9 : v3 d = v1 d := c1 d (by omega)
          rcases (by omega : j = 3 ∨ j = 4 ∨ j = 5 ∨ j = 6 ∨ j = 7 ∨ j = 8) with rfl | rfl | rfl | rfl | rfl | rfl
          · rw [vU_o (by omega), vU_o (by omega), vU_o (by omega), vU_o (by omega), vU_o (by omega), vU_s, e9]
          · rw [vU_o (by omega), vU_o (by omega), vU_o (by omega), vU_o (by omega), vU_s, e9]
          · rw [vU_o (by omega), vU_o (by omega), vU_o (by omega), vU_s, e9]
          · rw [vU_o (by omega), vU_o (by omega), vU_s, e9]
          · rw [vU_o (by omega), vU_s, e9]
          · rw [vU_s, e9]
        · rw [vU_ne (by omega), vU_ne (by omega), vU_ne (by omega), vU_ne (by omega), vU_ne (by omega), vU_ne (by omega)]; exact c4 j g1 g2
        · rw [vU_ne (by omega), vU_ne (by omega), vU_ne (by omega), vU_ne (by omega), vU_ne (by omega), vU_ne (by omega)]; exact c2 a ha
        · rw [vU_ne (by omega), vU_ne (by omega), vU_ne (by omega), vU_ne (by omega), vU_ne (by omega), vU_ne (by omega)]; exact c3 i hi
        · exact (hm1 m hm).of (fun n g1 g2 => by rw [vU_ne (by omega), vU_ne (by omega), vU_ne (by omega), vU_ne (by omega), vU_ne (by omega), vU_ne (by omega)]; exact c1 n (by omega)) rfl rfl rfl
        · exact (((((((hO1.mono (by omega) (by omega)).tr (c1.mono (by omega) (by omega))).u (by omega) (by omega)).u (by omega) (by omega)).u (by omega) (by omega)).u (by omega) (by omega)).u (by omega) (by omega)).u (by omega) (by omega)
      · refine P_aload_n dX0_copyFrom_8 rfl rfl ?_
        refine P_getr (t := b + 1) dX0_copyFrom_9 kX0 fX0_11 rfl (by decide) hq.o hq.r0 hq.k1.1.2 ?_
        refine P_iload_n dX0_copyFrom_12 rfl rfl ?_
        refine P_aaldM (t := b + 6 + 13 * k) (k) dX0_copyFrom_13 hq.k1 rfl (by omega) (by decide) (hq.e (by omega)) (hq.m (by omega)).o.1.2 ?_
        refine P_aload_n dX0_copyFrom_14 rfl rfl ?_
        refine P_getr (t := d + 1) dX0_copyFrom_15 kX0 fX0_11 rfl (by decide) hd.o hd.r0 hd.k1.1.2 ?_
        refine P_iload_n dX0_copyFrom_18 rfl rfl ?_
        refine P_aaldM (t := d + 6 + 13 * k) (k) dX0_copyFrom_19 hd.k1 rfl (by omega) (by decide) (hd.e (by omega)) (hd.m (by omega)).o.1.2 ?_
        refine P_cVs (rest := []) (As := [.ref (d + 6 + 13 * k)]) dX0_copyFrom_20 lX0_31 yk_X2_copyFrom yv_X2_copyFrom kX2 rfl (by decide) (hq.m (by omega)).o rfl rfl (Nat.le_of_ble_eq_true rfl) rfl (c_X2_copyFrom (hq.m (by omega)) (hd.m (by omega)) ((hC.ow hO1 (by omega)).m (by omega)) (hC.b.1 k) (hC.b.2.1 k) (by omega) (by rw [hO1 _ (by omega)]; exact hS k (by omega))) (fun v2 c2 => ?_)
        have hO3 : vOw v v2 (b + 6) (13 * (k + 1)) := (hO1.mono (r2 := b + 6) (w2 := 13 * (k + 1)) (Nat.le_refl _) (by omega)).tr (c2.2.mono (by omega) (by omega))
        have hm3 : ∀ m, m < k + 1 → MR v2 (b + 6 + 13 * m) m S := fun m hm => by
          by_cases e : m = k
          · subst e; exact c2.1
          · exact (hm1 m (by omega)).of (fun n g1 g2 => c2.2 n (by omega)) rfl rfl rfl
        refine P_iinc (v := nI (k + 1)) (ls2 := [some (.ref (b)), some (.ref (d)), some (.int (nI (k + 1)))]) dX0_copyFrom_23 rfl (nI_inc _ 1) (by decide) rfl ?_
        refine P_goto (tgt := 2) dX0_copyFrom_26 (by decide) ?_
        exact ih2 (k + 1) v2 (by omega) (by omega) hO3 hm3
  exact hL2 7 0 v (by omega) (by omega) vOw.rf (fun m hm => absurd hm (Nat.not_lt_zero m))
set_option maxHeartbeats 4000000 in
set_option maxRecDepth 100000 in
theorem c_X0_hasMember {σ : vS} {v : vV} {c b : Nat} {S : mS} {m : Int32} (hq : kLC σ b) (hC : CR c v b S) : vC M_X0_hasMember yX0_hasMember [.ref (b), .int (m)] (σ, v) (qP (σ, v) (.int (vb (mb c m)))) := by
  refine vC_of (ls := [some (.ref (b)), some (.int (m))]) pn_X0 rfl rfl (Nat.le_of_ble_eq_true rfl) rfl ?_
  refine P_iload_n dX0_hasMember_0 rfl rfl ?_
  refine P_if_lt (tgt := 16) dX0_hasMember_1 (by decide) (fun c1 => ?_) (fun c1 => ?_)
  · refine P_iconst (v := nI 0) dX0_hasMember_16 (by decide) ?_
    refine P_zret dX0_hasMember_17 rfl (by decide) ?_
    exact q_f (mb_lo c1)
  · refine P_iload_n dX0_hasMember_4 rfl rfl ?_
    refine P_aload_n dX0_hasMember_5 rfl rfl ?_
    refine P_getiN (x := nI (c)) dX0_hasMember_6 kX0 fX0_38 rfl (by decide) hq.o hC.g3 ?_
    refine P_icmp_ge (tgt := 16) dX0_hasMember_9 (by decide) (fun c9 => ?_) (fun c9 => ?_)
    · refine P_iconst (v := nI 0) dX0_hasMember_16 (by decide) ?_
      refine P_zret dX0_hasMember_17 rfl (by decide) ?_
      exact q_f (mb_hi hC.c6 c9)
    · refine P_iconst (v := nI 1) dX0_hasMember_12 (by decide) ?_
      refine P_goto (tgt := 17) dX0_hasMember_13 (by decide) ?_
      refine P_zret dX0_hasMember_17 rfl (by decide) ?_
      exact q_t (mb_ok hC.c6 c1 c9)
set_option maxHeartbeats 4000000 in
set_option maxRecDepth 100000 in
theorem c_X0_isGone {σ : vS} {v : vV} {c b : Nat} {S : mS} {m : Nat} (hq : kLC σ b) (hC : CR c v b S) {B : Nat} (hN : NB c S B) (hB : B < 1000000000) (hm : m < 6) : vC M_X0_isGone yX0_isGone [.ref (b), .int (nI (m))] (σ, v) (qP (σ, v) (.int (vb (decide (gM S m 1 = 2))))) := by
  refine vC_of (ls := [some (.ref (b)), some (.int (nI (m)))]) pn_X0 rfl rfl (Nat.le_of_ble_eq_true rfl) rfl ?_
  refine P_aload_n dX0_isGone_0 rfl rfl ?_
  refine P_getr (t := b + 1) dX0_isGone_1 kX0 fX0_11 rfl (by decide) hq.o hq.r0 hq.k1.1.2 ?_
  refine P_iload_n dX0_isGone_4 rfl rfl ?_
  refine P_aaldM (t := b + 6 + 13 * m) (m) dX0_isGone_5 hq.k1 rfl (by omega) (by decide) (hq.e (by omega)) (hq.m (by omega)).o.1.2 ?_
  refine P_getiN (x := nI (gM S m 1)) dX0_isGone_6 kX2 fX0_57 rfl (by decide) (hq.m (by omega)).o ((hC.m (by omega)).w (by decide)) ?_
  refine P_iconst (v := nI 2) dX0_isGone_9 (by decide) ?_
  refine P_icmp_neN (tgt := 17) dX0_isGone_10 (by decide) (by have := hN.m1 m; omega) (by omega) (fun c10 => ?_) (fun c10 => ?_)
  · refine P_iconst (v := nI 0) dX0_isGone_17 (by decide) ?_
    refine P_zret dX0_isGone_18 rfl (by decide) ?_
    exact q_fD c10
  · refine P_iconst (v := nI 1) dX0_isGone_13 (by decide) ?_
    refine P_goto (tgt := 18) dX0_isGone_14 (by decide) ?_
    refine P_zret dX0_isGone_18 rfl (by decide) ?_
    exact q_tD c10
set_option maxHeartbeats 4000000 in
set_option maxRecDepth 100000 in
theorem c_X0_everybody {σ : vS} {v : vV} {c b : Nat} {S : mS} (hq : kLC σ b) (hC : CR c v b S) : vC M_X0_everybody yX0_everybody [.ref (b)] (σ, v) (qP (σ, v) (.int (nI (1 <<< c - 1)))) := by
  refine vC_of (ls := [some (.ref (b))]) pn_X0 rfl rfl (Nat.le_of_ble_eq_true rfl) rfl ?_
  refine P_iconst (v := nI 1) dX0_everybody_0 (by decide) ?_
  refine P_aload_n dX0_everybody_1 rfl rfl ?_
  refine P_getiN (x := nI (c)) dX0_everybody_2 kX0 fX0_38 rfl (by decide) hq.o hC.g3 ?_
  refine P_ishlN dX0_everybody_5 (by have := hC.c6; omega) ?_
  refine P_iconst (v := nI 1) dX0_everybody_6 (by decide) ?_
  refine P_isubN dX0_everybody_7 (by exact shl_pos) ?_
  refine P_iret dX0_everybody_8 rfl ?_
  exact q_n rfl
set_option maxHeartbeats 4000000 in
set_option maxRecDepth 100000 in
theorem c_X0_isRollWith {σ : vS} {v : vV} {c b : Nat} {S : mS} {m : Nat} {s : Int32} (hq : kLC σ b) (hC : CR c v b S) (hm : m < 6) : vC M_X0_isRollWith yX0_isRollWith [.ref (b), .int (nI (m)), .int (s)] (σ, v) (qP (σ, v) (.int (vb (mset c m s)))) := by
  refine vC_of (ls := [some (.ref (b)), some (.int (nI (m))), some (.int (s))]) pn_X0 rfl rfl (Nat.le_of_ble_eq_true rfl) rfl ?_
  refine P_iload_n dX0_isRollWith_0 rfl rfl ?_
  refine P_aload_n dX0_isRollWith_1 rfl rfl ?_
  refine P_cVp (rest := [.int (s)]) (As := []) dX0_isRollWith_2 lX0_60 yk_X0_everybody yv_X0_everybody kX0 rfl (by decide) hq.o rfl rfl (Nat.le_of_ble_eq_true rfl) rfl (c_X0_everybody hq hC) ?_
  refine P_iconst (v := -1) dX0_isRollWith_5 (by decide) ?_
  refine P_ixor dX0_isRollWith_6 ?_
  refine P_iand dX0_isRollWith_7 ?_
  refine P_if_ne (tgt := 23) dX0_isRollWith_8 (by decide) (fun c8 => ?_) (fun c8 => ?_)
  · refine P_iconst (v := nI 0) dX0_isRollWith_23 (by decide) ?_
    refine P_zret dX0_isRollWith_24 rfl (by decide) ?_
    exact q_f (roll_no hC.c6 c8)
  · obtain ⟨k, hk, rfl⟩ := roll_nat hC.c6 c8
    have h64 := two_c hC.c6
    refine P_iload_n dX0_isRollWith_11 rfl rfl ?_
    refine P_iload_n dX0_isRollWith_12 rfl rfl ?_
    refine P_cSNp (rest := []) (As := [.int (nI (k)), .int (nI (m))]) dX0_isRollWith_13 lnX0_64 yk_X6_hasBit ys_X6_hasBit (by decide) rfl rfl (Nat.le_of_ble_eq_true rfl) rfl (c_X6_hasBit (by omega) (by omega)) ?_
    refine P_bif_eq (tgt := 23) dX0_isRollWith_16 (by decide) (fun c16 => ?_) (fun c16 => ?_)
    · refine P_iconst (v := nI 0) dX0_isRollWith_23 (by decide) ?_
      refine P_zret dX0_isRollWith_24 rfl (by decide) ?_
      exact q_f (by rw [mset_n (by omega), decide_eq_true hk, Bool.true_and]; exact c16)
    · refine P_iconst (v := nI 1) dX0_isRollWith_19 (by decide) ?_
      refine P_goto (tgt := 24) dX0_isRollWith_20 (by decide) ?_
      refine P_zret dX0_isRollWith_24 rfl (by decide) ?_
      exact q_t (by rw [mset_n (by omega), decide_eq_true hk, Bool.true_and]; exact c16)
set_option maxHeartbeats 4000000 in
set_option maxRecDepth 100000 in
theorem c_X0_whoAre {σ : vS} {v : vV} {c b : Nat} {S : mS} {is : Nat} (hq : kLC σ b) (hC : CR c v b S) {B : Nat} (hN : NB c S B) (hB : B < 1000000000) (his : is < 3) : vC M_X0_whoAre yX0_whoAre [.ref (b), .int (nI (is))] (σ, v) (qP (σ, v) (.int (nI (mwho S is c)))) := by
  have hc6 := hC.c6
  refine vC_of (ls := [some (.ref (b)), some (.int (nI (is))), none, none]) pn_X0 rfl rfl (Nat.le_of_ble_eq_true rfl) rfl ?_
  refine P_iconst (v := nI 0) dX0_whoAre_0 (by decide) ?_
  refine P_istore_n (ls2 := [some (.ref (b)), some (.int (nI (is))), some (.int (nI (0))), none]) dX0_whoAre_1 rfl (by decide) rfl ?_
  refine P_iconst (v := nI 0) dX0_whoAre_2 (by decide) ?_
  refine P_istore_n (ls2 := [some (.ref (b)), some (.int (nI (is))), some (.int (nI (0))), some (.int (nI (0)))]) dX0_whoAre_3 rfl (by decide) rfl ?_
  have hL4 : ∀ (n4 : Nat) (k : Nat), (k ≤ c) → (k + n4 = c + 1) → vP M_X0_whoAre 4 [some (.ref (b)), some (.int (nI (is))), some (.int (nI (mwho S is k))), some (.int (nI (k)))] [] ((vRm M_X0_whoAre).cells, (vRm M_X0_whoAre).slots) (σ, v) (vN (qP (σ, v) (.int (nI (mwho S is c))))) := by
    intro n4
    induction n4 with
    | zero =>
      intro k h1 h2
      exact absurd h2 (by omega)
    | succ n4 ih4 =>
      intro k h1 h2
      refine P_iload_n dX0_whoAre_4 rfl rfl ?_
      refine P_aload_n dX0_whoAre_5 rfl rfl ?_
      refine P_getiN (x := nI (c)) dX0_whoAre_6 kX0 fX0_38 rfl (by decide) hq.o hC.g3 ?_
      refine P_icmp_geN (tgt := 37) dX0_whoAre_9 (by decide) (by omega) (by omega) (fun c9 => ?_) (fun c9 => ?_)
      · refine P_iload_n dX0_whoAre_37 rfl rfl ?_
        refine P_iret dX0_whoAre_38 rfl ?_
        exact q_n (by rw [show k = c by omega])
      · refine P_aload_n dX0_whoAre_12 rfl rfl ?_
        refine P_getr (t := b + 1) dX0_whoAre_13 kX0 fX0_11 rfl (by decide) hq.o hq.r0 hq.k1.1.2 ?_
        refine P_iload_n dX0_whoAre_16 rfl rfl ?_
        refine P_aaldM (t := b + 6 + 13 * k) (k) dX0_whoAre_17 hq.k1 rfl (by omega) (by decide) (hq.e (by omega)) (hq.m (by omega)).o.1.2 ?_
        refine P_getiN (x := nI (gM S k 1)) dX0_whoAre_18 kX2 fX0_57 rfl (by decide) (hq.m (by omega)).o ((hC.m (by omega)).w (by decide)) ?_
        refine P_iload_n dX0_whoAre_21 rfl rfl ?_
        refine P_icmp_neN (tgt := 31) dX0_whoAre_22 (by decide) (by have := hN.m1 k; omega) (by omega) (fun c22 => ?_) (fun c22 => ?_)
        · refine P_iinc (v := nI (k + 1)) (ls2 := [some (.ref (b)), some (.int (nI (is))), some (.int (nI (mwho S is k))), some (.int (nI (k + 1)))]) dX0_whoAre_31 rfl (nI_inc _ 1) (by decide) rfl ?_
          refine P_goto (tgt := 4) dX0_whoAre_34 (by decide) ?_
          have e9 : mwho S is k = mwho S is (k + 1) := (by rw [mwho, if_neg c22, Nat.or_zero])
          rw [e9]
          exact ih4 (k + 1) (by omega) (by omega)
        · refine P_iload_n dX0_whoAre_25 rfl rfl ?_
          refine P_iconst (v := nI 1) dX0_whoAre_26 (by decide) ?_
          refine P_iload_n dX0_whoAre_27 rfl rfl ?_
          refine P_ishlN dX0_whoAre_28 (by omega) ?_
          refine P_iorN dX0_whoAre_29 ?_
          refine P_istore_n (ls2 := [some (.ref (b)), some (.int (nI (is))), some (.int (nI ((mwho S is k) ||| (1 <<< k)))), some (.int (nI (k)))]) dX0_whoAre_30 rfl (by decide) rfl ?_
          refine P_iinc (v := nI (k + 1)) (ls2 := [some (.ref (b)), some (.int (nI (is))), some (.int (nI ((mwho S is k) ||| (1 <<< k)))), some (.int (nI (k + 1)))]) dX0_whoAre_31 rfl (nI_inc _ 1) (by decide) rfl ?_
          refine P_goto (tgt := 4) dX0_whoAre_34 (by decide) ?_
          have e9 : (mwho S is k) ||| (1 <<< k) = mwho S is (k + 1) := by rw [mwho, if_pos c22]
          rw [e9]
          exact ih4 (k + 1) (by omega) (by omega)
  exact hL4 (c + 1) 0 (by omega) (by omega)
set_option maxHeartbeats 4000000 in
set_option maxRecDepth 100000 in
theorem c_X0_allSitIn {σ : vS} {v : vV} {c b : Nat} {S : mS} {set num m : Nat} (hq : kLC σ b) (hC : CR c v b S) {B : Nat} (hN : NB c S B) (hB : B < 1000000000) (hset : set < 2147483648) (hnum : num < 2147483648) (hm : m < 6) : vC M_X0_allSitIn yX0_allSitIn [.ref (b), .int (nI (set)), .int (nI (num)), .int (nI (m))] (σ, v) (qP (σ, v) (.int (vb (mthere S m num set c)))) := by
  have hc6 := hC.c6
  refine vC_of (ls := [some (.ref (b)), some (.int (nI (set))), some (.int (nI (num))), some (.int (nI (m))), none]) pn_X0 rfl rfl (Nat.le_of_ble_eq_true rfl) rfl ?_
  refine P_iconst (v := nI 0) dX0_allSitIn_0 (by decide) ?_
  refine P_istore (ls2 := [some (.ref (b)), some (.int (nI (set))), some (.int (nI (num))), some (.int (nI (m))), some (.int (nI (0)))]) dX0_allSitIn_1 (by decide) rfl ?_
  have hL3 : ∀ (n3 : Nat) (k : Nat), (k ≤ c) → (k + n3 = c + 1) → (mthere S m num set k = true) → vP M_X0_allSitIn 3 [some (.ref (b)), some (.int (nI (set))), some (.int (nI (num))), some (.int (nI (m))), some (.int (nI (k)))] [] ((vRm M_X0_allSitIn).cells, (vRm M_X0_allSitIn).slots) (σ, v) (vN (qP (σ, v) (.int (vb (mthere S m num set c))))) := by
    intro n3
    induction n3 with
    | zero =>
      intro k h1 h2 ht
      exact absurd h2 (by omega)
    | succ n3 ih3 =>
      intro k h1 h2 ht
      refine P_iload dX0_allSitIn_3 rfl ?_
      refine P_aload_n dX0_allSitIn_5 rfl rfl ?_
      refine P_getiN (x := nI (c)) dX0_allSitIn_6 kX0 fX0_38 rfl (by decide) hq.o hC.g3 ?_
      refine P_icmp_geN (tgt := 57) dX0_allSitIn_9 (by decide) (by omega) (by omega) (fun c9 => ?_) (fun c9 => ?_)
      · refine P_iconst (v := nI 1) dX0_allSitIn_57 (by decide) ?_
        refine P_zret dX0_allSitIn_58 rfl (by decide) ?_
        exact q_t (by rw [show c = k by omega]; exact ht)
      · refine P_iload_n dX0_allSitIn_12 rfl rfl ?_
        refine P_iload dX0_allSitIn_13 rfl ?_
        refine P_cSNp (rest := []) (As := [.int (nI (set)), .int (nI (k))]) dX0_allSitIn_15 lnX0_64 yk_X6_hasBit ys_X6_hasBit (by decide) rfl rfl (Nat.le_of_ble_eq_true rfl) rfl (c_X6_hasBit (by omega) (by omega)) ?_
        refine P_bif_eq (tgt := 51) dX0_allSitIn_18 (by decide) (fun c18 => ?_) (fun c18 => ?_)
        · refine P_iinc (v := nI (k + 1)) (ls2 := [some (.ref (b)), some (.int (nI (set))), some (.int (nI (num))), some (.int (nI (m))), some (.int (nI (k + 1)))]) dX0_allSitIn_51 rfl (nI_inc _ 1) (by decide) rfl ?_
          refine P_goto (tgt := 3) dX0_allSitIn_54 (by decide) ?_
          exact ih3 (k + 1) (by omega) (by omega) (by rw [mthere, ht, Bool.true_and, c18]; rfl)
        · refine P_aload_n dX0_allSitIn_21 rfl rfl ?_
          refine P_getr (t := b + 1) dX0_allSitIn_22 kX0 fX0_11 rfl (by decide) hq.o hq.r0 hq.k1.1.2 ?_
          refine P_iload dX0_allSitIn_25 rfl ?_
          refine P_aaldM (t := b + 6 + 13 * k) (k) dX0_allSitIn_27 hq.k1 rfl (by omega) (by decide) (hq.e (by omega)) (hq.m (by omega)).o.1.2 ?_
          refine P_getiN (x := nI (gM S k 1)) dX0_allSitIn_28 kX2 fX0_57 rfl (by decide) (hq.m (by omega)).o ((hC.m (by omega)).w (by decide)) ?_
          refine P_if_neN (tgt := 49) dX0_allSitIn_31 (by decide) (by have := hN.m1 k; omega) (fun c31 => ?_) (fun c31 => ?_)
          · refine P_iconst (v := nI 0) dX0_allSitIn_49 (by decide) ?_
            refine P_zret dX0_allSitIn_50 rfl (by decide) ?_
            exact q_f (there_no (show k < c by omega) (by rw [c18, decide_eq_false (fun q => c31 q.1)]; rfl))
          · refine P_aload_n dX0_allSitIn_34 rfl rfl ?_
            refine P_getr (t := b + 1) dX0_allSitIn_35 kX0 fX0_11 rfl (by decide) hq.o hq.r0 hq.k1.1.2 ?_
            refine P_iload dX0_allSitIn_38 rfl ?_
            refine P_aaldM (t := b + 6 + 13 * k) (k) dX0_allSitIn_40 hq.k1 rfl (by omega) (by decide) (hq.e (by omega)) (hq.m (by omega)).o.1.2 ?_
            refine P_iload_n dX0_allSitIn_41 rfl rfl ?_
            refine P_iload_n dX0_allSitIn_42 rfl rfl ?_
            refine P_cVp (rest := []) (As := [.int (nI (num)), .int (nI (m))]) dX0_allSitIn_43 lX0_68 yk_X2_isIn yv_X2_isIn kX2 rfl (by decide) (hq.m (by omega)).o rfl rfl (Nat.le_of_ble_eq_true rfl) rfl (c_X2_isIn hq hC hN hB (by omega) hnum (by omega)) ?_
            refine P_bif_ne (tgt := 51) dX0_allSitIn_46 (by decide) (fun c46 => ?_) (fun c46 => ?_)
            · refine P_iinc (v := nI (k + 1)) (ls2 := [some (.ref (b)), some (.int (nI (set))), some (.int (nI (num))), some (.int (nI (m))), some (.int (nI (k + 1)))]) dX0_allSitIn_51 rfl (nI_inc _ 1) (by decide) rfl ?_
              refine P_goto (tgt := 3) dX0_allSitIn_54 (by decide) ?_
              exact ih3 (k + 1) (by omega) (by omega) (by rw [mthere, ht, Bool.true_and, decide_eq_true ⟨c31, of_decide_eq_true c46⟩, Bool.or_true])
            · refine P_iconst (v := nI 0) dX0_allSitIn_49 (by decide) ?_
              refine P_zret dX0_allSitIn_50 rfl (by decide) ?_
              exact q_f (there_no (show k < c by omega) (by rw [c18, decide_eq_false (fun q => of_decide_eq_false c46 q.2)]; rfl))
  exact hL3 (c + 1) 0 (by omega) (by omega) rfl
set_option maxHeartbeats 4000000 in
set_option maxRecDepth 100000 in
theorem c_X0_groupOf {σ : vS} {v : vV} {c b : Nat} {S : mS} {m : Nat} (hq : kLC σ b) (hC : CR c v b S) {B : Nat} (hN : NB c S B) (hB : B < 1000000000) (hm : m < c) : vC M_X0_groupOf yX0_groupOf [.ref (b), .int (nI (m))] (σ, v) (qP (σ, v) (.int (nI (mgrp S m c)))) := by
  have hc6 := hC.c6
  refine vC_of (ls := [some (.ref (b)), some (.int (nI (m))), none, none, none]) pn_X0 rfl rfl (Nat.le_of_ble_eq_true rfl) rfl ?_
  refine P_iconst (v := nI 0) dX0_groupOf_0 (by decide) ?_
  refine P_istore_n (ls2 := [some (.ref (b)), some (.int (nI (m))), some (.int (nI (0))), none, none]) dX0_groupOf_1 rfl (by decide) rfl ?_
  refine P_iconst (v := nI 0) dX0_groupOf_2 (by decide) ?_
  refine P_istore_n (ls2 := [some (.ref (b)), some (.int (nI (m))), some (.int (nI (0))), some (.int (nI (0))), none]) dX0_groupOf_3 rfl (by decide) rfl ?_
  have hL4 : ∀ (n4 : Nat) (k : Nat), (k ≤ c) → (k + n4 = c + 1) → vP M_X0_groupOf 4 [some (.ref (b)), some (.int (nI (m))), some (.int (nI (mgrq S m k))), some (.int (nI (k))), none] [] ((vRm M_X0_groupOf).cells, (vRm M_X0_groupOf).slots) (σ, v) (vN (qP (σ, v) (.int (nI (mgrp S m c))))) := by
    intro n4
    induction n4 with
    | zero =>
      intro k h1 h2
      exact absurd h2 (by omega)
    | succ n4 ih4 =>
      intro k h1 h2
      refine P_iload_n dX0_groupOf_4 rfl rfl ?_
      refine P_aload_n dX0_groupOf_5 rfl rfl ?_
      refine P_getiN (x := nI (c)) dX0_groupOf_6 kX0 fX0_38 rfl (by decide) hq.o hC.g3 ?_
      refine P_icmp_geN (tgt := 67) dX0_groupOf_9 (by decide) (by omega) (by omega) (fun c9 => ?_) (fun c9 => ?_)
      · have ek : k = c := by omega
        subst ek
        have hlt := mgrq_lt (S := S) (m := m) k hc6
        refine P_iload_n dX0_groupOf_67 rfl rfl ?_
        refine P_iload_n dX0_groupOf_68 rfl rfl ?_
        refine P_cSNp (rest := []) (As := [.int (nI (mgrq S m k)), .int (nI (m))]) dX0_groupOf_69 lnX0_64 yk_X6_hasBit ys_X6_hasBit (by decide) rfl rfl (Nat.le_of_ble_eq_true rfl) rfl (c_X6_hasBit (by omega) (by omega)) ?_
        refine P_bif_eq (tgt := 79) dX0_groupOf_72 (by decide) (fun c72 => ?_) (fun c72 => ?_)
        · refine P_iconst (v := nI 0) dX0_groupOf_79 (by decide) ?_
          refine P_iret dX0_groupOf_80 rfl ?_
          exact q_n (by rw [mgrq_b] at c72; rw [mgrp_0 (Decidable.of_not_not (fun q => of_decide_eq_false c72 ⟨hm, q, rfl, rfl⟩))])
        · refine P_iload_n dX0_groupOf_75 rfl rfl ?_
          refine P_goto (tgt := 80) dX0_groupOf_76 (by decide) ?_
          refine P_iret dX0_groupOf_80 rfl ?_
          exact q_n (by rw [mgrq_b] at c72; rw [mgrp_q (of_decide_eq_true c72).2.1])
      · refine P_aload_n dX0_groupOf_12 rfl rfl ?_
        refine P_getr (t := b + 1) dX0_groupOf_13 kX0 fX0_11 rfl (by decide) hq.o hq.r0 hq.k1.1.2 ?_
        refine P_iload_n dX0_groupOf_16 rfl rfl ?_
        refine P_aaldM (t := b + 6 + 13 * k) (k) dX0_groupOf_17 hq.k1 rfl (by omega) (by decide) (hq.e (by omega)) (hq.m (by omega)).o.1.2 ?_
        refine P_astore (ls2 := [some (.ref (b)), some (.int (nI (m))), some (.int (nI (mgrq S m k))), some (.int (nI (k))), some (.ref (b + 6 + 13 * k))]) dX0_groupOf_18 (by decide) rfl ?_
        refine P_aload dX0_groupOf_20 rfl ?_
        refine P_getiN (x := nI (gM S k 1)) dX0_groupOf_22 kX2 fX0_57 rfl (by decide) (hq.m (by omega)).o ((hC.m (by omega)).w (by decide)) ?_
        refine P_iconst (v := nI 2) dX0_groupOf_25 (by decide) ?_
        refine P_icmp_eqN (tgt := 61) dX0_groupOf_26 (by decide) (by have := hN.m1 k; omega) (by omega) (fun c26 => ?_) (fun c26 => ?_)
        · refine P_iinc (v := nI (k + 1)) (ls2 := [some (.ref (b)), some (.int (nI (m))), some (.int (nI (mgrq S m k))), some (.int (nI (k + 1))), some (.ref (b + 6 + 13 * k))]) dX0_groupOf_61 rfl (nI_inc _ 1) (by decide) rfl ?_
          refine P_goto (tgt := 4) dX0_groupOf_64 (by decide) ?_
          refine P_weak (ls2 := [some (.ref (b)), some (.int (nI (m))), some (.int (nI (mgrq S m k))), some (.int (nI (k + 1))), none]) ⟨rfl, rfl, rfl, rfl, trivial⟩ ?_
          have e9 : mgrq S m k = mgrq S m (k + 1) := (by rw [mgrq, if_neg (fun q => q.1 c26), Nat.or_zero])
          rw [e9]
          exact ih4 (k + 1) (by omega) (by omega)
        · refine P_aload dX0_groupOf_29 rfl ?_
          refine P_aload_n dX0_groupOf_31 rfl rfl ?_
          refine P_getr (t := b + 1) dX0_groupOf_32 kX0 fX0_11 rfl (by decide) hq.o hq.r0 hq.k1.1.2 ?_
          refine P_iload_n dX0_groupOf_35 rfl rfl ?_
          refine P_aaldM (t := b + 6 + 13 * m) (m) dX0_groupOf_36 hq.k1 rfl (by omega) (by decide) (hq.e (by omega)) (hq.m (by omega)).o.1.2 ?_
          refine P_getiN (x := nI (gM S m 2)) dX0_groupOf_37 kX2 fX0_71 rfl (by decide) (hq.m (by omega)).o ((hC.m (by omega)).w (by decide)) ?_
          refine P_aload_n dX0_groupOf_40 rfl rfl ?_
          refine P_getr (t := b + 1) dX0_groupOf_41 kX0 fX0_11 rfl (by decide) hq.o hq.r0 hq.k1.1.2 ?_
          refine P_iload_n dX0_groupOf_44 rfl rfl ?_
          refine P_aaldM (t := b + 6 + 13 * m) (m) dX0_groupOf_45 hq.k1 rfl (by omega) (by decide) (hq.e (by omega)) (hq.m (by omega)).o.1.2 ?_
          refine P_getiN (x := nI (gM S m 3)) dX0_groupOf_46 kX2 fX0_74 rfl (by decide) (hq.m (by omega)).o ((hC.m (by omega)).w (by decide)) ?_
          refine P_cVp (rest := []) (As := [.int (nI (gM S m 2)), .int (nI (gM S m 3))]) dX0_groupOf_49 lX0_68 yk_X2_isIn yv_X2_isIn kX2 rfl (by decide) (hq.m (by omega)).o rfl rfl (Nat.le_of_ble_eq_true rfl) rfl (c_X2_isIn hq hC hN hB (by omega) (by have := hN.m2 m; omega) (by have := hN.m3 m; omega)) ?_
          refine P_bif_eq (tgt := 61) dX0_groupOf_52 (by decide) (fun c52 => ?_) (fun c52 => ?_)
          · refine P_iinc (v := nI (k + 1)) (ls2 := [some (.ref (b)), some (.int (nI (m))), some (.int (nI (mgrq S m k))), some (.int (nI (k + 1))), some (.ref (b + 6 + 13 * k))]) dX0_groupOf_61 rfl (nI_inc _ 1) (by decide) rfl ?_
            refine P_goto (tgt := 4) dX0_groupOf_64 (by decide) ?_
            refine P_weak (ls2 := [some (.ref (b)), some (.int (nI (m))), some (.int (nI (mgrq S m k))), some (.int (nI (k + 1))), none]) ⟨rfl, rfl, rfl, rfl, trivial⟩ ?_
            have e9 : mgrq S m k = mgrq S m (k + 1) := (by rw [mgrq, if_neg (fun q => of_decide_eq_false c52 q.2), Nat.or_zero])
            rw [e9]
            exact ih4 (k + 1) (by omega) (by omega)
          · refine P_iload_n dX0_groupOf_55 rfl rfl ?_
            refine P_iconst (v := nI 1) dX0_groupOf_56 (by decide) ?_
            refine P_iload_n dX0_groupOf_57 rfl rfl ?_
            refine P_ishlN dX0_groupOf_58 (by omega) ?_
            refine P_iorN dX0_groupOf_59 ?_
            refine P_istore_n (ls2 := [some (.ref (b)), some (.int (nI (m))), some (.int (nI ((mgrq S m k) ||| (1 <<< k)))), some (.int (nI (k))), some (.ref (b + 6 + 13 * k))]) dX0_groupOf_60 rfl (by decide) rfl ?_
            refine P_iinc (v := nI (k + 1)) (ls2 := [some (.ref (b)), some (.int (nI (m))), some (.int (nI ((mgrq S m k) ||| (1 <<< k)))), some (.int (nI (k + 1))), some (.ref (b + 6 + 13 * k))]) dX0_groupOf_61 rfl (nI_inc _ 1) (by decide) rfl ?_
            refine P_goto (tgt := 4) dX0_groupOf_64 (by decide) ?_
            refine P_weak (ls2 := [some (.ref (b)), some (.int (nI (m))), some (.int (nI ((mgrq S m k) ||| (1 <<< k)))), some (.int (nI (k + 1))), none]) ⟨rfl, rfl, rfl, rfl, trivial⟩ ?_
            have e9 : (mgrq S m k) ||| (1 <<< k) = mgrq S m (k + 1) := by rw [mgrq, if_pos ⟨c26, of_decide_eq_true c52⟩]
            rw [e9]
            exact ih4 (k + 1) (by omega) (by omega)
  exact hL4 (c + 1) 0 (by omega) (by omega)
set_option maxHeartbeats 4000000 in
set_option maxRecDepth 100000 in
theorem c_X0_speechesMissedBy {σ : vS} {v : vV} {c b : Nat} {S : mS} {m : Nat} (hq : kLC σ b) (hC : CR c v b S) {B : Nat} (hN : NB c S B) (hB : B < 1000000000) (hm : m < c) (hset : ∀ k, k < c → gM S m 2 = gM S k 2 → gM S m 3 = gM S k 3 → (gM S m 4).testBit k = true) : vC M_X0_speechesMissedBy yX0_speechesMissedBy [.ref (b), .int (nI (m))] (σ, v) (qP (σ, v) (.int (nI (mlck S m c) &&& (nI (gM S m 5) ^^^ (-1))))) := by
  have hc6 := hC.c6
  refine vC_of (ls := [some (.ref (b)), some (.int (nI (m))), none, none, none]) pn_X0 rfl rfl (Nat.le_of_ble_eq_true rfl) rfl ?_
  refine P_iconst (v := nI 0) dX0_speechesMissedBy_0 (by decide) ?_
  refine P_istore_n (ls2 := [some (.ref (b)), some (.int (nI (m))), some (.int (nI (0))), none, none]) dX0_speechesMissedBy_1 rfl (by decide) rfl ?_
  refine P_iconst (v := nI 0) dX0_speechesMissedBy_2 (by decide) ?_
  refine P_istore_n (ls2 := [some (.ref (b)), some (.int (nI (m))), some (.int (nI (0))), some (.int (nI (0))), none]) dX0_speechesMissedBy_3 rfl (by decide) rfl ?_
  have hL4 : ∀ (n4 : Nat) (k : Nat), (k ≤ c) → (k + n4 = c + 1) → vP M_X0_speechesMissedBy 4 [some (.ref (b)), some (.int (nI (m))), some (.int (nI (mlck S m k))), some (.int (nI (k))), none] [] ((vRm M_X0_speechesMissedBy).cells, (vRm M_X0_speechesMissedBy).slots) (σ, v) (vN (qP (σ, v) (.int (nI (mlck S m c) &&& (nI (gM S m 5) ^^^ (-1)))))) := by
    intro n4
    induction n4 with
    | zero =>
      intro k h1 h2
      exact absurd h2 (by omega)
    | succ n4 ih4 =>
      intro k h1 h2
      refine P_iload_n dX0_speechesMissedBy_4 rfl rfl ?_
      refine P_aload_n dX0_speechesMissedBy_5 rfl rfl ?_
      refine P_getiN (x := nI (c)) dX0_speechesMissedBy_6 kX0 fX0_38 rfl (by decide) hq.o hC.g3 ?_
      refine P_icmp_geN (tgt := 76) dX0_speechesMissedBy_9 (by decide) (by omega) (by omega) (fun c9 => ?_) (fun c9 => ?_)
      · refine P_iload_n dX0_speechesMissedBy_76 rfl rfl ?_
        refine P_aload_n dX0_speechesMissedBy_77 rfl rfl ?_
        refine P_getr (t := b + 1) dX0_speechesMissedBy_78 kX0 fX0_11 rfl (by decide) hq.o hq.r0 hq.k1.1.2 ?_
        refine P_iload_n dX0_speechesMissedBy_81 rfl rfl ?_
        refine P_aaldM (t := b + 6 + 13 * m) (m) dX0_speechesMissedBy_82 hq.k1 rfl (by omega) (by decide) (hq.e (by omega)) (hq.m (by omega)).o.1.2 ?_
        refine P_getiN (x := nI (gM S m 5)) dX0_speechesMissedBy_83 kX2 fX0_80 rfl (by decide) (hq.m (by omega)).o ((hC.m (by omega)).w (by decide)) ?_
        refine P_iconst (v := -1) dX0_speechesMissedBy_86 (by decide) ?_
        refine P_ixor dX0_speechesMissedBy_87 ?_
        refine P_iand dX0_speechesMissedBy_88 ?_
        refine P_iret dX0_speechesMissedBy_89 rfl ?_
        refine q_i ?_
        rw [show k = c by omega]
      · refine P_aload_n dX0_speechesMissedBy_12 rfl rfl ?_
        refine P_getr (t := b + 1) dX0_speechesMissedBy_13 kX0 fX0_11 rfl (by decide) hq.o hq.r0 hq.k1.1.2 ?_
        refine P_iload_n dX0_speechesMissedBy_16 rfl rfl ?_
        refine P_aaldM (t := b + 6 + 13 * k) (k) dX0_speechesMissedBy_17 hq.k1 rfl (by omega) (by decide) (hq.e (by omega)) (hq.m (by omega)).o.1.2 ?_
        refine P_astore (ls2 := [some (.ref (b)), some (.int (nI (m))), some (.int (nI (mlck S m k))), some (.int (nI (k))), some (.ref (b + 6 + 13 * k))]) dX0_speechesMissedBy_18 (by decide) rfl ?_
        refine P_aload_n dX0_speechesMissedBy_20 rfl rfl ?_
        refine P_getr (t := b + 1) dX0_speechesMissedBy_21 kX0 fX0_11 rfl (by decide) hq.o hq.r0 hq.k1.1.2 ?_
        refine P_iload_n dX0_speechesMissedBy_24 rfl rfl ?_
        refine P_aaldM (t := b + 6 + 13 * m) (m) dX0_speechesMissedBy_25 hq.k1 rfl (by omega) (by decide) (hq.e (by omega)) (hq.m (by omega)).o.1.2 ?_
        refine P_getiN (x := nI (gM S m 4)) dX0_speechesMissedBy_26 kX2 fX0_77 rfl (by decide) (hq.m (by omega)).o ((hC.m (by omega)).w (by decide)) ?_
        refine P_iload_n dX0_speechesMissedBy_29 rfl rfl ?_
        refine P_cSNp (rest := []) (As := [.int (nI (gM S m 4)), .int (nI (k))]) dX0_speechesMissedBy_30 lnX0_64 yk_X6_hasBit ys_X6_hasBit (by decide) rfl rfl (Nat.le_of_ble_eq_true rfl) rfl (c_X6_hasBit (by have := hN.m4 m; omega) (by omega)) ?_
        refine P_bif_eq (tgt := 70) dX0_speechesMissedBy_33 (by decide) (fun c33 => ?_) (fun c33 => ?_)
        · refine P_iinc (v := nI (k + 1)) (ls2 := [some (.ref (b)), some (.int (nI (m))), some (.int (nI (mlck S m k))), some (.int (nI (k + 1))), some (.ref (b + 6 + 13 * k))]) dX0_speechesMissedBy_70 rfl (nI_inc _ 1) (by decide) rfl ?_
          refine P_goto (tgt := 4) dX0_speechesMissedBy_73 (by decide) ?_
          refine P_weak (ls2 := [some (.ref (b)), some (.int (nI (m))), some (.int (nI (mlck S m k))), some (.int (nI (k + 1))), none]) ⟨rfl, rfl, rfl, rfl, trivial⟩ ?_
          have e9 : mlck S m k = mlck S m (k + 1) := (by rw [mlck, if_neg (fun q => absurd (hset k (by omega) q.1 q.2) (by rw [c33]; exact Bool.false_ne_true)), Nat.or_zero])
          rw [e9]
          exact ih4 (k + 1) (by omega) (by omega)
        · refine P_aload dX0_speechesMissedBy_36 rfl ?_
          refine P_aload_n dX0_speechesMissedBy_38 rfl rfl ?_
          refine P_getr (t := b + 1) dX0_speechesMissedBy_39 kX0 fX0_11 rfl (by decide) hq.o hq.r0 hq.k1.1.2 ?_
          refine P_iload_n dX0_speechesMissedBy_42 rfl rfl ?_
          refine P_aaldM (t := b + 6 + 13 * m) (m) dX0_speechesMissedBy_43 hq.k1 rfl (by omega) (by decide) (hq.e (by omega)) (hq.m (by omega)).o.1.2 ?_
          refine P_getiN (x := nI (gM S m 2)) dX0_speechesMissedBy_44 kX2 fX0_71 rfl (by decide) (hq.m (by omega)).o ((hC.m (by omega)).w (by decide)) ?_
          refine P_aload_n dX0_speechesMissedBy_47 rfl rfl ?_
          refine P_getr (t := b + 1) dX0_speechesMissedBy_48 kX0 fX0_11 rfl (by decide) hq.o hq.r0 hq.k1.1.2 ?_
          refine P_iload_n dX0_speechesMissedBy_51 rfl rfl ?_
          refine P_aaldM (t := b + 6 + 13 * m) (m) dX0_speechesMissedBy_52 hq.k1 rfl (by omega) (by decide) (hq.e (by omega)) (hq.m (by omega)).o.1.2 ?_
          refine P_getiN (x := nI (gM S m 3)) dX0_speechesMissedBy_53 kX2 fX0_74 rfl (by decide) (hq.m (by omega)).o ((hC.m (by omega)).w (by decide)) ?_
          refine P_cVp (rest := []) (As := [.int (nI (gM S m 2)), .int (nI (gM S m 3))]) dX0_speechesMissedBy_56 lX0_68 yk_X2_isIn yv_X2_isIn kX2 rfl (by decide) (hq.m (by omega)).o rfl rfl (Nat.le_of_ble_eq_true rfl) rfl (c_X2_isIn hq hC hN hB (by omega) (by have := hN.m2 m; omega) (by have := hN.m3 m; omega)) ?_
          refine P_bif_eq (tgt := 70) dX0_speechesMissedBy_59 (by decide) (fun c59 => ?_) (fun c59 => ?_)
          · refine P_iinc (v := nI (k + 1)) (ls2 := [some (.ref (b)), some (.int (nI (m))), some (.int (nI (mlck S m k))), some (.int (nI (k + 1))), some (.ref (b + 6 + 13 * k))]) dX0_speechesMissedBy_70 rfl (nI_inc _ 1) (by decide) rfl ?_
            refine P_goto (tgt := 4) dX0_speechesMissedBy_73 (by decide) ?_
            refine P_weak (ls2 := [some (.ref (b)), some (.int (nI (m))), some (.int (nI (mlck S m k))), some (.int (nI (k + 1))), none]) ⟨rfl, rfl, rfl, rfl, trivial⟩ ?_
            have e9 : mlck S m k = mlck S m (k + 1) := (by rw [mlck, if_neg (fun q => of_decide_eq_false c59 ⟨q.1.symm, q.2.symm⟩), Nat.or_zero])
            rw [e9]
            exact ih4 (k + 1) (by omega) (by omega)
          · refine P_iload_n dX0_speechesMissedBy_62 rfl rfl ?_
            refine P_aload dX0_speechesMissedBy_63 rfl ?_
            refine P_getiN (x := nI (gM S k 5)) dX0_speechesMissedBy_65 kX2 fX0_80 rfl (by decide) (hq.m (by omega)).o ((hC.m (by omega)).w (by decide)) ?_
            refine P_iorN dX0_speechesMissedBy_68 ?_
            refine P_istore_n (ls2 := [some (.ref (b)), some (.int (nI (m))), some (.int (nI ((mlck S m k) ||| (gM S k 5)))), some (.int (nI (k))), some (.ref (b + 6 + 13 * k))]) dX0_speechesMissedBy_69 rfl (by decide) rfl ?_
            refine P_iinc (v := nI (k + 1)) (ls2 := [some (.ref (b)), some (.int (nI (m))), some (.int (nI ((mlck S m k) ||| (gM S k 5)))), some (.int (nI (k + 1))), some (.ref (b + 6 + 13 * k))]) dX0_speechesMissedBy_70 rfl (nI_inc _ 1) (by decide) rfl ?_
            refine P_goto (tgt := 4) dX0_speechesMissedBy_73 (by decide) ?_
            refine P_weak (ls2 := [some (.ref (b)), some (.int (nI (m))), some (.int (nI ((mlck S m k) ||| (gM S k 5)))), some (.int (nI (k + 1))), none]) ⟨rfl, rfl, rfl, rfl, trivial⟩ ?_
            have e9 : (mlck S m k) ||| (gM S k 5) = mlck S m (k + 1) := by rw [mlck, if_pos ⟨(of_decide_eq_true c59).1.symm, (of_decide_eq_true c59).2.symm⟩]
            rw [e9]
            exact ih4 (k + 1) (by omega) (by omega)
  exact hL4 (c + 1) 0 (by omega) (by omega)
set_option maxHeartbeats 4000000 in
set_option maxRecDepth 100000 in
theorem c_X0_sharedSessions {σ : vS} {v : vV} {c b : Nat} {S : mS} {a d w : Nat} {un : Bool} (hw : w = if un = true then 1 else 0) (hq : kLC σ b) (hC : CR c v b S) {B : Nat} (hN : NB c S B) (hB : B < 1000000000) (ha : a < 6) (hd : d < 6) : vC M_X0_sharedSessions yX0_sharedSessions [.ref (b), .int (nI (a)), .int (nI (d)), .int (vb (un))] (σ, v) (qP (σ, v) (.int (nI (mcmp S a d w)))) := by
  refine vC_of (ls := [some (.ref (b)), some (.int (nI (a))), some (.int (nI (d))), some (.int (vb (un))), none, none, none, none, none, none]) pn_X0 rfl rfl (Nat.le_of_ble_eq_true rfl) rfl ?_
  refine P_aload_n dX0_sharedSessions_0 rfl rfl ?_
  refine P_getr (t := b + 1) dX0_sharedSessions_1 kX0 fX0_11 rfl (by decide) hq.o hq.r0 hq.k1.1.2 ?_
  refine P_iload_n dX0_sharedSessions_4 rfl rfl ?_
  refine P_aaldM (t := b + 6 + 13 * a) (a) dX0_sharedSessions_5 hq.k1 rfl (by omega) (by decide) (hq.e (by omega)) (hq.m (by omega)).o.1.2 ?_
  refine P_getr (t := b + 6 + 13 * a + 9) dX0_sharedSessions_6 kX2 fX0_83 rfl (by decide) (hq.m (by omega)).o (hq.m (by omega)).c15 (hq.m (by omega)).ps.o.1.2 ?_
  refine P_astore (ls2 := [some (.ref (b)), some (.int (nI (a))), some (.int (nI (d))), some (.int (vb (un))), some (.ref (b + 6 + 13 * a + 9)), none, none, none, none, none]) dX0_sharedSessions_9 (by decide) rfl ?_
  refine P_aload_n dX0_sharedSessions_11 rfl rfl ?_
  refine P_getr (t := b + 1) dX0_sharedSessions_12 kX0 fX0_11 rfl (by decide) hq.o hq.r0 hq.k1.1.2 ?_
  refine P_iload_n dX0_sharedSessions_15 rfl rfl ?_
  refine P_aaldM (t := b + 6 + 13 * d) (d) dX0_sharedSessions_16 hq.k1 rfl (by omega) (by decide) (hq.e (by omega)) (hq.m (by omega)).o.1.2 ?_
  refine P_getr (t := b + 6 + 13 * d + 9) dX0_sharedSessions_17 kX2 fX0_83 rfl (by decide) (hq.m (by omega)).o (hq.m (by omega)).c15 (hq.m (by omega)).ps.o.1.2 ?_
  refine P_astore (ls2 := [some (.ref (b)), some (.int (nI (a))), some (.int (nI (d))), some (.int (vb (un))), some (.ref (b + 6 + 13 * a + 9)), some (.ref (b + 6 + 13 * d + 9)), none, none, none, none]) dX0_sharedSessions_20 (by decide) rfl ?_
  refine P_iconst (v := nI 0) dX0_sharedSessions_22 (by decide) ?_
  refine P_istore (ls2 := [some (.ref (b)), some (.int (nI (a))), some (.int (nI (d))), some (.int (vb (un))), some (.ref (b + 6 + 13 * a + 9)), some (.ref (b + 6 + 13 * d + 9)), some (.int (nI (0))), none, none, none]) dX0_sharedSessions_23 (by decide) rfl ?_
  refine P_iconst (v := nI 0) dX0_sharedSessions_25 (by decide) ?_
  refine P_istore (ls2 := [some (.ref (b)), some (.int (nI (a))), some (.int (nI (d))), some (.int (vb (un))), some (.ref (b + 6 + 13 * a + 9)), some (.ref (b + 6 + 13 * d + 9)), some (.int (nI (0))), some (.int (nI (0))), none, none]) dX0_sharedSessions_26 (by decide) rfl ?_
  have hL28 : ∀ (n28 : Nat) (k : Nat), (k ≤ (gH S a).length) → (k + n28 = (gH S a).length + 1) → vP M_X0_sharedSessions 28 [some (.ref (b)), some (.int (nI (a))), some (.int (nI (d))), some (.int (vb (un))), some (.ref (b + 6 + 13 * a + 9)), some (.ref (b + 6 + 13 * d + 9)), some (.int (nI (mcmpK S a d w k))), some (.int (nI (k))), none, none] [] ((vRm M_X0_sharedSessions).cells, (vRm M_X0_sharedSessions).slots) (σ, v) (vN (qP (σ, v) (.int (nI (mcmp S a d w))))) := by
    intro n28
    induction n28 with
    | zero =>
      intro k h1 h2
      exact absurd h2 (by omega)
    | succ n28 ih28 =>
      intro k h1 h2
      refine P_iload dX0_sharedSessions_28 rfl ?_
      refine P_aload dX0_sharedSessions_30 rfl ?_
      refine P_getiN (x := nI ((gH S a).length)) dX0_sharedSessions_32 kX4 fX0_87 rfl (by decide) (hq.m (by omega)).ps.o (hC.m (by omega)).h.1 ?_
      refine P_icmp_geN (tgt := 139) dX0_sharedSessions_35 (by decide) (by have := hN.b.2.1 a; have := hN.b.2.1 d; omega) (by have := hN.b.2.1 a; have := hN.b.2.1 d; omega) (fun c35 => ?_) (fun c35 => ?_)
      · refine P_iload dX0_sharedSessions_139 rfl ?_
        refine P_iret dX0_sharedSessions_141 rfl ?_
        exact q_n (by rw [show k = (gH S a).length by omega]; rfl)
      · refine P_iconst (v := nI 0) dX0_sharedSessions_38 (by decide) ?_
        refine P_istore (ls2 := [some (.ref (b)), some (.int (nI (a))), some (.int (nI (d))), some (.int (vb (un))), some (.ref (b + 6 + 13 * a + 9)), some (.ref (b + 6 + 13 * d + 9)), some (.int (nI (mcmpK S a d w k))), some (.int (nI (k))), some (.int (nI (0))), none]) dX0_sharedSessions_39 (by decide) rfl ?_
        have hL41 : ∀ (n41 : Nat) (l : Nat), (l ≤ (gH S d).length) → (l + n41 = (gH S d).length + 1) → vP M_X0_sharedSessions 41 [some (.ref (b)), some (.int (nI (a))), some (.int (nI (d))), some (.int (vb (un))), some (.ref (b + 6 + 13 * a + 9)), some (.ref (b + 6 + 13 * d + 9)), some (.int (nI (mcmpK S a d w k + mcmpL S a d w k l))), some (.int (nI (k))), some (.int (nI (l))), none] [] ((vRm M_X0_sharedSessions).cells, (vRm M_X0_sharedSessions).slots) (σ, v) (vN (qP (σ, v) (.int (nI (mcmp S a d w))))) := by
          intro n41
          induction n41 with
          | zero =>
            intro l g1 g2
            exact absurd g2 (by omega)
          | succ n41 ih41 =>
            intro l g1 g2
            refine P_iload dX0_sharedSessions_41 rfl ?_
            refine P_aload dX0_sharedSessions_43 rfl ?_
            refine P_getiN (x := nI ((gH S d).length)) dX0_sharedSessions_45 kX4 fX0_87 rfl (by decide) (hq.m (by omega)).ps.o (hC.m (by omega)).h.1 ?_
            refine P_icmp_geN (tgt := 133) dX0_sharedSessions_48 (by decide) (by have := hN.b.2.1 a; have := hN.b.2.1 d; omega) (by have := hN.b.2.1 a; have := hN.b.2.1 d; omega) (fun c48 => ?_) (fun c48 => ?_)
            · refine P_iinc (v := nI (k + 1)) (ls2 := [some (.ref (b)), some (.int (nI (a))), some (.int (nI (d))), some (.int (vb (un))), some (.ref (b + 6 + 13 * a + 9)), some (.ref (b + 6 + 13 * d + 9)), some (.int (nI (mcmpK S a d w k + mcmpL S a d w k l))), some (.int (nI (k + 1))), some (.int (nI (l))), none]) dX0_sharedSessions_133 rfl (nI_inc _ 1) (by decide) rfl ?_
              refine P_goto (tgt := 28) dX0_sharedSessions_136 (by decide) ?_
              refine P_weak (ls2 := [some (.ref (b)), some (.int (nI (a))), some (.int (nI (d))), some (.int (vb (un))), some (.ref (b + 6 + 13 * a + 9)), some (.ref (b + 6 + 13 * d + 9)), some (.int (nI (mcmpK S a d w k + mcmpL S a d w k l))), some (.int (nI (k + 1))), none, none]) ⟨rfl, rfl, rfl, rfl, rfl, rfl, rfl, rfl, trivial⟩ ?_
              have el : l = (gH S d).length := by omega
              subst el
              exact ih28 (k + 1) (by omega) (by omega)
            · obtain ⟨a1, a2, a3⟩ := hN.hd (m := a) (k := k) (by omega)
              obtain ⟨d1, d2, d3⟩ := hN.hd (m := d) (k := l) (by omega)
              have hJ94 : ∀ (bl : Bool), (bl = true ↔ (((gH S a).getD k t0).1 = ((gH S d).getD l t0).1 ∧ ((gH S a).getD k t0).2.1 = ((gH S d).getD l t0).2.1)) → vP M_X0_sharedSessions 94 [some (.ref (b)), some (.int (nI (a))), some (.int (nI (d))), some (.int (vb (un))), some (.ref (b + 6 + 13 * a + 9)), some (.ref (b + 6 + 13 * d + 9)), some (.int (nI (mcmpK S a d w k + mcmpL S a d w k l))), some (.int (nI (k))), some (.int (nI (l))), none] [.int (vb (bl))] ((vRm M_X0_sharedSessions).cells, (vRm M_X0_sharedSessions).slots) (σ, v) (vN (qP (σ, v) (.int (nI (mcmp S a d w))))) := by
                intro bl hbl
                refine P_istore (ls2 := [some (.ref (b)), some (.int (nI (a))), some (.int (nI (d))), some (.int (vb (un))), some (.ref (b + 6 + 13 * a + 9)), some (.ref (b + 6 + 13 * d + 9)), some (.int (nI (mcmpK S a d w k + mcmpL S a d w k l))), some (.int (nI (k))), some (.int (nI (l))), some (.int (vb (bl)))]) dX0_sharedSessions_94 (by decide) rfl ?_
                refine P_iload dX0_sharedSessions_96 rfl ?_
                refine P_bif_eq (tgt := 127) dX0_sharedSessions_98 (by decide) (fun c98 => ?_) (fun c98 => ?_)
                · refine P_iinc (v := nI (l + 1)) (ls2 := [some (.ref (b)), some (.int (nI (a))), some (.int (nI (d))), some (.int (vb (un))), some (.ref (b + 6 + 13 * a + 9)), some (.ref (b + 6 + 13 * d + 9)), some (.int (nI (mcmpK S a d w k + mcmpL S a d w k l))), some (.int (nI (k))), some (.int (nI (l + 1))), some (.int (vb (bl)))]) dX0_sharedSessions_127 rfl (nI_inc _ 1) (by decide) rfl ?_
                  refine P_goto (tgt := 41) dX0_sharedSessions_130 (by decide) ?_
                  refine P_weak (ls2 := [some (.ref (b)), some (.int (nI (a))), some (.int (nI (d))), some (.int (vb (un))), some (.ref (b + 6 + 13 * a + 9)), some (.ref (b + 6 + 13 * d + 9)), some (.int (nI (mcmpK S a d w k + mcmpL S a d w k l))), some (.int (nI (k))), some (.int (nI (l + 1))), none]) ⟨rfl, rfl, rfl, rfl, rfl, rfl, rfl, rfl, rfl, trivial⟩ ?_
                  have e9 : mcmpK S a d w k + mcmpL S a d w k l = mcmpK S a d w k + mcmpL S a d w k (l + 1) := by rw [mcmpL, if_neg (fun q => by rw [hbl.mpr q.1] at c98; exact Bool.noConfusion c98)]; rfl
                  rw [e9]
                  exact ih41 (l + 1) (by omega) (by omega)
                · refine P_iload_n dX0_sharedSessions_101 rfl rfl ?_
                  refine P_bif_eq (tgt := 124) dX0_sharedSessions_102 (by decide) (fun c102 => ?_) (fun c102 => ?_)
                  · refine P_iinc (v := nI (mcmpK S a d w k + mcmpL S a d w k l + 1)) (ls2 := [some (.ref (b)), some (.int (nI (a))), some (.int (nI (d))), some (.int (vb (un))), some (.ref (b + 6 + 13 * a + 9)), some (.ref (b + 6 + 13 * d + 9)), some (.int (nI (mcmpK S a d w k + mcmpL S a d w k l + 1))), some (.int (nI (k))), some (.int (nI (l))), some (.int (vb (bl)))]) dX0_sharedSessions_124 rfl (nI_inc _ 1) (by decide) rfl ?_
                    refine P_iinc (v := nI (l + 1)) (ls2 := [some (.ref (b)), some (.int (nI (a))), some (.int (nI (d))), some (.int (vb (un))), some (.ref (b + 6 + 13 * a + 9)), some (.ref (b + 6 + 13 * d + 9)), some (.int (nI (mcmpK S a d w k + mcmpL S a d w k l + 1))), some (.int (nI (k))), some (.int (nI (l + 1))), some (.int (vb (bl)))]) dX0_sharedSessions_127 rfl (nI_inc _ 1) (by decide) rfl ?_
                    refine P_goto (tgt := 41) dX0_sharedSessions_130 (by decide) ?_
                    refine P_weak (ls2 := [some (.ref (b)), some (.int (nI (a))), some (.int (nI (d))), some (.int (vb (un))), some (.ref (b + 6 + 13 * a + 9)), some (.ref (b + 6 + 13 * d + 9)), some (.int (nI (mcmpK S a d w k + mcmpL S a d w k l + 1))), some (.int (nI (k))), some (.int (nI (l + 1))), none]) ⟨rfl, rfl, rfl, rfl, rfl, rfl, rfl, rfl, rfl, trivial⟩ ?_
                    have e9 : mcmpK S a d w k + mcmpL S a d w k l + 1 = mcmpK S a d w k + mcmpL S a d w k (l + 1) := by rw [mcmpL, if_pos ⟨hbl.mp c98, Or.inl (by rw [hw, c102]; exact if_neg Bool.false_ne_true)⟩]; omega
                    rw [e9]
                    exact ih41 (l + 1) (by omega) (by omega)
                  · refine P_aload dX0_sharedSessions_105 rfl ?_
                    refine P_getr (t := b + 6 + 13 * a + 9 + 3) dX0_sharedSessions_107 kX4 fX0_96 rfl (by decide) (hq.m (by omega)).ps.o (hq.m (by omega)).ps.c2 (hq.m (by omega)).ps.a3.1.2 ?_
                    refine P_iload dX0_sharedSessions_110 rfl ?_
                    refine P_ialdN (x := nI (((gH S a).getD k t0).2.2)) (k) dX0_sharedSessions_112 (hq.m (by omega)).ps.a3 rfl (by have := hN.b.2.1 a; have := hN.b.2.1 d; omega) (by decide) ((hC.m (by omega)).h.d (by omega)).2.2 ?_
                    refine P_aload dX0_sharedSessions_113 rfl ?_
                    refine P_getr (t := b + 6 + 13 * d + 9 + 3) dX0_sharedSessions_115 kX4 fX0_96 rfl (by decide) (hq.m (by omega)).ps.o (hq.m (by omega)).ps.c2 (hq.m (by omega)).ps.a3.1.2 ?_
                    refine P_iload dX0_sharedSessions_118 rfl ?_
                    refine P_ialdN (x := nI (((gH S d).getD l t0).2.2)) (l) dX0_sharedSessions_120 (hq.m (by omega)).ps.a3 rfl (by have := hN.b.2.1 a; have := hN.b.2.1 d; omega) (by decide) ((hC.m (by omega)).h.d (by omega)).2.2 ?_
                    refine P_icmp_eqN (tgt := 127) dX0_sharedSessions_121 (by decide) (by omega) (by omega) (fun c121 => ?_) (fun c121 => ?_)
                    · refine P_iinc (v := nI (l + 1)) (ls2 := [some (.ref (b)), some (.int (nI (a))), some (.int (nI (d))), some (.int (vb (un))), some (.ref (b + 6 + 13 * a + 9)), some (.ref (b + 6 + 13 * d + 9)), some (.int (nI (mcmpK S a d w k + mcmpL S a d w k l))), some (.int (nI (k))), some (.int (nI (l + 1))), some (.int (vb (bl)))]) dX0_sharedSessions_127 rfl (nI_inc _ 1) (by decide) rfl ?_
                      refine P_goto (tgt := 41) dX0_sharedSessions_130 (by decide) ?_
                      refine P_weak (ls2 := [some (.ref (b)), some (.int (nI (a))), some (.int (nI (d))), some (.int (vb (un))), some (.ref (b + 6 + 13 * a + 9)), some (.ref (b + 6 + 13 * d + 9)), some (.int (nI (mcmpK S a d w k + mcmpL S a d w k l))), some (.int (nI (k))), some (.int (nI (l + 1))), none]) ⟨rfl, rfl, rfl, rfl, rfl, rfl, rfl, rfl, rfl, trivial⟩ ?_
                      have e9 : mcmpK S a d w k + mcmpL S a d w k l = mcmpK S a d w k + mcmpL S a d w k (l + 1) := by rw [mcmpL, if_neg (fun q => q.2.elim (fun e => by rw [hw, c102] at e; exact absurd e (by decide)) (fun e => e c121))]; rfl
                      rw [e9]
                      exact ih41 (l + 1) (by omega) (by omega)
                    · refine P_iinc (v := nI (mcmpK S a d w k + mcmpL S a d w k l + 1)) (ls2 := [some (.ref (b)), some (.int (nI (a))), some (.int (nI (d))), some (.int (vb (un))), some (.ref (b + 6 + 13 * a + 9)), some (.ref (b + 6 + 13 * d + 9)), some (.int (nI (mcmpK S a d w k + mcmpL S a d w k l + 1))), some (.int (nI (k))), some (.int (nI (l))), some (.int (vb (bl)))]) dX0_sharedSessions_124 rfl (nI_inc _ 1) (by decide) rfl ?_
                      refine P_iinc (v := nI (l + 1)) (ls2 := [some (.ref (b)), some (.int (nI (a))), some (.int (nI (d))), some (.int (vb (un))), some (.ref (b + 6 + 13 * a + 9)), some (.ref (b + 6 + 13 * d + 9)), some (.int (nI (mcmpK S a d w k + mcmpL S a d w k l + 1))), some (.int (nI (k))), some (.int (nI (l + 1))), some (.int (vb (bl)))]) dX0_sharedSessions_127 rfl (nI_inc _ 1) (by decide) rfl ?_
                      refine P_goto (tgt := 41) dX0_sharedSessions_130 (by decide) ?_
                      refine P_weak (ls2 := [some (.ref (b)), some (.int (nI (a))), some (.int (nI (d))), some (.int (vb (un))), some (.ref (b + 6 + 13 * a + 9)), some (.ref (b + 6 + 13 * d + 9)), some (.int (nI (mcmpK S a d w k + mcmpL S a d w k l + 1))), some (.int (nI (k))), some (.int (nI (l + 1))), none]) ⟨rfl, rfl, rfl, rfl, rfl, rfl, rfl, rfl, rfl, trivial⟩ ?_
                      have e9 : mcmpK S a d w k + mcmpL S a d w k l + 1 = mcmpK S a d w k + mcmpL S a d w k (l + 1) := by rw [mcmpL, if_pos ⟨hbl.mp c98, Or.inr c121⟩]; omega
                      rw [e9]
                      exact ih41 (l + 1) (by omega) (by omega)
              refine P_aload dX0_sharedSessions_51 rfl ?_
              refine P_getr (t := b + 6 + 13 * a + 9 + 1) dX0_sharedSessions_53 kX4 fX0_90 rfl (by decide) (hq.m (by omega)).ps.o (hq.m (by omega)).ps.c0 (hq.m (by omega)).ps.a1.1.2 ?_
              refine P_iload dX0_sharedSessions_56 rfl ?_
              refine P_ialdN (x := nI (((gH S a).getD k t0).1)) (k) dX0_sharedSessions_58 (hq.m (by omega)).ps.a1 rfl (by have := hN.b.2.1 a; have := hN.b.2.1 d; omega) (by decide) ((hC.m (by omega)).h.d (by omega)).1 ?_
              refine P_aload dX0_sharedSessions_59 rfl ?_
              refine P_getr (t := b + 6 + 13 * d + 9 + 1) dX0_sharedSessions_61 kX4 fX0_90 rfl (by decide) (hq.m (by omega)).ps.o (hq.m (by omega)).ps.c0 (hq.m (by omega)).ps.a1.1.2 ?_
              refine P_iload dX0_sharedSessions_64 rfl ?_
              refine P_ialdN (x := nI (((gH S d).getD l t0).1)) (l) dX0_sharedSessions_66 (hq.m (by omega)).ps.a1 rfl (by have := hN.b.2.1 a; have := hN.b.2.1 d; omega) (by decide) ((hC.m (by omega)).h.d (by omega)).1 ?_
              refine P_icmp_neN (tgt := 93) dX0_sharedSessions_67 (by decide) (by omega) (by omega) (fun c67 => ?_) (fun c67 => ?_)
              · refine P_iconst (v := nI 0) dX0_sharedSessions_93 (by decide) ?_
                exact hJ94 false ⟨fun q => (by cases q), fun q => absurd q (fun e => c67 e.1)⟩
              · refine P_aload dX0_sharedSessions_70 rfl ?_
                refine P_getr (t := b + 6 + 13 * a + 9 + 2) dX0_sharedSessions_72 kX4 fX0_93 rfl (by decide) (hq.m (by omega)).ps.o (hq.m (by omega)).ps.c1 (hq.m (by omega)).ps.a2.1.2 ?_
                refine P_iload dX0_sharedSessions_75 rfl ?_
                refine P_ialdN (x := nI (((gH S a).getD k t0).2.1)) (k) dX0_sharedSessions_77 (hq.m (by omega)).ps.a2 rfl (by have := hN.b.2.1 a; have := hN.b.2.1 d; omega) (by decide) ((hC.m (by omega)).h.d (by omega)).2.1 ?_
                refine P_aload dX0_sharedSessions_78 rfl ?_
                refine P_getr (t := b + 6 + 13 * d + 9 + 2) dX0_sharedSessions_80 kX4 fX0_93 rfl (by decide) (hq.m (by omega)).ps.o (hq.m (by omega)).ps.c1 (hq.m (by omega)).ps.a2.1.2 ?_
                refine P_iload dX0_sharedSessions_83 rfl ?_
                refine P_ialdN (x := nI (((gH S d).getD l t0).2.1)) (l) dX0_sharedSessions_85 (hq.m (by omega)).ps.a2 rfl (by have := hN.b.2.1 a; have := hN.b.2.1 d; omega) (by decide) ((hC.m (by omega)).h.d (by omega)).2.1 ?_
                refine P_icmp_neN (tgt := 93) dX0_sharedSessions_86 (by decide) (by omega) (by omega) (fun c86 => ?_) (fun c86 => ?_)
                · refine P_iconst (v := nI 0) dX0_sharedSessions_93 (by decide) ?_
                  exact hJ94 false ⟨fun q => (by cases q), fun q => absurd q (fun e => c86 e.2)⟩
                · refine P_iconst (v := nI 1) dX0_sharedSessions_89 (by decide) ?_
                  refine P_goto (tgt := 94) dX0_sharedSessions_90 (by decide) ?_
                  exact hJ94 true ⟨fun _ => ⟨c67, c86⟩, fun _ => rfl⟩
        exact hL41 ((gH S d).length + 1) 0 (by omega) (by omega)
  exact hL28 ((gH S a).length + 1) 0 (by omega) (by omega)
