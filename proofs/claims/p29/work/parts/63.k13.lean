
/-! counting bits -/
theorem ush_k : ∀ k, k < 32 → ((nI k).toUInt32 &&& Int32.toUInt32 31).toNat % 32 = k := by decide +kernel
theorem nI_ushr {a k : Nat} (hk : k < 32) (ha : a < 2147483648) : ((nI a).toUInt32 >>> ((nI k).toUInt32 &&& Int32.toUInt32 31)).toInt32 = nI (a >>> k) := by
  apply nI_ext
  show ((nI a).toUInt32 >>> ((nI k).toUInt32 &&& Int32.toUInt32 31)).toNat = (BitVec.ofNat 32 (a >>> k)).toNat
  rw [UInt32.toNat_shiftRight, ush_k k hk, BitVec.toNat_ofNat]
  show (BitVec.ofNat 32 a).toNat >>> k = _
  rw [BitVec.toNat_ofNat, Nat.mod_eq_of_lt (show a < 2 ^ 32 by omega), Nat.mod_eq_of_lt]
  exact Nat.lt_of_le_of_lt (Nat.shiftRight_le a k) (by omega)
theorem P_iushrN {M : vR} {pc : Nat} {ls : List (Option Value)} {st : List Value} {b : Nat × Nat} {μ : vM} {Q : vO → vM → Prop} {x y : Nat} (hd : decode (vCC M) pc = .ok (.iushr, 1)) (hy : y < 32) (hx : x < 2147483648) (k : vP M (pc + 1) ls (.int (nI (x >>> y)) :: st) b μ Q) : vP M pc ls (.int (nI y) :: .int (nI x) :: st) b μ Q := P_iushr hd (P_top (nI_ushr hy hx) k)
def bA (s : Nat) : Nat := s - (s >>> 1 &&& 1431655765)
def bB (a : Nat) : Nat := (a &&& 858993459) + (a >>> 2 &&& 858993459)
def bC (b : Nat) : Nat := b + b >>> 4 &&& 252645135
def bF (b : Nat) : Nat := (bC b + bC b >>> 8) + (bC b + bC b >>> 8) >>> 16 &&& 63
theorem spl_and {hi lo m' m : Nat} (h1 : lo < 4096) (h2 : m < 4096) : (4096 * hi + lo) &&& (4096 * m' + m) = 4096 * (hi &&& m') + (lo &&& m) := by
  have h3 : lo &&& m < 2 ^ 12 := Nat.lt_of_le_of_lt Nat.and_le_left h1
  apply Nat.eq_of_testBit_eq
  intro j
  have e1 := Nat.testBit_two_pow_mul_add hi (i := 12) (b := lo) h1 j
  have e2 := Nat.testBit_two_pow_mul_add m' (i := 12) (b := m) h2 j
  have e3 := Nat.testBit_two_pow_mul_add (hi &&& m') (i := 12) (b := lo &&& m) h3 j
  rw [Nat.testBit_and]
  rw [show 4096 = 2 ^ 12 from rfl, e1, e2, e3]
  split
  · rw [Nat.testBit_and]
  · rw [Nat.testBit_and]
theorem bt_1 : ∀ e, e < 2 → ∀ x, x < 2048 → (2048 * e + x) &&& 1365 = x &&& 1365 := by decide +kernel
theorem bt_3 : ∀ e, e < 4 → ∀ x, x < 1024 → (1024 * e + x) &&& 819 = x &&& 819 := by decide +kernel
def bA1 (x : Nat) : Nat := x - (x / 2 &&& 1365)
def bA2 (x : Nat) : Nat := x - (x / 2 &&& 349525)
def bB1 (x : Nat) : Nat := (x &&& 819) + (x / 4 &&& 819)
def bB2 (x : Nat) : Nat := (x &&& 209715) + (x / 4 &&& 209715)
theorem bt_40 : ∀ a, a < 64 → ∀ d, d < 64 → bB1 (bA1 (64 * a + d)) % 16 ≤ 4 ∧ bB1 (bA1 (64 * a + d)) / 16 % 16 ≤ 4 ∧ bB1 (bA1 (64 * a + d)) / 256 ≤ 4 ∧ bB1 (bA1 (64 * a + d)) % 16 + bB1 (bA1 (64 * a + d)) / 16 % 16 + bB1 (bA1 (64 * a + d)) / 256 = mbits (64 * a + d) 12 := by decide +kernel
theorem bt_4 : ∀ x, x < 4096 → bB1 (bA1 x) % 16 ≤ 4 ∧ bB1 (bA1 x) / 16 % 16 ≤ 4 ∧ bB1 (bA1 x) / 256 ≤ 4 ∧ bB1 (bA1 x) % 16 + bB1 (bA1 x) / 16 % 16 + bB1 (bA1 x) / 256 = mbits (x) 12 := by
  intro x hx
  have h := bt_40 (x / 64) (by omega) (x % 64) (by omega)
  rw [show 64 * (x / 64) + x % 64 = x by omega] at h
  exact h
theorem bt_50 : ∀ a, a < 64 → ∀ d, d < 64 → bB2 (bA2 (64 * a + d)) % 16 ≤ 4 ∧ bB2 (bA2 (64 * a + d)) / 16 % 16 ≤ 4 ∧ bB2 (bA2 (64 * a + d)) / 256 ≤ 4 ∧ bB2 (bA2 (64 * a + d)) % 16 + bB2 (bA2 (64 * a + d)) / 16 % 16 + bB2 (bA2 (64 * a + d)) / 256 = mbits (64 * a + d) 12 := by decide +kernel
theorem bt_5 : ∀ x, x < 4096 → bB2 (bA2 x) % 16 ≤ 4 ∧ bB2 (bA2 x) / 16 % 16 ≤ 4 ∧ bB2 (bA2 x) / 256 ≤ 4 ∧ bB2 (bA2 x) % 16 + bB2 (bA2 x) / 16 % 16 + bB2 (bA2 x) / 256 = mbits (x) 12 := by
  intro x hx
  have h := bt_50 (x / 64) (by omega) (x % 64) (by omega)
  rw [show 64 * (x / 64) + x % 64 = x by omega] at h
  exact h
theorem bt_6 : ∀ n0, n0 < 5 → ∀ n1, n1 < 5 → ∀ n2, n2 < 5 → ∀ n3, n3 < 5 → ∀ n4, n4 < 5 → ∀ n5, n5 < 5 → bF (n0 + 16 * n1 + 256 * n2 + 4096 * n3 + 65536 * n4 + 1048576 * n5) = n0 + n1 + n2 + n3 + n4 + n5 := by decide +kernel
theorem bA_s {hi lo : Nat} (h1 : lo < 4096) : bA (4096 * hi + lo) = 4096 * bA2 hi + bA1 lo := by
  unfold bA bA1 bA2
  have e : (4096 * hi + lo) >>> 1 = 4096 * (hi / 2) + (2048 * (hi % 2) + lo / 2) := by
    rw [Nat.shiftRight_eq_div_pow]; omega
  have g1 : hi / 2 &&& 349525 ≤ hi / 2 := Nat.and_le_left
  have g2 : lo / 2 &&& 1365 ≤ lo / 2 := Nat.and_le_left
  rw [e, show 1431655765 = 4096 * 349525 + 1365 from rfl, spl_and (by omega) (by decide), bt_1 _ (by omega) _ (by omega)]
  omega
theorem bA1_le {x : Nat} : bA1 x ≤ x := Nat.sub_le _ _
theorem bA2_le {x : Nat} : bA2 x ≤ x := Nat.sub_le _ _
theorem bB_s {hi lo : Nat} (h1 : lo < 4096) : bB (4096 * hi + lo) = 4096 * bB2 hi + bB1 lo := by
  unfold bB bB1 bB2
  have e : (4096 * hi + lo) >>> 2 = 4096 * (hi / 4) + (1024 * (hi % 4) + lo / 4) := by
    rw [Nat.shiftRight_eq_div_pow]; omega
  rw [e, show 858993459 = 4096 * 209715 + 819 from rfl, spl_and h1 (by decide), spl_and (by omega) (by decide), bt_3 _ (by omega) _ (by omega)]
  omega
theorem mbits_lo {hi lo : Nat} (h1 : lo < 4096) : ∀ k, k ≤ 12 → mbits (4096 * hi + lo) k = mbits lo k := by
  intro k
  induction k with
  | zero => intro _; rfl
  | succ k ih =>
    intro hk
    have e1 := Nat.testBit_two_pow_mul_add hi (i := 12) (b := lo) h1 k
    rw [if_pos (by omega)] at e1
    rw [mbits, mbits, ih (by omega), show (4096 * hi + lo).testBit k = lo.testBit k from e1]
theorem mbits_hi {hi lo : Nat} (h1 : lo < 4096) : ∀ k, mbits (4096 * hi + lo) (12 + k) = mbits lo 12 + mbits hi k := by
  intro k
  induction k with
  | zero => rw [Nat.add_zero, mbits_lo h1 12 (Nat.le_refl _)]; rfl
  | succ k ih =>
    have e1 := Nat.testBit_two_pow_mul_add hi (i := 12) (b := lo) h1 (12 + k)
    rw [if_neg (by omega), show 12 + k - 12 = k by omega] at e1
    have e2 : mbits (4096 * hi + lo) (12 + k + 1) = mbits (4096 * hi + lo) (12 + k) + (if (4096 * hi + lo).testBit (12 + k) = true then 1 else 0) := rfl
    have e3 : mbits hi (k + 1) = mbits hi k + (if hi.testBit k = true then 1 else 0) := rfl
    rw [← Nat.add_assoc, e2, e3, ih, show (4096 * hi + lo).testBit (12 + k) = hi.testBit k from e1]
    omega
theorem bcount {s : Nat} (h : s < 16777216) : bF (bB (bA s)) = mbits s 24 := by
  have es : s = 4096 * (s / 4096) + s % 4096 := by omega
  have hl : s % 4096 < 4096 := by omega
  have hh : s / 4096 < 4096 := by omega
  generalize s / 4096 = hi at es hh
  generalize s % 4096 = lo at es hl
  subst es
  have ha1 := bA1_le (x := lo)
  rw [bA_s hl, bB_s (by omega), mbits_hi hl 12]
  obtain ⟨a1, a2, a3, a4⟩ := bt_4 lo hl
  obtain ⟨b1, b2, b3, b4⟩ := bt_5 hi hh
  rw [← a4, ← b4]
  generalize bB1 (bA1 lo) = x at a1 a2 a3 ⊢
  generalize bB2 (bA2 hi) = y at b1 b2 b3 ⊢
  have := bt_6 (x % 16) (by omega) (x / 16 % 16) (by omega) (x / 256) (by omega) (y % 16) (by omega) (y / 16 % 16) (by omega) (y / 256) (by omega)
  rw [show x % 16 + 16 * (x / 16 % 16) + 256 * (x / 256) + 4096 * (y % 16) + 65536 * (y / 16 % 16) + 1048576 * (y / 256) = 4096 * y + x by omega] at this
  rw [this]
  omega
theorem bA_lt {s : Nat} : bA s ≤ s := Nat.sub_le _ _
theorem bB_lt {a : Nat} : bB a ≤ 2 * a := by
  unfold bB
  have h1 : a &&& 858993459 ≤ a := Nat.and_le_left
  have h2 : a >>> 2 &&& 858993459 ≤ a >>> 2 := Nat.and_le_left
  have h3 := Nat.shiftRight_le a 2
  omega
theorem bC_lt {b : Nat} : bC b ≤ 252645135 := Nat.and_le_right
set_option maxHeartbeats 4000000 in
set_option maxRecDepth 100000 in
theorem c_bitCount {μ : vM} {s : Nat} (hs : s < 16777216) : vC M_J6_bitCount_0f7a4 yJ6_bitCount_0f7a4 [.int (nI (s))] μ (qP μ (.int (nI (mbits s 24)))) := by
  refine vC_of (ls := [some (.int (nI (s)))]) pn_J6 rfl rfl (Nat.le_of_ble_eq_true rfl) rfl ?_
  refine P_iload_n dJ6_bitCount_0f7a4_0 rfl rfl ?_
  refine P_iload_n dJ6_bitCount_0f7a4_1 rfl rfl ?_
  refine P_iconst (v := nI 1) dJ6_bitCount_0f7a4_2 (by decide) ?_
  refine P_iushrN dJ6_bitCount_0f7a4_3 (by omega) (by have q1 := bA_lt (s := s); have q2 := bB_lt (a := bA s); have q3 := bC_lt (b := bB (bA s)); have q4 := Nat.shiftRight_le (bC (bB (bA s))) 8; omega) ?_
  refine P_ldc_w dJ6_bitCount_0f7a4_4 cJ6_265 ?_
  refine P_top (y := nI 1431655765) (by decide) ?_
  refine P_iandN dJ6_bitCount_0f7a4_7 ?_
  refine P_isubN dJ6_bitCount_0f7a4_8 (by have := Nat.shiftRight_le s 1; have : s >>> 1 &&& 1431655765 ≤ s >>> 1 := Nat.and_le_left; omega) ?_
  refine P_top (y := nI (bA s)) rfl ?_
  refine P_istore_n (ls2 := [some (.int (nI (bA s)))]) dJ6_bitCount_0f7a4_9 rfl (by decide) rfl ?_
  refine P_iload_n dJ6_bitCount_0f7a4_10 rfl rfl ?_
  refine P_ldc_w dJ6_bitCount_0f7a4_11 cJ6_266 ?_
  refine P_top (y := nI 858993459) (by decide) ?_
  refine P_iandN dJ6_bitCount_0f7a4_14 ?_
  refine P_iload_n dJ6_bitCount_0f7a4_15 rfl rfl ?_
  refine P_iconst (v := nI 2) dJ6_bitCount_0f7a4_16 (by decide) ?_
  refine P_iushrN dJ6_bitCount_0f7a4_17 (by omega) (by have q1 := bA_lt (s := s); have q2 := bB_lt (a := bA s); have q3 := bC_lt (b := bB (bA s)); have q4 := Nat.shiftRight_le (bC (bB (bA s))) 8; omega) ?_
  refine P_ldc_w dJ6_bitCount_0f7a4_18 cJ6_266 ?_
  refine P_top (y := nI 858993459) (by decide) ?_
  refine P_iandN dJ6_bitCount_0f7a4_21 ?_
  refine P_iaddN dJ6_bitCount_0f7a4_22 ?_
  refine P_top (y := nI (bB (bA s))) rfl ?_
  refine P_istore_n (ls2 := [some (.int (nI (bB (bA s))))]) dJ6_bitCount_0f7a4_23 rfl (by decide) rfl ?_
  refine P_iload_n dJ6_bitCount_0f7a4_24 rfl rfl ?_
  refine P_iload_n dJ6_bitCount_0f7a4_25 rfl rfl ?_
  refine P_iconst (v := nI 4) dJ6_bitCount_0f7a4_26 (by decide) ?_
  refine P_iushrN dJ6_bitCount_0f7a4_27 (by omega) (by have q1 := bA_lt (s := s); have q2 := bB_lt (a := bA s); have q3 := bC_lt (b := bB (bA s)); have q4 := Nat.shiftRight_le (bC (bB (bA s))) 8; omega) ?_
  refine P_iaddN dJ6_bitCount_0f7a4_28 ?_
  refine P_ldc_w dJ6_bitCount_0f7a4_29 cJ6_267 ?_
  refine P_top (y := nI 252645135) (by decide) ?_
  refine P_iandN dJ6_bitCount_0f7a4_32 ?_
  refine P_top (y := nI (bC (bB (bA s)))) rfl ?_
  refine P_istore_n (ls2 := [some (.int (nI (bC (bB (bA s)))))]) dJ6_bitCount_0f7a4_33 rfl (by decide) rfl ?_
  refine P_iload_n dJ6_bitCount_0f7a4_34 rfl rfl ?_
  refine P_iload_n dJ6_bitCount_0f7a4_35 rfl rfl ?_
  refine P_bipush (v := nI 8) dJ6_bitCount_0f7a4_36 (by decide) ?_
  refine P_iushrN dJ6_bitCount_0f7a4_38 (by omega) (by have q1 := bA_lt (s := s); have q2 := bB_lt (a := bA s); have q3 := bC_lt (b := bB (bA s)); have q4 := Nat.shiftRight_le (bC (bB (bA s))) 8; omega) ?_
  refine P_iaddN dJ6_bitCount_0f7a4_39 ?_
  refine P_istore_n (ls2 := [some (.int (nI (bC (bB (bA s)) + ((bC (bB (bA s))) >>> 8))))]) dJ6_bitCount_0f7a4_40 rfl (by decide) rfl ?_
  refine P_iload_n dJ6_bitCount_0f7a4_41 rfl rfl ?_
  refine P_iload_n dJ6_bitCount_0f7a4_42 rfl rfl ?_
  refine P_bipush (v := nI 16) dJ6_bitCount_0f7a4_43 (by decide) ?_
  refine P_iushrN dJ6_bitCount_0f7a4_45 (by omega) (by have q1 := bA_lt (s := s); have q2 := bB_lt (a := bA s); have q3 := bC_lt (b := bB (bA s)); have q4 := Nat.shiftRight_le (bC (bB (bA s))) 8; omega) ?_
  refine P_iaddN dJ6_bitCount_0f7a4_46 ?_
  refine P_istore_n (ls2 := [some (.int (nI (bC (bB (bA s)) + ((bC (bB (bA s))) >>> 8) + ((bC (bB (bA s)) + ((bC (bB (bA s))) >>> 8)) >>> 16))))]) dJ6_bitCount_0f7a4_47 rfl (by decide) rfl ?_
  refine P_iload_n dJ6_bitCount_0f7a4_48 rfl rfl ?_
  refine P_bipush (v := nI 63) dJ6_bitCount_0f7a4_49 (by decide) ?_
  refine P_iandN dJ6_bitCount_0f7a4_51 ?_
  refine P_iret dJ6_bitCount_0f7a4_52 rfl ?_
  exact q_n (bcount hs)
