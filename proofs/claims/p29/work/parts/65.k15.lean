
/-! longs that are natural numbers -/
def nL (n : Nat) : Int64 := Int64.ofInt (n : Int)
theorem nL_toInt {n : Nat} (h : n < 9223372036854775808) : (nL n).toInt = (n : Int) := Int64.toInt_ofInt_of_le (by omega) (by omega)
theorem nL_of {x : Int64} {n : Nat} (h : x.toInt = (n : Int)) (hn : n < 9223372036854775808) : x = nL n := by
  apply Int64.toInt_inj.mp
  rw [h, nL_toInt hn]
theorem nL_mul (a d : Nat) : nL a * nL d = nL (a * d) := by
  unfold nL
  rw [← Int64.ofInt_mul]
  congr 1
theorem nL_sub {a d : Nat} (h : d ≤ a) : nL a - nL d = nL (a - d) := by
  unfold nL
  rw [← Int64.ofInt_sub]
  congr 1
  omega
theorem nL_div {a d : Nat} (ha : a < 9223372036854775808) (hd : d < 9223372036854775808) : nL a / nL d = nL (a / d) := by
  apply nL_of
  · have hq := Nat.div_le_self a d
    rw [Int64.toInt_div, nL_toInt ha, nL_toInt hd, ← Int.ofNat_tdiv]
    generalize a / d = q at hq ⊢
    rw [Int.bmod_eq_of_le] <;> omega
  · exact Nat.lt_of_le_of_lt (Nat.div_le_self a d) ha
theorem nL_i (n : Nat) : (nL n).toInt32 = nI n := by
  show (Int64.ofInt (n : Int)).toInt32 = Int32.ofInt (n : Int)
  exact Int64.toInt32_ofInt
theorem nL_0 {d : Nat} (h0 : 0 < d) (hd : d < 9223372036854775808) : ¬ nL d = 0 := fun e => by
  have := congrArg Int64.toInt e
  rw [nL_toInt hd] at this
  have h2 : (0 : Int64).toInt = 0 := by decide
  omega
theorem P_topL {M : vR} {pc : Nat} {ls : List (Option Value)} {st : List Value} {b : Nat × Nat} {μ : vM} {Q : vO → vM → Prop} {x y : Int64} (h : x = y) (k : vP M pc ls (.long y :: st) b μ Q) : vP M pc ls (.long x :: st) b μ Q := h ▸ k
theorem P_lmulN {M : vR} {pc : Nat} {ls : List (Option Value)} {st : List Value} {b : Nat × Nat} {μ : vM} {Q : vO → vM → Prop} {x y : Nat} (hd : decode (vCC M) pc = .ok (.lmul, 1)) (k : vP M (pc + 1) ls (.long (nL (x * y)) :: st) b μ Q) : vP M pc ls (.long (nL y) :: .long (nL x) :: st) b μ Q := P_lmul hd (P_topL (nL_mul x y) k)
theorem P_ldivN {M : vR} {pc : Nat} {ls : List (Option Value)} {st : List Value} {b : Nat × Nat} {μ : vM} {Q : vO → vM → Prop} {x y : Nat} (hd : decode (vCC M) pc = .ok (.ldiv, 1)) (hx : x < 9223372036854775808) (hy : y < 9223372036854775808) (h0 : 0 < y) (k : vP M (pc + 1) ls (.long (nL (x / y)) :: st) b μ Q) : vP M pc ls (.long (nL y) :: .long (nL x) :: st) b μ Q := P_ldiv hd (nL_0 h0 hy) (P_topL (nL_div hx hy) k)
theorem P_lremN {M : vR} {pc : Nat} {ls : List (Option Value)} {st : List Value} {b : Nat × Nat} {μ : vM} {Q : vO → vM → Prop} {x y : Nat} (hd : decode (vCC M) pc = .ok (.lrem, 1)) (hx : x < 9223372036854775808) (hy : y < 9223372036854775808) (h0 : 0 < y) (k : vP M (pc + 1) ls (.long (nL (x % y)) :: st) b μ Q) : vP M pc ls (.long (nL y) :: .long (nL x) :: st) b μ Q :=
  P_lrem hd (nL_0 h0 hy) (P_topL (by rw [nL_div hx hy, nL_mul, nL_sub (Nat.div_mul_le_self x y)]; congr 1; have := Nat.div_add_mod x y; rw [Nat.mul_comm] at this; omega) k)
theorem P_l2iN {M : vR} {pc : Nat} {ls : List (Option Value)} {st : List Value} {b : Nat × Nat} {μ : vM} {Q : vO → vM → Prop} {x : Nat} (hd : decode (vCC M) pc = .ok (.l2i, 1)) (k : vP M (pc + 1) ls (.int (nI x) :: st) b μ Q) : vP M pc ls (.long (nL x) :: st) b μ Q := P_l2i hd (P_top (nL_i x) k)
theorem l_lt {x y : Int64} : x < y ↔ x.toInt < y.toInt := Int64.lt_iff_toInt_lt
theorem l_le {x y : Int64} : x ≤ y ↔ x.toInt ≤ y.toInt := Int64.le_iff_toInt_le
theorem l_0 : (0 : Int64).toInt = 0 := by decide
/-! WHAT WOULD BE, SCRIPTS, SIMULATIONS -/
def mcnd (c : Nat) (U : mS) (m num set w : Nat) : Bool := if w = 0 then decide (gM U m 2 = num ∧ gM U m 3 = m) else mthere U m num set c
def mfind (c : Nat) (S0 : mS) (m num set w : Nat) : Nat → Nat → Option Nat
  | 0, _ => none
  | f + 1, k => if mcnd c (mticks k S0) m num set w = true then some k else mfind c S0 m num set w f (k + 1)
def g_standsIn : gT → Int32 → Int32 → Int32 → gR gT
  | (tn, (c, S), R), m, s, w => if mb c m = false then (1, 0, (tn, (c, S), R)) else if (gin w 0 1 && mset c m.toInt.toNat s) = false then (2, 0, (tn, (c, S), R)) else if gM S m.toInt.toNat 1 = 2 then (0, -1, (tn, (c, S), R))
    else (0, mO (mfind c (mcall S m.toInt.toNat s.toInt.toNat) m.toInt.toNat (gM S m.toInt.toNat 6 + 1) s.toInt.toNat w.toInt.toNat 101 0), (tn, (c, S), R))
def kcm (h a d r : Nat) (X : mC) : Bool × mC :=
  if h = 1 then (if d = 0 ∧ r = 0 then kSay X a else (false, X))
  else if h = 2 then (if d = 0 then kCall X a r else (false, X))
  else if h = 3 then (if r = 10 then kCut X a d true else if r = 0 then kCut X a d false else (false, X))
  else if h = 4 then (if d = 0 then (if r = 0 then kLeave X a else if r = 1 then kBack X a else (false, X)) else (false, X))
  else if h = 5 then (if a = 0 ∧ d = 0 then kTk X r else (false, X))
  else if h = 6 then (decide (d = 0 ∧ a < X.1 ∧ r ≤ gM X.2 a 2), X)
  else if h = 7 then (decide (d = 0 ∧ a < X.1 ∧ gM X.2 a 1 = r), X)
  else if h = 8 then (decide (d = 0 ∧ a < X.1 ∧ r ≤ mbits (gM X.2 a 5) 24), X)
  else if h = 9 then (decide (r < 10 ∧ a < X.1 ∧ d < X.1 ∧ mcmp X.2 a d 1 ≤ r), X)
  else (false, X)
def kcmd (g : Nat) (X : mC) : Bool × mC := kcm (g / 10000) (g / 1000 % 10) (g / 100 % 10) (g % 100) X
def mscr (n s : Nat) : Nat → Nat → mC → Option Nat
  | 0, _, _ => none
  | f + 1, k, X => if (kcmd (s / 100000 ^ (n - 1 - k) % 100000) X).1 = true then mscr n s f (k + 1) (kcmd (s / 100000 ^ (n - 1 - k) % 100000) X).2 else some k
def g_runScript : gT → Int32 → Int64 → gR gT
  | (tn, X, R), n, s => if (gin n 1 3 && decide (0 ≤ s.toInt ∧ s.toInt < ((100000 ^ n.toInt.toNat : Nat) : Int))) = false then (1, 0, (tn, X, R)) else (0, mO (mscr n.toInt.toNat s.toInt.toNat n.toInt.toNat 0 X), (tn, X, R))
def mturn (r : Nat) (X : mC) : mC :=
  if r % 16 = 0 then (kAdd X (r / 16 % 10)).2
  else if r % 16 < 6 then (kSay X (r / 16 % 6)).2
  else if r % 16 < 8 then (kCall X (r / 16 % 6) (r / 16 / 8 % 64 &&& (1 <<< X.1 - 1) ||| 1 <<< (r / 16 % 6))).2
  else if r % 16 = 8 then (kCut X (r / 16 % 6) (r / 16 / 6 % 6) (decide (r / 16 / 64 % 3 = 0))).2
  else if r % 16 = 9 then (if r / 16 / 8 % 3 = 0 then (kLeave X (r / 16 % 6)).2 else (kBack X (r / 16 % 6)).2)
  else if r % 16 = 10 then (kSet X (r / 16 % 41)).2
  else (kTicks X (1 + r / 16 % 8)).2
def rOf (x : Int64) : Nat := (x.toUInt64 >>> 33).toNat
def msx (x : Int64) : Nat → Int64
  | 0 => x
  | i + 1 => msx x i * 6364136223846793005 + 1442695040888963407
def msim (X : mC) (x : Int64) : Nat → mC
  | 0 => X
  | i + 1 => mturn (rOf (msx x (i + 1))) (msim X x i)
def msum (S U : mS) : Int32 := nI 10000 * (nI (gG U 6) - nI (gG S 6)) + nI 100 * (nI (gG U 4) - nI (gG S 4)) + (if nI 99 < nI (gG U 5) - nI (gG S 5) then nI 99 else nI (gG U 5) - nI (gG S 5))
def g_simulate : gT → Int64 → Int32 → gR gT
  | (tn, X, R), x, n => if gin n 1 60 = false then (1, 0, (tn, X, R)) else (0, msum X.2 (msim X x n.toInt.toNat).2, (tn, X, R))
theorem sh33 (x : Int64) : ((x.toUInt64 >>> ((nI 33).toInt64.toUInt64 &&& Int64.toUInt64 63)).toInt64).toInt32 = nI (rOf x) ∧ rOf x < 2147483648 := by
  have e : ((nI 33).toInt64.toUInt64 &&& Int64.toUInt64 63) = 33 := by decide
  rw [e]
  have h9 : rOf x < 2147483648 := by
    unfold rOf
    rw [UInt64.toNat_shiftRight, show (33 : UInt64).toNat % 64 = 33 from rfl, Nat.shiftRight_eq_div_pow]
    have := x.toUInt64.toNat_lt
    omega
  refine ⟨?_, h9⟩
  apply nI_ext
  have e2 : (nI (rOf x)).toBitVec.toNat = rOf x := by
    show (BitVec.ofNat 32 (rOf x)).toNat = _
    rw [BitVec.toNat_ofNat, Nat.mod_eq_of_lt (by omega)]
  rw [e2, Int64.toBitVec_toInt32, BitVec.signExtend_eq_setWidth_of_le _ (by decide), BitVec.toNat_setWidth]
  show (x.toUInt64 >>> 33).toNat % 2 ^ 32 = rOf x
  exact Nat.mod_eq_of_lt (by have h8 : (x.toUInt64 >>> 33).toNat = rOf x := rfl; omega)
theorem kc_f {P : Prop} [Decidable P] {X : mC} {R : Bool × mC} (h : ¬ P) : (if P then R else (false, X)) = (false, X) := if_neg h
theorem car_e {σ : vS} {v v9 : vV} {b : Nat} {R R' : Bool × mC} {o : Option Value} (e : R = R') (h : vN (qS σ (some (.int (vb R'.1))) (carP v b R')) (.inl o) (σ, v9)) : vN (qS σ (some (.int (vb R.1))) (carP v b R)) (.inl o) (σ, v9) := by
  rw [e]; exact h
theorem two_pc {c : Nat} (hc : c ≤ 6) : 1 <<< c - 1 < 64 := by
  have h : ∀ c, c ≤ 6 → 1 <<< c - 1 < 64 := by decide
  exact h c hc
theorem turn_set {c x m : Nat} (hx : x < 64) (hm : m < 6) : x &&& (1 <<< c - 1) ||| 1 <<< m < 64 := or6 (Nat.lt_of_le_of_lt Nat.and_le_left hx) (sh6 hm)
set_option maxHeartbeats 4000000 in
set_option maxRecDepth 100000 in
theorem c_X6_succeeds {σ : vS} {v : vV} {c b g9 : Nat} {S : mS} (hT : kLT σ b) (hC : CR c v (b + 171) S) {B : Nat} (hN : NB c S B) (hB : B + 100000 < 1000000000) (hI : Iv c 1 S) (hg9 : g9 < 100000) : vC M_X6_succeeds yX6_succeeds [.ref (b), .int (nI (g9))] (σ, v) (qS σ (some (.int (vb (kcmd g9 (c, S)).1))) (carP v (b + 171) (kcmd g9 (c, S)))) := by
  have hc6 := hC.c6
  have hO : vOw v v (b + 171) 84 := vOw.rf
  refine vC_of (ls := [some (.ref (b)), some (.int (nI (g9))), none, none, none]) pn_X6 rfl rfl (Nat.le_of_ble_eq_true rfl) rfl ?_
  refine P_iload_n dX6_succeeds_0 rfl rfl ?_
  refine P_sipush (v := nI 1000) dX6_succeeds_1 (by decide) ?_
  refine P_idivN dX6_succeeds_4 (by omega) (by decide) (by decide) ?_
  refine P_bipush (v := nI 10) dX6_succeeds_5 (by decide) ?_
  refine P_iremN dX6_succeeds_7 (by omega) (by decide) (by decide) ?_
  refine P_istore_n (ls2 := [some (.ref (b)), some (.int (nI (g9))), some (.int (nI ((g9 / 1000) % 10))), none, none]) dX6_succeeds_8 rfl (by decide) rfl ?_
  refine P_iload_n dX6_succeeds_9 rfl rfl ?_
  refine P_bipush (v := nI 100) dX6_succeeds_10 (by decide) ?_
  refine P_idivN dX6_succeeds_12 (by omega) (by decide) (by decide) ?_
  refine P_bipush (v := nI 10) dX6_succeeds_13 (by decide) ?_
  refine P_iremN dX6_succeeds_15 (by omega) (by decide) (by decide) ?_
  refine P_istore_n (ls2 := [some (.ref (b)), some (.int (nI (g9))), some (.int (nI ((g9 / 1000) % 10))), some (.int (nI ((g9 / 100) % 10))), none]) dX6_succeeds_16 rfl (by decide) rfl ?_
  refine P_iload_n dX6_succeeds_17 rfl rfl ?_
  refine P_bipush (v := nI 100) dX6_succeeds_18 (by decide) ?_
  refine P_iremN dX6_succeeds_20 (by omega) (by decide) (by decide) ?_
  refine P_istore (ls2 := [some (.ref (b)), some (.int (nI (g9))), some (.int (nI ((g9 / 1000) % 10))), some (.int (nI ((g9 / 100) % 10))), some (.int (nI (g9 % 100)))]) dX6_succeeds_21 (by decide) rfl ?_
  refine P_iload_n dX6_succeeds_23 rfl rfl ?_
  refine P_sipush (v := nI 10000) dX6_succeeds_24 (by decide) ?_
  refine P_idivN dX6_succeeds_27 (by omega) (by decide) (by decide) ?_
  unfold kcmd
  have ha9 : g9 / 1000 % 10 < 10 := by omega
  have hd9 : g9 / 100 % 10 < 10 := by omega
  have hr9 : g9 % 100 < 100 := by omega
  have hh9 : g9 / 10000 < 10 := by omega
  generalize g9 / 1000 % 10 = a at ha9 ⊢
  generalize g9 / 100 % 10 = d at hd9 ⊢
  generalize g9 % 100 = r at hr9 ⊢
  generalize g9 / 10000 = h at hh9 ⊢
  rcases vsw (h) 1 9 (by omega) (by decide) with c28 | ⟨c28_j, c28_b, c28⟩
  · refine P_tswOut (tgt := 424) dX6_succeeds_28 (vsw_out (by omega) c28) (by decide) ?_
    refine P_iconst (v := nI 0) dX6_succeeds_424 (by decide) ?_
    refine P_zret dX6_succeeds_425 rfl (by decide) ?_
    exact car_f (by unfold kcm; rw [if_neg (by omega), if_neg (by omega), if_neg (by omega), if_neg (by omega), if_neg (by omega), if_neg (by omega), if_neg (by omega), if_neg (by omega), if_neg (by omega)]) hC hO
  · rcases (by omega : c28_j = 0 ∨ c28_j = 1 ∨ c28_j = 2 ∨ c28_j = 3 ∨ c28_j = 4 ∨ c28_j = 5 ∨ c28_j = 6 ∨ c28_j = 7 ∨ c28_j = 8) with q28 | q28 | q28 | q28 | q28 | q28 | q28 | q28 | q28
    · replace c28 : h = 1 := by omega
      refine P_tswIn (off := 52) (tgt := 80) dX6_succeeds_28 (by rw [vsw_int c28 (by decide)]; decide) (by rw [vsw_int c28 (by decide)]; decide) (by rw [vsw_int c28 (by decide)]; rfl) (by decide) ?_
      refine P_iload_n dX6_succeeds_80 rfl rfl ?_
      refine P_if_neN (tgt := 107) dX6_succeeds_81 (by decide) (by omega) (fun c81 => ?_) (fun c81 => ?_)
      · refine P_iconst (v := nI 0) dX6_succeeds_107 (by decide) ?_
        refine P_zret dX6_succeeds_108 rfl (by decide) ?_
        exact car_f (by unfold kcm; rw [if_pos c28, if_neg (by omega)]) hC hO
      · refine P_iload dX6_succeeds_84 rfl ?_
        refine P_if_neN (tgt := 107) dX6_succeeds_86 (by decide) (by omega) (fun c86 => ?_) (fun c86 => ?_)
        · refine P_iconst (v := nI 0) dX6_succeeds_107 (by decide) ?_
          refine P_zret dX6_succeeds_108 rfl (by decide) ?_
          exact car_f (by unfold kcm; rw [if_pos c28, if_neg (by omega)]) hC hO
        · refine P_aload_n dX6_succeeds_89 rfl rfl ?_
          refine P_getr (t := b + 171) dX6_succeeds_90 kX6 fX6_26 rfl (by decide) hT.o hT.r3 hT.k3.o.1.2 ?_
          refine P_bipush (v := nI 115) dX6_succeeds_93 (by decide) ?_
          refine P_iload_n dX6_succeeds_95 rfl rfl ?_
          refine P_iconst (v := nI 0) dX6_succeeds_96 (by decide) ?_
          refine P_cVs (rest := []) (As := [.int (nI (115)), .int (nI (a)), .int (nI (0))]) dX6_succeeds_97 lX6_87 yk_X0_carryOut yv_X0_carryOut kX0 rfl (by decide) hT.k3.o rfl rfl (Nat.le_of_ble_eq_true rfl) rfl (c_car_s (by omega) hT.k3 hC hN (by omega) hI) (fun v97 hp97 => ?_)
          refine P_bif_eq (tgt := 107) dX6_succeeds_100 (by decide) (fun c100 => ?_) (fun c100 => ?_)
          · refine P_iconst (v := nI 0) dX6_succeeds_107 (by decide) ?_
            refine P_zret dX6_succeeds_108 rfl (by decide) ?_
            exact car_e (by unfold kcm; rw [if_pos c28, if_pos ⟨by omega, by omega⟩]) (car_y c100 hp97)
          · refine P_iconst (v := nI 1) dX6_succeeds_103 (by decide) ?_
            refine P_goto (tgt := 108) dX6_succeeds_104 (by decide) ?_
            refine P_zret dX6_succeeds_108 rfl (by decide) ?_
            exact car_e (by unfold kcm; rw [if_pos c28, if_pos ⟨by omega, by omega⟩]) (car_x c100 hp97)
    · replace c28 : h = 2 := by omega
      refine P_tswIn (off := 81) (tgt := 109) dX6_succeeds_28 (by rw [vsw_int c28 (by decide)]; decide) (by rw [vsw_int c28 (by decide)]; decide) (by rw [vsw_int c28 (by decide)]; rfl) (by decide) ?_
      refine P_iload_n dX6_succeeds_109 rfl rfl ?_
      refine P_if_neN (tgt := 132) dX6_succeeds_110 (by decide) (by omega) (fun c110 => ?_) (fun c110 => ?_)
      · refine P_iconst (v := nI 0) dX6_succeeds_132 (by decide) ?_
        refine P_zret dX6_succeeds_133 rfl (by decide) ?_
        exact car_f (by unfold kcm; rw [if_neg (by omega), if_pos c28, if_neg (by omega)]) hC hO
      · refine P_aload_n dX6_succeeds_113 rfl rfl ?_
        refine P_getr (t := b + 171) dX6_succeeds_114 kX6 fX6_26 rfl (by decide) hT.o hT.r3 hT.k3.o.1.2 ?_
        refine P_bipush (v := nI 99) dX6_succeeds_117 (by decide) ?_
        refine P_iload_n dX6_succeeds_119 rfl rfl ?_
        refine P_iload dX6_succeeds_120 rfl ?_
        refine P_cVs (rest := []) (As := [.int (nI (99)), .int (nI (a)), .int (nI (r))]) dX6_succeeds_122 lX6_87 yk_X0_carryOut yv_X0_carryOut kX0 rfl (by decide) hT.k3.o rfl rfl (Nat.le_of_ble_eq_true rfl) rfl (c_car_c (by omega) (by omega) hT.k3 hC hN (by omega) hI) (fun v122 hp122 => ?_)
        refine P_bif_eq (tgt := 132) dX6_succeeds_125 (by decide) (fun c125 => ?_) (fun c125 => ?_)
        · refine P_iconst (v := nI 0) dX6_succeeds_132 (by decide) ?_
          refine P_zret dX6_succeeds_133 rfl (by decide) ?_
          exact car_e (by unfold kcm; rw [if_neg (by omega), if_pos c28, if_pos (by omega)]) (car_y c125 hp122)
        · refine P_iconst (v := nI 1) dX6_succeeds_128 (by decide) ?_
          refine P_goto (tgt := 133) dX6_succeeds_129 (by decide) ?_
          refine P_zret dX6_succeeds_133 rfl (by decide) ?_
          exact car_e (by unfold kcm; rw [if_neg (by omega), if_pos c28, if_pos (by omega)]) (car_x c125 hp122)
    · replace c28 : h = 3 := by omega
      refine P_tswIn (off := 106) (tgt := 134) dX6_succeeds_28 (by rw [vsw_int c28 (by decide)]; decide) (by rw [vsw_int c28 (by decide)]; decide) (by rw [vsw_int c28 (by decide)]; rfl) (by decide) ?_
      refine P_iload dX6_succeeds_134 rfl ?_
      refine P_bipush (v := nI 10) dX6_succeeds_136 (by decide) ?_
      refine P_icmp_neN (tgt := 155) dX6_succeeds_138 (by decide) (by omega) (by omega) (fun c138 => ?_) (fun c138 => ?_)
      · refine P_iload dX6_succeeds_155 rfl ?_
        refine P_if_neN (tgt := 177) dX6_succeeds_157 (by decide) (by omega) (fun c157 => ?_) (fun c157 => ?_)
        · refine P_iconst (v := nI 0) dX6_succeeds_177 (by decide) ?_
          refine P_zret dX6_succeeds_178 rfl (by decide) ?_
          exact car_f (by unfold kcm; rw [if_neg (by omega), if_neg (by omega), if_pos c28, if_neg (by omega), if_neg (by omega)]) hC hO
        · refine P_aload_n dX6_succeeds_160 rfl rfl ?_
          refine P_getr (t := b + 171) dX6_succeeds_161 kX6 fX6_26 rfl (by decide) hT.o hT.r3 hT.k3.o.1.2 ?_
          refine P_iconst (v := nI 0) dX6_succeeds_164 (by decide) ?_
          refine P_iload_n dX6_succeeds_165 rfl rfl ?_
          refine P_iload_n dX6_succeeds_166 rfl rfl ?_
          refine P_cVs (rest := []) (As := [.int (nI (0)), .int (nI (a)), .int (nI (d))]) dX6_succeeds_167 lX6_87 yk_X0_carryOut yv_X0_carryOut kX0 rfl (by decide) hT.k3.o rfl rfl (Nat.le_of_ble_eq_true rfl) rfl (c_car_z (by omega) (by omega) hT.k3 hC hN (by omega) hI) (fun v167 hp167 => ?_)
          refine P_bif_eq (tgt := 177) dX6_succeeds_170 (by decide) (fun c170 => ?_) (fun c170 => ?_)
          · refine P_iconst (v := nI 0) dX6_succeeds_177 (by decide) ?_
            refine P_zret dX6_succeeds_178 rfl (by decide) ?_
            exact car_e (by unfold kcm; rw [if_neg (by omega), if_neg (by omega), if_pos c28, if_neg (by omega), if_pos (by omega)]) (car_y c170 hp167)
          · refine P_iconst (v := nI 1) dX6_succeeds_173 (by decide) ?_
            refine P_goto (tgt := 178) dX6_succeeds_174 (by decide) ?_
            refine P_zret dX6_succeeds_178 rfl (by decide) ?_
            exact car_e (by unfold kcm; rw [if_neg (by omega), if_neg (by omega), if_pos c28, if_neg (by omega), if_pos (by omega)]) (car_x c170 hp167)
      · refine P_aload_n dX6_succeeds_141 rfl rfl ?_
        refine P_getr (t := b + 171) dX6_succeeds_142 kX6 fX6_26 rfl (by decide) hT.o hT.r3 hT.k3.o.1.2 ?_
        refine P_bipush (v := nI 120) dX6_succeeds_145 (by decide) ?_
        refine P_iload_n dX6_succeeds_147 rfl rfl ?_
        refine P_iload_n dX6_succeeds_148 rfl rfl ?_
        refine P_cVs (rest := []) (As := [.int (nI (120)), .int (nI (a)), .int (nI (d))]) dX6_succeeds_149 lX6_87 yk_X0_carryOut yv_X0_carryOut kX0 rfl (by decide) hT.k3.o rfl rfl (Nat.le_of_ble_eq_true rfl) rfl (c_car_x (by omega) (by omega) hT.k3 hC hN (by omega) hI) (fun v149 hp149 => ?_)
        refine P_bif_ne (tgt := 173) dX6_succeeds_152 (by decide) (fun c152 => ?_) (fun c152 => ?_)
        · refine P_iconst (v := nI 1) dX6_succeeds_173 (by decide) ?_
          refine P_goto (tgt := 178) dX6_succeeds_174 (by decide) ?_
          refine P_zret dX6_succeeds_178 rfl (by decide) ?_
          exact car_e (by unfold kcm; rw [if_neg (by omega), if_neg (by omega), if_pos c28, if_pos (by omega)]) (car_x c152 hp149)
        · refine P_iload dX6_succeeds_155 rfl ?_
          refine P_if_neN (tgt := 177) dX6_succeeds_157 (by decide) (by omega) (fun c157 => ?_) (fun c157 => ?_)
          · refine P_iconst (v := nI 0) dX6_succeeds_177 (by decide) ?_
            refine P_zret dX6_succeeds_178 rfl (by decide) ?_
            exact car_e (by unfold kcm; rw [if_neg (by omega), if_neg (by omega), if_pos c28, if_pos (by omega)]) (car_y c152 hp149)
          · exact absurd c157 (by omega)
    · replace c28 : h = 4 := by omega
      refine P_tswIn (off := 151) (tgt := 179) dX6_succeeds_28 (by rw [vsw_int c28 (by decide)]; decide) (by rw [vsw_int c28 (by decide)]; decide) (by rw [vsw_int c28 (by decide)]; rfl) (by decide) ?_
      refine P_iload_n dX6_succeeds_179 rfl rfl ?_
      refine P_if_neN (tgt := 226) dX6_succeeds_180 (by decide) (by omega) (fun c180 => ?_) (fun c180 => ?_)
      · refine P_iconst (v := nI 0) dX6_succeeds_226 (by decide) ?_
        refine P_zret dX6_succeeds_227 rfl (by decide) ?_
        exact car_f (by unfold kcm; rw [if_neg (by omega), if_neg (by omega), if_neg (by omega), if_pos c28, if_neg (by omega)]) hC hO
      · refine P_iload dX6_succeeds_183 rfl ?_
        refine P_if_neN (tgt := 202) dX6_succeeds_185 (by decide) (by omega) (fun c185 => ?_) (fun c185 => ?_)
        · refine P_iload dX6_succeeds_202 rfl ?_
          refine P_iconst (v := nI 1) dX6_succeeds_204 (by decide) ?_
          refine P_icmp_neN (tgt := 226) dX6_succeeds_205 (by decide) (by omega) (by omega) (fun c205 => ?_) (fun c205 => ?_)
          · refine P_iconst (v := nI 0) dX6_succeeds_226 (by decide) ?_
            refine P_zret dX6_succeeds_227 rfl (by decide) ?_
            exact car_f (by unfold kcm; rw [if_neg (by omega), if_neg (by omega), if_neg (by omega), if_pos c28, if_pos (by omega), if_neg (by omega), if_neg (by omega)]) hC hO
          · refine P_aload_n dX6_succeeds_208 rfl rfl ?_
            refine P_getr (t := b + 171) dX6_succeeds_209 kX6 fX6_26 rfl (by decide) hT.o hT.r3 hT.k3.o.1.2 ?_
            refine P_bipush (v := nI 98) dX6_succeeds_212 (by decide) ?_
            refine P_iload_n dX6_succeeds_214 rfl rfl ?_
            refine P_iconst (v := nI 0) dX6_succeeds_215 (by decide) ?_
            refine P_cVs (rest := []) (As := [.int (nI (98)), .int (nI (a)), .int (nI (0))]) dX6_succeeds_216 lX6_87 yk_X0_carryOut yv_X0_carryOut kX0 rfl (by decide) hT.k3.o rfl rfl (Nat.le_of_ble_eq_true rfl) rfl (c_car_b (by omega) hT.k3 hC hN (by omega) hI) (fun v216 hp216 => ?_)
            refine P_bif_eq (tgt := 226) dX6_succeeds_219 (by decide) (fun c219 => ?_) (fun c219 => ?_)
            · refine P_iconst (v := nI 0) dX6_succeeds_226 (by decide) ?_
              refine P_zret dX6_succeeds_227 rfl (by decide) ?_
              exact car_e (by unfold kcm; rw [if_neg (by omega), if_neg (by omega), if_neg (by omega), if_pos c28, if_pos (by omega), if_neg (by omega), if_pos (by omega)]) (car_y c219 hp216)
            · refine P_iconst (v := nI 1) dX6_succeeds_222 (by decide) ?_
              refine P_goto (tgt := 227) dX6_succeeds_223 (by decide) ?_
              refine P_zret dX6_succeeds_227 rfl (by decide) ?_
              exact car_e (by unfold kcm; rw [if_neg (by omega), if_neg (by omega), if_neg (by omega), if_pos c28, if_pos (by omega), if_neg (by omega), if_pos (by omega)]) (car_x c219 hp216)
        · refine P_aload_n dX6_succeeds_188 rfl rfl ?_
          refine P_getr (t := b + 171) dX6_succeeds_189 kX6 fX6_26 rfl (by decide) hT.o hT.r3 hT.k3.o.1.2 ?_
          refine P_bipush (v := nI 103) dX6_succeeds_192 (by decide) ?_
          refine P_iload_n dX6_succeeds_194 rfl rfl ?_
          refine P_iconst (v := nI 0) dX6_succeeds_195 (by decide) ?_
          refine P_cVs (rest := []) (As := [.int (nI (103)), .int (nI (a)), .int (nI (0))]) dX6_succeeds_196 lX6_87 yk_X0_carryOut yv_X0_carryOut kX0 rfl (by decide) hT.k3.o rfl rfl (Nat.le_of_ble_eq_true rfl) rfl (c_car_g (by omega) hT.k3 hC hN (by omega) hI) (fun v196 hp196 => ?_)
          refine P_bif_ne (tgt := 222) dX6_succeeds_199 (by decide) (fun c199 => ?_) (fun c199 => ?_)
          · refine P_iconst (v := nI 1) dX6_succeeds_222 (by decide) ?_
            refine P_goto (tgt := 227) dX6_succeeds_223 (by decide) ?_
            refine P_zret dX6_succeeds_227 rfl (by decide) ?_
            exact car_e (by unfold kcm; rw [if_neg (by omega), if_neg (by omega), if_neg (by omega), if_pos c28, if_pos (by omega), if_pos (by omega)]) (car_x c199 hp196)
          · refine P_iload dX6_succeeds_202 rfl ?_
            refine P_iconst (v := nI 1) dX6_succeeds_204 (by decide) ?_
            refine P_icmp_neN (tgt := 226) dX6_succeeds_205 (by decide) (by omega) (by omega) (fun c205 => ?_) (fun c205 => ?_)
            · refine P_iconst (v := nI 0) dX6_succeeds_226 (by decide) ?_
              refine P_zret dX6_succeeds_227 rfl (by decide) ?_
              exact car_e (by unfold kcm; rw [if_neg (by omega), if_neg (by omega), if_neg (by omega), if_pos c28, if_pos (by omega), if_pos (by omega)]) (car_y c199 hp196)
            · exact absurd c205 (by omega)
    · replace c28 : h = 5 := by omega
      refine P_tswIn (off := 200) (tgt := 228) dX6_succeeds_28 (by rw [vsw_int c28 (by decide)]; decide) (by rw [vsw_int c28 (by decide)]; decide) (by rw [vsw_int c28 (by decide)]; rfl) (by decide) ?_
      refine P_iload_n dX6_succeeds_228 rfl rfl ?_
      refine P_if_neN (tgt := 255) dX6_succeeds_229 (by decide) (by omega) (fun c229 => ?_) (fun c229 => ?_)
      · refine P_iconst (v := nI 0) dX6_succeeds_255 (by decide) ?_
        refine P_zret dX6_succeeds_256 rfl (by decide) ?_
        exact car_f (by unfold kcm; rw [if_neg (by omega), if_neg (by omega), if_neg (by omega), if_neg (by omega), if_pos c28, if_neg (by omega)]) hC hO
      · refine P_iload_n dX6_succeeds_232 rfl rfl ?_
        refine P_if_neN (tgt := 255) dX6_succeeds_233 (by decide) (by omega) (fun c233 => ?_) (fun c233 => ?_)
        · refine P_iconst (v := nI 0) dX6_succeeds_255 (by decide) ?_
          refine P_zret dX6_succeeds_256 rfl (by decide) ?_
          exact car_f (by unfold kcm; rw [if_neg (by omega), if_neg (by omega), if_neg (by omega), if_neg (by omega), if_pos c28, if_neg (by omega)]) hC hO
        · refine P_aload_n dX6_succeeds_236 rfl rfl ?_
          refine P_getr (t := b + 171) dX6_succeeds_237 kX6 fX6_26 rfl (by decide) hT.o hT.r3 hT.k3.o.1.2 ?_
          refine P_bipush (v := nI 116) dX6_succeeds_240 (by decide) ?_
          refine P_iload dX6_succeeds_242 rfl ?_
          refine P_iconst (v := nI 0) dX6_succeeds_244 (by decide) ?_
          refine P_cVs (rest := []) (As := [.int (nI (116)), .int (nI (r)), .int (nI (0))]) dX6_succeeds_245 lX6_87 yk_X0_carryOut yv_X0_carryOut kX0 rfl (by decide) hT.k3.o rfl rfl (Nat.le_of_ble_eq_true rfl) rfl (c_car_t (by omega) hT.k3 hC hN (by omega) hI) (fun v245 hp245 => ?_)
          refine P_bif_eq (tgt := 255) dX6_succeeds_248 (by decide) (fun c248 => ?_) (fun c248 => ?_)
          · refine P_iconst (v := nI 0) dX6_succeeds_255 (by decide) ?_
            refine P_zret dX6_succeeds_256 rfl (by decide) ?_
            exact car_e (by unfold kcm; rw [if_neg (by omega), if_neg (by omega), if_neg (by omega), if_neg (by omega), if_pos c28, if_pos ⟨by omega, by omega⟩]) (car_y c248 hp245)
          · refine P_iconst (v := nI 1) dX6_succeeds_251 (by decide) ?_
            refine P_goto (tgt := 256) dX6_succeeds_252 (by decide) ?_
            refine P_zret dX6_succeeds_256 rfl (by decide) ?_
            exact car_e (by unfold kcm; rw [if_neg (by omega), if_neg (by omega), if_neg (by omega), if_neg (by omega), if_pos c28, if_pos ⟨by omega, by omega⟩]) (car_x c248 hp245)
    · replace c28 : h = 6 := by omega
      refine P_tswIn (off := 229) (tgt := 257) dX6_succeeds_28 (by rw [vsw_int c28 (by decide)]; decide) (by rw [vsw_int c28 (by decide)]; decide) (by rw [vsw_int c28 (by decide)]; rfl) (by decide) ?_
      refine P_iload_n dX6_succeeds_257 rfl rfl ?_
      refine P_if_neN (tgt := 293) dX6_succeeds_258 (by decide) (by omega) (fun c258 => ?_) (fun c258 => ?_)
      · refine P_iconst (v := nI 0) dX6_succeeds_293 (by decide) ?_
        refine P_zret dX6_succeeds_294 rfl (by decide) ?_
        exact car_f (by unfold kcm; rw [if_neg (by omega), if_neg (by omega), if_neg (by omega), if_neg (by omega), if_neg (by omega), if_pos c28]; exact congrArg (fun z => (z, (c, S))) (decide_eq_false (fun q => absurd q.1 (by omega)))) hC hO
      · refine P_aload_n dX6_succeeds_261 rfl rfl ?_
        refine P_getr (t := b + 171) dX6_succeeds_262 kX6 fX6_26 rfl (by decide) hT.o hT.r3 hT.k3.o.1.2 ?_
        refine P_iload_n dX6_succeeds_265 rfl rfl ?_
        refine P_cVp (rest := []) (As := [.int (nI (a))]) dX6_succeeds_266 lX6_329 yk_X0_hasMember yv_X0_hasMember kX0 rfl (by decide) hT.k3.o rfl rfl (Nat.le_of_ble_eq_true rfl) rfl (c_X0_hasMember hT.k3 hC) ?_
        refine P_top (y := vb (decide (a < c))) (by rw [mb_n (by omega)]) ?_
        refine P_bif_eq (tgt := 293) dX6_succeeds_269 (by decide) (fun c269 => ?_) (fun c269 => ?_)
        · refine P_iconst (v := nI 0) dX6_succeeds_293 (by decide) ?_
          refine P_zret dX6_succeeds_294 rfl (by decide) ?_
          exact car_f (by unfold kcm; rw [if_neg (by omega), if_neg (by omega), if_neg (by omega), if_neg (by omega), if_neg (by omega), if_pos c28]; exact congrArg (fun z => (z, (c, S))) (decide_eq_false (fun q => absurd q.2.1 (of_decide_eq_false c269)))) hC hO
        · have z1 := of_decide_eq_true c269
          refine P_aload_n dX6_succeeds_272 rfl rfl ?_
          refine P_getr (t := b + 171) dX6_succeeds_273 kX6 fX6_26 rfl (by decide) hT.o hT.r3 hT.k3.o.1.2 ?_
          refine P_getr (t := b + 171 + 1) dX6_succeeds_276 kX0 fX6_128 rfl (by decide) hT.k3.o hT.k3.r0 hT.k3.k1.1.2 ?_
          refine P_iload_n dX6_succeeds_279 rfl rfl ?_
          refine P_aaldM (t := b + 171 + 6 + 13 * a) (a) dX6_succeeds_280 hT.k3.k1 rfl (by omega) (by decide) (hT.k3.e (by omega)) (hT.k3.m (by omega)).o.1.2 ?_
          refine P_getiN (x := nI (gM S a 2)) dX6_succeeds_281 kX2 fX6_140 rfl (by decide) (hT.k3.m (by omega)).o ((hC.m (by omega)).w (by decide)) ?_
          refine P_iload dX6_succeeds_284 rfl ?_
          refine P_icmp_ltN (tgt := 293) dX6_succeeds_286 (by decide) (by have := hN.m2 a; omega) (by omega) (fun c286 => ?_) (fun c286 => ?_)
          · refine P_iconst (v := nI 0) dX6_succeeds_293 (by decide) ?_
            refine P_zret dX6_succeeds_294 rfl (by decide) ?_
            exact car_f (by unfold kcm; rw [if_neg (by omega), if_neg (by omega), if_neg (by omega), if_neg (by omega), if_neg (by omega), if_pos c28]; exact congrArg (fun z => (z, (c, S))) (decide_eq_false (fun q => absurd (show r ≤ gM S a 2 from q.2.2) (by omega)))) hC hO
          · refine P_iconst (v := nI 1) dX6_succeeds_289 (by decide) ?_
            refine P_goto (tgt := 294) dX6_succeeds_290 (by decide) ?_
            refine P_zret dX6_succeeds_294 rfl (by decide) ?_
            exact car_t (by unfold kcm; rw [if_neg (by omega), if_neg (by omega), if_neg (by omega), if_neg (by omega), if_neg (by omega), if_pos c28]; exact congrArg (fun z => (z, (c, S))) (decide_eq_true (by exact ⟨by omega, z1, show r ≤ gM S a 2 by omega⟩))) hC hO
    · replace c28 : h = 7 := by omega
      refine P_tswIn (off := 267) (tgt := 295) dX6_succeeds_28 (by rw [vsw_int c28 (by decide)]; decide) (by rw [vsw_int c28 (by decide)]; decide) (by rw [vsw_int c28 (by decide)]; rfl) (by decide) ?_
      refine P_iload_n dX6_succeeds_295 rfl rfl ?_
      refine P_if_neN (tgt := 331) dX6_succeeds_296 (by decide) (by omega) (fun c296 => ?_) (fun c296 => ?_)
      · refine P_iconst (v := nI 0) dX6_succeeds_331 (by decide) ?_
        refine P_zret dX6_succeeds_332 rfl (by decide) ?_
        exact car_f (by unfold kcm; rw [if_neg (by omega), if_neg (by omega), if_neg (by omega), if_neg (by omega), if_neg (by omega), if_neg (by omega), if_pos c28]; exact congrArg (fun z => (z, (c, S))) (decide_eq_false (fun q => absurd q.1 (by omega)))) hC hO
      · refine P_aload_n dX6_succeeds_299 rfl rfl ?_
        refine P_getr (t := b + 171) dX6_succeeds_300 kX6 fX6_26 rfl (by decide) hT.o hT.r3 hT.k3.o.1.2 ?_
        refine P_iload_n dX6_succeeds_303 rfl rfl ?_
        refine P_cVp (rest := []) (As := [.int (nI (a))]) dX6_succeeds_304 lX6_329 yk_X0_hasMember yv_X0_hasMember kX0 rfl (by decide) hT.k3.o rfl rfl (Nat.le_of_ble_eq_true rfl) rfl (c_X0_hasMember hT.k3 hC) ?_
        refine P_top (y := vb (decide (a < c))) (by rw [mb_n (by omega)]) ?_
        refine P_bif_eq (tgt := 331) dX6_succeeds_307 (by decide) (fun c307 => ?_) (fun c307 => ?_)
        · refine P_iconst (v := nI 0) dX6_succeeds_331 (by decide) ?_
          refine P_zret dX6_succeeds_332 rfl (by decide) ?_
          exact car_f (by unfold kcm; rw [if_neg (by omega), if_neg (by omega), if_neg (by omega), if_neg (by omega), if_neg (by omega), if_neg (by omega), if_pos c28]; exact congrArg (fun z => (z, (c, S))) (decide_eq_false (fun q => absurd q.2.1 (of_decide_eq_false c307)))) hC hO
        · have z1 := of_decide_eq_true c307
          refine P_aload_n dX6_succeeds_310 rfl rfl ?_
          refine P_getr (t := b + 171) dX6_succeeds_311 kX6 fX6_26 rfl (by decide) hT.o hT.r3 hT.k3.o.1.2 ?_
          refine P_getr (t := b + 171 + 1) dX6_succeeds_314 kX0 fX6_128 rfl (by decide) hT.k3.o hT.k3.r0 hT.k3.k1.1.2 ?_
          refine P_iload_n dX6_succeeds_317 rfl rfl ?_
          refine P_aaldM (t := b + 171 + 6 + 13 * a) (a) dX6_succeeds_318 hT.k3.k1 rfl (by omega) (by decide) (hT.k3.e (by omega)) (hT.k3.m (by omega)).o.1.2 ?_
          refine P_getiN (x := nI (gM S a 1)) dX6_succeeds_319 kX2 fX6_137 rfl (by decide) (hT.k3.m (by omega)).o ((hC.m (by omega)).w (by decide)) ?_
          refine P_iload dX6_succeeds_322 rfl ?_
          refine P_icmp_neN (tgt := 331) dX6_succeeds_324 (by decide) (by have := hN.m1 a; omega) (by omega) (fun c324 => ?_) (fun c324 => ?_)
          · refine P_iconst (v := nI 0) dX6_succeeds_331 (by decide) ?_
            refine P_zret dX6_succeeds_332 rfl (by decide) ?_
            exact car_f (by unfold kcm; rw [if_neg (by omega), if_neg (by omega), if_neg (by omega), if_neg (by omega), if_neg (by omega), if_neg (by omega), if_pos c28]; exact congrArg (fun z => (z, (c, S))) (decide_eq_false (fun q => absurd (show gM S a 1 = r from q.2.2) (by omega)))) hC hO
          · refine P_iconst (v := nI 1) dX6_succeeds_327 (by decide) ?_
            refine P_goto (tgt := 332) dX6_succeeds_328 (by decide) ?_
            refine P_zret dX6_succeeds_332 rfl (by decide) ?_
            exact car_t (by unfold kcm; rw [if_neg (by omega), if_neg (by omega), if_neg (by omega), if_neg (by omega), if_neg (by omega), if_neg (by omega), if_pos c28]; exact congrArg (fun z => (z, (c, S))) (decide_eq_true (by exact ⟨by omega, z1, show gM S a 1 = r by omega⟩))) hC hO
    · replace c28 : h = 8 := by omega
      refine P_tswIn (off := 305) (tgt := 333) dX6_succeeds_28 (by rw [vsw_int c28 (by decide)]; decide) (by rw [vsw_int c28 (by decide)]; decide) (by rw [vsw_int c28 (by decide)]; rfl) (by decide) ?_
      refine P_iload_n dX6_succeeds_333 rfl rfl ?_
      refine P_if_neN (tgt := 372) dX6_succeeds_334 (by decide) (by omega) (fun c334 => ?_) (fun c334 => ?_)
      · refine P_iconst (v := nI 0) dX6_succeeds_372 (by decide) ?_
        refine P_zret dX6_succeeds_373 rfl (by decide) ?_
        exact car_f (by unfold kcm; rw [if_neg (by omega), if_neg (by omega), if_neg (by omega), if_neg (by omega), if_neg (by omega), if_neg (by omega), if_neg (by omega), if_pos c28]; exact congrArg (fun z => (z, (c, S))) (decide_eq_false (fun q => absurd q.1 (by omega)))) hC hO
      · refine P_aload_n dX6_succeeds_337 rfl rfl ?_
        refine P_getr (t := b + 171) dX6_succeeds_338 kX6 fX6_26 rfl (by decide) hT.o hT.r3 hT.k3.o.1.2 ?_
        refine P_iload_n dX6_succeeds_341 rfl rfl ?_
        refine P_cVp (rest := []) (As := [.int (nI (a))]) dX6_succeeds_342 lX6_329 yk_X0_hasMember yv_X0_hasMember kX0 rfl (by decide) hT.k3.o rfl rfl (Nat.le_of_ble_eq_true rfl) rfl (c_X0_hasMember hT.k3 hC) ?_
        refine P_top (y := vb (decide (a < c))) (by rw [mb_n (by omega)]) ?_
        refine P_bif_eq (tgt := 372) dX6_succeeds_345 (by decide) (fun c345 => ?_) (fun c345 => ?_)
        · refine P_iconst (v := nI 0) dX6_succeeds_372 (by decide) ?_
          refine P_zret dX6_succeeds_373 rfl (by decide) ?_
          exact car_f (by unfold kcm; rw [if_neg (by omega), if_neg (by omega), if_neg (by omega), if_neg (by omega), if_neg (by omega), if_neg (by omega), if_neg (by omega), if_pos c28]; exact congrArg (fun z => (z, (c, S))) (decide_eq_false (fun q => absurd q.2.1 (of_decide_eq_false c345)))) hC hO
        · have z1 := of_decide_eq_true c345
          refine P_aload_n dX6_succeeds_348 rfl rfl ?_
          refine P_getr (t := b + 171) dX6_succeeds_349 kX6 fX6_26 rfl (by decide) hT.o hT.r3 hT.k3.o.1.2 ?_
          refine P_getr (t := b + 171 + 1) dX6_succeeds_352 kX0 fX6_128 rfl (by decide) hT.k3.o hT.k3.r0 hT.k3.k1.1.2 ?_
          refine P_iload_n dX6_succeeds_355 rfl rfl ?_
          refine P_aaldM (t := b + 171 + 6 + 13 * a) (a) dX6_succeeds_356 hT.k3.k1 rfl (by omega) (by decide) (hT.k3.e (by omega)) (hT.k3.m (by omega)).o.1.2 ?_
          refine P_getiN (x := nI (gM S a 5)) dX6_succeeds_357 kX2 fX6_149 rfl (by decide) (hT.k3.m (by omega)).o ((hC.m (by omega)).w (by decide)) ?_
          refine P_cSp (rest := []) (As := [.int (nI (gM S a 5))]) dX6_succeeds_360 lX6_291 yk_J6_bitCount_0f7a4 ys_J6_bitCount_0f7a4 (by decide) rfl rfl (Nat.le_of_ble_eq_true rfl) rfl (c_bitCount (hN.m5 a)) ?_
          refine P_iload dX6_succeeds_363 rfl ?_
          refine P_icmp_ltN (tgt := 372) dX6_succeeds_365 (by decide) (by have := mbits_le (s := gM S a 5) 24; omega) (by have := mbits_le (s := gM S a 5) 24; omega) (fun c365 => ?_) (fun c365 => ?_)
          · refine P_iconst (v := nI 0) dX6_succeeds_372 (by decide) ?_
            refine P_zret dX6_succeeds_373 rfl (by decide) ?_
            exact car_f (by unfold kcm; rw [if_neg (by omega), if_neg (by omega), if_neg (by omega), if_neg (by omega), if_neg (by omega), if_neg (by omega), if_neg (by omega), if_pos c28]; exact congrArg (fun z => (z, (c, S))) (decide_eq_false (fun q => absurd (show r ≤ mbits (gM S a 5) 24 from q.2.2) (by omega)))) hC hO
          · refine P_iconst (v := nI 1) dX6_succeeds_368 (by decide) ?_
            refine P_goto (tgt := 373) dX6_succeeds_369 (by decide) ?_
            refine P_zret dX6_succeeds_373 rfl (by decide) ?_
            exact car_t (by unfold kcm; rw [if_neg (by omega), if_neg (by omega), if_neg (by omega), if_neg (by omega), if_neg (by omega), if_neg (by omega), if_neg (by omega), if_pos c28]; exact congrArg (fun z => (z, (c, S))) (decide_eq_true (by exact ⟨by omega, z1, show r ≤ mbits (gM S a 5) 24 by omega⟩))) hC hO
    · replace c28 : h = 9 := by omega
      refine P_tswIn (off := 346) (tgt := 374) dX6_succeeds_28 (by rw [vsw_int c28 (by decide)]; decide) (by rw [vsw_int c28 (by decide)]; decide) (by rw [vsw_int c28 (by decide)]; rfl) (by decide) ?_
      refine P_iload dX6_succeeds_374 rfl ?_
      refine P_bipush (v := nI 10) dX6_succeeds_376 (by decide) ?_
      refine P_icmp_geN (tgt := 422) dX6_succeeds_378 (by decide) (by omega) (by omega) (fun c378 => ?_) (fun c378 => ?_)
      · refine P_iconst (v := nI 0) dX6_succeeds_422 (by decide) ?_
        refine P_zret dX6_succeeds_423 rfl (by decide) ?_
        exact car_f (by unfold kcm; rw [if_neg (by omega), if_neg (by omega), if_neg (by omega), if_neg (by omega), if_neg (by omega), if_neg (by omega), if_neg (by omega), if_neg (by omega), if_pos c28]; exact congrArg (fun z => (z, (c, S))) (decide_eq_false (fun q => absurd q.1 (by omega)))) hC hO
      · refine P_aload_n dX6_succeeds_381 rfl rfl ?_
        refine P_getr (t := b + 171) dX6_succeeds_382 kX6 fX6_26 rfl (by decide) hT.o hT.r3 hT.k3.o.1.2 ?_
        refine P_iload_n dX6_succeeds_385 rfl rfl ?_
        refine P_cVp (rest := []) (As := [.int (nI (a))]) dX6_succeeds_386 lX6_329 yk_X0_hasMember yv_X0_hasMember kX0 rfl (by decide) hT.k3.o rfl rfl (Nat.le_of_ble_eq_true rfl) rfl (c_X0_hasMember hT.k3 hC) ?_
        refine P_top (y := vb (decide (a < c))) (by rw [mb_n (by omega)]) ?_
        refine P_bif_eq (tgt := 422) dX6_succeeds_389 (by decide) (fun c389 => ?_) (fun c389 => ?_)
        · refine P_iconst (v := nI 0) dX6_succeeds_422 (by decide) ?_
          refine P_zret dX6_succeeds_423 rfl (by decide) ?_
          exact car_f (by unfold kcm; rw [if_neg (by omega), if_neg (by omega), if_neg (by omega), if_neg (by omega), if_neg (by omega), if_neg (by omega), if_neg (by omega), if_neg (by omega), if_pos c28]; exact congrArg (fun z => (z, (c, S))) (decide_eq_false (fun q => absurd q.2.1 (of_decide_eq_false c389)))) hC hO
        · refine P_aload_n dX6_succeeds_392 rfl rfl ?_
          refine P_getr (t := b + 171) dX6_succeeds_393 kX6 fX6_26 rfl (by decide) hT.o hT.r3 hT.k3.o.1.2 ?_
          refine P_iload_n dX6_succeeds_396 rfl rfl ?_
          refine P_cVp (rest := []) (As := [.int (nI (d))]) dX6_succeeds_397 lX6_329 yk_X0_hasMember yv_X0_hasMember kX0 rfl (by decide) hT.k3.o rfl rfl (Nat.le_of_ble_eq_true rfl) rfl (c_X0_hasMember hT.k3 hC) ?_
          refine P_top (y := vb (decide (d < c))) (by rw [mb_n (by omega)]) ?_
          refine P_bif_eq (tgt := 422) dX6_succeeds_400 (by decide) (fun c400 => ?_) (fun c400 => ?_)
          · refine P_iconst (v := nI 0) dX6_succeeds_422 (by decide) ?_
            refine P_zret dX6_succeeds_423 rfl (by decide) ?_
            exact car_f (by unfold kcm; rw [if_neg (by omega), if_neg (by omega), if_neg (by omega), if_neg (by omega), if_neg (by omega), if_neg (by omega), if_neg (by omega), if_neg (by omega), if_pos c28]; exact congrArg (fun z => (z, (c, S))) (decide_eq_false (fun q => absurd q.2.2.1 (of_decide_eq_false c400)))) hC hO
          · have z1 := of_decide_eq_true c389
            have z2 := of_decide_eq_true c400
            refine P_aload_n dX6_succeeds_403 rfl rfl ?_
            refine P_getr (t := b + 171) dX6_succeeds_404 kX6 fX6_26 rfl (by decide) hT.o hT.r3 hT.k3.o.1.2 ?_
            refine P_iload_n dX6_succeeds_407 rfl rfl ?_
            refine P_iload_n dX6_succeeds_408 rfl rfl ?_
            refine P_iconst (v := nI 1) dX6_succeeds_409 (by decide) ?_
            refine P_top (y := vb true) (vb_t rfl) ?_
            refine P_cVp (rest := []) (As := [.int (nI (a)), .int (nI (d)), .int (vb (true))]) dX6_succeeds_410 lX6_282 yk_X0_sharedSessions yv_X0_sharedSessions kX0 rfl (by decide) hT.k3.o rfl rfl (Nat.le_of_ble_eq_true rfl) rfl (c_X0_sharedSessions (un := true) (w := 1) rfl hT.k3 hC hN (by omega) (by omega) (by omega)) ?_
            refine P_iload dX6_succeeds_413 rfl ?_
            refine P_icmp_gtN (tgt := 422) dX6_succeeds_415 (by decide) (by have := mcmpK_le (S := S) (a := a) (d := d) (w := 1) (gH S a).length; have h5a := hN.b.2.1 a; have h5d := hN.b.2.1 d; have : (gH S a).length * (gH S d).length ≤ 5 * 5 := Nat.mul_le_mul h5a h5d; first | omega | (unfold mcmp; omega)) (by have := mcmpK_le (S := S) (a := a) (d := d) (w := 1) (gH S a).length; have h5a := hN.b.2.1 a; have h5d := hN.b.2.1 d; have : (gH S a).length * (gH S d).length ≤ 5 * 5 := Nat.mul_le_mul h5a h5d; first | omega | (unfold mcmp; omega)) (fun c415 => ?_) (fun c415 => ?_)
            · refine P_iconst (v := nI 0) dX6_succeeds_422 (by decide) ?_
              refine P_zret dX6_succeeds_423 rfl (by decide) ?_
              exact car_f (by unfold kcm; rw [if_neg (by omega), if_neg (by omega), if_neg (by omega), if_neg (by omega), if_neg (by omega), if_neg (by omega), if_neg (by omega), if_neg (by omega), if_pos c28]; exact congrArg (fun z => (z, (c, S))) (decide_eq_false (fun q => absurd (show mcmp S a d 1 ≤ r from q.2.2.2) (by omega)))) hC hO
            · refine P_iconst (v := nI 1) dX6_succeeds_418 (by decide) ?_
              refine P_goto (tgt := 423) dX6_succeeds_419 (by decide) ?_
              refine P_zret dX6_succeeds_423 rfl (by decide) ?_
              exact car_t (by unfold kcm; rw [if_neg (by omega), if_neg (by omega), if_neg (by omega), if_neg (by omega), if_neg (by omega), if_neg (by omega), if_neg (by omega), if_neg (by omega), if_pos c28]; exact congrArg (fun z => (z, (c, S))) (decide_eq_true (by exact ⟨by omega, z1, z2, show mcmp S a d 1 ≤ r by omega⟩))) hC hO
set_option maxHeartbeats 4000000 in
set_option maxRecDepth 100000 in
theorem c_X6_takeTurn {σ : vS} {v : vV} {c b r : Nat} {S : mS} (hT : kLT σ b) (hC : CR c v (b + 171) S) {B : Nat} (hN : NB c S B) (hB : B + 100000 < 1000000000) (hI : Iv c 1 S) (hr9 : r < 2147483648) : vC M_X6_takeTurn yX6_takeTurn [.ref (b), .int (nI (r))] (σ, v) (qS σ none (fun v9 => CR (mturn r (c, S)).1 v9 (b + 171) (mturn r (c, S)).2 ∧ vOw v v9 (b + 171) 84)) := by
  have hc6 := hC.c6
  refine vC_of (ls := [some (.ref (b)), some (.int (nI (r))), none, none]) pn_X6 rfl rfl (Nat.le_of_ble_eq_true rfl) rfl ?_
  refine P_iload_n dX6_takeTurn_0 rfl rfl ?_
  refine P_bipush (v := nI 16) dX6_takeTurn_1 (by decide) ?_
  refine P_idivN dX6_takeTurn_3 (by omega) (by decide) (by decide) ?_
  refine P_istore_n (ls2 := [some (.ref (b)), some (.int (nI (r))), some (.int (nI (r / 16))), none]) dX6_takeTurn_4 rfl (by decide) rfl ?_
  refine P_iload_n dX6_takeTurn_5 rfl rfl ?_
  refine P_bipush (v := nI 6) dX6_takeTurn_6 (by decide) ?_
  refine P_iremN dX6_takeTurn_8 (by omega) (by decide) (by decide) ?_
  refine P_istore_n (ls2 := [some (.ref (b)), some (.int (nI (r))), some (.int (nI (r / 16))), some (.int (nI ((r / 16) % 6)))]) dX6_takeTurn_9 rfl (by decide) rfl ?_
  refine P_iload_n dX6_takeTurn_10 rfl rfl ?_
  refine P_bipush (v := nI 16) dX6_takeTurn_11 (by decide) ?_
  refine P_iremN dX6_takeTurn_13 (by omega) (by decide) (by decide) ?_
  have hm9 : r / 16 % 6 < 6 := by omega
  rcases vsw (r % 16) 0 10 (by omega) (by decide) with c14 | ⟨c14_j, c14_b, c14⟩
  · refine P_tswOut (tgt := 219) dX6_takeTurn_14 (vsw_out (by omega) c14) (by decide) ?_
    refine P_aload_n dX6_takeTurn_219 rfl rfl ?_
    refine P_getr (t := b + 171) dX6_takeTurn_220 kX6 fX6_26 rfl (by decide) hT.o hT.r3 hT.k3.o.1.2 ?_
    refine P_bipush (v := nI 116) dX6_takeTurn_223 (by decide) ?_
    refine P_iconst (v := nI 1) dX6_takeTurn_225 (by decide) ?_
    refine P_iload_n dX6_takeTurn_226 rfl rfl ?_
    refine P_bipush (v := nI 8) dX6_takeTurn_227 (by decide) ?_
    refine P_iremN dX6_takeTurn_229 (by omega) (by decide) (by decide) ?_
    refine P_iaddN dX6_takeTurn_230 ?_
    refine P_iconst (v := nI 0) dX6_takeTurn_231 (by decide) ?_
    refine P_cVs (rest := []) (As := [.int (nI (116)), .int (nI (1 + ((r / 16) % 8))), .int (nI (0))]) dX6_takeTurn_232 lX6_87 yk_X0_carryOut yv_X0_carryOut kX0 rfl (by decide) hT.k3.o rfl rfl (Nat.le_of_ble_eq_true rfl) rfl (c_car_t (by omega) hT.k3 hC hN (by omega) hI) (fun v9 hp9 => ?_)
    refine P_pop dX6_takeTurn_235 rfl ?_
    refine P_vret dX6_takeTurn_236 rfl ?_
    refine q_s rfl ?_
    have e9 : mturn r (c, S) = (kTk (c, S) (1 + ((r / 16) % 8))).2 := by unfold mturn kTk; rw [if_neg (by omega), if_neg (by omega), if_neg (by omega), if_neg (by omega), if_neg (by omega), if_neg (by omega), if_pos ⟨by omega, by omega⟩]
    rw [e9]
    exact hp9
  · rcases (by omega : c14_j = 0 ∨ c14_j = 1 ∨ c14_j = 2 ∨ c14_j = 3 ∨ c14_j = 4 ∨ c14_j = 5 ∨ c14_j = 6 ∨ c14_j = 7 ∨ c14_j = 8 ∨ c14_j = 9 ∨ c14_j = 10) with q14 | q14 | q14 | q14 | q14 | q14 | q14 | q14 | q14 | q14 | q14
    · replace c14 : r % 16 = 0 := by omega
      refine P_tswIn (off := 58) (tgt := 72) dX6_takeTurn_14 (by rw [vsw_int c14 (by decide)]; decide) (by rw [vsw_int c14 (by decide)]; decide) (by rw [vsw_int c14 (by decide)]; rfl) (by decide) ?_
      refine P_aload_n dX6_takeTurn_72 rfl rfl ?_
      refine P_getr (t := b + 171) dX6_takeTurn_73 kX6 fX6_26 rfl (by decide) hT.o hT.r3 hT.k3.o.1.2 ?_
      refine P_bipush (v := nI 109) dX6_takeTurn_76 (by decide) ?_
      refine P_iload_n dX6_takeTurn_78 rfl rfl ?_
      refine P_bipush (v := nI 10) dX6_takeTurn_79 (by decide) ?_
      refine P_iremN dX6_takeTurn_81 (by omega) (by decide) (by decide) ?_
      refine P_iconst (v := nI 0) dX6_takeTurn_82 (by decide) ?_
      refine P_cVs (rest := []) (As := [.int (nI (109)), .int (nI ((r / 16) % 10)), .int (nI (0))]) dX6_takeTurn_83 lX6_87 yk_X0_carryOut yv_X0_carryOut kX0 rfl (by decide) hT.k3.o rfl rfl (Nat.le_of_ble_eq_true rfl) rfl (c_car_m (by omega) hT.k3 hC hN (by omega) hI) (fun v9 hp9 => ?_)
      refine P_pop dX6_takeTurn_86 rfl ?_
      refine P_goto (tgt := 236) dX6_takeTurn_87 (by decide) ?_
      refine P_vret dX6_takeTurn_236 rfl ?_
      refine q_s rfl ?_
      have e9 : mturn r (c, S) = (kAdd (c, S) ((r / 16) % 10)).2 := by unfold mturn; rw [if_pos (by omega)]
      rw [e9]
      exact hp9
    · replace c14 : r % 16 = 1 := by omega
      refine P_tswIn (off := 76) (tgt := 90) dX6_takeTurn_14 (by rw [vsw_int c14 (by decide)]; decide) (by rw [vsw_int c14 (by decide)]; decide) (by rw [vsw_int c14 (by decide)]; rfl) (by decide) ?_
      refine P_aload_n dX6_takeTurn_90 rfl rfl ?_
      refine P_getr (t := b + 171) dX6_takeTurn_91 kX6 fX6_26 rfl (by decide) hT.o hT.r3 hT.k3.o.1.2 ?_
      refine P_bipush (v := nI 115) dX6_takeTurn_94 (by decide) ?_
      refine P_iload_n dX6_takeTurn_96 rfl rfl ?_
      refine P_iconst (v := nI 0) dX6_takeTurn_97 (by decide) ?_
      refine P_cVs (rest := []) (As := [.int (nI (115)), .int (nI ((r / 16) % 6)), .int (nI (0))]) dX6_takeTurn_98 lX6_87 yk_X0_carryOut yv_X0_carryOut kX0 rfl (by decide) hT.k3.o rfl rfl (Nat.le_of_ble_eq_true rfl) rfl (c_car_s (by omega) hT.k3 hC hN (by omega) hI) (fun v9 hp9 => ?_)
      refine P_pop dX6_takeTurn_101 rfl ?_
      refine P_goto (tgt := 236) dX6_takeTurn_102 (by decide) ?_
      refine P_vret dX6_takeTurn_236 rfl ?_
      refine q_s rfl ?_
      have e9 : mturn r (c, S) = (kSay (c, S) ((r / 16) % 6)).2 := by unfold mturn; rw [if_neg (by omega), if_pos (by omega)]
      rw [e9]
      exact hp9
    · replace c14 : r % 16 = 2 := by omega
      refine P_tswIn (off := 76) (tgt := 90) dX6_takeTurn_14 (by rw [vsw_int c14 (by decide)]; decide) (by rw [vsw_int c14 (by decide)]; decide) (by rw [vsw_int c14 (by decide)]; rfl) (by decide) ?_
      refine P_aload_n dX6_takeTurn_90 rfl rfl ?_
      refine P_getr (t := b + 171) dX6_takeTurn_91 kX6 fX6_26 rfl (by decide) hT.o hT.r3 hT.k3.o.1.2 ?_
      refine P_bipush (v := nI 115) dX6_takeTurn_94 (by decide) ?_
      refine P_iload_n dX6_takeTurn_96 rfl rfl ?_
      refine P_iconst (v := nI 0) dX6_takeTurn_97 (by decide) ?_
      refine P_cVs (rest := []) (As := [.int (nI (115)), .int (nI ((r / 16) % 6)), .int (nI (0))]) dX6_takeTurn_98 lX6_87 yk_X0_carryOut yv_X0_carryOut kX0 rfl (by decide) hT.k3.o rfl rfl (Nat.le_of_ble_eq_true rfl) rfl (c_car_s (by omega) hT.k3 hC hN (by omega) hI) (fun v9 hp9 => ?_)
      refine P_pop dX6_takeTurn_101 rfl ?_
      refine P_goto (tgt := 236) dX6_takeTurn_102 (by decide) ?_
      refine P_vret dX6_takeTurn_236 rfl ?_
      refine q_s rfl ?_
      have e9 : mturn r (c, S) = (kSay (c, S) ((r / 16) % 6)).2 := by unfold mturn; rw [if_neg (by omega), if_pos (by omega)]
      rw [e9]
      exact hp9
    · replace c14 : r % 16 = 3 := by omega
      refine P_tswIn (off := 76) (tgt := 90) dX6_takeTurn_14 (by rw [vsw_int c14 (by decide)]; decide) (by rw [vsw_int c14 (by decide)]; decide) (by rw [vsw_int c14 (by decide)]; rfl) (by decide) ?_
      refine P_aload_n dX6_takeTurn_90 rfl rfl ?_
      refine P_getr (t := b + 171) dX6_takeTurn_91 kX6 fX6_26 rfl (by decide) hT.o hT.r3 hT.k3.o.1.2 ?_
      refine P_bipush (v := nI 115) dX6_takeTurn_94 (by decide) ?_
      refine P_iload_n dX6_takeTurn_96 rfl rfl ?_
      refine P_iconst (v := nI 0) dX6_takeTurn_97 (by decide) ?_
      refine P_cVs (rest := []) (As := [.int (nI (115)), .int (nI ((r / 16) % 6)), .int (nI (0))]) dX6_takeTurn_98 lX6_87 yk_X0_carryOut yv_X0_carryOut kX0 rfl (by decide) hT.k3.o rfl rfl (Nat.le_of_ble_eq_true rfl) rfl (c_car_s (by omega) hT.k3 hC hN (by omega) hI) (fun v9 hp9 => ?_)
      refine P_pop dX6_takeTurn_101 rfl ?_
      refine P_goto (tgt := 236) dX6_takeTurn_102 (by decide) ?_
      refine P_vret dX6_takeTurn_236 rfl ?_
      refine q_s rfl ?_
      have e9 : mturn r (c, S) = (kSay (c, S) ((r / 16) % 6)).2 := by unfold mturn; rw [if_neg (by omega), if_pos (by omega)]
      rw [e9]
      exact hp9
    · replace c14 : r % 16 = 4 := by omega
      refine P_tswIn (off := 76) (tgt := 90) dX6_takeTurn_14 (by rw [vsw_int c14 (by decide)]; decide) (by rw [vsw_int c14 (by decide)]; decide) (by rw [vsw_int c14 (by decide)]; rfl) (by decide) ?_
      refine P_aload_n dX6_takeTurn_90 rfl rfl ?_
      refine P_getr (t := b + 171) dX6_takeTurn_91 kX6 fX6_26 rfl (by decide) hT.o hT.r3 hT.k3.o.1.2 ?_
      refine P_bipush (v := nI 115) dX6_takeTurn_94 (by decide) ?_
      refine P_iload_n dX6_takeTurn_96 rfl rfl ?_
      refine P_iconst (v := nI 0) dX6_takeTurn_97 (by decide) ?_
      refine P_cVs (rest := []) (As := [.int (nI (115)), .int (nI ((r / 16) % 6)), .int (nI (0))]) dX6_takeTurn_98 lX6_87 yk_X0_carryOut yv_X0_carryOut kX0 rfl (by decide) hT.k3.o rfl rfl (Nat.le_of_ble_eq_true rfl) rfl (c_car_s (by omega) hT.k3 hC hN (by omega) hI) (fun v9 hp9 => ?_)
      refine P_pop dX6_takeTurn_101 rfl ?_
      refine P_goto (tgt := 236) dX6_takeTurn_102 (by decide) ?_
      refine P_vret dX6_takeTurn_236 rfl ?_
      refine q_s rfl ?_
      have e9 : mturn r (c, S) = (kSay (c, S) ((r / 16) % 6)).2 := by unfold mturn; rw [if_neg (by omega), if_pos (by omega)]
      rw [e9]
      exact hp9
    · replace c14 : r % 16 = 5 := by omega
      refine P_tswIn (off := 76) (tgt := 90) dX6_takeTurn_14 (by rw [vsw_int c14 (by decide)]; decide) (by rw [vsw_int c14 (by decide)]; decide) (by rw [vsw_int c14 (by decide)]; rfl) (by decide) ?_
      refine P_aload_n dX6_takeTurn_90 rfl rfl ?_
      refine P_getr (t := b + 171) dX6_takeTurn_91 kX6 fX6_26 rfl (by decide) hT.o hT.r3 hT.k3.o.1.2 ?_
      refine P_bipush (v := nI 115) dX6_takeTurn_94 (by decide) ?_
      refine P_iload_n dX6_takeTurn_96 rfl rfl ?_
      refine P_iconst (v := nI 0) dX6_takeTurn_97 (by decide) ?_
      refine P_cVs (rest := []) (As := [.int (nI (115)), .int (nI ((r / 16) % 6)), .int (nI (0))]) dX6_takeTurn_98 lX6_87 yk_X0_carryOut yv_X0_carryOut kX0 rfl (by decide) hT.k3.o rfl rfl (Nat.le_of_ble_eq_true rfl) rfl (c_car_s (by omega) hT.k3 hC hN (by omega) hI) (fun v9 hp9 => ?_)
      refine P_pop dX6_takeTurn_101 rfl ?_
      refine P_goto (tgt := 236) dX6_takeTurn_102 (by decide) ?_
      refine P_vret dX6_takeTurn_236 rfl ?_
      refine q_s rfl ?_
      have e9 : mturn r (c, S) = (kSay (c, S) ((r / 16) % 6)).2 := by unfold mturn; rw [if_neg (by omega), if_pos (by omega)]
      rw [e9]
      exact hp9
    · replace c14 : r % 16 = 6 := by omega
      refine P_tswIn (off := 91) (tgt := 105) dX6_takeTurn_14 (by rw [vsw_int c14 (by decide)]; decide) (by rw [vsw_int c14 (by decide)]; decide) (by rw [vsw_int c14 (by decide)]; rfl) (by decide) ?_
      refine P_aload_n dX6_takeTurn_105 rfl rfl ?_
      refine P_getr (t := b + 171) dX6_takeTurn_106 kX6 fX6_26 rfl (by decide) hT.o hT.r3 hT.k3.o.1.2 ?_
      refine P_bipush (v := nI 99) dX6_takeTurn_109 (by decide) ?_
      refine P_iload_n dX6_takeTurn_111 rfl rfl ?_
      refine P_iload_n dX6_takeTurn_112 rfl rfl ?_
      refine P_bipush (v := nI 8) dX6_takeTurn_113 (by decide) ?_
      refine P_idivN dX6_takeTurn_115 (by omega) (by decide) (by decide) ?_
      refine P_bipush (v := nI 64) dX6_takeTurn_116 (by decide) ?_
      refine P_iremN dX6_takeTurn_118 (by omega) (by decide) (by decide) ?_
      refine P_aload_n dX6_takeTurn_119 rfl rfl ?_
      refine P_getr (t := b + 171) dX6_takeTurn_120 kX6 fX6_26 rfl (by decide) hT.o hT.r3 hT.k3.o.1.2 ?_
      refine P_cVp (rest := [.int (nI (((r / 16) / 8) % 64)), .int (nI ((r / 16) % 6)), .int (nI (99)), .ref (b + 171)]) (As := []) dX6_takeTurn_123 lX6_336 yk_X0_everybody yv_X0_everybody kX0 rfl (by decide) hT.k3.o rfl rfl (Nat.le_of_ble_eq_true rfl) rfl (c_X0_everybody hT.k3 hC) ?_
      refine P_iandN dX6_takeTurn_126 ?_
      refine P_iconst (v := nI 1) dX6_takeTurn_127 (by decide) ?_
      refine P_iload_n dX6_takeTurn_128 rfl rfl ?_
      refine P_ishlN dX6_takeTurn_129 (by omega) ?_
      refine P_iorN dX6_takeTurn_130 ?_
      refine P_cVs (rest := []) (As := [.int (nI (99)), .int (nI ((r / 16) % 6)), .int (nI (((((r / 16) / 8) % 64) &&& (1 <<< c - 1)) ||| (1 <<< ((r / 16) % 6))))]) dX6_takeTurn_131 lX6_87 yk_X0_carryOut yv_X0_carryOut kX0 rfl (by decide) hT.k3.o rfl rfl (Nat.le_of_ble_eq_true rfl) rfl (c_car_c (by omega) (Nat.lt_trans (turn_set (by omega) (by omega)) (by decide)) hT.k3 hC hN (by omega) hI) (fun v9 hp9 => ?_)
      refine P_pop dX6_takeTurn_134 rfl ?_
      refine P_goto (tgt := 236) dX6_takeTurn_135 (by decide) ?_
      refine P_vret dX6_takeTurn_236 rfl ?_
      refine q_s rfl ?_
      have e9 : mturn r (c, S) = (kCall (c, S) ((r / 16) % 6) (((((r / 16) / 8) % 64) &&& (1 <<< c - 1)) ||| (1 <<< ((r / 16) % 6)))).2 := by unfold mturn; rw [if_neg (by omega), if_neg (by omega), if_pos (by omega)]
      rw [e9]
      exact hp9
    · replace c14 : r % 16 = 7 := by omega
      refine P_tswIn (off := 91) (tgt := 105) dX6_takeTurn_14 (by rw [vsw_int c14 (by decide)]; decide) (by rw [vsw_int c14 (by decide)]; decide) (by rw [vsw_int c14 (by decide)]; rfl) (by decide) ?_
      refine P_aload_n dX6_takeTurn_105 rfl rfl ?_
      refine P_getr (t := b + 171) dX6_takeTurn_106 kX6 fX6_26 rfl (by decide) hT.o hT.r3 hT.k3.o.1.2 ?_
      refine P_bipush (v := nI 99) dX6_takeTurn_109 (by decide) ?_
      refine P_iload_n dX6_takeTurn_111 rfl rfl ?_
      refine P_iload_n dX6_takeTurn_112 rfl rfl ?_
      refine P_bipush (v := nI 8) dX6_takeTurn_113 (by decide) ?_
      refine P_idivN dX6_takeTurn_115 (by omega) (by decide) (by decide) ?_
      refine P_bipush (v := nI 64) dX6_takeTurn_116 (by decide) ?_
      refine P_iremN dX6_takeTurn_118 (by omega) (by decide) (by decide) ?_
      refine P_aload_n dX6_takeTurn_119 rfl rfl ?_
      refine P_getr (t := b + 171) dX6_takeTurn_120 kX6 fX6_26 rfl (by decide) hT.o hT.r3 hT.k3.o.1.2 ?_
      refine P_cVp (rest := [.int (nI (((r / 16) / 8) % 64)), .int (nI ((r / 16) % 6)), .int (nI (99)), .ref (b + 171)]) (As := []) dX6_takeTurn_123 lX6_336 yk_X0_everybody yv_X0_everybody kX0 rfl (by decide) hT.k3.o rfl rfl (Nat.le_of_ble_eq_true rfl) rfl (c_X0_everybody hT.k3 hC) ?_
      refine P_iandN dX6_takeTurn_126 ?_
      refine P_iconst (v := nI 1) dX6_takeTurn_127 (by decide) ?_
      refine P_iload_n dX6_takeTurn_128 rfl rfl ?_
      refine P_ishlN dX6_takeTurn_129 (by omega) ?_
      refine P_iorN dX6_takeTurn_130 ?_
      refine P_cVs (rest := []) (As := [.int (nI (99)), .int (nI ((r / 16) % 6)), .int (nI (((((r / 16) / 8) % 64) &&& (1 <<< c - 1)) ||| (1 <<< ((r / 16) % 6))))]) dX6_takeTurn_131 lX6_87 yk_X0_carryOut yv_X0_carryOut kX0 rfl (by decide) hT.k3.o rfl rfl (Nat.le_of_ble_eq_true rfl) rfl (c_car_c (by omega) (Nat.lt_trans (turn_set (by omega) (by omega)) (by decide)) hT.k3 hC hN (by omega) hI) (fun v9 hp9 => ?_)
      refine P_pop dX6_takeTurn_134 rfl ?_
      refine P_goto (tgt := 236) dX6_takeTurn_135 (by decide) ?_
      refine P_vret dX6_takeTurn_236 rfl ?_
      refine q_s rfl ?_
      have e9 : mturn r (c, S) = (kCall (c, S) ((r / 16) % 6) (((((r / 16) / 8) % 64) &&& (1 <<< c - 1)) ||| (1 <<< ((r / 16) % 6)))).2 := by unfold mturn; rw [if_neg (by omega), if_neg (by omega), if_pos (by omega)]
      rw [e9]
      exact hp9
    · replace c14 : r % 16 = 8 := by omega
      refine P_tswIn (off := 124) (tgt := 138) dX6_takeTurn_14 (by rw [vsw_int c14 (by decide)]; decide) (by rw [vsw_int c14 (by decide)]; decide) (by rw [vsw_int c14 (by decide)]; rfl) (by decide) ?_
      refine P_aload_n dX6_takeTurn_138 rfl rfl ?_
      refine P_getr (t := b + 171) dX6_takeTurn_139 kX6 fX6_26 rfl (by decide) hT.o hT.r3 hT.k3.o.1.2 ?_
      refine P_iload_n dX6_takeTurn_142 rfl rfl ?_
      refine P_bipush (v := nI 64) dX6_takeTurn_143 (by decide) ?_
      refine P_idivN dX6_takeTurn_145 (by omega) (by decide) (by decide) ?_
      refine P_iconst (v := nI 3) dX6_takeTurn_146 (by decide) ?_
      refine P_iremN dX6_takeTurn_147 (by omega) (by decide) (by decide) ?_
      refine P_if_neN (tgt := 156) dX6_takeTurn_148 (by decide) (by omega) (fun c148 => ?_) (fun c148 => ?_)
      · refine P_iconst (v := nI 0) dX6_takeTurn_156 (by decide) ?_
        refine P_iload_n dX6_takeTurn_157 rfl rfl ?_
        refine P_iload_n dX6_takeTurn_158 rfl rfl ?_
        refine P_bipush (v := nI 6) dX6_takeTurn_159 (by decide) ?_
        refine P_idivN dX6_takeTurn_161 (by omega) (by decide) (by decide) ?_
        refine P_bipush (v := nI 6) dX6_takeTurn_162 (by decide) ?_
        refine P_iremN dX6_takeTurn_164 (by omega) (by decide) (by decide) ?_
        refine P_cVs (rest := []) (As := [.int (nI (0)), .int (nI ((r / 16) % 6)), .int (nI (((r / 16) / 6) % 6))]) dX6_takeTurn_165 lX6_87 yk_X0_carryOut yv_X0_carryOut kX0 rfl (by decide) hT.k3.o rfl rfl (Nat.le_of_ble_eq_true rfl) rfl (c_car_z (by omega) (by omega) hT.k3 hC hN (by omega) hI) (fun v9 hp9 => ?_)
        refine P_pop dX6_takeTurn_168 rfl ?_
        refine P_goto (tgt := 236) dX6_takeTurn_169 (by decide) ?_
        refine P_vret dX6_takeTurn_236 rfl ?_
        refine q_s rfl ?_
        have e9 : mturn r (c, S) = (kCut (c, S) ((r / 16) % 6) (((r / 16) / 6) % 6) false).2 := by unfold mturn; rw [if_neg (by omega), if_neg (by omega), if_neg (by omega), if_pos (by omega), decide_eq_false (by omega)]
        rw [e9]
        exact hp9
      · refine P_bipush (v := nI 120) dX6_takeTurn_151 (by decide) ?_
        refine P_goto (tgt := 157) dX6_takeTurn_153 (by decide) ?_
        refine P_iload_n dX6_takeTurn_157 rfl rfl ?_
        refine P_iload_n dX6_takeTurn_158 rfl rfl ?_
        refine P_bipush (v := nI 6) dX6_takeTurn_159 (by decide) ?_
        refine P_idivN dX6_takeTurn_161 (by omega) (by decide) (by decide) ?_
        refine P_bipush (v := nI 6) dX6_takeTurn_162 (by decide) ?_
        refine P_iremN dX6_takeTurn_164 (by omega) (by decide) (by decide) ?_
        refine P_cVs (rest := []) (As := [.int (nI (120)), .int (nI ((r / 16) % 6)), .int (nI (((r / 16) / 6) % 6))]) dX6_takeTurn_165 lX6_87 yk_X0_carryOut yv_X0_carryOut kX0 rfl (by decide) hT.k3.o rfl rfl (Nat.le_of_ble_eq_true rfl) rfl (c_car_x (by omega) (by omega) hT.k3 hC hN (by omega) hI) (fun v9 hp9 => ?_)
        refine P_pop dX6_takeTurn_168 rfl ?_
        refine P_goto (tgt := 236) dX6_takeTurn_169 (by decide) ?_
        refine P_vret dX6_takeTurn_236 rfl ?_
        refine q_s rfl ?_
        have e9 : mturn r (c, S) = (kCut (c, S) ((r / 16) % 6) (((r / 16) / 6) % 6) true).2 := by unfold mturn; rw [if_neg (by omega), if_neg (by omega), if_neg (by omega), if_pos (by omega), decide_eq_true (by omega)]
        rw [e9]
        exact hp9
    · replace c14 : r % 16 = 9 := by omega
      refine P_tswIn (off := 158) (tgt := 172) dX6_takeTurn_14 (by rw [vsw_int c14 (by decide)]; decide) (by rw [vsw_int c14 (by decide)]; decide) (by rw [vsw_int c14 (by decide)]; rfl) (by decide) ?_
      refine P_aload_n dX6_takeTurn_172 rfl rfl ?_
      refine P_getr (t := b + 171) dX6_takeTurn_173 kX6 fX6_26 rfl (by decide) hT.o hT.r3 hT.k3.o.1.2 ?_
      refine P_iload_n dX6_takeTurn_176 rfl rfl ?_
      refine P_bipush (v := nI 8) dX6_takeTurn_177 (by decide) ?_
      refine P_idivN dX6_takeTurn_179 (by omega) (by decide) (by decide) ?_
      refine P_iconst (v := nI 3) dX6_takeTurn_180 (by decide) ?_
      refine P_iremN dX6_takeTurn_181 (by omega) (by decide) (by decide) ?_
      refine P_if_neN (tgt := 190) dX6_takeTurn_182 (by decide) (by omega) (fun c182 => ?_) (fun c182 => ?_)
      · refine P_bipush (v := nI 98) dX6_takeTurn_190 (by decide) ?_
        refine P_iload_n dX6_takeTurn_192 rfl rfl ?_
        refine P_iconst (v := nI 0) dX6_takeTurn_193 (by decide) ?_
        refine P_cVs (rest := []) (As := [.int (nI (98)), .int (nI ((r / 16) % 6)), .int (nI (0))]) dX6_takeTurn_194 lX6_87 yk_X0_carryOut yv_X0_carryOut kX0 rfl (by decide) hT.k3.o rfl rfl (Nat.le_of_ble_eq_true rfl) rfl (c_car_b (by omega) hT.k3 hC hN (by omega) hI) (fun v9 hp9 => ?_)
        refine P_pop dX6_takeTurn_197 rfl ?_
        refine P_goto (tgt := 236) dX6_takeTurn_198 (by decide) ?_
        refine P_vret dX6_takeTurn_236 rfl ?_
        refine q_s rfl ?_
        have e9 : mturn r (c, S) = (kBack (c, S) ((r / 16) % 6)).2 := by unfold mturn; rw [if_neg (by omega), if_neg (by omega), if_neg (by omega), if_neg (by omega), if_pos (by omega), if_neg (by omega)]
        rw [e9]
        exact hp9
      · refine P_bipush (v := nI 103) dX6_takeTurn_185 (by decide) ?_
        refine P_goto (tgt := 192) dX6_takeTurn_187 (by decide) ?_
        refine P_iload_n dX6_takeTurn_192 rfl rfl ?_
        refine P_iconst (v := nI 0) dX6_takeTurn_193 (by decide) ?_
        refine P_cVs (rest := []) (As := [.int (nI (103)), .int (nI ((r / 16) % 6)), .int (nI (0))]) dX6_takeTurn_194 lX6_87 yk_X0_carryOut yv_X0_carryOut kX0 rfl (by decide) hT.k3.o rfl rfl (Nat.le_of_ble_eq_true rfl) rfl (c_car_g (by omega) hT.k3 hC hN (by omega) hI) (fun v9 hp9 => ?_)
        refine P_pop dX6_takeTurn_197 rfl ?_
        refine P_goto (tgt := 236) dX6_takeTurn_198 (by decide) ?_
        refine P_vret dX6_takeTurn_236 rfl ?_
        refine q_s rfl ?_
        have e9 : mturn r (c, S) = (kLeave (c, S) ((r / 16) % 6)).2 := by unfold mturn; rw [if_neg (by omega), if_neg (by omega), if_neg (by omega), if_neg (by omega), if_pos (by omega), if_pos (by omega)]
        rw [e9]
        exact hp9
    · replace c14 : r % 16 = 10 := by omega
      refine P_tswIn (off := 187) (tgt := 201) dX6_takeTurn_14 (by rw [vsw_int c14 (by decide)]; decide) (by rw [vsw_int c14 (by decide)]; decide) (by rw [vsw_int c14 (by decide)]; rfl) (by decide) ?_
      refine P_aload_n dX6_takeTurn_201 rfl rfl ?_
      refine P_getr (t := b + 171) dX6_takeTurn_202 kX6 fX6_26 rfl (by decide) hT.o hT.r3 hT.k3.o.1.2 ?_
      refine P_bipush (v := nI 112) dX6_takeTurn_205 (by decide) ?_
      refine P_iload_n dX6_takeTurn_207 rfl rfl ?_
      refine P_bipush (v := nI 41) dX6_takeTurn_208 (by decide) ?_
      refine P_iremN dX6_takeTurn_210 (by omega) (by decide) (by decide) ?_
      refine P_iconst (v := nI 0) dX6_takeTurn_211 (by decide) ?_
      refine P_cVs (rest := []) (As := [.int (nI (112)), .int (nI ((r / 16) % 41)), .int (nI (0))]) dX6_takeTurn_212 lX6_87 yk_X0_carryOut yv_X0_carryOut kX0 rfl (by decide) hT.k3.o rfl rfl (Nat.le_of_ble_eq_true rfl) rfl (c_car_p (by omega) hT.k3 hC hN (by omega) hI) (fun v9 hp9 => ?_)
      refine P_pop dX6_takeTurn_215 rfl ?_
      refine P_goto (tgt := 236) dX6_takeTurn_216 (by decide) ?_
      refine P_vret dX6_takeTurn_236 rfl ?_
      refine q_s rfl ?_
      have e9 : mturn r (c, S) = (kSet (c, S) ((r / 16) % 41)).2 := by unfold mturn; rw [if_neg (by omega), if_neg (by omega), if_neg (by omega), if_neg (by omega), if_neg (by omega), if_pos (by omega)]
      rw [e9]
      exact hp9
