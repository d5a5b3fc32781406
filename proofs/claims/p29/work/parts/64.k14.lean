
theorem none_of {α : Type} {o : Option α} (h : o.isSome = false) : o = none := by
  cases o with
  | none => rfl
  | some z => cases h
def mdif (x y : Nat) : Nat := x &&& (y ^^^ 16777215)
theorem m24 (j : Nat) : (16777215 : Nat).testBit j = decide (j < 24) := Nat.testBit_two_pow_sub_one 24 j
theorem m32 (j : Nat) : (4294967295 : Nat).testBit j = decide (j < 32) := Nat.testBit_two_pow_sub_one 32 j
theorem mdif_i {x y : Nat} (hx : x < 16777216) (hy : y < 16777216) : nI x &&& (nI y ^^^ (-1)) = nI (mdif x y) := by
  have e1 : (-1 : Int32).toBitVec.toNat = 4294967295 := by decide
  have hlt : mdif x y < 16777216 := Nat.lt_of_le_of_lt Nat.and_le_left hx
  apply nI_ext
  rw [Int32.toBitVec_and, Int32.toBitVec_xor, BitVec.toNat_and, BitVec.toNat_xor, e1, nI_bv, nI_bv, nI_bv, BitVec.toNat_ofNat, BitVec.toNat_ofNat, BitVec.toNat_ofNat, Nat.mod_eq_of_lt (by omega), Nat.mod_eq_of_lt (by omega), Nat.mod_eq_of_lt (by omega)]
  unfold mdif
  apply Nat.eq_of_testBit_eq
  intro j
  rw [Nat.testBit_and, Nat.testBit_and, Nat.testBit_xor, Nat.testBit_xor, m24, m32]
  by_cases h : j < 24
  · rw [decide_eq_true h, decide_eq_true (show j < 32 by omega)]
  · rw [Nat.testBit_lt_two_pow (Nat.lt_of_lt_of_le hx (Nat.pow_le_pow_right (show 0 < 2 by decide) (show 24 ≤ j by omega))), Bool.false_and, Bool.false_and]
theorem mdif_lt {x y : Nat} (hx : x < 16777216) : mdif x y < 16777216 := Nat.lt_of_le_of_lt Nat.and_le_left hx
def g_lacks : gT → Int32 → gR gT
  | (tn, (c, S), R), m => if mb c m = false then (1, 0, (tn, (c, S), R)) else (0, nI (mbits (mdif (mlck S m.toInt.toNat c) (gM S m.toInt.toNat 5)) 24), (tn, (c, S), R))
/-- of the first n members' groups the greatest, the first of them -/
def mbest (c : Nat) (S : mS) : Nat → Nat
  | 0 => 0
  | k + 1 => if mbits (mbest c S k) 24 < mbits (mgrp S k c) 24 then mgrp S k c else mbest c S k
theorem mbest_lt {c : Nat} {S : mS} (hc : c ≤ 6) : ∀ k, mbest c S k < 64 := by
  intro k
  induction k with
  | zero => show 0 < 64; decide
  | succ k ih =>
    rw [mbest]
    split
    · exact mgrp_lt c hc
    · exact ih
def g_together : gT → gR gT
  | (tn, (c, S), R) => (0, nI (mbest c S c), (tn, (c, S), R))
theorem merr_le {t : mN} {n : Nat} : ∀ (f s k : Nat), merr t n f s = some k → k ≤ n := by
  intro f
  induction f with
  | zero => intro s k h; cases h
  | succ f ih =>
    intro s k h
    rw [merr] at h
    split at h
    · rename_i hs
      have hp := (parse_le (t := t) hs).2.1
      cases e : (mparse t n s).1 with
      | none => rw [e] at h; cases h; exact hp
      | some p => rw [e] at h; exact ih _ _ h
    · cases h
theorem mfe_le {t : mN} {n k : Nat} (h : mfe t n = some k) : k ≤ n := by
  by_cases g : n = 0 ∨ t 0 ≠ 82
  · rw [mfe_0 g] at h; cases h; exact Nat.zero_le n
  · rw [mfe_1 g] at h; exact merr_le _ _ _ h
theorem mO_none {t : mN} {n : Nat} (hn : n ≤ 120) (h : mO (mfe t n) = -1) : mfe t n = none := by
  cases e : mfe t n with
  | none => rfl
  | some k =>
    rw [e] at h
    have := mfe_le e
    exact absurd h (nI_nm1 (by omega))
theorem mgo_bad {t : mN} {n f s k o : Nat} {X : mC} (hs : s < n) (h : mparse t n s = (none, k)) : (mgo t n (f + 1) s X o).1 = some k := by rw [mgo_err]; exact merr_bad hs h
theorem mgo_good {t : mN} {n f s k o a d : Nat} {X : mC} (hs : s < n) (h : mparse t n s = (some (a, d), k)) : mgo t n (f + 1) s X o = mgo t n f k (mexec (t s) a d X).2 (if (mexec (t s) a d X).1 = true then o else o + 1) := by rw [mgo, if_pos hs, h]; rfl
theorem mgo_end {t : mN} {n f s o : Nat} {X : mC} (hs : n ≤ s) : mgo t n f s X o = (none, X, o) := by
  cases f with
  | zero => rfl
  | succ f => rw [mgo, if_neg (by omega)]
theorem sec_y {t : mN} {n s : Nat} (hc : t s = 120) (hg : ∀ i, 1 ≤ i → i ≤ mdgs (t s) → mal t n s i = true) : msg t n (s + 2) - nI 48 = nI (mnum2 t s) := by
  have d2 := mal_d (i := 2) (by decide) (by decide) (hg 2 (by decide) (by rw [mdgs_2 (Or.inl hc)]; decide))
  rw [msg_t d2.1, nI_sub d2.2.1]
  unfold mnum2
  rw [if_neg (by omega), if_pos hc]
theorem KT.unsaved {v v' : vV} {b : Nat} {T : gT} (h : KT v b T) (e : vOw v v' (b + 1602) 1) (h0 : v' (b + 1602) 0 = nI 0 ∧ v' (b + 1602) 1 = nI 0) : KT v' b (T.1, T.2.1, T.2.2.1, fun _ => none) :=
  ⟨h.t.ow e (by omega), h.c.ow e (by omega), h.n.ow e (by omega), h.tr.ow e (by omega), h.d.ow e (by omega), fun i hi => ⟨(h.s hi).1.ow e (by omega), by
    rcases (by omega : i = 0 ∨ i = 1) with rfl | rfl
    · exact h0.1
    · exact h0.2, fun Y hY => nomatch hY⟩⟩
theorem KT.saved {v v' : vV} {b k : Nat} {T : gT} {Y : mC} (h : KT v b T) (hk : k < 2) (e : vOw v v' (b + 1434 + 84 * k) 84) (hC : CR Y.1 v' (b + 1434 + 84 * k) Y.2) : KT (vU v' (b + 1602) k (nI 1)) b (T.1, T.2.1, T.2.2.1, fun i => if i = k then some Y else T.2.2.2 i) := by
  have e2 : vOw v (vU v' (b + 1602) k (nI 1)) (b + 1434) 169 := (e.mono (by omega) (by omega)).u (by omega) (by omega)
  have e3 : ∀ n, n ≠ b + 1602 → vU v' (b + 1602) k (nI 1) n = v' n := fun n hn => vU_ne hn
  refine ⟨h.t.ow e2 (by omega), h.c.ow e2 (by omega), h.n.ow e2 (by omega), h.tr.ow e2 (by omega), h.d.ow e2 (by omega), fun i hi => ?_⟩
  by_cases q : i = k
  · subst q
    refine ⟨fun m hm => by rw [e3 _ (by omega)]; exact (hC.m hm).s, ?_, fun Z hZ => ?_⟩
    · show vU v' (b + 1602) i (nI 1) (b + 1602) i = vb (if i = i then some Y else _).isSome
      rw [vU_s, if_pos rfl]; rfl
    · replace hZ : (if i = i then some Y else T.2.2.2 i) = some Z := hZ
      rw [if_pos rfl] at hZ
      cases hZ
      exact hC.of (fun n g1 g2 g3 => e3 n (by omega))
  · obtain ⟨h1, h2, h3⟩ := h.s hi
    refine ⟨fun m hm => by rw [e3 _ (by omega), e _ (by omega)]; exact h1 m hm, ?_, fun Z hZ => ?_⟩
    · show vU v' (b + 1602) k (nI 1) (b + 1602) i = vb (if i = k then some Y else T.2.2.2 i).isSome
      rw [vU_o (Or.inr q), e _ (by omega), if_neg q]; exact h2
    · replace hZ : (if i = k then some Y else T.2.2.2 i) = some Z := hZ
      rw [if_neg q] at hZ
      exact ((h3 Z hZ).ow e (by omega)).of (fun n g1 g2 g3 => e3 n (by omega))

theorem HR.cnt {v : vV} {h : Nat} {D : List mC} (hH : HR v h D) : v h 2 = nI D.length := by obtain ⟨nx, h1, h2, h3, h4, -⟩ := hH; exact h3
theorem HR.len {v : vV} {h : Nat} {D : List mC} (hH : HR v h D) : D.length ≤ 14 := by obtain ⟨nx, h1, h2, h3, h4, -⟩ := hH; exact h4
set_option maxHeartbeats 4000000 in
set_option maxRecDepth 100000 in
theorem c_X6_lacks {σ : vS} {v : vV} {c b n : Nat} {S : mS} {t : mN} {D : List mC} {sl : Nat → Option mC} {m : Int32} (hT : kLT σ b) (hK : KT v b ((t, n), (c, S), D, sl)) {B : Nat} (hG : GI B ((t, n), (c, S), D, sl)) (hB : B + 6000000 < 1000000000) (hf : σ.2.2.2 = false) : vCX M_X6_lacks yX6_lacks [.ref (b), .int (m)] (σ, v) (qG σ v (fun v9 T => KT v9 b T) (fun v9 => vOw v v9 b 1603) (gNm [xIO]) (g_lacks ((t, n), (c, S), D, sl) m)) := by
  have hC : CR c v (b + 3) S := hK.c
  have hN : NB c S B := hG.1.1
  have hI : Iv c 1 S := hG.1.2
  have hc6 := hC.c6
  have ht : mTC v (b + 1) t n := hK.t
  refine vCX_of (ls := [some (.ref (b)), some (.int (m))]) pn_X6 rfl rfl (Nat.le_of_ble_eq_true rfl) rfl ?_
  refine P_aload_n dX6_lacks_0 rfl rfl ?_
  refine P_iload_n dX6_lacks_1 rfl rfl ?_
  refine P_callVX (rest := []) (As := [.int (m)]) dX6_lacks_2 lX6_125 yk_X6_checkMember yv_X6_checkMember kX6 rfl (by decide) hT.o rfl rfl (Nat.le_of_ble_eq_true rfl) (by decide) (c_X6_checkMember hT hC) (fun o9 μ9 h9 hf9 => by obtain ⟨-, rfl, -⟩ := h9; exact absurd (hf.symm.trans hf9) Bool.false_ne_true) (fun Ex μ9 h9 => ?_) ?_
  · obtain ⟨rfl, rfl, hm1⟩ := h9
    exact g_thr (k := 0) (if_pos hm1) rfl
  rintro o9 μ9 ⟨rfl, rfl, hm1⟩
  obtain ⟨mk, hk2, rfl⟩ := mb_nat hC.c6 hm1
  refine P_aload_n dX6_lacks_5 rfl rfl ?_
  refine P_getr (t := b + 3) dX6_lacks_6 kX6 fX6_19 rfl (by decide) hT.o hT.r1 hT.k1.o.1.2 ?_
  refine P_iload_n dX6_lacks_9 rfl rfl ?_
  refine P_cVp (rest := []) (As := [.int (nI (mk))]) dX6_lacks_10 lX6_288 yk_X0_speechesMissedBy yv_X0_speechesMissedBy kX0 rfl (by decide) hT.k1.o rfl rfl (Nat.le_of_ble_eq_true rfl) rfl (c_X0_speechesMissedBy hT.k1 hC hN (by omega) (by omega) (fun k hk e1 e2 => by obtain ⟨F, hMP, h9⟩ := hI.2; have mo := (hMP mk (by omega)).1; have ko := (hMP k hk).1; rw [mo.2.2.2.1, e1, e2, ← ko.2.2.2.1]; exact ko.2.2.2.2.1)) ?_
  refine P_top (y := nI (mdif (mlck S mk c) (gM S mk 5))) (mdif_i (mlck_lt hN c) (hN.m5 mk)) ?_
  refine P_cSp (rest := []) (As := [.int (nI (mdif (mlck S mk c) (gM S mk 5)))]) dX6_lacks_13 lX6_291 yk_J6_bitCount_0f7a4 ys_J6_bitCount_0f7a4 (by decide) rfl rfl (Nat.le_of_ble_eq_true rfl) rfl (c_bitCount (by exact mdif_lt (mlck_lt hN c))) ?_
  refine P_iret dX6_lacks_16 rfl ?_
  exact g_ret ((if_neg (gt_f hm1)).trans (by rw [nn (by omega)])) hK vOw.rf


set_option maxHeartbeats 4000000 in
set_option maxRecDepth 100000 in
theorem c_X6_together {σ : vS} {v : vV} {c b n : Nat} {S : mS} {t : mN} {D : List mC} {sl : Nat → Option mC} (hT : kLT σ b) (hK : KT v b ((t, n), (c, S), D, sl)) {B : Nat} (hG : GI B ((t, n), (c, S), D, sl)) (hB : B + 6000000 < 1000000000) (hf : σ.2.2.2 = false) : vC M_X6_together yX6_together [.ref (b)] (σ, v) (fun o μ' => ∃ v9, o = some (.int (g_together ((t, n), (c, S), D, sl)).2.1) ∧ μ' = (σ, v9) ∧ KT v9 b (g_together ((t, n), (c, S), D, sl)).2.2 ∧ vOw v v9 b 1603) := by
  have hC : CR c v (b + 3) S := hK.c
  have hN : NB c S B := hG.1.1
  have hI : Iv c 1 S := hG.1.2
  have hc6 := hC.c6
  have ht : mTC v (b + 1) t n := hK.t
  refine vC_of (ls := [some (.ref (b)), none, none, none]) pn_X6 rfl rfl (Nat.le_of_ble_eq_true rfl) rfl ?_
  refine P_iconst (v := nI 0) dX6_together_0 (by decide) ?_
  refine P_istore_n (ls2 := [some (.ref (b)), some (.int (nI (0))), none, none]) dX6_together_1 rfl (by decide) rfl ?_
  refine P_iconst (v := nI 0) dX6_together_2 (by decide) ?_
  refine P_istore_n (ls2 := [some (.ref (b)), some (.int (nI (0))), some (.int (nI (0))), none]) dX6_together_3 rfl (by decide) rfl ?_
  have hL4 : ∀ (n4 : Nat) (k : Nat), (k ≤ c) → (k + n4 = c + 1) → vP M_X6_together 4 [some (.ref (b)), some (.int (nI (mbest c S k))), some (.int (nI (k))), none] [] ((vRm M_X6_together).cells, (vRm M_X6_together).slots) (σ, v) (vN (fun o μ' => ∃ v9, o = some (.int (g_together ((t, n), (c, S), D, sl)).2.1) ∧ μ' = (σ, v9) ∧ KT v9 b (g_together ((t, n), (c, S), D, sl)).2.2 ∧ vOw v v9 b 1603)) := by
    intro n4
    induction n4 with
    | zero =>
      intro k h1 h2
      exact absurd h2 (by omega)
    | succ n4 ih4 =>
      intro k h1 h2
      refine P_iload_n dX6_together_4 rfl rfl ?_
      refine P_aload_n dX6_together_5 rfl rfl ?_
      refine P_getr (t := b + 3) dX6_together_6 kX6 fX6_19 rfl (by decide) hT.o hT.r1 hT.k1.o.1.2 ?_
      refine P_getiN (x := nI (c)) dX6_together_9 kX0 fX6_94 rfl (by decide) hT.k1.o hC.g3 ?_
      refine P_icmp_geN (tgt := 43) dX6_together_12 (by decide) (by omega) (by omega) (fun c12 => ?_) (fun c12 => ?_)
      · refine P_iload_n dX6_together_43 rfl rfl ?_
        refine P_iret dX6_together_44 rfl ?_
        exact ⟨v, by rw [show k = c by omega]; rfl, rfl, hK, vOw.rf⟩
      · refine P_aload_n dX6_together_15 rfl rfl ?_
        refine P_getr (t := b + 3) dX6_together_16 kX6 fX6_19 rfl (by decide) hT.o hT.r1 hT.k1.o.1.2 ?_
        refine P_iload_n dX6_together_19 rfl rfl ?_
        refine P_cVp (rest := []) (As := [.int (nI (k))]) dX6_together_20 lX6_296 yk_X0_groupOf yv_X0_groupOf kX0 rfl (by decide) hT.k1.o rfl rfl (Nat.le_of_ble_eq_true rfl) rfl (c_X0_groupOf hT.k1 hC hN (by omega) (by omega)) ?_
        refine P_istore_n (ls2 := [some (.ref (b)), some (.int (nI (mbest c S k))), some (.int (nI (k))), some (.int (nI (mgrp S k c)))]) dX6_together_23 rfl (by decide) rfl ?_
        refine P_iload_n dX6_together_24 rfl rfl ?_
        refine P_cSp (rest := []) (As := [.int (nI (mgrp S k c))]) dX6_together_25 lX6_291 yk_J6_bitCount_0f7a4 ys_J6_bitCount_0f7a4 (by decide) rfl rfl (Nat.le_of_ble_eq_true rfl) rfl (c_bitCount (Nat.lt_trans (mgrp_lt c hc6) (by decide))) ?_
        refine P_iload_n dX6_together_28 rfl rfl ?_
        refine P_cSp (rest := [.int (nI (mbits (mgrp S k c) 24))]) (As := [.int (nI (mbest c S k))]) dX6_together_29 lX6_291 yk_J6_bitCount_0f7a4 ys_J6_bitCount_0f7a4 (by decide) rfl rfl (Nat.le_of_ble_eq_true rfl) rfl (c_bitCount (Nat.lt_trans (mbest_lt hc6 k) (by decide))) ?_
        refine P_icmp_leN (tgt := 37) dX6_together_32 (by decide) (by first | (have := mbits_le (s := mgrp S k c) 24; omega) | (have := mbits_le (s := mbest c S k) 24; omega)) (by first | (have := mbits_le (s := mgrp S k c) 24; omega) | (have := mbits_le (s := mbest c S k) 24; omega)) (fun c32 => ?_) (fun c32 => ?_)
        · refine P_iinc (v := nI (k + 1)) (ls2 := [some (.ref (b)), some (.int (nI (mbest c S k))), some (.int (nI (k + 1))), some (.int (nI (mgrp S k c)))]) dX6_together_37 rfl (nI_inc _ 1) (by decide) rfl ?_
          refine P_goto (tgt := 4) dX6_together_40 (by decide) ?_
          refine P_weak (ls2 := [some (.ref (b)), some (.int (nI (mbest c S k))), some (.int (nI (k + 1))), none]) ⟨rfl, rfl, rfl, trivial⟩ ?_
          have e9 : mbest c S k = mbest c S (k + 1) := (by rw [mbest, if_neg (by omega)])
          rw [e9]
          exact ih4 (k + 1) (by omega) (by omega)
        · refine P_iload_n dX6_together_35 rfl rfl ?_
          refine P_istore_n (ls2 := [some (.ref (b)), some (.int (nI (mgrp S k c))), some (.int (nI (k))), some (.int (nI (mgrp S k c)))]) dX6_together_36 rfl (by decide) rfl ?_
          refine P_iinc (v := nI (k + 1)) (ls2 := [some (.ref (b)), some (.int (nI (mgrp S k c))), some (.int (nI (k + 1))), some (.int (nI (mgrp S k c)))]) dX6_together_37 rfl (nI_inc _ 1) (by decide) rfl ?_
          refine P_goto (tgt := 4) dX6_together_40 (by decide) ?_
          refine P_weak (ls2 := [some (.ref (b)), some (.int (nI (mgrp S k c))), some (.int (nI (k + 1))), none]) ⟨rfl, rfl, rfl, trivial⟩ ?_
          have e9 : mgrp S k c = mbest c S (k + 1) := (by rw [mbest, if_pos (by omega)])
          rw [e9]
          exact ih4 (k + 1) (by omega) (by omega)
  exact hL4 (c + 1) 0 (by omega) (by omega)
set_option maxHeartbeats 4000000 in
set_option maxRecDepth 100000 in
theorem c_X6_save {σ : vS} {v : vV} {c b n : Nat} {S : mS} {t : mN} {D : List mC} {sl : Nat → Option mC} {s : Int32} (hT : kLT σ b) (hK : KT v b ((t, n), (c, S), D, sl)) {B : Nat} (hG : GI B ((t, n), (c, S), D, sl)) (hB : B + 6000000 < 1000000000) (hf : σ.2.2.2 = false) : vCX M_X6_save yX6_save [.ref (b), .int (s)] (σ, v) (qG σ v (fun v9 T => KT v9 b T) (fun v9 => vOw v v9 b 1603) (gNm [xIO]) (g_save ((t, n), (c, S), D, sl) s)) := by
  have hC : CR c v (b + 3) S := hK.c
  have hN : NB c S B := hG.1.1
  have hI : Iv c 1 S := hG.1.2
  have hc6 := hC.c6
  have ht : mTC v (b + 1) t n := hK.t
  refine vCX_of (ls := [some (.ref (b)), some (.int (s))]) pn_X6 rfl rfl (Nat.le_of_ble_eq_true rfl) rfl ?_
  refine P_iload_n dX6_save_0 rfl rfl ?_
  refine P_callSX (rest := []) (As := [.int (s)]) dX6_save_1 lX6_324 yk_X6_checkSlot ys_X6_checkSlot (by decide) rfl rfl (Nat.le_of_ble_eq_true rfl) (by decide) c_X6_checkSlot (fun o9 μ9 h9 hf9 => by obtain ⟨-, rfl, -⟩ := h9; exact absurd (hf.symm.trans hf9) Bool.false_ne_true) (fun Ex μ9 h9 => ?_) ?_
  · obtain ⟨rfl, rfl, hm1⟩ := h9
    exact g_thr (k := 0) (if_pos hm1) rfl
  rintro o9 μ9 ⟨rfl, rfl, hm1⟩
  obtain ⟨sk, hk2z, hk2, rfl⟩ := gin_n (by decide) hm1
  refine P_aload_n dX6_save_4 rfl rfl ?_
  refine P_getr (t := b + 1433) dX6_save_5 kX6 fX6_36 rfl (by decide) hT.o hT.r5 hT.s.1.2 ?_
  refine P_iload_n dX6_save_8 rfl rfl ?_
  refine P_aaldC (t := b + 1434 + 84 * sk) (sk) dX6_save_9 hT.s rfl (by omega) (by decide) (hT.se (by omega)) (hT.sk (i := sk) (by omega)).o.1.2 ?_
  refine P_aload_n dX6_save_10 rfl rfl ?_
  refine P_getr (t := b + 3) dX6_save_11 kX6 fX6_19 rfl (by decide) hT.o hT.r1 hT.k1.o.1.2 ?_
  refine P_cVs (rest := []) (As := [.ref (b + 3)]) dX6_save_14 lX6_70 yk_X0_copyFrom yv_X0_copyFrom kX0 rfl (by decide) (hT.sk (i := sk) (by omega)).o rfl rfl (Nat.le_of_ble_eq_true rfl) rfl (c_X0_copyFrom (hT.sk (i := sk) (by omega)) hT.k1 (by omega) hC (hK.s (i := sk) (by omega)).1) (fun v1 ⟨hC9, hw9⟩ => ?_)
  have hK9 := hK.saved (Y := (c, S)) (k := sk) (by omega) hw9 hC9
  refine P_aload_n dX6_save_17 rfl rfl ?_
  refine P_getr (t := b + 1602) dX6_save_18 kX6 fX6_40 rfl (by decide) hT.o hT.r6 hT.z.1.2 ?_
  refine P_iload_n dX6_save_21 rfl rfl ?_
  refine P_iconst (v := nI 1) dX6_save_22 (by decide) ?_
  refine P_zast (sk) dX6_save_23 hT.z rfl (by omega) (by decide) rfl ?_
  refine P_aload_n dX6_save_24 rfl rfl ?_
  refine P_getr (t := b + 3) dX6_save_25 kX6 fX6_19 rfl (by decide) hT.o hT.r1 hT.k1.o.1.2 ?_
  refine P_getiN (x := nI (gG S 1)) dX6_save_28 kX0 fX6_95 rfl (by decide) hT.k1.o (by rw [vU_ne (by omega), hw9 _ (by omega)]; exact hC.g4) ?_
  refine P_iret dX6_save_31 rfl ?_
  exact g_ret ((if_neg (gt_f hm1)).trans (by rw [nn (by omega)])) hK9 ((hw9.mono (by omega) (by omega)).u (by omega) (by omega))
set_option maxHeartbeats 4000000 in
set_option maxRecDepth 100000 in
theorem c_X6_restore {σ : vS} {v : vV} {c b n : Nat} {S : mS} {t : mN} {D : List mC} {sl : Nat → Option mC} {s : Int32} (hT : kLT σ b) (hK : KT v b ((t, n), (c, S), D, sl)) {B : Nat} (hG : GI B ((t, n), (c, S), D, sl)) (hB : B + 6000000 < 1000000000) (hf : σ.2.2.2 = false) : vCX M_X6_restore yX6_restore [.ref (b), .int (s)] (σ, v) (qG σ v (fun v9 T => KT v9 b T) (fun v9 => vOw v v9 b 1603) (gNm [xIO, xIS]) (g_restore ((t, n), (c, S), D, sl) s)) := by
  have hC : CR c v (b + 3) S := hK.c
  have hN : NB c S B := hG.1.1
  have hI : Iv c 1 S := hG.1.2
  have hc6 := hC.c6
  have ht : mTC v (b + 1) t n := hK.t
  refine vCX_of (ls := [some (.ref (b)), some (.int (s))]) pn_X6 rfl rfl (Nat.le_of_ble_eq_true rfl) rfl ?_
  refine P_iload_n dX6_restore_0 rfl rfl ?_
  refine P_callSX (rest := []) (As := [.int (s)]) dX6_restore_1 lX6_324 yk_X6_checkSlot ys_X6_checkSlot (by decide) rfl rfl (Nat.le_of_ble_eq_true rfl) (by decide) c_X6_checkSlot (fun o9 μ9 h9 hf9 => by obtain ⟨-, rfl, -⟩ := h9; exact absurd (hf.symm.trans hf9) Bool.false_ne_true) (fun Ex μ9 h9 => ?_) ?_
  · obtain ⟨rfl, rfl, hm1⟩ := h9
    exact g_thr (k := 0) (if_pos hm1) rfl
  rintro o9 μ9 ⟨rfl, rfl, hm1⟩
  obtain ⟨sk, hk2z, hk2, rfl⟩ := gin_n (by decide) hm1
  refine P_aload_n dX6_restore_4 rfl rfl ?_
  refine P_getr (t := b + 1602) dX6_restore_5 kX6 fX6_40 rfl (by decide) hT.o hT.r6 hT.z.1.2 ?_
  refine P_iload_n dX6_restore_8 rfl rfl ?_
  refine P_zaldN (x := vb ((sl sk).isSome)) (sk) dX6_restore_9 hT.z rfl (by omega) (by decide) (hK.s (i := sk) (by omega)).2.1 ?_
  refine P_bif_ne (tgt := 24) dX6_restore_10 (by decide) (fun c10 => ?_) (fun c10 => ?_)
  · obtain ⟨Y, hY⟩ := Option.isSome_iff_exists.mp c10
    refine P_aload_n dX6_restore_24 rfl rfl ?_
    refine P_getr (t := b + 3) dX6_restore_25 kX6 fX6_19 rfl (by decide) hT.o hT.r1 hT.k1.o.1.2 ?_
    refine P_aload_n dX6_restore_28 rfl rfl ?_
    refine P_getr (t := b + 1433) dX6_restore_29 kX6 fX6_36 rfl (by decide) hT.o hT.r5 hT.s.1.2 ?_
    refine P_iload_n dX6_restore_32 rfl rfl ?_
    refine P_aaldC (t := b + 1434 + 84 * sk) (sk) dX6_restore_33 hT.s rfl (by omega) (by decide) (hT.se (by omega)) (hT.sk (i := sk) (by omega)).o.1.2 ?_
    refine P_cVs (rest := []) (As := [.ref (b + 1434 + 84 * sk)]) dX6_restore_34 lX6_70 yk_X0_copyFrom yv_X0_copyFrom kX0 rfl (by decide) hT.k1.o rfl rfl (Nat.le_of_ble_eq_true rfl) rfl (c_X0_copyFrom hT.k1 (hT.sk (i := sk) (by omega)) (by omega) ((hK.s (i := sk) (by omega)).2.2 Y hY) hC.cs) (fun v1 ⟨hC9, hw9⟩ => ?_)
    have hK9 := hK.club (X := Y) hw9 hC9
    have hK8 := hK9.hist (vOw.rf.u (n := b + 255) (k := 2) (x := nI 0) (by omega) (by omega)) hK9.d.zero
    refine P_aload_n dX6_restore_37 rfl rfl ?_
    refine P_getr (t := b + 255) dX6_restore_38 kX6 fX6_32 rfl (by decide) hT.o hT.r4 hT.h.1.1.2 ?_
    refine P_iconst (v := nI 0) dX6_restore_41 (by decide) ?_
    refine P_puti dX6_restore_42 kX1 fX6_74 rfl (by decide) rfl hT.h.1 ?_
    refine P_aload_n dX6_restore_45 rfl rfl ?_
    refine P_getr (t := b + 3) dX6_restore_46 kX6 fX6_19 rfl (by decide) hT.o hT.r1 hT.k1.o.1.2 ?_
    refine P_getiN (x := nI (gG Y.2 1)) dX6_restore_49 kX0 fX6_95 rfl (by decide) hT.k1.o (by rw [vU_ne (by omega)]; exact hC9.g4) ?_
    refine P_iret dX6_restore_52 rfl ?_
    exact g_ret ((if_neg (gt_f hm1)).trans (by rw [nn (by omega), hY]; rfl)) hK8 ((hw9.mono (by omega) (by omega)).u (by omega) (by omega))
  · refine P_throwW (text := "nothing has been saved in the slot") vExS rfl (by decide +kernel) dX6_restore_13 dX6_restore_16 dX6_restore_17 dX6_restore_20 dX6_restore_23 ⟨Nat.le_of_ble_eq_true rfl, Nat.le_of_ble_eq_true rfl⟩ (by decide) ?_
    exact g_thr (k := 1) ((if_neg (gt_f hm1)).trans (by rw [nn (by omega), none_of c10]; rfl)) rfl
set_option maxHeartbeats 4000000 in
set_option maxRecDepth 100000 in
theorem c_X6_undo {σ : vS} {v : vV} {c b n : Nat} {S : mS} {t : mN} {D : List mC} {sl : Nat → Option mC} (hT : kLT σ b) (hK : KT v b ((t, n), (c, S), D, sl)) {B : Nat} (hG : GI B ((t, n), (c, S), D, sl)) (hB : B + 6000000 < 1000000000) (hf : σ.2.2.2 = false) : vCX M_X6_undo yX6_undo [.ref (b)] (σ, v) (qG σ v (fun v9 T => KT v9 b T) (fun v9 => vOw v v9 b 1603) (gNm [xIS]) (g_undo ((t, n), (c, S), D, sl))) := by
  have hC : CR c v (b + 3) S := hK.c
  have hN : NB c S B := hG.1.1
  have hI : Iv c 1 S := hG.1.2
  have hc6 := hC.c6
  have ht : mTC v (b + 1) t n := hK.t
  refine vCX_of (ls := [some (.ref (b))]) pn_X6 rfl rfl (Nat.le_of_ble_eq_true rfl) rfl ?_
  refine P_aload_n dX6_undo_0 rfl rfl ?_
  refine P_getr (t := b + 255) dX6_undo_1 kX6 fX6_32 rfl (by decide) hT.o hT.r4 hT.h.1.1.2 ?_
  refine P_getiN (x := nI (D.length)) dX6_undo_4 kX1 fX6_74 rfl (by decide) hT.h.1 hK.d.cnt ?_
  refine P_if_gtN (tgt := 21) dX6_undo_7 (by decide) (by have h14 : D.length ≤ 14 := hK.d.len; omega) (fun c7 => ?_) (fun c7 => ?_)
  · obtain ⟨D0, Y, rfl⟩ := last_of c7
    have hl1 : (D0 ++ [Y]).length = D0.length + 1 := by rw [List.length_append]; rfl
    refine P_aload_n dX6_undo_21 rfl rfl ?_
    refine P_getr (t := b + 3) dX6_undo_22 kX6 fX6_19 rfl (by decide) hT.o hT.r1 hT.k1.o.1.2 ?_
    refine P_aload_n dX6_undo_25 rfl rfl ?_
    refine P_getr (t := b + 255) dX6_undo_26 kX6 fX6_32 rfl (by decide) hT.o hT.r4 hT.h.1.1.2 ?_
    refine P_callV (rest := [.ref (b + 3)]) (As := []) dX6_undo_29 lX6_270 yk_X1_takeLast yv_X1_takeLast kX1 rfl (by decide) hT.h.1 rfl rfl (Nat.le_of_ble_eq_true rfl) ⟨Nat.zero_le _, Nat.zero_le _⟩ (c_X1_takeLast hT.h hK.d) (fun o9 μ9 h9 hf9 => by obtain ⟨k9, v9, -, -, rfl, -⟩ := h9; exact absurd (hf.symm.trans hf9) Bool.false_ne_true) ?_
    rintro o9 μ9 ⟨ky, v1, hky, rfl, rfl, hCy, hHy, hwy⟩
    have hky2 := (hT.h.2.2.2 ky hky).2
    have hC1 : CR c v1 (b + 3) S := hC.ow hwy (by omega)
    refine P_cVs (rest := []) (As := [.ref (b + 255 + 2 + 84 * ky)]) dX6_undo_32 lX6_70 yk_X0_copyFrom yv_X0_copyFrom kX0 rfl (by decide) hT.k1.o rfl rfl (Nat.le_of_ble_eq_true rfl) rfl (c_X0_copyFrom hT.k1 hky2 (by omega) hCy hC1.cs) (fun v2 ⟨hC9, hw9⟩ => ?_)
    have hK7 := hK.hist hwy hHy
    have hK9 := hK7.club (X := Y) hw9 hC9
    have hH9 := hK9.d
    refine P_aload_n dX6_undo_35 rfl rfl ?_
    refine P_getr (t := b + 255) dX6_undo_36 kX6 fX6_32 rfl (by decide) hT.o hT.r4 hT.h.1.1.2 ?_
    refine P_getiN (x := nI (D0.length)) dX6_undo_39 kX1 fX6_74 rfl (by decide) hT.h.1 hH9.cnt ?_
    refine P_iret dX6_undo_42 rfl ?_
    exact g_ret ((if_neg (by rw [hl1]; omega)).trans (by rw [hl1, Nat.add_sub_cancel, List.getLast?_append, List.dropLast_concat]; rfl)) hK9 ((hwy.mono (by omega) (by omega)).tr (hw9.mono (by omega) (by omega)))
  · refine P_throwW (text := "no state is remembered") vExS rfl (by decide +kernel) dX6_undo_10 dX6_undo_13 dX6_undo_14 dX6_undo_17 dX6_undo_20 ⟨Nat.le_of_ble_eq_true rfl, Nat.le_of_ble_eq_true rfl⟩ (by decide) ?_
    exact g_thr (k := 0) (if_pos (by omega)) rfl
set_option maxHeartbeats 4000000 in
set_option maxRecDepth 100000 in
theorem c_X6_load {σ : vS} {v : vV} {c b n : Nat} {S : mS} {t : mN} {D : List mC} {sl : Nat → Option mC} (hT : kLT σ b) (hK : KT v b ((t, n), (c, S), D, sl)) {B : Nat} (hG : GI B ((t, n), (c, S), D, sl)) (hB : B + 6000000 < 1000000000) (hf : σ.2.2.2 = false) : vCX M_X6_load yX6_load [.ref (b)] (σ, v) (qG σ v (fun v9 T => KT v9 b T) (fun v9 => vOw v v9 b 1603) (gNm [xIS]) (g_load ((t, n), (c, S), D, sl))) := by
  have hC : CR c v (b + 3) S := hK.c
  have hN : NB c S B := hG.1.1
  have hI : Iv c 1 S := hG.1.2
  have hc6 := hC.c6
  have ht : mTC v (b + 1) t n := hK.t
  refine vCX_of (ls := [some (.ref (b)), none, none]) pn_X6 rfl rfl (Nat.le_of_ble_eq_true rfl) rfl ?_
  refine P_aload_n dX6_load_0 rfl rfl ?_
  refine P_getr (t := b + 1) dX6_load_1 kX6 fX6_10 rfl (by decide) hT.o hT.r0 hT.t.1.1.2 ?_
  refine P_cVp (rest := []) (As := []) dX6_load_4 lX6_64 yk_X5_firstError yv_X5_firstError kX5 rfl (by decide) hT.t.1 rfl rfl (Nat.le_of_ble_eq_true rfl) rfl (c_X5_firstError hT.t ht) ?_
  refine P_iconst (v := -1) dX6_load_7 (by decide) ?_
  refine P_icmp_eq (tgt := 21) dX6_load_8 (by decide) (fun c8 => ?_) (fun c8 => ?_)
  · have hnone := mO_none ht.1 c8
    have hn9 := ht.1
    refine P_aload_n dX6_load_21 rfl rfl ?_
    refine P_getr (t := b + 3) dX6_load_22 kX6 fX6_19 rfl (by decide) hT.o hT.r1 hT.k1.o.1.2 ?_
    refine P_aload_n dX6_load_25 rfl rfl ?_
    refine P_getr (t := b + 87) dX6_load_26 kX6 fX6_23 rfl (by decide) hT.o hT.r2 hT.k2.o.1.2 ?_
    refine P_cVs (rest := []) (As := [.ref (b + 87)]) dX6_load_29 lX6_70 yk_X0_copyFrom yv_X0_copyFrom kX0 rfl (by decide) hT.k1.o rfl rfl (Nat.le_of_ble_eq_true rfl) rfl (c_X0_copyFrom hT.k1 hT.k2 (by omega) hK.n hC.cs) (fun v1 ⟨hC9, hw9⟩ => ?_)
    have hK9 := hK.club (X := (0, mS0)) hw9 hC9
    refine P_aload_n dX6_load_32 rfl rfl ?_
    refine P_getr (t := b + 255) dX6_load_33 kX6 fX6_32 rfl (by decide) hT.o hT.r4 hT.h.1.1.2 ?_
    refine P_iconst (v := nI 0) dX6_load_36 (by decide) ?_
    refine P_puti dX6_load_37 kX1 fX6_74 rfl (by decide) rfl hT.h.1 ?_
    have hK8 := hK9.hist (vOw.rf.u (n := b + 255) (k := 2) (x := nI 0) (by omega) (by omega)) hK9.d.zero
    have hF8 : vOw v (vU v1 (b + 255) 2 (nI 0)) b 1603 := (hw9.mono (by omega) (by omega)).u (by omega) (by omega)
    generalize vU v1 (b + 255) 2 (nI 0) = v2 at hK8 hF8 ⊢
    refine P_iconst (v := nI 0) dX6_load_40 (by decide) ?_
    refine P_istore_n (ls2 := [some (.ref (b)), some (.int (nI (0))), none]) dX6_load_41 rfl (by decide) rfl ?_
    have hL42 : ∀ (n42 : Nat) (i : Nat) (v3 : vV), (i ≤ 2) → (i + n42 = 3) → (∀ j, j < i → v3 (b + 1602) j = nI 0) → (vOw v2 v3 (b + 1602) 1) → vP M_X6_load 42 [some (.ref (b)), some (.int (nI (i))), none] [] ((vRm M_X6_load).cells, (vRm M_X6_load).slots) (σ, v3) (qG σ v (fun v9 T => KT v9 b T) (fun v9 => vOw v v9 b 1603) (gNm [xIS]) (g_load ((t, n), (c, S), D, sl))) := by
      intro n42
      induction n42 with
      | zero =>
        intro i v3 g1 g2 hz3 hw3
        exact absurd g2 (by omega)
      | succ n42 ih42 =>
        intro i v3 g1 g2 hz3 hw3
        refine P_iload_n dX6_load_42 rfl rfl ?_
        refine P_iconst (v := nI 2) dX6_load_43 (by decide) ?_
        refine P_icmp_geN (tgt := 60) dX6_load_44 (by decide) (by omega) (by omega) (fun c44 => ?_) (fun c44 => ?_)
        · have hK7 := hK8.unsaved hw3 ⟨hz3 0 (by omega), hz3 1 (by omega)⟩
          have hF7 := hF8.tr (hw3.mono (r2 := b) (w2 := 1603) (by omega) (by omega))
          have hz82 : ¬ (n = 0 ∨ t 0 ≠ 82) := fun q => by rw [mfe_0 q] at hnone; cases hnone
          have hm9 : mgo t n n 1 (0, mS0) 0 = mtext t n := by unfold mtext; rw [if_neg hz82]
          refine P_iconst (v := nI 0) dX6_load_60 (by decide) ?_
          refine P_istore_n (ls2 := [some (.ref (b)), some (.int (nI (0))), none]) dX6_load_61 rfl (by decide) rfl ?_
          refine P_iconst (v := nI 1) dX6_load_62 (by decide) ?_
          refine P_istore_n (ls2 := [some (.ref (b)), some (.int (nI (0))), some (.int (nI (1)))]) dX6_load_63 rfl (by decide) rfl ?_
          have hL64 : ∀ (n64 : Nat) (s o : Nat) (v4 : vV) (Bx c2 : Nat) (S2 : mS), (1 ≤ s) → (s ≤ n) → (n < s + n64) → (mgo t n n64 s (c2, S2) o = mtext t n) → (KC Bx (c2, S2)) → (100 ≤ Bx ∧ Bx + 70000 * (n - s) ≤ 9000000) → (CR c2 v4 (b + 3) S2) → (vOw v3 v4 (b + 3) 84) → vP M_X6_load 64 [some (.ref (b)), some (.int (nI (o))), some (.int (nI (s)))] [] ((vRm M_X6_load).cells, (vRm M_X6_load).slots) (σ, v4) (qG σ v (fun v9 T => KT v9 b T) (fun v9 => vOw v v9 b 1603) (gNm [xIS]) (g_load ((t, n), (c, S), D, sl))) := by
            intro n64
            induction n64 with
            | zero =>
              intro s o v4 Bx c2 S2 h1 h3 h2 he hX hb hC2 hw4
              exact absurd h2 (by omega)
            | succ n64 ih64 =>
              intro s o v4 Bx c2 S2 h1 h3 h2 he hX hb hC2 hw4
              have hF4 := hF7.tr (hw4.mono (r2 := b) (w2 := 1603) (by omega) (by omega))
              have hK4 := hK7.club (X := (c2, S2)) hw4 hC2
              have ht4 : mTC v4 (b + 1) t n := hK4.t
              refine P_iload_n dX6_load_64 rfl rfl ?_
              refine P_aload_n dX6_load_65 rfl rfl ?_
              refine P_getr (t := b + 1) dX6_load_66 kX6 fX6_10 rfl (by decide) hT.o hT.r0 hT.t.1.1.2 ?_
              refine P_getiN (x := nI (n)) dX6_load_69 kX5 fX6_51 rfl (by decide) hT.t.1 ht4.2.1 ?_
              refine P_icmp_geN (tgt := 128) dX6_load_72 (by decide) (by omega) (by omega) (fun c72 => ?_) (fun c72 => ?_)
              · refine P_iload_n dX6_load_128 rfl rfl ?_
                refine P_iret dX6_load_129 rfl ?_
                rw [mgo_end (by omega)] at he
                exact g_ret ((if_neg (fun q => q hnone)).trans (by rw [← he])) hK4 hF4
              · have hs9 : s < n := by omega
                obtain ⟨hj, hg⟩ : 0 < mdgs (t s) ∧ ∀ i, 1 ≤ i → i ≤ mdgs (t s) → mal t n s i = true := by
                  rcases parse_any (t := t) hs9 with ⟨k, hk⟩ | h
                  · have := mgo_bad (f := n64) (o := o) (X := (c2, S2)) hs9 hk
                    rw [he] at this
                    rw [show mfe t n = (mtext t n).1 from rfl, this] at hnone
                    cases hnone
                  · exact h
                have hpg := parse_good hj hg
                have hlt := mal_n hj hg
                obtain ⟨nb1, nb2, nb3, nb4, nb5⟩ := num_b hs9 hj hg
                refine P_aload_n dX6_load_75 rfl rfl ?_
                refine P_getr (t := b + 3) dX6_load_76 kX6 fX6_19 rfl (by decide) hT.o hT.r1 hT.k1.o.1.2 ?_
                refine P_aload_n dX6_load_79 rfl rfl ?_
                refine P_getr (t := b + 1) dX6_load_80 kX6 fX6_10 rfl (by decide) hT.o hT.r0 hT.t.1.1.2 ?_
                refine P_iload_n dX6_load_83 rfl rfl ?_
                refine P_cVp (rest := [.ref (b + 3)]) (As := [.int (nI (s))]) dX6_load_84 lX6_77 yk_X5_signAt yv_X5_signAt kX5 rfl (by decide) hT.t.1 rfl rfl (Nat.le_of_ble_eq_true rfl) rfl (c_X5_signAt hT.t ht4 (by omega)) ?_
                refine P_top (y := nI (t s)) (msg_t hs9) ?_
                refine P_aload_n dX6_load_87 rfl rfl ?_
                refine P_getr (t := b + 1) dX6_load_88 kX6 fX6_10 rfl (by decide) hT.o hT.r0 hT.t.1.1.2 ?_
                refine P_iload_n dX6_load_91 rfl rfl ?_
                refine P_cVp (rest := [.int (nI (t s)), .ref (b + 3)]) (As := [.int (nI (s))]) dX6_load_92 lX6_81 yk_X5_firstNumber yv_X5_firstNumber kX5 rfl (by decide) hT.t.1 rfl rfl (Nat.le_of_ble_eq_true rfl) rfl (c_X5_firstNumber hT.t ht4 hs9 hj hg) ?_
                refine P_aload_n dX6_load_95 rfl rfl ?_
                refine P_getr (t := b + 1) dX6_load_96 kX6 fX6_10 rfl (by decide) hT.o hT.r0 hT.t.1.1.2 ?_
                refine P_iload_n dX6_load_99 rfl rfl ?_
                rcases Classical.em (t s = 99) with hc9 | hc9
                · refine P_cVp (rest := [.int (nI (mnum1 t s)), .int (nI (t s)), .ref (b + 3)]) (As := [.int (nI (s))]) dX6_load_100 lX6_84 yk_X5_secondNumber yv_X5_secondNumber kX5 rfl (by decide) hT.t.1 rfl rfl (Nat.le_of_ble_eq_true rfl) rfl (c_second_c hT.t ht4 hs9 hj hg hc9) ?_
                  refine P_cVs (rest := []) (As := [.int (nI (t s)), .int (nI (mnum1 t s)), .int (nI (mnum2 t s))]) dX6_load_103 lX6_87 yk_X0_carryOut yv_X0_carryOut kX0 rfl (by decide) hT.k1.o rfl rfl (Nat.le_of_ble_eq_true rfl) rfl (c_car_all (d := mnum2 t s) hT.k1 hC2 hX.1 (by omega) hX.2 hj nb1 nb2 nb3 nb4 (fun _ => ⟨rfl, by omega⟩)) (fun v5 hp5 => ?_)
                  have hK5 := hK4.club (X := (mexec (t s) (mnum1 t s) (mnum2 t s) (c2, S2)).2) hp5.2 hp5.1
                  refine P_bif_ne (tgt := 112) dX6_load_106 (by decide) (fun c106 => ?_) (fun c106 => ?_)
                  · refine P_iload_n dX6_load_112 rfl rfl ?_
                    refine P_iconst (v := nI 1) dX6_load_113 (by decide) ?_
                    refine P_aload_n dX6_load_114 rfl rfl ?_
                    refine P_getr (t := b + 1) dX6_load_115 kX6 fX6_10 rfl (by decide) hT.o hT.r0 hT.t.1.1.2 ?_
                    refine P_iload_n dX6_load_118 rfl rfl ?_
                    refine P_cVp (rest := [.int (nI (1)), .int (nI (s))]) (As := [.int (nI (s))]) dX6_load_119 lX6_91 yk_X5_digitsBehind yv_X5_digitsBehind kX5 rfl (by decide) hT.t.1 rfl rfl (Nat.le_of_ble_eq_true rfl) rfl (c_X5_digitsBehind hT.t hK5.t hs9) ?_
                    refine P_iaddN dX6_load_122 ?_
                    refine P_iaddN dX6_load_123 ?_
                    refine P_istore_n (ls2 := [some (.ref (b)), some (.int (nI (o))), some (.int (nI (s + (1 + (mdgs (t s))))))]) dX6_load_124 rfl (by decide) rfl ?_
                    refine P_goto (tgt := 64) dX6_load_125 (by decide) ?_
                    refine ih64 (s + (1 + mdgs (t s))) _ v5 (Bx + 70000) (mexec (t s) (mnum1 t s) (mnum2 t s) (c2, S2)).2.1 (mexec (t s) (mnum1 t s) (mnum2 t s) (c2, S2)).2.2 (by omega) (by omega) (by omega) ?_ (hX.exec hb.1 (by rw [hpg])) ⟨by omega, by omega⟩ hp5.1 (hw4.tr hp5.2)
                    rw [mgo_good (by omega) hpg, if_pos c106, show s + 1 + mdgs (t s) = s + (1 + mdgs (t s)) by omega] at he
                    exact he
                  · refine P_iinc (v := nI (o + 1)) (ls2 := [some (.ref (b)), some (.int (nI (o + 1))), some (.int (nI (s)))]) dX6_load_109 rfl (nI_inc _ 1) (by decide) rfl ?_
                    refine P_iload_n dX6_load_112 rfl rfl ?_
                    refine P_iconst (v := nI 1) dX6_load_113 (by decide) ?_
                    refine P_aload_n dX6_load_114 rfl rfl ?_
                    refine P_getr (t := b + 1) dX6_load_115 kX6 fX6_10 rfl (by decide) hT.o hT.r0 hT.t.1.1.2 ?_
                    refine P_iload_n dX6_load_118 rfl rfl ?_
                    refine P_cVp (rest := [.int (nI (1)), .int (nI (s))]) (As := [.int (nI (s))]) dX6_load_119 lX6_91 yk_X5_digitsBehind yv_X5_digitsBehind kX5 rfl (by decide) hT.t.1 rfl rfl (Nat.le_of_ble_eq_true rfl) rfl (c_X5_digitsBehind hT.t hK5.t hs9) ?_
                    refine P_iaddN dX6_load_122 ?_
                    refine P_iaddN dX6_load_123 ?_
                    refine P_istore_n (ls2 := [some (.ref (b)), some (.int (nI (o + 1))), some (.int (nI (s + (1 + (mdgs (t s))))))]) dX6_load_124 rfl (by decide) rfl ?_
                    refine P_goto (tgt := 64) dX6_load_125 (by decide) ?_
                    refine ih64 (s + (1 + mdgs (t s))) _ v5 (Bx + 70000) (mexec (t s) (mnum1 t s) (mnum2 t s) (c2, S2)).2.1 (mexec (t s) (mnum1 t s) (mnum2 t s) (c2, S2)).2.2 (by omega) (by omega) (by omega) ?_ (hX.exec hb.1 (by rw [hpg])) ⟨by omega, by omega⟩ hp5.1 (hw4.tr hp5.2)
                    rw [mgo_good (by omega) hpg, if_neg (by rw [c106]; exact Bool.false_ne_true), show s + 1 + mdgs (t s) = s + (1 + mdgs (t s)) by omega] at he
                    exact he
                · refine P_cVp (rest := [.int (nI (mnum1 t s)), .int (nI (t s)), .ref (b + 3)]) (As := [.int (nI (s))]) dX6_load_100 lX6_84 yk_X5_secondNumber yv_X5_secondNumber kX5 rfl (by decide) hT.t.1 rfl rfl (Nat.le_of_ble_eq_true rfl) rfl (c_second_o hT.t ht4 hs9 hc9) ?_
                  refine P_cVs (rest := []) (As := [.int (nI (t s)), .int (nI (mnum1 t s)), .int ((msg t n (s + 2) - nI 48))]) dX6_load_103 lX6_87 yk_X0_carryOut yv_X0_carryOut kX0 rfl (by decide) hT.k1.o rfl rfl (Nat.le_of_ble_eq_true rfl) rfl (c_car_all (d := mnum2 t s) hT.k1 hC2 hX.1 (by omega) hX.2 hj nb1 nb2 nb3 nb4 (fun q => ⟨sec_y (q.elim (fun e => absurd e hc9) id) hg, by omega⟩)) (fun v5 hp5 => ?_)
                  have hK5 := hK4.club (X := (mexec (t s) (mnum1 t s) (mnum2 t s) (c2, S2)).2) hp5.2 hp5.1
                  refine P_bif_ne (tgt := 112) dX6_load_106 (by decide) (fun c106 => ?_) (fun c106 => ?_)
                  · refine P_iload_n dX6_load_112 rfl rfl ?_
                    refine P_iconst (v := nI 1) dX6_load_113 (by decide) ?_
                    refine P_aload_n dX6_load_114 rfl rfl ?_
                    refine P_getr (t := b + 1) dX6_load_115 kX6 fX6_10 rfl (by decide) hT.o hT.r0 hT.t.1.1.2 ?_
                    refine P_iload_n dX6_load_118 rfl rfl ?_
                    refine P_cVp (rest := [.int (nI (1)), .int (nI (s))]) (As := [.int (nI (s))]) dX6_load_119 lX6_91 yk_X5_digitsBehind yv_X5_digitsBehind kX5 rfl (by decide) hT.t.1 rfl rfl (Nat.le_of_ble_eq_true rfl) rfl (c_X5_digitsBehind hT.t hK5.t hs9) ?_
                    refine P_iaddN dX6_load_122 ?_
                    refine P_iaddN dX6_load_123 ?_
                    refine P_istore_n (ls2 := [some (.ref (b)), some (.int (nI (o))), some (.int (nI (s + (1 + (mdgs (t s))))))]) dX6_load_124 rfl (by decide) rfl ?_
                    refine P_goto (tgt := 64) dX6_load_125 (by decide) ?_
                    refine ih64 (s + (1 + mdgs (t s))) _ v5 (Bx + 70000) (mexec (t s) (mnum1 t s) (mnum2 t s) (c2, S2)).2.1 (mexec (t s) (mnum1 t s) (mnum2 t s) (c2, S2)).2.2 (by omega) (by omega) (by omega) ?_ (hX.exec hb.1 (by rw [hpg])) ⟨by omega, by omega⟩ hp5.1 (hw4.tr hp5.2)
                    rw [mgo_good (by omega) hpg, if_pos c106, show s + 1 + mdgs (t s) = s + (1 + mdgs (t s)) by omega] at he
                    exact he
                  · refine P_iinc (v := nI (o + 1)) (ls2 := [some (.ref (b)), some (.int (nI (o + 1))), some (.int (nI (s)))]) dX6_load_109 rfl (nI_inc _ 1) (by decide) rfl ?_
                    refine P_iload_n dX6_load_112 rfl rfl ?_
                    refine P_iconst (v := nI 1) dX6_load_113 (by decide) ?_
                    refine P_aload_n dX6_load_114 rfl rfl ?_
                    refine P_getr (t := b + 1) dX6_load_115 kX6 fX6_10 rfl (by decide) hT.o hT.r0 hT.t.1.1.2 ?_
                    refine P_iload_n dX6_load_118 rfl rfl ?_
                    refine P_cVp (rest := [.int (nI (1)), .int (nI (s))]) (As := [.int (nI (s))]) dX6_load_119 lX6_91 yk_X5_digitsBehind yv_X5_digitsBehind kX5 rfl (by decide) hT.t.1 rfl rfl (Nat.le_of_ble_eq_true rfl) rfl (c_X5_digitsBehind hT.t hK5.t hs9) ?_
                    refine P_iaddN dX6_load_122 ?_
                    refine P_iaddN dX6_load_123 ?_
                    refine P_istore_n (ls2 := [some (.ref (b)), some (.int (nI (o + 1))), some (.int (nI (s + (1 + (mdgs (t s))))))]) dX6_load_124 rfl (by decide) rfl ?_
                    refine P_goto (tgt := 64) dX6_load_125 (by decide) ?_
                    refine ih64 (s + (1 + mdgs (t s))) _ v5 (Bx + 70000) (mexec (t s) (mnum1 t s) (mnum2 t s) (c2, S2)).2.1 (mexec (t s) (mnum1 t s) (mnum2 t s) (c2, S2)).2.2 (by omega) (by omega) (by omega) ?_ (hX.exec hb.1 (by rw [hpg])) ⟨by omega, by omega⟩ hp5.1 (hw4.tr hp5.2)
                    rw [mgo_good (by omega) hpg, if_neg (by rw [c106]; exact Bool.false_ne_true), show s + 1 + mdgs (t s) = s + (1 + mdgs (t s)) by omega] at he
                    exact he
          exact hL64 n 1 0 v3 100 0 mS0 (Nat.le_refl 1) (by omega) (by omega) hm9 KC0 ⟨Nat.le_refl _, by omega⟩ hK7.c vOw.rf
        · refine P_aload_n dX6_load_47 rfl rfl ?_
          refine P_getr (t := b + 1602) dX6_load_48 kX6 fX6_40 rfl (by decide) hT.o hT.r6 hT.z.1.2 ?_
          refine P_iload_n dX6_load_51 rfl rfl ?_
          refine P_iconst (v := nI 0) dX6_load_52 (by decide) ?_
          refine P_zast (i) dX6_load_53 hT.z rfl (by omega) (by decide) rfl ?_
          refine P_iinc (v := nI (i + 1)) (ls2 := [some (.ref (b)), some (.int (nI (i + 1))), none]) dX6_load_54 rfl (nI_inc _ 1) (by decide) rfl ?_
          refine P_goto (tgt := 42) dX6_load_57 (by decide) ?_
          refine ih42 (i + 1) _ (by omega) (by omega) (fun j hj => ?_) (hw3.u (by omega) (by omega))
          by_cases e9 : j = i
          · subst e9; exact vU_s
          · rw [vU_o (Or.inr e9)]; exact hz3 j (by omega)
    exact hL42 3 0 v2 (by omega) (by omega) (fun j hj => absurd hj (Nat.not_lt_zero j)) vOw.rf
  · refine P_throw (text := "the text is not a club") vExS rfl (by decide +kernel) dX6_load_11 dX6_load_14 dX6_load_15 dX6_load_17 dX6_load_20 ⟨Nat.le_of_ble_eq_true rfl, Nat.le_of_ble_eq_true rfl⟩ (by decide) ?_
    exact g_thr (k := 0) (if_pos (fun q => c8 (by rw [q]; rfl))) rfl
