
/-! WHAT EACH CALL DOES: which exception (0: none), the answer, the object then -/
def g_append : gT → Int32 → gR gT
  | ((t, n), R), a => if gin a 0 255 = false then (1, 0, ((t, n), R)) else if n = 120 then (2, 0, ((t, n), R)) else (0, nI (n + 1), ((fun i => if i = n then a.toInt.toNat else t i, n + 1), R))
def g_clearText : gT → gR gT
  | ((t, n), R) => (0, nI n, ((t, 0), R))
def g_errorPosition : gT → gR gT
  | ((t, n), R) => (0, mO (mfe t n), ((t, n), R))
def g_load : gT → gR gT
  | ((t, n), R) => if mfe t n ≠ none then (1, 0, ((t, n), R)) else (0, nI (mtext t n).2.2, ((t, n), (mtext t n).2.1, [], fun _ => none))
def aOf (c : Nat) (S : mS) (w : Nat) : Nat := if w = 0 then c else if w = 2 then (gN S).length else if w < 7 then gG S w else if w = 7 then mwho S 0 c else if w = 8 then mwho S 2 c else gG S 7
def g_about : gT → Int32 → gR gT
  | (tn, (c, S), R), w => if gin w 0 9 = false then (1, 0, (tn, (c, S), R)) else (0, nI (aOf c S w.toInt.toNat), (tn, (c, S), R))
def mOf (S : mS) (m w : Nat) : Nat := if w < 8 then gM S m w else if w = 8 then gM S m 9 else if w = 9 then gM S m 10 else if w = 10 then (gK S m).length else (gH S m).length
def g_memberOf : gT → Int32 → Int32 → gR gT
  | (tn, (c, S), R), m, w => if mb c m = false then (1, 0, (tn, (c, S), R)) else if gin w 0 11 = false then (2, 0, (tn, (c, S), R)) else (0, nI (mOf S m.toInt.toNat w.toInt.toNat), (tn, (c, S), R))
def idxIn (k : Int32) (n : Nat) : Bool := decide (0 ≤ k.toInt ∧ k.toInt < (n : Int))
def sOf (S : mS) (m k w : Nat) : Nat := if w = 0 then ((gH S m).getD k t0).1 else if w = 1 then ((gH S m).getD k t0).2.1 else ((gH S m).getD k t0).2.2
def g_session : gT → Int32 → Int32 → Int32 → gR gT
  | (tn, (c, S), R), m, k, w => if (mb c m && idxIn k (gH S m.toInt.toNat).length) = false then (1, 0, (tn, (c, S), R)) else if gin w 0 2 = false then (2, 0, (tn, (c, S), R)) else (0, nI (sOf S m.toInt.toNat k.toInt.toNat w.toInt.toNat), (tn, (c, S), R))
def g_note : gT → Int32 → Int32 → gR gT
  | (tn, (c, S), R), k, w => if idxIn k (gN S).length = false then (1, 0, (tn, (c, S), R)) else if gin w 0 5 = false then (2, 0, (tn, (c, S), R)) else (0, nI (xc ((gN S).getD k.toInt.toNat n0) w.toInt.toNat), (tn, (c, S), R))
def g_isCut : gT → Int32 → Int32 → gR gT
  | (tn, (c, S), R), a, d => if (mb c a && mb c d) = false then (1, 0, (tn, (c, S), R)) else (0, vb ((gG S (8 + a.toInt.toNat)).testBit d.toInt.toNat), (tn, (c, S), R))
def g_member : gT → Int32 → gR gT
  | (tn, (c, S), R), p => if gin p 0 9 = false then (1, 0, (tn, (c, S), R)) else if ¬ c < 6 then (2, 0, (tn, (c, S), R)) else (0, nI c, gAct (tn, (c, S), R) (c + 1, madd S p.toInt.toNat))
def g_say : gT → Int32 → gR gT
  | (tn, (c, S), R), m => if mb c m = false then (1, 0, (tn, (c, S), R)) else if ¬ (gM S m.toInt.toNat 1 = 0 ∧ gM S m.toInt.toNat 7 < 4) then (2, 0, (tn, (c, S), R)) else (0, nI (4 * m.toInt.toNat + gM S m.toInt.toNat 7), gAct (tn, (c, S), R) (c, msay S m.toInt.toNat))
def g_call : gT → Int32 → Int32 → gR gT
  | (tn, (c, S), R), m, s => if mb c m = false then (1, 0, (tn, (c, S), R)) else if mset c m.toInt.toNat s = false then (2, 0, (tn, (c, S), R)) else if gM S m.toInt.toNat 1 = 2 then (3, 0, (tn, (c, S), R)) else (0, nI (gM S m.toInt.toNat 6 + 1), gAct (tn, (c, S), R) (c, mcall S m.toInt.toNat s.toInt.toNat))
def g_cut : gT → Int32 → Int32 → Bool → gR gT
  | (tn, (c, S), R), a, d, z => if (mb c a && mb c d) = false then (1, 0, (tn, (c, S), R)) else if a = d then (2, 0, (tn, (c, S), R)) else (0, nI (mways (mcut S a.toInt.toNat d.toInt.toNat z)), gAct (tn, (c, S), R) (c, mcut S a.toInt.toNat d.toInt.toNat z))
def g_leave : gT → Int32 → gR gT
  | (tn, (c, S), R), m => if mb c m = false then (1, 0, (tn, (c, S), R)) else if gM S m.toInt.toNat 1 = 2 then (2, 0, (tn, (c, S), R)) else (0, nI (gM S m.toInt.toNat 2), gAct (tn, (c, S), R) (c, mleave S m.toInt.toNat))
def g_back : gT → Int32 → gR gT
  | (tn, (c, S), R), m => if mb c m = false then (1, 0, (tn, (c, S), R)) else if ¬ gM S m.toInt.toNat 1 = 2 then (2, 0, (tn, (c, S), R)) else (0, nI (gM S m.toInt.toNat 6 + 1), gAct (tn, (c, S), R) (c, mback S m.toInt.toNat))
def g_set : gT → Int32 → gR gT
  | (tn, (c, S), R), a => if gin a 0 40 = false then (1, 0, (tn, (c, S), R)) else (0, nI (gG S 7), gAct (tn, (c, S), R) (c, sG S 7 a.toInt.toNat))
def g_ticks : gT → Int32 → gR gT
  | (tn, (c, S), R), a => if gin a 1 60 = false then (1, 0, (tn, (c, S), R)) else (0, nI (gG (mticks a.toInt.toNat S) 6 - gG S 6), gAct (tn, (c, S), R) (c, mticks a.toInt.toNat S))
def g_undo : gT → gR gT
  | (tn, X, D, sl) => if D.length = 0 then (1, 0, (tn, X, D, sl)) else (0, nI (D.length - 1), (tn, D.getLast?.getD X, D.dropLast, sl))
def g_compare : gT → Int32 → Int32 → Int32 → gR gT
  | (tn, (c, S), R), a, d, w => if (mb c a && mb c d) = false then (1, 0, (tn, (c, S), R)) else if gin w 0 1 = false then (2, 0, (tn, (c, S), R)) else (0, nI (mcmp S a.toInt.toNat d.toInt.toNat w.toInt.toNat), (tn, (c, S), R))
def g_save : gT → Int32 → gR gT
  | (tn, (c, S), D, sl), s => if gin s 0 1 = false then (1, 0, (tn, (c, S), D, sl)) else (0, nI (gG S 1), (tn, (c, S), D, fun i => if i = s.toInt.toNat then some (c, S) else sl i))
def g_restore : gT → Int32 → gR gT
  | (tn, X, D, sl), s => if gin s 0 1 = false then (1, 0, (tn, X, D, sl)) else (sl s.toInt.toNat).elim (2, 0, (tn, X, D, sl)) (fun Y => (0, nI (gG Y.2 1), (tn, Y, [], sl)))
theorem nn {k : Nat} (h : k < 2147483648) : (nI k).toInt.toNat = k := by rw [nI_toInt h]; rfl
theorem idx_nat {k : Int32} {n : Nat} (hn : n < 2147483648) (h1 : ¬ k < 0) (h2 : k < nI n) : ∃ j, j < n ∧ k = nI j := by
  rw [i_lt, i_0] at h1
  rw [i_lt, nI_toInt hn] at h2
  exact ⟨k.toInt.toNat, by omega, nI_of_toInt (by omega) (by omega)⟩
theorem idx_lo {k : Int32} {n : Nat} (h : k < 0) : idxIn k n = false := by
  rw [i_lt, i_0] at h; exact decide_eq_false (by omega)
theorem idx_hi {k : Int32} {n : Nat} (hn : n < 2147483648) (h : ¬ k < nI n) : idxIn k n = false := by
  rw [i_lt, nI_toInt hn] at h; exact decide_eq_false (by omega)
theorem idx_ok {k n : Nat} (hk : k < n) (hn : n < 2147483648) : idxIn (nI k) n = true := by
  unfold idxIn; rw [nI_toInt (by omega)]; exact decide_eq_true (by omega)
theorem gt_f {b : Bool} (h : b = true) : ¬ b = false := by rw [h]; exact Bool.noConfusion
theorem HR.zero {v : vV} {h : Nat} {D : List mC} (hH : HR v h D) : HR (vU v h 2 (nI 0)) h [] := by
  obtain ⟨nx, h1, h2, h3, h4, h5, h6⟩ := hH
  refine ⟨nx, h1, by rw [vU_o (by omega)]; exact h2, vU_s, Nat.zero_le _, fun i hi m hm => by rw [vU_ne (by omega)]; exact h5 i hi m hm, fun j Y hj => by simp at hj⟩
theorem last_of {α : Type} {l : List α} (h : 0 < l.length) : ∃ l0 y, l = l0 ++ [y] := by
  rcases List.eq_nil_or_concat l with e | ⟨l0, y, e⟩
  · rw [e] at h; exact absurd h (Nat.lt_irrefl 0)
  · exact ⟨l0, y, e.trans List.concat_eq_append⟩

theorem mback2 {S : mS} {m : Nat} : gM (mback S m) m 2 = gM S m 6 + 1 := by
  unfold mback menter
  rw [sM_at, if_neg (by omega), sM_at, if_neg (by omega), sM_at, if_neg (by omega), sM_at, if_neg (by omega), sM_at, if_pos rfl]
set_option maxHeartbeats 4000000 in
set_option maxRecDepth 100000 in
theorem c_X6_append {σ : vS} {v : vV} {c b n : Nat} {S : mS} {t : mN} {D : List mC} {sl : Nat → Option mC} {a : Int32} (hT : kLT σ b) (hK : KT v b ((t, n), (c, S), D, sl)) {B : Nat} (hG : GI B ((t, n), (c, S), D, sl)) (hB : B + 6000000 < 1000000000) (hf : σ.2.2.2 = false) : vCX M_X6_append yX6_append [.ref (b), .int (a)] (σ, v) (qG σ v (fun v9 T => KT v9 b T) (fun v9 => vOw v v9 b 1603) (gNm [xIA, xIS]) (g_append ((t, n), (c, S), D, sl) a)) := by
  have hC : CR c v (b + 3) S := hK.c
  have hN : NB c S B := hG.1.1
  have hI : Iv c 1 S := hG.1.2
  have hc6 := hC.c6
  have ht : mTC v (b + 1) t n := hK.t
  refine vCX_of (ls := [some (.ref (b)), some (.int (a))]) pn_X6 rfl rfl (Nat.le_of_ble_eq_true rfl) rfl ?_
  refine P_iload_n dX6_append_0 rfl rfl ?_
  refine P_if_lt (tgt := 11) dX6_append_1 (by decide) (fun c1 => ?_) (fun c1 => ?_)
  · refine P_throw (text := "the character is not 0 to 255") vExA rfl (by decide +kernel) dX6_append_11 dX6_append_14 dX6_append_15 dX6_append_17 dX6_append_20 ⟨Nat.le_of_ble_eq_true rfl, Nat.le_of_ble_eq_true rfl⟩ (by decide) ?_
    exact g_thr (k := 0) (if_pos (gin_lo (lo := 0) (by decide) c1)) rfl
  · refine P_iload_n dX6_append_4 rfl rfl ?_
    refine P_sipush (v := nI 255) dX6_append_5 (by decide) ?_
    refine P_icmp_le (tgt := 21) dX6_append_8 (by decide) (fun c8 => ?_) (fun c8 => ?_)
    · obtain ⟨ak, ak0, ak1, rfl⟩ := gin_n (x := a) (lo := 0) (hi := 255) (by decide) (gin_ok c1 (fun q => absurd c8 (Int32.not_le.mpr q)) (by decide) (by decide))
      have hn9 := ht.1
      refine P_aload_n dX6_append_21 rfl rfl ?_
      refine P_getr (t := b + 1) dX6_append_22 kX6 fX6_10 rfl (by decide) hT.o hT.r0 hT.t.1.1.2 ?_
      refine P_getiN (x := nI (n)) dX6_append_25 kX5 fX6_51 rfl (by decide) hT.t.1 ht.2.1 ?_
      refine P_bipush (v := nI 120) dX6_append_28 (by decide) ?_
      refine P_icmp_ltN (tgt := 43) dX6_append_30 (by decide) (by omega) (by omega) (fun c30 => ?_) (fun c30 => ?_)
      · refine P_aload_n dX6_append_43 rfl rfl ?_
        refine P_getr (t := b + 1) dX6_append_44 kX6 fX6_10 rfl (by decide) hT.o hT.r0 hT.t.1.1.2 ?_
        refine P_iload_n dX6_append_47 rfl rfl ?_
        refine P_cVs (rest := []) (As := [.int (nI (ak))]) dX6_append_48 lX6_60 yk_X5_addSign yv_X5_addSign kX5 rfl (by decide) hT.t.1 rfl rfl (Nat.le_of_ble_eq_true rfl) rfl (c_X5_addSign hT.t ht (by omega) (by omega)) (fun v1 ⟨hx1, hw1⟩ => ?_)
        have hK1 := hK.text (fun m q => hw1 m (by omega) (by omega)) hx1
        refine P_aload_n dX6_append_51 rfl rfl ?_
        refine P_getr (t := b + 1) dX6_append_52 kX6 fX6_10 rfl (by decide) hT.o hT.r0 hT.t.1.1.2 ?_
        refine P_getiN (x := nI (n + 1)) dX6_append_55 kX5 fX6_51 rfl (by decide) hT.t.1 hx1.2.1 ?_
        refine P_iret dX6_append_58 rfl ?_
        exact g_ret ((if_neg (gt_f ((gin_k (by omega)).trans (decide_eq_true ⟨ak0, ak1⟩)))).trans ((if_neg (by omega)).trans (by rw [nn (by omega)]))) hK1 (fun m q => hw1 m (by omega) (by omega))
      · refine P_throw (text := "the text has 120 characters") vExS rfl (by decide +kernel) dX6_append_33 dX6_append_36 dX6_append_37 dX6_append_39 dX6_append_42 ⟨Nat.le_of_ble_eq_true rfl, Nat.le_of_ble_eq_true rfl⟩ (by decide) ?_
        exact g_thr (k := 1) ((if_neg (gt_f ((gin_k (by omega)).trans (decide_eq_true ⟨ak0, ak1⟩)))).trans (if_pos (by omega))) rfl
    · refine P_throw (text := "the character is not 0 to 255") vExA rfl (by decide +kernel) dX6_append_11 dX6_append_14 dX6_append_15 dX6_append_17 dX6_append_20 ⟨Nat.le_of_ble_eq_true rfl, Nat.le_of_ble_eq_true rfl⟩ (by decide) ?_
      exact g_thr (k := 0) (if_pos (gin_hi (by decide) (Int32.not_le.mp c8))) rfl
set_option maxHeartbeats 4000000 in
set_option maxRecDepth 100000 in
theorem c_X6_about {σ : vS} {v : vV} {c b n : Nat} {S : mS} {t : mN} {D : List mC} {sl : Nat → Option mC} {w : Int32} (hT : kLT σ b) (hK : KT v b ((t, n), (c, S), D, sl)) {B : Nat} (hG : GI B ((t, n), (c, S), D, sl)) (hB : B + 6000000 < 1000000000) (hf : σ.2.2.2 = false) : vCX M_X6_about yX6_about [.ref (b), .int (w)] (σ, v) (qG σ v (fun v9 T => KT v9 b T) (fun v9 => vOw v v9 b 1603) (gNm [xIA]) (g_about ((t, n), (c, S), D, sl) w)) := by
  have hC : CR c v (b + 3) S := hK.c
  have hN : NB c S B := hG.1.1
  have hI : Iv c 1 S := hG.1.2
  have hc6 := hC.c6
  have ht : mTC v (b + 1) t n := hK.t
  refine vCX_of (ls := [some (.ref (b)), some (.int (w))]) pn_X6 rfl rfl (Nat.le_of_ble_eq_true rfl) rfl ?_
  refine P_iload_n dX6_about_0 rfl rfl ?_
  rcases Bool.eq_false_or_eq_true (gin w 0 9) with hgi | hgi
  · have hgi9 := hgi
    obtain ⟨wk, wk0, wk1, rfl⟩ := gin_n (by decide) hgi
    rcases vsw (wk) 0 9 (by omega) (by decide) with c1 | ⟨c1_j, c1_b, c1⟩
    · refine P_tswOut (tgt := 144) dX6_about_1 (vsw_out (by omega) c1) (by decide) ?_
      refine P_throw (text := "what is not 0 to 9") vExA rfl (by decide +kernel) dX6_about_144 dX6_about_147 dX6_about_148 dX6_about_150 dX6_about_153 ⟨Nat.le_of_ble_eq_true rfl, Nat.le_of_ble_eq_true rfl⟩ (by decide) ?_
      exact absurd c1 (by omega)
    · rcases (by omega : c1_j = 0 ∨ c1_j = 1 ∨ c1_j = 2 ∨ c1_j = 3 ∨ c1_j = 4 ∨ c1_j = 5 ∨ c1_j = 6 ∨ c1_j = 7 ∨ c1_j = 8 ∨ c1_j = 9) with q1 | q1 | q1 | q1 | q1 | q1 | q1 | q1 | q1 | q1
      · replace c1 : wk = 0 := by omega
        refine P_tswIn (off := 55) (tgt := 56) dX6_about_1 (by rw [vsw_int c1 (by decide)]; decide) (by rw [vsw_int c1 (by decide)]; decide) (by rw [vsw_int c1 (by decide)]; rfl) (by decide) ?_
        refine P_aload_n dX6_about_56 rfl rfl ?_
        refine P_getr (t := b + 3) dX6_about_57 kX6 fX6_19 rfl (by decide) hT.o hT.r1 hT.k1.o.1.2 ?_
        refine P_getiN (x := nI (c)) dX6_about_60 kX0 fX6_94 rfl (by decide) hT.k1.o hC.g3 ?_
        refine P_iret dX6_about_63 rfl ?_
        exact g_ret ((if_neg (gt_f hgi9)).trans (by rw [nn (by omega), c1]; rfl)) hK vOw.rf
      · replace c1 : wk = 1 := by omega
        refine P_tswIn (off := 63) (tgt := 64) dX6_about_1 (by rw [vsw_int c1 (by decide)]; decide) (by rw [vsw_int c1 (by decide)]; decide) (by rw [vsw_int c1 (by decide)]; rfl) (by decide) ?_
        refine P_aload_n dX6_about_64 rfl rfl ?_
        refine P_getr (t := b + 3) dX6_about_65 kX6 fX6_19 rfl (by decide) hT.o hT.r1 hT.k1.o.1.2 ?_
        refine P_getiN (x := nI (gG S 1)) dX6_about_68 kX0 fX6_95 rfl (by decide) hT.k1.o hC.g4 ?_
        refine P_iret dX6_about_71 rfl ?_
        exact g_ret ((if_neg (gt_f hgi9)).trans (by rw [nn (by omega), c1]; rfl)) hK vOw.rf
      · replace c1 : wk = 2 := by omega
        refine P_tswIn (off := 71) (tgt := 72) dX6_about_1 (by rw [vsw_int c1 (by decide)]; decide) (by rw [vsw_int c1 (by decide)]; decide) (by rw [vsw_int c1 (by decide)]; rfl) (by decide) ?_
        refine P_aload_n dX6_about_72 rfl rfl ?_
        refine P_getr (t := b + 3) dX6_about_73 kX6 fX6_19 rfl (by decide) hT.o hT.r1 hT.k1.o.1.2 ?_
        refine P_getr (t := b + 3 + 2) dX6_about_76 kX0 fX6_98 rfl (by decide) hT.k1.o hT.k1.r1 hT.k1.k2.1.2 ?_
        refine P_getiN (x := nI ((gN S).length)) dX6_about_79 kX3 fX6_102 rfl (by decide) hT.k1.k2 hC.p3 ?_
        refine P_iret dX6_about_82 rfl ?_
        exact g_ret ((if_neg (gt_f hgi9)).trans (by rw [nn (by omega), c1]; rfl)) hK vOw.rf
      · replace c1 : wk = 3 := by omega
        refine P_tswIn (off := 82) (tgt := 83) dX6_about_1 (by rw [vsw_int c1 (by decide)]; decide) (by rw [vsw_int c1 (by decide)]; decide) (by rw [vsw_int c1 (by decide)]; rfl) (by decide) ?_
        refine P_aload_n dX6_about_83 rfl rfl ?_
        refine P_getr (t := b + 3) dX6_about_84 kX6 fX6_19 rfl (by decide) hT.o hT.r1 hT.k1.o.1.2 ?_
        refine P_getr (t := b + 3 + 2) dX6_about_87 kX0 fX6_98 rfl (by decide) hT.k1.o hT.k1.r1 hT.k1.k2.1.2 ?_
        refine P_getiN (x := nI (gG S 3)) dX6_about_90 kX3 fX6_105 rfl (by decide) hT.k1.k2 hC.p4 ?_
        refine P_iret dX6_about_93 rfl ?_
        exact g_ret ((if_neg (gt_f hgi9)).trans (by rw [nn (by omega), c1]; rfl)) hK vOw.rf
      · replace c1 : wk = 4 := by omega
        refine P_tswIn (off := 93) (tgt := 94) dX6_about_1 (by rw [vsw_int c1 (by decide)]; decide) (by rw [vsw_int c1 (by decide)]; decide) (by rw [vsw_int c1 (by decide)]; rfl) (by decide) ?_
        refine P_aload_n dX6_about_94 rfl rfl ?_
        refine P_getr (t := b + 3) dX6_about_95 kX6 fX6_19 rfl (by decide) hT.o hT.r1 hT.k1.o.1.2 ?_
        refine P_getiN (x := nI (gG S 4)) dX6_about_98 kX0 fX6_108 rfl (by decide) hT.k1.o hC.g6 ?_
        refine P_iret dX6_about_101 rfl ?_
        exact g_ret ((if_neg (gt_f hgi9)).trans (by rw [nn (by omega), c1]; rfl)) hK vOw.rf
      · replace c1 : wk = 5 := by omega
        refine P_tswIn (off := 101) (tgt := 102) dX6_about_1 (by rw [vsw_int c1 (by decide)]; decide) (by rw [vsw_int c1 (by decide)]; decide) (by rw [vsw_int c1 (by decide)]; rfl) (by decide) ?_
        refine P_aload_n dX6_about_102 rfl rfl ?_
        refine P_getr (t := b + 3) dX6_about_103 kX6 fX6_19 rfl (by decide) hT.o hT.r1 hT.k1.o.1.2 ?_
        refine P_getiN (x := nI (gG S 5)) dX6_about_106 kX0 fX6_111 rfl (by decide) hT.k1.o hC.g7 ?_
        refine P_iret dX6_about_109 rfl ?_
        exact g_ret ((if_neg (gt_f hgi9)).trans (by rw [nn (by omega), c1]; rfl)) hK vOw.rf
      · replace c1 : wk = 6 := by omega
        refine P_tswIn (off := 109) (tgt := 110) dX6_about_1 (by rw [vsw_int c1 (by decide)]; decide) (by rw [vsw_int c1 (by decide)]; decide) (by rw [vsw_int c1 (by decide)]; rfl) (by decide) ?_
        refine P_aload_n dX6_about_110 rfl rfl ?_
        refine P_getr (t := b + 3) dX6_about_111 kX6 fX6_19 rfl (by decide) hT.o hT.r1 hT.k1.o.1.2 ?_
        refine P_getiN (x := nI (gG S 6)) dX6_about_114 kX0 fX6_114 rfl (by decide) hT.k1.o hC.g8 ?_
        refine P_iret dX6_about_117 rfl ?_
        exact g_ret ((if_neg (gt_f hgi9)).trans (by rw [nn (by omega), c1]; rfl)) hK vOw.rf
      · replace c1 : wk = 7 := by omega
        refine P_tswIn (off := 117) (tgt := 118) dX6_about_1 (by rw [vsw_int c1 (by decide)]; decide) (by rw [vsw_int c1 (by decide)]; decide) (by rw [vsw_int c1 (by decide)]; rfl) (by decide) ?_
        refine P_aload_n dX6_about_118 rfl rfl ?_
        refine P_getr (t := b + 3) dX6_about_119 kX6 fX6_19 rfl (by decide) hT.o hT.r1 hT.k1.o.1.2 ?_
        refine P_iconst (v := nI 0) dX6_about_122 (by decide) ?_
        refine P_cVp (rest := []) (As := [.int (nI (0))]) dX6_about_123 lX6_117 yk_X0_whoAre yv_X0_whoAre kX0 rfl (by decide) hT.k1.o rfl rfl (Nat.le_of_ble_eq_true rfl) rfl (c_X0_whoAre hT.k1 hC hN (by omega) (by omega)) ?_
        refine P_iret dX6_about_126 rfl ?_
        exact g_ret ((if_neg (gt_f hgi9)).trans (by rw [nn (by omega), c1]; rfl)) hK vOw.rf
      · replace c1 : wk = 8 := by omega
        refine P_tswIn (off := 126) (tgt := 127) dX6_about_1 (by rw [vsw_int c1 (by decide)]; decide) (by rw [vsw_int c1 (by decide)]; decide) (by rw [vsw_int c1 (by decide)]; rfl) (by decide) ?_
        refine P_aload_n dX6_about_127 rfl rfl ?_
        refine P_getr (t := b + 3) dX6_about_128 kX6 fX6_19 rfl (by decide) hT.o hT.r1 hT.k1.o.1.2 ?_
        refine P_iconst (v := nI 2) dX6_about_131 (by decide) ?_
        refine P_cVp (rest := []) (As := [.int (nI (2))]) dX6_about_132 lX6_117 yk_X0_whoAre yv_X0_whoAre kX0 rfl (by decide) hT.k1.o rfl rfl (Nat.le_of_ble_eq_true rfl) rfl (c_X0_whoAre hT.k1 hC hN (by omega) (by omega)) ?_
        refine P_iret dX6_about_135 rfl ?_
        exact g_ret ((if_neg (gt_f hgi9)).trans (by rw [nn (by omega), c1]; rfl)) hK vOw.rf
      · replace c1 : wk = 9 := by omega
        refine P_tswIn (off := 135) (tgt := 136) dX6_about_1 (by rw [vsw_int c1 (by decide)]; decide) (by rw [vsw_int c1 (by decide)]; decide) (by rw [vsw_int c1 (by decide)]; rfl) (by decide) ?_
        refine P_aload_n dX6_about_136 rfl rfl ?_
        refine P_getr (t := b + 3) dX6_about_137 kX6 fX6_19 rfl (by decide) hT.o hT.r1 hT.k1.o.1.2 ?_
        refine P_getiN (x := nI (gG S 7)) dX6_about_140 kX0 fX6_120 rfl (by decide) hT.k1.o hC.g5 ?_
        refine P_iret dX6_about_143 rfl ?_
        exact g_ret ((if_neg (gt_f hgi9)).trans (by rw [nn (by omega), c1]; rfl)) hK vOw.rf
  · have hgo := of_decide_eq_false hgi
    refine P_tswOut (tgt := 144) dX6_about_1 (by omega) (by decide) ?_
    refine P_throw (text := "what is not 0 to 9") vExA rfl (by decide +kernel) dX6_about_144 dX6_about_147 dX6_about_148 dX6_about_150 dX6_about_153 ⟨Nat.le_of_ble_eq_true rfl, Nat.le_of_ble_eq_true rfl⟩ (by decide) ?_
    exact g_thr (k := 0) (if_pos hgi) rfl
set_option maxHeartbeats 4000000 in
set_option maxRecDepth 100000 in
theorem c_X6_memberOf {σ : vS} {v : vV} {c b n : Nat} {S : mS} {t : mN} {D : List mC} {sl : Nat → Option mC} {m w : Int32} (hT : kLT σ b) (hK : KT v b ((t, n), (c, S), D, sl)) {B : Nat} (hG : GI B ((t, n), (c, S), D, sl)) (hB : B + 6000000 < 1000000000) (hf : σ.2.2.2 = false) : vCX M_X6_memberOf yX6_memberOf [.ref (b), .int (m), .int (w)] (σ, v) (qG σ v (fun v9 T => KT v9 b T) (fun v9 => vOw v v9 b 1603) (gNm [xIO, xIA]) (g_memberOf ((t, n), (c, S), D, sl) m w)) := by
  have hC : CR c v (b + 3) S := hK.c
  have hN : NB c S B := hG.1.1
  have hI : Iv c 1 S := hG.1.2
  have hc6 := hC.c6
  have ht : mTC v (b + 1) t n := hK.t
  refine vCX_of (ls := [some (.ref (b)), some (.int (m)), some (.int (w)), none]) pn_X6 rfl rfl (Nat.le_of_ble_eq_true rfl) rfl ?_
  refine P_aload_n dX6_memberOf_0 rfl rfl ?_
  refine P_iload_n dX6_memberOf_1 rfl rfl ?_
  refine P_callVX (rest := []) (As := [.int (m)]) dX6_memberOf_2 lX6_125 yk_X6_checkMember yv_X6_checkMember kX6 rfl (by decide) hT.o rfl rfl (Nat.le_of_ble_eq_true rfl) (by decide) (c_X6_checkMember hT hC) (fun o9 μ9 h9 hf9 => by obtain ⟨-, rfl, -⟩ := h9; exact absurd (hf.symm.trans hf9) Bool.false_ne_true) (fun Ex μ9 h9 => ?_) ?_
  · obtain ⟨rfl, rfl, hm1⟩ := h9
    exact g_thr (k := 0) (if_pos hm1) rfl
  rintro o9 μ9 ⟨rfl, rfl, hm1⟩
  obtain ⟨mk, hk2, rfl⟩ := mb_nat hC.c6 hm1
  refine P_aload_n dX6_memberOf_5 rfl rfl ?_
  refine P_getr (t := b + 3) dX6_memberOf_6 kX6 fX6_19 rfl (by decide) hT.o hT.r1 hT.k1.o.1.2 ?_
  refine P_getr (t := b + 3 + 1) dX6_memberOf_9 kX0 fX6_128 rfl (by decide) hT.k1.o hT.k1.r0 hT.k1.k1.1.2 ?_
  refine P_iload_n dX6_memberOf_12 rfl rfl ?_
  refine P_aaldM (t := b + 3 + 6 + 13 * mk) (mk) dX6_memberOf_13 hT.k1.k1 rfl (by omega) (by decide) (hT.k1.e (by omega)) (hT.k1.m (by omega)).o.1.2 ?_
  refine P_astore_n (ls2 := [some (.ref (b)), some (.int (nI (mk))), some (.int (w)), some (.ref (b + 3 + 6 + 13 * mk))]) dX6_memberOf_14 rfl (by decide) rfl ?_
  rcases Bool.eq_false_or_eq_true (gin w 0 11) with hgi | hgi
  · have hgi9 := hgi
    obtain ⟨wk, wk0, wk1, rfl⟩ := gin_n (by decide) hgi
    refine P_iload_n dX6_memberOf_15 rfl rfl ?_
    rcases vsw (wk) 0 11 (by omega) (by decide) with c16 | ⟨c16_j, c16_b, c16⟩
    · refine P_tswOut (tgt := 146) dX6_memberOf_16 (vsw_out (by omega) c16) (by decide) ?_
      refine P_throw (text := "what is not 0 to 11") vExA rfl (by decide +kernel) dX6_memberOf_146 dX6_memberOf_149 dX6_memberOf_150 dX6_memberOf_152 dX6_memberOf_155 ⟨Nat.le_of_ble_eq_true rfl, Nat.le_of_ble_eq_true rfl⟩ (by decide) ?_
      exact absurd c16 (by omega)
    · rcases (by omega : c16_j = 0 ∨ c16_j = 1 ∨ c16_j = 2 ∨ c16_j = 3 ∨ c16_j = 4 ∨ c16_j = 5 ∨ c16_j = 6 ∨ c16_j = 7 ∨ c16_j = 8 ∨ c16_j = 9 ∨ c16_j = 10 ∨ c16_j = 11) with q16 | q16 | q16 | q16 | q16 | q16 | q16 | q16 | q16 | q16 | q16 | q16
      · replace c16 : wk = 0 := by omega
        refine P_tswIn (off := 64) (tgt := 80) dX6_memberOf_16 (by rw [vsw_int c16 (by decide)]; decide) (by rw [vsw_int c16 (by decide)]; decide) (by rw [vsw_int c16 (by decide)]; rfl) (by decide) ?_
        refine P_aload_n dX6_memberOf_80 rfl rfl ?_
        refine P_getiN (x := nI (gM S mk 0)) dX6_memberOf_81 kX2 fX6_132 rfl (by decide) (hT.k1.m (by omega)).o ((hC.m (by omega)).w (by decide)) ?_
        refine P_iret dX6_memberOf_84 rfl ?_
        exact g_ret ((if_neg (gt_f hm1)).trans ((if_neg (gt_f hgi9)).trans (by rw [nn (by omega), nn (by omega), c16]; rfl))) hK vOw.rf
      · replace c16 : wk = 1 := by omega
        refine P_tswIn (off := 69) (tgt := 85) dX6_memberOf_16 (by rw [vsw_int c16 (by decide)]; decide) (by rw [vsw_int c16 (by decide)]; decide) (by rw [vsw_int c16 (by decide)]; rfl) (by decide) ?_
        refine P_aload_n dX6_memberOf_85 rfl rfl ?_
        refine P_getiN (x := nI (gM S mk 1)) dX6_memberOf_86 kX2 fX6_137 rfl (by decide) (hT.k1.m (by omega)).o ((hC.m (by omega)).w (by decide)) ?_
        refine P_iret dX6_memberOf_89 rfl ?_
        exact g_ret ((if_neg (gt_f hm1)).trans ((if_neg (gt_f hgi9)).trans (by rw [nn (by omega), nn (by omega), c16]; rfl))) hK vOw.rf
      · replace c16 : wk = 2 := by omega
        refine P_tswIn (off := 74) (tgt := 90) dX6_memberOf_16 (by rw [vsw_int c16 (by decide)]; decide) (by rw [vsw_int c16 (by decide)]; decide) (by rw [vsw_int c16 (by decide)]; rfl) (by decide) ?_
        refine P_aload_n dX6_memberOf_90 rfl rfl ?_
        refine P_getiN (x := nI (gM S mk 2)) dX6_memberOf_91 kX2 fX6_140 rfl (by decide) (hT.k1.m (by omega)).o ((hC.m (by omega)).w (by decide)) ?_
        refine P_iret dX6_memberOf_94 rfl ?_
        exact g_ret ((if_neg (gt_f hm1)).trans ((if_neg (gt_f hgi9)).trans (by rw [nn (by omega), nn (by omega), c16]; rfl))) hK vOw.rf
      · replace c16 : wk = 3 := by omega
        refine P_tswIn (off := 79) (tgt := 95) dX6_memberOf_16 (by rw [vsw_int c16 (by decide)]; decide) (by rw [vsw_int c16 (by decide)]; decide) (by rw [vsw_int c16 (by decide)]; rfl) (by decide) ?_
        refine P_aload_n dX6_memberOf_95 rfl rfl ?_
        refine P_getiN (x := nI (gM S mk 3)) dX6_memberOf_96 kX2 fX6_143 rfl (by decide) (hT.k1.m (by omega)).o ((hC.m (by omega)).w (by decide)) ?_
        refine P_iret dX6_memberOf_99 rfl ?_
        exact g_ret ((if_neg (gt_f hm1)).trans ((if_neg (gt_f hgi9)).trans (by rw [nn (by omega), nn (by omega), c16]; rfl))) hK vOw.rf
      · replace c16 : wk = 4 := by omega
        refine P_tswIn (off := 84) (tgt := 100) dX6_memberOf_16 (by rw [vsw_int c16 (by decide)]; decide) (by rw [vsw_int c16 (by decide)]; decide) (by rw [vsw_int c16 (by decide)]; rfl) (by decide) ?_
        refine P_aload_n dX6_memberOf_100 rfl rfl ?_
        refine P_getiN (x := nI (gM S mk 4)) dX6_memberOf_101 kX2 fX6_146 rfl (by decide) (hT.k1.m (by omega)).o ((hC.m (by omega)).w (by decide)) ?_
        refine P_iret dX6_memberOf_104 rfl ?_
        exact g_ret ((if_neg (gt_f hm1)).trans ((if_neg (gt_f hgi9)).trans (by rw [nn (by omega), nn (by omega), c16]; rfl))) hK vOw.rf
      · replace c16 : wk = 5 := by omega
        refine P_tswIn (off := 89) (tgt := 105) dX6_memberOf_16 (by rw [vsw_int c16 (by decide)]; decide) (by rw [vsw_int c16 (by decide)]; decide) (by rw [vsw_int c16 (by decide)]; rfl) (by decide) ?_
        refine P_aload_n dX6_memberOf_105 rfl rfl ?_
        refine P_getiN (x := nI (gM S mk 5)) dX6_memberOf_106 kX2 fX6_149 rfl (by decide) (hT.k1.m (by omega)).o ((hC.m (by omega)).w (by decide)) ?_
        refine P_iret dX6_memberOf_109 rfl ?_
        exact g_ret ((if_neg (gt_f hm1)).trans ((if_neg (gt_f hgi9)).trans (by rw [nn (by omega), nn (by omega), c16]; rfl))) hK vOw.rf
      · replace c16 : wk = 6 := by omega
        refine P_tswIn (off := 94) (tgt := 110) dX6_memberOf_16 (by rw [vsw_int c16 (by decide)]; decide) (by rw [vsw_int c16 (by decide)]; decide) (by rw [vsw_int c16 (by decide)]; rfl) (by decide) ?_
        refine P_aload_n dX6_memberOf_110 rfl rfl ?_
        refine P_getiN (x := nI (gM S mk 6)) dX6_memberOf_111 kX2 fX6_152 rfl (by decide) (hT.k1.m (by omega)).o ((hC.m (by omega)).w (by decide)) ?_
        refine P_iret dX6_memberOf_114 rfl ?_
        exact g_ret ((if_neg (gt_f hm1)).trans ((if_neg (gt_f hgi9)).trans (by rw [nn (by omega), nn (by omega), c16]; rfl))) hK vOw.rf
      · replace c16 : wk = 7 := by omega
        refine P_tswIn (off := 99) (tgt := 115) dX6_memberOf_16 (by rw [vsw_int c16 (by decide)]; decide) (by rw [vsw_int c16 (by decide)]; decide) (by rw [vsw_int c16 (by decide)]; rfl) (by decide) ?_
        refine P_aload_n dX6_memberOf_115 rfl rfl ?_
        refine P_getiN (x := nI (gM S mk 7)) dX6_memberOf_116 kX2 fX6_155 rfl (by decide) (hT.k1.m (by omega)).o ((hC.m (by omega)).w (by decide)) ?_
        refine P_iret dX6_memberOf_119 rfl ?_
        exact g_ret ((if_neg (gt_f hm1)).trans ((if_neg (gt_f hgi9)).trans (by rw [nn (by omega), nn (by omega), c16]; rfl))) hK vOw.rf
      · replace c16 : wk = 8 := by omega
        refine P_tswIn (off := 104) (tgt := 120) dX6_memberOf_16 (by rw [vsw_int c16 (by decide)]; decide) (by rw [vsw_int c16 (by decide)]; decide) (by rw [vsw_int c16 (by decide)]; rfl) (by decide) ?_
        refine P_aload_n dX6_memberOf_120 rfl rfl ?_
        refine P_getiN (x := nI (gM S mk 9)) dX6_memberOf_121 kX2 fX6_156 rfl (by decide) (hT.k1.m (by omega)).o (hC.m (by omega)).n10 ?_
        refine P_iret dX6_memberOf_124 rfl ?_
        exact g_ret ((if_neg (gt_f hm1)).trans ((if_neg (gt_f hgi9)).trans (by rw [nn (by omega), nn (by omega), c16]; rfl))) hK vOw.rf
      · replace c16 : wk = 9 := by omega
        refine P_tswIn (off := 109) (tgt := 125) dX6_memberOf_16 (by rw [vsw_int c16 (by decide)]; decide) (by rw [vsw_int c16 (by decide)]; decide) (by rw [vsw_int c16 (by decide)]; rfl) (by decide) ?_
        refine P_aload_n dX6_memberOf_125 rfl rfl ?_
        refine P_getiN (x := nI (gM S mk 10)) dX6_memberOf_126 kX2 fX6_159 rfl (by decide) (hT.k1.m (by omega)).o (hC.m (by omega)).n12 ?_
        refine P_iret dX6_memberOf_129 rfl ?_
        exact g_ret ((if_neg (gt_f hm1)).trans ((if_neg (gt_f hgi9)).trans (by rw [nn (by omega), nn (by omega), c16]; rfl))) hK vOw.rf
      · replace c16 : wk = 10 := by omega
        refine P_tswIn (off := 114) (tgt := 130) dX6_memberOf_16 (by rw [vsw_int c16 (by decide)]; decide) (by rw [vsw_int c16 (by decide)]; decide) (by rw [vsw_int c16 (by decide)]; rfl) (by decide) ?_
        refine P_aload_n dX6_memberOf_130 rfl rfl ?_
        refine P_getr (t := b + 3 + 6 + 13 * mk + 5) dX6_memberOf_131 kX2 fX6_162 rfl (by decide) (hT.k1.m (by omega)).o (hT.k1.m (by omega)).c14 (hT.k1.m (by omega)).pk.o.1.2 ?_
        refine P_getiN (x := nI ((gK S mk).length)) dX6_memberOf_134 kX4 fX6_166 rfl (by decide) (hT.k1.m (by omega)).pk.o (hC.m (by omega)).kl ?_
        refine P_iret dX6_memberOf_137 rfl ?_
        exact g_ret ((if_neg (gt_f hm1)).trans ((if_neg (gt_f hgi9)).trans (by rw [nn (by omega), nn (by omega), c16]; rfl))) hK vOw.rf
      · replace c16 : wk = 11 := by omega
        refine P_tswIn (off := 122) (tgt := 138) dX6_memberOf_16 (by rw [vsw_int c16 (by decide)]; decide) (by rw [vsw_int c16 (by decide)]; decide) (by rw [vsw_int c16 (by decide)]; rfl) (by decide) ?_
        refine P_aload_n dX6_memberOf_138 rfl rfl ?_
        refine P_getr (t := b + 3 + 6 + 13 * mk + 9) dX6_memberOf_139 kX2 fX6_169 rfl (by decide) (hT.k1.m (by omega)).o (hT.k1.m (by omega)).c15 (hT.k1.m (by omega)).ps.o.1.2 ?_
        refine P_getiN (x := nI ((gH S mk).length)) dX6_memberOf_142 kX4 fX6_166 rfl (by decide) (hT.k1.m (by omega)).ps.o (hC.m (by omega)).h.1 ?_
        refine P_iret dX6_memberOf_145 rfl ?_
        exact g_ret ((if_neg (gt_f hm1)).trans ((if_neg (gt_f hgi9)).trans (by rw [nn (by omega), nn (by omega), c16]; rfl))) hK vOw.rf
  · have hgo := of_decide_eq_false hgi
    refine P_iload_n dX6_memberOf_15 rfl rfl ?_
    refine P_tswOut (tgt := 146) dX6_memberOf_16 (by omega) (by decide) ?_
    refine P_throw (text := "what is not 0 to 11") vExA rfl (by decide +kernel) dX6_memberOf_146 dX6_memberOf_149 dX6_memberOf_150 dX6_memberOf_152 dX6_memberOf_155 ⟨Nat.le_of_ble_eq_true rfl, Nat.le_of_ble_eq_true rfl⟩ (by decide) ?_
    exact g_thr (k := 1) ((if_neg (gt_f hm1)).trans (if_pos hgi)) rfl
set_option maxHeartbeats 4000000 in
set_option maxRecDepth 100000 in
theorem c_X6_session {σ : vS} {v : vV} {c b n : Nat} {S : mS} {t : mN} {D : List mC} {sl : Nat → Option mC} {m k w : Int32} (hT : kLT σ b) (hK : KT v b ((t, n), (c, S), D, sl)) {B : Nat} (hG : GI B ((t, n), (c, S), D, sl)) (hB : B + 6000000 < 1000000000) (hf : σ.2.2.2 = false) : vCX M_X6_session yX6_session [.ref (b), .int (m), .int (k), .int (w)] (σ, v) (qG σ v (fun v9 T => KT v9 b T) (fun v9 => vOw v v9 b 1603) (gNm [xIO, xIA]) (g_session ((t, n), (c, S), D, sl) m k w)) := by
  have hC : CR c v (b + 3) S := hK.c
  have hN : NB c S B := hG.1.1
  have hI : Iv c 1 S := hG.1.2
  have hc6 := hC.c6
  have ht : mTC v (b + 1) t n := hK.t
  refine vCX_of (ls := [some (.ref (b)), some (.int (m)), some (.int (k)), some (.int (w)), none]) pn_X6 rfl rfl (Nat.le_of_ble_eq_true rfl) rfl ?_
  refine P_aload_n dX6_session_0 rfl rfl ?_
  refine P_iload_n dX6_session_1 rfl rfl ?_
  refine P_callVX (rest := []) (As := [.int (m)]) dX6_session_2 lX6_125 yk_X6_checkMember yv_X6_checkMember kX6 rfl (by decide) hT.o rfl rfl (Nat.le_of_ble_eq_true rfl) (by decide) (c_X6_checkMember hT hC) (fun o9 μ9 h9 hf9 => by obtain ⟨-, rfl, -⟩ := h9; exact absurd (hf.symm.trans hf9) Bool.false_ne_true) (fun Ex μ9 h9 => ?_) ?_
  · obtain ⟨rfl, rfl, hm1⟩ := h9
    exact g_thr (k := 0) (if_pos (by rw [hm1]; rfl)) rfl
  rintro o9 μ9 ⟨rfl, rfl, hm1⟩
  obtain ⟨mk, hk2, rfl⟩ := mb_nat hC.c6 hm1
  refine P_aload_n dX6_session_5 rfl rfl ?_
  refine P_getr (t := b + 3) dX6_session_6 kX6 fX6_19 rfl (by decide) hT.o hT.r1 hT.k1.o.1.2 ?_
  refine P_getr (t := b + 3 + 1) dX6_session_9 kX0 fX6_128 rfl (by decide) hT.k1.o hT.k1.r0 hT.k1.k1.1.2 ?_
  refine P_iload_n dX6_session_12 rfl rfl ?_
  refine P_aaldM (t := b + 3 + 6 + 13 * mk) (mk) dX6_session_13 hT.k1.k1 rfl (by omega) (by decide) (hT.k1.e (by omega)) (hT.k1.m (by omega)).o.1.2 ?_
  refine P_getr (t := b + 3 + 6 + 13 * mk + 9) dX6_session_14 kX2 fX6_169 rfl (by decide) (hT.k1.m (by omega)).o (hT.k1.m (by omega)).c15 (hT.k1.m (by omega)).ps.o.1.2 ?_
  refine P_astore (ls2 := [some (.ref (b)), some (.int (nI (mk))), some (.int (k)), some (.int (w)), some (.ref (b + 3 + 6 + 13 * mk + 9))]) dX6_session_17 (by decide) rfl ?_
  have hl9 := hN.b.2.1 mk
  refine P_iload_n dX6_session_19 rfl rfl ?_
  refine P_if_lt (tgt := 32) dX6_session_20 (by decide) (fun c20 => ?_) (fun c20 => ?_)
  · refine P_throw (text := "there is no such session") vExO rfl (by decide +kernel) dX6_session_32 dX6_session_35 dX6_session_36 dX6_session_38 dX6_session_41 ⟨Nat.le_of_ble_eq_true rfl, Nat.le_of_ble_eq_true rfl⟩ (by decide) ?_
    exact g_thr (k := 0) (if_pos (by rw [hm1, nn (by omega), idx_lo c20]; rfl)) rfl
  · refine P_iload_n dX6_session_23 rfl rfl ?_
    refine P_aload dX6_session_24 rfl ?_
    refine P_getiN (x := nI ((gH S mk).length)) dX6_session_26 kX4 fX6_166 rfl (by decide) (hT.k1.m (by omega)).ps.o (hC.m (by omega)).h.1 ?_
    refine P_icmp_lt (tgt := 42) dX6_session_29 (by decide) (fun c29 => ?_) (fun c29 => ?_)
    · obtain ⟨kk, kk1, rfl⟩ := idx_nat (by omega) c20 c29
      refine P_iload_n dX6_session_42 rfl rfl ?_
      rcases Bool.eq_false_or_eq_true (gin w 0 2) with hgi | hgi
      · have hgi9 := hgi
        obtain ⟨wk, wk0, wk1, rfl⟩ := gin_n (by decide) hgi
        rcases vsw (wk) 0 2 (by omega) (by decide) with c43 | ⟨c43_j, c43_b, c43⟩
        · refine P_tswOut (tgt := 92) dX6_session_43 (vsw_out (by omega) c43) (by decide) ?_
          refine P_throw (text := "what is not 0 to 2") vExA rfl (by decide +kernel) dX6_session_92 dX6_session_95 dX6_session_96 dX6_session_98 dX6_session_101 ⟨Nat.le_of_ble_eq_true rfl, Nat.le_of_ble_eq_true rfl⟩ (by decide) ?_
          exact absurd c43 (by omega)
        · rcases (by omega : c43_j = 0 ∨ c43_j = 1 ∨ c43_j = 2) with q43 | q43 | q43
          · replace c43 : wk = 0 := by omega
            refine P_tswIn (off := 25) (tgt := 68) dX6_session_43 (by rw [vsw_int c43 (by decide)]; decide) (by rw [vsw_int c43 (by decide)]; decide) (by rw [vsw_int c43 (by decide)]; rfl) (by decide) ?_
            refine P_aload dX6_session_68 rfl ?_
            refine P_getr (t := b + 3 + 6 + 13 * mk + 9 + 1) dX6_session_70 kX4 fX6_179 rfl (by decide) (hT.k1.m (by omega)).ps.o (hT.k1.m (by omega)).ps.c0 (hT.k1.m (by omega)).ps.a1.1.2 ?_
            refine P_iload_n dX6_session_73 rfl rfl ?_
            refine P_ialdN (x := nI (((gH S mk).getD kk t0).1)) (kk) dX6_session_74 (hT.k1.m (by omega)).ps.a1 rfl (by omega) (by decide) ((hC.m (by omega)).h.d (by omega)).1 ?_
            refine P_iret dX6_session_75 rfl ?_
            exact g_ret ((if_neg (gt_f (by rw [hm1, nn (by omega), idx_ok kk1 (by omega)]; rfl))).trans ((if_neg (gt_f hgi9)).trans (by rw [nn (by omega), nn (by omega), nn (by omega), c43]; rfl))) hK vOw.rf
          · replace c43 : wk = 1 := by omega
            refine P_tswIn (off := 33) (tgt := 76) dX6_session_43 (by rw [vsw_int c43 (by decide)]; decide) (by rw [vsw_int c43 (by decide)]; decide) (by rw [vsw_int c43 (by decide)]; rfl) (by decide) ?_
            refine P_aload dX6_session_76 rfl ?_
            refine P_getr (t := b + 3 + 6 + 13 * mk + 9 + 2) dX6_session_78 kX4 fX6_183 rfl (by decide) (hT.k1.m (by omega)).ps.o (hT.k1.m (by omega)).ps.c1 (hT.k1.m (by omega)).ps.a2.1.2 ?_
            refine P_iload_n dX6_session_81 rfl rfl ?_
            refine P_ialdN (x := nI (((gH S mk).getD kk t0).2.1)) (kk) dX6_session_82 (hT.k1.m (by omega)).ps.a2 rfl (by omega) (by decide) ((hC.m (by omega)).h.d (by omega)).2.1 ?_
            refine P_iret dX6_session_83 rfl ?_
            exact g_ret ((if_neg (gt_f (by rw [hm1, nn (by omega), idx_ok kk1 (by omega)]; rfl))).trans ((if_neg (gt_f hgi9)).trans (by rw [nn (by omega), nn (by omega), nn (by omega), c43]; rfl))) hK vOw.rf
          · replace c43 : wk = 2 := by omega
            refine P_tswIn (off := 41) (tgt := 84) dX6_session_43 (by rw [vsw_int c43 (by decide)]; decide) (by rw [vsw_int c43 (by decide)]; decide) (by rw [vsw_int c43 (by decide)]; rfl) (by decide) ?_
            refine P_aload dX6_session_84 rfl ?_
            refine P_getr (t := b + 3 + 6 + 13 * mk + 9 + 3) dX6_session_86 kX4 fX6_186 rfl (by decide) (hT.k1.m (by omega)).ps.o (hT.k1.m (by omega)).ps.c2 (hT.k1.m (by omega)).ps.a3.1.2 ?_
            refine P_iload_n dX6_session_89 rfl rfl ?_
            refine P_ialdN (x := nI (((gH S mk).getD kk t0).2.2)) (kk) dX6_session_90 (hT.k1.m (by omega)).ps.a3 rfl (by omega) (by decide) ((hC.m (by omega)).h.d (by omega)).2.2 ?_
            refine P_iret dX6_session_91 rfl ?_
            exact g_ret ((if_neg (gt_f (by rw [hm1, nn (by omega), idx_ok kk1 (by omega)]; rfl))).trans ((if_neg (gt_f hgi9)).trans (by rw [nn (by omega), nn (by omega), nn (by omega), c43]; rfl))) hK vOw.rf
      · have hgo := of_decide_eq_false hgi
        refine P_tswOut (tgt := 92) dX6_session_43 (by omega) (by decide) ?_
        refine P_throw (text := "what is not 0 to 2") vExA rfl (by decide +kernel) dX6_session_92 dX6_session_95 dX6_session_96 dX6_session_98 dX6_session_101 ⟨Nat.le_of_ble_eq_true rfl, Nat.le_of_ble_eq_true rfl⟩ (by decide) ?_
        exact g_thr (k := 1) ((if_neg (gt_f (by rw [hm1, nn (by omega), idx_ok kk1 (by omega)]; rfl))).trans (if_pos hgi)) rfl
    · refine P_throw (text := "there is no such session") vExO rfl (by decide +kernel) dX6_session_32 dX6_session_35 dX6_session_36 dX6_session_38 dX6_session_41 ⟨Nat.le_of_ble_eq_true rfl, Nat.le_of_ble_eq_true rfl⟩ (by decide) ?_
      exact g_thr (k := 0) (if_pos (by rw [hm1, nn (by omega), idx_hi (by omega) c29]; rfl)) rfl
set_option maxHeartbeats 4000000 in
set_option maxRecDepth 100000 in
theorem c_X6_note {σ : vS} {v : vV} {c b n : Nat} {S : mS} {t : mN} {D : List mC} {sl : Nat → Option mC} {k w : Int32} (hT : kLT σ b) (hK : KT v b ((t, n), (c, S), D, sl)) {B : Nat} (hG : GI B ((t, n), (c, S), D, sl)) (hB : B + 6000000 < 1000000000) (hf : σ.2.2.2 = false) : vCX M_X6_note yX6_note [.ref (b), .int (k), .int (w)] (σ, v) (qG σ v (fun v9 T => KT v9 b T) (fun v9 => vOw v v9 b 1603) (gNm [xIO, xIA]) (g_note ((t, n), (c, S), D, sl) k w)) := by
  have hC : CR c v (b + 3) S := hK.c
  have hN : NB c S B := hG.1.1
  have hI : Iv c 1 S := hG.1.2
  have hc6 := hC.c6
  have ht : mTC v (b + 1) t n := hK.t
  refine vCX_of (ls := [some (.ref (b)), some (.int (k)), some (.int (w))]) pn_X6 rfl rfl (Nat.le_of_ble_eq_true rfl) rfl ?_
  refine P_iload_n dX6_note_0 rfl rfl ?_
  refine P_if_lt (tgt := 18) dX6_note_1 (by decide) (fun c1 => ?_) (fun c1 => ?_)
  · refine P_throw (text := "there is no such note") vExO rfl (by decide +kernel) dX6_note_18 dX6_note_21 dX6_note_22 dX6_note_24 dX6_note_27 ⟨Nat.le_of_ble_eq_true rfl, Nat.le_of_ble_eq_true rfl⟩ (by decide) ?_
    exact g_thr (k := 0) (if_pos (idx_lo c1)) rfl
  · refine P_iload_n dX6_note_4 rfl rfl ?_
    refine P_aload_n dX6_note_5 rfl rfl ?_
    refine P_getr (t := b + 3) dX6_note_6 kX6 fX6_19 rfl (by decide) hT.o hT.r1 hT.k1.o.1.2 ?_
    refine P_getr (t := b + 3 + 2) dX6_note_9 kX0 fX6_98 rfl (by decide) hT.k1.o hT.k1.r1 hT.k1.k2.1.2 ?_
    refine P_getiN (x := nI ((gN S).length)) dX6_note_12 kX3 fX6_102 rfl (by decide) hT.k1.k2 hC.p3 ?_
    refine P_icmp_lt (tgt := 28) dX6_note_15 (by decide) (fun c15 => ?_) (fun c15 => ?_)
    · obtain ⟨kk, kk1, rfl⟩ := idx_nat (by have := hN.b.2.2; omega) c1 c15
      have hl9 := hN.b.2.2
      refine P_iload_n dX6_note_28 rfl rfl ?_
      refine P_if_lt (tgt := 38) dX6_note_29 (by decide) (fun c29 => ?_) (fun c29 => ?_)
      · refine P_throw (text := "what is not 0 to 5") vExA rfl (by decide +kernel) dX6_note_38 dX6_note_41 dX6_note_42 dX6_note_44 dX6_note_47 ⟨Nat.le_of_ble_eq_true rfl, Nat.le_of_ble_eq_true rfl⟩ (by decide) ?_
        exact g_thr (k := 1) ((if_neg (gt_f (idx_ok kk1 (by omega)))).trans (if_pos (gin_lo (lo := 0) (by decide) c29))) rfl
      · refine P_iload_n dX6_note_32 rfl rfl ?_
        refine P_bipush (v := nI 6) dX6_note_33 (by decide) ?_
        refine P_icmp_lt (tgt := 48) dX6_note_35 (by decide) (fun c35 => ?_) (fun c35 => ?_)
        · have hgi9 : gin w 0 5 = true := gin_ok c29 (fun q => by rw [i_lt, nI_toInt (by decide)] at c35 q; omega) (by decide) (by decide)
          obtain ⟨wk, wk0, wk1, rfl⟩ := gin_n (by decide) hgi9
          refine P_aload_n dX6_note_48 rfl rfl ?_
          refine P_getr (t := b + 3) dX6_note_49 kX6 fX6_19 rfl (by decide) hT.o hT.r1 hT.k1.o.1.2 ?_
          refine P_getr (t := b + 3 + 2) dX6_note_52 kX0 fX6_98 rfl (by decide) hT.k1.o hT.k1.r1 hT.k1.k2.1.2 ?_
          refine P_getr (t := b + 3 + 4) dX6_note_55 kX3 fX6_194 rfl (by decide) hT.k1.k2 hT.k1.p1 hT.k1.k4.1.2 ?_
          refine P_iload_n dX6_note_58 rfl rfl ?_
          refine P_bipush (v := nI 9) dX6_note_59 (by decide) ?_
          refine P_imulN dX6_note_61 ?_
          refine P_iload_n dX6_note_62 rfl rfl ?_
          refine P_iaddN dX6_note_63 ?_
          refine P_ialdN (x := nI (xc ((gN S).getD kk n0) wk)) (kk * 9 + wk) dX6_note_64 hT.k1.k4 rfl (by omega) (by decide) (by rw [show kk * 9 + wk = 9 * kk + wk by omega]; exact hC.xd (by omega) (by omega)) ?_
          refine P_iret dX6_note_65 rfl ?_
          exact g_ret ((if_neg (gt_f (idx_ok kk1 (by omega)))).trans ((if_neg (gt_f hgi9)).trans (by rw [nn (by omega), nn (by omega)]))) hK vOw.rf
        · refine P_throw (text := "what is not 0 to 5") vExA rfl (by decide +kernel) dX6_note_38 dX6_note_41 dX6_note_42 dX6_note_44 dX6_note_47 ⟨Nat.le_of_ble_eq_true rfl, Nat.le_of_ble_eq_true rfl⟩ (by decide) ?_
          exact g_thr (k := 1) ((if_neg (gt_f (idx_ok kk1 (by omega)))).trans (if_pos (gin_hi (by decide) (by rw [i_lt, nI_toInt (by decide)] at c35 ⊢; omega)))) rfl
    · refine P_throw (text := "there is no such note") vExO rfl (by decide +kernel) dX6_note_18 dX6_note_21 dX6_note_22 dX6_note_24 dX6_note_27 ⟨Nat.le_of_ble_eq_true rfl, Nat.le_of_ble_eq_true rfl⟩ (by decide) ?_
      exact g_thr (k := 0) (if_pos (idx_hi (by have := hN.b.2.2; omega) c15)) rfl
set_option maxHeartbeats 4000000 in
set_option maxRecDepth 100000 in
theorem c_X6_isCut {σ : vS} {v : vV} {c b n : Nat} {S : mS} {t : mN} {D : List mC} {sl : Nat → Option mC} {a d : Int32} (hT : kLT σ b) (hK : KT v b ((t, n), (c, S), D, sl)) {B : Nat} (hG : GI B ((t, n), (c, S), D, sl)) (hB : B + 6000000 < 1000000000) (hf : σ.2.2.2 = false) : vCX M_X6_isCut yX6_isCut [.ref (b), .int (a), .int (d)] (σ, v) (qG σ v (fun v9 T => KT v9 b T) (fun v9 => vOw v v9 b 1603) (gNm [xIO]) (g_isCut ((t, n), (c, S), D, sl) a d)) := by
  have hC : CR c v (b + 3) S := hK.c
  have hN : NB c S B := hG.1.1
  have hI : Iv c 1 S := hG.1.2
  have hc6 := hC.c6
  have ht : mTC v (b + 1) t n := hK.t
  refine vCX_of (ls := [some (.ref (b)), some (.int (a)), some (.int (d))]) pn_X6 rfl rfl (Nat.le_of_ble_eq_true rfl) rfl ?_
  refine P_aload_n dX6_isCut_0 rfl rfl ?_
  refine P_iload_n dX6_isCut_1 rfl rfl ?_
  refine P_callVX (rest := []) (As := [.int (a)]) dX6_isCut_2 lX6_125 yk_X6_checkMember yv_X6_checkMember kX6 rfl (by decide) hT.o rfl rfl (Nat.le_of_ble_eq_true rfl) (by decide) (c_X6_checkMember hT hC) (fun o9 μ9 h9 hf9 => by obtain ⟨-, rfl, -⟩ := h9; exact absurd (hf.symm.trans hf9) Bool.false_ne_true) (fun Ex μ9 h9 => ?_) ?_
  · obtain ⟨rfl, rfl, hm1⟩ := h9
    exact g_thr (k := 0) (if_pos (by rw [hm1]; rfl)) rfl
  rintro o9 μ9 ⟨rfl, rfl, hm1⟩
  obtain ⟨ak, hk2, rfl⟩ := mb_nat hC.c6 hm1
  refine P_aload_n dX6_isCut_5 rfl rfl ?_
  refine P_iload_n dX6_isCut_6 rfl rfl ?_
  refine P_callVX (rest := []) (As := [.int (d)]) dX6_isCut_7 lX6_125 yk_X6_checkMember yv_X6_checkMember kX6 rfl (by decide) hT.o rfl rfl (Nat.le_of_ble_eq_true rfl) (by decide) (c_X6_checkMember hT hC) (fun o9 μ9 h9 hf9 => by obtain ⟨-, rfl, -⟩ := h9; exact absurd (hf.symm.trans hf9) Bool.false_ne_true) (fun Ex μ9 h9 => ?_) ?_
  · obtain ⟨rfl, rfl, hm3⟩ := h9
    exact g_thr (k := 0) (if_pos (by rw [hm1, hm3]; rfl)) rfl
  rintro o9 μ9 ⟨rfl, rfl, hm3⟩
  obtain ⟨dk, hk4, rfl⟩ := mb_nat hC.c6 hm3
  refine P_aload_n dX6_isCut_10 rfl rfl ?_
  refine P_getr (t := b + 3) dX6_isCut_11 kX6 fX6_19 rfl (by decide) hT.o hT.r1 hT.k1.o.1.2 ?_
  refine P_getr (t := b + 3 + 2) dX6_isCut_14 kX0 fX6_98 rfl (by decide) hT.k1.o hT.k1.r1 hT.k1.k2.1.2 ?_
  refine P_iload_n dX6_isCut_17 rfl rfl ?_
  refine P_iload_n dX6_isCut_18 rfl rfl ?_
  refine P_cVp (rest := []) (As := [.int (nI (ak)), .int (nI (dk))]) dX6_isCut_19 lX6_197 yk_X3_isCutBetween yv_X3_isCutBetween kX3 rfl (by decide) hT.k1.k2 rfl rfl (Nat.le_of_ble_eq_true rfl) rfl (c_X3_isCutBetween hT.k1 hC hN (by omega) (by omega) (by omega)) ?_
  refine P_bif_eq (tgt := 29) dX6_isCut_22 (by decide) (fun c22 => ?_) (fun c22 => ?_)
  · refine P_iconst (v := nI 0) dX6_isCut_29 (by decide) ?_
    refine P_iret dX6_isCut_30 rfl ?_
    exact g_ret ((if_neg (gt_f (by rw [hm1, hm3]; rfl))).trans (by rw [nn (by omega), nn (by omega), c22]; rfl)) hK vOw.rf
  · refine P_iconst (v := nI 1) dX6_isCut_25 (by decide) ?_
    refine P_goto (tgt := 30) dX6_isCut_26 (by decide) ?_
    refine P_iret dX6_isCut_30 rfl ?_
    exact g_ret ((if_neg (gt_f (by rw [hm1, hm3]; rfl))).trans (by rw [nn (by omega), nn (by omega), c22]; rfl)) hK vOw.rf
set_option maxHeartbeats 4000000 in
set_option maxRecDepth 100000 in
theorem c_X6_member {σ : vS} {v : vV} {c b n : Nat} {S : mS} {t : mN} {D : List mC} {sl : Nat → Option mC} {p : Int32} (hT : kLT σ b) (hK : KT v b ((t, n), (c, S), D, sl)) {B : Nat} (hG : GI B ((t, n), (c, S), D, sl)) (hB : B + 6000000 < 1000000000) (hf : σ.2.2.2 = false) : vCX M_X6_member yX6_member [.ref (b), .int (p)] (σ, v) (qG σ v (fun v9 T => KT v9 b T) (fun v9 => vOw v v9 b 1603) (gNm [xIA, xIS]) (g_member ((t, n), (c, S), D, sl) p)) := by
  have hC : CR c v (b + 3) S := hK.c
  have hN : NB c S B := hG.1.1
  have hI : Iv c 1 S := hG.1.2
  have hc6 := hC.c6
  have ht : mTC v (b + 1) t n := hK.t
  refine vCX_of (ls := [some (.ref (b)), some (.int (p))]) pn_X6 rfl rfl (Nat.le_of_ble_eq_true rfl) rfl ?_
  refine P_iload_n dX6_member_0 rfl rfl ?_
  refine P_cSp (rest := []) (As := [.int (p)]) dX6_member_1 lX6_201 yk_X6_isPlace ys_X6_isPlace (by decide) rfl rfl (Nat.le_of_ble_eq_true rfl) rfl c_X6_isPlace ?_
  refine P_bif_ne (tgt := 17) dX6_member_4 (by decide) (fun c4 => ?_) (fun c4 => ?_)
  · have hgi9 := c4
    obtain ⟨pk, pk0, pk1, rfl⟩ := gin_n (lo := 0) (hi := 9) (by decide) c4
    refine P_aload_n dX6_member_17 rfl rfl ?_
    refine P_getr (t := b + 3) dX6_member_18 kX6 fX6_19 rfl (by decide) hT.o hT.r1 hT.k1.o.1.2 ?_
    refine P_getiN (x := nI (c)) dX6_member_21 kX0 fX6_94 rfl (by decide) hT.k1.o hC.g3 ?_
    refine P_bipush (v := nI 6) dX6_member_24 (by decide) ?_
    refine P_icmp_ltN (tgt := 39) dX6_member_26 (by decide) (by omega) (by omega) (fun c26 => ?_) (fun c26 => ?_)
    · refine P_aload_n dX6_member_39 rfl rfl ?_
      refine P_getr (t := b + 255) dX6_member_40 kX6 fX6_32 rfl (by decide) hT.o hT.r4 hT.h.1.1.2 ?_
      refine P_aload_n dX6_member_43 rfl rfl ?_
      refine P_getr (t := b + 3) dX6_member_44 kX6 fX6_19 rfl (by decide) hT.o hT.r1 hT.k1.o.1.2 ?_
      refine P_cVs (rest := []) (As := [.ref (b + 3)]) dX6_member_47 lX6_209 yk_X1_remember yv_X1_remember kX1 rfl (by decide) hT.h.1 rfl rfl (Nat.le_of_ble_eq_true rfl) rfl (c_X1_remember hT.h hT.k1 (by omega) hC hK.d) (fun v5 ⟨hD1, hw2⟩ => ?_)
      have hK3 := hK.hist hw2 hD1
      have hC4 : CR c v5 (b + 3) S := hC.ow hw2 (by omega)
      refine P_aload_n dX6_member_50 rfl rfl ?_
      refine P_getr (t := b + 3) dX6_member_51 kX6 fX6_19 rfl (by decide) hT.o hT.r1 hT.k1.o.1.2 ?_
      refine P_iload_n dX6_member_54 rfl rfl ?_
      refine P_cVs (rest := []) (As := [.int (nI (pk))]) dX6_member_55 lX6_212 yk_X0_addMember yv_X0_addMember kX0 rfl (by decide) hT.k1.o rfl rfl (Nat.le_of_ble_eq_true rfl) rfl (c_X0_addMember hT.k1 hC4 (by omega)) (fun v9 ⟨hC6, hw7⟩ => ?_)
      have hK8 := hK3.club (X := (c + 1, madd S pk)) hw7 hC6
      refine P_iret dX6_member_58 rfl ?_
      exact g_ret ((if_neg (gt_f hgi9)).trans ((if_neg (by omega)).trans (by rw [nn (by omega)]; rfl))) hK8 ((vOw.rf.tr (hw2.mono (by omega) (by omega))).tr (hw7.mono (by omega) (by omega)))
    · refine P_throw (text := "there are 6 members") vExS rfl (by decide +kernel) dX6_member_29 dX6_member_32 dX6_member_33 dX6_member_35 dX6_member_38 ⟨Nat.le_of_ble_eq_true rfl, Nat.le_of_ble_eq_true rfl⟩ (by decide) ?_
      exact g_thr (k := 1) ((if_neg (gt_f hgi9)).trans (if_pos (by omega))) rfl
  · refine P_throw (text := "the place is not 0 to 9") vExA rfl (by decide +kernel) dX6_member_7 dX6_member_10 dX6_member_11 dX6_member_13 dX6_member_16 ⟨Nat.le_of_ble_eq_true rfl, Nat.le_of_ble_eq_true rfl⟩ (by decide) ?_
    exact g_thr (k := 0) (if_pos c4) rfl
set_option maxHeartbeats 4000000 in
set_option maxRecDepth 100000 in
theorem c_X6_say {σ : vS} {v : vV} {c b n : Nat} {S : mS} {t : mN} {D : List mC} {sl : Nat → Option mC} {m : Int32} (hT : kLT σ b) (hK : KT v b ((t, n), (c, S), D, sl)) {B : Nat} (hG : GI B ((t, n), (c, S), D, sl)) (hB : B + 6000000 < 1000000000) (hf : σ.2.2.2 = false) : vCX M_X6_say yX6_say [.ref (b), .int (m)] (σ, v) (qG σ v (fun v9 T => KT v9 b T) (fun v9 => vOw v v9 b 1603) (gNm [xIO, xIS]) (g_say ((t, n), (c, S), D, sl) m)) := by
  have hC : CR c v (b + 3) S := hK.c
  have hN : NB c S B := hG.1.1
  have hI : Iv c 1 S := hG.1.2
  have hc6 := hC.c6
  have ht : mTC v (b + 1) t n := hK.t
  refine vCX_of (ls := [some (.ref (b)), some (.int (m))]) pn_X6 rfl rfl (Nat.le_of_ble_eq_true rfl) rfl ?_
  refine P_aload_n dX6_say_0 rfl rfl ?_
  refine P_iload_n dX6_say_1 rfl rfl ?_
  refine P_callVX (rest := []) (As := [.int (m)]) dX6_say_2 lX6_125 yk_X6_checkMember yv_X6_checkMember kX6 rfl (by decide) hT.o rfl rfl (Nat.le_of_ble_eq_true rfl) (by decide) (c_X6_checkMember hT hC) (fun o9 μ9 h9 hf9 => by obtain ⟨-, rfl, -⟩ := h9; exact absurd (hf.symm.trans hf9) Bool.false_ne_true) (fun Ex μ9 h9 => ?_) ?_
  · obtain ⟨rfl, rfl, hm1⟩ := h9
    exact g_thr (k := 0) (if_pos hm1) rfl
  rintro o9 μ9 ⟨rfl, rfl, hm1⟩
  obtain ⟨mk, hk2, rfl⟩ := mb_nat hC.c6 hm1
  refine P_aload_n dX6_say_5 rfl rfl ?_
  refine P_getr (t := b + 3) dX6_say_6 kX6 fX6_19 rfl (by decide) hT.o hT.r1 hT.k1.o.1.2 ?_
  refine P_getr (t := b + 3 + 1) dX6_say_9 kX0 fX6_128 rfl (by decide) hT.k1.o hT.k1.r0 hT.k1.k1.1.2 ?_
  refine P_iload_n dX6_say_12 rfl rfl ?_
  refine P_aaldM (t := b + 3 + 6 + 13 * mk) (mk) dX6_say_13 hT.k1.k1 rfl (by omega) (by decide) (hT.k1.e (by omega)) (hT.k1.m (by omega)).o.1.2 ?_
  refine P_cVp (rest := []) (As := []) dX6_say_14 lX6_215 yk_X2_maySpeak yv_X2_maySpeak kX2 rfl (by decide) (hT.k1.m (by omega)).o rfl rfl (Nat.le_of_ble_eq_true rfl) rfl (c_X2_maySpeak hT.k1 hC hN (by omega) (by omega)) ?_
  refine P_bif_ne (tgt := 30) dX6_say_17 (by decide) (fun c17 => ?_) (fun c17 => ?_)
  · refine P_aload_n dX6_say_30 rfl rfl ?_
    refine P_getr (t := b + 255) dX6_say_31 kX6 fX6_32 rfl (by decide) hT.o hT.r4 hT.h.1.1.2 ?_
    refine P_aload_n dX6_say_34 rfl rfl ?_
    refine P_getr (t := b + 3) dX6_say_35 kX6 fX6_19 rfl (by decide) hT.o hT.r1 hT.k1.o.1.2 ?_
    refine P_cVs (rest := []) (As := [.ref (b + 3)]) dX6_say_38 lX6_209 yk_X1_remember yv_X1_remember kX1 rfl (by decide) hT.h.1 rfl rfl (Nat.le_of_ble_eq_true rfl) rfl (c_X1_remember hT.h hT.k1 (by omega) hC hK.d) (fun v7 ⟨hD3, hw4⟩ => ?_)
    have hK5 := hK.hist hw4 hD3
    have hC6 : CR c v7 (b + 3) S := hC.ow hw4 (by omega)
    refine P_aload_n dX6_say_41 rfl rfl ?_
    refine P_getr (t := b + 3) dX6_say_42 kX6 fX6_19 rfl (by decide) hT.o hT.r1 hT.k1.o.1.2 ?_
    refine P_iload_n dX6_say_45 rfl rfl ?_
    refine P_cVs (rest := []) (As := [.int (nI (mk))]) dX6_say_46 lX6_221 yk_X0_speak yv_X0_speak kX0 rfl (by decide) hT.k1.o rfl rfl (Nat.le_of_ble_eq_true rfl) rfl (c_X0_speak hT.k1 hC6 hN (by omega) (by omega) (of_decide_eq_true c17).2) (fun v11 ⟨hC8, hw9⟩ => ?_)
    have hK10 := hK5.club (X := (c, msay S mk)) hw9 hC8
    refine P_iret dX6_say_49 rfl ?_
    exact g_ret ((if_neg (gt_f hm1)).trans ((if_neg (by rw [nn (by omega)]; exact fun q => q (of_decide_eq_true c17))).trans (by rw [nn (by omega)]; rfl))) hK10 ((vOw.rf.tr (hw4.mono (by omega) (by omega))).tr (hw9.mono (by omega) (by omega)))
  · refine P_throw (text := "the member does not sit, or made 4 speeches") vExS rfl (by decide +kernel) dX6_say_20 dX6_say_23 dX6_say_24 dX6_say_26 dX6_say_29 ⟨Nat.le_of_ble_eq_true rfl, Nat.le_of_ble_eq_true rfl⟩ (by decide) ?_
    exact g_thr (k := 1) ((if_neg (gt_f hm1)).trans (if_pos (by rw [nn (by omega)]; exact of_decide_eq_false c17))) rfl
set_option maxHeartbeats 4000000 in
set_option maxRecDepth 100000 in
theorem c_X6_call {σ : vS} {v : vV} {c b n : Nat} {S : mS} {t : mN} {D : List mC} {sl : Nat → Option mC} {m s : Int32} (hT : kLT σ b) (hK : KT v b ((t, n), (c, S), D, sl)) {B : Nat} (hG : GI B ((t, n), (c, S), D, sl)) (hB : B + 6000000 < 1000000000) (hf : σ.2.2.2 = false) : vCX M_X6_call yX6_call [.ref (b), .int (m), .int (s)] (σ, v) (qG σ v (fun v9 T => KT v9 b T) (fun v9 => vOw v v9 b 1603) (gNm [xIO, xIA, xIS]) (g_call ((t, n), (c, S), D, sl) m s)) := by
  have hC : CR c v (b + 3) S := hK.c
  have hN : NB c S B := hG.1.1
  have hI : Iv c 1 S := hG.1.2
  have hc6 := hC.c6
  have ht : mTC v (b + 1) t n := hK.t
  refine vCX_of (ls := [some (.ref (b)), some (.int (m)), some (.int (s))]) pn_X6 rfl rfl (Nat.le_of_ble_eq_true rfl) rfl ?_
  refine P_aload_n dX6_call_0 rfl rfl ?_
  refine P_iload_n dX6_call_1 rfl rfl ?_
  refine P_callVX (rest := []) (As := [.int (m)]) dX6_call_2 lX6_125 yk_X6_checkMember yv_X6_checkMember kX6 rfl (by decide) hT.o rfl rfl (Nat.le_of_ble_eq_true rfl) (by decide) (c_X6_checkMember hT hC) (fun o9 μ9 h9 hf9 => by obtain ⟨-, rfl, -⟩ := h9; exact absurd (hf.symm.trans hf9) Bool.false_ne_true) (fun Ex μ9 h9 => ?_) ?_
  · obtain ⟨rfl, rfl, hm1⟩ := h9
    exact g_thr (k := 0) (if_pos hm1) rfl
  rintro o9 μ9 ⟨rfl, rfl, hm1⟩
  obtain ⟨mk, hk2, rfl⟩ := mb_nat hC.c6 hm1
  refine P_aload_n dX6_call_5 rfl rfl ?_
  refine P_getr (t := b + 3) dX6_call_6 kX6 fX6_19 rfl (by decide) hT.o hT.r1 hT.k1.o.1.2 ?_
  refine P_iload_n dX6_call_9 rfl rfl ?_
  refine P_iload_n dX6_call_10 rfl rfl ?_
  refine P_cVp (rest := []) (As := [.int (nI (mk)), .int (s)]) dX6_call_11 lX6_224 yk_X0_isRollWith yv_X0_isRollWith kX0 rfl (by decide) hT.k1.o rfl rfl (Nat.le_of_ble_eq_true rfl) rfl (c_X0_isRollWith hT.k1 hC (by omega)) ?_
  refine P_bif_ne (tgt := 27) dX6_call_14 (by decide) (fun c14 => ?_) (fun c14 => ?_)
  · obtain ⟨sk, sk1, rfl⟩ : ∃ k, k < 2 ^ c ∧ s = nI k := by
      have q9 := of_decide_eq_true (Bool.and_eq_true_iff.mp c14).1
      have e9 : ((2 : Int) ^ c) = ((2 ^ c : Nat) : Int) := by norm_cast
      rw [e9] at q9
      have := two_c hc6
      exact ⟨s.toInt.toNat, by omega, nI_of_toInt (by omega) (by omega)⟩
    have h64 := two_c hc6
    have hst : sk.testBit mk = true := by have q9 := (Bool.and_eq_true_iff.mp c14).2; rw [nn (by omega)] at q9; exact q9
    obtain ⟨F, hMP, -⟩ := hI.2
    refine P_aload_n dX6_call_27 rfl rfl ?_
    refine P_getr (t := b + 3) dX6_call_28 kX6 fX6_19 rfl (by decide) hT.o hT.r1 hT.k1.o.1.2 ?_
    refine P_iload_n dX6_call_31 rfl rfl ?_
    refine P_cVp (rest := []) (As := [.int (nI (mk))]) dX6_call_32 lX6_229 yk_X0_isGone yv_X0_isGone kX0 rfl (by decide) hT.k1.o rfl rfl (Nat.le_of_ble_eq_true rfl) rfl (c_X0_isGone hT.k1 hC hN (by omega) (by omega)) ?_
    refine P_bif_eq (tgt := 48) dX6_call_35 (by decide) (fun c35 => ?_) (fun c35 => ?_)
    · refine P_aload_n dX6_call_48 rfl rfl ?_
      refine P_getr (t := b + 255) dX6_call_49 kX6 fX6_32 rfl (by decide) hT.o hT.r4 hT.h.1.1.2 ?_
      refine P_aload_n dX6_call_52 rfl rfl ?_
      refine P_getr (t := b + 3) dX6_call_53 kX6 fX6_19 rfl (by decide) hT.o hT.r1 hT.k1.o.1.2 ?_
      refine P_cVs (rest := []) (As := [.ref (b + 3)]) dX6_call_56 lX6_209 yk_X1_remember yv_X1_remember kX1 rfl (by decide) hT.h.1 rfl rfl (Nat.le_of_ble_eq_true rfl) rfl (c_X1_remember hT.h hT.k1 (by omega) hC hK.d) (fun v7 ⟨hD3, hw4⟩ => ?_)
      have hK5 := hK.hist hw4 hD3
      have hC6 : CR c v7 (b + 3) S := hC.ow hw4 (by omega)
      refine P_aload_n dX6_call_59 rfl rfl ?_
      refine P_getr (t := b + 3) dX6_call_60 kX6 fX6_19 rfl (by decide) hT.o hT.r1 hT.k1.o.1.2 ?_
      refine P_iload_n dX6_call_63 rfl rfl ?_
      refine P_iload_n dX6_call_64 rfl rfl ?_
      refine P_cVs (rest := []) (As := [.int (nI (mk)), .int (nI (sk))]) dX6_call_65 lX6_234 yk_X0_callRoll yv_X0_callRoll kX0 rfl (by decide) hT.k1.o rfl rfl (Nat.le_of_ble_eq_true rfl) rfl (c_X0_callRoll hT.k1 hC6 hN (by omega) (by omega) (by omega) hst (hMP mk (by omega)).1.1) (fun v11 ⟨hC8, hw9⟩ => ?_)
      have hK10 := hK5.club (X := (c, mcall S mk sk)) hw9 hC8
      refine P_iret dX6_call_68 rfl ?_
      exact g_ret ((if_neg (gt_f hm1)).trans ((if_neg (gt_f (by rw [nn (by omega)]; exact c14))).trans ((if_neg (by rw [nn (by omega)]; exact of_decide_eq_false c35)).trans (by rw [nn (by omega), nn (by omega)]; rfl)))) hK10 ((vOw.rf.tr (hw4.mono (by omega) (by omega))).tr (hw9.mono (by omega) (by omega)))
    · refine P_throw (text := "the member is gone") vExS rfl (by decide +kernel) dX6_call_38 dX6_call_41 dX6_call_42 dX6_call_44 dX6_call_47 ⟨Nat.le_of_ble_eq_true rfl, Nat.le_of_ble_eq_true rfl⟩ (by decide) ?_
      exact g_thr (k := 2) ((if_neg (gt_f hm1)).trans ((if_neg (gt_f (by rw [nn (by omega)]; exact c14))).trans (if_pos (by rw [nn (by omega)]; exact of_decide_eq_true c35)))) rfl
  · refine P_throw (text := "the set has members that there are not, or lacks the caller") vExA rfl (by decide +kernel) dX6_call_17 dX6_call_20 dX6_call_21 dX6_call_23 dX6_call_26 ⟨Nat.le_of_ble_eq_true rfl, Nat.le_of_ble_eq_true rfl⟩ (by decide) ?_
    exact g_thr (k := 1) ((if_neg (gt_f hm1)).trans (if_pos (by rw [nn (by omega)]; exact c14))) rfl
set_option maxHeartbeats 4000000 in
set_option maxRecDepth 100000 in
theorem c_X6_cut {σ : vS} {v : vV} {c b n : Nat} {S : mS} {t : mN} {D : List mC} {sl : Nat → Option mC} {a d : Int32} {z : Bool} (hT : kLT σ b) (hK : KT v b ((t, n), (c, S), D, sl)) {B : Nat} (hG : GI B ((t, n), (c, S), D, sl)) (hB : B + 6000000 < 1000000000) (hf : σ.2.2.2 = false) : vCX M_X6_cut yX6_cut [.ref (b), .int (a), .int (d), .int (vb (z))] (σ, v) (qG σ v (fun v9 T => KT v9 b T) (fun v9 => vOw v v9 b 1603) (gNm [xIO, xIA]) (g_cut ((t, n), (c, S), D, sl) a d z)) := by
  have hC : CR c v (b + 3) S := hK.c
  have hN : NB c S B := hG.1.1
  have hI : Iv c 1 S := hG.1.2
  have hc6 := hC.c6
  have ht : mTC v (b + 1) t n := hK.t
  refine vCX_of (ls := [some (.ref (b)), some (.int (a)), some (.int (d)), some (.int (vb (z)))]) pn_X6 rfl rfl (Nat.le_of_ble_eq_true rfl) rfl ?_
  refine P_aload_n dX6_cut_0 rfl rfl ?_
  refine P_iload_n dX6_cut_1 rfl rfl ?_
  refine P_callVX (rest := []) (As := [.int (a)]) dX6_cut_2 lX6_125 yk_X6_checkMember yv_X6_checkMember kX6 rfl (by decide) hT.o rfl rfl (Nat.le_of_ble_eq_true rfl) (by decide) (c_X6_checkMember hT hC) (fun o9 μ9 h9 hf9 => by obtain ⟨-, rfl, -⟩ := h9; exact absurd (hf.symm.trans hf9) Bool.false_ne_true) (fun Ex μ9 h9 => ?_) ?_
  · obtain ⟨rfl, rfl, hm1⟩ := h9
    exact g_thr (k := 0) (if_pos (by rw [hm1]; rfl)) rfl
  rintro o9 μ9 ⟨rfl, rfl, hm1⟩
  obtain ⟨ak, hk2, rfl⟩ := mb_nat hC.c6 hm1
  refine P_aload_n dX6_cut_5 rfl rfl ?_
  refine P_iload_n dX6_cut_6 rfl rfl ?_
  refine P_callVX (rest := []) (As := [.int (d)]) dX6_cut_7 lX6_125 yk_X6_checkMember yv_X6_checkMember kX6 rfl (by decide) hT.o rfl rfl (Nat.le_of_ble_eq_true rfl) (by decide) (c_X6_checkMember hT hC) (fun o9 μ9 h9 hf9 => by obtain ⟨-, rfl, -⟩ := h9; exact absurd (hf.symm.trans hf9) Bool.false_ne_true) (fun Ex μ9 h9 => ?_) ?_
  · obtain ⟨rfl, rfl, hm3⟩ := h9
    exact g_thr (k := 0) (if_pos (by rw [hm1, hm3]; rfl)) rfl
  rintro o9 μ9 ⟨rfl, rfl, hm3⟩
  obtain ⟨dk, hk4, rfl⟩ := mb_nat hC.c6 hm3
  refine P_iload_n dX6_cut_10 rfl rfl ?_
  refine P_iload_n dX6_cut_11 rfl rfl ?_
  refine P_icmp_neN (tgt := 25) dX6_cut_12 (by decide) (by omega) (by omega) (fun c12 => ?_) (fun c12 => ?_)
  · refine P_aload_n dX6_cut_25 rfl rfl ?_
    refine P_getr (t := b + 255) dX6_cut_26 kX6 fX6_32 rfl (by decide) hT.o hT.r4 hT.h.1.1.2 ?_
    refine P_aload_n dX6_cut_29 rfl rfl ?_
    refine P_getr (t := b + 3) dX6_cut_30 kX6 fX6_19 rfl (by decide) hT.o hT.r1 hT.k1.o.1.2 ?_
    refine P_cVs (rest := []) (As := [.ref (b + 3)]) dX6_cut_33 lX6_209 yk_X1_remember yv_X1_remember kX1 rfl (by decide) hT.h.1 rfl rfl (Nat.le_of_ble_eq_true rfl) rfl (c_X1_remember hT.h hT.k1 (by omega) hC hK.d) (fun v9 ⟨hD5, hw6⟩ => ?_)
    have hK7 := hK.hist hw6 hD5
    have hC8 : CR c v9 (b + 3) S := hC.ow hw6 (by omega)
    refine P_aload_n dX6_cut_36 rfl rfl ?_
    refine P_getr (t := b + 3) dX6_cut_37 kX6 fX6_19 rfl (by decide) hT.o hT.r1 hT.k1.o.1.2 ?_
    refine P_getr (t := b + 3 + 2) dX6_cut_40 kX0 fX6_98 rfl (by decide) hT.k1.o hT.k1.r1 hT.k1.k2.1.2 ?_
    refine P_iload_n dX6_cut_43 rfl rfl ?_
    refine P_iload_n dX6_cut_44 rfl rfl ?_
    refine P_iload_n dX6_cut_45 rfl rfl ?_
    refine P_cVs (rest := []) (As := [.int (nI (ak)), .int (nI (dk)), .int (vb (z))]) dX6_cut_46 lX6_240 yk_X3_changeWay yv_X3_changeWay kX3 rfl (by decide) hT.k1.k2 rfl rfl (Nat.le_of_ble_eq_true rfl) rfl (c_X3_changeWay hT.k1 hC8 hN (by omega) (by omega) (by omega) c12 hI.1.2.2.2.1) (fun v13 ⟨hC10, hw11⟩ => ?_)
    have hK12 := hK7.club (X := (c, mcut S ak dk z)) hw11 hC10
    refine P_aload_n dX6_cut_49 rfl rfl ?_
    refine P_getr (t := b + 3) dX6_cut_50 kX6 fX6_19 rfl (by decide) hT.o hT.r1 hT.k1.o.1.2 ?_
    refine P_getr (t := b + 3 + 2) dX6_cut_53 kX0 fX6_98 rfl (by decide) hT.k1.o hT.k1.r1 hT.k1.k2.1.2 ?_
    refine P_getiN (x := nI (mways (mcut S ak dk z))) dX6_cut_56 kX3 fX6_244 rfl (by decide) hT.k1.k2 hC10.p2 ?_
    refine P_iret dX6_cut_59 rfl ?_
    exact g_ret ((if_neg (gt_f (by rw [hm1, hm3]; rfl))).trans ((if_neg (fun q => c12 ((nI_eq (by omega) (by omega)).mp q))).trans (by rw [nn (by omega), nn (by omega)]; rfl))) hK12 ((vOw.rf.tr (hw6.mono (by omega) (by omega))).tr (hw11.mono (by omega) (by omega)))
  · refine P_throw (text := "there is no way from a member to itself") vExA rfl (by decide +kernel) dX6_cut_15 dX6_cut_18 dX6_cut_19 dX6_cut_21 dX6_cut_24 ⟨Nat.le_of_ble_eq_true rfl, Nat.le_of_ble_eq_true rfl⟩ (by decide) ?_
    exact g_thr (k := 1) ((if_neg (gt_f (by rw [hm1, hm3]; rfl))).trans (if_pos (by rw [c12]))) rfl
set_option maxHeartbeats 4000000 in
set_option maxRecDepth 100000 in
theorem c_X6_leave {σ : vS} {v : vV} {c b n : Nat} {S : mS} {t : mN} {D : List mC} {sl : Nat → Option mC} {m : Int32} (hT : kLT σ b) (hK : KT v b ((t, n), (c, S), D, sl)) {B : Nat} (hG : GI B ((t, n), (c, S), D, sl)) (hB : B + 6000000 < 1000000000) (hf : σ.2.2.2 = false) : vCX M_X6_leave yX6_leave [.ref (b), .int (m)] (σ, v) (qG σ v (fun v9 T => KT v9 b T) (fun v9 => vOw v v9 b 1603) (gNm [xIO, xIS]) (g_leave ((t, n), (c, S), D, sl) m)) := by
  have hC : CR c v (b + 3) S := hK.c
  have hN : NB c S B := hG.1.1
  have hI : Iv c 1 S := hG.1.2
  have hc6 := hC.c6
  have ht : mTC v (b + 1) t n := hK.t
  refine vCX_of (ls := [some (.ref (b)), some (.int (m))]) pn_X6 rfl rfl (Nat.le_of_ble_eq_true rfl) rfl ?_
  refine P_aload_n dX6_leave_0 rfl rfl ?_
  refine P_iload_n dX6_leave_1 rfl rfl ?_
  refine P_callVX (rest := []) (As := [.int (m)]) dX6_leave_2 lX6_125 yk_X6_checkMember yv_X6_checkMember kX6 rfl (by decide) hT.o rfl rfl (Nat.le_of_ble_eq_true rfl) (by decide) (c_X6_checkMember hT hC) (fun o9 μ9 h9 hf9 => by obtain ⟨-, rfl, -⟩ := h9; exact absurd (hf.symm.trans hf9) Bool.false_ne_true) (fun Ex μ9 h9 => ?_) ?_
  · obtain ⟨rfl, rfl, hm1⟩ := h9
    exact g_thr (k := 0) (if_pos hm1) rfl
  rintro o9 μ9 ⟨rfl, rfl, hm1⟩
  obtain ⟨mk, hk2, rfl⟩ := mb_nat hC.c6 hm1
  refine P_aload_n dX6_leave_5 rfl rfl ?_
  refine P_getr (t := b + 3) dX6_leave_6 kX6 fX6_19 rfl (by decide) hT.o hT.r1 hT.k1.o.1.2 ?_
  refine P_iload_n dX6_leave_9 rfl rfl ?_
  refine P_cVp (rest := []) (As := [.int (nI (mk))]) dX6_leave_10 lX6_229 yk_X0_isGone yv_X0_isGone kX0 rfl (by decide) hT.k1.o rfl rfl (Nat.le_of_ble_eq_true rfl) rfl (c_X0_isGone hT.k1 hC hN (by omega) (by omega)) ?_
  refine P_bif_eq (tgt := 26) dX6_leave_13 (by decide) (fun c13 => ?_) (fun c13 => ?_)
  · refine P_aload_n dX6_leave_26 rfl rfl ?_
    refine P_getr (t := b + 255) dX6_leave_27 kX6 fX6_32 rfl (by decide) hT.o hT.r4 hT.h.1.1.2 ?_
    refine P_aload_n dX6_leave_30 rfl rfl ?_
    refine P_getr (t := b + 3) dX6_leave_31 kX6 fX6_19 rfl (by decide) hT.o hT.r1 hT.k1.o.1.2 ?_
    refine P_cVs (rest := []) (As := [.ref (b + 3)]) dX6_leave_34 lX6_209 yk_X1_remember yv_X1_remember kX1 rfl (by decide) hT.h.1 rfl rfl (Nat.le_of_ble_eq_true rfl) rfl (c_X1_remember hT.h hT.k1 (by omega) hC hK.d) (fun v7 ⟨hD3, hw4⟩ => ?_)
    have hK5 := hK.hist hw4 hD3
    have hC6 : CR c v7 (b + 3) S := hC.ow hw4 (by omega)
    refine P_aload_n dX6_leave_37 rfl rfl ?_
    refine P_getr (t := b + 3) dX6_leave_38 kX6 fX6_19 rfl (by decide) hT.o hT.r1 hT.k1.o.1.2 ?_
    refine P_getr (t := b + 3 + 1) dX6_leave_41 kX0 fX6_128 rfl (by decide) hT.k1.o hT.k1.r0 hT.k1.k1.1.2 ?_
    refine P_iload_n dX6_leave_44 rfl rfl ?_
    refine P_aaldM (t := b + 3 + 6 + 13 * mk) (mk) dX6_leave_45 hT.k1.k1 rfl (by omega) (by decide) (hT.k1.e (by omega)) (hT.k1.m (by omega)).o.1.2 ?_
    refine P_cVs (rest := []) (As := []) dX6_leave_46 lX6_247 yk_X2_goAway yv_X2_goAway kX2 rfl (by decide) (hT.k1.m (by omega)).o rfl rfl (Nat.le_of_ble_eq_true rfl) rfl (c_X2_goAway hT.k1 hC6 (by omega)) (fun v11 ⟨hC8, hw9⟩ => ?_)
    have hK10 := hK5.club (X := (c, mleave S mk)) hw9 hC8
    refine P_aload_n dX6_leave_49 rfl rfl ?_
    refine P_getr (t := b + 3) dX6_leave_50 kX6 fX6_19 rfl (by decide) hT.o hT.r1 hT.k1.o.1.2 ?_
    refine P_getr (t := b + 3 + 1) dX6_leave_53 kX0 fX6_128 rfl (by decide) hT.k1.o hT.k1.r0 hT.k1.k1.1.2 ?_
    refine P_iload_n dX6_leave_56 rfl rfl ?_
    refine P_aaldM (t := b + 3 + 6 + 13 * mk) (mk) dX6_leave_57 hT.k1.k1 rfl (by omega) (by decide) (hT.k1.e (by omega)) (hT.k1.m (by omega)).o.1.2 ?_
    refine P_getiN (x := nI (gM (mleave S mk) mk 2)) dX6_leave_58 kX2 fX6_140 rfl (by decide) (hT.k1.m (by omega)).o ((hC8.m (by omega)).w (by decide)) ?_
    refine P_iret dX6_leave_61 rfl ?_
    exact g_ret ((if_neg (gt_f hm1)).trans ((if_neg (by rw [nn (by omega)]; exact of_decide_eq_false c13)).trans (by rw [nn (by omega), mleave2]; rfl))) hK10 ((vOw.rf.tr (hw4.mono (by omega) (by omega))).tr (hw9.mono (by omega) (by omega)))
  · refine P_throw (text := "the member is gone") vExS rfl (by decide +kernel) dX6_leave_16 dX6_leave_19 dX6_leave_20 dX6_leave_22 dX6_leave_25 ⟨Nat.le_of_ble_eq_true rfl, Nat.le_of_ble_eq_true rfl⟩ (by decide) ?_
    exact g_thr (k := 1) ((if_neg (gt_f hm1)).trans (if_pos (by rw [nn (by omega)]; exact of_decide_eq_true c13))) rfl
set_option maxHeartbeats 4000000 in
set_option maxRecDepth 100000 in
theorem c_X6_back {σ : vS} {v : vV} {c b n : Nat} {S : mS} {t : mN} {D : List mC} {sl : Nat → Option mC} {m : Int32} (hT : kLT σ b) (hK : KT v b ((t, n), (c, S), D, sl)) {B : Nat} (hG : GI B ((t, n), (c, S), D, sl)) (hB : B + 6000000 < 1000000000) (hf : σ.2.2.2 = false) : vCX M_X6_back yX6_back [.ref (b), .int (m)] (σ, v) (qG σ v (fun v9 T => KT v9 b T) (fun v9 => vOw v v9 b 1603) (gNm [xIO, xIS]) (g_back ((t, n), (c, S), D, sl) m)) := by
  have hC : CR c v (b + 3) S := hK.c
  have hN : NB c S B := hG.1.1
  have hI : Iv c 1 S := hG.1.2
  have hc6 := hC.c6
  have ht : mTC v (b + 1) t n := hK.t
  refine vCX_of (ls := [some (.ref (b)), some (.int (m))]) pn_X6 rfl rfl (Nat.le_of_ble_eq_true rfl) rfl ?_
  refine P_aload_n dX6_back_0 rfl rfl ?_
  refine P_iload_n dX6_back_1 rfl rfl ?_
  refine P_callVX (rest := []) (As := [.int (m)]) dX6_back_2 lX6_125 yk_X6_checkMember yv_X6_checkMember kX6 rfl (by decide) hT.o rfl rfl (Nat.le_of_ble_eq_true rfl) (by decide) (c_X6_checkMember hT hC) (fun o9 μ9 h9 hf9 => by obtain ⟨-, rfl, -⟩ := h9; exact absurd (hf.symm.trans hf9) Bool.false_ne_true) (fun Ex μ9 h9 => ?_) ?_
  · obtain ⟨rfl, rfl, hm1⟩ := h9
    exact g_thr (k := 0) (if_pos hm1) rfl
  rintro o9 μ9 ⟨rfl, rfl, hm1⟩
  obtain ⟨mk, hk2, rfl⟩ := mb_nat hC.c6 hm1
  refine P_aload_n dX6_back_5 rfl rfl ?_
  refine P_getr (t := b + 3) dX6_back_6 kX6 fX6_19 rfl (by decide) hT.o hT.r1 hT.k1.o.1.2 ?_
  refine P_iload_n dX6_back_9 rfl rfl ?_
  refine P_cVp (rest := []) (As := [.int (nI (mk))]) dX6_back_10 lX6_229 yk_X0_isGone yv_X0_isGone kX0 rfl (by decide) hT.k1.o rfl rfl (Nat.le_of_ble_eq_true rfl) rfl (c_X0_isGone hT.k1 hC hN (by omega) (by omega)) ?_
  refine P_bif_ne (tgt := 26) dX6_back_13 (by decide) (fun c13 => ?_) (fun c13 => ?_)
  · obtain ⟨F, hMP, -⟩ := hI.2
    obtain ⟨o1, o2, o3, o4, o5, o6, o7, o8⟩ := (hMP mk (by omega)).1
    have z1 := of_decide_eq_true c13
    obtain ⟨z9, zk⟩ := o8 z1
    refine P_aload_n dX6_back_26 rfl rfl ?_
    refine P_getr (t := b + 255) dX6_back_27 kX6 fX6_32 rfl (by decide) hT.o hT.r4 hT.h.1.1.2 ?_
    refine P_aload_n dX6_back_30 rfl rfl ?_
    refine P_getr (t := b + 3) dX6_back_31 kX6 fX6_19 rfl (by decide) hT.o hT.r1 hT.k1.o.1.2 ?_
    refine P_cVs (rest := []) (As := [.ref (b + 3)]) dX6_back_34 lX6_209 yk_X1_remember yv_X1_remember kX1 rfl (by decide) hT.h.1 rfl rfl (Nat.le_of_ble_eq_true rfl) rfl (c_X1_remember hT.h hT.k1 (by omega) hC hK.d) (fun v7 ⟨hD3, hw4⟩ => ?_)
    have hK5 := hK.hist hw4 hD3
    have hC6 : CR c v7 (b + 3) S := hC.ow hw4 (by omega)
    refine P_aload_n dX6_back_37 rfl rfl ?_
    refine P_getr (t := b + 3) dX6_back_38 kX6 fX6_19 rfl (by decide) hT.o hT.r1 hT.k1.o.1.2 ?_
    refine P_getr (t := b + 3 + 1) dX6_back_41 kX0 fX6_128 rfl (by decide) hT.k1.o hT.k1.r0 hT.k1.k1.1.2 ?_
    refine P_iload_n dX6_back_44 rfl rfl ?_
    refine P_aaldM (t := b + 3 + 6 + 13 * mk) (mk) dX6_back_45 hT.k1.k1 rfl (by omega) (by decide) (hT.k1.e (by omega)) (hT.k1.m (by omega)).o.1.2 ?_
    refine P_cVs (rest := []) (As := []) dX6_back_46 lX6_252 yk_X2_comeBack yv_X2_comeBack kX2 rfl (by decide) (hT.k1.m (by omega)).o rfl rfl (Nat.le_of_ble_eq_true rfl) rfl (c_X2_comeBack hT.k1 hC6 hN (by omega) (by omega) zk (o6 z9).1 z9 (o6 z9).2 o1) (fun v11 ⟨hC8, hw9⟩ => ?_)
    have hK10 := hK5.club (X := (c, mback S mk)) hw9 hC8
    refine P_aload_n dX6_back_49 rfl rfl ?_
    refine P_getr (t := b + 3) dX6_back_50 kX6 fX6_19 rfl (by decide) hT.o hT.r1 hT.k1.o.1.2 ?_
    refine P_getr (t := b + 3 + 1) dX6_back_53 kX0 fX6_128 rfl (by decide) hT.k1.o hT.k1.r0 hT.k1.k1.1.2 ?_
    refine P_iload_n dX6_back_56 rfl rfl ?_
    refine P_aaldM (t := b + 3 + 6 + 13 * mk) (mk) dX6_back_57 hT.k1.k1 rfl (by omega) (by decide) (hT.k1.e (by omega)) (hT.k1.m (by omega)).o.1.2 ?_
    refine P_getiN (x := nI (gM (mback S mk) mk 2)) dX6_back_58 kX2 fX6_140 rfl (by decide) (hT.k1.m (by omega)).o ((hC8.m (by omega)).w (by decide)) ?_
    refine P_iret dX6_back_61 rfl ?_
    exact g_ret ((if_neg (gt_f hm1)).trans ((if_neg (by rw [nn (by omega)]; exact fun q => q z1)).trans (by rw [nn (by omega), mback2]; rfl))) hK10 ((vOw.rf.tr (hw4.mono (by omega) (by omega))).tr (hw9.mono (by omega) (by omega)))
  · refine P_throw (text := "the member is not gone") vExS rfl (by decide +kernel) dX6_back_16 dX6_back_19 dX6_back_20 dX6_back_22 dX6_back_25 ⟨Nat.le_of_ble_eq_true rfl, Nat.le_of_ble_eq_true rfl⟩ (by decide) ?_
    exact g_thr (k := 1) ((if_neg (gt_f hm1)).trans (if_pos (by rw [nn (by omega)]; exact of_decide_eq_false c13))) rfl
set_option maxHeartbeats 4000000 in
set_option maxRecDepth 100000 in
theorem c_X6_set {σ : vS} {v : vV} {c b n : Nat} {S : mS} {t : mN} {D : List mC} {sl : Nat → Option mC} {a : Int32} (hT : kLT σ b) (hK : KT v b ((t, n), (c, S), D, sl)) {B : Nat} (hG : GI B ((t, n), (c, S), D, sl)) (hB : B + 6000000 < 1000000000) (hf : σ.2.2.2 = false) : vCX M_X6_set yX6_set [.ref (b), .int (a)] (σ, v) (qG σ v (fun v9 T => KT v9 b T) (fun v9 => vOw v v9 b 1603) (gNm [xIA]) (g_set ((t, n), (c, S), D, sl) a)) := by
  have hC : CR c v (b + 3) S := hK.c
  have hN : NB c S B := hG.1.1
  have hI : Iv c 1 S := hG.1.2
  have hc6 := hC.c6
  have ht : mTC v (b + 1) t n := hK.t
  refine vCX_of (ls := [some (.ref (b)), some (.int (a)), none]) pn_X6 rfl rfl (Nat.le_of_ble_eq_true rfl) rfl ?_
  refine P_iload_n dX6_set_0 rfl rfl ?_
  refine P_cSp (rest := []) (As := [.int (a)]) dX6_set_1 lX6_255 yk_X6_isPatience ys_X6_isPatience (by decide) rfl rfl (Nat.le_of_ble_eq_true rfl) rfl c_X6_isPatience ?_
  refine P_bif_ne (tgt := 18) dX6_set_4 (by decide) (fun c4 => ?_) (fun c4 => ?_)
  · have hgi9 := c4
    obtain ⟨ak, ak0, ak1, rfl⟩ := gin_n (lo := 0) (hi := 40) (by decide) c4
    refine P_aload_n dX6_set_18 rfl rfl ?_
    refine P_getr (t := b + 255) dX6_set_19 kX6 fX6_32 rfl (by decide) hT.o hT.r4 hT.h.1.1.2 ?_
    refine P_aload_n dX6_set_22 rfl rfl ?_
    refine P_getr (t := b + 3) dX6_set_23 kX6 fX6_19 rfl (by decide) hT.o hT.r1 hT.k1.o.1.2 ?_
    refine P_cVs (rest := []) (As := [.ref (b + 3)]) dX6_set_26 lX6_209 yk_X1_remember yv_X1_remember kX1 rfl (by decide) hT.h.1 rfl rfl (Nat.le_of_ble_eq_true rfl) rfl (c_X1_remember hT.h hT.k1 (by omega) hC hK.d) (fun v5 ⟨hD1, hw2⟩ => ?_)
    have hK3 := hK.hist hw2 hD1
    have hC4 : CR c v5 (b + 3) S := hC.ow hw2 (by omega)
    refine P_aload_n dX6_set_29 rfl rfl ?_
    refine P_getr (t := b + 3) dX6_set_30 kX6 fX6_19 rfl (by decide) hT.o hT.r1 hT.k1.o.1.2 ?_
    refine P_getiN (x := nI (gG S 7)) dX6_set_33 kX0 fX6_120 rfl (by decide) hT.k1.o hC4.g5 ?_
    refine P_istore_n (ls2 := [some (.ref (b)), some (.int (nI (ak))), some (.int (nI (gG S 7)))]) dX6_set_36 rfl (by decide) rfl ?_
    refine P_aload_n dX6_set_37 rfl rfl ?_
    refine P_getr (t := b + 3) dX6_set_38 kX6 fX6_19 rfl (by decide) hT.o hT.r1 hT.k1.o.1.2 ?_
    refine P_iload_n dX6_set_41 rfl rfl ?_
    refine P_puti dX6_set_42 kX0 fX6_120 rfl (by decide) rfl hT.k1.o ?_
    have hC9 := hC4.G (k := 5) (i := 7) (x := ak) (by decide)
    have hK9 := hK3.club (X := (c, sG S 7 ak)) (vOw.rf.u (n := b + 3) (k := 5) (x := nI ak) (by omega) (by omega)) hC9
    refine P_iload_n dX6_set_45 rfl rfl ?_
    refine P_iret dX6_set_46 rfl ?_
    exact g_ret ((if_neg (gt_f hgi9)).trans (by rw [nn (by omega)]; rfl)) hK9 ((vOw.rf.tr (hw2.mono (by omega) (by omega))).u (n := b + 3) (by omega) (by omega))
  · refine P_throwW (text := "the patience is not 0 to 40") vExA rfl (by decide +kernel) dX6_set_7 dX6_set_10 dX6_set_11 dX6_set_14 dX6_set_17 ⟨Nat.le_of_ble_eq_true rfl, Nat.le_of_ble_eq_true rfl⟩ (by decide) ?_
    exact g_thr (k := 0) (if_pos c4) rfl
set_option maxHeartbeats 4000000 in
set_option maxRecDepth 100000 in
theorem c_X6_ticks {σ : vS} {v : vV} {c b n : Nat} {S : mS} {t : mN} {D : List mC} {sl : Nat → Option mC} {a : Int32} (hT : kLT σ b) (hK : KT v b ((t, n), (c, S), D, sl)) {B : Nat} (hG : GI B ((t, n), (c, S), D, sl)) (hB : B + 6000000 < 1000000000) (hf : σ.2.2.2 = false) : vCX M_X6_ticks yX6_ticks [.ref (b), .int (a)] (σ, v) (qG σ v (fun v9 T => KT v9 b T) (fun v9 => vOw v v9 b 1603) (gNm [xIA]) (g_ticks ((t, n), (c, S), D, sl) a)) := by
  have hC : CR c v (b + 3) S := hK.c
  have hN : NB c S B := hG.1.1
  have hI : Iv c 1 S := hG.1.2
  have hc6 := hC.c6
  have ht : mTC v (b + 1) t n := hK.t
  refine vCX_of (ls := [some (.ref (b)), some (.int (a)), none]) pn_X6 rfl rfl (Nat.le_of_ble_eq_true rfl) rfl ?_
  refine P_iload_n dX6_ticks_0 rfl rfl ?_
  refine P_cSp (rest := []) (As := [.int (a)]) dX6_ticks_1 lX6_260 yk_X6_areTicks ys_X6_areTicks (by decide) rfl rfl (Nat.le_of_ble_eq_true rfl) rfl c_X6_areTicks ?_
  refine P_bif_ne (tgt := 18) dX6_ticks_4 (by decide) (fun c4 => ?_) (fun c4 => ?_)
  · have hgi9 := c4
    obtain ⟨ak, ak0, ak1, rfl⟩ := gin_n (lo := 1) (hi := 60) (by decide) c4
    refine P_aload_n dX6_ticks_18 rfl rfl ?_
    refine P_getr (t := b + 255) dX6_ticks_19 kX6 fX6_32 rfl (by decide) hT.o hT.r4 hT.h.1.1.2 ?_
    refine P_aload_n dX6_ticks_22 rfl rfl ?_
    refine P_getr (t := b + 3) dX6_ticks_23 kX6 fX6_19 rfl (by decide) hT.o hT.r1 hT.k1.o.1.2 ?_
    refine P_cVs (rest := []) (As := [.ref (b + 3)]) dX6_ticks_26 lX6_209 yk_X1_remember yv_X1_remember kX1 rfl (by decide) hT.h.1 rfl rfl (Nat.le_of_ble_eq_true rfl) rfl (c_X1_remember hT.h hT.k1 (by omega) hC hK.d) (fun v5 ⟨hD1, hw2⟩ => ?_)
    have hK3 := hK.hist hw2 hD1
    have hC4 : CR c v5 (b + 3) S := hC.ow hw2 (by omega)
    refine P_aload_n dX6_ticks_29 rfl rfl ?_
    refine P_getr (t := b + 3) dX6_ticks_30 kX6 fX6_19 rfl (by decide) hT.o hT.r1 hT.k1.o.1.2 ?_
    refine P_getiN (x := nI (gG S 6)) dX6_ticks_33 kX0 fX6_114 rfl (by decide) hT.k1.o hC4.g8 ?_
    refine P_istore_n (ls2 := [some (.ref (b)), some (.int (nI (ak))), some (.int (nI (gG S 6)))]) dX6_ticks_36 rfl (by decide) rfl ?_
    refine P_aload_n dX6_ticks_37 rfl rfl ?_
    refine P_getr (t := b + 3) dX6_ticks_38 kX6 fX6_19 rfl (by decide) hT.o hT.r1 hT.k1.o.1.2 ?_
    refine P_iload_n dX6_ticks_41 rfl rfl ?_
    refine P_cVs (rest := []) (As := [.int (nI (ak))]) dX6_ticks_42 lX6_265 yk_X0_letTicksGo yv_X0_letTicksGo kX0 rfl (by decide) hT.k1.o rfl rfl (Nat.le_of_ble_eq_true rfl) rfl (c_X0_letTicksGo hT.k1 hC4 hN (by omega) hI (by omega)) (fun v9 ⟨hC6, hw7⟩ => ?_)
    have hK8 := hK3.club (X := (c, mticks ak S)) hw7 hC6
    refine P_aload_n dX6_ticks_45 rfl rfl ?_
    refine P_getr (t := b + 3) dX6_ticks_46 kX6 fX6_19 rfl (by decide) hT.o hT.r1 hT.k1.o.1.2 ?_
    refine P_getiN (x := nI (gG (mticks ak S) 6)) dX6_ticks_49 kX0 fX6_114 rfl (by decide) hT.k1.o hC6.g8 ?_
    refine P_iload_n dX6_ticks_52 rfl rfl ?_
    refine P_isubN dX6_ticks_53 (by exact ticks_6 ak) ?_
    refine P_iret dX6_ticks_54 rfl ?_
    exact g_ret ((if_neg (gt_f hgi9)).trans (by rw [nn (by omega)]; rfl)) hK8 ((vOw.rf.tr (hw2.mono (by omega) (by omega))).tr (hw7.mono (by omega) (by omega)))
  · refine P_throwW (text := "the ticks are not 1 to 60") vExA rfl (by decide +kernel) dX6_ticks_7 dX6_ticks_10 dX6_ticks_11 dX6_ticks_14 dX6_ticks_17 ⟨Nat.le_of_ble_eq_true rfl, Nat.le_of_ble_eq_true rfl⟩ (by decide) ?_
    exact g_thr (k := 0) (if_pos c4) rfl
set_option maxHeartbeats 4000000 in
set_option maxRecDepth 100000 in
theorem c_X6_compare {σ : vS} {v : vV} {c b n : Nat} {S : mS} {t : mN} {D : List mC} {sl : Nat → Option mC} {a d w : Int32} (hT : kLT σ b) (hK : KT v b ((t, n), (c, S), D, sl)) {B : Nat} (hG : GI B ((t, n), (c, S), D, sl)) (hB : B + 6000000 < 1000000000) (hf : σ.2.2.2 = false) : vCX M_X6_compare yX6_compare [.ref (b), .int (a), .int (d), .int (w)] (σ, v) (qG σ v (fun v9 T => KT v9 b T) (fun v9 => vOw v v9 b 1603) (gNm [xIO, xIA]) (g_compare ((t, n), (c, S), D, sl) a d w)) := by
  have hC : CR c v (b + 3) S := hK.c
  have hN : NB c S B := hG.1.1
  have hI : Iv c 1 S := hG.1.2
  have hc6 := hC.c6
  have ht : mTC v (b + 1) t n := hK.t
  refine vCX_of (ls := [some (.ref (b)), some (.int (a)), some (.int (d)), some (.int (w))]) pn_X6 rfl rfl (Nat.le_of_ble_eq_true rfl) rfl ?_
  refine P_aload_n dX6_compare_0 rfl rfl ?_
  refine P_iload_n dX6_compare_1 rfl rfl ?_
  refine P_callVX (rest := []) (As := [.int (a)]) dX6_compare_2 lX6_125 yk_X6_checkMember yv_X6_checkMember kX6 rfl (by decide) hT.o rfl rfl (Nat.le_of_ble_eq_true rfl) (by decide) (c_X6_checkMember hT hC) (fun o9 μ9 h9 hf9 => by obtain ⟨-, rfl, -⟩ := h9; exact absurd (hf.symm.trans hf9) Bool.false_ne_true) (fun Ex μ9 h9 => ?_) ?_
  · obtain ⟨rfl, rfl, hm1⟩ := h9
    exact g_thr (k := 0) (if_pos (by rw [hm1]; rfl)) rfl
  rintro o9 μ9 ⟨rfl, rfl, hm1⟩
  obtain ⟨ak, hk2, rfl⟩ := mb_nat hC.c6 hm1
  refine P_aload_n dX6_compare_5 rfl rfl ?_
  refine P_iload_n dX6_compare_6 rfl rfl ?_
  refine P_callVX (rest := []) (As := [.int (d)]) dX6_compare_7 lX6_125 yk_X6_checkMember yv_X6_checkMember kX6 rfl (by decide) hT.o rfl rfl (Nat.le_of_ble_eq_true rfl) (by decide) (c_X6_checkMember hT hC) (fun o9 μ9 h9 hf9 => by obtain ⟨-, rfl, -⟩ := h9; exact absurd (hf.symm.trans hf9) Bool.false_ne_true) (fun Ex μ9 h9 => ?_) ?_
  · obtain ⟨rfl, rfl, hm3⟩ := h9
    exact g_thr (k := 0) (if_pos (by rw [hm1, hm3]; rfl)) rfl
  rintro o9 μ9 ⟨rfl, rfl, hm3⟩
  obtain ⟨dk, hk4, rfl⟩ := mb_nat hC.c6 hm3
  refine P_iload_n dX6_compare_10 rfl rfl ?_
  rcases Bool.eq_false_or_eq_true (gin w 0 1) with hgi | hgi
  · have hgi9 := hgi
    obtain ⟨wk, wk0, wk1, rfl⟩ := gin_n (by decide) hgi
    by_cases c11_0 : wk = 0
    · refine P_lsw (off := 25) (tgt := 36) dX6_compare_11 (by decide) (by rw [vsw_int c11_0 (by decide)]; rfl) (by decide) ?_
      refine P_aload_n dX6_compare_36 rfl rfl ?_
      refine P_getr (t := b + 3) dX6_compare_37 kX6 fX6_19 rfl (by decide) hT.o hT.r1 hT.k1.o.1.2 ?_
      refine P_iload_n dX6_compare_40 rfl rfl ?_
      refine P_iload_n dX6_compare_41 rfl rfl ?_
      refine P_iconst (v := nI 0) dX6_compare_42 (by decide) ?_
      refine P_top (y := vb false) (vb_f rfl) ?_
      refine P_cVp (rest := []) (As := [.int (nI (ak)), .int (nI (dk)), .int (vb (false))]) dX6_compare_43 lX6_282 yk_X0_sharedSessions yv_X0_sharedSessions kX0 rfl (by decide) hT.k1.o rfl rfl (Nat.le_of_ble_eq_true rfl) rfl (c_X0_sharedSessions (un := false) (w := 0) rfl hT.k1 hC hN (by omega) (by omega) (by omega)) ?_
      refine P_iret dX6_compare_46 rfl ?_
      exact g_ret ((if_neg (gt_f (by rw [hm1, hm3]; rfl))).trans ((if_neg (gt_f hgi9)).trans (by rw [nn (by omega), nn (by omega), nn (by omega), c11_0]))) hK vOw.rf
    by_cases c11_1 : wk = 1
    · refine P_lsw (off := 36) (tgt := 47) dX6_compare_11 (by decide) (by rw [vsw_int c11_1 (by decide)]; rfl) (by decide) ?_
      refine P_aload_n dX6_compare_47 rfl rfl ?_
      refine P_getr (t := b + 3) dX6_compare_48 kX6 fX6_19 rfl (by decide) hT.o hT.r1 hT.k1.o.1.2 ?_
      refine P_iload_n dX6_compare_51 rfl rfl ?_
      refine P_iload_n dX6_compare_52 rfl rfl ?_
      refine P_iconst (v := nI 1) dX6_compare_53 (by decide) ?_
      refine P_top (y := vb true) (vb_t rfl) ?_
      refine P_cVp (rest := []) (As := [.int (nI (ak)), .int (nI (dk)), .int (vb (true))]) dX6_compare_54 lX6_282 yk_X0_sharedSessions yv_X0_sharedSessions kX0 rfl (by decide) hT.k1.o rfl rfl (Nat.le_of_ble_eq_true rfl) rfl (c_X0_sharedSessions (un := true) (w := 1) rfl hT.k1 hC hN (by omega) (by omega) (by omega)) ?_
      refine P_iret dX6_compare_57 rfl ?_
      exact g_ret ((if_neg (gt_f (by rw [hm1, hm3]; rfl))).trans ((if_neg (gt_f hgi9)).trans (by rw [nn (by omega), nn (by omega), nn (by omega), c11_1]))) hK vOw.rf
    refine P_lsw (off := 47) (tgt := 58) dX6_compare_11 (by decide) (by show Op.lookupswitch.offset [(0, 25), (1, 36)] (47) (nI (wk)).toInt = (47); rw [nI_toInt (by omega), Op.lookupswitch.offset_cons, if_neg (by omega), Op.lookupswitch.offset_cons, if_neg (by omega), Op.lookupswitch.offset_nil]) (by decide) ?_
    refine P_throwW (text := "what is neither 0 nor 1") vExA rfl (by decide +kernel) dX6_compare_58 dX6_compare_61 dX6_compare_62 dX6_compare_65 dX6_compare_68 ⟨Nat.le_of_ble_eq_true rfl, Nat.le_of_ble_eq_true rfl⟩ (by decide) ?_
    exact absurd c11_0 (by omega)
  · have hgo := of_decide_eq_false hgi
    refine P_lsw (off := 47) (tgt := 58) dX6_compare_11 (by decide) (by show Op.lookupswitch.offset [(0, 25), (1, 36)] (47) (w).toInt = (47); rw [Op.lookupswitch.offset_cons, if_neg (by omega), Op.lookupswitch.offset_cons, if_neg (by omega), Op.lookupswitch.offset_nil]) (by decide) ?_
    refine P_throwW (text := "what is neither 0 nor 1") vExA rfl (by decide +kernel) dX6_compare_58 dX6_compare_61 dX6_compare_62 dX6_compare_65 dX6_compare_68 ⟨Nat.le_of_ble_eq_true rfl, Nat.le_of_ble_eq_true rfl⟩ (by decide) ?_
    exact g_thr (k := 1) ((if_neg (gt_f (by rw [hm1, hm3]; rfl))).trans (if_pos hgi)) rfl
