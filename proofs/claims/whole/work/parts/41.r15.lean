
theorem mp1_n {F : Option Nat × Nat} (h : F.1 = none) : mp1 F = (none, F.2) := by unfold mp1; rw [h]; rfl
theorem mp1_s {F : Option Nat × Nat} {a : Nat} (h : F.1 = some a) : mp1 F = (some (a, 0), F.2) := by unfold mp1; rw [h]; rfl
theorem mp2_n {F : Option Nat × Nat} {f : Nat → Option Nat × Nat} (h : F.1 = none) : mp2 F f = (none, F.2) := by unfold mp2; rw [h]; rfl
theorem mp2_sn {F : Option Nat × Nat} {f : Nat → Option Nat × Nat} {a : Nat} (h : F.1 = some a) (h2 : (f F.2).1 = none) : mp2 F f = (none, (f F.2).2) := by unfold mp2; rw [h]; show ((f F.2).1.map _, _) = _; rw [h2]; rfl
theorem mp2_ss {F : Option Nat × Nat} {f : Nat → Option Nat × Nat} {a b : Nat} (h : F.1 = some a) (h2 : (f F.2).1 = some b) : mp2 F f = (some (a, b), (f F.2).2) := by unfold mp2; rw [h]; show ((f F.2).1.map _, _) = _; rw [h2]; rfl
theorem mp_m {t : mN} {n s : Nat} (h : t s = 109) : mparse t n s = mp1 (mfig1 t n 0 9 0 (s + 1)) := if_pos h
theorem mp_w {t : mN} {n s : Nat} (h : t s = 115 ∨ t s = 103 ∨ t s = 98) : mparse t n s = mp1 (mfig1 t n 0 5 0 (s + 1)) := by unfold mparse; rw [if_neg (by omega), if_pos h]
theorem mp_c {t : mN} {n s : Nat} (h : t s = 99) : mparse t n s = mp2 (mfig1 t n 0 5 0 (s + 1)) (mfig2 t n 1 63) := by unfold mparse; rw [if_neg (by omega), if_neg (by omega), if_pos h]
theorem mp_x {t : mN} {n s : Nat} (h : t s = 120) : mparse t n s = mp2 (mfig1 t n 0 5 0 (s + 1)) (mfig1 t n 0 5 0) := by unfold mparse; rw [if_neg (by omega), if_neg (by omega), if_neg (by omega), if_pos h]
theorem mp_p {t : mN} {n s : Nat} (h : t s = 112) : mparse t n s = mp1 (mfig2 t n 0 40 (s + 1)) := by unfold mparse; rw [if_neg (by omega), if_neg (by omega), if_neg (by omega), if_neg (by omega), if_pos h]
theorem mp_t {t : mN} {n s : Nat} (h : t s = 116) : mparse t n s = mp1 (mfig2 t n 1 60 (s + 1)) := by unfold mparse; rw [if_neg (by omega), if_neg (by omega), if_neg (by omega), if_neg (by omega), if_neg (by omega), if_pos h]
theorem mp_0 {t : mN} {n s : Nat} (h : t s ≠ 109 ∧ t s ≠ 115 ∧ t s ≠ 103 ∧ t s ≠ 98 ∧ t s ≠ 99 ∧ t s ≠ 120 ∧ t s ≠ 112 ∧ t s ≠ 116) : mparse t n s = (none, s) := by unfold mparse; rw [if_neg (by omega), if_neg (by omega), if_neg (by omega), if_neg (by omega), if_neg (by omega), if_neg (by omega)]
theorem mx_m {ch a b : Nat} {X : mC} (h : ch = 109) : mexec ch a b X = kAdd X a := by subst h; rfl
theorem mx_s {ch a b : Nat} {X : mC} (h : ch = 115) : mexec ch a b X = kSay X a := by subst h; rfl
theorem mx_c {ch a b : Nat} {X : mC} (h : ch = 99) : mexec ch a b X = kCall X a b := by subst h; rfl
theorem mx_x {ch a b : Nat} {X : mC} (h : ch = 120) : mexec ch a b X = kCut X a b true := by subst h; rfl
theorem mx_g {ch a b : Nat} {X : mC} (h : ch = 103) : mexec ch a b X = kLeave X a := by subst h; rfl
theorem mx_b {ch a b : Nat} {X : mC} (h : ch = 98) : mexec ch a b X = kBack X a := by subst h; rfl
theorem mx_p {ch a b : Nat} {X : mC} (h : ch = 112) : mexec ch a b X = kSet X a := by subst h; rfl
theorem mx_t {ch a b : Nat} {X : mC} (h : ch = 116) : mexec ch a b X = kTicks X a := by subst h; rfl
/-- what one command of a text leaves -/
def rcP (c : Nat) (v : vV) (r q : Nat) (S : mS) (t : mN) (n s o : Nat) : vV → Prop := fun v9 => v9 q 10 = nI (mparse t n s).2 ∧ vO4 v v9 r q ∧
  (mparse t n s).1.elim (RR c v9 r S ∧ v9 q 11 = nI o) (fun p => RR (mexec (t s) p.1 p.2 (c, S)).2.1 v9 r (mexec (t s) p.1 p.2 (c, S)).2.2 ∧ v9 q 11 = nI (if (mexec (t s) p.1 p.2 (c, S)).1 = true then o else o + 1))
theorem rc_no {σ : vS} {v v9 : vV} {c r q n s o k : Nat} {S : mS} {t : mN} (hp : mparse t n s = (none, k)) (hR : RR c v9 r S) (ho : v9 q 11 = nI o) (hk : v9 q 10 = nI k) (hO : vO4 v v9 r q) : vN (qS σ (some (.int (vb (mparse t n s).1.isSome))) (rcP c v r q S t n s o)) (.inl (some (.int (nI 0)))) (σ, v9) := by
  refine q_s (by rw [hp]; rfl) ?_
  unfold rcP
  rw [hp]
  exact ⟨hk, hO, hR, ho⟩
theorem rc_yes {σ : vS} {v v9 : vV} {c r q n s o k a b c9 : Nat} {S S9 : mS} {t : mN} {ok : Bool} (hp : mparse t n s = (some (a, b), k)) (he : mexec (t s) a b (c, S) = (ok, (c9, S9))) (hR : RR c9 v9 r S9) (ho : v9 q 11 = nI (if ok = true then o else o + 1)) (hk : v9 q 10 = nI k) (hO : vO4 v v9 r q) : vN (qS σ (some (.int (vb (mparse t n s).1.isSome))) (rcP c v r q S t n s o)) (.inl (some (.int (nI 1)))) (σ, v9) := by
  refine q_s (by rw [hp]; rfl) ?_
  unfold rcP
  rw [hp]
  refine ⟨hk, hO, ?_⟩
  show RR (mexec (t s) a b (c, S)).2.1 v9 r (mexec (t s) a b (c, S)).2.2 ∧ v9 q 11 = nI (if (mexec (t s) a b (c, S)).1 = true then o else o + 1)
  rw [he]
  exact ⟨hR, ho⟩

theorem sG_same {S : mS} {i : Nat} : sG S i (gG S i) = S := by
  have e : (fun j => if j = i then gG S i else S.1 j) = S.1 := by
    funext j
    by_cases h : j = i
    · rw [if_pos h, h]
    · rw [if_neg h]
  unfold sG
  rw [e]
theorem mways_le {S : mS} : mways S ≤ 72 := by
  have := msb_le (S := S) 6
  unfold mways
  omega
set_option maxHeartbeats 4000000 in
set_option maxRecDepth 100000 in
theorem c_X7_readCommand {σ : vS} {v : vV} {c r : Nat} {S : mS} {q n s o B : Nat} {t : mN} (hq : LR σ q) (hr : vK σ r 8 2012) (hR : RR c v r S) (hrq : r ≠ q) (hr1 : r ≠ q + 1) (hrq7 : r ≠ q + 7) (hX : KC B (c, S)) (hB : B + 100000 < 1000000000) (htx : mTX v q t n) (hsp : v q 10 = nI s) (hs : s < n) (ho : v q 11 = nI o) : vC M_X7_readCommand yX7_readCommand [.ref (q), .ref (r)] (σ, v) (qS σ (some (.int (vb (mparse t n s).1.isSome))) (rcP c v r q S t n s o)) := by
  have hc6 := hR.c6
  have hO : vO4 v v r q := vO4.rf
  have hN : NB c S B := hX.1
  refine vC_of (ls := [some (.ref (q)), some (.ref (r)), none, none, none]) pn_X7 rfl rfl (Nat.le_of_ble_eq_true rfl) rfl ?_
  refine P_aload_n dX7_readCommand_0 rfl rfl ?_
  refine P_getr (t := q + 1) dX7_readCommand_1 kX7 fX7_7 rfl (by decide) hq.o hq.r1 hq.k1.1.2 ?_
  refine P_aload_n dX7_readCommand_4 rfl rfl ?_
  refine P_getiN (x := nI (s)) dX7_readCommand_5 kX7 fX7_133 rfl (by decide) hq.o hsp ?_
  refine P_ialdN (x := nI (t s)) (s) dX7_readCommand_8 hq.k1 rfl (by have := htx.1; omega) (by decide) (htx.2.2 _ (by omega)).1 ?_
  refine P_istore_n (ls2 := [some (.ref (q)), some (.ref (r)), some (.int (nI (t s))), none, none]) dX7_readCommand_9 rfl (by decide) rfl ?_
  refine P_aload_n dX7_readCommand_10 rfl rfl ?_
  refine P_dup dX7_readCommand_11 rfl ?_
  refine P_getiN (x := nI (s)) dX7_readCommand_12 kX7 fX7_133 rfl (by decide) hq.o hsp ?_
  refine P_iconst (v := nI 1) dX7_readCommand_15 (by decide) ?_
  refine P_iaddN dX7_readCommand_16 ?_
  refine P_puti dX7_readCommand_17 kX7 fX7_133 rfl (by decide) rfl hq.o ?_
  have hR1 : RR c (vU v q 10 (nI (s + 1))) r S := hR.of (fun i _ => by rw [vU_ne hrq])
  have hO2 : vO4 v (vU v q 10 (nI (s + 1))) r q := hO.tr (vU_F.o4 (Or.inl rfl))
  have hs3 : (vU v q 10 (nI (s + 1))) q 10 = nI (s + 1) := vU_s
  have ho4 : (vU v q 10 (nI (s + 1))) q 11 = nI o := (vU_o (by omega)).trans ho
  generalize (vU v q 10 (nI (s + 1))) = v5 at hR1 hO2 hs3 ho4 ⊢
  refine P_iload_n dX7_readCommand_20 rfl rfl ?_
  rcases vsw (t s) 98 120 (by have := (htx.2.2 s hs).2; omega) (by decide) with c21 | ⟨c21_j, c21_b, c21⟩
  · refine P_tswOut (tgt := 532) dX7_readCommand_21 (vsw_out (by have := (htx.2.2 s hs).2; omega) c21) (by decide) ?_
    refine P_aload_n dX7_readCommand_532 rfl rfl ?_
    refine P_dup dX7_readCommand_533 rfl ?_
    refine P_getiN (x := nI (s + 1)) dX7_readCommand_534 kX7 fX7_133 rfl (by decide) hq.o hs3 ?_
    refine P_iconst (v := nI 1) dX7_readCommand_537 (by decide) ?_
    refine P_isubN dX7_readCommand_538 (by omega) ?_
    refine P_puti dX7_readCommand_539 kX7 fX7_133 rfl (by decide) rfl hq.o ?_
    have hR6 : RR c (vU v5 q 10 (nI ((s + 1) - 1))) r S := hR1.of (fun i _ => by rw [vU_ne hrq])
    have hO7 : vO4 v (vU v5 q 10 (nI ((s + 1) - 1))) r q := hO2.tr (vU_F.o4 (Or.inl rfl))
    have hs8 : (vU v5 q 10 (nI ((s + 1) - 1))) q 10 = nI (s) := vU_s.trans (congrArg nI (by omega))
    have ho9 : (vU v5 q 10 (nI ((s + 1) - 1))) q 11 = nI o := (vU_o (by omega)).trans ho4
    generalize (vU v5 q 10 (nI ((s + 1) - 1))) = v10 at hR6 hO7 hs8 ho9 ⊢
    refine P_iconst (v := nI 0) dX7_readCommand_542 (by decide) ?_
    refine P_zret dX7_readCommand_543 rfl (by decide) ?_
    exact rc_no (mp_0 (by omega)) hR6 ho9 hs8 hO7
  · rcases (by omega : c21_j = 0 ∨ c21_j = 1 ∨ c21_j = 2 ∨ c21_j = 3 ∨ c21_j = 4 ∨ c21_j = 5 ∨ c21_j = 6 ∨ c21_j = 7 ∨ c21_j = 8 ∨ c21_j = 9 ∨ c21_j = 10 ∨ c21_j = 11 ∨ c21_j = 12 ∨ c21_j = 13 ∨ c21_j = 14 ∨ c21_j = 15 ∨ c21_j = 16 ∨ c21_j = 17 ∨ c21_j = 18 ∨ c21_j = 19 ∨ c21_j = 20 ∨ c21_j = 21 ∨ c21_j = 22) with q21 | q21 | q21 | q21 | q21 | q21 | q21 | q21 | q21 | q21 | q21 | q21 | q21 | q21 | q21 | q21 | q21 | q21 | q21 | q21 | q21 | q21 | q21
    · replace c21 : t s = 98 := by omega
      refine P_tswIn (off := 386) (tgt := 407) dX7_readCommand_21 (by rw [vsw_int c21 (by decide)]; decide) (by rw [vsw_int c21 (by decide)]; decide) (by rw [vsw_int c21 (by decide)]; rfl) (by decide) ?_
      refine P_aload_n dX7_readCommand_407 rfl rfl ?_
      refine P_iconst (v := nI 0) dX7_readCommand_408 (by decide) ?_
      refine P_cVs (rest := []) (As := [.int (nI (0))]) dX7_readCommand_409 lX7_153 yk_X7_who yv_X7_who kX7 rfl (by decide) hq.o rfl rfl (Nat.le_of_ble_eq_true rfl) rfl (c_X7_who hq (htx.o4 hO2 hr1) hs3 (by omega) (by omega)) (fun v11 h12 => ?_)
      have hR13 : RR c v11 r S := hR1.of (fun i _ => by rw [h12.2.ne hrq])
      have hO14 : vO4 v v11 r q := hO2.tr (h12.2.o4 (Or.inl rfl))
      have ho15 : v11 q 11 = nI o := (h12.2 q 11 (Or.inr (by decide))).trans ho4
      rcases hFa : (mfig1 t n 0 5 0 (s + 1)).1 with _ | a
      · refine P_top (y := -1) rfl ?_
        refine P_istore_n (ls2 := [some (.ref (q)), some (.ref (r)), some (.int (nI (t s))), some (.int ((-1))), none]) dX7_readCommand_412 rfl (by decide) rfl ?_
        refine P_iload_n dX7_readCommand_413 rfl rfl ?_
        refine P_iconst (v := -1) dX7_readCommand_414 (by decide) ?_
        refine P_icmp_eq (tgt := 450) dX7_readCommand_415 (by decide) (fun c415 => ?_) (fun c415 => ?_)
        · refine P_iconst (v := nI 0) dX7_readCommand_450 (by decide) ?_
          refine P_zret dX7_readCommand_451 rfl (by decide) ?_
          exact rc_no ((mp_w (Or.inr (Or.inr c21))).trans (mp1_n hFa)) hR13 ho15 h12.1 hO14
        · exact absurd rfl c415
      · refine P_top (y := nI a) rfl ?_
        obtain ⟨hla, hha⟩ := fig1_r hFa
        refine P_istore_n (ls2 := [some (.ref (q)), some (.ref (r)), some (.int (nI (t s))), some (.int (nI (a))), none]) dX7_readCommand_412 rfl (by decide) rfl ?_
        refine P_iload_n dX7_readCommand_413 rfl rfl ?_
        refine P_iconst (v := -1) dX7_readCommand_414 (by decide) ?_
        refine P_icmp_eq (tgt := 450) dX7_readCommand_415 (by decide) (fun c415 => ?_) (fun c415 => ?_)
        · exact absurd c415 (nI_nm1 (by omega))
        · refine P_aload_n dX7_readCommand_418 rfl rfl ?_
          refine P_aload_n dX7_readCommand_419 rfl rfl ?_
          refine P_iload_n dX7_readCommand_420 rfl rfl ?_
          refine P_cSp (rest := [.ref (q)]) (As := [.ref (r), .int (nI (a))]) dX7_readCommand_421 lX7_169 yk_X7_isGone ys_X7_isGone (by decide) rfl rfl (Nat.le_of_ble_eq_true rfl) rfl (c_X7_isGone hr hR13 hN) ?_
          refine P_top (y := vb (decide (a < c ∧ gM S a 1 = 2))) (by rw [mgone_k hc6 (by omega)]) ?_
          refine P_bif_eq (tgt := 439) dX7_readCommand_424 (by decide) (fun c424 => ?_) (fun c424 => ?_)
          · refine P_iconst (v := nI 0) dX7_readCommand_439 (by decide) ?_
            refine P_top (y := vb false) (vb_f rfl).symm ?_
            refine P_cVs (rest := []) (As := [.int (vb (false))]) dX7_readCommand_440 lX7_149 yk_X7_done yv_X7_done kX7 rfl (by decide) hq.o rfl rfl (Nat.le_of_ble_eq_true rfl) rfl (c_X7_done (is := false) hq ho15) (fun v16 h17 => ?_)
            have hR19 : RR (c) v16 r (S) := hR13.of (fun i _ => by rw [h17.2.ne hrq])
            have hO18 : vO4 v v16 r q := hO14.tr (h17.2.o4 (Or.inr rfl))
            have h17_k : v16 q 10 = nI ((mfig1 t n 0 5 0 (s + 1)).2) := (h17.2 q 10 (Or.inr (by decide))).trans h12.1
            refine P_if_eqN (tgt := 450) dX7_readCommand_443 (by decide) (by omega) (fun c443 => ?_) (fun c443 => ?_)
            · exact absurd c443 (by decide)
            · refine P_iconst (v := nI 1) dX7_readCommand_446 (by decide) ?_
              refine P_goto (tgt := 451) dX7_readCommand_447 (by decide) ?_
              refine P_zret dX7_readCommand_451 rfl (by decide) ?_
              exact rc_yes (ok := false) ((mp_w (Or.inr (Or.inr c21))).trans (mp1_s hFa)) ((mx_b c21).trans (if_neg (fun z => of_decide_eq_false c424 z))) hR19 h17.1 h17_k hO18
          · obtain ⟨z1, z2⟩ := of_decide_eq_true c424
            refine P_aload_n dX7_readCommand_427 rfl rfl ?_
            refine P_iload_n dX7_readCommand_428 rfl rfl ?_
            refine P_cSs (rest := [.ref (q)]) (As := [.ref (r), .int (nI (a))]) dX7_readCommand_429 lX7_175 yk_X7_backOn ys_X7_backOn (by decide) rfl rfl (Nat.le_of_ble_eq_true rfl) rfl (c_X7_backOn hr hR13 z1) (fun v20 ⟨hR21, h22⟩ => ?_)
            have hO23 : vO4 v v20 r q := hO14.tr (h22.o4 hrq)
            have e26 := congrFun (h22 q (fun e => hrq e.symm)) 10
            have e26b := congrFun (h22 q (fun e => hrq e.symm)) 11
            have hs24 : v20 q 10 = nI ((mfig1 t n 0 5 0 (s + 1)).2) := e26.trans h12.1
            have ho25 : v20 q 11 = nI o := e26b.trans ho15
            refine P_if_leN (tgt := 439) dX7_readCommand_432 (by decide) (by have := hN.m6 a; omega) (fun c432 => ?_) (fun c432 => ?_)
            · exact absurd c432 (by omega)
            · refine P_iconst (v := nI 1) dX7_readCommand_435 (by decide) ?_
              refine P_goto (tgt := 440) dX7_readCommand_436 (by decide) ?_
              refine P_top (y := vb true) (vb_t rfl).symm ?_
              refine P_cVs (rest := []) (As := [.int (vb (true))]) dX7_readCommand_440 lX7_149 yk_X7_done yv_X7_done kX7 rfl (by decide) hq.o rfl rfl (Nat.le_of_ble_eq_true rfl) rfl (c_X7_done (is := true) hq ho25) (fun v27 h28 => ?_)
              have hR30 : RR (c) v27 r (mback S a) := hR21.of (fun i _ => by rw [h28.2.ne hrq])
              have hO29 : vO4 v v27 r q := hO23.tr (h28.2.o4 (Or.inr rfl))
              have h28_k : v27 q 10 = nI ((mfig1 t n 0 5 0 (s + 1)).2) := (h28.2 q 10 (Or.inr (by decide))).trans hs24
              refine P_if_eqN (tgt := 450) dX7_readCommand_443 (by decide) (by omega) (fun c443 => ?_) (fun c443 => ?_)
              · exact absurd c443 (by decide)
              · refine P_iconst (v := nI 1) dX7_readCommand_446 (by decide) ?_
                refine P_goto (tgt := 451) dX7_readCommand_447 (by decide) ?_
                refine P_zret dX7_readCommand_451 rfl (by decide) ?_
                exact rc_yes (ok := true) ((mp_w (Or.inr (Or.inr c21))).trans (mp1_s hFa)) ((mx_b c21).trans (if_pos ⟨z1, z2⟩)) hR30 h28.1 h28_k hO29
    · replace c21 : t s = 99 := by omega
      refine P_tswIn (off := 201) (tgt := 222) dX7_readCommand_21 (by rw [vsw_int c21 (by decide)]; decide) (by rw [vsw_int c21 (by decide)]; decide) (by rw [vsw_int c21 (by decide)]; rfl) (by decide) ?_
      refine P_aload_n dX7_readCommand_222 rfl rfl ?_
      refine P_iconst (v := nI 0) dX7_readCommand_223 (by decide) ?_
      refine P_cVs (rest := []) (As := [.int (nI (0))]) dX7_readCommand_224 lX7_153 yk_X7_who yv_X7_who kX7 rfl (by decide) hq.o rfl rfl (Nat.le_of_ble_eq_true rfl) rfl (c_X7_who hq (htx.o4 hO2 hr1) hs3 (by omega) (by omega)) (fun v31 h32 => ?_)
      have hR33 : RR c v31 r S := hR1.of (fun i _ => by rw [h32.2.ne hrq])
      have hO34 : vO4 v v31 r q := hO2.tr (h32.2.o4 (Or.inl rfl))
      have ho35 : v31 q 11 = nI o := (h32.2 q 11 (Or.inr (by decide))).trans ho4
      rcases hFa : (mfig1 t n 0 5 0 (s + 1)).1 with _ | a
      · refine P_top (y := -1) rfl ?_
        refine P_istore_n (ls2 := [some (.ref (q)), some (.ref (r)), some (.int (nI (t s))), some (.int ((-1))), none]) dX7_readCommand_227 rfl (by decide) rfl ?_
        refine P_aload_n dX7_readCommand_228 rfl rfl ?_
        refine P_iload_n dX7_readCommand_229 rfl rfl ?_
        refine P_iconst (v := nI 2) dX7_readCommand_230 (by decide) ?_
        refine P_iconst (v := nI 1) dX7_readCommand_231 (by decide) ?_
        refine P_bipush (v := nI 63) dX7_readCommand_232 (by decide) ?_
        refine P_cVp (rest := []) (As := [.int ((-1)), .int (nI (2)), .int (nI (1)), .int (nI (63))]) dX7_readCommand_234 lX7_141 yk_X7_figures yv_X7_figures kX7 rfl (by decide) hq.o rfl rfl (Nat.le_of_ble_eq_true rfl) rfl (c_X7_figN (by decide)) ?_
        refine P_istore (ls2 := [some (.ref (q)), some (.ref (r)), some (.int (nI (t s))), some (.int ((-1))), some (.int ((-1)))]) dX7_readCommand_237 (by decide) rfl ?_
        refine P_iload dX7_readCommand_239 rfl ?_
        refine P_iconst (v := -1) dX7_readCommand_241 (by decide) ?_
        refine P_icmp_eq (tgt := 281) dX7_readCommand_242 (by decide) (fun c242 => ?_) (fun c242 => ?_)
        · refine P_iconst (v := nI 0) dX7_readCommand_281 (by decide) ?_
          refine P_zret dX7_readCommand_282 rfl (by decide) ?_
          exact rc_no ((mp_c c21).trans (mp2_n hFa)) hR33 ho35 h32.1 hO34
        · exact absurd rfl c242
      · refine P_top (y := nI a) rfl ?_
        obtain ⟨hla, hha⟩ := fig1_r hFa
        refine P_istore_n (ls2 := [some (.ref (q)), some (.ref (r)), some (.int (nI (t s))), some (.int (nI (a))), none]) dX7_readCommand_227 rfl (by decide) rfl ?_
        refine P_aload_n dX7_readCommand_228 rfl rfl ?_
        refine P_iload_n dX7_readCommand_229 rfl rfl ?_
        refine P_iconst (v := nI 2) dX7_readCommand_230 (by decide) ?_
        refine P_iconst (v := nI 1) dX7_readCommand_231 (by decide) ?_
        refine P_bipush (v := nI 63) dX7_readCommand_232 (by decide) ?_
        refine P_cVs (rest := []) (As := [.int (nI (a)), .int (nI (2)), .int (nI (1)), .int (nI (63))]) dX7_readCommand_234 lX7_141 yk_X7_figures yv_X7_figures kX7 rfl (by decide) hq.o rfl rfl (Nat.le_of_ble_eq_true rfl) rfl (c_X7_fig2 hq (htx.o4 hO34 hr1) h32.1 (fig1_le.2.2 (by omega)) (by omega) (by decide) (by decide)) (fun v36 h37 => ?_)
        have hR38 : RR c v36 r S := hR33.of (fun i _ => by rw [h37.2.ne hrq])
        have hO39 : vO4 v v36 r q := hO34.tr (h37.2.o4 (Or.inl rfl))
        have ho40 : v36 q 11 = nI o := (h37.2 q 11 (Or.inr (by decide))).trans ho35
        rcases hFd : (mfig2 t n 1 63 ((mfig1 t n 0 5 0 (s + 1)).2)).1 with _ | d
        · refine P_top (y := -1) rfl ?_
          refine P_istore (ls2 := [some (.ref (q)), some (.ref (r)), some (.int (nI (t s))), some (.int (nI (a))), some (.int ((-1)))]) dX7_readCommand_237 (by decide) rfl ?_
          refine P_iload dX7_readCommand_239 rfl ?_
          refine P_iconst (v := -1) dX7_readCommand_241 (by decide) ?_
          refine P_icmp_eq (tgt := 281) dX7_readCommand_242 (by decide) (fun c242 => ?_) (fun c242 => ?_)
          · refine P_iconst (v := nI 0) dX7_readCommand_281 (by decide) ?_
            refine P_zret dX7_readCommand_282 rfl (by decide) ?_
            exact rc_no ((mp_c c21).trans (mp2_sn hFa hFd)) hR38 ho40 h37.1 hO39
          · exact absurd rfl c242
        · refine P_top (y := nI d) rfl ?_
          obtain ⟨hld, hhd⟩ := fig2_r hFd
          refine P_istore (ls2 := [some (.ref (q)), some (.ref (r)), some (.int (nI (t s))), some (.int (nI (a))), some (.int (nI (d)))]) dX7_readCommand_237 (by decide) rfl ?_
          refine P_iload dX7_readCommand_239 rfl ?_
          refine P_iconst (v := -1) dX7_readCommand_241 (by decide) ?_
          refine P_icmp_eq (tgt := 281) dX7_readCommand_242 (by decide) (fun c242 => ?_) (fun c242 => ?_)
          · exact absurd c242 (nI_nm1 (by omega))
          · refine P_aload_n dX7_readCommand_245 rfl rfl ?_
            refine P_aload_n dX7_readCommand_246 rfl rfl ?_
            refine P_iload_n dX7_readCommand_247 rfl rfl ?_
            refine P_iload dX7_readCommand_248 rfl ?_
            refine P_cSp (rest := [.ref (q)]) (As := [.ref (r), .int (nI (a)), .int (nI (d))]) dX7_readCommand_250 lX7_162 yk_X7_canCall ys_X7_canCall (by decide) rfl rfl (Nat.le_of_ble_eq_true rfl) rfl (c_X7_canCall hr hR38 hN) ?_
            refine P_top (y := vb (decide (a < c ∧ (d < 2 ^ c ∧ d.testBit a = true) ∧ gM S a 1 ≠ 2))) (by rw [mccall_k hc6 (by omega) (by omega)]) ?_
            refine P_bif_eq (tgt := 270) dX7_readCommand_253 (by decide) (fun c253 => ?_) (fun c253 => ?_)
            · refine P_iconst (v := nI 0) dX7_readCommand_270 (by decide) ?_
              refine P_top (y := vb false) (vb_f rfl).symm ?_
              refine P_cVs (rest := []) (As := [.int (vb (false))]) dX7_readCommand_271 lX7_149 yk_X7_done yv_X7_done kX7 rfl (by decide) hq.o rfl rfl (Nat.le_of_ble_eq_true rfl) rfl (c_X7_done (is := false) hq ho40) (fun v41 h42 => ?_)
              have hR44 : RR (c) v41 r (S) := hR38.of (fun i _ => by rw [h42.2.ne hrq])
              have hO43 : vO4 v v41 r q := hO39.tr (h42.2.o4 (Or.inr rfl))
              have h42_k : v41 q 10 = nI ((mfig2 t n 1 63 ((mfig1 t n 0 5 0 (s + 1)).2)).2) := (h42.2 q 10 (Or.inr (by decide))).trans h37.1
              refine P_if_eqN (tgt := 281) dX7_readCommand_274 (by decide) (by omega) (fun c274 => ?_) (fun c274 => ?_)
              · exact absurd c274 (by decide)
              · refine P_iconst (v := nI 1) dX7_readCommand_277 (by decide) ?_
                refine P_goto (tgt := 282) dX7_readCommand_278 (by decide) ?_
                refine P_zret dX7_readCommand_282 rfl (by decide) ?_
                exact rc_yes (ok := false) ((mp_c c21).trans (mp2_ss hFa hFd)) ((mx_c c21).trans (if_neg (fun z => of_decide_eq_false c253 z))) hR44 h42.1 h42_k hO43
            · obtain ⟨z1, z2, z3⟩ := of_decide_eq_true c253
              refine P_aload_n dX7_readCommand_256 rfl rfl ?_
              refine P_iload_n dX7_readCommand_257 rfl rfl ?_
              refine P_iload dX7_readCommand_258 rfl ?_
              refine P_cSs (rest := [.ref (q)]) (As := [.ref (r), .int (nI (a)), .int (nI (d))]) dX7_readCommand_260 lX7_106 yk_X7_callOn ys_X7_callOn (by decide) rfl rfl (Nat.le_of_ble_eq_true rfl) rfl (c_X7_callOn hr hR38 hN (by omega) z1 (by omega)) (fun v45 ⟨hR46, h47⟩ => ?_)
              have hO48 : vO4 v v45 r q := hO39.tr (h47.o4 hrq)
              have e51 := congrFun (h47 q (fun e => hrq e.symm)) 10
              have e51b := congrFun (h47 q (fun e => hrq e.symm)) 11
              have hs49 : v45 q 10 = nI ((mfig2 t n 1 63 ((mfig1 t n 0 5 0 (s + 1)).2)).2) := e51.trans h37.1
              have ho50 : v45 q 11 = nI o := e51b.trans ho40
              refine P_if_leN (tgt := 270) dX7_readCommand_263 (by decide) (by have := hN.m6 a; omega) (fun c263 => ?_) (fun c263 => ?_)
              · exact absurd c263 (by omega)
              · refine P_iconst (v := nI 1) dX7_readCommand_266 (by decide) ?_
                refine P_goto (tgt := 271) dX7_readCommand_267 (by decide) ?_
                refine P_top (y := vb true) (vb_t rfl).symm ?_
                refine P_cVs (rest := []) (As := [.int (vb (true))]) dX7_readCommand_271 lX7_149 yk_X7_done yv_X7_done kX7 rfl (by decide) hq.o rfl rfl (Nat.le_of_ble_eq_true rfl) rfl (c_X7_done (is := true) hq ho50) (fun v52 h53 => ?_)
                have hR55 : RR (c) v52 r (mcall S a d) := hR46.of (fun i _ => by rw [h53.2.ne hrq])
                have hO54 : vO4 v v52 r q := hO48.tr (h53.2.o4 (Or.inr rfl))
                have h53_k : v52 q 10 = nI ((mfig2 t n 1 63 ((mfig1 t n 0 5 0 (s + 1)).2)).2) := (h53.2 q 10 (Or.inr (by decide))).trans hs49
                refine P_if_eqN (tgt := 281) dX7_readCommand_274 (by decide) (by omega) (fun c274 => ?_) (fun c274 => ?_)
                · exact absurd c274 (by decide)
                · refine P_iconst (v := nI 1) dX7_readCommand_277 (by decide) ?_
                  refine P_goto (tgt := 282) dX7_readCommand_278 (by decide) ?_
                  refine P_zret dX7_readCommand_282 rfl (by decide) ?_
                  exact rc_yes (ok := true) ((mp_c c21).trans (mp2_ss hFa hFd)) ((mx_c c21).trans (if_pos ⟨z1, z2, z3⟩)) hR55 h53.1 h53_k hO54
    · replace c21 : t s = 100 := by omega
      refine P_tswIn (off := 511) (tgt := 532) dX7_readCommand_21 (by rw [vsw_int c21 (by decide)]; decide) (by rw [vsw_int c21 (by decide)]; decide) (by rw [vsw_int c21 (by decide)]; rfl) (by decide) ?_
      refine P_aload_n dX7_readCommand_532 rfl rfl ?_
      refine P_dup dX7_readCommand_533 rfl ?_
      refine P_getiN (x := nI (s + 1)) dX7_readCommand_534 kX7 fX7_133 rfl (by decide) hq.o hs3 ?_
      refine P_iconst (v := nI 1) dX7_readCommand_537 (by decide) ?_
      refine P_isubN dX7_readCommand_538 (by omega) ?_
      refine P_puti dX7_readCommand_539 kX7 fX7_133 rfl (by decide) rfl hq.o ?_
      have hR56 : RR c (vU v5 q 10 (nI ((s + 1) - 1))) r S := hR1.of (fun i _ => by rw [vU_ne hrq])
      have hO57 : vO4 v (vU v5 q 10 (nI ((s + 1) - 1))) r q := hO2.tr (vU_F.o4 (Or.inl rfl))
      have hs58 : (vU v5 q 10 (nI ((s + 1) - 1))) q 10 = nI (s) := vU_s.trans (congrArg nI (by omega))
      have ho59 : (vU v5 q 10 (nI ((s + 1) - 1))) q 11 = nI o := (vU_o (by omega)).trans ho4
      generalize (vU v5 q 10 (nI ((s + 1) - 1))) = v60 at hR56 hO57 hs58 ho59 ⊢
      refine P_iconst (v := nI 0) dX7_readCommand_542 (by decide) ?_
      refine P_zret dX7_readCommand_543 rfl (by decide) ?_
      exact rc_no (mp_0 (by omega)) hR56 ho59 hs58 hO57
    · replace c21 : t s = 101 := by omega
      refine P_tswIn (off := 511) (tgt := 532) dX7_readCommand_21 (by rw [vsw_int c21 (by decide)]; decide) (by rw [vsw_int c21 (by decide)]; decide) (by rw [vsw_int c21 (by decide)]; rfl) (by decide) ?_
      refine P_aload_n dX7_readCommand_532 rfl rfl ?_
      refine P_dup dX7_readCommand_533 rfl ?_
      refine P_getiN (x := nI (s + 1)) dX7_readCommand_534 kX7 fX7_133 rfl (by decide) hq.o hs3 ?_
      refine P_iconst (v := nI 1) dX7_readCommand_537 (by decide) ?_
      refine P_isubN dX7_readCommand_538 (by omega) ?_
      refine P_puti dX7_readCommand_539 kX7 fX7_133 rfl (by decide) rfl hq.o ?_
      have hR61 : RR c (vU v5 q 10 (nI ((s + 1) - 1))) r S := hR1.of (fun i _ => by rw [vU_ne hrq])
      have hO62 : vO4 v (vU v5 q 10 (nI ((s + 1) - 1))) r q := hO2.tr (vU_F.o4 (Or.inl rfl))
      have hs63 : (vU v5 q 10 (nI ((s + 1) - 1))) q 10 = nI (s) := vU_s.trans (congrArg nI (by omega))
      have ho64 : (vU v5 q 10 (nI ((s + 1) - 1))) q 11 = nI o := (vU_o (by omega)).trans ho4
      generalize (vU v5 q 10 (nI ((s + 1) - 1))) = v65 at hR61 hO62 hs63 ho64 ⊢
      refine P_iconst (v := nI 0) dX7_readCommand_542 (by decide) ?_
      refine P_zret dX7_readCommand_543 rfl (by decide) ?_
      exact rc_no (mp_0 (by omega)) hR61 ho64 hs63 hO62
    · replace c21 : t s = 102 := by omega
      refine P_tswIn (off := 511) (tgt := 532) dX7_readCommand_21 (by rw [vsw_int c21 (by decide)]; decide) (by rw [vsw_int c21 (by decide)]; decide) (by rw [vsw_int c21 (by decide)]; rfl) (by decide) ?_
      refine P_aload_n dX7_readCommand_532 rfl rfl ?_
      refine P_dup dX7_readCommand_533 rfl ?_
      refine P_getiN (x := nI (s + 1)) dX7_readCommand_534 kX7 fX7_133 rfl (by decide) hq.o hs3 ?_
      refine P_iconst (v := nI 1) dX7_readCommand_537 (by decide) ?_
      refine P_isubN dX7_readCommand_538 (by omega) ?_
      refine P_puti dX7_readCommand_539 kX7 fX7_133 rfl (by decide) rfl hq.o ?_
      have hR66 : RR c (vU v5 q 10 (nI ((s + 1) - 1))) r S := hR1.of (fun i _ => by rw [vU_ne hrq])
      have hO67 : vO4 v (vU v5 q 10 (nI ((s + 1) - 1))) r q := hO2.tr (vU_F.o4 (Or.inl rfl))
      have hs68 : (vU v5 q 10 (nI ((s + 1) - 1))) q 10 = nI (s) := vU_s.trans (congrArg nI (by omega))
      have ho69 : (vU v5 q 10 (nI ((s + 1) - 1))) q 11 = nI o := (vU_o (by omega)).trans ho4
      generalize (vU v5 q 10 (nI ((s + 1) - 1))) = v70 at hR66 hO67 hs68 ho69 ⊢
      refine P_iconst (v := nI 0) dX7_readCommand_542 (by decide) ?_
      refine P_zret dX7_readCommand_543 rfl (by decide) ?_
      exact rc_no (mp_0 (by omega)) hR66 ho69 hs68 hO67
    · replace c21 : t s = 103 := by omega
      refine P_tswIn (off := 333) (tgt := 354) dX7_readCommand_21 (by rw [vsw_int c21 (by decide)]; decide) (by rw [vsw_int c21 (by decide)]; decide) (by rw [vsw_int c21 (by decide)]; rfl) (by decide) ?_
      refine P_aload_n dX7_readCommand_354 rfl rfl ?_
      refine P_iconst (v := nI 0) dX7_readCommand_355 (by decide) ?_
      refine P_cVs (rest := []) (As := [.int (nI (0))]) dX7_readCommand_356 lX7_153 yk_X7_who yv_X7_who kX7 rfl (by decide) hq.o rfl rfl (Nat.le_of_ble_eq_true rfl) rfl (c_X7_who hq (htx.o4 hO2 hr1) hs3 (by omega) (by omega)) (fun v71 h72 => ?_)
      have hR73 : RR c v71 r S := hR1.of (fun i _ => by rw [h72.2.ne hrq])
      have hO74 : vO4 v v71 r q := hO2.tr (h72.2.o4 (Or.inl rfl))
      have ho75 : v71 q 11 = nI o := (h72.2 q 11 (Or.inr (by decide))).trans ho4
      rcases hFa : (mfig1 t n 0 5 0 (s + 1)).1 with _ | a
      · refine P_top (y := -1) rfl ?_
        refine P_istore_n (ls2 := [some (.ref (q)), some (.ref (r)), some (.int (nI (t s))), some (.int ((-1))), none]) dX7_readCommand_359 rfl (by decide) rfl ?_
        refine P_iload_n dX7_readCommand_360 rfl rfl ?_
        refine P_iconst (v := -1) dX7_readCommand_361 (by decide) ?_
        refine P_icmp_eq (tgt := 405) dX7_readCommand_362 (by decide) (fun c362 => ?_) (fun c362 => ?_)
        · refine P_iconst (v := nI 0) dX7_readCommand_405 (by decide) ?_
          refine P_zret dX7_readCommand_406 rfl (by decide) ?_
          exact rc_no ((mp_w (Or.inr (Or.inl c21))).trans (mp1_n hFa)) hR73 ho75 h72.1 hO74
        · exact absurd rfl c362
      · refine P_top (y := nI a) rfl ?_
        obtain ⟨hla, hha⟩ := fig1_r hFa
        refine P_istore_n (ls2 := [some (.ref (q)), some (.ref (r)), some (.int (nI (t s))), some (.int (nI (a))), none]) dX7_readCommand_359 rfl (by decide) rfl ?_
        refine P_iload_n dX7_readCommand_360 rfl rfl ?_
        refine P_iconst (v := -1) dX7_readCommand_361 (by decide) ?_
        refine P_icmp_eq (tgt := 405) dX7_readCommand_362 (by decide) (fun c362 => ?_) (fun c362 => ?_)
        · exact absurd c362 (nI_nm1 (by omega))
        · refine P_aload_n dX7_readCommand_365 rfl rfl ?_
          refine P_aload_n dX7_readCommand_366 rfl rfl ?_
          refine P_iload_n dX7_readCommand_367 rfl rfl ?_
          refine P_cSp (rest := [.ref (q)]) (As := [.ref (r), .int (nI (a))]) dX7_readCommand_368 lX7_112 yk_X7_isMember ys_X7_isMember (by decide) rfl rfl (Nat.le_of_ble_eq_true rfl) rfl (c_X7_isMember hr hR73) ?_
          refine P_top (y := vb (decide (a < c))) (by rw [mb_n (by omega)]) ?_
          refine P_bif_eq (tgt := 394) dX7_readCommand_371 (by decide) (fun c371 => ?_) (fun c371 => ?_)
          · refine P_iconst (v := nI 0) dX7_readCommand_394 (by decide) ?_
            refine P_top (y := vb false) (vb_f rfl).symm ?_
            refine P_cVs (rest := []) (As := [.int (vb (false))]) dX7_readCommand_395 lX7_149 yk_X7_done yv_X7_done kX7 rfl (by decide) hq.o rfl rfl (Nat.le_of_ble_eq_true rfl) rfl (c_X7_done (is := false) hq ho75) (fun v76 h77 => ?_)
            have hR79 : RR (c) v76 r (S) := hR73.of (fun i _ => by rw [h77.2.ne hrq])
            have hO78 : vO4 v v76 r q := hO74.tr (h77.2.o4 (Or.inr rfl))
            have h77_k : v76 q 10 = nI ((mfig1 t n 0 5 0 (s + 1)).2) := (h77.2 q 10 (Or.inr (by decide))).trans h72.1
            refine P_if_eqN (tgt := 405) dX7_readCommand_398 (by decide) (by omega) (fun c398 => ?_) (fun c398 => ?_)
            · exact absurd c398 (by decide)
            · refine P_iconst (v := nI 1) dX7_readCommand_401 (by decide) ?_
              refine P_goto (tgt := 406) dX7_readCommand_402 (by decide) ?_
              refine P_zret dX7_readCommand_406 rfl (by decide) ?_
              exact rc_yes (ok := false) ((mp_w (Or.inr (Or.inl c21))).trans (mp1_s hFa)) ((mx_g c21).trans (if_neg (fun z => of_decide_eq_false c371 z.1))) hR79 h77.1 h77_k hO78
          · have z1 := of_decide_eq_true c371
            refine P_aload_n dX7_readCommand_374 rfl rfl ?_
            refine P_iload_n dX7_readCommand_375 rfl rfl ?_
            refine P_cSp (rest := [.ref (q)]) (As := [.ref (r), .int (nI (a))]) dX7_readCommand_376 lX7_169 yk_X7_isGone ys_X7_isGone (by decide) rfl rfl (Nat.le_of_ble_eq_true rfl) rfl (c_X7_isGone hr hR73 hN) ?_
            refine P_top (y := vb (decide (a < c ∧ gM S a 1 = 2))) (by rw [mgone_k hc6 (by omega)]) ?_
            refine P_bif_ne (tgt := 394) dX7_readCommand_379 (by decide) (fun c379 => ?_) (fun c379 => ?_)
            · refine P_iconst (v := nI 0) dX7_readCommand_394 (by decide) ?_
              refine P_top (y := vb false) (vb_f rfl).symm ?_
              refine P_cVs (rest := []) (As := [.int (vb (false))]) dX7_readCommand_395 lX7_149 yk_X7_done yv_X7_done kX7 rfl (by decide) hq.o rfl rfl (Nat.le_of_ble_eq_true rfl) rfl (c_X7_done (is := false) hq ho75) (fun v80 h81 => ?_)
              have hR83 : RR (c) v80 r (S) := hR73.of (fun i _ => by rw [h81.2.ne hrq])
              have hO82 : vO4 v v80 r q := hO74.tr (h81.2.o4 (Or.inr rfl))
              have h81_k : v80 q 10 = nI ((mfig1 t n 0 5 0 (s + 1)).2) := (h81.2 q 10 (Or.inr (by decide))).trans h72.1
              refine P_if_eqN (tgt := 405) dX7_readCommand_398 (by decide) (by omega) (fun c398 => ?_) (fun c398 => ?_)
              · exact absurd c398 (by decide)
              · refine P_iconst (v := nI 1) dX7_readCommand_401 (by decide) ?_
                refine P_goto (tgt := 406) dX7_readCommand_402 (by decide) ?_
                refine P_zret dX7_readCommand_406 rfl (by decide) ?_
                exact rc_yes (ok := false) ((mp_w (Or.inr (Or.inl c21))).trans (mp1_s hFa)) ((mx_g c21).trans (if_neg (fun z => z.2 (of_decide_eq_true c379).2))) hR83 h81.1 h81_k hO82
            · refine P_aload_n dX7_readCommand_382 rfl rfl ?_
              refine P_iload_n dX7_readCommand_383 rfl rfl ?_
              refine P_cSs (rest := [.ref (q)]) (As := [.ref (r), .int (nI (a))]) dX7_readCommand_384 lX7_172 yk_X7_leaveOn ys_X7_leaveOn (by decide) rfl rfl (Nat.le_of_ble_eq_true rfl) rfl (c_X7_leaveOn hr hR73 z1) (fun v84 ⟨hR85, h86⟩ => ?_)
              have hO87 : vO4 v v84 r q := hO74.tr (h86.o4 hrq)
              have e90 := congrFun (h86 q (fun e => hrq e.symm)) 10
              have e90b := congrFun (h86 q (fun e => hrq e.symm)) 11
              have hs88 : v84 q 10 = nI ((mfig1 t n 0 5 0 (s + 1)).2) := e90.trans h72.1
              have ho89 : v84 q 11 = nI o := e90b.trans ho75
              refine P_if_ltN (tgt := 394) dX7_readCommand_387 (by decide) (by have := hN.m2 a; omega) (fun c387 => ?_) (fun c387 => ?_)
              · exact c387.elim
              · refine P_iconst (v := nI 1) dX7_readCommand_390 (by decide) ?_
                refine P_goto (tgt := 395) dX7_readCommand_391 (by decide) ?_
                refine P_top (y := vb true) (vb_t rfl).symm ?_
                refine P_cVs (rest := []) (As := [.int (vb (true))]) dX7_readCommand_395 lX7_149 yk_X7_done yv_X7_done kX7 rfl (by decide) hq.o rfl rfl (Nat.le_of_ble_eq_true rfl) rfl (c_X7_done (is := true) hq ho89) (fun v91 h92 => ?_)
                have hR94 : RR (c) v91 r (mleave S a) := hR85.of (fun i _ => by rw [h92.2.ne hrq])
                have hO93 : vO4 v v91 r q := hO87.tr (h92.2.o4 (Or.inr rfl))
                have h92_k : v91 q 10 = nI ((mfig1 t n 0 5 0 (s + 1)).2) := (h92.2 q 10 (Or.inr (by decide))).trans hs88
                refine P_if_eqN (tgt := 405) dX7_readCommand_398 (by decide) (by omega) (fun c398 => ?_) (fun c398 => ?_)
                · exact absurd c398 (by decide)
                · refine P_iconst (v := nI 1) dX7_readCommand_401 (by decide) ?_
                  refine P_goto (tgt := 406) dX7_readCommand_402 (by decide) ?_
                  refine P_zret dX7_readCommand_406 rfl (by decide) ?_
                  exact rc_yes (ok := true) ((mp_w (Or.inr (Or.inl c21))).trans (mp1_s hFa)) ((mx_g c21).trans (if_pos ⟨z1, fun z => of_decide_eq_false c379 ⟨z1, z⟩⟩)) hR94 h92.1 h92_k hO93
    · replace c21 : t s = 104 := by omega
      refine P_tswIn (off := 511) (tgt := 532) dX7_readCommand_21 (by rw [vsw_int c21 (by decide)]; decide) (by rw [vsw_int c21 (by decide)]; decide) (by rw [vsw_int c21 (by decide)]; rfl) (by decide) ?_
      refine P_aload_n dX7_readCommand_532 rfl rfl ?_
      refine P_dup dX7_readCommand_533 rfl ?_
      refine P_getiN (x := nI (s + 1)) dX7_readCommand_534 kX7 fX7_133 rfl (by decide) hq.o hs3 ?_
      refine P_iconst (v := nI 1) dX7_readCommand_537 (by decide) ?_
      refine P_isubN dX7_readCommand_538 (by omega) ?_
      refine P_puti dX7_readCommand_539 kX7 fX7_133 rfl (by decide) rfl hq.o ?_
      have hR95 : RR c (vU v5 q 10 (nI ((s + 1) - 1))) r S := hR1.of (fun i _ => by rw [vU_ne hrq])
      have hO96 : vO4 v (vU v5 q 10 (nI ((s + 1) - 1))) r q := hO2.tr (vU_F.o4 (Or.inl rfl))
      have hs97 : (vU v5 q 10 (nI ((s + 1) - 1))) q 10 = nI (s) := vU_s.trans (congrArg nI (by omega))
      have ho98 : (vU v5 q 10 (nI ((s + 1) - 1))) q 11 = nI o := (vU_o (by omega)).trans ho4
      generalize (vU v5 q 10 (nI ((s + 1) - 1))) = v99 at hR95 hO96 hs97 ho98 ⊢
      refine P_iconst (v := nI 0) dX7_readCommand_542 (by decide) ?_
      refine P_zret dX7_readCommand_543 rfl (by decide) ?_
      exact rc_no (mp_0 (by omega)) hR95 ho98 hs97 hO96
    · replace c21 : t s = 105 := by omega
      refine P_tswIn (off := 511) (tgt := 532) dX7_readCommand_21 (by rw [vsw_int c21 (by decide)]; decide) (by rw [vsw_int c21 (by decide)]; decide) (by rw [vsw_int c21 (by decide)]; rfl) (by decide) ?_
      refine P_aload_n dX7_readCommand_532 rfl rfl ?_
      refine P_dup dX7_readCommand_533 rfl ?_
      refine P_getiN (x := nI (s + 1)) dX7_readCommand_534 kX7 fX7_133 rfl (by decide) hq.o hs3 ?_
      refine P_iconst (v := nI 1) dX7_readCommand_537 (by decide) ?_
      refine P_isubN dX7_readCommand_538 (by omega) ?_
      refine P_puti dX7_readCommand_539 kX7 fX7_133 rfl (by decide) rfl hq.o ?_
      have hR100 : RR c (vU v5 q 10 (nI ((s + 1) - 1))) r S := hR1.of (fun i _ => by rw [vU_ne hrq])
      have hO101 : vO4 v (vU v5 q 10 (nI ((s + 1) - 1))) r q := hO2.tr (vU_F.o4 (Or.inl rfl))
      have hs102 : (vU v5 q 10 (nI ((s + 1) - 1))) q 10 = nI (s) := vU_s.trans (congrArg nI (by omega))
      have ho103 : (vU v5 q 10 (nI ((s + 1) - 1))) q 11 = nI o := (vU_o (by omega)).trans ho4
      generalize (vU v5 q 10 (nI ((s + 1) - 1))) = v104 at hR100 hO101 hs102 ho103 ⊢
      refine P_iconst (v := nI 0) dX7_readCommand_542 (by decide) ?_
      refine P_zret dX7_readCommand_543 rfl (by decide) ?_
      exact rc_no (mp_0 (by omega)) hR100 ho103 hs102 hO101
    · replace c21 : t s = 106 := by omega
      refine P_tswIn (off := 511) (tgt := 532) dX7_readCommand_21 (by rw [vsw_int c21 (by decide)]; decide) (by rw [vsw_int c21 (by decide)]; decide) (by rw [vsw_int c21 (by decide)]; rfl) (by decide) ?_
      refine P_aload_n dX7_readCommand_532 rfl rfl ?_
      refine P_dup dX7_readCommand_533 rfl ?_
      refine P_getiN (x := nI (s + 1)) dX7_readCommand_534 kX7 fX7_133 rfl (by decide) hq.o hs3 ?_
      refine P_iconst (v := nI 1) dX7_readCommand_537 (by decide) ?_
      refine P_isubN dX7_readCommand_538 (by omega) ?_
      refine P_puti dX7_readCommand_539 kX7 fX7_133 rfl (by decide) rfl hq.o ?_
      have hR105 : RR c (vU v5 q 10 (nI ((s + 1) - 1))) r S := hR1.of (fun i _ => by rw [vU_ne hrq])
      have hO106 : vO4 v (vU v5 q 10 (nI ((s + 1) - 1))) r q := hO2.tr (vU_F.o4 (Or.inl rfl))
      have hs107 : (vU v5 q 10 (nI ((s + 1) - 1))) q 10 = nI (s) := vU_s.trans (congrArg nI (by omega))
      have ho108 : (vU v5 q 10 (nI ((s + 1) - 1))) q 11 = nI o := (vU_o (by omega)).trans ho4
      generalize (vU v5 q 10 (nI ((s + 1) - 1))) = v109 at hR105 hO106 hs107 ho108 ⊢
      refine P_iconst (v := nI 0) dX7_readCommand_542 (by decide) ?_
      refine P_zret dX7_readCommand_543 rfl (by decide) ?_
      exact rc_no (mp_0 (by omega)) hR105 ho108 hs107 hO106
    · replace c21 : t s = 107 := by omega
      refine P_tswIn (off := 511) (tgt := 532) dX7_readCommand_21 (by rw [vsw_int c21 (by decide)]; decide) (by rw [vsw_int c21 (by decide)]; decide) (by rw [vsw_int c21 (by decide)]; rfl) (by decide) ?_
      refine P_aload_n dX7_readCommand_532 rfl rfl ?_
      refine P_dup dX7_readCommand_533 rfl ?_
      refine P_getiN (x := nI (s + 1)) dX7_readCommand_534 kX7 fX7_133 rfl (by decide) hq.o hs3 ?_
      refine P_iconst (v := nI 1) dX7_readCommand_537 (by decide) ?_
      refine P_isubN dX7_readCommand_538 (by omega) ?_
      refine P_puti dX7_readCommand_539 kX7 fX7_133 rfl (by decide) rfl hq.o ?_
      have hR110 : RR c (vU v5 q 10 (nI ((s + 1) - 1))) r S := hR1.of (fun i _ => by rw [vU_ne hrq])
      have hO111 : vO4 v (vU v5 q 10 (nI ((s + 1) - 1))) r q := hO2.tr (vU_F.o4 (Or.inl rfl))
      have hs112 : (vU v5 q 10 (nI ((s + 1) - 1))) q 10 = nI (s) := vU_s.trans (congrArg nI (by omega))
      have ho113 : (vU v5 q 10 (nI ((s + 1) - 1))) q 11 = nI o := (vU_o (by omega)).trans ho4
      generalize (vU v5 q 10 (nI ((s + 1) - 1))) = v114 at hR110 hO111 hs112 ho113 ⊢
      refine P_iconst (v := nI 0) dX7_readCommand_542 (by decide) ?_
      refine P_zret dX7_readCommand_543 rfl (by decide) ?_
      exact rc_no (mp_0 (by omega)) hR110 ho113 hs112 hO111
    · replace c21 : t s = 108 := by omega
      refine P_tswIn (off := 511) (tgt := 532) dX7_readCommand_21 (by rw [vsw_int c21 (by decide)]; decide) (by rw [vsw_int c21 (by decide)]; decide) (by rw [vsw_int c21 (by decide)]; rfl) (by decide) ?_
      refine P_aload_n dX7_readCommand_532 rfl rfl ?_
      refine P_dup dX7_readCommand_533 rfl ?_
      refine P_getiN (x := nI (s + 1)) dX7_readCommand_534 kX7 fX7_133 rfl (by decide) hq.o hs3 ?_
      refine P_iconst (v := nI 1) dX7_readCommand_537 (by decide) ?_
      refine P_isubN dX7_readCommand_538 (by omega) ?_
      refine P_puti dX7_readCommand_539 kX7 fX7_133 rfl (by decide) rfl hq.o ?_
      have hR115 : RR c (vU v5 q 10 (nI ((s + 1) - 1))) r S := hR1.of (fun i _ => by rw [vU_ne hrq])
      have hO116 : vO4 v (vU v5 q 10 (nI ((s + 1) - 1))) r q := hO2.tr (vU_F.o4 (Or.inl rfl))
      have hs117 : (vU v5 q 10 (nI ((s + 1) - 1))) q 10 = nI (s) := vU_s.trans (congrArg nI (by omega))
      have ho118 : (vU v5 q 10 (nI ((s + 1) - 1))) q 11 = nI o := (vU_o (by omega)).trans ho4
      generalize (vU v5 q 10 (nI ((s + 1) - 1))) = v119 at hR115 hO116 hs117 ho118 ⊢
      refine P_iconst (v := nI 0) dX7_readCommand_542 (by decide) ?_
      refine P_zret dX7_readCommand_543 rfl (by decide) ?_
      exact rc_no (mp_0 (by omega)) hR115 ho118 hs117 hO116
    · replace c21 : t s = 109 := by omega
      refine P_tswIn (off := 107) (tgt := 128) dX7_readCommand_21 (by rw [vsw_int c21 (by decide)]; decide) (by rw [vsw_int c21 (by decide)]; decide) (by rw [vsw_int c21 (by decide)]; rfl) (by decide) ?_
      refine P_aload_n dX7_readCommand_128 rfl rfl ?_
      refine P_iconst (v := nI 0) dX7_readCommand_129 (by decide) ?_
      refine P_iconst (v := nI 1) dX7_readCommand_130 (by decide) ?_
      refine P_iconst (v := nI 0) dX7_readCommand_131 (by decide) ?_
      refine P_bipush (v := nI 9) dX7_readCommand_132 (by decide) ?_
      refine P_cVs (rest := []) (As := [.int (nI (0)), .int (nI (1)), .int (nI (0)), .int (nI (9))]) dX7_readCommand_134 lX7_141 yk_X7_figures yv_X7_figures kX7 rfl (by decide) hq.o rfl rfl (Nat.le_of_ble_eq_true rfl) rfl (c_X7_fig1 hq (htx.o4 hO2 hr1) hs3 (by omega) (by omega) (by decide) (by decide)) (fun v120 h121 => ?_)
      have hR122 : RR c v120 r S := hR1.of (fun i _ => by rw [h121.2.ne hrq])
      have hO123 : vO4 v v120 r q := hO2.tr (h121.2.o4 (Or.inl rfl))
      have ho124 : v120 q 11 = nI o := (h121.2 q 11 (Or.inr (by decide))).trans ho4
      rcases hFa : (mfig1 t n 0 9 0 (s + 1)).1 with _ | a
      · refine P_top (y := -1) rfl ?_
        refine P_istore_n (ls2 := [some (.ref (q)), some (.ref (r)), some (.int (nI (t s))), some (.int ((-1))), none]) dX7_readCommand_137 rfl (by decide) rfl ?_
        refine P_iload_n dX7_readCommand_138 rfl rfl ?_
        refine P_iconst (v := -1) dX7_readCommand_139 (by decide) ?_
        refine P_icmp_eq (tgt := 175) dX7_readCommand_140 (by decide) (fun c140 => ?_) (fun c140 => ?_)
        · refine P_iconst (v := nI 0) dX7_readCommand_175 (by decide) ?_
          refine P_zret dX7_readCommand_176 rfl (by decide) ?_
          exact rc_no ((mp_m c21).trans (mp1_n hFa)) hR122 ho124 h121.1 hO123
        · exact absurd rfl c140
      · refine P_top (y := nI a) rfl ?_
        obtain ⟨hla, hha⟩ := fig1_r hFa
        refine P_istore_n (ls2 := [some (.ref (q)), some (.ref (r)), some (.int (nI (t s))), some (.int (nI (a))), none]) dX7_readCommand_137 rfl (by decide) rfl ?_
        refine P_iload_n dX7_readCommand_138 rfl rfl ?_
        refine P_iconst (v := -1) dX7_readCommand_139 (by decide) ?_
        refine P_icmp_eq (tgt := 175) dX7_readCommand_140 (by decide) (fun c140 => ?_) (fun c140 => ?_)
        · exact absurd c140 (nI_nm1 (by omega))
        · refine P_aload_n dX7_readCommand_143 rfl rfl ?_
          refine P_aload_n dX7_readCommand_144 rfl rfl ?_
          refine P_iconst (v := nI 0) dX7_readCommand_145 (by decide) ?_
          refine P_ialdN (x := nI (c)) (0) dX7_readCommand_146 hr rfl (by omega) (by decide) hR122.cc ?_
          refine P_bipush (v := nI 6) dX7_readCommand_147 (by decide) ?_
          refine P_icmp_geN (tgt := 164) dX7_readCommand_149 (by decide) (by omega) (by omega) (fun c149 => ?_) (fun c149 => ?_)
          · refine P_iconst (v := nI 0) dX7_readCommand_164 (by decide) ?_
            refine P_top (y := vb false) (vb_f rfl).symm ?_
            refine P_cVs (rest := []) (As := [.int (vb (false))]) dX7_readCommand_165 lX7_149 yk_X7_done yv_X7_done kX7 rfl (by decide) hq.o rfl rfl (Nat.le_of_ble_eq_true rfl) rfl (c_X7_done (is := false) hq ho124) (fun v125 h126 => ?_)
            have hR128 : RR (c) v125 r (S) := hR122.of (fun i _ => by rw [h126.2.ne hrq])
            have hO127 : vO4 v v125 r q := hO123.tr (h126.2.o4 (Or.inr rfl))
            have h126_k : v125 q 10 = nI ((mfig1 t n 0 9 0 (s + 1)).2) := (h126.2 q 10 (Or.inr (by decide))).trans h121.1
            refine P_if_eqN (tgt := 175) dX7_readCommand_168 (by decide) (by omega) (fun c168 => ?_) (fun c168 => ?_)
            · exact absurd c168 (by decide)
            · refine P_iconst (v := nI 1) dX7_readCommand_171 (by decide) ?_
              refine P_goto (tgt := 176) dX7_readCommand_172 (by decide) ?_
              refine P_zret dX7_readCommand_176 rfl (by decide) ?_
              exact rc_yes (ok := false) ((mp_m c21).trans (mp1_s hFa)) ((mx_m c21).trans (if_neg (fun z => absurd z (by show ¬ c < 6; omega)))) hR128 h126.1 h126_k hO127
          · refine P_aload_n dX7_readCommand_152 rfl rfl ?_
            refine P_iload_n dX7_readCommand_153 rfl rfl ?_
            refine P_cSs (rest := [.ref (q)]) (As := [.ref (r), .int (nI (a))]) dX7_readCommand_154 lX7_145 yk_X7_memberOn ys_X7_memberOn (by decide) rfl rfl (Nat.le_of_ble_eq_true rfl) rfl (c_X7_memberOn hr hR122 (by omega) hX.2.1.2.1) (fun v129 ⟨hR130, h131⟩ => ?_)
            have hO132 : vO4 v v129 r q := hO123.tr (h131.o4 hrq)
            have e135 := congrFun (h131 q (fun e => hrq e.symm)) 10
            have e135b := congrFun (h131 q (fun e => hrq e.symm)) 11
            have hs133 : v129 q 10 = nI ((mfig1 t n 0 9 0 (s + 1)).2) := e135.trans h121.1
            have ho134 : v129 q 11 = nI o := e135b.trans ho124
            refine P_if_ltN (tgt := 164) dX7_readCommand_157 (by decide) (by omega) (fun c157 => ?_) (fun c157 => ?_)
            · exact c157.elim
            · refine P_iconst (v := nI 1) dX7_readCommand_160 (by decide) ?_
              refine P_goto (tgt := 165) dX7_readCommand_161 (by decide) ?_
              refine P_top (y := vb true) (vb_t rfl).symm ?_
              refine P_cVs (rest := []) (As := [.int (vb (true))]) dX7_readCommand_165 lX7_149 yk_X7_done yv_X7_done kX7 rfl (by decide) hq.o rfl rfl (Nat.le_of_ble_eq_true rfl) rfl (c_X7_done (is := true) hq ho134) (fun v136 h137 => ?_)
              have hR139 : RR (c + 1) v136 r (madd S a) := hR130.of (fun i _ => by rw [h137.2.ne hrq])
              have hO138 : vO4 v v136 r q := hO132.tr (h137.2.o4 (Or.inr rfl))
              have h137_k : v136 q 10 = nI ((mfig1 t n 0 9 0 (s + 1)).2) := (h137.2 q 10 (Or.inr (by decide))).trans hs133
              refine P_if_eqN (tgt := 175) dX7_readCommand_168 (by decide) (by omega) (fun c168 => ?_) (fun c168 => ?_)
              · exact absurd c168 (by decide)
              · refine P_iconst (v := nI 1) dX7_readCommand_171 (by decide) ?_
                refine P_goto (tgt := 176) dX7_readCommand_172 (by decide) ?_
                refine P_zret dX7_readCommand_176 rfl (by decide) ?_
                exact rc_yes (ok := true) ((mp_m c21).trans (mp1_s hFa)) ((mx_m c21).trans (if_pos (show c < 6 by omega))) hR139 h137.1 h137_k hO138
    · replace c21 : t s = 110 := by omega
      refine P_tswIn (off := 511) (tgt := 532) dX7_readCommand_21 (by rw [vsw_int c21 (by decide)]; decide) (by rw [vsw_int c21 (by decide)]; decide) (by rw [vsw_int c21 (by decide)]; rfl) (by decide) ?_
      refine P_aload_n dX7_readCommand_532 rfl rfl ?_
      refine P_dup dX7_readCommand_533 rfl ?_
      refine P_getiN (x := nI (s + 1)) dX7_readCommand_534 kX7 fX7_133 rfl (by decide) hq.o hs3 ?_
      refine P_iconst (v := nI 1) dX7_readCommand_537 (by decide) ?_
      refine P_isubN dX7_readCommand_538 (by omega) ?_
      refine P_puti dX7_readCommand_539 kX7 fX7_133 rfl (by decide) rfl hq.o ?_
      have hR140 : RR c (vU v5 q 10 (nI ((s + 1) - 1))) r S := hR1.of (fun i _ => by rw [vU_ne hrq])
      have hO141 : vO4 v (vU v5 q 10 (nI ((s + 1) - 1))) r q := hO2.tr (vU_F.o4 (Or.inl rfl))
      have hs142 : (vU v5 q 10 (nI ((s + 1) - 1))) q 10 = nI (s) := vU_s.trans (congrArg nI (by omega))
      have ho143 : (vU v5 q 10 (nI ((s + 1) - 1))) q 11 = nI o := (vU_o (by omega)).trans ho4
      generalize (vU v5 q 10 (nI ((s + 1) - 1))) = v144 at hR140 hO141 hs142 ho143 ⊢
      refine P_iconst (v := nI 0) dX7_readCommand_542 (by decide) ?_
      refine P_zret dX7_readCommand_543 rfl (by decide) ?_
      exact rc_no (mp_0 (by omega)) hR140 ho143 hs142 hO141
    · replace c21 : t s = 111 := by omega
      refine P_tswIn (off := 511) (tgt := 532) dX7_readCommand_21 (by rw [vsw_int c21 (by decide)]; decide) (by rw [vsw_int c21 (by decide)]; decide) (by rw [vsw_int c21 (by decide)]; rfl) (by decide) ?_
      refine P_aload_n dX7_readCommand_532 rfl rfl ?_
      refine P_dup dX7_readCommand_533 rfl ?_
      refine P_getiN (x := nI (s + 1)) dX7_readCommand_534 kX7 fX7_133 rfl (by decide) hq.o hs3 ?_
      refine P_iconst (v := nI 1) dX7_readCommand_537 (by decide) ?_
      refine P_isubN dX7_readCommand_538 (by omega) ?_
      refine P_puti dX7_readCommand_539 kX7 fX7_133 rfl (by decide) rfl hq.o ?_
      have hR145 : RR c (vU v5 q 10 (nI ((s + 1) - 1))) r S := hR1.of (fun i _ => by rw [vU_ne hrq])
      have hO146 : vO4 v (vU v5 q 10 (nI ((s + 1) - 1))) r q := hO2.tr (vU_F.o4 (Or.inl rfl))
      have hs147 : (vU v5 q 10 (nI ((s + 1) - 1))) q 10 = nI (s) := vU_s.trans (congrArg nI (by omega))
      have ho148 : (vU v5 q 10 (nI ((s + 1) - 1))) q 11 = nI o := (vU_o (by omega)).trans ho4
      generalize (vU v5 q 10 (nI ((s + 1) - 1))) = v149 at hR145 hO146 hs147 ho148 ⊢
      refine P_iconst (v := nI 0) dX7_readCommand_542 (by decide) ?_
      refine P_zret dX7_readCommand_543 rfl (by decide) ?_
      exact rc_no (mp_0 (by omega)) hR145 ho148 hs147 hO146
    · replace c21 : t s = 112 := by omega
      refine P_tswIn (off := 431) (tgt := 452) dX7_readCommand_21 (by rw [vsw_int c21 (by decide)]; decide) (by rw [vsw_int c21 (by decide)]; decide) (by rw [vsw_int c21 (by decide)]; rfl) (by decide) ?_
      refine P_aload_n dX7_readCommand_452 rfl rfl ?_
      refine P_iconst (v := nI 0) dX7_readCommand_453 (by decide) ?_
      refine P_iconst (v := nI 2) dX7_readCommand_454 (by decide) ?_
      refine P_iconst (v := nI 0) dX7_readCommand_455 (by decide) ?_
      refine P_bipush (v := nI 40) dX7_readCommand_456 (by decide) ?_
      refine P_cVs (rest := []) (As := [.int (nI (0)), .int (nI (2)), .int (nI (0)), .int (nI (40))]) dX7_readCommand_458 lX7_141 yk_X7_figures yv_X7_figures kX7 rfl (by decide) hq.o rfl rfl (Nat.le_of_ble_eq_true rfl) rfl (c_X7_fig2 hq (htx.o4 hO2 hr1) hs3 (by omega) (by omega) (by decide) (by decide)) (fun v150 h151 => ?_)
      have hR152 : RR c v150 r S := hR1.of (fun i _ => by rw [h151.2.ne hrq])
      have hO153 : vO4 v v150 r q := hO2.tr (h151.2.o4 (Or.inl rfl))
      have ho154 : v150 q 11 = nI o := (h151.2 q 11 (Or.inr (by decide))).trans ho4
      rcases hFa : (mfig2 t n 0 40 (s + 1)).1 with _ | a
      · refine P_top (y := -1) rfl ?_
        refine P_istore_n (ls2 := [some (.ref (q)), some (.ref (r)), some (.int (nI (t s))), some (.int ((-1))), none]) dX7_readCommand_461 rfl (by decide) rfl ?_
        refine P_aload_n dX7_readCommand_462 rfl rfl ?_
        refine P_bipush (v := nI 7) dX7_readCommand_463 (by decide) ?_
        refine P_iload_n dX7_readCommand_465 rfl rfl ?_
        refine P_iconst (v := -1) dX7_readCommand_466 (by decide) ?_
        refine P_icmp_ne (tgt := 477) dX7_readCommand_467 (by decide) (fun c467 => ?_) (fun c467 => ?_)
        · exact absurd rfl c467
        · refine P_aload_n dX7_readCommand_470 rfl rfl ?_
          refine P_bipush (v := nI 7) dX7_readCommand_471 (by decide) ?_
          refine P_ialdN (x := nI (gG S 7)) (7) dX7_readCommand_473 hr rfl (by omega) (by decide) (hR152.g (by decide) (by decide)) ?_
          refine P_goto (tgt := 478) dX7_readCommand_474 (by decide) ?_
          refine P_iast (7) dX7_readCommand_478 hr rfl (by omega) (by decide) ?_
          have hR155 : RR c (vU v150 r 7 (nI (gG S 7))) r (sG S 7 (gG S 7)) := hR152.G (by decide) (by decide) (by decide)
          rw [sG_same] at hR155
          have hO156 : vO4 v (vU v150 r 7 (nI (gG S 7))) r q := hO153.tr ((vO9.rf.u).o4 hrq)
          have hs157 : (vU v150 r 7 (nI (gG S 7))) q 10 = nI ((mfig2 t n 0 40 (s + 1)).2) := (vU_o (Or.inl (fun e => hrq e.symm))).trans h151.1
          have ho158 : (vU v150 r 7 (nI (gG S 7))) q 11 = nI o := (vU_o (Or.inl (fun e => hrq e.symm))).trans ho154
          generalize (vU v150 r 7 (nI (gG S 7))) = v159 at hR155 hO156 hs157 ho158 ⊢
          refine P_iload_n dX7_readCommand_479 rfl rfl ?_
          refine P_iconst (v := -1) dX7_readCommand_480 (by decide) ?_
          refine P_icmp_eq (tgt := 488) dX7_readCommand_481 (by decide) (fun c481 => ?_) (fun c481 => ?_)
          · refine P_iconst (v := nI 0) dX7_readCommand_488 (by decide) ?_
            refine P_zret dX7_readCommand_489 rfl (by decide) ?_
            exact rc_no ((mp_p c21).trans (mp1_n hFa)) hR155 ho158 hs157 hO156
          · exact absurd rfl c481
      · refine P_top (y := nI a) rfl ?_
        obtain ⟨hla, hha⟩ := fig2_r hFa
        refine P_istore_n (ls2 := [some (.ref (q)), some (.ref (r)), some (.int (nI (t s))), some (.int (nI (a))), none]) dX7_readCommand_461 rfl (by decide) rfl ?_
        refine P_aload_n dX7_readCommand_462 rfl rfl ?_
        refine P_bipush (v := nI 7) dX7_readCommand_463 (by decide) ?_
        refine P_iload_n dX7_readCommand_465 rfl rfl ?_
        refine P_iconst (v := -1) dX7_readCommand_466 (by decide) ?_
        refine P_icmp_ne (tgt := 477) dX7_readCommand_467 (by decide) (fun c467 => ?_) (fun c467 => ?_)
        · refine P_iload_n dX7_readCommand_477 rfl rfl ?_
          refine P_iast (7) dX7_readCommand_478 hr rfl (by omega) (by decide) ?_
          have hR160 : RR c (vU v150 r 7 (nI (a))) r (sG S 7 (a)) := hR152.G (by decide) (by decide) (by decide)
          have hO161 : vO4 v (vU v150 r 7 (nI (a))) r q := hO153.tr ((vO9.rf.u).o4 hrq)
          have hs162 : (vU v150 r 7 (nI (a))) q 10 = nI ((mfig2 t n 0 40 (s + 1)).2) := (vU_o (Or.inl (fun e => hrq e.symm))).trans h151.1
          have ho163 : (vU v150 r 7 (nI (a))) q 11 = nI o := (vU_o (Or.inl (fun e => hrq e.symm))).trans ho154
          generalize (vU v150 r 7 (nI (a))) = v164 at hR160 hO161 hs162 ho163 ⊢
          refine P_iload_n dX7_readCommand_479 rfl rfl ?_
          refine P_iconst (v := -1) dX7_readCommand_480 (by decide) ?_
          refine P_icmp_eq (tgt := 488) dX7_readCommand_481 (by decide) (fun c481 => ?_) (fun c481 => ?_)
          · exact absurd c481 (nI_nm1 (by omega))
          · refine P_iconst (v := nI 1) dX7_readCommand_484 (by decide) ?_
            refine P_goto (tgt := 489) dX7_readCommand_485 (by decide) ?_
            refine P_zret dX7_readCommand_489 rfl (by decide) ?_
            exact rc_yes (ok := true) ((mp_p c21).trans (mp1_s hFa)) ((mx_p c21).trans (rfl)) hR160 ho163 hs162 hO161
        · exact absurd c467 (nI_nm1 (by omega))
    · replace c21 : t s = 113 := by omega
      refine P_tswIn (off := 511) (tgt := 532) dX7_readCommand_21 (by rw [vsw_int c21 (by decide)]; decide) (by rw [vsw_int c21 (by decide)]; decide) (by rw [vsw_int c21 (by decide)]; rfl) (by decide) ?_
      refine P_aload_n dX7_readCommand_532 rfl rfl ?_
      refine P_dup dX7_readCommand_533 rfl ?_
      refine P_getiN (x := nI (s + 1)) dX7_readCommand_534 kX7 fX7_133 rfl (by decide) hq.o hs3 ?_
      refine P_iconst (v := nI 1) dX7_readCommand_537 (by decide) ?_
      refine P_isubN dX7_readCommand_538 (by omega) ?_
      refine P_puti dX7_readCommand_539 kX7 fX7_133 rfl (by decide) rfl hq.o ?_
      have hR165 : RR c (vU v5 q 10 (nI ((s + 1) - 1))) r S := hR1.of (fun i _ => by rw [vU_ne hrq])
      have hO166 : vO4 v (vU v5 q 10 (nI ((s + 1) - 1))) r q := hO2.tr (vU_F.o4 (Or.inl rfl))
      have hs167 : (vU v5 q 10 (nI ((s + 1) - 1))) q 10 = nI (s) := vU_s.trans (congrArg nI (by omega))
      have ho168 : (vU v5 q 10 (nI ((s + 1) - 1))) q 11 = nI o := (vU_o (by omega)).trans ho4
      generalize (vU v5 q 10 (nI ((s + 1) - 1))) = v169 at hR165 hO166 hs167 ho168 ⊢
      refine P_iconst (v := nI 0) dX7_readCommand_542 (by decide) ?_
      refine P_zret dX7_readCommand_543 rfl (by decide) ?_
      exact rc_no (mp_0 (by omega)) hR165 ho168 hs167 hO166
    · replace c21 : t s = 114 := by omega
      refine P_tswIn (off := 511) (tgt := 532) dX7_readCommand_21 (by rw [vsw_int c21 (by decide)]; decide) (by rw [vsw_int c21 (by decide)]; decide) (by rw [vsw_int c21 (by decide)]; rfl) (by decide) ?_
      refine P_aload_n dX7_readCommand_532 rfl rfl ?_
      refine P_dup dX7_readCommand_533 rfl ?_
      refine P_getiN (x := nI (s + 1)) dX7_readCommand_534 kX7 fX7_133 rfl (by decide) hq.o hs3 ?_
      refine P_iconst (v := nI 1) dX7_readCommand_537 (by decide) ?_
      refine P_isubN dX7_readCommand_538 (by omega) ?_
      refine P_puti dX7_readCommand_539 kX7 fX7_133 rfl (by decide) rfl hq.o ?_
      have hR170 : RR c (vU v5 q 10 (nI ((s + 1) - 1))) r S := hR1.of (fun i _ => by rw [vU_ne hrq])
      have hO171 : vO4 v (vU v5 q 10 (nI ((s + 1) - 1))) r q := hO2.tr (vU_F.o4 (Or.inl rfl))
      have hs172 : (vU v5 q 10 (nI ((s + 1) - 1))) q 10 = nI (s) := vU_s.trans (congrArg nI (by omega))
      have ho173 : (vU v5 q 10 (nI ((s + 1) - 1))) q 11 = nI o := (vU_o (by omega)).trans ho4
      generalize (vU v5 q 10 (nI ((s + 1) - 1))) = v174 at hR170 hO171 hs172 ho173 ⊢
      refine P_iconst (v := nI 0) dX7_readCommand_542 (by decide) ?_
      refine P_zret dX7_readCommand_543 rfl (by decide) ?_
      exact rc_no (mp_0 (by omega)) hR170 ho173 hs172 hO171
    · replace c21 : t s = 115 := by omega
      refine P_tswIn (off := 156) (tgt := 177) dX7_readCommand_21 (by rw [vsw_int c21 (by decide)]; decide) (by rw [vsw_int c21 (by decide)]; decide) (by rw [vsw_int c21 (by decide)]; rfl) (by decide) ?_
      refine P_aload_n dX7_readCommand_177 rfl rfl ?_
      refine P_iconst (v := nI 0) dX7_readCommand_178 (by decide) ?_
      refine P_cVs (rest := []) (As := [.int (nI (0))]) dX7_readCommand_179 lX7_153 yk_X7_who yv_X7_who kX7 rfl (by decide) hq.o rfl rfl (Nat.le_of_ble_eq_true rfl) rfl (c_X7_who hq (htx.o4 hO2 hr1) hs3 (by omega) (by omega)) (fun v175 h176 => ?_)
      have hR177 : RR c v175 r S := hR1.of (fun i _ => by rw [h176.2.ne hrq])
      have hO178 : vO4 v v175 r q := hO2.tr (h176.2.o4 (Or.inl rfl))
      have ho179 : v175 q 11 = nI o := (h176.2 q 11 (Or.inr (by decide))).trans ho4
      rcases hFa : (mfig1 t n 0 5 0 (s + 1)).1 with _ | a
      · refine P_top (y := -1) rfl ?_
        refine P_istore_n (ls2 := [some (.ref (q)), some (.ref (r)), some (.int (nI (t s))), some (.int ((-1))), none]) dX7_readCommand_182 rfl (by decide) rfl ?_
        refine P_iload_n dX7_readCommand_183 rfl rfl ?_
        refine P_iconst (v := -1) dX7_readCommand_184 (by decide) ?_
        refine P_icmp_eq (tgt := 220) dX7_readCommand_185 (by decide) (fun c185 => ?_) (fun c185 => ?_)
        · refine P_iconst (v := nI 0) dX7_readCommand_220 (by decide) ?_
          refine P_zret dX7_readCommand_221 rfl (by decide) ?_
          exact rc_no ((mp_w (Or.inl c21)).trans (mp1_n hFa)) hR177 ho179 h176.1 hO178
        · exact absurd rfl c185
      · refine P_top (y := nI a) rfl ?_
        obtain ⟨hla, hha⟩ := fig1_r hFa
        refine P_istore_n (ls2 := [some (.ref (q)), some (.ref (r)), some (.int (nI (t s))), some (.int (nI (a))), none]) dX7_readCommand_182 rfl (by decide) rfl ?_
        refine P_iload_n dX7_readCommand_183 rfl rfl ?_
        refine P_iconst (v := -1) dX7_readCommand_184 (by decide) ?_
        refine P_icmp_eq (tgt := 220) dX7_readCommand_185 (by decide) (fun c185 => ?_) (fun c185 => ?_)
        · exact absurd c185 (nI_nm1 (by omega))
        · refine P_aload_n dX7_readCommand_188 rfl rfl ?_
          refine P_aload_n dX7_readCommand_189 rfl rfl ?_
          refine P_iload_n dX7_readCommand_190 rfl rfl ?_
          refine P_cSp (rest := [.ref (q)]) (As := [.ref (r), .int (nI (a))]) dX7_readCommand_191 lX7_156 yk_X7_canSay ys_X7_canSay (by decide) rfl rfl (Nat.le_of_ble_eq_true rfl) rfl (c_X7_canSay hr hR177 hN) ?_
          refine P_top (y := vb (decide (a < c ∧ gM S a 1 = 0 ∧ gM S a 7 < 4))) (by rw [mcsay_k hc6 (by omega)]) ?_
          refine P_bif_eq (tgt := 209) dX7_readCommand_194 (by decide) (fun c194 => ?_) (fun c194 => ?_)
          · refine P_iconst (v := nI 0) dX7_readCommand_209 (by decide) ?_
            refine P_top (y := vb false) (vb_f rfl).symm ?_
            refine P_cVs (rest := []) (As := [.int (vb (false))]) dX7_readCommand_210 lX7_149 yk_X7_done yv_X7_done kX7 rfl (by decide) hq.o rfl rfl (Nat.le_of_ble_eq_true rfl) rfl (c_X7_done (is := false) hq ho179) (fun v180 h181 => ?_)
            have hR183 : RR (c) v180 r (S) := hR177.of (fun i _ => by rw [h181.2.ne hrq])
            have hO182 : vO4 v v180 r q := hO178.tr (h181.2.o4 (Or.inr rfl))
            have h181_k : v180 q 10 = nI ((mfig1 t n 0 5 0 (s + 1)).2) := (h181.2 q 10 (Or.inr (by decide))).trans h176.1
            refine P_if_eqN (tgt := 220) dX7_readCommand_213 (by decide) (by omega) (fun c213 => ?_) (fun c213 => ?_)
            · exact absurd c213 (by decide)
            · refine P_iconst (v := nI 1) dX7_readCommand_216 (by decide) ?_
              refine P_goto (tgt := 221) dX7_readCommand_217 (by decide) ?_
              refine P_zret dX7_readCommand_221 rfl (by decide) ?_
              exact rc_yes (ok := false) ((mp_w (Or.inl c21)).trans (mp1_s hFa)) ((mx_s c21).trans (if_neg (fun z => of_decide_eq_false c194 z))) hR183 h181.1 h181_k hO182
          · obtain ⟨z1, z2, z3⟩ := of_decide_eq_true c194
            refine P_aload_n dX7_readCommand_197 rfl rfl ?_
            refine P_iload_n dX7_readCommand_198 rfl rfl ?_
            refine P_cSs (rest := [.ref (q)]) (As := [.ref (r), .int (nI (a))]) dX7_readCommand_199 lX7_159 yk_X7_sayOn ys_X7_sayOn (by decide) rfl rfl (Nat.le_of_ble_eq_true rfl) rfl (c_X7_sayOn hr hR177 hN (by omega) z1 z3) (fun v184 ⟨hR185, h186⟩ => ?_)
            have hO187 : vO4 v v184 r q := hO178.tr (h186.o4 hrq)
            have e190 := congrFun (h186 q (fun e => hrq e.symm)) 10
            have e190b := congrFun (h186 q (fun e => hrq e.symm)) 11
            have hs188 : v184 q 10 = nI ((mfig1 t n 0 5 0 (s + 1)).2) := e190.trans h176.1
            have ho189 : v184 q 11 = nI o := e190b.trans ho179
            refine P_if_ltN (tgt := 209) dX7_readCommand_202 (by decide) (by have := hN.m7 a; omega) (fun c202 => ?_) (fun c202 => ?_)
            · exact c202.elim
            · refine P_iconst (v := nI 1) dX7_readCommand_205 (by decide) ?_
              refine P_goto (tgt := 210) dX7_readCommand_206 (by decide) ?_
              refine P_top (y := vb true) (vb_t rfl).symm ?_
              refine P_cVs (rest := []) (As := [.int (vb (true))]) dX7_readCommand_210 lX7_149 yk_X7_done yv_X7_done kX7 rfl (by decide) hq.o rfl rfl (Nat.le_of_ble_eq_true rfl) rfl (c_X7_done (is := true) hq ho189) (fun v191 h192 => ?_)
              have hR194 : RR (c) v191 r (msay S a) := hR185.of (fun i _ => by rw [h192.2.ne hrq])
              have hO193 : vO4 v v191 r q := hO187.tr (h192.2.o4 (Or.inr rfl))
              have h192_k : v191 q 10 = nI ((mfig1 t n 0 5 0 (s + 1)).2) := (h192.2 q 10 (Or.inr (by decide))).trans hs188
              refine P_if_eqN (tgt := 220) dX7_readCommand_213 (by decide) (by omega) (fun c213 => ?_) (fun c213 => ?_)
              · exact absurd c213 (by decide)
              · refine P_iconst (v := nI 1) dX7_readCommand_216 (by decide) ?_
                refine P_goto (tgt := 221) dX7_readCommand_217 (by decide) ?_
                refine P_zret dX7_readCommand_221 rfl (by decide) ?_
                exact rc_yes (ok := true) ((mp_w (Or.inl c21)).trans (mp1_s hFa)) ((mx_s c21).trans (if_pos ⟨z1, z2, z3⟩)) hR194 h192.1 h192_k hO193
    · replace c21 : t s = 116 := by omega
      refine P_tswIn (off := 469) (tgt := 490) dX7_readCommand_21 (by rw [vsw_int c21 (by decide)]; decide) (by rw [vsw_int c21 (by decide)]; decide) (by rw [vsw_int c21 (by decide)]; rfl) (by decide) ?_
      refine P_aload_n dX7_readCommand_490 rfl rfl ?_
      refine P_iconst (v := nI 0) dX7_readCommand_491 (by decide) ?_
      refine P_iconst (v := nI 2) dX7_readCommand_492 (by decide) ?_
      refine P_iconst (v := nI 1) dX7_readCommand_493 (by decide) ?_
      refine P_bipush (v := nI 60) dX7_readCommand_494 (by decide) ?_
      refine P_cVs (rest := []) (As := [.int (nI (0)), .int (nI (2)), .int (nI (1)), .int (nI (60))]) dX7_readCommand_496 lX7_141 yk_X7_figures yv_X7_figures kX7 rfl (by decide) hq.o rfl rfl (Nat.le_of_ble_eq_true rfl) rfl (c_X7_fig2 hq (htx.o4 hO2 hr1) hs3 (by omega) (by omega) (by decide) (by decide)) (fun v195 h196 => ?_)
      have hR197 : RR c v195 r S := hR1.of (fun i _ => by rw [h196.2.ne hrq])
      have hO198 : vO4 v v195 r q := hO2.tr (h196.2.o4 (Or.inl rfl))
      have ho199 : v195 q 11 = nI o := (h196.2 q 11 (Or.inr (by decide))).trans ho4
      rcases hFa : (mfig2 t n 1 60 (s + 1)).1 with _ | a
      · refine P_top (y := -1) rfl ?_
        refine P_istore_n (ls2 := [some (.ref (q)), some (.ref (r)), some (.int (nI (t s))), some (.int ((-1))), none]) dX7_readCommand_499 rfl (by decide) rfl ?_
        refine P_iload_n dX7_readCommand_500 rfl rfl ?_
        refine P_iconst (v := -1) dX7_readCommand_501 (by decide) ?_
        refine P_icmp_eq (tgt := 530) dX7_readCommand_502 (by decide) (fun c502 => ?_) (fun c502 => ?_)
        · refine P_iconst (v := nI 0) dX7_readCommand_530 (by decide) ?_
          refine P_zret dX7_readCommand_531 rfl (by decide) ?_
          exact rc_no ((mp_t c21).trans (mp1_n hFa)) hR197 ho199 h196.1 hO198
        · exact absurd rfl c502
      · refine P_top (y := nI a) rfl ?_
        obtain ⟨hla, hha⟩ := fig2_r hFa
        refine P_istore_n (ls2 := [some (.ref (q)), some (.ref (r)), some (.int (nI (t s))), some (.int (nI (a))), none]) dX7_readCommand_499 rfl (by decide) rfl ?_
        refine P_iload_n dX7_readCommand_500 rfl rfl ?_
        refine P_iconst (v := -1) dX7_readCommand_501 (by decide) ?_
        refine P_icmp_eq (tgt := 530) dX7_readCommand_502 (by decide) (fun c502 => ?_) (fun c502 => ?_)
        · exact absurd c502 (nI_nm1 (by omega))
        · refine P_aload_n dX7_readCommand_505 rfl rfl ?_
          refine P_aload_n dX7_readCommand_506 rfl rfl ?_
          refine P_aload_n dX7_readCommand_507 rfl rfl ?_
          refine P_iload_n dX7_readCommand_508 rfl rfl ?_
          refine P_cVs (rest := [.ref (q)]) (As := [.ref (r), .int (nI (a))]) dX7_readCommand_509 lX7_178 yk_X7_ticksOn yv_X7_ticksOn kX7 rfl (by decide) hq.o rfl rfl (Nat.le_of_ble_eq_true rfl) rfl (c_X7_ticksOn hq hr hR197 hrq7 hN (by omega) hX.2 (by omega)) (fun v200 ⟨hR201, h202⟩ => ?_)
          have hO203 : vO4 v v200 r q := hO198.tr (h202.o4 hrq)
          have e206 := congrFun (h202 q (fun e => hrq e.symm) (by omega)) 10
          have e206b := congrFun (h202 q (fun e => hrq e.symm) (by omega)) 11
          have hs204 : v200 q 10 = nI ((mfig2 t n 1 60 (s + 1)).2) := e206.trans h196.1
          have ho205 : v200 q 11 = nI o := e206b.trans ho199
          refine P_if_ltN (tgt := 519) dX7_readCommand_512 (by decide) (by have := (hN.ticks a).g (i := 6) (by decide); omega) (fun c512 => ?_) (fun c512 => ?_)
          · exact c512.elim
          · refine P_iconst (v := nI 1) dX7_readCommand_515 (by decide) ?_
            refine P_goto (tgt := 520) dX7_readCommand_516 (by decide) ?_
            refine P_top (y := vb true) (vb_t rfl).symm ?_
            refine P_cVs (rest := []) (As := [.int (vb (true))]) dX7_readCommand_520 lX7_149 yk_X7_done yv_X7_done kX7 rfl (by decide) hq.o rfl rfl (Nat.le_of_ble_eq_true rfl) rfl (c_X7_done (is := true) hq ho205) (fun v207 h208 => ?_)
            have hR210 : RR (c) v207 r (mticks a S) := hR201.of (fun i _ => by rw [h208.2.ne hrq])
            have hO209 : vO4 v v207 r q := hO203.tr (h208.2.o4 (Or.inr rfl))
            have h208_k : v207 q 10 = nI ((mfig2 t n 1 60 (s + 1)).2) := (h208.2 q 10 (Or.inr (by decide))).trans hs204
            refine P_if_eqN (tgt := 530) dX7_readCommand_523 (by decide) (by omega) (fun c523 => ?_) (fun c523 => ?_)
            · exact absurd c523 (by decide)
            · refine P_iconst (v := nI 1) dX7_readCommand_526 (by decide) ?_
              refine P_goto (tgt := 531) dX7_readCommand_527 (by decide) ?_
              refine P_zret dX7_readCommand_531 rfl (by decide) ?_
              exact rc_yes (ok := true) ((mp_t c21).trans (mp1_s hFa)) ((mx_t c21).trans (rfl)) hR210 h208.1 h208_k hO209
    · replace c21 : t s = 117 := by omega
      refine P_tswIn (off := 511) (tgt := 532) dX7_readCommand_21 (by rw [vsw_int c21 (by decide)]; decide) (by rw [vsw_int c21 (by decide)]; decide) (by rw [vsw_int c21 (by decide)]; rfl) (by decide) ?_
      refine P_aload_n dX7_readCommand_532 rfl rfl ?_
      refine P_dup dX7_readCommand_533 rfl ?_
      refine P_getiN (x := nI (s + 1)) dX7_readCommand_534 kX7 fX7_133 rfl (by decide) hq.o hs3 ?_
      refine P_iconst (v := nI 1) dX7_readCommand_537 (by decide) ?_
      refine P_isubN dX7_readCommand_538 (by omega) ?_
      refine P_puti dX7_readCommand_539 kX7 fX7_133 rfl (by decide) rfl hq.o ?_
      have hR211 : RR c (vU v5 q 10 (nI ((s + 1) - 1))) r S := hR1.of (fun i _ => by rw [vU_ne hrq])
      have hO212 : vO4 v (vU v5 q 10 (nI ((s + 1) - 1))) r q := hO2.tr (vU_F.o4 (Or.inl rfl))
      have hs213 : (vU v5 q 10 (nI ((s + 1) - 1))) q 10 = nI (s) := vU_s.trans (congrArg nI (by omega))
      have ho214 : (vU v5 q 10 (nI ((s + 1) - 1))) q 11 = nI o := (vU_o (by omega)).trans ho4
      generalize (vU v5 q 10 (nI ((s + 1) - 1))) = v215 at hR211 hO212 hs213 ho214 ⊢
      refine P_iconst (v := nI 0) dX7_readCommand_542 (by decide) ?_
      refine P_zret dX7_readCommand_543 rfl (by decide) ?_
      exact rc_no (mp_0 (by omega)) hR211 ho214 hs213 hO212
    · replace c21 : t s = 118 := by omega
      refine P_tswIn (off := 511) (tgt := 532) dX7_readCommand_21 (by rw [vsw_int c21 (by decide)]; decide) (by rw [vsw_int c21 (by decide)]; decide) (by rw [vsw_int c21 (by decide)]; rfl) (by decide) ?_
      refine P_aload_n dX7_readCommand_532 rfl rfl ?_
      refine P_dup dX7_readCommand_533 rfl ?_
      refine P_getiN (x := nI (s + 1)) dX7_readCommand_534 kX7 fX7_133 rfl (by decide) hq.o hs3 ?_
      refine P_iconst (v := nI 1) dX7_readCommand_537 (by decide) ?_
      refine P_isubN dX7_readCommand_538 (by omega) ?_
      refine P_puti dX7_readCommand_539 kX7 fX7_133 rfl (by decide) rfl hq.o ?_
      have hR216 : RR c (vU v5 q 10 (nI ((s + 1) - 1))) r S := hR1.of (fun i _ => by rw [vU_ne hrq])
      have hO217 : vO4 v (vU v5 q 10 (nI ((s + 1) - 1))) r q := hO2.tr (vU_F.o4 (Or.inl rfl))
      have hs218 : (vU v5 q 10 (nI ((s + 1) - 1))) q 10 = nI (s) := vU_s.trans (congrArg nI (by omega))
      have ho219 : (vU v5 q 10 (nI ((s + 1) - 1))) q 11 = nI o := (vU_o (by omega)).trans ho4
      generalize (vU v5 q 10 (nI ((s + 1) - 1))) = v220 at hR216 hO217 hs218 ho219 ⊢
      refine P_iconst (v := nI 0) dX7_readCommand_542 (by decide) ?_
      refine P_zret dX7_readCommand_543 rfl (by decide) ?_
      exact rc_no (mp_0 (by omega)) hR216 ho219 hs218 hO217
    · replace c21 : t s = 119 := by omega
      refine P_tswIn (off := 511) (tgt := 532) dX7_readCommand_21 (by rw [vsw_int c21 (by decide)]; decide) (by rw [vsw_int c21 (by decide)]; decide) (by rw [vsw_int c21 (by decide)]; rfl) (by decide) ?_
      refine P_aload_n dX7_readCommand_532 rfl rfl ?_
      refine P_dup dX7_readCommand_533 rfl ?_
      refine P_getiN (x := nI (s + 1)) dX7_readCommand_534 kX7 fX7_133 rfl (by decide) hq.o hs3 ?_
      refine P_iconst (v := nI 1) dX7_readCommand_537 (by decide) ?_
      refine P_isubN dX7_readCommand_538 (by omega) ?_
      refine P_puti dX7_readCommand_539 kX7 fX7_133 rfl (by decide) rfl hq.o ?_
      have hR221 : RR c (vU v5 q 10 (nI ((s + 1) - 1))) r S := hR1.of (fun i _ => by rw [vU_ne hrq])
      have hO222 : vO4 v (vU v5 q 10 (nI ((s + 1) - 1))) r q := hO2.tr (vU_F.o4 (Or.inl rfl))
      have hs223 : (vU v5 q 10 (nI ((s + 1) - 1))) q 10 = nI (s) := vU_s.trans (congrArg nI (by omega))
      have ho224 : (vU v5 q 10 (nI ((s + 1) - 1))) q 11 = nI o := (vU_o (by omega)).trans ho4
      generalize (vU v5 q 10 (nI ((s + 1) - 1))) = v225 at hR221 hO222 hs223 ho224 ⊢
      refine P_iconst (v := nI 0) dX7_readCommand_542 (by decide) ?_
      refine P_zret dX7_readCommand_543 rfl (by decide) ?_
      exact rc_no (mp_0 (by omega)) hR221 ho224 hs223 hO222
    · replace c21 : t s = 120 := by omega
      refine P_tswIn (off := 262) (tgt := 283) dX7_readCommand_21 (by rw [vsw_int c21 (by decide)]; decide) (by rw [vsw_int c21 (by decide)]; decide) (by rw [vsw_int c21 (by decide)]; rfl) (by decide) ?_
      refine P_aload_n dX7_readCommand_283 rfl rfl ?_
      refine P_iconst (v := nI 0) dX7_readCommand_284 (by decide) ?_
      refine P_cVs (rest := []) (As := [.int (nI (0))]) dX7_readCommand_285 lX7_153 yk_X7_who yv_X7_who kX7 rfl (by decide) hq.o rfl rfl (Nat.le_of_ble_eq_true rfl) rfl (c_X7_who hq (htx.o4 hO2 hr1) hs3 (by omega) (by omega)) (fun v226 h227 => ?_)
      have hR228 : RR c v226 r S := hR1.of (fun i _ => by rw [h227.2.ne hrq])
      have hO229 : vO4 v v226 r q := hO2.tr (h227.2.o4 (Or.inl rfl))
      have ho230 : v226 q 11 = nI o := (h227.2 q 11 (Or.inr (by decide))).trans ho4
      rcases hFa : (mfig1 t n 0 5 0 (s + 1)).1 with _ | a
      · refine P_top (y := -1) rfl ?_
        refine P_istore_n (ls2 := [some (.ref (q)), some (.ref (r)), some (.int (nI (t s))), some (.int ((-1))), none]) dX7_readCommand_288 rfl (by decide) rfl ?_
        refine P_aload_n dX7_readCommand_289 rfl rfl ?_
        refine P_iload_n dX7_readCommand_290 rfl rfl ?_
        refine P_cVp (rest := []) (As := [.int ((-1))]) dX7_readCommand_291 lX7_153 yk_X7_who yv_X7_who kX7 rfl (by decide) hq.o rfl rfl (Nat.le_of_ble_eq_true rfl) rfl (c_X7_whoN hq) ?_
        refine P_istore (ls2 := [some (.ref (q)), some (.ref (r)), some (.int (nI (t s))), some (.int ((-1))), some (.int ((-1)))]) dX7_readCommand_294 (by decide) rfl ?_
        refine P_iload dX7_readCommand_296 rfl ?_
        refine P_iconst (v := -1) dX7_readCommand_298 (by decide) ?_
        refine P_icmp_eq (tgt := 352) dX7_readCommand_299 (by decide) (fun c299 => ?_) (fun c299 => ?_)
        · refine P_iconst (v := nI 0) dX7_readCommand_352 (by decide) ?_
          refine P_zret dX7_readCommand_353 rfl (by decide) ?_
          exact rc_no ((mp_x c21).trans (mp2_n hFa)) hR228 ho230 h227.1 hO229
        · exact absurd rfl c299
      · refine P_top (y := nI a) rfl ?_
        obtain ⟨hla, hha⟩ := fig1_r hFa
        refine P_istore_n (ls2 := [some (.ref (q)), some (.ref (r)), some (.int (nI (t s))), some (.int (nI (a))), none]) dX7_readCommand_288 rfl (by decide) rfl ?_
        refine P_aload_n dX7_readCommand_289 rfl rfl ?_
        refine P_iload_n dX7_readCommand_290 rfl rfl ?_
        refine P_cVs (rest := []) (As := [.int (nI (a))]) dX7_readCommand_291 lX7_153 yk_X7_who yv_X7_who kX7 rfl (by decide) hq.o rfl rfl (Nat.le_of_ble_eq_true rfl) rfl (c_X7_who hq (htx.o4 hO229 hr1) h227.1 (fig1_le.2.2 (by omega)) (by omega)) (fun v231 h232 => ?_)
        have hR233 : RR c v231 r S := hR228.of (fun i _ => by rw [h232.2.ne hrq])
        have hO234 : vO4 v v231 r q := hO229.tr (h232.2.o4 (Or.inl rfl))
        have ho235 : v231 q 11 = nI o := (h232.2 q 11 (Or.inr (by decide))).trans ho230
        rcases hFd : (mfig1 t n 0 5 0 ((mfig1 t n 0 5 0 (s + 1)).2)).1 with _ | d
        · refine P_top (y := -1) rfl ?_
          refine P_istore (ls2 := [some (.ref (q)), some (.ref (r)), some (.int (nI (t s))), some (.int (nI (a))), some (.int ((-1)))]) dX7_readCommand_294 (by decide) rfl ?_
          refine P_iload dX7_readCommand_296 rfl ?_
          refine P_iconst (v := -1) dX7_readCommand_298 (by decide) ?_
          refine P_icmp_eq (tgt := 352) dX7_readCommand_299 (by decide) (fun c299 => ?_) (fun c299 => ?_)
          · refine P_iconst (v := nI 0) dX7_readCommand_352 (by decide) ?_
            refine P_zret dX7_readCommand_353 rfl (by decide) ?_
            exact rc_no ((mp_x c21).trans (mp2_sn hFa hFd)) hR233 ho235 h232.1 hO234
          · exact absurd rfl c299
        · refine P_top (y := nI d) rfl ?_
          obtain ⟨hld, hhd⟩ := fig1_r hFd
          refine P_istore (ls2 := [some (.ref (q)), some (.ref (r)), some (.int (nI (t s))), some (.int (nI (a))), some (.int (nI (d)))]) dX7_readCommand_294 (by decide) rfl ?_
          refine P_iload dX7_readCommand_296 rfl ?_
          refine P_iconst (v := -1) dX7_readCommand_298 (by decide) ?_
          refine P_icmp_eq (tgt := 352) dX7_readCommand_299 (by decide) (fun c299 => ?_) (fun c299 => ?_)
          · exact absurd c299 (nI_nm1 (by omega))
          · refine P_aload_n dX7_readCommand_302 rfl rfl ?_
            refine P_aload_n dX7_readCommand_303 rfl rfl ?_
            refine P_iload_n dX7_readCommand_304 rfl rfl ?_
            refine P_cSp (rest := [.ref (q)]) (As := [.ref (r), .int (nI (a))]) dX7_readCommand_305 lX7_112 yk_X7_isMember ys_X7_isMember (by decide) rfl rfl (Nat.le_of_ble_eq_true rfl) rfl (c_X7_isMember hr hR233) ?_
            refine P_top (y := vb (decide (a < c))) (by rw [mb_n (by omega)]) ?_
            refine P_bif_eq (tgt := 341) dX7_readCommand_308 (by decide) (fun c308 => ?_) (fun c308 => ?_)
            · refine P_iconst (v := nI 0) dX7_readCommand_341 (by decide) ?_
              refine P_top (y := vb false) (vb_f rfl).symm ?_
              refine P_cVs (rest := []) (As := [.int (vb (false))]) dX7_readCommand_342 lX7_149 yk_X7_done yv_X7_done kX7 rfl (by decide) hq.o rfl rfl (Nat.le_of_ble_eq_true rfl) rfl (c_X7_done (is := false) hq ho235) (fun v236 h237 => ?_)
              have hR239 : RR (c) v236 r (S) := hR233.of (fun i _ => by rw [h237.2.ne hrq])
              have hO238 : vO4 v v236 r q := hO234.tr (h237.2.o4 (Or.inr rfl))
              have h237_k : v236 q 10 = nI ((mfig1 t n 0 5 0 ((mfig1 t n 0 5 0 (s + 1)).2)).2) := (h237.2 q 10 (Or.inr (by decide))).trans h232.1
              refine P_if_eqN (tgt := 352) dX7_readCommand_345 (by decide) (by omega) (fun c345 => ?_) (fun c345 => ?_)
              · exact absurd c345 (by decide)
              · refine P_iconst (v := nI 1) dX7_readCommand_348 (by decide) ?_
                refine P_goto (tgt := 353) dX7_readCommand_349 (by decide) ?_
                refine P_zret dX7_readCommand_353 rfl (by decide) ?_
                exact rc_yes (ok := false) ((mp_x c21).trans (mp2_ss hFa hFd)) ((mx_x c21).trans (if_neg (fun z => of_decide_eq_false c308 z.1.1))) hR239 h237.1 h237_k hO238
            · have z1 := of_decide_eq_true c308
              refine P_aload_n dX7_readCommand_311 rfl rfl ?_
              refine P_iload dX7_readCommand_312 rfl ?_
              refine P_cSp (rest := [.ref (q)]) (As := [.ref (r), .int (nI (d))]) dX7_readCommand_314 lX7_112 yk_X7_isMember ys_X7_isMember (by decide) rfl rfl (Nat.le_of_ble_eq_true rfl) rfl (c_X7_isMember hr hR233) ?_
              refine P_top (y := vb (decide (d < c))) (by rw [mb_n (by omega)]) ?_
              refine P_bif_eq (tgt := 341) dX7_readCommand_317 (by decide) (fun c317 => ?_) (fun c317 => ?_)
              · refine P_iconst (v := nI 0) dX7_readCommand_341 (by decide) ?_
                refine P_top (y := vb false) (vb_f rfl).symm ?_
                refine P_cVs (rest := []) (As := [.int (vb (false))]) dX7_readCommand_342 lX7_149 yk_X7_done yv_X7_done kX7 rfl (by decide) hq.o rfl rfl (Nat.le_of_ble_eq_true rfl) rfl (c_X7_done (is := false) hq ho235) (fun v240 h241 => ?_)
                have hR243 : RR (c) v240 r (S) := hR233.of (fun i _ => by rw [h241.2.ne hrq])
                have hO242 : vO4 v v240 r q := hO234.tr (h241.2.o4 (Or.inr rfl))
                have h241_k : v240 q 10 = nI ((mfig1 t n 0 5 0 ((mfig1 t n 0 5 0 (s + 1)).2)).2) := (h241.2 q 10 (Or.inr (by decide))).trans h232.1
                refine P_if_eqN (tgt := 352) dX7_readCommand_345 (by decide) (by omega) (fun c345 => ?_) (fun c345 => ?_)
                · exact absurd c345 (by decide)
                · refine P_iconst (v := nI 1) dX7_readCommand_348 (by decide) ?_
                  refine P_goto (tgt := 353) dX7_readCommand_349 (by decide) ?_
                  refine P_zret dX7_readCommand_353 rfl (by decide) ?_
                  exact rc_yes (ok := false) ((mp_x c21).trans (mp2_ss hFa hFd)) ((mx_x c21).trans (if_neg (fun z => of_decide_eq_false c317 z.1.2))) hR243 h241.1 h241_k hO242
              · have z2 := of_decide_eq_true c317
                refine P_iload_n dX7_readCommand_320 rfl rfl ?_
                refine P_iload dX7_readCommand_321 rfl ?_
                refine P_icmp_eqN (tgt := 341) dX7_readCommand_323 (by decide) (by omega) (by omega) (fun c323 => ?_) (fun c323 => ?_)
                · refine P_iconst (v := nI 0) dX7_readCommand_341 (by decide) ?_
                  refine P_top (y := vb false) (vb_f rfl).symm ?_
                  refine P_cVs (rest := []) (As := [.int (vb (false))]) dX7_readCommand_342 lX7_149 yk_X7_done yv_X7_done kX7 rfl (by decide) hq.o rfl rfl (Nat.le_of_ble_eq_true rfl) rfl (c_X7_done (is := false) hq ho235) (fun v244 h245 => ?_)
                  have hR247 : RR (c) v244 r (S) := hR233.of (fun i _ => by rw [h245.2.ne hrq])
                  have hO246 : vO4 v v244 r q := hO234.tr (h245.2.o4 (Or.inr rfl))
                  have h245_k : v244 q 10 = nI ((mfig1 t n 0 5 0 ((mfig1 t n 0 5 0 (s + 1)).2)).2) := (h245.2 q 10 (Or.inr (by decide))).trans h232.1
                  refine P_if_eqN (tgt := 352) dX7_readCommand_345 (by decide) (by omega) (fun c345 => ?_) (fun c345 => ?_)
                  · exact absurd c345 (by decide)
                  · refine P_iconst (v := nI 1) dX7_readCommand_348 (by decide) ?_
                    refine P_goto (tgt := 353) dX7_readCommand_349 (by decide) ?_
                    refine P_zret dX7_readCommand_353 rfl (by decide) ?_
                    exact rc_yes (ok := false) ((mp_x c21).trans (mp2_ss hFa hFd)) ((mx_x c21).trans (if_neg (fun z => z.2 c323))) hR247 h245.1 h245_k hO246
                · refine P_aload_n dX7_readCommand_326 rfl rfl ?_
                  refine P_iload_n dX7_readCommand_327 rfl rfl ?_
                  refine P_iload dX7_readCommand_328 rfl ?_
                  refine P_iconst (v := nI 1) dX7_readCommand_330 (by decide) ?_
                  refine P_top (y := vb true) (vb_t rfl).symm ?_
                  refine P_cSs (rest := [.ref (q)]) (As := [.ref (r), .int (nI (a)), .int (nI (d)), .int (vb (true))]) dX7_readCommand_331 lX7_165 yk_X7_cutOn ys_X7_cutOn (by decide) rfl rfl (Nat.le_of_ble_eq_true rfl) rfl (c_X7_cutOn (cut := true) hr hR233 hN z1 z2 c323) (fun v248 ⟨hR249, h250⟩ => ?_)
                  have hO251 : vO4 v v248 r q := hO234.tr (h250.o4 hrq)
                  have e254 := congrFun (h250 q (fun e => hrq e.symm)) 10
                  have e254b := congrFun (h250 q (fun e => hrq e.symm)) 11
                  have hs252 : v248 q 10 = nI ((mfig1 t n 0 5 0 ((mfig1 t n 0 5 0 (s + 1)).2)).2) := e254.trans h232.1
                  have ho253 : v248 q 11 = nI o := e254b.trans ho235
                  refine P_if_leN (tgt := 341) dX7_readCommand_334 (by decide) (by have := mways_le (S := mcut S a d true); omega) (fun c334 => ?_) (fun c334 => ?_)
                  · exact absurd c334 (by have := mways_pos (S := S) (a := a) (d := d) (by omega) (by omega) c323; omega)
                  · skip
                    refine P_iconst (v := nI 1) dX7_readCommand_337 (by decide) ?_
                    refine P_goto (tgt := 342) dX7_readCommand_338 (by decide) ?_
                    refine P_top (y := vb true) (vb_t rfl).symm ?_
                    refine P_cVs (rest := []) (As := [.int (vb (true))]) dX7_readCommand_342 lX7_149 yk_X7_done yv_X7_done kX7 rfl (by decide) hq.o rfl rfl (Nat.le_of_ble_eq_true rfl) rfl (c_X7_done (is := true) hq ho253) (fun v255 h256 => ?_)
                    have hR258 : RR (c) v255 r (mcut S a d true) := hR249.of (fun i _ => by rw [h256.2.ne hrq])
                    have hO257 : vO4 v v255 r q := hO251.tr (h256.2.o4 (Or.inr rfl))
                    have h256_k : v255 q 10 = nI ((mfig1 t n 0 5 0 ((mfig1 t n 0 5 0 (s + 1)).2)).2) := (h256.2 q 10 (Or.inr (by decide))).trans hs252
                    refine P_if_eqN (tgt := 352) dX7_readCommand_345 (by decide) (by omega) (fun c345 => ?_) (fun c345 => ?_)
                    · exact absurd c345 (by decide)
                    · refine P_iconst (v := nI 1) dX7_readCommand_348 (by decide) ?_
                      refine P_goto (tgt := 353) dX7_readCommand_349 (by decide) ?_
                      refine P_zret dX7_readCommand_353 rfl (by decide) ?_
                      exact rc_yes (ok := true) ((mp_x c21).trans (mp2_ss hFa hFd)) ((mx_x c21).trans (if_pos ⟨⟨z1, z2⟩, c323⟩)) hR258 h256.1 h256_k hO257
