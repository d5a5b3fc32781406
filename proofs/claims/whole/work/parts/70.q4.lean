
theorem qr_thr9 {σ : vS} {v v0 : vV} {q k : Nat} {T : gT} {R : gR gT} (hT : RT v0 q T) (hF : vOw v v0 q 8) (e : R = (k, 0, T)) : vN (qR σ v q R) (.inl (some (.int (nI 0)))) (σ, vU v0 q 0 (nI k)) := by
  subst e
  exact q_s rfl ⟨vU_s, hT.ref, hF.u (by omega) (by omega)⟩
theorem RR0 {v : vV} {r : Nat} (h : ∀ i, i < 2012 → v r i = nI 0) : RR 0 v r mS0 :=
  ⟨rfl, by omega, fun i a _ => h i (by omega), h 2 (by omega), fun m a => absurd a (Nat.not_lt_zero m), fun m a => absurd a (Nat.not_lt_zero m), fun m a => absurd a (Nat.not_lt_zero m), fun k x hk => by replace hk : ([] : List mN)[k]? = some x := hk; simp at hk, NB0.b⟩
theorem mtext_0 {t : mN} {n : Nat} (h : n = 0 ∨ t 0 ≠ 82) : mtext t n = (some 0, (0, mS0), 0) := if_pos h
theorem mtext_1 {t : mN} {n : Nat} (h : ¬ (n = 0 ∨ t 0 ≠ 82)) : mgo t n n 1 (0, mS0) 0 = mtext t n := (if_neg h).symm
theorem mTX.c4 {v v' : vV} {q n : Nat} {t : mN} (h : mTX v q t n) (e : vO4 v v' (q + 3) q) : mTX v' q t n := h.of (e.2 2 (by decide) (by decide)) (fun i => by rw [e.1 (q + 1) (by omega) (by omega) (by omega)])
theorem RT.o4 {v v' : vV} {q : Nat} {T : gT} (h : RT v q T) (e : vO4 v v' (q + 3) q) : RT v' q T := h.of (fun j _ a b => e.2 j a b) (fun m a b d => e.1 m d (by omega) (by omega))
theorem vO9.c3 {v v' : vV} {q : Nat} (h : vO9 v v' (q + 3)) : vO4 v v' (q + 3) q := h.o4 (by omega)
theorem vO2.c3 {v v' : vV} {q : Nat} (h : vO2 v v' (q + 3) (q + 7)) : vO4 v v' (q + 3) q := h.o4 (by omega)
theorem vF.c3 {v v' : vV} {q k : Nat} (h : vF v v' q k) (hk : k = 10 ∨ k = 11) : vO4 v v' (q + 3) q := h.o4 hk
theorem and_pc : ∀ c, c ≤ 6 → ∀ m, m < c → (1 <<< m) &&& (1 <<< c - 1) = 1 <<< m := by decide
theorem turn_sets {c x m : Nat} (hc : c ≤ 6) (hm : m < c) : (x ||| 1 <<< m) &&& (1 <<< c - 1) = (x &&& (1 <<< c - 1)) ||| 1 <<< m := by rw [Nat.and_or_distrib_right, and_pc c hc m hm]
theorem turn_lt {c y : Nat} (hc : c ≤ 6) : y &&& (1 <<< c - 1) < 64 := Nat.lt_of_le_of_lt Nat.and_le_right (two_pc hc)
theorem one_pc {c : Nat} : 1 ≤ 1 <<< c := by rw [Nat.one_shiftLeft]; exact Nat.one_le_two_pow
theorem pc_lt {c : Nat} (hc : c ≤ 6) : 1 <<< c < 65 := by have := two_pc hc; omega
set_option maxHeartbeats 4000000 in
set_option maxRecDepth 100000 in
theorem c_X7_readText {σ : vS} {v : vV} {q n : Nat} {t : mN} (hq : LR σ q) (htx : mTX v q t n) : vC M_X7_readText yX7_readText [.ref (q), .ref (q + 3)] (σ, v) (qS σ (some (.int (mO (mtext t n).1))) (fun v9 => vO4 v v9 (q + 3) q ∧ ((mtext t n).1 = none → RR (mtext t n).2.1.1 v9 (q + 3) (mtext t n).2.1.2 ∧ v9 q 11 = nI (mtext t n).2.2))) := by
  have hn9 := htx.1
  refine vC_of (ls := [some (.ref (q)), some (.ref (q + 3))]) pn_X7 rfl rfl (Nat.le_of_ble_eq_true rfl) rfl ?_
  refine P_aload_n dX7_readText_0 rfl rfl ?_
  refine P_cSs (rest := []) (As := [.ref (q + 3)]) dX7_readText_1 lX7_32 yk_X7_clear ys_X7_clear (by decide) rfl rfl (Nat.le_of_ble_eq_true rfl) rfl (c_X7_clear hq.k3) (fun v1 ⟨hO1, hz1⟩ => ?_)
  refine P_aload_n dX7_readText_4 rfl rfl ?_
  refine P_iconst (v := nI 0) dX7_readText_5 (by decide) ?_
  refine P_puti dX7_readText_6 kX7 fX7_138 rfl (by decide) rfl hq.o ?_
  refine P_aload_n dX7_readText_9 rfl rfl ?_
  refine P_iconst (v := nI 0) dX7_readText_10 (by decide) ?_
  refine P_puti dX7_readText_11 kX7 fX7_133 rfl (by decide) rfl hq.o ?_
  generalize hv2 : (vU (vU v1 q 11 (nI (0))) q 10 (nI (0))) = v2
  have hO2 : vO4 v v2 (q + 3) q := by
    rw [← hv2]
    exact (hO1.c3.tr (vF.u (k := 11) .rf |>.c3 (Or.inr rfl))).tr (vF.u (k := 10) .rf |>.c3 (Or.inl rfl))
  have h210 : v2 q 10 = nI 0 := by rw [← hv2]; exact vU_s
  have h211 : v2 q 11 = nI 0 := by rw [← hv2, vU_o (by omega)]; exact vU_s
  have hR2 : RR 0 v2 (q + 3) mS0 := RR0 (fun i hi => by rw [← hv2, vU_ne (by omega), vU_ne (by omega)]; exact hz1 i hi)
  have htx2 := htx.c4 hO2
  refine P_aload_n dX7_readText_14 rfl rfl ?_
  refine P_getiN (x := nI (n)) dX7_readText_15 kX7 fX7_126 rfl (by decide) hq.o htx2.2.1 ?_
  refine P_if_eqN (tgt := 32) dX7_readText_18 (by decide) (by omega) (fun c18 => ?_) (fun c18 => ?_)
  · refine P_iconst (v := nI 0) dX7_readText_32 (by decide) ?_
    refine P_iret dX7_readText_33 rfl ?_
    exact q_s (by rw [mtext_0 (Or.inl (by omega))]; rfl) ⟨hO2, fun z9 => by rw [mtext_0 (Or.inl (by omega))] at z9; cases z9⟩
  · refine P_aload_n dX7_readText_21 rfl rfl ?_
    refine P_getr (t := q + 1) dX7_readText_22 kX7 fX7_7 rfl (by decide) hq.o hq.r1 hq.k1.1.2 ?_
    refine P_iconst (v := nI 0) dX7_readText_25 (by decide) ?_
    refine P_ialdN (x := nI (t 0)) (0) dX7_readText_26 hq.k1 rfl (by omega) (by decide) (htx2.2.2 0 (by omega)).1 ?_
    refine P_bipush (v := nI 82) dX7_readText_27 (by decide) ?_
    refine P_icmp_eqN (tgt := 34) dX7_readText_29 (by decide) (by first | omega | (have := (htx2.2.2 0 (by omega)).2; omega)) (by first | omega | (have := (htx2.2.2 0 (by omega)).2; omega)) (fun c29 => ?_) (fun c29 => ?_)
    · refine P_aload_n dX7_readText_34 rfl rfl ?_
      refine P_iconst (v := nI 1) dX7_readText_35 (by decide) ?_
      refine P_puti dX7_readText_36 kX7 fX7_133 rfl (by decide) rfl hq.o ?_
      generalize hv3 : vU v2 q 10 (nI 1) = v3
      have hO3 : vO4 v v3 (q + 3) q := by rw [← hv3]; exact hO2.tr (vF.u (k := 10) .rf |>.c3 (Or.inl rfl))
      have h310 : v3 q 10 = nI 1 := by rw [← hv3]; exact vU_s
      have h311 : v3 q 11 = nI 0 := by rw [← hv3, vU_o (by omega)]; exact h211
      have hR3 : RR 0 v3 (q + 3) mS0 := hR2.sh (fun i hi => by rw [← hv3, vU_ne (by omega)])
      have hm9 := mtext_1 (t := t) (n := n) (fun z9 => by omega)
      have hL39 : ∀ (n39 : Nat) (s o : Nat) (v4 : vV) (Bx c2 : Nat) (S2 : mS), (1 ≤ s) → (s ≤ n) → (n < s + n39) → (mgo t n n39 s (c2, S2) o = mtext t n) → (KC Bx (c2, S2)) → (100 ≤ Bx ∧ Bx + 70000 * (n - s) ≤ 9000000) → (RR c2 v4 (q + 3) S2) → (vO4 v v4 (q + 3) q) → (v4 q 10 = nI s) → (v4 q 11 = nI o) → vP M_X7_readText 39 [some (.ref (q)), some (.ref (q + 3))] [] ((vRm M_X7_readText).cells, (vRm M_X7_readText).slots) (σ, v4) (vN (qS σ (some (.int (mO (mtext t n).1))) (fun v9 => vO4 v v9 (q + 3) q ∧ ((mtext t n).1 = none → RR (mtext t n).2.1.1 v9 (q + 3) (mtext t n).2.1.2 ∧ v9 q 11 = nI (mtext t n).2.2)))) := by
        intro n39
        induction n39 with
        | zero =>
          intro s o v4 Bx c2 S2 h1 h3 h2 he hX hb hR4 hO4 hsp hou
          exact absurd h2 (by omega)
        | succ n39 ih39 =>
          intro s o v4 Bx c2 S2 h1 h3 h2 he hX hb hR4 hO4 hsp hou
          have htx4 := htx.c4 hO4
          refine P_aload_n dX7_readText_39 rfl rfl ?_
          refine P_getiN (x := nI (s)) dX7_readText_40 kX7 fX7_133 rfl (by decide) hq.o hsp ?_
          refine P_aload_n dX7_readText_43 rfl rfl ?_
          refine P_getiN (x := nI (n)) dX7_readText_44 kX7 fX7_126 rfl (by decide) hq.o htx4.2.1 ?_
          refine P_icmp_geN (tgt := 63) dX7_readText_47 (by decide) (by omega) (by omega) (fun c47 => ?_) (fun c47 => ?_)
          · refine P_iconst (v := -1) dX7_readText_63 (by decide) ?_
            refine P_iret dX7_readText_64 rfl ?_
            rw [mgo_end (by omega)] at he
            exact q_s (by rw [← he]; rfl) ⟨hO4, fun _ => by rw [← he]; exact ⟨hR4, hou⟩⟩
          · have hs9 : s < n := by omega
            refine P_aload_n dX7_readText_50 rfl rfl ?_
            refine P_aload_n dX7_readText_51 rfl rfl ?_
            refine P_cVs (rest := []) (As := [.ref (q + 3)]) dX7_readText_52 lX7_181 yk_X7_readCommand yv_X7_readCommand kX7 rfl (by decide) hq.o rfl rfl (Nat.le_of_ble_eq_true rfl) rfl (c_X7_readCommand hq hq.k3 hR4 (by omega) (by omega) (by omega) hX (by omega) htx4 hsp hs9 hou) (fun v5 hp5 => ?_)
            refine P_bif_ne (tgt := 39) dX7_readText_55 (by decide) (fun c55 => ?_) (fun c55 => ?_)
            · obtain ⟨p9, hp9⟩ := Option.isSome_iff_exists.mp c55
              have hpp : mparse t n s = (some (p9.1, p9.2), (mparse t n s).2) := Prod.ext hp9 rfl
              obtain ⟨g1, g2, g3⟩ := hp5
              rw [hp9] at g3
              replace g3 : RR (mexec (t s) p9.1 p9.2 (c2, S2)).2.1 v5 (q + 3) (mexec (t s) p9.1 p9.2 (c2, S2)).2.2 ∧ v5 q 11 = nI (if (mexec (t s) p9.1 p9.2 (c2, S2)).1 = true then o else o + 1) := g3
              obtain ⟨le1, le2, le3⟩ := parse_le (t := t) hs9
              have le4 := le3 (by rw [hp9]; exact Option.some_ne_none p9)
              refine ih39 (mparse t n s).2 _ v5 (Bx + 70000) (mexec (t s) p9.1 p9.2 (c2, S2)).2.1 (mexec (t s) p9.1 p9.2 (c2, S2)).2.2 (by omega) (by omega) (by omega) ?_ (hX.exec (a := p9.1) (b := p9.2) hb.1 hp9) ⟨by omega, by omega⟩ g3.1 (hO4.tr g2) g1 g3.2
              rw [mgo_good (by omega) hpp] at he
              exact he
            · refine P_aload_n dX7_readText_58 rfl rfl ?_
              refine P_getiN (x := nI ((mparse t n s).2)) dX7_readText_59 kX7 fX7_133 rfl (by decide) hq.o hp5.1 ?_
              refine P_iret dX7_readText_62 rfl ?_
              have hpp : mparse t n s = (none, (mparse t n s).2) := Prod.ext (none_of c55) rfl
              have hm := mgo_bad (f := n39) (o := o) (X := (c2, S2)) hs9 hpp
              rw [he] at hm
              exact q_s (by rw [hm]; rfl) ⟨hO4.tr hp5.2.1, fun z9 => by rw [hm] at z9; cases z9⟩
      exact hL39 n 1 0 v3 100 0 mS0 (Nat.le_refl 1) (by omega) (by omega) hm9 KC0 ⟨Nat.le_refl _, by omega⟩ hR3 hO3 h310 h311
    · refine P_iconst (v := nI 0) dX7_readText_32 (by decide) ?_
      refine P_iret dX7_readText_33 rfl ?_
      exact q_s (by rw [mtext_0 (Or.inr (by omega))]; rfl) ⟨hO2, fun z9 => by rw [mtext_0 (Or.inr (by omega))] at z9; cases z9⟩
set_option maxHeartbeats 4000000 in
set_option maxRecDepth 100000 in
theorem c_X7_errorPosition {σ : vS} {v : vV} {c q n : Nat} {S : mS} {t : mN} {D : List mC} {sl : Nat → Option mC} (hq : LR σ q) (hT : RT v q ((t, n), (c, S), D, sl)) {B : Nat} (hG : GI B ((t, n), (c, S), D, sl)) (hB : B + 6000000 < 1000000000) : vC M_X7_errorPosition yX7_errorPosition [.ref (q)] (σ, v) (qR σ v q (g_errorPosition ((t, n), (c, S), D, sl))) := by
  have hR : RR c v (q + 2) S := hT.r
  have hN : NB c S B := hG.1.1
  have hI : Iv c 1 S := hG.1.2
  have hc6 := hR.c6
  have htx : mTX v q t n := hT.tx
  have hlt : D.length ≤ 14 := hT.l
  refine vC_of (ls := [some (.ref (q))]) pn_X7 rfl rfl (Nat.le_of_ble_eq_true rfl) rfl ?_
  refine P_aload_n dX7_errorPosition_0 rfl rfl ?_
  refine P_iconst (v := nI 0) dX7_errorPosition_1 (by decide) ?_
  refine P_puti dX7_errorPosition_2 kX7 fX7_36 rfl (by decide) rfl hq.o ?_
  obtain ⟨v1, ev1⟩ : ∃ v1, v1 = vU v q 0 (nI 0) := ⟨_, rfl⟩
  rw [← ev1]
  obtain ⟨hT1, h01, hF1⟩ : RT v1 q ((t, n), (c, S), D, sl) ∧ v1 q 0 = nI 0 ∧ vOw v v1 q 8 := by subst ev1; exact ⟨hT.ref, vU_s, vOw.rf.u (by omega) (by omega)⟩
  refine P_aload_n dX7_errorPosition_5 rfl rfl ?_
  refine P_aload_n dX7_errorPosition_6 rfl rfl ?_
  refine P_getr (t := q + 3) dX7_errorPosition_7 kX7 fX7_16 rfl (by decide) hq.o hq.r3 hq.k3.1.2 ?_
  refine P_cVs (rest := []) (As := [.ref (q + 3)]) dX7_errorPosition_10 lX7_185 yk_X7_readText yv_X7_readText kX7 rfl (by decide) hq.o rfl rfl (Nat.le_of_ble_eq_true rfl) rfl (c_X7_readText hq hT1.tx) (fun v2 ⟨hO2, htr⟩ => ?_)
  refine P_iret dX7_errorPosition_13 rfl ?_
  exact qr_ret (rfl) (by rw [hO2.2 0 (by decide) (by decide)]; exact h01) (hT1.o4 hO2) (hF1.tr (hO2.ow (by omega) (by omega)))
set_option maxHeartbeats 4000000 in
set_option maxRecDepth 100000 in
theorem c_X7_load {σ : vS} {v : vV} {c q n : Nat} {S : mS} {t : mN} {D : List mC} {sl : Nat → Option mC} (hq : LR σ q) (hT : RT v q ((t, n), (c, S), D, sl)) {B : Nat} (hG : GI B ((t, n), (c, S), D, sl)) (hB : B + 6000000 < 1000000000) : vC M_X7_load yX7_load [.ref (q)] (σ, v) (qR σ v q (g_load ((t, n), (c, S), D, sl))) := by
  have hR : RR c v (q + 2) S := hT.r
  have hN : NB c S B := hG.1.1
  have hI : Iv c 1 S := hG.1.2
  have hc6 := hR.c6
  have htx : mTX v q t n := hT.tx
  have hlt : D.length ≤ 14 := hT.l
  refine vC_of (ls := [some (.ref (q))]) pn_X7 rfl rfl (Nat.le_of_ble_eq_true rfl) rfl ?_
  refine P_aload_n dX7_load_0 rfl rfl ?_
  refine P_aload_n dX7_load_1 rfl rfl ?_
  refine P_aload_n dX7_load_2 rfl rfl ?_
  refine P_getr (t := q + 3) dX7_load_3 kX7 fX7_16 rfl (by decide) hq.o hq.r3 hq.k3.1.2 ?_
  refine P_cVs (rest := [.ref (q)]) (As := [.ref (q + 3)]) dX7_load_6 lX7_185 yk_X7_readText yv_X7_readText kX7 rfl (by decide) hq.o rfl rfl (Nat.le_of_ble_eq_true rfl) rfl (c_X7_readText hq htx) (fun v2 ⟨hO2, htr⟩ => ?_)
  have hT2 := hT.o4 hO2
  have hF2 : vOw v v2 q 8 := hO2.ow (by omega) (by omega)
  refine P_iconst (v := -1) dX7_load_9 (by decide) ?_
  refine P_icmp_ne (tgt := 17) dX7_load_10 (by decide) (fun c10 => ?_) (fun c10 => ?_)
  · refine P_iconst (v := nI 1) dX7_load_17 (by decide) ?_
    refine P_cVs (rest := []) (As := [.int (nI (1))]) dX7_load_18 lX7_129 yk_X7_refused yv_X7_refused kX7 rfl (by decide) hq.o rfl rfl (Nat.le_of_ble_eq_true rfl) rfl (c_X7_refused (k := 1) hq (by decide)) (fun v9 e9 => ?_)
    subst e9
    refine P_top (y := vb true) rfl ?_
    refine P_bif_eq (tgt := 26) dX7_load_21 (by decide) (fun q9 => Bool.noConfusion q9) (fun _ => ?_)
    refine P_iconst (v := nI 0) dX7_load_24 (by decide) ?_
    refine P_iret dX7_load_25 rfl ?_
    exact qr_thr9 hT2 hF2 (if_pos (fun z9 => c10 (by rw [show (mtext t n).1 = none from z9]; rfl)))
  · have hnone : (mtext t n).1 = none := mO_none htx.1 (by first | exact c10 | exact Classical.not_not.mp c10)
    obtain ⟨htr1, htr2⟩ := htr hnone
    refine P_iconst (v := nI 0) dX7_load_13 (by decide) ?_
    refine P_goto (tgt := 18) dX7_load_14 (by decide) ?_
    refine P_cVs (rest := []) (As := [.int (nI (0))]) dX7_load_18 lX7_129 yk_X7_refused yv_X7_refused kX7 rfl (by decide) hq.o rfl rfl (Nat.le_of_ble_eq_true rfl) rfl (c_X7_refused (k := 0) hq (by decide)) (fun v1 e1 => ?_)
    obtain ⟨hT1, h01, hF1⟩ : RT v1 q ((t, n), (c, S), D, sl) ∧ v1 q 0 = nI 0 ∧ vOw v v1 q 8 := by subst e1; exact ⟨hT2.ref, vU_s, hF2.u (by omega) (by omega)⟩
    have hR1 : RR c v1 (q + 2) S := hT1.r
    have htr3 : RR (mtext t n).2.1.1 v1 (q + 3) (mtext t n).2.1.2 := htr1.sh (fun i hi => by subst e1; rw [vU_ne (by omega)])
    have htr4 : v1 q 11 = nI (mtext t n).2.2 := by subst e1; rw [vU_o (by omega)]; exact htr2
    clear e1
    refine P_top (y := vb false) rfl ?_
    refine P_bif_eq (tgt := 26) dX7_load_21 (by decide) (fun _ => ?_) (fun q9 => Bool.noConfusion q9)
    refine P_aload_n dX7_load_26 rfl rfl ?_
    refine P_getr (t := q + 3) dX7_load_27 kX7 fX7_16 rfl (by decide) hq.o hq.r3 hq.k3.1.2 ?_
    refine P_iconst (v := nI 0) dX7_load_30 (by decide) ?_
    refine P_aload_n dX7_load_31 rfl rfl ?_
    refine P_getr (t := q + 2) dX7_load_32 kX7 fX7_13 rfl (by decide) hq.o hq.r2 hq.k2.1.2 ?_
    refine P_iconst (v := nI 0) dX7_load_35 (by decide) ?_
    refine P_cSs (rest := []) (As := [.ref (q + 3), .int (nI (0)), .ref (q + 2), .int (nI (0))]) dX7_load_36 lX7_189 yk_X7_copyState ys_X7_copyState (by decide) rfl rfl (Nat.le_of_ble_eq_true rfl) rfl (c_X7_copyState (fa := 0) (ta := 0) hq.k3 hq.k2 (by omega) (by omega) (by omega) (by decide) (by decide)) (fun v3 ⟨hO3, hs3⟩ => ?_)
    have hR3 : RR (mtext t n).2.1.1 v3 (q + 2) (mtext t n).2.1.2 := htr3.sh (fun i hi => by rw [hs3, if_pos (by omega), show 0 + (i - 0) = i by omega])
    have hT3 := hT1.now (X := (mtext t n).2.1) hR3 (fun j _ _ _ => by rw [hO3 q (by omega)]) (fun m g1 g2 g3 _ => hO3 m g3)
    have h03 : v3 q 0 = nI 0 := by rw [hO3 q (by omega)]; exact h01
    have hF3 := hF1.tr (hO3.ow (q := q) (w := 8) (by omega) (by omega))
    refine P_aload_n dX7_load_39 rfl rfl ?_
    refine P_iconst (v := nI 0) dX7_load_40 (by decide) ?_
    refine P_puti dX7_load_41 kX7 fX7_193 rfl (by decide) rfl hq.o ?_
    have hT4 := hT3.diary (v' := vU v3 q 6 (nI 0)) (D := []) (Nat.zero_le _) vU_s (fun j Z hj => by cases hj) (vU_o (by omega)) (fun m g1 g2 g3 => vU_ne (by omega))
    have h04 : vU v3 q 6 (nI 0) q 0 = nI 0 := (vU_o (by omega)).trans h03
    have h4b : vU v3 q 6 (nI 0) q 11 = nI (mtext t n).2.2 := by rw [vU_o (by omega), hO3 q (by omega)]; exact htr4
    have hF4 := hF3.u (n := q) (k := 6) (x := nI 0) (by omega) (by omega)
    generalize vU v3 q 6 (nI 0) = v4 at hT4 h04 h4b hF4 ⊢
    refine P_aload_n dX7_load_44 rfl rfl ?_
    refine P_getr (t := q + 6) dX7_load_45 kX7 fX7_25 rfl (by decide) hq.o hq.r6 hq.k6.1.2 ?_
    refine P_iconst (v := nI 0) dX7_load_48 (by decide) ?_
    refine P_iconst (v := nI 0) dX7_load_49 (by decide) ?_
    refine P_zast (0) dX7_load_50 hq.k6 rfl (by omega) (by decide) rfl ?_
    refine P_aload_n dX7_load_51 rfl rfl ?_
    refine P_getr (t := q + 6) dX7_load_52 kX7 fX7_25 rfl (by decide) hq.o hq.r6 hq.k6.1.2 ?_
    refine P_iconst (v := nI 1) dX7_load_55 (by decide) ?_
    refine P_iconst (v := nI 0) dX7_load_56 (by decide) ?_
    refine P_zast (1) dX7_load_57 hq.k6 rfl (by omega) (by decide) rfl ?_
    refine P_aload_n dX7_load_58 rfl rfl ?_
    refine P_getiN (x := nI ((mtext t n).2.2)) dX7_load_59 kX7 fX7_138 rfl (by decide) hq.o (by rw [vU_ne (by omega), vU_ne (by omega)]; exact h4b) ?_
    refine P_iret dX7_load_62 rfl ?_
    have hT5 := hT4.slots (v' := vU (vU v4 (q + 6) 0 (nI 0)) (q + 6) 1 (nI 0)) (sl := fun _ => none) (fun j _ => by rw [vU_ne (by omega), vU_ne (by omega)]) (fun m g1 g2 g3 => by rw [vU_ne (by omega), vU_ne (by omega)]) (fun i hi => ⟨by
      rcases (by omega : i = 0 ∨ i = 1) with rfl | rfl
      · rw [vU_o (by omega), vU_s]; rfl
      · rw [vU_s]; rfl, fun Y hY => nomatch hY⟩)
    exact qr_ret (if_neg (fun z9 => z9 hnone)) (by rw [vU_ne (by omega), vU_ne (by omega)]; exact h04) hT5 ((hF4.u (by omega) (by omega)).u (by omega) (by omega))
