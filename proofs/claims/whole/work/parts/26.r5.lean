
theorem ix12 {m k : Nat} : 14 + 83 * m + 12 + 3 * k = 14 + 83 * m + (12 + 3 * k) := by omega
theorem ix13 {m k : Nat} : 14 + 83 * m + 12 + 3 * k + 1 = 14 + 83 * m + (13 + 3 * k) := by omega
theorem ix14 {m k : Nat} : 14 + 83 * m + 12 + 3 * k + 2 = 14 + 83 * m + (14 + 3 * k) := by omega
theorem RR.a1 {c : Nat} {v : vV} {r : Nat} {S : mS} (h : RR c v r S) {m k : Nat} (hm : m < c) (hk : k < 6) : v r (14 + 83 * m + 12 + 3 * k) = nI (gM S m (12 + 3 * k)) := by rw [ix12]; exact h.m hm (by omega)
theorem RR.a2 {c : Nat} {v : vV} {r : Nat} {S : mS} (h : RR c v r S) {m k : Nat} (hm : m < c) (hk : k < 6) : v r (14 + 83 * m + 12 + 3 * k + 1) = nI (gM S m (13 + 3 * k)) := by rw [ix13]; exact h.m hm (by omega)
theorem RR.a3 {c : Nat} {v : vV} {r : Nat} {S : mS} (h : RR c v r S) {m k : Nat} (hm : m < c) (hk : k < 6) : v r (14 + 83 * m + 12 + 3 * k + 2) = nI (gM S m (14 + 3 * k)) := by rw [ix14]; exact h.m hm (by omega)
theorem RR.A1 {c : Nat} {v : vV} {r : Nat} {S : mS} (h : RR c v r S) {m k x : Nat} (hm : m < c) (hk : k < 6) : RR c (vU v r (14 + 83 * m + 12 + 3 * k) (nI x)) r (sM S m (12 + 3 * k) x) := by rw [ix12]; exact h.M hm (by omega)
theorem RR.A2 {c : Nat} {v : vV} {r : Nat} {S : mS} (h : RR c v r S) {m k x : Nat} (hm : m < c) (hk : k < 6) : RR c (vU v r (14 + 83 * m + 12 + 3 * k + 1) (nI x)) r (sM S m (13 + 3 * k) x) := by rw [ix13]; exact h.M hm (by omega)
theorem RR.A3 {c : Nat} {v : vV} {r : Nat} {S : mS} (h : RR c v r S) {m k x : Nat} (hm : m < c) (hk : k < 6) : RR c (vU v r (14 + 83 * m + 12 + 3 * k + 2) (nI x)) r (sM S m (14 + 3 * k) x) := by rw [ix14]; exact h.M hm (by omega)
def t0 : mT := (0, 0, 0)
theorem take_s {α : Type} {l : List α} {k : Nat} {d : α} (h : k < l.length) : l.take (k + 1) = l.take k ++ [l.getD k d] := by
  rw [List.take_succ, List.getElem?_eq_getElem h, List.getD_eq_getElem?_getD, List.getElem?_eq_getElem h]; rfl
theorem mor_s {num by9 : Nat} {l : List mT} {k : Nat} (h : k < l.length) : mor num by9 (l.take (k + 1)) 0 = if (l.getD k t0).1 = num ∧ (l.getD k t0).2.1 = by9 then mor num by9 (l.take k) 0 ||| 1 <<< (l.getD k t0).2.2 else mor num by9 (l.take k) 0 := by
  rw [take_s (d := t0) h]; unfold mor; rw [List.foldl_append]; rfl
theorem fil_s {num : Nat} {l : List mT} {k : Nat} (h : k < l.length) : (l.take (k + 1)).filter (fun t => decide (num < t.1)) = (l.take k).filter (fun t => decide (num < t.1)) ++ (if num < (l.getD k t0).1 then [l.getD k t0] else []) := by
  rw [take_s (d := t0) h, List.filter_append]
  congr 1
  by_cases g : num < (l.getD k t0).1
  · rw [if_pos g, List.filter_cons_of_pos (by exact decide_eq_true g)]; rfl
  · rw [if_neg g, List.filter_cons_of_neg (by rw [decide_eq_false g]; exact Bool.false_ne_true)]; rfl
theorem fil_le {num : Nat} {l : List mT} {k : Nat} : ((l.take k).filter (fun t => decide (num < t.1))).length ≤ k := Nat.le_trans (List.length_filter_le _ _) (by rw [List.length_take]; exact Nat.min_le_left _ _)
theorem NB.stN {c B : Nat} {S : mS} (h : NB c S B) {m : Nat} (hm : m < c) (n : Nat) (hn : n ≤ c) : NB c (mup (mstandsF m (gM S m 8) (gM S m 9)) n (mtold (sG S 6 (gG S 6 + 1)) m (gM S m 8) m (gM S m 9) (mheard S m m))) (B + 7) := by
  have hc := h.c6
  have h1 : NB c (sG S 6 (gG S 6 + 1)) (B + 1) := (h.up (Nat.le_succ B)).G (by decide) (by have := h.g (i := 6) (by decide); show gG S 6 + 1 ≤ B + 1; omega)
  have h8 := h.m8 m
  have h2 := h1.told (m := m) (num := gM S m 8) (by9 := m) (set := gM S m 9) (heard := mheard S m m) (by omega) (by omega) (h.m9 m) (mhb_lt h m m 6 (Nat.le_refl _))
  have h3 : NB c (mup (mstandsF m (gM S m 8) (gM S m 9)) n (mtold (sG S 6 (gG S 6 + 1)) m (gM S m 8) m (gM S m 9) (mheard S m m))) (B + 1 + n * 1) := NB.ups (B := B + 1) n (fun k S' D hk hD h' => by
    unfold mstandsF
    split
    · exact h'.send (by decide) hm (by omega) (by omega) (by omega) (mhb_lt h' m k 6 (Nat.le_refl _)) (fun q => absurd q (by decide))
    · exact h'.up (by omega)) h2
  exact h3.up (by omega)
theorem mup_id {f : Nat → mS → mS} : ∀ (n : Nat) (S : mS), (∀ k, k < n → ∀ S, f k S = S) → mup f n S = S := by
  intro n
  induction n with
  | zero => intro S _; rfl
  | succ n ih => intro S h; show f n (mup f n S) = S; rw [h n (Nat.lt_succ_self n), ih S (fun k hk => h k (by omega))]
theorem tb_one {m k : Nat} : (1 <<< m).testBit k = decide (m = k) := by
  rw [Nat.shiftLeft_eq, Nat.one_mul, Nat.testBit_two_pow]
theorem mcall_one {S : mS} {m : Nat} : msends S m (1 <<< m) = mstart S m (1 <<< m) := by
  unfold msends
  refine mup_id _ _ (fun k _ S' => ?_)
  unfold mcallF
  rw [if_neg]
  rintro ⟨h1, h2⟩
  rw [tb_one] at h2
  exact h1 (of_decide_eq_true h2).symm
theorem msend_M {S : mS} {kd frm to num by9 data : Nat} : gM (msend S kd frm to num by9 data) = gM S := by unfold msend; split <;> rfl
theorem mup_M {f : Nat → mS → mS} (h : ∀ k S, gM (f k S) = gM S) : ∀ (n : Nat) (S : mS), gM (mup f n S) = gM S := by
  intro n
  induction n with
  | zero => intro S; rfl
  | succ n ih => intro S; show gM (f n (mup f n S)) = gM S; rw [h, ih]
theorem msends_M {S : mS} {m set : Nat} {n : Nat} : gM (mup (mcallF m (gM S m 6 + 1) set) n (mstart S m set)) = gM (mstart S m set) := mup_M (fun k S => by unfold mcallF; split; exact msend_M; rfl) _ _
theorem mstart_M {S : mS} {m set w : Nat} (hw : w = 2 ∨ w = 3 ∨ w = 5) : gM (mstart S m set) m w = gM S m w := by
  rcases hw with rfl | rfl | rfl <;> simp [mstart, sM, gM]
set_option maxHeartbeats 4000000 in
set_option maxRecDepth 100000 in
theorem c_X7_heardBy {σ : vS} {v : vV} {c r : Nat} {S : mS} {m one B : Nat} (hr : vK σ r 8 2012) (hR : RR c v r S) (hN : NB c S B) (hB : B < 1000000000) (hm : m < c) (ho : one < 6) : vC M_X7_heardBy yX7_heardBy [.ref (r), .int (nI (m)), .int (nI (one))] (σ, v) (qP (σ, v) (.int (nI (mheard S m one)))) := by
  have hc6 := hR.c6
  refine vC_of (ls := [some (.ref (r)), some (.int (nI (m))), some (.int (nI (one))), none, none, none, none]) pn_X7 rfl rfl (Nat.le_of_ble_eq_true rfl) rfl ?_
  refine P_bipush (v := nI 14) dX7_heardBy_0 (by decide) ?_
  refine P_bipush (v := nI 83) dX7_heardBy_2 (by decide) ?_
  refine P_iload_n dX7_heardBy_4 rfl rfl ?_
  refine P_imulN dX7_heardBy_5 ?_
  refine P_iaddN dX7_heardBy_6 ?_
  refine P_bipush (v := nI 12) dX7_heardBy_7 (by decide) ?_
  refine P_iaddN dX7_heardBy_9 ?_
  refine P_istore_n (ls2 := [some (.ref (r)), some (.int (nI (m))), some (.int (nI (one))), some (.int (nI (14 + 83 * m + 12))), none, none, none]) dX7_heardBy_10 rfl (by decide) rfl ?_
  refine P_iconst (v := nI 0) dX7_heardBy_11 (by decide) ?_
  refine P_istore (ls2 := [some (.ref (r)), some (.int (nI (m))), some (.int (nI (one))), some (.int (nI (14 + 83 * m + 12))), some (.int (nI (0))), none, none]) dX7_heardBy_12 (by decide) rfl ?_
  refine P_iconst (v := nI 0) dX7_heardBy_14 (by decide) ?_
  refine P_istore (ls2 := [some (.ref (r)), some (.int (nI (m))), some (.int (nI (one))), some (.int (nI (14 + 83 * m + 12))), some (.int (nI (0))), some (.int (nI (0))), none]) dX7_heardBy_15 (by decide) rfl ?_
  have hL17 : ∀ (n17 : Nat) (k : Nat), (k ≤ 6) → (k + n17 = 7) → vP M_X7_heardBy 17 [some (.ref (r)), some (.int (nI (m))), some (.int (nI (one))), some (.int (nI (14 + 83 * m + 12))), some (.int (nI (mhb S m one k))), some (.int (nI (k))), none] [] ((vRm M_X7_heardBy).cells, (vRm M_X7_heardBy).slots) (σ, v) (vN (qP (σ, v) (.int (nI (mheard S m one))))) := by
    intro n17
    induction n17 with
    | zero =>
      intro k h1 h2
      exact absurd h2 (by omega)
    | succ n17 ih17 =>
      intro k h1 h2
      refine P_iload dX7_heardBy_17 rfl ?_
      refine P_bipush (v := nI 6) dX7_heardBy_19 (by decide) ?_
      refine P_icmp_geN (tgt := 116) dX7_heardBy_21 (by decide) (by omega) (by omega) (fun c21 => ?_) (fun c21 => ?_)
      · refine P_iload dX7_heardBy_116 rfl ?_
        refine P_iret dX7_heardBy_118 rfl ?_
        exact q_n (by rw [show k = 6 by omega]; rfl)
      · have hJ69 : ∀ (bl : Bool), (bl = true ↔ (gM S m (12 + 3 * k) = gM S m (12 + 3 * one) ∧ gM S m (13 + 3 * k) = gM S m (13 + 3 * one))) → vP M_X7_heardBy 69 [some (.ref (r)), some (.int (nI (m))), some (.int (nI (one))), some (.int (nI (14 + 83 * m + 12))), some (.int (nI (mhb S m one k))), some (.int (nI (k))), none] [.int (vb (bl))] ((vRm M_X7_heardBy).cells, (vRm M_X7_heardBy).slots) (σ, v) (vN (qP (σ, v) (.int (nI (mheard S m one))))) := by
          intro bl hbl
          refine P_istore (ls2 := [some (.ref (r)), some (.int (nI (m))), some (.int (nI (one))), some (.int (nI (14 + 83 * m + 12))), some (.int (nI (mhb S m one k))), some (.int (nI (k))), some (.int (vb (bl)))]) dX7_heardBy_69 (by decide) rfl ?_
          refine P_iload dX7_heardBy_71 rfl ?_
          refine P_aload_n dX7_heardBy_73 rfl rfl ?_
          refine P_iload_n dX7_heardBy_74 rfl rfl ?_
          refine P_bipush (v := nI 10) dX7_heardBy_75 (by decide) ?_
          refine P_cSp (rest := [.int (nI (mhb S m one k))]) (As := [.ref (r), .int (nI (m)), .int (nI (10))]) dX7_heardBy_77 lX7_44 yk_X7_of ys_X7_of (by decide) rfl rfl (Nat.le_of_ble_eq_true rfl) rfl (c_X7_of hr (by omega) (by decide)) ?_
          refine P_top (y := (nI (gM S m 10))) (hR.m (by omega) (by decide)) ?_
          refine P_iload dX7_heardBy_80 rfl ?_
          refine P_cSp (rest := [.int (nI (mhb S m one k))]) (As := [.int (nI (gM S m 10)), .int (nI (k))]) dX7_heardBy_82 lX7_48 yk_X7_has ys_X7_has (by decide) rfl rfl (Nat.le_of_ble_eq_true rfl) rfl (c_X7_has (by have := hN.m10 m; omega) (by omega)) ?_
          refine P_bif_eq (tgt := 106) dX7_heardBy_85 (by decide) (fun c85 => ?_) (fun c85 => ?_)
          · refine P_iconst (v := nI 0) dX7_heardBy_106 (by decide) ?_
            refine P_iorN dX7_heardBy_107 ?_
            refine P_istore (ls2 := [some (.ref (r)), some (.int (nI (m))), some (.int (nI (one))), some (.int (nI (14 + 83 * m + 12))), some (.int (nI ((mhb S m one k) ||| 0))), some (.int (nI (k))), some (.int (vb (bl)))]) dX7_heardBy_108 (by decide) rfl ?_
            refine P_iinc (v := nI (k + 1)) (ls2 := [some (.ref (r)), some (.int (nI (m))), some (.int (nI (one))), some (.int (nI (14 + 83 * m + 12))), some (.int (nI ((mhb S m one k) ||| 0))), some (.int (nI (k + 1))), some (.int (vb (bl)))]) dX7_heardBy_110 rfl (nI_inc _ 1) (by decide) rfl ?_
            refine P_goto (tgt := 17) dX7_heardBy_113 (by decide) ?_
            refine P_weak (ls2 := [some (.ref (r)), some (.int (nI (m))), some (.int (nI (one))), some (.int (nI (14 + 83 * m + 12))), some (.int (nI ((mhb S m one k) ||| 0))), some (.int (nI (k + 1))), none]) ⟨rfl, rfl, rfl, rfl, rfl, rfl, trivial⟩ ?_
            have e9 : (mhb S m one k) ||| 0 = mhb S m one (k + 1) := by simp only [mhb]; rw [if_neg (fun q => by rw [c85] at q; exact absurd q.1 Bool.false_ne_true)]
            rw [e9]
            exact ih17 (k + 1) (by omega) (by omega)
          · refine P_iload dX7_heardBy_88 rfl ?_
            refine P_bif_eq (tgt := 106) dX7_heardBy_90 (by decide) (fun c90 => ?_) (fun c90 => ?_)
            · refine P_iconst (v := nI 0) dX7_heardBy_106 (by decide) ?_
              refine P_iorN dX7_heardBy_107 ?_
              refine P_istore (ls2 := [some (.ref (r)), some (.int (nI (m))), some (.int (nI (one))), some (.int (nI (14 + 83 * m + 12))), some (.int (nI ((mhb S m one k) ||| 0))), some (.int (nI (k))), some (.int (vb (bl)))]) dX7_heardBy_108 (by decide) rfl ?_
              refine P_iinc (v := nI (k + 1)) (ls2 := [some (.ref (r)), some (.int (nI (m))), some (.int (nI (one))), some (.int (nI (14 + 83 * m + 12))), some (.int (nI ((mhb S m one k) ||| 0))), some (.int (nI (k + 1))), some (.int (vb (bl)))]) dX7_heardBy_110 rfl (nI_inc _ 1) (by decide) rfl ?_
              refine P_goto (tgt := 17) dX7_heardBy_113 (by decide) ?_
              refine P_weak (ls2 := [some (.ref (r)), some (.int (nI (m))), some (.int (nI (one))), some (.int (nI (14 + 83 * m + 12))), some (.int (nI ((mhb S m one k) ||| 0))), some (.int (nI (k + 1))), none]) ⟨rfl, rfl, rfl, rfl, rfl, rfl, trivial⟩ ?_
              have e9 : (mhb S m one k) ||| 0 = mhb S m one (k + 1) := by simp only [mhb]; rw [if_neg (fun q => absurd (hbl.mpr q.2) (by rw [c90]; exact Bool.false_ne_true))]
              rw [e9]
              exact ih17 (k + 1) (by omega) (by omega)
            · refine P_aload_n dX7_heardBy_93 rfl rfl ?_
              refine P_iload_n dX7_heardBy_94 rfl rfl ?_
              refine P_iconst (v := nI 3) dX7_heardBy_95 (by decide) ?_
              refine P_iload dX7_heardBy_96 rfl ?_
              refine P_imulN dX7_heardBy_98 ?_
              refine P_iaddN dX7_heardBy_99 ?_
              refine P_iconst (v := nI 2) dX7_heardBy_100 (by decide) ?_
              refine P_iaddN dX7_heardBy_101 ?_
              refine P_ialdN (x := nI (gM S m (14 + 3 * k))) (14 + 83 * m + 12 + 3 * k + 2) dX7_heardBy_102 hr rfl (by omega) (by decide) (hR.a3 (by omega) (by omega)) ?_
              refine P_goto (tgt := 107) dX7_heardBy_103 (by decide) ?_
              refine P_iorN dX7_heardBy_107 ?_
              refine P_istore (ls2 := [some (.ref (r)), some (.int (nI (m))), some (.int (nI (one))), some (.int (nI (14 + 83 * m + 12))), some (.int (nI ((mhb S m one k) ||| (gM S m (14 + 3 * k))))), some (.int (nI (k))), some (.int (vb (bl)))]) dX7_heardBy_108 (by decide) rfl ?_
              refine P_iinc (v := nI (k + 1)) (ls2 := [some (.ref (r)), some (.int (nI (m))), some (.int (nI (one))), some (.int (nI (14 + 83 * m + 12))), some (.int (nI ((mhb S m one k) ||| (gM S m (14 + 3 * k))))), some (.int (nI (k + 1))), some (.int (vb (bl)))]) dX7_heardBy_110 rfl (nI_inc _ 1) (by decide) rfl ?_
              refine P_goto (tgt := 17) dX7_heardBy_113 (by decide) ?_
              refine P_weak (ls2 := [some (.ref (r)), some (.int (nI (m))), some (.int (nI (one))), some (.int (nI (14 + 83 * m + 12))), some (.int (nI ((mhb S m one k) ||| (gM S m (14 + 3 * k))))), some (.int (nI (k + 1))), none]) ⟨rfl, rfl, rfl, rfl, rfl, rfl, trivial⟩ ?_
              have e9 : (mhb S m one k) ||| (gM S m (14 + 3 * k)) = mhb S m one (k + 1) := by simp only [mhb]; rw [if_pos ⟨c85, hbl.mp c90⟩]
              rw [e9]
              exact ih17 (k + 1) (by omega) (by omega)
        refine P_aload_n dX7_heardBy_24 rfl rfl ?_
        refine P_iload_n dX7_heardBy_25 rfl rfl ?_
        refine P_iconst (v := nI 3) dX7_heardBy_26 (by decide) ?_
        refine P_iload dX7_heardBy_27 rfl ?_
        refine P_imulN dX7_heardBy_29 ?_
        refine P_iaddN dX7_heardBy_30 ?_
        refine P_ialdN (x := nI (gM S m (12 + 3 * k))) (14 + 83 * m + 12 + 3 * k) dX7_heardBy_31 hr rfl (by omega) (by decide) (hR.a1 (by omega) (by omega)) ?_
        refine P_aload_n dX7_heardBy_32 rfl rfl ?_
        refine P_iload_n dX7_heardBy_33 rfl rfl ?_
        refine P_iconst (v := nI 3) dX7_heardBy_34 (by decide) ?_
        refine P_iload_n dX7_heardBy_35 rfl rfl ?_
        refine P_imulN dX7_heardBy_36 ?_
        refine P_iaddN dX7_heardBy_37 ?_
        refine P_ialdN (x := nI (gM S m (12 + 3 * one))) (14 + 83 * m + 12 + 3 * one) dX7_heardBy_38 hr rfl (by omega) (by decide) (hR.a1 (by omega) (by omega)) ?_
        refine P_icmp_neN (tgt := 68) dX7_heardBy_39 (by decide) (by first | exact Nat.lt_of_le_of_lt (hN.a1 m (by omega)) (by omega) | omega) (by first | exact Nat.lt_of_le_of_lt (hN.a1 m (by omega)) (by omega) | omega) (fun c39 => ?_) (fun c39 => ?_)
        · refine P_iconst (v := nI 0) dX7_heardBy_68 (by decide) ?_
          exact hJ69 false ⟨fun q => (by cases q), fun q => absurd q (fun e => c39 e.1)⟩
        · refine P_aload_n dX7_heardBy_42 rfl rfl ?_
          refine P_iload_n dX7_heardBy_43 rfl rfl ?_
          refine P_iconst (v := nI 3) dX7_heardBy_44 (by decide) ?_
          refine P_iload dX7_heardBy_45 rfl ?_
          refine P_imulN dX7_heardBy_47 ?_
          refine P_iaddN dX7_heardBy_48 ?_
          refine P_iconst (v := nI 1) dX7_heardBy_49 (by decide) ?_
          refine P_iaddN dX7_heardBy_50 ?_
          refine P_ialdN (x := nI (gM S m (13 + 3 * k))) (14 + 83 * m + 12 + 3 * k + 1) dX7_heardBy_51 hr rfl (by omega) (by decide) (hR.a2 (by omega) (by omega)) ?_
          refine P_aload_n dX7_heardBy_52 rfl rfl ?_
          refine P_iload_n dX7_heardBy_53 rfl rfl ?_
          refine P_iconst (v := nI 3) dX7_heardBy_54 (by decide) ?_
          refine P_iload_n dX7_heardBy_55 rfl rfl ?_
          refine P_imulN dX7_heardBy_56 ?_
          refine P_iaddN dX7_heardBy_57 ?_
          refine P_iconst (v := nI 1) dX7_heardBy_58 (by decide) ?_
          refine P_iaddN dX7_heardBy_59 ?_
          refine P_ialdN (x := nI (gM S m (13 + 3 * one))) (14 + 83 * m + 12 + 3 * one + 1) dX7_heardBy_60 hr rfl (by omega) (by decide) (hR.a2 (by omega) (by omega)) ?_
          refine P_icmp_neN (tgt := 68) dX7_heardBy_61 (by decide) (by first | exact Nat.lt_trans (hN.a2 m (by omega)) (by omega) | omega) (by first | exact Nat.lt_trans (hN.a2 m (by omega)) (by omega) | omega) (fun c61 => ?_) (fun c61 => ?_)
          · refine P_iconst (v := nI 0) dX7_heardBy_68 (by decide) ?_
            exact hJ69 false ⟨fun q => (by cases q), fun q => absurd q (fun e => c61 e.2)⟩
          · refine P_iconst (v := nI 1) dX7_heardBy_64 (by decide) ?_
            refine P_goto (tgt := 69) dX7_heardBy_65 (by decide) ?_
            exact hJ69 true ⟨fun _ => ⟨c39, c61⟩, fun _ => rfl⟩
  exact hL17 7 0 (by omega) (by omega)
set_option maxHeartbeats 4000000 in
set_option maxRecDepth 100000 in
theorem c_X7_told {σ : vS} {v : vV} {c r : Nat} {S : mS} {m num by9 set heard B : Nat} (hr : vK σ r 8 2012) (hR : RR c v r S) (hN : NB c S B) (hB : B < 1000000000) (hm : m < c) (h1 : num ≤ B) (h2 : by9 < 6) : vC M_X7_told yX7_told [.ref (r), .int (nI (m)), .int (nI (num)), .int (nI (by9)), .int (nI (set)), .int (nI (heard))] (σ, v) (qS σ none (rP c v r (mtold S m num by9 set heard))) := by
  have hc6 := hR.c6
  have hO : vO9 v v r := vO9.rf
  refine vC_of (ls := [some (.ref (r)), some (.int (nI (m))), some (.int (nI (num))), some (.int (nI (by9))), some (.int (nI (set))), some (.int (nI (heard))), none, none, none, none, none]) pn_X7 rfl rfl (Nat.le_of_ble_eq_true rfl) rfl ?_
  refine P_iload_n dX7_told_0 rfl rfl ?_
  refine P_aload_n dX7_told_1 rfl rfl ?_
  refine P_iload_n dX7_told_2 rfl rfl ?_
  refine P_bipush (v := nI 6) dX7_told_3 (by decide) ?_
  refine P_cSp (rest := [.int (nI (num))]) (As := [.ref (r), .int (nI (m)), .int (nI (6))]) dX7_told_5 lX7_44 yk_X7_of ys_X7_of (by decide) rfl rfl (Nat.le_of_ble_eq_true rfl) rfl (c_X7_of hr (by omega) (by decide)) ?_
  refine P_top (y := (nI (gM S m 6))) (hR.m (by omega) (by decide)) ?_
  refine P_icmp_ltN (tgt := 21) dX7_told_8 (by decide) (by omega) (by have := hN.m6 m; omega) (fun c8 => ?_) (fun c8 => ?_)
  · refine P_vret dX7_told_21 rfl ?_
    exact q_s rfl ⟨by unfold mtold; rw [if_pos (Or.inl c8)]; exact hR, hO⟩
  · refine P_iload_n dX7_told_11 rfl rfl ?_
    refine P_aload_n dX7_told_12 rfl rfl ?_
    refine P_iload_n dX7_told_13 rfl rfl ?_
    refine P_iconst (v := nI 2) dX7_told_14 (by decide) ?_
    refine P_cSp (rest := [.int (nI (num))]) (As := [.ref (r), .int (nI (m)), .int (nI (2))]) dX7_told_15 lX7_44 yk_X7_of ys_X7_of (by decide) rfl rfl (Nat.le_of_ble_eq_true rfl) rfl (c_X7_of hr (by omega) (by decide)) ?_
    refine P_top (y := (nI (gM S m 2))) (hR.m (by omega) (by decide)) ?_
    refine P_icmp_gtN (tgt := 22) dX7_told_18 (by decide) (by omega) (by have := hN.m2 m; omega) (fun c18 => ?_) (fun c18 => ?_)
    · refine P_aload_n dX7_told_22 rfl rfl ?_
      refine P_iload_n dX7_told_23 rfl rfl ?_
      refine P_iload dX7_told_24 rfl ?_
      refine P_cSs (rest := []) (As := [.ref (r), .int (nI (m)), .int (nI (heard))]) dX7_told_26 lX7_62 yk_X7_over ys_X7_over (by decide) rfl rfl (Nat.le_of_ble_eq_true rfl) rfl (c_X7_over hr hR hm) (fun v3 ⟨hR1, hO2⟩ => ?_)
      replace hO2 := hO.tr hO2
      refine P_aload_n dX7_told_29 rfl rfl ?_
      refine P_iload_n dX7_told_30 rfl rfl ?_
      refine P_iload_n dX7_told_31 rfl rfl ?_
      refine P_iload_n dX7_told_32 rfl rfl ?_
      refine P_iload dX7_told_33 rfl ?_
      refine P_cSs (rest := []) (As := [.ref (r), .int (nI (m)), .int (nI (num)), .int (nI (by9)), .int (nI (set))]) dX7_told_35 lX7_66 yk_X7_enter ys_X7_enter (by decide) rfl rfl (Nat.le_of_ble_eq_true rfl) rfl (c_X7_enter hr hR1 hm) (fun v6 ⟨hR4, hO5⟩ => ?_)
      replace hO5 := hO2.tr hO5
      have hR1 : RR c v6 r (menter (mover S m heard) m num by9 set) := hR4
      have hO1 : vO9 v v6 r := hO5
      generalize v6 = v1 at hR1 hO1 ⊢
      have hkl : (gK S m).length ≤ 12 := hN.b.1 m
      refine P_bipush (v := nI 14) dX7_told_38 (by decide) ?_
      refine P_bipush (v := nI 83) dX7_told_40 (by decide) ?_
      refine P_iload_n dX7_told_42 rfl rfl ?_
      refine P_imulN dX7_told_43 ?_
      refine P_iaddN dX7_told_44 ?_
      refine P_istore (ls2 := [some (.ref (r)), some (.int (nI (m))), some (.int (nI (num))), some (.int (nI (by9))), some (.int (nI (set))), some (.int (nI (heard))), some (.int (nI (14 + 83 * m))), none, none, none, none]) dX7_told_45 (by decide) rfl ?_
      refine P_iconst (v := nI 0) dX7_told_47 (by decide) ?_
      refine P_istore (ls2 := [some (.ref (r)), some (.int (nI (m))), some (.int (nI (num))), some (.int (nI (by9))), some (.int (nI (set))), some (.int (nI (heard))), some (.int (nI (14 + 83 * m))), some (.int (nI (0))), none, none, none]) dX7_told_48 (by decide) rfl ?_
      refine P_iconst (v := nI 0) dX7_told_50 (by decide) ?_
      refine P_istore (ls2 := [some (.ref (r)), some (.int (nI (m))), some (.int (nI (num))), some (.int (nI (by9))), some (.int (nI (set))), some (.int (nI (heard))), some (.int (nI (14 + 83 * m))), some (.int (nI (0))), some (.int (nI (0))), none, none]) dX7_told_51 (by decide) rfl ?_
      have hL53 : ∀ (n53 : Nat) (k : Nat) (v2 : vV), (k ≤ (gK S m).length) → (k + n53 = (gK S m).length + 1) → (v2 r (14 + 83 * m + 30) = nI (gK S m).length) → (v2 r (14 + 83 * m + 5) = nI (mor num by9 ((gK S m).take k) 0)) → (∀ (i : Nat) (t : mT), (((gK S m).take k).filter (fun t => decide (num < t.1)))[i]? = some t → v2 r (14 + 83 * m + 31 + 3 * i) = nI t.1 ∧ v2 r (14 + 83 * m + 31 + 3 * i + 1) = nI t.2.1 ∧ v2 r (14 + 83 * m + 31 + 3 * i + 2) = nI t.2.2) → (∀ (i : Nat) (t : mT), k ≤ i → (gK S m)[i]? = some t → v2 r (14 + 83 * m + 31 + 3 * i) = nI t.1 ∧ v2 r (14 + 83 * m + 31 + 3 * i + 1) = nI t.2.1 ∧ v2 r (14 + 83 * m + 31 + 3 * i + 2) = nI t.2.2) → (∀ i, i ≠ 14 + 83 * m + 5 → (i < 14 + 83 * m + 31 ∨ 14 + 83 * m + 67 ≤ i) → v2 r i = v1 r i) → (vO9 v v2 r) → vP M_X7_told 53 [some (.ref (r)), some (.int (nI (m))), some (.int (nI (num))), some (.int (nI (by9))), some (.int (nI (set))), some (.int (nI (heard))), some (.int (nI (14 + 83 * m))), some (.int (nI ((((gK S m).take k).filter (fun t => decide (num < t.1))).length))), some (.int (nI (k))), none, none] [] ((vRm M_X7_told).cells, (vRm M_X7_told).slots) (σ, v2) (vN (qS σ none (rP c v r (mtold S m num by9 set heard)))) := by
        intro n53
        induction n53 with
        | zero =>
          intro k v2 k1 k2 h30 h5 hcm hrs hot hO2
          exact absurd k2 (by omega)
        | succ n53 ih53 =>
          intro k v2 k1 k2 h30 h5 hcm hrs hot hO2
          refine P_iload dX7_told_53 rfl ?_
          refine P_aload_n dX7_told_55 rfl rfl ?_
          refine P_iload dX7_told_56 rfl ?_
          refine P_bipush (v := nI 30) dX7_told_58 (by decide) ?_
          refine P_iaddN dX7_told_60 ?_
          refine P_ialdN (x := nI ((gK S m).length)) (14 + 83 * m + 30) dX7_told_61 hr rfl (by omega) (by decide) h30 ?_
          refine P_icmp_geN (tgt := 173) dX7_told_62 (by decide) (by first | omega | exact Nat.lt_of_le_of_lt hkl (by omega)) (by first | omega | exact Nat.lt_of_le_of_lt hkl (by omega)) (fun c62 => ?_) (fun c62 => ?_)
          · refine P_aload_n dX7_told_173 rfl rfl ?_
            refine P_iload dX7_told_174 rfl ?_
            refine P_bipush (v := nI 30) dX7_told_176 (by decide) ?_
            refine P_iaddN dX7_told_178 ?_
            refine P_iload dX7_told_179 rfl ?_
            refine P_iast (14 + 83 * m + 30) dX7_told_181 hr rfl (by omega) (by decide) ?_
            refine P_vret dX7_told_182 rfl ?_
            have e9 : (gK S m).take k = gK S m := by rw [show k = (gK S m).length by omega, List.take_length]
            rw [e9] at h5 hcm
            have hle : ((gK S m).filter (fun t => decide (num < t.1))).length ≤ 12 := Nat.le_trans (List.length_filter_le _ _) hkl
            refine q_s rfl ⟨?_, hO2.u⟩
            unfold mtold
            rw [if_neg (by omega)]
            refine RR.setK hR1 hm hle (by rw [vU_o (by omega)]; exact h5) (by rw [vU_s, e9]) (fun i t q => ?_) (fun i q1 q2 => ?_)
            · have q1 : i < ((gK S m).filter (fun t => decide (num < t.1))).length := (List.getElem?_eq_some_iff.mp q).1
              rw [vU_o (by omega), vU_o (by omega), vU_o (by omega)]; exact hcm i t q
            · rw [vU_o (by omega)]; exact hot i q1 (by omega)
          · refine P_iload dX7_told_65 rfl ?_
            refine P_bipush (v := nI 31) dX7_told_67 (by decide) ?_
            refine P_iaddN dX7_told_69 ?_
            refine P_iconst (v := nI 3) dX7_told_70 (by decide) ?_
            refine P_iload dX7_told_71 rfl ?_
            refine P_imulN dX7_told_73 ?_
            refine P_iaddN dX7_told_74 ?_
            refine P_istore (ls2 := [some (.ref (r)), some (.int (nI (m))), some (.int (nI (num))), some (.int (nI (by9))), some (.int (nI (set))), some (.int (nI (heard))), some (.int (nI (14 + 83 * m))), some (.int (nI ((((gK S m).take k).filter (fun t => decide (num < t.1))).length))), some (.int (nI (k))), some (.int (nI (14 + 83 * m + 31 + 3 * k))), none]) dX7_told_75 (by decide) rfl ?_
            have hlt : k < (gK S m).length := by omega
            have hrow := hrs k _ (Nat.le_refl k) (getD_some (d := t0) hlt)
            have hk := hN.k (getD_mem (d := t0) hlt)
            have hJ112 : ∀ (v3 : vV), (v3 r (14 + 83 * m + 30) = nI (gK S m).length) → (v3 r (14 + 83 * m + 5) = nI (mor num by9 ((gK S m).take (k + 1)) 0)) → (∀ (i : Nat) (t : mT), (((gK S m).take k).filter (fun t => decide (num < t.1)))[i]? = some t → v3 r (14 + 83 * m + 31 + 3 * i) = nI t.1 ∧ v3 r (14 + 83 * m + 31 + 3 * i + 1) = nI t.2.1 ∧ v3 r (14 + 83 * m + 31 + 3 * i + 2) = nI t.2.2) → (∀ (i : Nat) (t : mT), k ≤ i → (gK S m)[i]? = some t → v3 r (14 + 83 * m + 31 + 3 * i) = nI t.1 ∧ v3 r (14 + 83 * m + 31 + 3 * i + 1) = nI t.2.1 ∧ v3 r (14 + 83 * m + 31 + 3 * i + 2) = nI t.2.2) → (∀ i, i ≠ 14 + 83 * m + 5 → (i < 14 + 83 * m + 31 ∨ 14 + 83 * m + 67 ≤ i) → v3 r i = v1 r i) → (vO9 v v3 r) → (v3 r (14 + 83 * m + 31 + 3 * k) = nI ((gK S m).getD k t0).1 ∧ v3 r (14 + 83 * m + 31 + 3 * k + 1) = nI ((gK S m).getD k t0).2.1 ∧ v3 r (14 + 83 * m + 31 + 3 * k + 2) = nI ((gK S m).getD k t0).2.2) → vP M_X7_told 112 [some (.ref (r)), some (.int (nI (m))), some (.int (nI (num))), some (.int (nI (by9))), some (.int (nI (set))), some (.int (nI (heard))), some (.int (nI (14 + 83 * m))), some (.int (nI ((((gK S m).take k).filter (fun t => decide (num < t.1))).length))), some (.int (nI (k))), some (.int (nI (14 + 83 * m + 31 + 3 * k))), none] [] ((vRm M_X7_told).cells, (vRm M_X7_told).slots) (σ, v3) (vN (qS σ none (rP c v r (mtold S m num by9 set heard)))) := by
              intro v3 h30 h5 hcm hrs hot hO2 hrow
              refine P_aload_n dX7_told_112 rfl rfl ?_
              refine P_iload dX7_told_113 rfl ?_
              refine P_ialdN (x := nI (((gK S m).getD k t0).1)) (14 + 83 * m + 31 + 3 * k) dX7_told_115 hr rfl (by omega) (by decide) hrow.1 ?_
              refine P_iload_n dX7_told_116 rfl rfl ?_
              refine P_icmp_leN (tgt := 167) dX7_told_117 (by decide) (by first | omega | exact Nat.lt_of_le_of_lt hk.1 (by omega)) (by first | omega | exact Nat.lt_of_le_of_lt hk.1 (by omega)) (fun c117 => ?_) (fun c117 => ?_)
              · refine P_iinc (v := nI (k + 1)) (ls2 := [some (.ref (r)), some (.int (nI (m))), some (.int (nI (num))), some (.int (nI (by9))), some (.int (nI (set))), some (.int (nI (heard))), some (.int (nI (14 + 83 * m))), some (.int (nI ((((gK S m).take k).filter (fun t => decide (num < t.1))).length))), some (.int (nI (k + 1))), some (.int (nI (14 + 83 * m + 31 + 3 * k))), none]) dX7_told_167 rfl (nI_inc _ 1) (by decide) rfl ?_
                refine P_goto (tgt := 53) dX7_told_170 (by decide) ?_
                refine P_weak (ls2 := [some (.ref (r)), some (.int (nI (m))), some (.int (nI (num))), some (.int (nI (by9))), some (.int (nI (set))), some (.int (nI (heard))), some (.int (nI (14 + 83 * m))), some (.int (nI ((((gK S m).take k).filter (fun t => decide (num < t.1))).length))), some (.int (nI (k + 1))), none, none]) ⟨rfl, rfl, rfl, rfl, rfl, rfl, rfl, rfl, rfl, trivial⟩ ?_
                have e9 : ((gK S m).take (k + 1)).filter (fun t => decide (num < t.1)) = ((gK S m).take k).filter (fun t => decide (num < t.1)) := by rw [fil_s hlt, if_neg (by omega), List.append_nil]
                rw [← e9] at hcm ⊢
                exact ih53 (k + 1) v3 (by omega) (by omega) h30 h5 hcm (fun i t q1 q => hrs i t (by omega) q) hot hO2
              · have hle9 := fil_le (num := num) (l := gK S m) (k := k)
                refine P_iload dX7_told_120 rfl ?_
                refine P_bipush (v := nI 31) dX7_told_122 (by decide) ?_
                refine P_iaddN dX7_told_124 ?_
                refine P_iconst (v := nI 3) dX7_told_125 (by decide) ?_
                refine P_iload dX7_told_126 rfl ?_
                refine P_imulN dX7_told_128 ?_
                refine P_iaddN dX7_told_129 ?_
                refine P_istore (ls2 := [some (.ref (r)), some (.int (nI (m))), some (.int (nI (num))), some (.int (nI (by9))), some (.int (nI (set))), some (.int (nI (heard))), some (.int (nI (14 + 83 * m))), some (.int (nI ((((gK S m).take k).filter (fun t => decide (num < t.1))).length))), some (.int (nI (k))), some (.int (nI (14 + 83 * m + 31 + 3 * k))), some (.int (nI (14 + 83 * m + 31 + (3 * ((((gK S m).take k).filter (fun t => decide (num < t.1))).length)))))]) dX7_told_130 (by decide) rfl ?_
                refine P_aload_n dX7_told_132 rfl rfl ?_
                refine P_iload dX7_told_133 rfl ?_
                refine P_aload_n dX7_told_135 rfl rfl ?_
                refine P_iload dX7_told_136 rfl ?_
                refine P_ialdN (x := nI (((gK S m).getD k t0).1)) (14 + 83 * m + 31 + 3 * k) dX7_told_138 hr rfl (by omega) (by decide) hrow.1 ?_
                refine P_iast (14 + 83 * m + 31 + (3 * ((((gK S m).take k).filter (fun t => decide (num < t.1))).length))) dX7_told_139 hr rfl (by omega) (by decide) ?_
                refine P_aload_n dX7_told_140 rfl rfl ?_
                refine P_iload dX7_told_141 rfl ?_
                refine P_iconst (v := nI 1) dX7_told_143 (by decide) ?_
                refine P_iaddN dX7_told_144 ?_
                refine P_aload_n dX7_told_145 rfl rfl ?_
                refine P_iload dX7_told_146 rfl ?_
                refine P_iconst (v := nI 1) dX7_told_148 (by decide) ?_
                refine P_iaddN dX7_told_149 ?_
                refine P_ialdN (x := nI (((gK S m).getD k t0).2.1)) (14 + 83 * m + 31 + 3 * k + 1) dX7_told_150 hr rfl (by omega) (by decide) (by (repeat rw [vU_o (by omega)]); exact hrow.2.1) ?_
                refine P_iast (14 + 83 * m + 31 + (3 * ((((gK S m).take k).filter (fun t => decide (num < t.1))).length)) + 1) dX7_told_151 hr rfl (by omega) (by decide) ?_
                refine P_aload_n dX7_told_152 rfl rfl ?_
                refine P_iload dX7_told_153 rfl ?_
                refine P_iconst (v := nI 2) dX7_told_155 (by decide) ?_
                refine P_iaddN dX7_told_156 ?_
                refine P_aload_n dX7_told_157 rfl rfl ?_
                refine P_iload dX7_told_158 rfl ?_
                refine P_iconst (v := nI 2) dX7_told_160 (by decide) ?_
                refine P_iaddN dX7_told_161 ?_
                refine P_ialdN (x := nI (((gK S m).getD k t0).2.2)) (14 + 83 * m + 31 + 3 * k + 2) dX7_told_162 hr rfl (by omega) (by decide) (by (repeat rw [vU_o (by omega)]); exact hrow.2.2) ?_
                refine P_iast (14 + 83 * m + 31 + (3 * ((((gK S m).take k).filter (fun t => decide (num < t.1))).length)) + 2) dX7_told_163 hr rfl (by omega) (by decide) ?_
                refine P_iinc (v := nI ((((gK S m).take k).filter (fun t => decide (num < t.1))).length + 1)) (ls2 := [some (.ref (r)), some (.int (nI (m))), some (.int (nI (num))), some (.int (nI (by9))), some (.int (nI (set))), some (.int (nI (heard))), some (.int (nI (14 + 83 * m))), some (.int (nI ((((gK S m).take k).filter (fun t => decide (num < t.1))).length + 1))), some (.int (nI (k))), some (.int (nI (14 + 83 * m + 31 + 3 * k))), some (.int (nI (14 + 83 * m + 31 + (3 * ((((gK S m).take k).filter (fun t => decide (num < t.1))).length)))))]) dX7_told_164 rfl (nI_inc _ 1) (by decide) rfl ?_
                refine P_iinc (v := nI (k + 1)) (ls2 := [some (.ref (r)), some (.int (nI (m))), some (.int (nI (num))), some (.int (nI (by9))), some (.int (nI (set))), some (.int (nI (heard))), some (.int (nI (14 + 83 * m))), some (.int (nI ((((gK S m).take k).filter (fun t => decide (num < t.1))).length + 1))), some (.int (nI (k + 1))), some (.int (nI (14 + 83 * m + 31 + 3 * k))), some (.int (nI (14 + 83 * m + 31 + (3 * ((((gK S m).take k).filter (fun t => decide (num < t.1))).length)))))]) dX7_told_167 rfl (nI_inc _ 1) (by decide) rfl ?_
                refine P_goto (tgt := 53) dX7_told_170 (by decide) ?_
                refine P_weak (ls2 := [some (.ref (r)), some (.int (nI (m))), some (.int (nI (num))), some (.int (nI (by9))), some (.int (nI (set))), some (.int (nI (heard))), some (.int (nI (14 + 83 * m))), some (.int (nI ((((gK S m).take k).filter (fun t => decide (num < t.1))).length + 1))), some (.int (nI (k + 1))), none, none]) ⟨rfl, rfl, rfl, rfl, rfl, rfl, rfl, rfl, rfl, trivial⟩ ?_
                have e9 : ((gK S m).take (k + 1)).filter (fun t => decide (num < t.1)) = ((gK S m).take k).filter (fun t => decide (num < t.1)) ++ [(gK S m).getD k t0] := by rw [fil_s hlt, if_pos (by omega)]
                have e8 : (((gK S m).take k).filter (fun t => decide (num < t.1))).length + 1 = (((gK S m).take (k + 1)).filter (fun t => decide (num < t.1))).length := by rw [e9, List.length_append]; rfl
                have hle := fil_le (num := num) (l := gK S m) (k := k)
                rw [e8]
                refine ih53 (k + 1) _ (by omega) (by omega) (by (repeat rw [vU_o (by omega)]); exact h30) (by (repeat rw [vU_o (by omega)]); exact h5) (fun i t q => ?_) (fun i t q1 q => ?_) (fun i q1 q2 => ?_) hO2.u.u.u
                · rw [e9] at q
                  by_cases g1 : i < (((gK S m).take k).filter (fun t => decide (num < t.1))).length
                  · rw [List.getElem?_append_left g1] at q
                    have := hcm i t q
                    refine ⟨?_, ?_, ?_⟩
                    · (repeat rw [vU_o (by omega)]); exact this.1
                    · (repeat rw [vU_o (by omega)]); exact this.2.1
                    · (repeat rw [vU_o (by omega)]); exact this.2.2
                  · have q1 : i < (((gK S m).take k).filter (fun t => decide (num < t.1)) ++ [(gK S m).getD k t0]).length := (List.getElem?_eq_some_iff.mp q).1
                    rw [List.length_append] at q1
                    have q2 : i < (((gK S m).take k).filter (fun t => decide (num < t.1))).length + 1 := q1
                    rw [List.getElem?_append_right (by omega), show i - (((gK S m).take k).filter (fun t => decide (num < t.1))).length = 0 by omega] at q
                    obtain rfl : (gK S m).getD k t0 = t := Option.some.inj q
                    obtain rfl : i = (((gK S m).take k).filter (fun t => decide (num < t.1))).length := by omega
                    refine ⟨?_, ?_, ?_⟩
                    · (repeat rw [vU_o (by omega)]); exact vU_s
                    · (repeat rw [vU_o (by omega)]); exact vU_s
                    · (repeat rw [vU_o (by omega)]); exact vU_s
                · have := hrs i t (by omega) q
                  refine ⟨?_, ?_, ?_⟩
                  · (repeat rw [vU_o (by omega)]); exact this.1
                  · (repeat rw [vU_o (by omega)]); exact this.2.1
                  · (repeat rw [vU_o (by omega)]); exact this.2.2
                · (repeat rw [vU_o (by omega)]); exact hot i q1 q2
            refine P_aload_n dX7_told_77 rfl rfl ?_
            refine P_iload dX7_told_78 rfl ?_
            refine P_ialdN (x := nI (((gK S m).getD k t0).1)) (14 + 83 * m + 31 + 3 * k) dX7_told_80 hr rfl (by omega) (by decide) hrow.1 ?_
            refine P_iload_n dX7_told_81 rfl rfl ?_
            refine P_icmp_neN (tgt := 112) dX7_told_82 (by decide) (by first | omega | exact Nat.lt_of_le_of_lt hk.1 (by omega)) (by first | omega | exact Nat.lt_of_le_of_lt hk.1 (by omega)) (fun c82 => ?_) (fun c82 => ?_)
            · exact hJ112 v2 h30 (by rw [mor_s hlt, if_neg (fun q => c82 q.1)]; exact h5) hcm hrs hot hO2 hrow
            · refine P_aload_n dX7_told_85 rfl rfl ?_
              refine P_iload dX7_told_86 rfl ?_
              refine P_iconst (v := nI 1) dX7_told_88 (by decide) ?_
              refine P_iaddN dX7_told_89 ?_
              refine P_ialdN (x := nI (((gK S m).getD k t0).2.1)) (14 + 83 * m + 31 + 3 * k + 1) dX7_told_90 hr rfl (by omega) (by decide) hrow.2.1 ?_
              refine P_iload_n dX7_told_91 rfl rfl ?_
              refine P_icmp_neN (tgt := 112) dX7_told_92 (by decide) (by first | omega | exact Nat.lt_trans hk.2.1 (by omega)) (by first | omega | exact Nat.lt_trans hk.2.1 (by omega)) (fun c92 => ?_) (fun c92 => ?_)
              · exact hJ112 v2 h30 (by rw [mor_s hlt, if_neg (fun q => c92 q.2)]; exact h5) hcm hrs hot hO2 hrow
              · refine P_aload_n dX7_told_95 rfl rfl ?_
                refine P_iload dX7_told_96 rfl ?_
                refine P_iconst (v := nI 5) dX7_told_98 (by decide) ?_
                refine P_iaddN dX7_told_99 ?_
                refine P_dup2 dX7_told_100 rfl rfl ?_
                refine P_ialdN (x := nI (mor num by9 ((gK S m).take k) 0)) (14 + 83 * m + 5) dX7_told_101 hr rfl (by omega) (by decide) h5 ?_
                refine P_iconst (v := nI 1) dX7_told_102 (by decide) ?_
                refine P_aload_n dX7_told_103 rfl rfl ?_
                refine P_iload dX7_told_104 rfl ?_
                refine P_iconst (v := nI 2) dX7_told_106 (by decide) ?_
                refine P_iaddN dX7_told_107 ?_
                refine P_ialdN (x := nI (((gK S m).getD k t0).2.2)) (14 + 83 * m + 31 + 3 * k + 2) dX7_told_108 hr rfl (by omega) (by decide) hrow.2.2 ?_
                refine P_ishlN dX7_told_109 (by exact Nat.lt_trans hk.2.2 (by decide)) ?_
                refine P_iorN dX7_told_110 ?_
                refine P_iast (14 + 83 * m + 5) dX7_told_111 hr rfl (by omega) (by decide) ?_
                exact hJ112 _ (by rw [vU_o (by omega)]; exact h30) (by rw [vU_s, mor_s hlt, if_pos ⟨c82, c92⟩]) (fun i t q => by
                  have q1 : i < (((gK S m).take k).filter (fun t => decide (num < t.1))).length := (List.getElem?_eq_some_iff.mp q).1
                  rw [vU_o (by omega), vU_o (by omega), vU_o (by omega)]; exact hcm i t q) (fun i t q1 q => by rw [vU_o (by omega), vU_o (by omega), vU_o (by omega)]; exact hrs i t q1 q) (fun i q1 q2 => by rw [vU_o (by omega)]; exact hot i q1 q2) hO2.u (by rw [vU_o (by omega), vU_o (by omega), vU_o (by omega)]; exact hrow)
      refine hL53 ((gK S m).length + 1) 0 v1 (by omega) (by omega) (hR1.kl hm) (by rw [hR1.m (w := 5) hm (by decide)]; simp [menter, sM, gM, mor]) (fun i t q => by cases q) (fun i t _ q => hR1.kr hm q) (fun _ _ _ => rfl) hO1
    · refine P_vret dX7_told_21 rfl ?_
      exact q_s rfl ⟨by unfold mtold; rw [if_pos (Or.inr (by omega))]; exact hR, hO⟩
