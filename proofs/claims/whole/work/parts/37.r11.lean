set_option maxHeartbeats 4000000 in
set_option maxRecDepth 100000 in
theorem c_X7_isThere {σ : vS} {v : vV} {c : Nat} {S : mS} {q m num set B : Nat} (hq : LR σ q) (hR : RR c v (q + 3) S) (hN : NB c S B) (hm : m < c) (hB : B < 1000000000) (hn : num < 2147483648) (hs : set < 64) : vC M_X7_isThere yX7_isThere [.ref (q), .int (nI (m)), .int (nI (num)), .int (nI (set)), .int (nI (1))] (σ, v) (qP (σ, v) (.int (vb (mthere S m num set c)))) := by
  have hc6 := hR.c6
  refine vC_of (ls := [some (.ref (q)), some (.int (nI (m))), some (.int (nI (num))), some (.int (nI (set))), some (.int (nI (1))), none, none, none]) pn_X7 rfl rfl (Nat.le_of_ble_eq_true rfl) rfl ?_
  refine P_iconst (v := nI 1) dX7_isThere_0 (by decide) ?_
  refine P_istore (ls2 := [some (.ref (q)), some (.int (nI (m))), some (.int (nI (num))), some (.int (nI (set))), some (.int (nI (1))), some (.int (nI (1))), none, none]) dX7_isThere_1 (by decide) rfl ?_
  refine P_iconst (v := nI 0) dX7_isThere_3 (by decide) ?_
  refine P_istore (ls2 := [some (.ref (q)), some (.int (nI (m))), some (.int (nI (num))), some (.int (nI (set))), some (.int (nI (1))), some (.int (nI (1))), some (.int (nI (0))), none]) dX7_isThere_4 (by decide) rfl ?_
  have hL6 : ∀ (n6 : Nat) (k : Nat), (k ≤ c) → (k + n6 = c + 1) → vP M_X7_isThere 6 [some (.ref (q)), some (.int (nI (m))), some (.int (nI (num))), some (.int (nI (set))), some (.int (nI (1))), some (.int (vb (mthere S m num set k))), some (.int (nI (k))), none] [] ((vRm M_X7_isThere).cells, (vRm M_X7_isThere).slots) (σ, v) (vN (qP (σ, v) (.int (vb (mthere S m num set c))))) := by
    intro n6
    induction n6 with
    | zero =>
      intro k h1 h2
      exact absurd h2 (by omega)
    | succ n6 ih6 =>
      intro k h1 h2
      refine P_iload dX7_isThere_6 rfl ?_
      refine P_aload_n dX7_isThere_8 rfl rfl ?_
      refine P_getr (t := q + 3) dX7_isThere_9 kX7 fX7_16 rfl (by decide) hq.o hq.r3 hq.k3.1.2 ?_
      refine P_iconst (v := nI 0) dX7_isThere_12 (by decide) ?_
      refine P_ialdN (x := nI (c)) (0) dX7_isThere_13 hq.k3 rfl (by omega) (by decide) hR.cc ?_
      refine P_icmp_geN (tgt := 108) dX7_isThere_14 (by decide) (by omega) (by omega) (fun c14 => ?_) (fun c14 => ?_)
      · refine P_iload dX7_isThere_108 rfl ?_
        refine P_zret dX7_isThere_110 rfl (vb_nar _) ?_
        have ek : k = c := by omega
        rw [ek]
        exact q_b rfl
      · have hJ63 : ∀ (bs : Bool), (bs = true ↔ (gM S k 1 = 0 ∧ gM S k 2 = num ∧ gM S k 3 = m)) → vP M_X7_isThere 63 [some (.ref (q)), some (.int (nI (m))), some (.int (nI (num))), some (.int (nI (set))), some (.int (nI (1))), some (.int (vb (mthere S m num set k))), some (.int (nI (k))), none] [.int (vb (bs))] ((vRm M_X7_isThere).cells, (vRm M_X7_isThere).slots) (σ, v) (vN (qP (σ, v) (.int (vb (mthere S m num set c))))) := by
          intro bs hbs
          refine P_istore (ls2 := [some (.ref (q)), some (.int (nI (m))), some (.int (nI (num))), some (.int (nI (set))), some (.int (nI (1))), some (.int (vb (mthere S m num set k))), some (.int (nI (k))), some (.int (vb (bs)))]) dX7_isThere_63 (by decide) rfl ?_
          refine P_iload dX7_isThere_65 rfl ?_
          refine P_bif_eq (tgt := 99) dX7_isThere_67 (by decide) (fun c67 => ?_) (fun c67 => ?_)
          · refine P_iconst (v := nI 0) dX7_isThere_99 (by decide) ?_
            refine P_top (y := vb (mthere S m num set (k + 1))) (by rw [show mthere S m num set (k + 1) = false by rw [mthere, c67, Bool.false_and]]; rfl) ?_
            refine P_istore (ls2 := [some (.ref (q)), some (.int (nI (m))), some (.int (nI (num))), some (.int (nI (set))), some (.int (nI (1))), some (.int (vb (mthere S m num set (k + 1)))), some (.int (nI (k))), some (.int (vb (bs)))]) dX7_isThere_100 (by decide) rfl ?_
            refine P_iinc (v := nI (k + 1)) (ls2 := [some (.ref (q)), some (.int (nI (m))), some (.int (nI (num))), some (.int (nI (set))), some (.int (nI (1))), some (.int (vb (mthere S m num set (k + 1)))), some (.int (nI (k + 1))), some (.int (vb (bs)))]) dX7_isThere_102 rfl (nI_inc _ 1) (by decide) rfl ?_
            refine P_goto (tgt := 6) dX7_isThere_105 (by decide) ?_
            refine P_weak (ls2 := [some (.ref (q)), some (.int (nI (m))), some (.int (nI (num))), some (.int (nI (set))), some (.int (nI (1))), some (.int (vb (mthere S m num set (k + 1)))), some (.int (nI (k + 1))), none]) ⟨rfl, rfl, rfl, rfl, rfl, rfl, rfl, trivial⟩ ?_
            exact ih6 (k + 1) (by omega) (by omega)
          · refine P_iload dX7_isThere_70 rfl ?_
            refine P_bif_ne (tgt := 95) dX7_isThere_72 (by decide) (fun c72 => ?_) (fun c72 => ?_)
            · refine P_iconst (v := nI 1) dX7_isThere_95 (by decide) ?_
              refine P_goto (tgt := 100) dX7_isThere_96 (by decide) ?_
              refine P_top (y := vb (mthere S m num set (k + 1))) (by rw [show mthere S m num set (k + 1) = true by rw [mthere, c67, decide_eq_true (hbs.mp c72), Bool.or_true]; rfl]; rfl) ?_
              refine P_istore (ls2 := [some (.ref (q)), some (.int (nI (m))), some (.int (nI (num))), some (.int (nI (set))), some (.int (nI (1))), some (.int (vb (mthere S m num set (k + 1)))), some (.int (nI (k))), some (.int (vb (bs)))]) dX7_isThere_100 (by decide) rfl ?_
              refine P_iinc (v := nI (k + 1)) (ls2 := [some (.ref (q)), some (.int (nI (m))), some (.int (nI (num))), some (.int (nI (set))), some (.int (nI (1))), some (.int (vb (mthere S m num set (k + 1)))), some (.int (nI (k + 1))), some (.int (vb (bs)))]) dX7_isThere_102 rfl (nI_inc _ 1) (by decide) rfl ?_
              refine P_goto (tgt := 6) dX7_isThere_105 (by decide) ?_
              refine P_weak (ls2 := [some (.ref (q)), some (.int (nI (m))), some (.int (nI (num))), some (.int (nI (set))), some (.int (nI (1))), some (.int (vb (mthere S m num set (k + 1)))), some (.int (nI (k + 1))), none]) ⟨rfl, rfl, rfl, rfl, rfl, rfl, rfl, trivial⟩ ?_
              exact ih6 (k + 1) (by omega) (by omega)
            · refine P_iload_n dX7_isThere_75 rfl rfl ?_
              refine P_iload dX7_isThere_76 rfl ?_
              refine P_cSp (rest := []) (As := [.int (nI (set)), .int (nI (k))]) dX7_isThere_78 lX7_48 yk_X7_has ys_X7_has (by decide) rfl rfl (Nat.le_of_ble_eq_true rfl) rfl (c_X7_has (by omega) (by omega)) ?_
              refine P_bif_eq (tgt := 95) dX7_isThere_81 (by decide) (fun c81 => ?_) (fun c81 => ?_)
              · refine P_iconst (v := nI 1) dX7_isThere_95 (by decide) ?_
                refine P_goto (tgt := 100) dX7_isThere_96 (by decide) ?_
                refine P_top (y := vb (mthere S m num set (k + 1))) (by rw [show mthere S m num set (k + 1) = true by rw [mthere, c67, c81]; rfl]; rfl) ?_
                refine P_istore (ls2 := [some (.ref (q)), some (.int (nI (m))), some (.int (nI (num))), some (.int (nI (set))), some (.int (nI (1))), some (.int (vb (mthere S m num set (k + 1)))), some (.int (nI (k))), some (.int (vb (bs)))]) dX7_isThere_100 (by decide) rfl ?_
                refine P_iinc (v := nI (k + 1)) (ls2 := [some (.ref (q)), some (.int (nI (m))), some (.int (nI (num))), some (.int (nI (set))), some (.int (nI (1))), some (.int (vb (mthere S m num set (k + 1)))), some (.int (nI (k + 1))), some (.int (vb (bs)))]) dX7_isThere_102 rfl (nI_inc _ 1) (by decide) rfl ?_
                refine P_goto (tgt := 6) dX7_isThere_105 (by decide) ?_
                refine P_weak (ls2 := [some (.ref (q)), some (.int (nI (m))), some (.int (nI (num))), some (.int (nI (set))), some (.int (nI (1))), some (.int (vb (mthere S m num set (k + 1)))), some (.int (nI (k + 1))), none]) ⟨rfl, rfl, rfl, rfl, rfl, rfl, rfl, trivial⟩ ?_
                exact ih6 (k + 1) (by omega) (by omega)
              · refine P_iload dX7_isThere_84 rfl ?_
                refine P_if_neN (tgt := 99) dX7_isThere_86 (by decide) (by omega) (fun c86 => ?_) (fun c86 => ?_)
                · refine P_iconst (v := nI 0) dX7_isThere_99 (by decide) ?_
                  refine P_top (y := vb (mthere S m num set (k + 1))) (by rw [show mthere S m num set (k + 1) = false by rw [mthere, c67, c81, decide_eq_false (fun e => by rw [hbs.mpr e] at c72; cases c72)]; rfl]; rfl) ?_
                  refine P_istore (ls2 := [some (.ref (q)), some (.int (nI (m))), some (.int (nI (num))), some (.int (nI (set))), some (.int (nI (1))), some (.int (vb (mthere S m num set (k + 1)))), some (.int (nI (k))), some (.int (vb (bs)))]) dX7_isThere_100 (by decide) rfl ?_
                  refine P_iinc (v := nI (k + 1)) (ls2 := [some (.ref (q)), some (.int (nI (m))), some (.int (nI (num))), some (.int (nI (set))), some (.int (nI (1))), some (.int (vb (mthere S m num set (k + 1)))), some (.int (nI (k + 1))), some (.int (vb (bs)))]) dX7_isThere_102 rfl (nI_inc _ 1) (by decide) rfl ?_
                  refine P_goto (tgt := 6) dX7_isThere_105 (by decide) ?_
                  refine P_weak (ls2 := [some (.ref (q)), some (.int (nI (m))), some (.int (nI (num))), some (.int (nI (set))), some (.int (nI (1))), some (.int (vb (mthere S m num set (k + 1)))), some (.int (nI (k + 1))), none]) ⟨rfl, rfl, rfl, rfl, rfl, rfl, rfl, trivial⟩ ?_
                  exact ih6 (k + 1) (by omega) (by omega)
                · exact absurd c86 (by decide)
        refine P_aload_n dX7_isThere_17 rfl rfl ?_
        refine P_getr (t := q + 3) dX7_isThere_18 kX7 fX7_16 rfl (by decide) hq.o hq.r3 hq.k3.1.2 ?_
        refine P_iload dX7_isThere_21 rfl ?_
        refine P_iconst (v := nI 1) dX7_isThere_23 (by decide) ?_
        refine P_cSp (rest := []) (As := [.ref (q + 3), .int (nI (k)), .int (nI (1))]) dX7_isThere_24 lX7_44 yk_X7_of ys_X7_of (by decide) rfl rfl (Nat.le_of_ble_eq_true rfl) rfl (c_X7_of hq.k3 (by omega) (by decide)) ?_
        refine P_top (y := (nI (gM S k 1))) (hR.m (by omega) (by decide)) ?_
        refine P_if_neN (tgt := 62) dX7_isThere_27 (by decide) (by first | omega | (have := hN.m1 k; omega) | (have := hN.m2 k; omega) | (have := hN.m3 k; omega)) (fun c27 => ?_) (fun c27 => ?_)
        · refine P_iconst (v := nI 0) dX7_isThere_62 (by decide) ?_
          exact hJ63 false ⟨fun q => (by cases q), fun q => absurd q (fun e => absurd e.1 (by omega))⟩
        · refine P_aload_n dX7_isThere_30 rfl rfl ?_
          refine P_getr (t := q + 3) dX7_isThere_31 kX7 fX7_16 rfl (by decide) hq.o hq.r3 hq.k3.1.2 ?_
          refine P_iload dX7_isThere_34 rfl ?_
          refine P_iconst (v := nI 2) dX7_isThere_36 (by decide) ?_
          refine P_cSp (rest := []) (As := [.ref (q + 3), .int (nI (k)), .int (nI (2))]) dX7_isThere_37 lX7_44 yk_X7_of ys_X7_of (by decide) rfl rfl (Nat.le_of_ble_eq_true rfl) rfl (c_X7_of hq.k3 (by omega) (by decide)) ?_
          refine P_top (y := (nI (gM S k 2))) (hR.m (by omega) (by decide)) ?_
          refine P_iload_n dX7_isThere_40 rfl rfl ?_
          refine P_icmp_neN (tgt := 62) dX7_isThere_41 (by decide) (by first | omega | (have := hN.m1 k; omega) | (have := hN.m2 k; omega) | (have := hN.m3 k; omega)) (by first | omega | (have := hN.m1 k; omega) | (have := hN.m2 k; omega) | (have := hN.m3 k; omega)) (fun c41 => ?_) (fun c41 => ?_)
          · refine P_iconst (v := nI 0) dX7_isThere_62 (by decide) ?_
            exact hJ63 false ⟨fun q => (by cases q), fun q => absurd q (fun e => c41 e.2.1)⟩
          · refine P_aload_n dX7_isThere_44 rfl rfl ?_
            refine P_getr (t := q + 3) dX7_isThere_45 kX7 fX7_16 rfl (by decide) hq.o hq.r3 hq.k3.1.2 ?_
            refine P_iload dX7_isThere_48 rfl ?_
            refine P_iconst (v := nI 3) dX7_isThere_50 (by decide) ?_
            refine P_cSp (rest := []) (As := [.ref (q + 3), .int (nI (k)), .int (nI (3))]) dX7_isThere_51 lX7_44 yk_X7_of ys_X7_of (by decide) rfl rfl (Nat.le_of_ble_eq_true rfl) rfl (c_X7_of hq.k3 (by omega) (by decide)) ?_
            refine P_top (y := (nI (gM S k 3))) (hR.m (by omega) (by decide)) ?_
            refine P_iload_n dX7_isThere_54 rfl rfl ?_
            refine P_icmp_neN (tgt := 62) dX7_isThere_55 (by decide) (by first | omega | (have := hN.m1 k; omega) | (have := hN.m2 k; omega) | (have := hN.m3 k; omega)) (by first | omega | (have := hN.m1 k; omega) | (have := hN.m2 k; omega) | (have := hN.m3 k; omega)) (fun c55 => ?_) (fun c55 => ?_)
            · refine P_iconst (v := nI 0) dX7_isThere_62 (by decide) ?_
              exact hJ63 false ⟨fun q => (by cases q), fun q => absurd q (fun e => c55 e.2.2)⟩
            · refine P_iconst (v := nI 1) dX7_isThere_58 (by decide) ?_
              refine P_goto (tgt := 63) dX7_isThere_59 (by decide) ?_
              exact hJ63 true ⟨fun _ => ⟨c27, c41, c55⟩, fun _ => rfl⟩
  exact hL6 (c + 1) 0 (by omega) (by omega)
set_option maxHeartbeats 4000000 in
set_option maxRecDepth 100000 in
theorem c_X7_compared {σ : vS} {v : vV} {c r : Nat} {S : mS} {a d w B : Nat} (hr : vK σ r 8 2012) (hR : RR c v r S) (hN : NB c S B) (hB : B < 1000000000) (ha : a < c) (hd : d < c) (hw9 : w < 2) : vC M_X7_compared yX7_compared [.ref (r), .int (nI (a)), .int (nI (d)), .int (nI (w))] (σ, v) (qP (σ, v) (.int (nI (mcmp S a d w)))) := by
  have hc6 := hR.c6
  refine vC_of (ls := [some (.ref (r)), some (.int (nI (a))), some (.int (nI (d))), some (.int (nI (w))), none, none, none, none]) pn_X7 rfl rfl (Nat.le_of_ble_eq_true rfl) rfl ?_
  refine P_iconst (v := nI 0) dX7_compared_0 (by decide) ?_
  refine P_istore (ls2 := [some (.ref (r)), some (.int (nI (a))), some (.int (nI (d))), some (.int (nI (w))), some (.int (nI (0))), none, none, none]) dX7_compared_1 (by decide) rfl ?_
  refine P_iconst (v := nI 0) dX7_compared_3 (by decide) ?_
  refine P_istore (ls2 := [some (.ref (r)), some (.int (nI (a))), some (.int (nI (d))), some (.int (nI (w))), some (.int (nI (0))), some (.int (nI (0))), none, none]) dX7_compared_4 (by decide) rfl ?_
  have hL6 : ∀ (n6 : Nat) (k : Nat), (k ≤ (gH S a).length) → (k + n6 = (gH S a).length + 1) → vP M_X7_compared 6 [some (.ref (r)), some (.int (nI (a))), some (.int (nI (d))), some (.int (nI (w))), some (.int (nI (mcmpK S a d w k))), some (.int (nI (k))), none, none] [] ((vRm M_X7_compared).cells, (vRm M_X7_compared).slots) (σ, v) (vN (qP (σ, v) (.int (nI (mcmp S a d w))))) := by
    intro n6
    induction n6 with
    | zero =>
      intro k h1 h2
      exact absurd h2 (by omega)
    | succ n6 ih6 =>
      intro k h1 h2
      have hl1 := hN.b.2.1 a
      have hl2 := hN.b.2.1 d
      refine P_iload dX7_compared_6 rfl ?_
      refine P_aload_n dX7_compared_8 rfl rfl ?_
      refine P_iload_n dX7_compared_9 rfl rfl ?_
      refine P_bipush (v := nI 67) dX7_compared_10 (by decide) ?_
      refine P_cSp (rest := [.int (nI (k))]) (As := [.ref (r), .int (nI (a)), .int (nI (67))]) dX7_compared_12 lX7_44 yk_X7_of ys_X7_of (by decide) rfl rfl (Nat.le_of_ble_eq_true rfl) rfl (c_X7_of hr (by omega) (by decide)) ?_
      refine P_top (y := (nI ((gH S a).length))) (hR.hl (by omega)) ?_
      refine P_icmp_geN (tgt := 160) dX7_compared_15 (by decide) (by omega) (by have := hN.b.2.1 a; omega) (fun c15 => ?_) (fun c15 => ?_)
      · refine P_iload dX7_compared_160 rfl ?_
        refine P_iret dX7_compared_162 rfl ?_
        have ek : k = (gH S a).length := by omega
        rw [ek]
        exact q_n rfl
      · refine P_iconst (v := nI 0) dX7_compared_18 (by decide) ?_
        refine P_istore (ls2 := [some (.ref (r)), some (.int (nI (a))), some (.int (nI (d))), some (.int (nI (w))), some (.int (nI (mcmpK S a d w k))), some (.int (nI (k))), some (.int (nI (0))), none]) dX7_compared_19 (by decide) rfl ?_
        have hL21 : ∀ (n21 : Nat) (l : Nat), (l ≤ (gH S d).length) → (l + n21 = (gH S d).length + 1) → vP M_X7_compared 21 [some (.ref (r)), some (.int (nI (a))), some (.int (nI (d))), some (.int (nI (w))), some (.int (nI (mcmpK S a d w k + mcmpL S a d w k l))), some (.int (nI (k))), some (.int (nI (l))), none] [] ((vRm M_X7_compared).cells, (vRm M_X7_compared).slots) (σ, v) (vN (qP (σ, v) (.int (nI (mcmp S a d w))))) := by
          intro n21
          induction n21 with
          | zero =>
            intro l h3 h4
            exact absurd h4 (by omega)
          | succ n21 ih21 =>
            intro l h3 h4
            refine P_iload dX7_compared_21 rfl ?_
            refine P_aload_n dX7_compared_23 rfl rfl ?_
            refine P_iload_n dX7_compared_24 rfl rfl ?_
            refine P_bipush (v := nI 67) dX7_compared_25 (by decide) ?_
            refine P_cSp (rest := [.int (nI (l))]) (As := [.ref (r), .int (nI (d)), .int (nI (67))]) dX7_compared_27 lX7_44 yk_X7_of ys_X7_of (by decide) rfl rfl (Nat.le_of_ble_eq_true rfl) rfl (c_X7_of hr (by omega) (by decide)) ?_
            refine P_top (y := (nI ((gH S d).length))) (hR.hl (by omega)) ?_
            refine P_icmp_geN (tgt := 154) dX7_compared_30 (by decide) (by omega) (by have := hN.b.2.1 d; omega) (fun c30 => ?_) (fun c30 => ?_)
            · refine P_iinc (v := nI (k + 1)) (ls2 := [some (.ref (r)), some (.int (nI (a))), some (.int (nI (d))), some (.int (nI (w))), some (.int (nI (mcmpK S a d w k + mcmpL S a d w k l))), some (.int (nI (k + 1))), some (.int (nI (l))), none]) dX7_compared_154 rfl (nI_inc _ 1) (by decide) rfl ?_
              refine P_goto (tgt := 6) dX7_compared_157 (by decide) ?_
              refine P_weak (ls2 := [some (.ref (r)), some (.int (nI (a))), some (.int (nI (d))), some (.int (nI (w))), some (.int (nI (mcmpK S a d w k + mcmpL S a d w k l))), some (.int (nI (k + 1))), none, none]) ⟨rfl, rfl, rfl, rfl, rfl, rfl, trivial⟩ ?_
              obtain rfl : l = (gH S d).length := by omega
              exact ih6 (k + 1) (by omega) (by omega)
            · obtain ⟨x1, x2, x3⟩ := hN.hd (m := a) (k := k) (by omega)
              obtain ⟨y1, y2, y3⟩ := hN.hd (m := d) (k := l) (by omega)
              have hJ96 : ∀ (bs : Bool), (bs = true ↔ (((gH S a).getD k t0).1 = ((gH S d).getD l t0).1 ∧ ((gH S a).getD k t0).2.1 = ((gH S d).getD l t0).2.1)) → vP M_X7_compared 96 [some (.ref (r)), some (.int (nI (a))), some (.int (nI (d))), some (.int (nI (w))), some (.int (nI (mcmpK S a d w k + mcmpL S a d w k l))), some (.int (nI (k))), some (.int (nI (l))), none] [.int (vb (bs))] ((vRm M_X7_compared).cells, (vRm M_X7_compared).slots) (σ, v) (vN (qP (σ, v) (.int (nI (mcmp S a d w))))) := by
                intro bs hbs
                refine P_istore (ls2 := [some (.ref (r)), some (.int (nI (a))), some (.int (nI (d))), some (.int (nI (w))), some (.int (nI (mcmpK S a d w k + mcmpL S a d w k l))), some (.int (nI (k))), some (.int (nI (l))), some (.int (vb (bs)))]) dX7_compared_96 (by decide) rfl ?_
                refine P_iload dX7_compared_98 rfl ?_
                refine P_iload dX7_compared_100 rfl ?_
                refine P_bif_eq (tgt := 144) dX7_compared_102 (by decide) (fun c102 => ?_) (fun c102 => ?_)
                · refine P_iconst (v := nI 0) dX7_compared_144 (by decide) ?_
                  have hno : ¬ msame S a d k l w := fun e => by rw [hbs.mpr e.1] at c102; cases c102
                  refine P_iaddN dX7_compared_145 ?_
                  refine P_istore (ls2 := [some (.ref (r)), some (.int (nI (a))), some (.int (nI (d))), some (.int (nI (w))), some (.int (nI (mcmpK S a d w k + mcmpL S a d w k l + 0))), some (.int (nI (k))), some (.int (nI (l))), some (.int (vb (bs)))]) dX7_compared_146 (by decide) rfl ?_
                  refine P_iinc (v := nI (l + 1)) (ls2 := [some (.ref (r)), some (.int (nI (a))), some (.int (nI (d))), some (.int (nI (w))), some (.int (nI (mcmpK S a d w k + mcmpL S a d w k l + 0))), some (.int (nI (k))), some (.int (nI (l + 1))), some (.int (vb (bs)))]) dX7_compared_148 rfl (nI_inc _ 1) (by decide) rfl ?_
                  refine P_goto (tgt := 21) dX7_compared_151 (by decide) ?_
                  refine P_weak (ls2 := [some (.ref (r)), some (.int (nI (a))), some (.int (nI (d))), some (.int (nI (w))), some (.int (nI (mcmpK S a d w k + mcmpL S a d w k l + 0))), some (.int (nI (k))), some (.int (nI (l + 1))), none]) ⟨rfl, rfl, rfl, rfl, rfl, rfl, rfl, trivial⟩ ?_
                  rw [show mcmpK S a d w k + mcmpL S a d w k l + 0 = mcmpK S a d w k + mcmpL S a d w k (l + 1) by rw [mcmpL, if_neg (fun e => hno e), Nat.add_assoc]]
                  exact ih21 (l + 1) (by omega) (by omega)
                · refine P_iload_n dX7_compared_105 rfl rfl ?_
                  refine P_if_eqN (tgt := 140) dX7_compared_106 (by decide) (by omega) (fun c106 => ?_) (fun c106 => ?_)
                  · refine P_iconst (v := nI 1) dX7_compared_140 (by decide) ?_
                    refine P_goto (tgt := 145) dX7_compared_141 (by decide) ?_
                    have hw : w = 0 ∨ ¬ ((gH S a).getD k t0).2.2 = ((gH S d).getD l t0).2.2 := Or.inl c106
                    refine P_iaddN dX7_compared_145 ?_
                    refine P_istore (ls2 := [some (.ref (r)), some (.int (nI (a))), some (.int (nI (d))), some (.int (nI (w))), some (.int (nI (mcmpK S a d w k + mcmpL S a d w k l + 1))), some (.int (nI (k))), some (.int (nI (l))), some (.int (vb (bs)))]) dX7_compared_146 (by decide) rfl ?_
                    refine P_iinc (v := nI (l + 1)) (ls2 := [some (.ref (r)), some (.int (nI (a))), some (.int (nI (d))), some (.int (nI (w))), some (.int (nI (mcmpK S a d w k + mcmpL S a d w k l + 1))), some (.int (nI (k))), some (.int (nI (l + 1))), some (.int (vb (bs)))]) dX7_compared_148 rfl (nI_inc _ 1) (by decide) rfl ?_
                    refine P_goto (tgt := 21) dX7_compared_151 (by decide) ?_
                    refine P_weak (ls2 := [some (.ref (r)), some (.int (nI (a))), some (.int (nI (d))), some (.int (nI (w))), some (.int (nI (mcmpK S a d w k + mcmpL S a d w k l + 1))), some (.int (nI (k))), some (.int (nI (l + 1))), none]) ⟨rfl, rfl, rfl, rfl, rfl, rfl, rfl, trivial⟩ ?_
                    rw [show mcmpK S a d w k + mcmpL S a d w k l + 1 = mcmpK S a d w k + mcmpL S a d w k (l + 1) by rw [mcmpL, if_pos ⟨hbs.mp c102, hw⟩, Nat.add_assoc]]
                    exact ih21 (l + 1) (by omega) (by omega)
                  · refine P_aload_n dX7_compared_109 rfl rfl ?_
                    refine P_iload_n dX7_compared_110 rfl rfl ?_
                    refine P_bipush (v := nI 68) dX7_compared_111 (by decide) ?_
                    refine P_iconst (v := nI 3) dX7_compared_113 (by decide) ?_
                    refine P_iload dX7_compared_114 rfl ?_
                    refine P_imulN dX7_compared_116 ?_
                    refine P_iaddN dX7_compared_117 ?_
                    refine P_iconst (v := nI 2) dX7_compared_118 (by decide) ?_
                    refine P_iaddN dX7_compared_119 ?_
                    refine P_cSp (rest := [.int (nI (mcmpK S a d w k + mcmpL S a d w k l))]) (As := [.ref (r), .int (nI (a)), .int (nI (68 + 3 * k + 2))]) dX7_compared_120 lX7_44 yk_X7_of ys_X7_of (by decide) rfl rfl (Nat.le_of_ble_eq_true rfl) rfl (c_X7_of hr (by omega) (by omega)) ?_
                    refine P_top (y := (nI (((gH S a).getD k t0).2.2))) (hR.s3 (by omega) (by omega)) ?_
                    refine P_aload_n dX7_compared_123 rfl rfl ?_
                    refine P_iload_n dX7_compared_124 rfl rfl ?_
                    refine P_bipush (v := nI 68) dX7_compared_125 (by decide) ?_
                    refine P_iconst (v := nI 3) dX7_compared_127 (by decide) ?_
                    refine P_iload dX7_compared_128 rfl ?_
                    refine P_imulN dX7_compared_130 ?_
                    refine P_iaddN dX7_compared_131 ?_
                    refine P_iconst (v := nI 2) dX7_compared_132 (by decide) ?_
                    refine P_iaddN dX7_compared_133 ?_
                    refine P_cSp (rest := [.int (nI (((gH S a).getD k t0).2.2)), .int (nI (mcmpK S a d w k + mcmpL S a d w k l))]) (As := [.ref (r), .int (nI (d)), .int (nI (68 + 3 * l + 2))]) dX7_compared_134 lX7_44 yk_X7_of ys_X7_of (by decide) rfl rfl (Nat.le_of_ble_eq_true rfl) rfl (c_X7_of hr (by omega) (by omega)) ?_
                    refine P_top (y := (nI (((gH S d).getD l t0).2.2))) (hR.s3 (by omega) (by omega)) ?_
                    refine P_icmp_eqN (tgt := 144) dX7_compared_137 (by decide) (by omega) (by omega) (fun c137 => ?_) (fun c137 => ?_)
                    · refine P_iconst (v := nI 0) dX7_compared_144 (by decide) ?_
                      have hno : ¬ msame S a d k l w := fun e => e.2.elim (fun z => c106 z) (fun z => z c137)
                      refine P_iaddN dX7_compared_145 ?_
                      refine P_istore (ls2 := [some (.ref (r)), some (.int (nI (a))), some (.int (nI (d))), some (.int (nI (w))), some (.int (nI (mcmpK S a d w k + mcmpL S a d w k l + 0))), some (.int (nI (k))), some (.int (nI (l))), some (.int (vb (bs)))]) dX7_compared_146 (by decide) rfl ?_
                      refine P_iinc (v := nI (l + 1)) (ls2 := [some (.ref (r)), some (.int (nI (a))), some (.int (nI (d))), some (.int (nI (w))), some (.int (nI (mcmpK S a d w k + mcmpL S a d w k l + 0))), some (.int (nI (k))), some (.int (nI (l + 1))), some (.int (vb (bs)))]) dX7_compared_148 rfl (nI_inc _ 1) (by decide) rfl ?_
                      refine P_goto (tgt := 21) dX7_compared_151 (by decide) ?_
                      refine P_weak (ls2 := [some (.ref (r)), some (.int (nI (a))), some (.int (nI (d))), some (.int (nI (w))), some (.int (nI (mcmpK S a d w k + mcmpL S a d w k l + 0))), some (.int (nI (k))), some (.int (nI (l + 1))), none]) ⟨rfl, rfl, rfl, rfl, rfl, rfl, rfl, trivial⟩ ?_
                      rw [show mcmpK S a d w k + mcmpL S a d w k l + 0 = mcmpK S a d w k + mcmpL S a d w k (l + 1) by rw [mcmpL, if_neg (fun e => hno e), Nat.add_assoc]]
                      exact ih21 (l + 1) (by omega) (by omega)
                    · refine P_iconst (v := nI 1) dX7_compared_140 (by decide) ?_
                      refine P_goto (tgt := 145) dX7_compared_141 (by decide) ?_
                      have hw : w = 0 ∨ ¬ ((gH S a).getD k t0).2.2 = ((gH S d).getD l t0).2.2 := Or.inr c137
                      refine P_iaddN dX7_compared_145 ?_
                      refine P_istore (ls2 := [some (.ref (r)), some (.int (nI (a))), some (.int (nI (d))), some (.int (nI (w))), some (.int (nI (mcmpK S a d w k + mcmpL S a d w k l + 1))), some (.int (nI (k))), some (.int (nI (l))), some (.int (vb (bs)))]) dX7_compared_146 (by decide) rfl ?_
                      refine P_iinc (v := nI (l + 1)) (ls2 := [some (.ref (r)), some (.int (nI (a))), some (.int (nI (d))), some (.int (nI (w))), some (.int (nI (mcmpK S a d w k + mcmpL S a d w k l + 1))), some (.int (nI (k))), some (.int (nI (l + 1))), some (.int (vb (bs)))]) dX7_compared_148 rfl (nI_inc _ 1) (by decide) rfl ?_
                      refine P_goto (tgt := 21) dX7_compared_151 (by decide) ?_
                      refine P_weak (ls2 := [some (.ref (r)), some (.int (nI (a))), some (.int (nI (d))), some (.int (nI (w))), some (.int (nI (mcmpK S a d w k + mcmpL S a d w k l + 1))), some (.int (nI (k))), some (.int (nI (l + 1))), none]) ⟨rfl, rfl, rfl, rfl, rfl, rfl, rfl, trivial⟩ ?_
                      rw [show mcmpK S a d w k + mcmpL S a d w k l + 1 = mcmpK S a d w k + mcmpL S a d w k (l + 1) by rw [mcmpL, if_pos ⟨hbs.mp c102, hw⟩, Nat.add_assoc]]
                      exact ih21 (l + 1) (by omega) (by omega)
              refine P_aload_n dX7_compared_33 rfl rfl ?_
              refine P_iload_n dX7_compared_34 rfl rfl ?_
              refine P_bipush (v := nI 68) dX7_compared_35 (by decide) ?_
              refine P_iconst (v := nI 3) dX7_compared_37 (by decide) ?_
              refine P_iload dX7_compared_38 rfl ?_
              refine P_imulN dX7_compared_40 ?_
              refine P_iaddN dX7_compared_41 ?_
              refine P_cSp (rest := []) (As := [.ref (r), .int (nI (a)), .int (nI (68 + 3 * k))]) dX7_compared_42 lX7_44 yk_X7_of ys_X7_of (by decide) rfl rfl (Nat.le_of_ble_eq_true rfl) rfl (c_X7_of hr (by omega) (by omega)) ?_
              refine P_top (y := (nI (((gH S a).getD k t0).1))) (hR.s1 (by omega) (by omega)) ?_
              refine P_aload_n dX7_compared_45 rfl rfl ?_
              refine P_iload_n dX7_compared_46 rfl rfl ?_
              refine P_bipush (v := nI 68) dX7_compared_47 (by decide) ?_
              refine P_iconst (v := nI 3) dX7_compared_49 (by decide) ?_
              refine P_iload dX7_compared_50 rfl ?_
              refine P_imulN dX7_compared_52 ?_
              refine P_iaddN dX7_compared_53 ?_
              refine P_cSp (rest := [.int (nI (((gH S a).getD k t0).1))]) (As := [.ref (r), .int (nI (d)), .int (nI (68 + 3 * l))]) dX7_compared_54 lX7_44 yk_X7_of ys_X7_of (by decide) rfl rfl (Nat.le_of_ble_eq_true rfl) rfl (c_X7_of hr (by omega) (by omega)) ?_
              refine P_top (y := (nI (((gH S d).getD l t0).1))) (hR.s1 (by omega) (by omega)) ?_
              refine P_icmp_neN (tgt := 95) dX7_compared_57 (by decide) (by omega) (by omega) (fun c57 => ?_) (fun c57 => ?_)
              · refine P_iconst (v := nI 0) dX7_compared_95 (by decide) ?_
                exact hJ96 false ⟨fun q => (by cases q), fun q => absurd q (fun e => c57 e.1)⟩
              · refine P_aload_n dX7_compared_60 rfl rfl ?_
                refine P_iload_n dX7_compared_61 rfl rfl ?_
                refine P_bipush (v := nI 68) dX7_compared_62 (by decide) ?_
                refine P_iconst (v := nI 3) dX7_compared_64 (by decide) ?_
                refine P_iload dX7_compared_65 rfl ?_
                refine P_imulN dX7_compared_67 ?_
                refine P_iaddN dX7_compared_68 ?_
                refine P_iconst (v := nI 1) dX7_compared_69 (by decide) ?_
                refine P_iaddN dX7_compared_70 ?_
                refine P_cSp (rest := []) (As := [.ref (r), .int (nI (a)), .int (nI (68 + 3 * k + 1))]) dX7_compared_71 lX7_44 yk_X7_of ys_X7_of (by decide) rfl rfl (Nat.le_of_ble_eq_true rfl) rfl (c_X7_of hr (by omega) (by omega)) ?_
                refine P_top (y := (nI (((gH S a).getD k t0).2.1))) (hR.s2 (by omega) (by omega)) ?_
                refine P_aload_n dX7_compared_74 rfl rfl ?_
                refine P_iload_n dX7_compared_75 rfl rfl ?_
                refine P_bipush (v := nI 68) dX7_compared_76 (by decide) ?_
                refine P_iconst (v := nI 3) dX7_compared_78 (by decide) ?_
                refine P_iload dX7_compared_79 rfl ?_
                refine P_imulN dX7_compared_81 ?_
                refine P_iaddN dX7_compared_82 ?_
                refine P_iconst (v := nI 1) dX7_compared_83 (by decide) ?_
                refine P_iaddN dX7_compared_84 ?_
                refine P_cSp (rest := [.int (nI (((gH S a).getD k t0).2.1))]) (As := [.ref (r), .int (nI (d)), .int (nI (68 + 3 * l + 1))]) dX7_compared_85 lX7_44 yk_X7_of ys_X7_of (by decide) rfl rfl (Nat.le_of_ble_eq_true rfl) rfl (c_X7_of hr (by omega) (by omega)) ?_
                refine P_top (y := (nI (((gH S d).getD l t0).2.1))) (hR.s2 (by omega) (by omega)) ?_
                refine P_icmp_neN (tgt := 95) dX7_compared_88 (by decide) (by omega) (by omega) (fun c88 => ?_) (fun c88 => ?_)
                · refine P_iconst (v := nI 0) dX7_compared_95 (by decide) ?_
                  exact hJ96 false ⟨fun q => (by cases q), fun q => absurd q (fun e => c88 e.2)⟩
                · refine P_iconst (v := nI 1) dX7_compared_91 (by decide) ?_
                  refine P_goto (tgt := 96) dX7_compared_92 (by decide) ?_
                  exact hJ96 true ⟨fun _ => ⟨c57, c88⟩, fun _ => rfl⟩
        exact hL21 ((gH S d).length + 1) 0 (by omega) (by omega)
  exact hL6 ((gH S a).length + 1) 0 (by omega) (by omega)
