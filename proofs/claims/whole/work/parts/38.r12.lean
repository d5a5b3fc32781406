
/-! READING A TEXT: n signs t -/
abbrev mdg (t : mN) (n s : Nat) : Prop := s < n ∧ 48 ≤ t s ∧ t s ≤ 57
def mfig1 (t : mN) (n lo hi w s : Nat) : Option Nat × Nat :=
  if mdg t n s ∧ w + (t s - 48) ≤ hi ∧ lo ≤ w + (t s - 48) then (some (w + (t s - 48)), s + 1) else (none, s)
def mfig2 (t : mN) (n lo hi s : Nat) : Option Nat × Nat :=
  if mdg t n s ∧ (t s - 48) * 10 ≤ hi ∧ lo ≤ (t s - 48) * 10 + 9 then mfig1 t n lo hi ((t s - 48) * 10) (s + 1) else (none, s)
def mO (o : Option Nat) : Int32 := o.elim (-1) nI
/-- only one slot of one node is another -/
def vF (v v' : vV) (q k : Nat) : Prop := ∀ m j, (m ≠ q ∨ j ≠ k) → v' m j = v m j
theorem vF.rf {v : vV} {q k : Nat} : vF v v q k := fun _ _ _ => rfl
theorem vF.u {v v' : vV} {q k : Nat} {x : Int32} (h : vF v v' q k) : vF v (vU v' q k x) q k := fun m j e => (vU_o e).trans (h m j e)
theorem nI_nm1 {a : Nat} (h : a < 2147483648) : nI a ≠ -1 := fun e => by
  have := congrArg Int32.toInt e
  rw [nI_toInt h] at this
  have h2 : (-1 : Int32).toInt = -1 := by decide
  omega
theorem in09 {x : Int32} : ((0 : Int64) ≤ x.toInt64 ∧ x.toInt64 ≤ 9) ↔ (0 ≤ x.toInt ∧ x.toInt ≤ 9) := by
  rw [Int64.le_iff_toInt_le, Int64.le_iff_toInt_le, Int32.toInt_toInt64]
  exact Iff.rfl
theorem sub48 {a : Nat} (ha : a < 256) : (nI a - nI 48).toInt = (a : Int) - 48 := by
  have h : ∀ b, b < 256 → (nI b - nI 48).toInt = (b : Int) - 48 := by decide +kernel
  exact h a ha
theorem sub48n {a : Nat} (h : 48 ≤ a) : nI a - nI 48 = nI (a - 48) := nI_sub h
def mTX (v : vV) (q : Nat) (t : mN) (n : Nat) : Prop := n ≤ 120 ∧ v q 2 = nI n ∧ ∀ i, i < n → v (q + 1) i = nI (t i) ∧ t i < 256
theorem mTX.of {v v' : vV} {q n : Nat} {t : mN} (h : mTX v q t n) (e2 : v' q 2 = v q 2) (e1 : ∀ i, v' (q + 1) i = v (q + 1) i) : mTX v' q t n := ⟨h.1, e2.trans h.2.1, fun i hi => ⟨(e1 i).trans (h.2.2 i hi).1, (h.2.2 i hi).2⟩⟩
/-- a sign as a digit: it is one, or none that may stand -/
def mdx (t : mN) (n s : Nat) (x : Int32) : Prop := (mdg t n s ∧ x = nI (t s - 48)) ∨ (¬ mdg t n s ∧ ¬ (0 ≤ x.toInt ∧ x.toInt ≤ 9))
theorem mdx.sign {t : mN} {n s : Nat} (hs : s < n) (h : t s < 256) : mdx t n s (nI (t s) - nI 48) := by
  by_cases q : 48 ≤ t s ∧ t s ≤ 57
  · exact Or.inl ⟨⟨hs, q⟩, sub48n q.1⟩
  · refine Or.inr ⟨fun e => q e.2, ?_⟩
    rw [sub48 h]
    omega
theorem mdx.no {t : mN} {n s : Nat} (hs : n ≤ s) : mdx t n s (-1) := Or.inr ⟨fun e => by have := e.1; omega, by decide⟩
theorem mdx.yes {t : mN} {n s : Nat} {x : Int32} (h : mdx t n s x) (c : decide ((0 : Int64) ≤ x.toInt64 ∧ x.toInt64 ≤ 9) = true) : mdg t n s ∧ x = nI (t s - 48) := by
  rcases h with h | h
  · exact h
  · exact absurd (in09.mp (of_decide_eq_true c)) h.2
theorem mdx.nay {t : mN} {n s : Nat} {x : Int32} (h : mdx t n s x) (c : decide ((0 : Int64) ≤ x.toInt64 ∧ x.toInt64 ≤ 9) = false) : ¬ mdg t n s := by
  rcases h with h | h
  · intro e
    refine of_decide_eq_false c (in09.mpr ?_)
    rw [h.2, nI_toInt (by omega)]
    obtain ⟨_, e1, e2⟩ := e
    omega
  · exact h.1
set_option maxHeartbeats 4000000 in
set_option maxRecDepth 100000 in
theorem c_X7_figN {σ : vS} {v : vV} {q d9 lo hi : Nat} (hd9 : d9 < 2147483648) : vC M_X7_figures yX7_figures [.ref (q), .int ((-1)), .int (nI (d9)), .int (nI (lo)), .int (nI (hi))] (σ, v) (qP (σ, v) (.int (-1))) := by
  refine vC_of (ls := [some (.ref (q)), some (.int ((-1))), some (.int (nI (d9))), some (.int (nI (lo))), some (.int (nI (hi))), none, none, none, none]) pn_X7 rfl rfl (Nat.le_of_ble_eq_true rfl) rfl ?_
  refine P_iconst (v := nI 0) dX7_figures_0 (by decide) ?_
  refine P_istore (ls2 := [some (.ref (q)), some (.int ((-1))), some (.int (nI (d9))), some (.int (nI (lo))), some (.int (nI (hi))), some (.int (nI (0))), none, none, none]) dX7_figures_1 (by decide) rfl ?_
  refine P_iload_n dX7_figures_3 rfl rfl ?_
  refine P_iconst (v := nI 2) dX7_figures_4 (by decide) ?_
  refine P_icmp_neN (tgt := 13) dX7_figures_5 (by decide) (by omega) (by omega) (fun c5 => ?_) (fun c5 => ?_)
  · refine P_iconst (v := nI 1) dX7_figures_13 (by decide) ?_
    refine P_istore (ls2 := [some (.ref (q)), some (.int ((-1))), some (.int (nI (d9))), some (.int (nI (lo))), some (.int (nI (hi))), some (.int (nI (0))), some (.int (nI (1))), none, none]) dX7_figures_14 (by decide) rfl ?_
    refine P_iload dX7_figures_16 rfl ?_
    refine P_if_leN (tgt := 122) dX7_figures_18 (by decide) (by omega) (fun c18 => ?_) (fun c18 => ?_)
    · refine P_iload_n dX7_figures_122 rfl rfl ?_
      refine P_iconst (v := -1) dX7_figures_123 (by decide) ?_
      refine P_icmp_ne (tgt := 131) dX7_figures_124 (by decide) (fun c124 => ?_) (fun c124 => ?_)
      · exact absurd rfl c124
      · refine P_iconst (v := -1) dX7_figures_127 (by decide) ?_
        refine P_goto (tgt := 133) dX7_figures_128 (by decide) ?_
        refine P_iret dX7_figures_133 rfl ?_
        exact ⟨rfl, rfl⟩
    · refine P_iload_n dX7_figures_21 rfl rfl ?_
      refine P_iconst (v := -1) dX7_figures_22 (by decide) ?_
      refine P_icmp_eq (tgt := 122) dX7_figures_23 (by decide) (fun c23 => ?_) (fun c23 => ?_)
      · refine P_iload_n dX7_figures_122 rfl rfl ?_
        refine P_iconst (v := -1) dX7_figures_123 (by decide) ?_
        refine P_icmp_ne (tgt := 131) dX7_figures_124 (by decide) (fun c124 => ?_) (fun c124 => ?_)
        · exact absurd rfl c124
        · refine P_iconst (v := -1) dX7_figures_127 (by decide) ?_
          refine P_goto (tgt := 133) dX7_figures_128 (by decide) ?_
          refine P_iret dX7_figures_133 rfl ?_
          exact ⟨rfl, rfl⟩
      · exact absurd rfl c23
  · refine P_bipush (v := nI 10) dX7_figures_8 (by decide) ?_
    refine P_goto (tgt := 14) dX7_figures_10 (by decide) ?_
    refine P_istore (ls2 := [some (.ref (q)), some (.int ((-1))), some (.int (nI (d9))), some (.int (nI (lo))), some (.int (nI (hi))), some (.int (nI (0))), some (.int (nI (10))), none, none]) dX7_figures_14 (by decide) rfl ?_
    refine P_iload dX7_figures_16 rfl ?_
    refine P_if_leN (tgt := 122) dX7_figures_18 (by decide) (by omega) (fun c18 => ?_) (fun c18 => ?_)
    · refine P_iload_n dX7_figures_122 rfl rfl ?_
      refine P_iconst (v := -1) dX7_figures_123 (by decide) ?_
      refine P_icmp_ne (tgt := 131) dX7_figures_124 (by decide) (fun c124 => ?_) (fun c124 => ?_)
      · exact absurd rfl c124
      · refine P_iconst (v := -1) dX7_figures_127 (by decide) ?_
        refine P_goto (tgt := 133) dX7_figures_128 (by decide) ?_
        refine P_iret dX7_figures_133 rfl ?_
        exact ⟨rfl, rfl⟩
    · refine P_iload_n dX7_figures_21 rfl rfl ?_
      refine P_iconst (v := -1) dX7_figures_22 (by decide) ?_
      refine P_icmp_eq (tgt := 122) dX7_figures_23 (by decide) (fun c23 => ?_) (fun c23 => ?_)
      · refine P_iload_n dX7_figures_122 rfl rfl ?_
        refine P_iconst (v := -1) dX7_figures_123 (by decide) ?_
        refine P_icmp_ne (tgt := 131) dX7_figures_124 (by decide) (fun c124 => ?_) (fun c124 => ?_)
        · exact absurd rfl c124
        · refine P_iconst (v := -1) dX7_figures_127 (by decide) ?_
          refine P_goto (tgt := 133) dX7_figures_128 (by decide) ?_
          refine P_iret dX7_figures_133 rfl ?_
          exact ⟨rfl, rfl⟩
      · exact absurd rfl c23
set_option maxHeartbeats 4000000 in
set_option maxRecDepth 100000 in
theorem c_X7_fig1 {σ : vS} {v : vV} {q a9 lo hi n s : Nat} {t : mN} (hq : LR σ q) (htx : mTX v q t n) (hsp : v q 10 = nI s) (hs : s ≤ n) (ha : a9 < 2147483648) (hlo : lo < 1000) (hhi : hi < 1000) : vC M_X7_figures yX7_figures [.ref (q), .int (nI (a9)), .int (nI (1)), .int (nI (lo)), .int (nI (hi))] (σ, v) (qS σ (some (.int (mO (mfig1 t n lo hi 0 s).1))) (fun v9 => v9 q 10 = nI (mfig1 t n lo hi 0 s).2 ∧ vF v v9 q 10)) := by
  have hn9 := htx.1
  refine vC_of (ls := [some (.ref (q)), some (.int (nI (a9))), some (.int (nI (1))), some (.int (nI (lo))), some (.int (nI (hi))), none, none, none, none]) pn_X7 rfl rfl (Nat.le_of_ble_eq_true rfl) rfl ?_
  refine P_iconst (v := nI 0) dX7_figures_0 (by decide) ?_
  refine P_istore (ls2 := [some (.ref (q)), some (.int (nI (a9))), some (.int (nI (1))), some (.int (nI (lo))), some (.int (nI (hi))), some (.int (nI (0))), none, none, none]) dX7_figures_1 (by decide) rfl ?_
  refine P_iload_n dX7_figures_3 rfl rfl ?_
  refine P_iconst (v := nI 2) dX7_figures_4 (by decide) ?_
  refine P_icmp_neN (tgt := 13) dX7_figures_5 (by decide) (by omega) (by omega) (fun c5 => ?_) (fun c5 => ?_)
  · refine P_iconst (v := nI 1) dX7_figures_13 (by decide) ?_
    refine P_istore (ls2 := [some (.ref (q)), some (.int (nI (a9))), some (.int (nI (1))), some (.int (nI (lo))), some (.int (nI (hi))), some (.int (nI (0))), some (.int (nI (1))), none, none]) dX7_figures_14 (by decide) rfl ?_
    refine P_iload dX7_figures_16 rfl ?_
    refine P_if_leN (tgt := 122) dX7_figures_18 (by decide) (by omega) (fun c18 => ?_) (fun c18 => ?_)
    · exact absurd c18 (by decide)
    · refine P_iload_n dX7_figures_21 rfl rfl ?_
      refine P_iconst (v := -1) dX7_figures_22 (by decide) ?_
      refine P_icmp_eq (tgt := 122) dX7_figures_23 (by decide) (fun c23 => ?_) (fun c23 => ?_)
      · exact absurd c23 (nI_nm1 ha)
      · have hJ53 : ∀ (x : Int32), (mdx t n s x) → vP M_X7_figures 53 [some (.ref (q)), some (.int (nI (a9))), some (.int (nI (1))), some (.int (nI (lo))), some (.int (nI (hi))), some (.int (nI (0))), some (.int (nI (1))), none, none] [.int (x)] ((vRm M_X7_figures).cells, (vRm M_X7_figures).slots) (σ, v) (vN (qS σ (some (.int (mO (mfig1 t n lo hi 0 s).1))) (fun v9 => v9 q 10 = nI (mfig1 t n lo hi 0 s).2 ∧ vF v v9 q 10))) := by
          intro x hx
          refine P_istore (ls2 := [some (.ref (q)), some (.int (nI (a9))), some (.int (nI (1))), some (.int (nI (lo))), some (.int (nI (hi))), some (.int (nI (0))), some (.int (nI (1))), some (.int (x)), none]) dX7_figures_53 (by decide) rfl ?_
          refine P_iload dX7_figures_55 rfl ?_
          refine P_iload dX7_figures_57 rfl ?_
          refine P_iload dX7_figures_59 rfl ?_
          refine P_imul dX7_figures_61 ?_
          refine P_iadd dX7_figures_62 ?_
          refine P_istore (ls2 := [some (.ref (q)), some (.int (nI (a9))), some (.int (nI (1))), some (.int (nI (lo))), some (.int (nI (hi))), some (.int (nI (0))), some (.int (nI (1))), some (.int (x)), some (.int ((nI (0) + (x * nI (1)))))]) dX7_figures_63 (by decide) rfl ?_
          refine P_iload dX7_figures_65 rfl ?_
          refine P_i2l dX7_figures_67 ?_
          refine P_lconst (v := 0) dX7_figures_68 (by decide) ?_
          refine P_ldc2_w dX7_figures_69 cX7_136 ?_
          refine P_cSp (rest := []) (As := [.long ((x).toInt64), .long ((0)), .long ((9))]) dX7_figures_72 lX7_40 yk_X7_in ys_X7_in (by decide) rfl rfl (Nat.le_of_ble_eq_true rfl) rfl (c_X7_in _ _ _) ?_
          refine P_bif_eq (tgt := 96) dX7_figures_75 (by decide) (fun c75 => ?_) (fun c75 => ?_)
          · refine P_iconst (v := -1) dX7_figures_96 (by decide) ?_
            refine P_iret dX7_figures_97 rfl ?_
            have e : mfig1 t n lo hi 0 s = (none, s) := if_neg (fun z => hx.nay c75 z.1)
            rw [e]
            exact q_s (rfl) ⟨hsp, vF.rf⟩
          · obtain ⟨hdg, rfl⟩ := hx.yes c75
            obtain ⟨hd1, hd2, hd3⟩ := id hdg
            rw [nI_mul, nI_add]
            refine P_iload dX7_figures_78 rfl ?_
            refine P_iload dX7_figures_80 rfl ?_
            refine P_icmp_gtN (tgt := 96) dX7_figures_82 (by decide) (by omega) (by omega) (fun c82 => ?_) (fun c82 => ?_)
            · refine P_iconst (v := -1) dX7_figures_96 (by decide) ?_
              refine P_iret dX7_figures_97 rfl ?_
              have e : mfig1 t n lo hi 0 s = (none, s) := if_neg (fun z => by omega)
              rw [e]
              exact q_s (rfl) ⟨hsp, vF.rf⟩
            · refine P_iload dX7_figures_85 rfl ?_
              refine P_iload dX7_figures_87 rfl ?_
              refine P_iaddN dX7_figures_89 ?_
              refine P_iconst (v := nI 1) dX7_figures_90 (by decide) ?_
              refine P_isubN dX7_figures_91 (by omega) ?_
              refine P_iload_n dX7_figures_92 rfl rfl ?_
              refine P_icmp_geN (tgt := 98) dX7_figures_93 (by decide) (by omega) (by omega) (fun c93 => ?_) (fun c93 => ?_)
              · refine P_iload dX7_figures_98 rfl ?_
                refine P_istore (ls2 := [some (.ref (q)), some (.int (nI (a9))), some (.int (nI (1))), some (.int (nI (lo))), some (.int (nI (hi))), some (.int (nI (0 + (t s - 48) * 1))), some (.int (nI (1))), some (.int (nI (t s - 48))), some (.int (nI (0 + (t s - 48) * 1)))]) dX7_figures_100 (by decide) rfl ?_
                refine P_aload_n dX7_figures_102 rfl rfl ?_
                refine P_dup dX7_figures_103 rfl ?_
                refine P_getiN (x := nI (s)) dX7_figures_104 kX7 fX7_133 rfl (by decide) hq.o hsp ?_
                refine P_iconst (v := nI 1) dX7_figures_107 (by decide) ?_
                refine P_iaddN dX7_figures_108 ?_
                refine P_puti dX7_figures_109 kX7 fX7_133 rfl (by decide) rfl hq.o ?_
                refine P_iload dX7_figures_112 rfl ?_
                refine P_bipush (v := nI 10) dX7_figures_114 (by decide) ?_
                refine P_idivN dX7_figures_116 (by omega) (by decide) (by decide) ?_
                refine P_istore (ls2 := [some (.ref (q)), some (.int (nI (a9))), some (.int (nI (1))), some (.int (nI (lo))), some (.int (nI (hi))), some (.int (nI (0 + (t s - 48) * 1))), some (.int (nI (0))), some (.int (nI (t s - 48))), some (.int (nI (0 + (t s - 48) * 1)))]) dX7_figures_117 (by decide) rfl ?_
                refine P_goto (tgt := 16) dX7_figures_119 (by decide) ?_
                refine P_iload dX7_figures_16 rfl ?_
                refine P_if_leN (tgt := 122) dX7_figures_18 (by decide) (by omega) (fun c18 => ?_) (fun c18 => ?_)
                · refine P_iload_n dX7_figures_122 rfl rfl ?_
                  refine P_iconst (v := -1) dX7_figures_123 (by decide) ?_
                  refine P_icmp_ne (tgt := 131) dX7_figures_124 (by decide) (fun c124 => ?_) (fun c124 => ?_)
                  · refine P_iload dX7_figures_131 rfl ?_
                    refine P_iret dX7_figures_133 rfl ?_
                    have e : mfig1 t n lo hi 0 s = (some (0 + (t s - 48)), s + 1) := if_pos ⟨hdg, by omega, by omega⟩
                    rw [e]
                    exact q_s (congrArg (fun z => some (Value.int (nI z))) (by omega)) ⟨vU_s, vF.u vF.rf⟩
                  · exact absurd c124 (nI_nm1 ha)
                · exact absurd rfl c18
              · refine P_iconst (v := -1) dX7_figures_96 (by decide) ?_
                refine P_iret dX7_figures_97 rfl ?_
                have e : mfig1 t n lo hi 0 s = (none, s) := if_neg (fun z => by omega)
                rw [e]
                exact q_s (rfl) ⟨hsp, vF.rf⟩
        refine P_aload_n dX7_figures_26 rfl rfl ?_
        refine P_getiN (x := nI (s)) dX7_figures_27 kX7 fX7_133 rfl (by decide) hq.o hsp ?_
        refine P_aload_n dX7_figures_30 rfl rfl ?_
        refine P_getiN (x := nI (n)) dX7_figures_31 kX7 fX7_126 rfl (by decide) hq.o (by (repeat rw [vU_o (by omega)]); exact htx.2.1) ?_
        refine P_icmp_geN (tgt := 52) dX7_figures_34 (by decide) (by first | omega | (have := htx.1; omega)) (by first | omega | (have := htx.1; omega)) (fun c34 => ?_) (fun c34 => ?_)
        · refine P_iconst (v := -1) dX7_figures_52 (by decide) ?_
          exact hJ53 _ (mdx.no (by omega))
        · refine P_aload_n dX7_figures_37 rfl rfl ?_
          refine P_getr (t := q + 1) dX7_figures_38 kX7 fX7_7 rfl (by decide) hq.o hq.r1 hq.k1.1.2 ?_
          refine P_aload_n dX7_figures_41 rfl rfl ?_
          refine P_getiN (x := nI (s)) dX7_figures_42 kX7 fX7_133 rfl (by decide) hq.o hsp ?_
          refine P_ialdN (x := nI (t s)) (s) dX7_figures_45 hq.k1 rfl (by have := htx.1; omega) (by decide) (by (repeat rw [vU_ne (by omega)]); exact (htx.2.2 _ (by omega)).1) ?_
          refine P_bipush (v := nI 48) dX7_figures_46 (by decide) ?_
          refine P_isub dX7_figures_48 ?_
          refine P_goto (tgt := 53) dX7_figures_49 (by decide) ?_
          exact hJ53 _ (mdx.sign (by omega) (htx.2.2 _ (by omega)).2)
  · exact absurd c5 (by decide)
set_option maxHeartbeats 4000000 in
set_option maxRecDepth 100000 in
theorem c_X7_fig2 {σ : vS} {v : vV} {q a9 lo hi n s : Nat} {t : mN} (hq : LR σ q) (htx : mTX v q t n) (hsp : v q 10 = nI s) (hs : s ≤ n) (ha : a9 < 2147483648) (hlo : lo < 1000) (hhi : hi < 1000) : vC M_X7_figures yX7_figures [.ref (q), .int (nI (a9)), .int (nI (2)), .int (nI (lo)), .int (nI (hi))] (σ, v) (qS σ (some (.int (mO (mfig2 t n lo hi s).1))) (fun v9 => v9 q 10 = nI (mfig2 t n lo hi s).2 ∧ vF v v9 q 10)) := by
  have hn9 := htx.1
  refine vC_of (ls := [some (.ref (q)), some (.int (nI (a9))), some (.int (nI (2))), some (.int (nI (lo))), some (.int (nI (hi))), none, none, none, none]) pn_X7 rfl rfl (Nat.le_of_ble_eq_true rfl) rfl ?_
  refine P_iconst (v := nI 0) dX7_figures_0 (by decide) ?_
  refine P_istore (ls2 := [some (.ref (q)), some (.int (nI (a9))), some (.int (nI (2))), some (.int (nI (lo))), some (.int (nI (hi))), some (.int (nI (0))), none, none, none]) dX7_figures_1 (by decide) rfl ?_
  refine P_iload_n dX7_figures_3 rfl rfl ?_
  refine P_iconst (v := nI 2) dX7_figures_4 (by decide) ?_
  refine P_icmp_neN (tgt := 13) dX7_figures_5 (by decide) (by omega) (by omega) (fun c5 => ?_) (fun c5 => ?_)
  · exact absurd rfl c5
  · refine P_bipush (v := nI 10) dX7_figures_8 (by decide) ?_
    refine P_goto (tgt := 14) dX7_figures_10 (by decide) ?_
    refine P_istore (ls2 := [some (.ref (q)), some (.int (nI (a9))), some (.int (nI (2))), some (.int (nI (lo))), some (.int (nI (hi))), some (.int (nI (0))), some (.int (nI (10))), none, none]) dX7_figures_14 (by decide) rfl ?_
    refine P_iload dX7_figures_16 rfl ?_
    refine P_if_leN (tgt := 122) dX7_figures_18 (by decide) (by omega) (fun c18 => ?_) (fun c18 => ?_)
    · exact absurd c18 (by decide)
    · refine P_iload_n dX7_figures_21 rfl rfl ?_
      refine P_iconst (v := -1) dX7_figures_22 (by decide) ?_
      refine P_icmp_eq (tgt := 122) dX7_figures_23 (by decide) (fun c23 => ?_) (fun c23 => ?_)
      · exact absurd c23 (nI_nm1 ha)
      · have hJ53 : ∀ (x : Int32), (mdx t n s x) → vP M_X7_figures 53 [some (.ref (q)), some (.int (nI (a9))), some (.int (nI (2))), some (.int (nI (lo))), some (.int (nI (hi))), some (.int (nI (0))), some (.int (nI (10))), none, none] [.int (x)] ((vRm M_X7_figures).cells, (vRm M_X7_figures).slots) (σ, v) (vN (qS σ (some (.int (mO (mfig2 t n lo hi s).1))) (fun v9 => v9 q 10 = nI (mfig2 t n lo hi s).2 ∧ vF v v9 q 10))) := by
          intro x hx
          refine P_istore (ls2 := [some (.ref (q)), some (.int (nI (a9))), some (.int (nI (2))), some (.int (nI (lo))), some (.int (nI (hi))), some (.int (nI (0))), some (.int (nI (10))), some (.int (x)), none]) dX7_figures_53 (by decide) rfl ?_
          refine P_iload dX7_figures_55 rfl ?_
          refine P_iload dX7_figures_57 rfl ?_
          refine P_iload dX7_figures_59 rfl ?_
          refine P_imul dX7_figures_61 ?_
          refine P_iadd dX7_figures_62 ?_
          refine P_istore (ls2 := [some (.ref (q)), some (.int (nI (a9))), some (.int (nI (2))), some (.int (nI (lo))), some (.int (nI (hi))), some (.int (nI (0))), some (.int (nI (10))), some (.int (x)), some (.int ((nI (0) + (x * nI (10)))))]) dX7_figures_63 (by decide) rfl ?_
          refine P_iload dX7_figures_65 rfl ?_
          refine P_i2l dX7_figures_67 ?_
          refine P_lconst (v := 0) dX7_figures_68 (by decide) ?_
          refine P_ldc2_w dX7_figures_69 cX7_136 ?_
          refine P_cSp (rest := []) (As := [.long ((x).toInt64), .long ((0)), .long ((9))]) dX7_figures_72 lX7_40 yk_X7_in ys_X7_in (by decide) rfl rfl (Nat.le_of_ble_eq_true rfl) rfl (c_X7_in _ _ _) ?_
          refine P_bif_eq (tgt := 96) dX7_figures_75 (by decide) (fun c75 => ?_) (fun c75 => ?_)
          · refine P_iconst (v := -1) dX7_figures_96 (by decide) ?_
            refine P_iret dX7_figures_97 rfl ?_
            have e : mfig2 t n lo hi s = (none, s) := if_neg (fun z => hx.nay c75 z.1)
            rw [e]
            exact q_s (rfl) ⟨hsp, vF.rf⟩
          · obtain ⟨hdg, rfl⟩ := hx.yes c75
            obtain ⟨hd1, hd2, hd3⟩ := id hdg
            rw [nI_mul, nI_add]
            refine P_iload dX7_figures_78 rfl ?_
            refine P_iload dX7_figures_80 rfl ?_
            refine P_icmp_gtN (tgt := 96) dX7_figures_82 (by decide) (by omega) (by omega) (fun c82 => ?_) (fun c82 => ?_)
            · refine P_iconst (v := -1) dX7_figures_96 (by decide) ?_
              refine P_iret dX7_figures_97 rfl ?_
              have e : mfig2 t n lo hi s = (none, s) := if_neg (fun z => by omega)
              rw [e]
              exact q_s (rfl) ⟨hsp, vF.rf⟩
            · refine P_iload dX7_figures_85 rfl ?_
              refine P_iload dX7_figures_87 rfl ?_
              refine P_iaddN dX7_figures_89 ?_
              refine P_iconst (v := nI 1) dX7_figures_90 (by decide) ?_
              refine P_isubN dX7_figures_91 (by omega) ?_
              refine P_iload_n dX7_figures_92 rfl rfl ?_
              refine P_icmp_geN (tgt := 98) dX7_figures_93 (by decide) (by omega) (by omega) (fun c93 => ?_) (fun c93 => ?_)
              · have hOne : mdg t n s ∧ (t s - 48) * 10 ≤ hi ∧ lo ≤ (t s - 48) * 10 + 9 := ⟨hdg, by omega, by omega⟩
                refine P_iload dX7_figures_98 rfl ?_
                refine P_istore (ls2 := [some (.ref (q)), some (.int (nI (a9))), some (.int (nI (2))), some (.int (nI (lo))), some (.int (nI (hi))), some (.int (nI (0 + (t s - 48) * 10))), some (.int (nI (10))), some (.int (nI (t s - 48))), some (.int (nI (0 + (t s - 48) * 10)))]) dX7_figures_100 (by decide) rfl ?_
                refine P_aload_n dX7_figures_102 rfl rfl ?_
                refine P_dup dX7_figures_103 rfl ?_
                refine P_getiN (x := nI (s)) dX7_figures_104 kX7 fX7_133 rfl (by decide) hq.o hsp ?_
                refine P_iconst (v := nI 1) dX7_figures_107 (by decide) ?_
                refine P_iaddN dX7_figures_108 ?_
                refine P_puti dX7_figures_109 kX7 fX7_133 rfl (by decide) rfl hq.o ?_
                refine P_iload dX7_figures_112 rfl ?_
                refine P_bipush (v := nI 10) dX7_figures_114 (by decide) ?_
                refine P_idivN dX7_figures_116 (by omega) (by decide) (by decide) ?_
                refine P_istore (ls2 := [some (.ref (q)), some (.int (nI (a9))), some (.int (nI (2))), some (.int (nI (lo))), some (.int (nI (hi))), some (.int (nI (0 + (t s - 48) * 10))), some (.int (nI (1))), some (.int (nI (t s - 48))), some (.int (nI (0 + (t s - 48) * 10)))]) dX7_figures_117 (by decide) rfl ?_
                refine P_goto (tgt := 16) dX7_figures_119 (by decide) ?_
                refine P_iload dX7_figures_16 rfl ?_
                refine P_if_leN (tgt := 122) dX7_figures_18 (by decide) (by omega) (fun c18 => ?_) (fun c18 => ?_)
                · exact absurd c18 (by decide)
                · refine P_iload_n dX7_figures_21 rfl rfl ?_
                  refine P_iconst (v := -1) dX7_figures_22 (by decide) ?_
                  refine P_icmp_eq (tgt := 122) dX7_figures_23 (by decide) (fun c23 => ?_) (fun c23 => ?_)
                  · exact absurd c23 (nI_nm1 ha)
                  · have hJ53 : ∀ (x : Int32), (mdx t n (s + 1) x) → vP M_X7_figures 53 [some (.ref (q)), some (.int (nI (a9))), some (.int (nI (2))), some (.int (nI (lo))), some (.int (nI (hi))), some (.int (nI (0 + (t s - 48) * 10))), some (.int (nI (1))), some (.int (nI (t s - 48))), some (.int (nI (0 + (t s - 48) * 10)))] [.int (x)] ((vRm M_X7_figures).cells, (vRm M_X7_figures).slots) (σ, (vU v q 10 (nI (s + 1)))) (vN (qS σ (some (.int (mO (mfig2 t n lo hi s).1))) (fun v9 => v9 q 10 = nI (mfig2 t n lo hi s).2 ∧ vF v v9 q 10))) := by
                      intro x hx
                      refine P_istore (ls2 := [some (.ref (q)), some (.int (nI (a9))), some (.int (nI (2))), some (.int (nI (lo))), some (.int (nI (hi))), some (.int (nI (0 + (t s - 48) * 10))), some (.int (nI (1))), some (.int (x)), some (.int (nI (0 + (t s - 48) * 10)))]) dX7_figures_53 (by decide) rfl ?_
                      refine P_iload dX7_figures_55 rfl ?_
                      refine P_iload dX7_figures_57 rfl ?_
                      refine P_iload dX7_figures_59 rfl ?_
                      refine P_imul dX7_figures_61 ?_
                      refine P_iadd dX7_figures_62 ?_
                      refine P_istore (ls2 := [some (.ref (q)), some (.int (nI (a9))), some (.int (nI (2))), some (.int (nI (lo))), some (.int (nI (hi))), some (.int (nI (0 + (t s - 48) * 10))), some (.int (nI (1))), some (.int (x)), some (.int ((nI (0 + (t s - 48) * 10) + (x * nI (1)))))]) dX7_figures_63 (by decide) rfl ?_
                      refine P_iload dX7_figures_65 rfl ?_
                      refine P_i2l dX7_figures_67 ?_
                      refine P_lconst (v := 0) dX7_figures_68 (by decide) ?_
                      refine P_ldc2_w dX7_figures_69 cX7_136 ?_
                      refine P_cSp (rest := []) (As := [.long ((x).toInt64), .long ((0)), .long ((9))]) dX7_figures_72 lX7_40 yk_X7_in ys_X7_in (by decide) rfl rfl (Nat.le_of_ble_eq_true rfl) rfl (c_X7_in _ _ _) ?_
                      refine P_bif_eq (tgt := 96) dX7_figures_75 (by decide) (fun c75 => ?_) (fun c75 => ?_)
                      · refine P_iconst (v := -1) dX7_figures_96 (by decide) ?_
                        refine P_iret dX7_figures_97 rfl ?_
                        have e : mfig2 t n lo hi s = (none, s + 1) := by
                          unfold mfig2
                          rw [if_pos hOne]
                          exact if_neg (fun z => hx.nay c75 z.1)
                        rw [e]
                        exact q_s (rfl) ⟨vU_s, vF.u vF.rf⟩
                      · obtain ⟨hdg, rfl⟩ := hx.yes c75
                        obtain ⟨hd1, hd2, hd3⟩ := id hdg
                        rw [nI_mul, nI_add]
                        refine P_iload dX7_figures_78 rfl ?_
                        refine P_iload dX7_figures_80 rfl ?_
                        refine P_icmp_gtN (tgt := 96) dX7_figures_82 (by decide) (by omega) (by omega) (fun c82 => ?_) (fun c82 => ?_)
                        · refine P_iconst (v := -1) dX7_figures_96 (by decide) ?_
                          refine P_iret dX7_figures_97 rfl ?_
                          have e : mfig2 t n lo hi s = (none, s + 1) := by
                            unfold mfig2
                            rw [if_pos hOne]
                            exact if_neg (fun z => by omega)
                          rw [e]
                          exact q_s (rfl) ⟨vU_s, vF.u vF.rf⟩
                        · refine P_iload dX7_figures_85 rfl ?_
                          refine P_iload dX7_figures_87 rfl ?_
                          refine P_iaddN dX7_figures_89 ?_
                          refine P_iconst (v := nI 1) dX7_figures_90 (by decide) ?_
                          refine P_isubN dX7_figures_91 (by omega) ?_
                          refine P_iload_n dX7_figures_92 rfl rfl ?_
                          refine P_icmp_geN (tgt := 98) dX7_figures_93 (by decide) (by omega) (by omega) (fun c93 => ?_) (fun c93 => ?_)
                          · refine P_iload dX7_figures_98 rfl ?_
                            refine P_istore (ls2 := [some (.ref (q)), some (.int (nI (a9))), some (.int (nI (2))), some (.int (nI (lo))), some (.int (nI (hi))), some (.int (nI ((0 + (t s - 48) * 10) + (t (s + 1) - 48) * 1))), some (.int (nI (1))), some (.int (nI (t (s + 1) - 48))), some (.int (nI ((0 + (t s - 48) * 10) + (t (s + 1) - 48) * 1)))]) dX7_figures_100 (by decide) rfl ?_
                            refine P_aload_n dX7_figures_102 rfl rfl ?_
                            refine P_dup dX7_figures_103 rfl ?_
                            refine P_getiN (x := nI (s + 1)) dX7_figures_104 kX7 fX7_133 rfl (by decide) hq.o vU_s ?_
                            refine P_iconst (v := nI 1) dX7_figures_107 (by decide) ?_
                            refine P_iaddN dX7_figures_108 ?_
                            refine P_puti dX7_figures_109 kX7 fX7_133 rfl (by decide) rfl hq.o ?_
                            refine P_iload dX7_figures_112 rfl ?_
                            refine P_bipush (v := nI 10) dX7_figures_114 (by decide) ?_
                            refine P_idivN dX7_figures_116 (by omega) (by decide) (by decide) ?_
                            refine P_istore (ls2 := [some (.ref (q)), some (.int (nI (a9))), some (.int (nI (2))), some (.int (nI (lo))), some (.int (nI (hi))), some (.int (nI ((0 + (t s - 48) * 10) + (t (s + 1) - 48) * 1))), some (.int (nI (0))), some (.int (nI (t (s + 1) - 48))), some (.int (nI ((0 + (t s - 48) * 10) + (t (s + 1) - 48) * 1)))]) dX7_figures_117 (by decide) rfl ?_
                            refine P_goto (tgt := 16) dX7_figures_119 (by decide) ?_
                            refine P_iload dX7_figures_16 rfl ?_
                            refine P_if_leN (tgt := 122) dX7_figures_18 (by decide) (by omega) (fun c18 => ?_) (fun c18 => ?_)
                            · refine P_iload_n dX7_figures_122 rfl rfl ?_
                              refine P_iconst (v := -1) dX7_figures_123 (by decide) ?_
                              refine P_icmp_ne (tgt := 131) dX7_figures_124 (by decide) (fun c124 => ?_) (fun c124 => ?_)
                              · refine P_iload dX7_figures_131 rfl ?_
                                refine P_iret dX7_figures_133 rfl ?_
                                have e : mfig2 t n lo hi s = (some ((t s - 48) * 10 + (t (s + 1) - 48)), s + 2) := by
                                  unfold mfig2
                                  rw [if_pos hOne]
                                  exact if_pos ⟨hdg, by omega, by omega⟩
                                rw [e]
                                exact q_s (congrArg (fun z => some (Value.int (nI z))) (by omega)) ⟨vU_s, vF.u (vF.u vF.rf)⟩
                              · exact absurd c124 (nI_nm1 ha)
                            · exact absurd rfl c18
                          · refine P_iconst (v := -1) dX7_figures_96 (by decide) ?_
                            refine P_iret dX7_figures_97 rfl ?_
                            have e : mfig2 t n lo hi s = (none, s + 1) := by
                              unfold mfig2
                              rw [if_pos hOne]
                              exact if_neg (fun z => by omega)
                            rw [e]
                            exact q_s (rfl) ⟨vU_s, vF.u vF.rf⟩
                    refine P_aload_n dX7_figures_26 rfl rfl ?_
                    refine P_getiN (x := nI (s + 1)) dX7_figures_27 kX7 fX7_133 rfl (by decide) hq.o vU_s ?_
                    refine P_aload_n dX7_figures_30 rfl rfl ?_
                    refine P_getiN (x := nI (n)) dX7_figures_31 kX7 fX7_126 rfl (by decide) hq.o (by (repeat rw [vU_o (by omega)]); exact htx.2.1) ?_
                    refine P_icmp_geN (tgt := 52) dX7_figures_34 (by decide) (by first | omega | (have := htx.1; omega)) (by first | omega | (have := htx.1; omega)) (fun c34 => ?_) (fun c34 => ?_)
                    · refine P_iconst (v := -1) dX7_figures_52 (by decide) ?_
                      exact hJ53 _ (mdx.no (by omega))
                    · refine P_aload_n dX7_figures_37 rfl rfl ?_
                      refine P_getr (t := q + 1) dX7_figures_38 kX7 fX7_7 rfl (by decide) hq.o hq.r1 hq.k1.1.2 ?_
                      refine P_aload_n dX7_figures_41 rfl rfl ?_
                      refine P_getiN (x := nI (s + 1)) dX7_figures_42 kX7 fX7_133 rfl (by decide) hq.o vU_s ?_
                      refine P_ialdN (x := nI (t (s + 1))) (s + 1) dX7_figures_45 hq.k1 rfl (by have := htx.1; omega) (by decide) (by (repeat rw [vU_ne (by omega)]); exact (htx.2.2 _ (by omega)).1) ?_
                      refine P_bipush (v := nI 48) dX7_figures_46 (by decide) ?_
                      refine P_isub dX7_figures_48 ?_
                      refine P_goto (tgt := 53) dX7_figures_49 (by decide) ?_
                      exact hJ53 _ (mdx.sign (by omega) (htx.2.2 _ (by omega)).2)
              · refine P_iconst (v := -1) dX7_figures_96 (by decide) ?_
                refine P_iret dX7_figures_97 rfl ?_
                have e : mfig2 t n lo hi s = (none, s) := if_neg (fun z => by omega)
                rw [e]
                exact q_s (rfl) ⟨hsp, vF.rf⟩
        refine P_aload_n dX7_figures_26 rfl rfl ?_
        refine P_getiN (x := nI (s)) dX7_figures_27 kX7 fX7_133 rfl (by decide) hq.o hsp ?_
        refine P_aload_n dX7_figures_30 rfl rfl ?_
        refine P_getiN (x := nI (n)) dX7_figures_31 kX7 fX7_126 rfl (by decide) hq.o (by (repeat rw [vU_o (by omega)]); exact htx.2.1) ?_
        refine P_icmp_geN (tgt := 52) dX7_figures_34 (by decide) (by first | omega | (have := htx.1; omega)) (by first | omega | (have := htx.1; omega)) (fun c34 => ?_) (fun c34 => ?_)
        · refine P_iconst (v := -1) dX7_figures_52 (by decide) ?_
          exact hJ53 _ (mdx.no (by omega))
        · refine P_aload_n dX7_figures_37 rfl rfl ?_
          refine P_getr (t := q + 1) dX7_figures_38 kX7 fX7_7 rfl (by decide) hq.o hq.r1 hq.k1.1.2 ?_
          refine P_aload_n dX7_figures_41 rfl rfl ?_
          refine P_getiN (x := nI (s)) dX7_figures_42 kX7 fX7_133 rfl (by decide) hq.o hsp ?_
          refine P_ialdN (x := nI (t s)) (s) dX7_figures_45 hq.k1 rfl (by have := htx.1; omega) (by decide) (by (repeat rw [vU_ne (by omega)]); exact (htx.2.2 _ (by omega)).1) ?_
          refine P_bipush (v := nI 48) dX7_figures_46 (by decide) ?_
          refine P_isub dX7_figures_48 ?_
          refine P_goto (tgt := 53) dX7_figures_49 (by decide) ?_
          exact hJ53 _ (mdx.sign (by omega) (htx.2.2 _ (by omega)).2)
