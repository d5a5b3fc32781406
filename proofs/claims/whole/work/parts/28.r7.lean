
def cP (c : Nat) (v : vV) (r q : Nat) (S : mS) : vV → Prop := fun v9 => RR c v9 r S ∧ vO2 v v9 r (q + 7)
set_option maxHeartbeats 4000000 in
set_option maxRecDepth 100000 in
theorem c_X7_speech {σ : vS} {v : vV} {c r : Nat} {S : mS} {x : mN} {m q B : Nat} (hq : LR σ q) (hr : vK σ r 8 2012) (hR : RR c v r S) (hrq : r ≠ q + 7) (hN : NB c S B) (hB : B + 300 < 1000000000) (hx : ∀ j, j < 10 → v (q + 7) j = nI (x j)) (hxm : x 2 = m) (hxN : okN c B x) (h0 : x 0 = 0) : vC M_X7_speech yX7_speech [.ref (q), .ref (r)] (σ, v) (qS σ none (rP c v r (mspeech S x))) := by
  have hc6 := hR.c6
  have hO : vO9 v v r := vO9.rf
  obtain ⟨q0, q1, q2, q3, q4, q5, q6, q7, q8, q9, q10⟩ := hxN
  rw [hxm] at q2
  refine vC_of (ls := [some (.ref (q)), some (.ref (r)), none, none, none, none]) pn_X7 rfl rfl (Nat.le_of_ble_eq_true rfl) rfl ?_
  refine P_aload_n dX7_speech_0 rfl rfl ?_
  refine P_getr (t := q + 7) dX7_speech_1 kX7 fX7_29 rfl (by decide) hq.o hq.r7 hq.k7.1.2 ?_
  refine P_iconst (v := nI 2) dX7_speech_4 (by decide) ?_
  refine P_ialdN (x := nI (m)) (2) dX7_speech_5 hq.k7 rfl (by omega) (by decide) (by rw [hO (q + 7) (fun e => hrq e.symm)]; rw [hx 2 (by decide), hxm]) ?_
  refine P_istore_n (ls2 := [some (.ref (q)), some (.ref (r)), some (.int (nI (m))), none, none, none]) dX7_speech_6 rfl (by decide) rfl ?_
  refine P_bipush (v := nI 14) dX7_speech_7 (by decide) ?_
  refine P_bipush (v := nI 83) dX7_speech_9 (by decide) ?_
  refine P_iload_n dX7_speech_11 rfl rfl ?_
  refine P_imulN dX7_speech_12 ?_
  refine P_iaddN dX7_speech_13 ?_
  refine P_istore_n (ls2 := [some (.ref (q)), some (.ref (r)), some (.int (nI (m))), some (.int (nI (14 + 83 * m))), none, none]) dX7_speech_14 rfl (by decide) rfl ?_
  have hJ48 : ∀ (bl : Bool), (bl = true ↔ (gM S m 2 = x 4 ∧ gM S m 3 = x 5)) → vP M_X7_speech 48 [some (.ref (q)), some (.ref (r)), some (.int (nI (m))), some (.int (nI (14 + 83 * m))), none, none] [.int (vb (bl))] ((vRm M_X7_speech).cells, (vRm M_X7_speech).slots) (σ, v) (vN (qS σ none (rP c v r (mspeech S x)))) := by
    intro bl hbl
    refine P_istore (ls2 := [some (.ref (q)), some (.ref (r)), some (.int (nI (m))), some (.int (nI (14 + 83 * m))), some (.int (vb (bl))), none]) dX7_speech_48 (by decide) rfl ?_
    have hJ83 : (¬ ((gM S m 2 = x 4 ∧ gM S m 3 = x 5) ∧ gM S m 1 = 0)) → vP M_X7_speech 83 [some (.ref (q)), some (.ref (r)), some (.int (nI (m))), some (.int (nI (14 + 83 * m))), some (.int (vb (bl))), none] [] ((vRm M_X7_speech).cells, (vRm M_X7_speech).slots) (σ, v) (vN (qS σ none (rP c v r (mspeech S x)))) := by
      intro  hno
      refine P_aload_n dX7_speech_83 rfl rfl ?_
      refine P_getr (t := q + 7) dX7_speech_84 kX7 fX7_29 rfl (by decide) hq.o hq.r7 hq.k7.1.2 ?_
      refine P_iconst (v := nI 4) dX7_speech_87 (by decide) ?_
      refine P_ialdN (x := nI (x 4)) (4) dX7_speech_88 hq.k7 rfl (by omega) (by decide) (by rw [hO (q + 7) (fun e => hrq e.symm)]; exact hx 4 (by decide)) ?_
      refine P_aload_n dX7_speech_89 rfl rfl ?_
      refine P_iload_n dX7_speech_90 rfl rfl ?_
      refine P_iconst (v := nI 2) dX7_speech_91 (by decide) ?_
      refine P_iaddN dX7_speech_92 ?_
      refine P_ialdN (x := nI (gM S m 2)) (14 + 83 * m + 2) dX7_speech_93 hr rfl (by omega) (by decide) (hR.m (by omega) (by decide)) ?_
      refine P_icmp_leN (tgt := 171) dX7_speech_94 (by decide) (by omega) (by have := hN.m2 m; omega) (fun c94 => ?_) (fun c94 => ?_)
      · refine P_aload_n dX7_speech_171 rfl rfl ?_
        refine P_iconst (v := nI 5) dX7_speech_172 (by decide) ?_
        refine P_dup2 dX7_speech_173 rfl rfl ?_
        refine P_ialdN (x := nI (gG S 5)) (5) dX7_speech_174 hr rfl (by omega) (by decide) (hR.g (by decide) (by decide)) ?_
        refine P_iconst (v := nI 1) dX7_speech_175 (by decide) ?_
        refine P_iaddN dX7_speech_176 ?_
        refine P_iast (5) dX7_speech_177 hr rfl (by omega) (by decide) ?_
        have hR1 : RR c (vU v r (5) (nI (gG S 5 + 1))) r (sG S 5 (gG S 5 + 1)) := (hR.G (x := gG S 5 + 1) (by decide) (by decide) (by decide))
        have hO2 : vO9 v (vU v r (5) (nI (gG S 5 + 1))) r := hO.u
        generalize vU v r (5) (nI (gG S 5 + 1)) = v3 at hR1 hO2 ⊢
        refine P_vret dX7_speech_178 rfl ?_
        refine q_s rfl ⟨?_, hO2⟩
        unfold mspeech
        rw [hxm, if_neg hno, if_neg (by omega)]
        exact hR1
      · refine P_aload_n dX7_speech_97 rfl rfl ?_
        refine P_iload_n dX7_speech_98 rfl rfl ?_
        refine P_bipush (v := nI 30) dX7_speech_99 (by decide) ?_
        refine P_iaddN dX7_speech_101 ?_
        refine P_ialdN (x := nI ((gK S m).length)) (14 + 83 * m + 30) dX7_speech_102 hr rfl (by omega) (by decide) (hR.kl (by omega)) ?_
        refine P_bipush (v := nI 12) dX7_speech_103 (by decide) ?_
        refine P_icmp_geN (tgt := 171) dX7_speech_105 (by decide) (by have := hR.b.1 m; omega) (by have := hR.b.1 m; omega) (fun c105 => ?_) (fun c105 => ?_)
        · refine P_aload_n dX7_speech_171 rfl rfl ?_
          refine P_iconst (v := nI 5) dX7_speech_172 (by decide) ?_
          refine P_dup2 dX7_speech_173 rfl rfl ?_
          refine P_ialdN (x := nI (gG S 5)) (5) dX7_speech_174 hr rfl (by omega) (by decide) (hR.g (by decide) (by decide)) ?_
          refine P_iconst (v := nI 1) dX7_speech_175 (by decide) ?_
          refine P_iaddN dX7_speech_176 ?_
          refine P_iast (5) dX7_speech_177 hr rfl (by omega) (by decide) ?_
          have hR4 : RR c (vU v r (5) (nI (gG S 5 + 1))) r (sG S 5 (gG S 5 + 1)) := (hR.G (x := gG S 5 + 1) (by decide) (by decide) (by decide))
          have hO5 : vO9 v (vU v r (5) (nI (gG S 5 + 1))) r := hO.u
          generalize vU v r (5) (nI (gG S 5 + 1)) = v6 at hR4 hO5 ⊢
          refine P_vret dX7_speech_178 rfl ?_
          refine q_s rfl ⟨?_, hO5⟩
          unfold mspeech
          rw [hxm, if_neg hno, if_neg (by omega)]
          exact hR4
        · have hk12 := hR.b.1 m
          refine P_iload_n dX7_speech_108 rfl rfl ?_
          refine P_bipush (v := nI 31) dX7_speech_109 (by decide) ?_
          refine P_iaddN dX7_speech_111 ?_
          refine P_iconst (v := nI 3) dX7_speech_112 (by decide) ?_
          refine P_aload_n dX7_speech_113 rfl rfl ?_
          refine P_iload_n dX7_speech_114 rfl rfl ?_
          refine P_bipush (v := nI 30) dX7_speech_115 (by decide) ?_
          refine P_iaddN dX7_speech_117 ?_
          refine P_ialdN (x := nI ((gK S m).length)) (14 + 83 * m + 30) dX7_speech_118 hr rfl (by omega) (by decide) (hR.kl (by omega)) ?_
          refine P_imulN dX7_speech_119 ?_
          refine P_iaddN dX7_speech_120 ?_
          refine P_istore (ls2 := [some (.ref (q)), some (.ref (r)), some (.int (nI (m))), some (.int (nI (14 + 83 * m))), some (.int (vb (bl))), some (.int (nI (14 + 83 * m + 31 + (3 * ((gK S m).length)))))]) dX7_speech_121 (by decide) rfl ?_
          refine P_aload_n dX7_speech_123 rfl rfl ?_
          refine P_iload dX7_speech_124 rfl ?_
          refine P_aload_n dX7_speech_126 rfl rfl ?_
          refine P_getr (t := q + 7) dX7_speech_127 kX7 fX7_29 rfl (by decide) hq.o hq.r7 hq.k7.1.2 ?_
          refine P_iconst (v := nI 4) dX7_speech_130 (by decide) ?_
          refine P_ialdN (x := nI (x 4)) (4) dX7_speech_131 hq.k7 rfl (by omega) (by decide) (by (repeat rw [vU_ne (fun e => hrq e.symm)]); exact hx 4 (by decide)) ?_
          refine P_iast (14 + 83 * m + 31 + (3 * ((gK S m).length))) dX7_speech_132 hr rfl (by omega) (by decide) ?_
          refine P_aload_n dX7_speech_133 rfl rfl ?_
          refine P_iload dX7_speech_134 rfl ?_
          refine P_iconst (v := nI 1) dX7_speech_136 (by decide) ?_
          refine P_iaddN dX7_speech_137 ?_
          refine P_aload_n dX7_speech_138 rfl rfl ?_
          refine P_getr (t := q + 7) dX7_speech_139 kX7 fX7_29 rfl (by decide) hq.o hq.r7 hq.k7.1.2 ?_
          refine P_iconst (v := nI 5) dX7_speech_142 (by decide) ?_
          refine P_ialdN (x := nI (x 5)) (5) dX7_speech_143 hq.k7 rfl (by omega) (by decide) (by (repeat rw [vU_ne (fun e => hrq e.symm)]); exact hx 5 (by decide)) ?_
          refine P_iast (14 + 83 * m + 31 + (3 * ((gK S m).length)) + 1) dX7_speech_144 hr rfl (by omega) (by decide) ?_
          refine P_aload_n dX7_speech_145 rfl rfl ?_
          refine P_iload dX7_speech_146 rfl ?_
          refine P_iconst (v := nI 2) dX7_speech_148 (by decide) ?_
          refine P_iaddN dX7_speech_149 ?_
          refine P_aload_n dX7_speech_150 rfl rfl ?_
          refine P_getr (t := q + 7) dX7_speech_151 kX7 fX7_29 rfl (by decide) hq.o hq.r7 hq.k7.1.2 ?_
          refine P_bipush (v := nI 6) dX7_speech_154 (by decide) ?_
          refine P_ialdN (x := nI (x 6)) (6) dX7_speech_156 hq.k7 rfl (by omega) (by decide) (by (repeat rw [vU_ne (fun e => hrq e.symm)]); exact hx 6 (by decide)) ?_
          refine P_iast (14 + 83 * m + 31 + (3 * ((gK S m).length)) + 2) dX7_speech_157 hr rfl (by omega) (by decide) ?_
          refine P_aload_n dX7_speech_158 rfl rfl ?_
          refine P_iload_n dX7_speech_159 rfl rfl ?_
          refine P_bipush (v := nI 30) dX7_speech_160 (by decide) ?_
          refine P_iaddN dX7_speech_162 ?_
          refine P_dup2 dX7_speech_163 rfl rfl ?_
          refine P_ialdN (x := nI ((gK S m).length)) (14 + 83 * m + 30) dX7_speech_164 hr rfl (by omega) (by decide) (by (repeat rw [vU_o (by omega)]); exact hR.kl q2) ?_
          refine P_iconst (v := nI 1) dX7_speech_165 (by decide) ?_
          refine P_iaddN dX7_speech_166 ?_
          refine P_iast (14 + 83 * m + 30) dX7_speech_167 hr rfl (by omega) (by decide) ?_
          refine P_goto (tgt := 178) dX7_speech_168 (by decide) ?_
          refine P_vret dX7_speech_178 rfl ?_
          refine q_s rfl ⟨?_, (((hO.u).u).u).u⟩
          unfold mspeech
          rw [hxm, if_neg hno, if_pos ⟨by omega, by omega⟩]
          refine RR.setK0 hR q2 (by rw [List.length_append]; show (gK S m).length + 1 ≤ 12; omega) (by rw [vU_s, List.length_append]; rfl) (fun k t q => ?_) (fun i q => ?_)
          · by_cases g1 : k < (gK S m).length
            · rw [List.getElem?_append_left g1] at q
              have := hR.kr q2 q
              refine ⟨?_, ?_, ?_⟩
              · (repeat rw [vU_o (by omega)]); exact this.1
              · (repeat rw [vU_o (by omega)]); exact this.2.1
              · (repeat rw [vU_o (by omega)]); exact this.2.2
            · have q1 : k < (gK S m ++ [(x 4, x 5, x 6)]).length := (List.getElem?_eq_some_iff.mp q).1
              rw [List.length_append] at q1
              have q2 : k < (gK S m).length + 1 := q1
              rw [List.getElem?_append_right (by omega), show k - (gK S m).length = 0 by omega] at q
              cases q
              obtain rfl : k = (gK S m).length := by omega
              refine ⟨?_, ?_, ?_⟩
              · (repeat rw [vU_o (by omega)]); exact vU_s
              · (repeat rw [vU_o (by omega)]); exact vU_s
              · (repeat rw [vU_o (by omega)]); exact vU_s
          · (repeat rw [vU_o (by omega)])
    refine P_iload dX7_speech_50 rfl ?_
    refine P_bif_eq (tgt := 83) dX7_speech_52 (by decide) (fun c52 => ?_) (fun c52 => ?_)
    · exact hJ83 (fun e => by rw [hbl.mpr e.1] at c52; cases c52)
    · refine P_aload_n dX7_speech_55 rfl rfl ?_
      refine P_iload_n dX7_speech_56 rfl rfl ?_
      refine P_iconst (v := nI 1) dX7_speech_57 (by decide) ?_
      refine P_iaddN dX7_speech_58 ?_
      refine P_ialdN (x := nI (gM S m 1)) (14 + 83 * m + 1) dX7_speech_59 hr rfl (by omega) (by decide) (hR.m (by omega) (by decide)) ?_
      refine P_if_neN (tgt := 83) dX7_speech_60 (by decide) (by have := hN.m1 m; omega) (fun c60 => ?_) (fun c60 => ?_)
      · exact hJ83 (fun e => c60 e.2)
      · have h24 := q10 h0
        refine P_aload_n dX7_speech_63 rfl rfl ?_
        refine P_iload_n dX7_speech_64 rfl rfl ?_
        refine P_iconst (v := nI 5) dX7_speech_65 (by decide) ?_
        refine P_iaddN dX7_speech_66 ?_
        refine P_dup2 dX7_speech_67 rfl rfl ?_
        refine P_ialdN (x := nI (gM S m 5)) (14 + 83 * m + 5) dX7_speech_68 hr rfl (by omega) (by decide) (hR.m (by omega) (by decide)) ?_
        refine P_iconst (v := nI 1) dX7_speech_69 (by decide) ?_
        refine P_aload_n dX7_speech_70 rfl rfl ?_
        refine P_getr (t := q + 7) dX7_speech_71 kX7 fX7_29 rfl (by decide) hq.o hq.r7 hq.k7.1.2 ?_
        refine P_bipush (v := nI 6) dX7_speech_74 (by decide) ?_
        refine P_ialdN (x := nI (x 6)) (6) dX7_speech_76 hq.k7 rfl (by omega) (by decide) (by rw [hO (q + 7) (fun e => hrq e.symm)]; exact hx 6 (by decide)) ?_
        refine P_ishlN dX7_speech_77 (by omega) ?_
        refine P_iorN dX7_speech_78 ?_
        refine P_iast (14 + 83 * m + 5) dX7_speech_79 hr rfl (by omega) (by decide) ?_
        have hR7 : RR c (vU v r (14 + 83 * m + 5) (nI ((gM S m 5) ||| (1 <<< (x 6))))) r (sM S m 5 ((gM S m 5) ||| (1 <<< (x 6)))) := (hR.M (m := m) (w := 5) (x := (gM S m 5) ||| (1 <<< (x 6))) (by omega) (by decide))
        have hO8 : vO9 v (vU v r (14 + 83 * m + 5) (nI ((gM S m 5) ||| (1 <<< (x 6))))) r := hO.u
        generalize vU v r (14 + 83 * m + 5) (nI ((gM S m 5) ||| (1 <<< (x 6)))) = v9 at hR7 hO8 ⊢
        refine P_goto (tgt := 178) dX7_speech_80 (by decide) ?_
        refine P_vret dX7_speech_178 rfl ?_
        refine q_s rfl ⟨?_, hO8⟩
        unfold mspeech
        rw [hxm, if_pos ⟨hbl.mp c52, c60⟩]
        exact hR7
  refine P_aload_n dX7_speech_15 rfl rfl ?_
  refine P_iload_n dX7_speech_16 rfl rfl ?_
  refine P_iconst (v := nI 2) dX7_speech_17 (by decide) ?_
  refine P_iaddN dX7_speech_18 ?_
  refine P_ialdN (x := nI (gM S m 2)) (14 + 83 * m + 2) dX7_speech_19 hr rfl (by omega) (by decide) (hR.m (by omega) (by decide)) ?_
  refine P_aload_n dX7_speech_20 rfl rfl ?_
  refine P_getr (t := q + 7) dX7_speech_21 kX7 fX7_29 rfl (by decide) hq.o hq.r7 hq.k7.1.2 ?_
  refine P_iconst (v := nI 4) dX7_speech_24 (by decide) ?_
  refine P_ialdN (x := nI (x 4)) (4) dX7_speech_25 hq.k7 rfl (by omega) (by decide) (by rw [hO (q + 7) (fun e => hrq e.symm)]; exact hx 4 (by decide)) ?_
  refine P_icmp_neN (tgt := 47) dX7_speech_26 (by decide) (by have := hN.m2 m; omega) (by omega) (fun c26 => ?_) (fun c26 => ?_)
  · refine P_iconst (v := nI 0) dX7_speech_47 (by decide) ?_
    exact hJ48 false ⟨fun q => (by cases q), fun q => absurd q (fun e => c26 e.1)⟩
  · refine P_aload_n dX7_speech_29 rfl rfl ?_
    refine P_iload_n dX7_speech_30 rfl rfl ?_
    refine P_iconst (v := nI 3) dX7_speech_31 (by decide) ?_
    refine P_iaddN dX7_speech_32 ?_
    refine P_ialdN (x := nI (gM S m 3)) (14 + 83 * m + 3) dX7_speech_33 hr rfl (by omega) (by decide) (hR.m (by omega) (by decide)) ?_
    refine P_aload_n dX7_speech_34 rfl rfl ?_
    refine P_getr (t := q + 7) dX7_speech_35 kX7 fX7_29 rfl (by decide) hq.o hq.r7 hq.k7.1.2 ?_
    refine P_iconst (v := nI 5) dX7_speech_38 (by decide) ?_
    refine P_ialdN (x := nI (x 5)) (5) dX7_speech_39 hq.k7 rfl (by omega) (by decide) (by rw [hO (q + 7) (fun e => hrq e.symm)]; exact hx 5 (by decide)) ?_
    refine P_icmp_neN (tgt := 47) dX7_speech_40 (by decide) (by have := hN.m3 m; omega) (by omega) (fun c40 => ?_) (fun c40 => ?_)
    · refine P_iconst (v := nI 0) dX7_speech_47 (by decide) ?_
      exact hJ48 false ⟨fun q => (by cases q), fun q => absurd q (fun e => c40 e.2)⟩
    · refine P_iconst (v := nI 1) dX7_speech_43 (by decide) ?_
      refine P_goto (tgt := 48) dX7_speech_44 (by decide) ?_
      exact hJ48 true ⟨fun _ => ⟨c26, c40⟩, fun _ => rfl⟩
set_option maxHeartbeats 4000000 in
set_option maxRecDepth 100000 in
theorem c_X7_called {σ : vS} {v : vV} {c r : Nat} {S : mS} {x : mN} {m q B : Nat} (hq : LR σ q) (hr : vK σ r 8 2012) (hR : RR c v r S) (hrq : r ≠ q + 7) (hN : NB c S B) (hB : B + 300 < 1000000000) (hx : ∀ j, j < 10 → v (q + 7) j = nI (x j)) (hxm : x 2 = m) (hxN : okN c B x) : vC M_X7_called yX7_called [.ref (q), .ref (r)] (σ, v) (qS σ none (rP c v r (mcalled S x))) := by
  have hc6 := hR.c6
  have hO : vO9 v v r := vO9.rf
  obtain ⟨q0, q1, q2, q3, q4, q5, q6, q7, q8, q9, q10⟩ := hxN
  rw [hxm] at q2
  refine vC_of (ls := [some (.ref (q)), some (.ref (r)), none]) pn_X7 rfl rfl (Nat.le_of_ble_eq_true rfl) rfl ?_
  refine P_aload_n dX7_called_0 rfl rfl ?_
  refine P_getr (t := q + 7) dX7_called_1 kX7 fX7_29 rfl (by decide) hq.o hq.r7 hq.k7.1.2 ?_
  refine P_iconst (v := nI 2) dX7_called_4 (by decide) ?_
  refine P_ialdN (x := nI (m)) (2) dX7_called_5 hq.k7 rfl (by omega) (by decide) (by rw [hO (q + 7) (fun e => hrq e.symm)]; rw [hx 2 (by decide), hxm]) ?_
  refine P_istore_n (ls2 := [some (.ref (q)), some (.ref (r)), some (.int (nI (m)))]) dX7_called_6 rfl (by decide) rfl ?_
  refine P_aload_n dX7_called_7 rfl rfl ?_
  refine P_getr (t := q + 7) dX7_called_8 kX7 fX7_29 rfl (by decide) hq.o hq.r7 hq.k7.1.2 ?_
  refine P_iconst (v := nI 4) dX7_called_11 (by decide) ?_
  refine P_ialdN (x := nI (x 4)) (4) dX7_called_12 hq.k7 rfl (by omega) (by decide) (by rw [hO (q + 7) (fun e => hrq e.symm)]; exact hx 4 (by decide)) ?_
  refine P_aload_n dX7_called_13 rfl rfl ?_
  refine P_iload_n dX7_called_14 rfl rfl ?_
  refine P_bipush (v := nI 6) dX7_called_15 (by decide) ?_
  refine P_cSp (rest := [.int (nI (x 4))]) (As := [.ref (r), .int (nI (m)), .int (nI (6))]) dX7_called_17 lX7_44 yk_X7_of ys_X7_of (by decide) rfl rfl (Nat.le_of_ble_eq_true rfl) rfl (c_X7_of hr (by omega) (by decide)) ?_
  refine P_top (y := (nI (gM S m 6))) (hR.m (by omega) (by decide)) ?_
  refine P_icmp_leN (tgt := 78) dX7_called_20 (by decide) (by omega) (by have := hN.m6 m; omega) (fun c20 => ?_) (fun c20 => ?_)
  · refine P_vret dX7_called_78 rfl ?_
    refine q_s rfl ⟨?_, hO⟩
    unfold mcalled
    rw [hxm, if_neg (by omega)]
    exact hR
  · refine P_aload_n dX7_called_23 rfl rfl ?_
    refine P_iload_n dX7_called_24 rfl rfl ?_
    refine P_bipush (v := nI 6) dX7_called_25 (by decide) ?_
    refine P_aload_n dX7_called_27 rfl rfl ?_
    refine P_getr (t := q + 7) dX7_called_28 kX7 fX7_29 rfl (by decide) hq.o hq.r7 hq.k7.1.2 ?_
    refine P_iconst (v := nI 4) dX7_called_31 (by decide) ?_
    refine P_ialdN (x := nI (x 4)) (4) dX7_called_32 hq.k7 rfl (by omega) (by decide) (by rw [hO (q + 7) (fun e => hrq e.symm)]; exact hx 4 (by decide)) ?_
    refine P_cSs (rest := []) (As := [.ref (r), .int (nI (m)), .int (nI (6)), .int (nI (x 4))]) dX7_called_33 lX7_58 yk_X7_lay ys_X7_lay (by decide) rfl rfl (Nat.le_of_ble_eq_true rfl) rfl (c_X7_lay hr (by omega) (by decide)) (fun v3 e4 => ?_)
    have hR1 : RR c v3 r (sM S m 6 (x 4)) := by rw [e4]; exact hR.M (by omega) (by decide)
    have hO2 : vO9 v v3 r := by rw [e4]; exact hO.u
    clear e4
    refine P_aload_n dX7_called_36 rfl rfl ?_
    refine P_iload_n dX7_called_37 rfl rfl ?_
    refine P_iconst (v := nI 1) dX7_called_38 (by decide) ?_
    refine P_iconst (v := nI 1) dX7_called_39 (by decide) ?_
    refine P_cSs (rest := []) (As := [.ref (r), .int (nI (m)), .int (nI (1)), .int (nI (1))]) dX7_called_40 lX7_58 yk_X7_lay ys_X7_lay (by decide) rfl rfl (Nat.le_of_ble_eq_true rfl) rfl (c_X7_lay hr (by omega) (by decide)) (fun v7 e8 => ?_)
    have hR5 : RR c v7 r (sM (sM S m 6 (x 4)) m 1 1) := by rw [e8]; exact hR1.M (by omega) (by decide)
    have hO6 : vO9 v v7 r := by rw [e8]; exact hO2.u
    clear e8
    refine P_aload_n dX7_called_43 rfl rfl ?_
    refine P_iload_n dX7_called_44 rfl rfl ?_
    refine P_cSs (rest := []) (As := [.ref (r), .int (nI (m))]) dX7_called_45 lX7_85 yk_X7_callsNone ys_X7_callsNone (by decide) rfl rfl (Nat.le_of_ble_eq_true rfl) rfl (c_X7_callsNone hr hR5 q2) (fun v11 ⟨hR9, hO10⟩ => ?_)
    replace hO10 := hO6.tr hO10
    refine P_aload_n dX7_called_48 rfl rfl ?_
    refine P_iconst (v := nI 2) dX7_called_49 (by decide) ?_
    refine P_iload_n dX7_called_50 rfl rfl ?_
    refine P_aload_n dX7_called_51 rfl rfl ?_
    refine P_getr (t := q + 7) dX7_called_52 kX7 fX7_29 rfl (by decide) hq.o hq.r7 hq.k7.1.2 ?_
    refine P_iconst (v := nI 1) dX7_called_55 (by decide) ?_
    refine P_ialdN (x := nI (x 1)) (1) dX7_called_56 hq.k7 rfl (by omega) (by decide) (by rw [hO10 (q + 7) (fun e => hrq e.symm)]; exact hx 1 (by decide)) ?_
    refine P_aload_n dX7_called_57 rfl rfl ?_
    refine P_getr (t := q + 7) dX7_called_58 kX7 fX7_29 rfl (by decide) hq.o hq.r7 hq.k7.1.2 ?_
    refine P_iconst (v := nI 4) dX7_called_61 (by decide) ?_
    refine P_ialdN (x := nI (x 4)) (4) dX7_called_62 hq.k7 rfl (by omega) (by decide) (by rw [hO10 (q + 7) (fun e => hrq e.symm)]; exact hx 4 (by decide)) ?_
    refine P_aload_n dX7_called_63 rfl rfl ?_
    refine P_getr (t := q + 7) dX7_called_64 kX7 fX7_29 rfl (by decide) hq.o hq.r7 hq.k7.1.2 ?_
    refine P_iconst (v := nI 1) dX7_called_67 (by decide) ?_
    refine P_ialdN (x := nI (x 1)) (1) dX7_called_68 hq.k7 rfl (by omega) (by decide) (by rw [hO10 (q + 7) (fun e => hrq e.symm)]; exact hx 1 (by decide)) ?_
    refine P_aload_n dX7_called_69 rfl rfl ?_
    refine P_iload_n dX7_called_70 rfl rfl ?_
    refine P_iconst (v := nI 5) dX7_called_71 (by decide) ?_
    refine P_cSp (rest := [.int (nI (x 1)), .int (nI (x 4)), .int (nI (x 1)), .int (nI (m)), .int (nI (2)), .ref (r)]) (As := [.ref (r), .int (nI (m)), .int (nI (5))]) dX7_called_72 lX7_44 yk_X7_of ys_X7_of (by decide) rfl rfl (Nat.le_of_ble_eq_true rfl) rfl (c_X7_of hr (by omega) (by decide)) ?_
    refine P_top (y := nI (gM S m 5)) (by rw [hR9.m q2 (by decide), mcalled5]) ?_
    refine P_cSs (rest := []) (As := [.ref (r), .int (nI (2)), .int (nI (m)), .int (nI (x 1)), .int (nI (x 4)), .int (nI (x 1)), .int (nI (gM S m 5))]) dX7_called_75 lX7_81 yk_X7_send ys_X7_send (by decide) rfl rfl (Nat.le_of_ble_eq_true rfl) rfl (c_X7_send hr hR9 (NB.none9 (NB.M (NB.M hN (m := m) (w := 6) (x := x 4) (fun _ => by exact q4)) (m := m) (w := 1) (x := 1) (fun _ => by show 1 ≤ 2; decide))) (by omega) q2 q1) (fun v14 ⟨hR12, hO13⟩ => ?_)
    replace hO13 := hO10.tr hO13
    refine P_vret dX7_called_78 rfl ?_
    refine q_s rfl ⟨?_, hO13⟩
    unfold mcalled
    rw [hxm, if_pos (by omega)]
    exact hR12
set_option maxHeartbeats 4000000 in
set_option maxRecDepth 100000 in
theorem c_X7_replied {σ : vS} {v : vV} {c r : Nat} {S : mS} {x : mN} {m q B : Nat} (hq : LR σ q) (hr : vK σ r 8 2012) (hR : RR c v r S) (hrq : r ≠ q + 7) (hN : NB c S B) (hB : B + 300 < 1000000000) (hx : ∀ j, j < 10 → v (q + 7) j = nI (x j)) (hxm : x 2 = m) (hxN : okN c B x) : vC M_X7_replied yX7_replied [.ref (q), .ref (r)] (σ, v) (qS σ none (rP c v r (mreplied S x))) := by
  have hc6 := hR.c6
  have hO : vO9 v v r := vO9.rf
  obtain ⟨q0, q1, q2, q3, q4, q5, q6, q7, q8, q9, q10⟩ := hxN
  rw [hxm] at q2
  refine vC_of (ls := [some (.ref (q)), some (.ref (r)), none]) pn_X7 rfl rfl (Nat.le_of_ble_eq_true rfl) rfl ?_
  refine P_aload_n dX7_replied_0 rfl rfl ?_
  refine P_getr (t := q + 7) dX7_replied_1 kX7 fX7_29 rfl (by decide) hq.o hq.r7 hq.k7.1.2 ?_
  refine P_iconst (v := nI 2) dX7_replied_4 (by decide) ?_
  refine P_ialdN (x := nI (m)) (2) dX7_replied_5 hq.k7 rfl (by omega) (by decide) (by rw [hO (q + 7) (fun e => hrq e.symm)]; rw [hx 2 (by decide), hxm]) ?_
  refine P_istore_n (ls2 := [some (.ref (q)), some (.ref (r)), some (.int (nI (m)))]) dX7_replied_6 rfl (by decide) rfl ?_
  refine P_aload_n dX7_replied_7 rfl rfl ?_
  refine P_iload_n dX7_replied_8 rfl rfl ?_
  refine P_bipush (v := nI 8) dX7_replied_9 (by decide) ?_
  refine P_cSp (rest := []) (As := [.ref (r), .int (nI (m)), .int (nI (8))]) dX7_replied_11 lX7_44 yk_X7_of ys_X7_of (by decide) rfl rfl (Nat.le_of_ble_eq_true rfl) rfl (c_X7_of hr (by omega) (by decide)) ?_
  refine P_top (y := (nI (gM S m 8))) (hR.m (by omega) (by decide)) ?_
  refine P_aload_n dX7_replied_14 rfl rfl ?_
  refine P_getr (t := q + 7) dX7_replied_15 kX7 fX7_29 rfl (by decide) hq.o hq.r7 hq.k7.1.2 ?_
  refine P_iconst (v := nI 4) dX7_replied_18 (by decide) ?_
  refine P_ialdN (x := nI (x 4)) (4) dX7_replied_19 hq.k7 rfl (by omega) (by decide) (by rw [hO (q + 7) (fun e => hrq e.symm)]; exact hx 4 (by decide)) ?_
  refine P_icmp_neN (tgt := 55) dX7_replied_20 (by decide) (by have := hN.m8 m; omega) (by omega) (fun c20 => ?_) (fun c20 => ?_)
  · refine P_vret dX7_replied_55 rfl ?_
    refine q_s rfl ⟨?_, hO⟩
    unfold mreplied
    rw [hxm, if_neg c20]
    exact hR
  · refine P_aload_n dX7_replied_23 rfl rfl ?_
    refine P_iload_n dX7_replied_24 rfl rfl ?_
    refine P_aload_n dX7_replied_25 rfl rfl ?_
    refine P_getr (t := q + 7) dX7_replied_26 kX7 fX7_29 rfl (by decide) hq.o hq.r7 hq.k7.1.2 ?_
    refine P_iconst (v := nI 1) dX7_replied_29 (by decide) ?_
    refine P_ialdN (x := nI (x 1)) (1) dX7_replied_30 hq.k7 rfl (by omega) (by decide) (by rw [hO (q + 7) (fun e => hrq e.symm)]; exact hx 1 (by decide)) ?_
    refine P_aload_n dX7_replied_31 rfl rfl ?_
    refine P_getr (t := q + 7) dX7_replied_32 kX7 fX7_29 rfl (by decide) hq.o hq.r7 hq.k7.1.2 ?_
    refine P_bipush (v := nI 7) dX7_replied_35 (by decide) ?_
    refine P_ialdN (x := nI (x 7)) (7) dX7_replied_37 hq.k7 rfl (by omega) (by decide) (by rw [hO (q + 7) (fun e => hrq e.symm)]; exact hx 7 (by decide)) ?_
    refine P_aload_n dX7_replied_38 rfl rfl ?_
    refine P_getr (t := q + 7) dX7_replied_39 kX7 fX7_29 rfl (by decide) hq.o hq.r7 hq.k7.1.2 ?_
    refine P_bipush (v := nI 8) dX7_replied_42 (by decide) ?_
    refine P_ialdN (x := nI (x 8)) (8) dX7_replied_44 hq.k7 rfl (by omega) (by decide) (by rw [hO (q + 7) (fun e => hrq e.symm)]; exact hx 8 (by decide)) ?_
    refine P_aload_n dX7_replied_45 rfl rfl ?_
    refine P_getr (t := q + 7) dX7_replied_46 kX7 fX7_29 rfl (by decide) hq.o hq.r7 hq.k7.1.2 ?_
    refine P_bipush (v := nI 6) dX7_replied_49 (by decide) ?_
    refine P_ialdN (x := nI (x 6)) (6) dX7_replied_51 hq.k7 rfl (by omega) (by decide) (by rw [hO (q + 7) (fun e => hrq e.symm)]; exact hx 6 (by decide)) ?_
    refine P_cSs (rest := []) (As := [.ref (r), .int (nI (m)), .int (nI (x 1)), .int (nI (x 7)), .int (nI (x 8)), .int (nI (x 6))]) dX7_replied_52 lX7_88 yk_X7_answers ys_X7_answers (by decide) rfl rfl (Nat.le_of_ble_eq_true rfl) rfl (c_X7_answers hr hR hN (by omega) q2 (by omega) q7 q8 q6) (fun v3 ⟨hR1, hO2⟩ => ?_)
    replace hO2 := hO.tr hO2
    refine P_vret dX7_replied_55 rfl ?_
    refine q_s rfl ⟨?_, hO2⟩
    unfold mreplied
    rw [hxm, if_pos c20]
    exact hR1
set_option maxHeartbeats 4000000 in
set_option maxRecDepth 100000 in
theorem c_X7_comes {σ : vS} {v : vV} {c r : Nat} {S : mS} {q B : Nat} (hq : LR σ q) (hr : vK σ r 8 2012) (hR : RR c v r S) (hrq : r ≠ q + 7) (hN : NB c S B) (hB : B + 300 < 1000000000) (hl : 0 < (gN S).length) : vC M_X7_comes yX7_comes [.ref (q), .ref (r)] (σ, v) (qS σ none (cP c v r q (mcomes S))) := by
  have hc6 := hR.c6
  have hO : vO9 v v r := vO9.rf
  refine vC_of (ls := [some (.ref (q)), some (.ref (r))]) pn_X7 rfl rfl (Nat.le_of_ble_eq_true rfl) rfl ?_
  refine P_aload_n dX7_comes_0 rfl rfl ?_
  refine P_aload_n dX7_comes_1 rfl rfl ?_
  refine P_cVs (rest := []) (As := [.ref (r)]) dX7_comes_2 lX7_91 yk_X7_takeFirst yv_X7_takeFirst kX7 rfl (by decide) hq.o rfl rfl (Nat.le_of_ble_eq_true rfl) rfl (c_X7_takeFirst hq hr hR hrq hl) (fun v1 ⟨hR1, hx, hO1⟩ => ?_)
  obtain ⟨x, ex⟩ : ∃ x, x = (gN S).getD 0 n0 := ⟨_, rfl⟩
  rw [← ex] at hx
  obtain ⟨m, hxm⟩ : ∃ m, x 2 = m := ⟨_, rfl⟩
  have hxN : okN c B x := by rw [ex]; exact hN.n (head_mem hl)
  have hN1 := hN.drop1
  obtain ⟨q0, q1, q2, q3, q4, q5, q6, q7, q8, q9, q10⟩ := id hxN
  rw [hxm] at q2
  refine P_aload_n dX7_comes_5 rfl rfl ?_
  refine P_aload_n dX7_comes_6 rfl rfl ?_
  refine P_getr (t := q + 7) dX7_comes_7 kX7 fX7_29 rfl (by decide) hq.o hq.r7 hq.k7.1.2 ?_
  refine P_iconst (v := nI 2) dX7_comes_10 (by decide) ?_
  refine P_ialdN (x := nI (m)) (2) dX7_comes_11 hq.k7 rfl (by omega) (by decide) (by rw [hx 2 (by decide), hxm]) ?_
  refine P_iconst (v := nI 1) dX7_comes_12 (by decide) ?_
  refine P_cSp (rest := []) (As := [.ref (r), .int (nI (m)), .int (nI (1))]) dX7_comes_13 lX7_44 yk_X7_of ys_X7_of (by decide) rfl rfl (Nat.le_of_ble_eq_true rfl) rfl (c_X7_of hr (by omega) (by decide)) ?_
  refine P_top (y := (nI (gM (sN S ((gN S).drop 1)) m 1))) (hR1.m (by omega) (by decide)) ?_
  refine P_iconst (v := nI 2) dX7_comes_16 (by decide) ?_
  refine P_icmp_neN (tgt := 28) dX7_comes_17 (by decide) (by have := hN1.m1 m; omega) (by omega) (fun c17 => ?_) (fun c17 => ?_)
  · refine P_aload_n dX7_comes_28 rfl rfl ?_
    refine P_getr (t := q + 7) dX7_comes_29 kX7 fX7_29 rfl (by decide) hq.o hq.r7 hq.k7.1.2 ?_
    refine P_iconst (v := nI 0) dX7_comes_32 (by decide) ?_
    refine P_ialdN (x := nI (x 0)) (0) dX7_comes_33 hq.k7 rfl (by omega) (by decide) (by exact hx 0 (by decide)) ?_
    rcases vsw (x 0) 0 2 (by omega) (by decide) with c34 | ⟨c34_j, c34_b, c34⟩
    · refine P_tswOut (tgt := 84) dX7_comes_34 (vsw_out (by omega) c34) (by decide) ?_
      refine P_aload_n dX7_comes_84 rfl rfl ?_
      refine P_aload_n dX7_comes_85 rfl rfl ?_
      refine P_getr (t := q + 7) dX7_comes_86 kX7 fX7_29 rfl (by decide) hq.o hq.r7 hq.k7.1.2 ?_
      refine P_iconst (v := nI 2) dX7_comes_89 (by decide) ?_
      refine P_ialdN (x := nI (m)) (2) dX7_comes_90 hq.k7 rfl (by omega) (by decide) (by rw [hx 2 (by decide), hxm]) ?_
      refine P_aload_n dX7_comes_91 rfl rfl ?_
      refine P_getr (t := q + 7) dX7_comes_92 kX7 fX7_29 rfl (by decide) hq.o hq.r7 hq.k7.1.2 ?_
      refine P_iconst (v := nI 4) dX7_comes_95 (by decide) ?_
      refine P_ialdN (x := nI (x 4)) (4) dX7_comes_96 hq.k7 rfl (by omega) (by decide) (by exact hx 4 (by decide)) ?_
      refine P_aload_n dX7_comes_97 rfl rfl ?_
      refine P_getr (t := q + 7) dX7_comes_98 kX7 fX7_29 rfl (by decide) hq.o hq.r7 hq.k7.1.2 ?_
      refine P_iconst (v := nI 5) dX7_comes_101 (by decide) ?_
      refine P_ialdN (x := nI (x 5)) (5) dX7_comes_102 hq.k7 rfl (by omega) (by decide) (by exact hx 5 (by decide)) ?_
      refine P_aload_n dX7_comes_103 rfl rfl ?_
      refine P_getr (t := q + 7) dX7_comes_104 kX7 fX7_29 rfl (by decide) hq.o hq.r7 hq.k7.1.2 ?_
      refine P_bipush (v := nI 9) dX7_comes_107 (by decide) ?_
      refine P_ialdN (x := nI (x 9)) (9) dX7_comes_109 hq.k7 rfl (by omega) (by decide) (by exact hx 9 (by decide)) ?_
      refine P_aload_n dX7_comes_110 rfl rfl ?_
      refine P_getr (t := q + 7) dX7_comes_111 kX7 fX7_29 rfl (by decide) hq.o hq.r7 hq.k7.1.2 ?_
      refine P_bipush (v := nI 6) dX7_comes_114 (by decide) ?_
      refine P_ialdN (x := nI (x 6)) (6) dX7_comes_116 hq.k7 rfl (by omega) (by decide) (by exact hx 6 (by decide)) ?_
      refine P_cSs (rest := []) (As := [.ref (r), .int (nI (m)), .int (nI (x 4)), .int (nI (x 5)), .int (nI (x 9)), .int (nI (x 6))]) dX7_comes_117 lX7_77 yk_X7_told ys_X7_told (by decide) rfl rfl (Nat.le_of_ble_eq_true rfl) rfl (c_X7_told hr hR1 hN1 (by omega) q2 q4 q5) (fun v2 ⟨hR2, hO2⟩ => ?_)
      refine P_vret dX7_comes_120 rfl ?_
      refine q_s rfl ⟨?_, (hO1.tr9 hO2)⟩
      unfold mcomes
      rw [← ex]
      unfold mread
      rw [hxm, if_neg c17, if_neg (by omega), if_neg (by omega), if_neg (by omega)]
      exact hR2
    · rcases (by omega : c34_j = 0 ∨ c34_j = 1 ∨ c34_j = 2) with q34 | q34 | q34
      · replace c34 : x 0 = 0 := by omega
        refine P_tswIn (off := 26) (tgt := 60) dX7_comes_34 (by rw [vsw_int c34 (by decide)]; decide) (by rw [vsw_int c34 (by decide)]; decide) (by rw [vsw_int c34 (by decide)]; rfl) (by decide) ?_
        refine P_aload_n dX7_comes_60 rfl rfl ?_
        refine P_aload_n dX7_comes_61 rfl rfl ?_
        refine P_cVs (rest := []) (As := [.ref (r)]) dX7_comes_62 lX7_94 yk_X7_speech yv_X7_speech kX7 rfl (by decide) hq.o rfl rfl (Nat.le_of_ble_eq_true rfl) rfl (c_X7_speech hq hr hR1 hrq hN1 (by omega) hx hxm hxN c34) (fun v2 ⟨hR2, hO2⟩ => ?_)
        refine P_goto (tgt := 120) dX7_comes_65 (by decide) ?_
        refine P_vret dX7_comes_120 rfl ?_
        refine q_s rfl ⟨?_, (hO1.tr9 hO2)⟩
        unfold mcomes
        rw [← ex]
        unfold mread
        rw [hxm, if_neg c17, if_pos c34]
        exact hR2
      · replace c34 : x 0 = 1 := by omega
        refine P_tswIn (off := 34) (tgt := 68) dX7_comes_34 (by rw [vsw_int c34 (by decide)]; decide) (by rw [vsw_int c34 (by decide)]; decide) (by rw [vsw_int c34 (by decide)]; rfl) (by decide) ?_
        refine P_aload_n dX7_comes_68 rfl rfl ?_
        refine P_aload_n dX7_comes_69 rfl rfl ?_
        refine P_cVs (rest := []) (As := [.ref (r)]) dX7_comes_70 lX7_97 yk_X7_called yv_X7_called kX7 rfl (by decide) hq.o rfl rfl (Nat.le_of_ble_eq_true rfl) rfl (c_X7_called hq hr hR1 hrq hN1 (by omega) hx hxm hxN) (fun v2 ⟨hR2, hO2⟩ => ?_)
        refine P_goto (tgt := 120) dX7_comes_73 (by decide) ?_
        refine P_vret dX7_comes_120 rfl ?_
        refine q_s rfl ⟨?_, (hO1.tr9 hO2)⟩
        unfold mcomes
        rw [← ex]
        unfold mread
        rw [hxm, if_neg c17, if_neg (by omega), if_pos c34]
        exact hR2
      · replace c34 : x 0 = 2 := by omega
        refine P_tswIn (off := 42) (tgt := 76) dX7_comes_34 (by rw [vsw_int c34 (by decide)]; decide) (by rw [vsw_int c34 (by decide)]; decide) (by rw [vsw_int c34 (by decide)]; rfl) (by decide) ?_
        refine P_aload_n dX7_comes_76 rfl rfl ?_
        refine P_aload_n dX7_comes_77 rfl rfl ?_
        refine P_cVs (rest := []) (As := [.ref (r)]) dX7_comes_78 lX7_100 yk_X7_replied yv_X7_replied kX7 rfl (by decide) hq.o rfl rfl (Nat.le_of_ble_eq_true rfl) rfl (c_X7_replied hq hr hR1 hrq hN1 (by omega) hx hxm hxN) (fun v2 ⟨hR2, hO2⟩ => ?_)
        refine P_goto (tgt := 120) dX7_comes_81 (by decide) ?_
        refine P_vret dX7_comes_120 rfl ?_
        refine q_s rfl ⟨?_, (hO1.tr9 hO2)⟩
        unfold mcomes
        rw [← ex]
        unfold mread
        rw [hxm, if_neg c17, if_neg (by omega), if_neg (by omega), if_pos c34]
        exact hR2
  · refine P_aload_n dX7_comes_20 rfl rfl ?_
    refine P_iconst (v := nI 3) dX7_comes_21 (by decide) ?_
    refine P_dup2 dX7_comes_22 rfl rfl ?_
    refine P_ialdN (x := nI (gG (sN S ((gN S).drop 1)) 3)) (3) dX7_comes_23 hr rfl (by omega) (by decide) (hR1.g (by decide) (by decide)) ?_
    refine P_iconst (v := nI 1) dX7_comes_24 (by decide) ?_
    refine P_iaddN dX7_comes_25 ?_
    refine P_iast (3) dX7_comes_26 hr rfl (by omega) (by decide) ?_
    have hR1 : RR c (vU v1 r (3) (nI (gG (sN S ((gN S).drop 1)) 3 + 1))) r (sG (sN S ((gN S).drop 1)) 3 (gG (sN S ((gN S).drop 1)) 3 + 1)) := (hR1.G (x := gG (sN S ((gN S).drop 1)) 3 + 1) (by decide) (by decide) (by decide))
    have hO2 : vO2 v (vU v1 r (3) (nI (gG (sN S ((gN S).drop 1)) 3 + 1))) r (q + 7) := hO1.u
    generalize vU v1 r (3) (nI (gG (sN S ((gN S).drop 1)) 3 + 1)) = v3 at hR1 hO2 ⊢
    refine P_vret dX7_comes_27 rfl ?_
    refine q_s rfl ⟨?_, hO2⟩
    unfold mcomes
    rw [← ex]
    unfold mread
    rw [hxm, if_pos c17]
    exact hR1
