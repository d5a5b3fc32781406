
theorem comes_in {c : Nat} {S : mS} (h : IP c S) (hl : 0 < (gN S).length) : ∃ F, MP F c (sN S ((gN S).drop 1)) ∧ nOK F (sN S ((gN S).drop 1)) ((gN S).getD 0 n0) := by
  obtain ⟨F, a, b⟩ := h
  exact ⟨F, a.same rfl rfl, (b _ (head_mem hl)).mono (Mle.of (fun k => ⟨rfl, rfl⟩)) (fun _ => rfl)⟩
theorem em3 (p q : Prop) : p ∨ (¬p ∧ q) ∨ (¬p ∧ ¬q) := by
  by_cases h : p
  · exact Or.inl h
  · by_cases g : q
    · exact Or.inr (Or.inl ⟨h, g⟩)
    · exact Or.inr (Or.inr ⟨h, g⟩)
theorem ent_told {S : mS} {m num by9 set heard : Nat} (h8 : gM S m 8 = 0) (h9 : gM S m 9 = 0) (h10 : gM S m 10 = 0) : menterC S m num by9 set heard = mtold S m num by9 set heard := by
  unfold menterC
  exact none_id (by rw [told_69.2.2.1]; exact h8) (by rw [told_69.2.1]; exact h9) (by rw [told_69.2.2.2]; exact h10)
/-- of a tick: the first n members have waited, if anybody waits -/
def mW (U : mS) (n : Nat) : mS := if 0 < gG U 7 then mup mwaitF n (mDS U) else mDS U
theorem mW_7 {U : mS} {n : Nat} : gG (mW U n) 7 = gG U 7 := by
  unfold mW
  split
  · exact (wait_g (by decide)).trans (drain_g (by decide) _ (sG U 1 (gG U 1 + 1)))
  · exact drain_g (by decide) _ (sG U 1 (gG U 1 + 1))
theorem mW_s {U : mS} {k : Nat} (h7 : gG (mW U k) 7 ≠ 0) (h8 : gM (mW U k) k 8 ≠ 0) (h : gG (mW U k) 7 ≤ gG (mW U k) 1 - gM (mW U k) k 11) : mW U (k + 1) = mcall (mW U k) k (gM (mW U k) k 10) := by
  rw [mW_7] at h7
  have e : mW U k = mup mwaitF k (mDS U) := if_pos (by omega)
  have e1 : mW U (k + 1) = mwaitF k (mup mwaitF k (mDS U)) := if_pos (by omega)
  rw [e1]
  rw [e] at h8 h ⊢
  exact wait_s (by omega) h
theorem mW_n {U : mS} {k : Nat} (h : ¬ (gG (mW U k) 7 ≠ 0 ∧ 0 < gM (mW U k) k 8 ∧ gG (mW U k) 7 ≤ gG (mW U k) 1 - gM (mW U k) k 11)) : mW U (k + 1) = mW U k := by
  rw [mW_7] at h
  by_cases q : 0 < gG U 7
  · have e : mW U k = mup mwaitF k (mDS U) := if_pos q
    have e1 : mW U (k + 1) = mwaitF k (mup mwaitF k (mDS U)) := if_pos q
    rw [e1]
    rw [e] at h ⊢
    have e7 : gG (mup mwaitF k (mDS U)) 7 = gG U 7 := (wait_g (by decide)).trans (drain_g (by decide) _ (sG U 1 (gG U 1 + 1)))
    exact wait_n (fun g => h ⟨by omega, g.1, by rw [← e7]; exact g.2⟩)
  · have e : mW U k = mDS U := if_neg q
    have e1 : mW U (k + 1) = mDS U := if_neg q
    rw [e, e1]
theorem mW_t {c : Nat} {U : mS} (h : gG U 0 = c) : mW U c = mtick U := by
  unfold mW mtick
  rw [h]
theorem NB.mWk {c B : Nat} {U : mS} (h : NB c U B) {k : Nat} (hk : k ≤ c) : NB c (mW U k) (B + 1135) := by
  unfold mW
  split
  · exact h.waits hk
  · exact h.drained.up (by omega)
theorem Iv.mWk {c B : Nat} {U : mS} (h : Iv c 1 U) (hB : NB c U B) {k : Nat} (hk : k ≤ c) : Iv c 1 (mW U k) := by
  unfold mW
  split
  · exact Iv.ups k (fun j S9 hj h9 => h9.wait (by omega)) (h.drained hB)
  · exact h.drained hB
theorem mOK.h8 {F : Nat → Nat → Nat} {c : Nat} {S : mS} {m : Nat} (h : mOK F c S m) : 0 < gM S m 8 ↔ gM S m 9 ≠ 0 := by
  obtain ⟨o1, o2, o3, o4, o5, o6, o7, o8⟩ := h
  constructor
  · intro q e
    have := (o6 e).1
    omega
  · intro q
    have := o7 q
    omega
set_option maxHeartbeats 4000000 in
set_option maxRecDepth 100000 in
theorem c_X0_noteComes {σ : vS} {v : vV} {c b : Nat} {S : mS} (hq : kLC σ b) (hC : CR c v b S) {B : Nat} (hN : NB c S B) (hB : B + 400 < 1000000000) (hl : 0 < (gN S).length) (hI : Iv c 0 S) : vC M_X0_noteComes yX0_noteComes [.ref (b)] (σ, v) (qS σ none (kPo c v b (mcomes S))) := by
  have hc6 := hC.c6
  have hO : vOw v v b 84 := vOw.rf
  refine vC_of (ls := [some (.ref (b)), none, none, none]) pn_X0 rfl rfl (Nat.le_of_ble_eq_true rfl) rfl ?_
  refine P_aload_n dX0_noteComes_0 rfl rfl ?_
  refine P_getr (t := b + 2) dX0_noteComes_1 kX0 fX0_20 rfl (by decide) hq.o hq.r1 hq.k2.1.2 ?_
  refine P_aload_n dX0_noteComes_4 rfl rfl ?_
  refine P_getr (t := b + 5) dX0_noteComes_5 kX0 fX0_24 rfl (by decide) hq.o hq.r2 hq.k5.1.2 ?_
  refine P_cVs (rest := []) (As := [.ref (b + 5)]) dX0_noteComes_8 lX0_183 yk_X3_takeFirst yv_X3_takeFirst kX3 rfl (by decide) hq.k2 rfl rfl (Nat.le_of_ble_eq_true rfl) rfl (c_X3_takeFirst hq hC hl) (fun v1 ⟨hC1, hx, hO1⟩ => ?_)
  have hxN := hN.n (head_mem hl)
  obtain ⟨F, hMP, hnk⟩ := comes_in hI.2 hl
  have hN1 : NB c (sN S ((gN S).drop 1)) B := hN.drop1
  show vP _ _ _ _ _ _ (vN (qS σ none (kPo c v b (mread (sN S ((gN S).drop 1)) ((gN S).getD 0 n0)))))
  generalize sN S ((gN S).drop 1) = T at hC1 hMP hnk hN1 ⊢
  generalize (gN S).getD 0 n0 = x at hx hxN hnk ⊢
  have hx9 := hxN
  obtain ⟨x0, x1, x2, x3, x4, x5, x6, x7, x8, x9, x10⟩ := hx9
  obtain ⟨hmo, hao⟩ := hMP (x 2) x2
  have hmo9 := hmo
  obtain ⟨o1, o2, o3, o4, o5, o6, o7, o8⟩ := hmo9
  refine P_aload_n dX0_noteComes_11 rfl rfl ?_
  refine P_getr (t := b + 5) dX0_noteComes_12 kX0 fX0_24 rfl (by decide) hq.o hq.r2 hq.k5.1.2 ?_
  refine P_iconst (v := nI 1) dX0_noteComes_15 (by decide) ?_
  refine P_ialdN (x := nI (x 1)) (1) dX0_noteComes_16 hq.k5 rfl (by omega) (by decide) (hx 1 (by decide)) ?_
  refine P_istore_n (ls2 := [some (.ref (b)), some (.int (nI (x 1))), none, none]) dX0_noteComes_17 rfl (by decide) rfl ?_
  refine P_aload_n dX0_noteComes_18 rfl rfl ?_
  refine P_getr (t := b + 5) dX0_noteComes_19 kX0 fX0_24 rfl (by decide) hq.o hq.r2 hq.k5.1.2 ?_
  refine P_iconst (v := nI 2) dX0_noteComes_22 (by decide) ?_
  refine P_ialdN (x := nI (x 2)) (2) dX0_noteComes_23 hq.k5 rfl (by omega) (by decide) (hx 2 (by decide)) ?_
  refine P_istore_n (ls2 := [some (.ref (b)), some (.int (nI (x 1))), some (.int (nI (x 2))), none]) dX0_noteComes_24 rfl (by decide) rfl ?_
  refine P_aload_n dX0_noteComes_25 rfl rfl ?_
  refine P_iload_n dX0_noteComes_26 rfl rfl ?_
  refine P_cVp (rest := []) (As := [.int (nI (x 1))]) dX0_noteComes_27 lX0_115 yk_X0_hasMember yv_X0_hasMember kX0 rfl (by decide) hq.o rfl rfl (Nat.le_of_ble_eq_true rfl) rfl (c_X0_hasMember hq hC1) ?_
  refine P_top (y := vb true) (by rw [mb_n (by omega), decide_eq_true x1]) ?_
  refine P_bif_eq (tgt := 41) dX0_noteComes_30 (by decide) (fun c30 => ?_) (fun c30 => ?_)
  · exact Bool.noConfusion c30
  · refine P_aload_n dX0_noteComes_33 rfl rfl ?_
    refine P_iload_n dX0_noteComes_34 rfl rfl ?_
    refine P_cVp (rest := []) (As := [.int (nI (x 2))]) dX0_noteComes_35 lX0_115 yk_X0_hasMember yv_X0_hasMember kX0 rfl (by decide) hq.o rfl rfl (Nat.le_of_ble_eq_true rfl) rfl (c_X0_hasMember hq hC1) ?_
    refine P_top (y := vb true) (by rw [mb_n (by omega), decide_eq_true x2]) ?_
    refine P_bif_ne (tgt := 42) dX0_noteComes_38 (by decide) (fun c38 => ?_) (fun c38 => ?_)
    · have hx26 : x 2 < 6 := by omega
      have hx16 : x 1 < 6 := by omega
      refine P_aload_n dX0_noteComes_42 rfl rfl ?_
      refine P_getr (t := b + 1) dX0_noteComes_43 kX0 fX0_11 rfl (by decide) hq.o hq.r0 hq.k1.1.2 ?_
      refine P_iload_n dX0_noteComes_46 rfl rfl ?_
      refine P_aaldM (t := b + 6 + 13 * (x 2)) (x 2) dX0_noteComes_47 hq.k1 rfl (by omega) (by decide) (hq.e (by omega)) (hq.m (by omega)).o.1.2 ?_
      refine P_astore_n (ls2 := [some (.ref (b)), some (.int (nI (x 1))), some (.int (nI (x 2))), some (.ref (b + 6 + 13 * (x 2)))]) dX0_noteComes_48 rfl (by decide) rfl ?_
      refine P_aload_n dX0_noteComes_49 rfl rfl ?_
      refine P_getiN (x := nI (gM T (x 2) 1)) dX0_noteComes_50 kX2 fX0_57 rfl (by decide) (hq.m (by omega)).o ((hC1.m (by omega)).w (by decide)) ?_
      refine P_iconst (v := nI 2) dX0_noteComes_53 (by decide) ?_
      refine P_icmp_neN (tgt := 71) dX0_noteComes_54 (by decide) (by have := hN1.m1 (x 2); omega) (by omega) (fun c54 => ?_) (fun c54 => ?_)
      · refine P_aload_n dX0_noteComes_71 rfl rfl ?_
        refine P_getr (t := b + 5) dX0_noteComes_72 kX0 fX0_24 rfl (by decide) hq.o hq.r2 hq.k5.1.2 ?_
        refine P_iconst (v := nI 0) dX0_noteComes_75 (by decide) ?_
        refine P_ialdN (x := nI (x 0)) (0) dX0_noteComes_76 hq.k5 rfl (by omega) (by decide) (hx 0 (by decide)) ?_
        rcases vsw (x 0) 0 2 (by omega) (by decide) with c77 | ⟨c77_j, c77_b, c77⟩
        · refine P_tswOut (tgt := 183) dX0_noteComes_77 (vsw_out (by omega) c77) (by decide) ?_
          refine P_aload_n dX0_noteComes_183 rfl rfl ?_
          refine P_aload_n dX0_noteComes_184 rfl rfl ?_
          refine P_getr (t := b + 5) dX0_noteComes_185 kX0 fX0_24 rfl (by decide) hq.o hq.r2 hq.k5.1.2 ?_
          refine P_iconst (v := nI 4) dX0_noteComes_188 (by decide) ?_
          refine P_ialdN (x := nI (x 4)) (4) dX0_noteComes_189 hq.k5 rfl (by omega) (by decide) (hx 4 (by decide)) ?_
          refine P_iload_n dX0_noteComes_190 rfl rfl ?_
          refine P_aload_n dX0_noteComes_191 rfl rfl ?_
          refine P_getr (t := b + 5) dX0_noteComes_192 kX0 fX0_24 rfl (by decide) hq.o hq.r2 hq.k5.1.2 ?_
          refine P_bipush (v := nI 8) dX0_noteComes_195 (by decide) ?_
          refine P_ialdN (x := nI (x 9)) (8) dX0_noteComes_197 hq.k5 rfl (by omega) (by decide) (hx 8 (by decide)) ?_
          refine P_aload_n dX0_noteComes_198 rfl rfl ?_
          refine P_getr (t := b + 5) dX0_noteComes_199 kX0 fX0_24 rfl (by decide) hq.o hq.r2 hq.k5.1.2 ?_
          refine P_iconst (v := nI 5) dX0_noteComes_202 (by decide) ?_
          refine P_ialdN (x := nI (x 6)) (5) dX0_noteComes_203 hq.k5 rfl (by omega) (by decide) (hx 5 (by decide)) ?_
          obtain ⟨e1, e2, e3, e4, e5⟩ := hnk.2.2.2 (by omega)
          rcases Classical.em (x 4 < gM T (x 2) 6 ∨ x 4 ≤ gM T (x 2) 2) with hz | hz
          · refine P_cVs (rest := []) (As := [.int (nI (x 4)), .int (nI (x 1)), .int (nI (x 9)), .int (nI (x 6))]) dX0_noteComes_204 lX0_201 yk_X2_enterRoll yv_X2_enterRoll kX2 rfl (by decide) (hq.m (by omega)).o rfl rfl (Nat.le_of_ble_eq_true rfl) rfl (c_X2_enterNo hq hC1 hN1 (by omega) hx26 (by omega) (by omega) hz) (fun v2 ⟨hC2, hO2⟩ => ?_)
            refine P_vret dX0_noteComes_207 rfl ?_
            refine q_s rfl ⟨hC2.cg ?_, (hO1.tr hO2)⟩
            unfold mread
            rw [if_neg c54, if_neg (by omega), if_neg (by omega), if_neg (by omega)]
            unfold mtold
            rw [if_pos hz]
          · have e6 : gM T (x 2) 6 = x 4 := by have := e1.1; omega
            have e9 := e1.2 e6
            refine P_cVs (rest := []) (As := [.int (nI (x 4)), .int (nI (x 1)), .int (nI (x 9)), .int (nI (x 6))]) dX0_noteComes_204 lX0_201 yk_X2_enterRoll yv_X2_enterRoll kX2 rfl (by decide) (hq.m (by omega)).o rfl rfl (Nat.le_of_ble_eq_true rfl) rfl (c_X2_enterYes hq hC1 hN1 (by omega) hx26 (by omega) (by omega) hz) (fun v2 ⟨hC2, hO2⟩ => ?_)
            refine P_vret dX0_noteComes_207 rfl ?_
            refine q_s rfl ⟨hC2.cg ?_, (hO1.tr hO2)⟩
            unfold mread
            rw [if_neg c54, if_neg (by omega), if_neg (by omega), if_neg (by omega)]
            rw [ent_told (o6 e9).1 e9 (o6 e9).2, e2]
        · rcases (by omega : c77_j = 0 ∨ c77_j = 1 ∨ c77_j = 2) with q77 | q77 | q77
          · replace c77 : x 0 = 0 := by omega
            refine P_tswIn (off := 27) (tgt := 104) dX0_noteComes_77 (by rw [vsw_int c77 (by decide)]; decide) (by rw [vsw_int c77 (by decide)]; decide) (by rw [vsw_int c77 (by decide)]; rfl) (by decide) ?_
            refine P_aload_n dX0_noteComes_104 rfl rfl ?_
            refine P_aload_n dX0_noteComes_105 rfl rfl ?_
            refine P_getr (t := b + 5) dX0_noteComes_106 kX0 fX0_24 rfl (by decide) hq.o hq.r2 hq.k5.1.2 ?_
            refine P_bipush (v := nI 6) dX0_noteComes_109 (by decide) ?_
            refine P_ialdN (x := nI (x 7)) (6) dX0_noteComes_111 hq.k5 rfl (by omega) (by decide) (hx 6 (by decide)) ?_
            refine P_aload_n dX0_noteComes_112 rfl rfl ?_
            refine P_getr (t := b + 5) dX0_noteComes_113 kX0 fX0_24 rfl (by decide) hq.o hq.r2 hq.k5.1.2 ?_
            refine P_bipush (v := nI 7) dX0_noteComes_116 (by decide) ?_
            refine P_ialdN (x := nI (x 8)) (7) dX0_noteComes_118 hq.k5 rfl (by omega) (by decide) (hx 7 (by decide)) ?_
            refine P_aload_n dX0_noteComes_119 rfl rfl ?_
            refine P_getr (t := b + 5) dX0_noteComes_120 kX0 fX0_24 rfl (by decide) hq.o hq.r2 hq.k5.1.2 ?_
            refine P_iconst (v := nI 5) dX0_noteComes_123 (by decide) ?_
            refine P_ialdN (x := nI (x 6)) (5) dX0_noteComes_124 hq.k5 rfl (by omega) (by decide) (hx 5 (by decide)) ?_
            obtain ⟨e4, e5⟩ := hnk.2.1 c77
            rcases em3 ((gM T (x 2) 2 = x 7 ∧ gM T (x 2) 3 = x 8) ∧ gM T (x 2) 1 = 0) (gM T (x 2) 2 < x 7 ∧ (gK T (x 2)).length < 12) with hh | ⟨hh, hk⟩ | ⟨hh, hk⟩
            · refine P_cVs (rest := []) (As := [.int (nI (x 7)), .int (nI (x 8)), .int (nI (x 6))]) dX0_noteComes_125 lX0_190 yk_X2_takesSpeech yv_X2_takesSpeech kX2 rfl (by decide) (hq.m (by omega)).o rfl rfl (Nat.le_of_ble_eq_true rfl) rfl (c_X2_takesHear hq hC1 hN1 (by omega) (by omega) (by omega) (by omega) (x10 c77) hh) (fun v2 ⟨hC2, hO2⟩ => ?_)
              refine P_bif_ne (tgt := 207) dX0_noteComes_128 (by decide) (fun c128 => ?_) (fun c128 => ?_)
              · refine P_vret dX0_noteComes_207 rfl ?_
                refine q_s rfl ⟨hC2.cg ?_, (hO1.tr hO2)⟩
                unfold mread
                rw [if_neg c54, if_pos c77]
                unfold mspeech
                rw [e4, e5, if_pos hh]
              · exact Bool.noConfusion c128
            · refine P_cVs (rest := []) (As := [.int (nI (x 7)), .int (nI (x 8)), .int (nI (x 6))]) dX0_noteComes_125 lX0_190 yk_X2_takesSpeech yv_X2_takesSpeech kX2 rfl (by decide) (hq.m (by omega)).o rfl rfl (Nat.le_of_ble_eq_true rfl) rfl (c_X2_takesKeep hq hC1 hN1 (by omega) (by omega) (by omega) (by omega) (x10 c77) hh hk.1 hk.2) (fun v2 ⟨hC2, hO2⟩ => ?_)
              refine P_bif_ne (tgt := 207) dX0_noteComes_128 (by decide) (fun c128 => ?_) (fun c128 => ?_)
              · refine P_vret dX0_noteComes_207 rfl ?_
                refine q_s rfl ⟨hC2.cg ?_, (hO1.tr hO2)⟩
                unfold mread
                rw [if_neg c54, if_pos c77]
                unfold mspeech
                rw [e4, e5, if_neg hh, if_pos hk]
              · exact Bool.noConfusion c128
            · refine P_cVp (rest := []) (As := [.int (nI (x 7)), .int (nI (x 8)), .int (nI (x 6))]) dX0_noteComes_125 lX0_190 yk_X2_takesSpeech yv_X2_takesSpeech kX2 rfl (by decide) (hq.m (by omega)).o rfl rfl (Nat.le_of_ble_eq_true rfl) rfl (c_X2_takesLate hq hC1 hN1 (by omega) (by omega) (by omega) (by omega) (x10 c77) hh hk) ?_
              refine P_bif_ne (tgt := 207) dX0_noteComes_128 (by decide) (fun c128 => ?_) (fun c128 => ?_)
              · exact Bool.noConfusion c128
              · refine P_aload_n dX0_noteComes_131 rfl rfl ?_
                refine P_dup dX0_noteComes_132 rfl ?_
                refine P_getiN (x := nI (gG T 5)) dX0_noteComes_133 kX0 fX0_51 rfl (by decide) hq.o hC1.g7 ?_
                refine P_iconst (v := nI 1) dX0_noteComes_136 (by decide) ?_
                refine P_iaddN dX0_noteComes_137 ?_
                refine P_puti dX0_noteComes_138 kX0 fX0_51 rfl (by decide) rfl hq.o ?_
                have hC1 : CR c (vU v1 b 7 (nI (gG T 5 + 1))) b (sG T 5 (gG T 5 + 1)) := (hC1.G (k := 7) (x := gG T 5 + 1) (by decide))
                have hO2 : vOw v (vU v1 b 7 (nI (gG T 5 + 1))) b 84 := hO1.u (by omega) (by omega)
                generalize vU v1 b 7 (nI (gG T 5 + 1)) = v3 at hC1 hO2 ⊢
                refine P_goto (tgt := 207) dX0_noteComes_141 (by decide) ?_
                refine P_vret dX0_noteComes_207 rfl ?_
                refine q_s rfl ⟨hC1.cg ?_, hO2⟩
                unfold mread
                rw [if_neg c54, if_pos c77]
                unfold mspeech
                rw [e4, e5, if_neg hh, if_neg hk]
          · replace c77 : x 0 = 1 := by omega
            refine P_tswIn (off := 67) (tgt := 144) dX0_noteComes_77 (by rw [vsw_int c77 (by decide)]; decide) (by rw [vsw_int c77 (by decide)]; decide) (by rw [vsw_int c77 (by decide)]; rfl) (by decide) ?_
            refine P_aload_n dX0_noteComes_144 rfl rfl ?_
            refine P_aload_n dX0_noteComes_145 rfl rfl ?_
            refine P_aload_n dX0_noteComes_146 rfl rfl ?_
            refine P_getr (t := b + 1) dX0_noteComes_147 kX0 fX0_11 rfl (by decide) hq.o hq.r0 hq.k1.1.2 ?_
            refine P_iload_n dX0_noteComes_150 rfl rfl ?_
            refine P_aaldM (t := b + 6 + 13 * (x 1)) (x 1) dX0_noteComes_151 hq.k1 rfl (by omega) (by decide) (hq.e (by omega)) (hq.m (by omega)).o.1.2 ?_
            refine P_aload_n dX0_noteComes_152 rfl rfl ?_
            refine P_getr (t := b + 5) dX0_noteComes_153 kX0 fX0_24 rfl (by decide) hq.o hq.r2 hq.k5.1.2 ?_
            refine P_iconst (v := nI 4) dX0_noteComes_156 (by decide) ?_
            refine P_ialdN (x := nI (x 4)) (4) dX0_noteComes_157 hq.k5 rfl (by omega) (by decide) (hx 4 (by decide)) ?_
            refine P_cVs (rest := []) (As := [.ref (b + 6 + 13 * (x 2)), .ref (b + 6 + 13 * (x 1)), .int (nI (x 4))]) dX0_noteComes_158 lX0_193 yk_X0_answerCall yv_X0_answerCall kX0 rfl (by decide) hq.o rfl rfl (Nat.le_of_ble_eq_true rfl) rfl (c_X0_answerCall hq hC1 hN1 (by omega) hx26 hx16 x4) (fun v6 ⟨hC4, hO5⟩ => ?_)
            replace hO5 := hO1.tr hO5
            refine P_goto (tgt := 207) dX0_noteComes_161 (by decide) ?_
            refine P_vret dX0_noteComes_207 rfl ?_
            refine q_s rfl ⟨hC4.cg ?_, hO5⟩
            unfold mread
            rw [if_neg c54, if_neg (by omega), if_pos c77]
            rfl
          · replace c77 : x 0 = 2 := by omega
            refine P_tswIn (off := 87) (tgt := 164) dX0_noteComes_77 (by rw [vsw_int c77 (by decide)]; decide) (by rw [vsw_int c77 (by decide)]; decide) (by rw [vsw_int c77 (by decide)]; rfl) (by decide) ?_
            refine P_aload_n dX0_noteComes_164 rfl rfl ?_
            refine P_aload_n dX0_noteComes_165 rfl rfl ?_
            refine P_getr (t := b + 5) dX0_noteComes_166 kX0 fX0_24 rfl (by decide) hq.o hq.r2 hq.k5.1.2 ?_
            obtain ⟨e1, hpo⟩ := hnk.2.2.1 c77
            rcases Classical.em (gM T (x 2) 9 = 0 ∨ x 4 ≠ gM T (x 2) 8) with hz | hz
            · refine P_cVp (rest := []) (As := [.ref (b + 5)]) dX0_noteComes_169 lX0_197 yk_X2_countsAnswer yv_X2_countsAnswer kX2 rfl (by decide) (hq.m (by omega)).o rfl rfl (Nat.le_of_ble_eq_true rfl) rfl (c_X2_countsNo hq hC1 hN1 (by omega) hx26 hx hxN hz) ?_
              refine P_bif_eq (tgt := 207) dX0_noteComes_172 (by decide) (fun c172 => ?_) (fun c172 => ?_)
              · refine P_vret dX0_noteComes_207 rfl ?_
                refine q_s rfl ⟨hC1.cg ?_, hO1⟩
                unfold mread
                rw [if_neg c54, if_neg (by omega), if_neg (by omega), if_pos c77]
                unfold mreplied
                rw [if_neg (fun q => hz.elim (fun e => by have := (o6 e).1; omega) (fun e => e q.symm))]
              · exact Bool.noConfusion c172
            · have h9 : gM T (x 2) 9 ≠ 0 := fun q => hz (Or.inl q)
              have h4 : x 4 = gM T (x 2) 8 := Decidable.of_not_not (fun q => hz (Or.inr q))
              refine P_cVs (rest := []) (As := [.ref (b + 5)]) dX0_noteComes_169 lX0_197 yk_X2_countsAnswer yv_X2_countsAnswer kX2 rfl (by decide) (hq.m (by omega)).o rfl rfl (Nat.le_of_ble_eq_true rfl) rfl (c_X2_countsYes hq hC1 hN1 (by omega) hx26 hx hxN h9 h4) (fun v2 ⟨hC2, hO2⟩ => ?_)
              refine P_bif_eq (tgt := 207) dX0_noteComes_172 (by decide) (fun c172 => ?_) (fun c172 => ?_)
              · refine P_vret dX0_noteComes_207 rfl ?_
                refine q_s rfl ⟨hC2.cg ?_, (hO1.tr hO2)⟩
                unfold mread
                rw [if_neg c54, if_neg (by omega), if_neg (by omega), if_pos c77]
                unfold mreplied
                rw [if_pos h4.symm]
                unfold mans
                rw [if_neg (of_decide_eq_false c172)]
              · refine P_aload_n dX0_noteComes_175 rfl rfl ?_
                refine P_aload_n dX0_noteComes_176 rfl rfl ?_
                refine P_cVs (rest := []) (As := [.ref (b + 6 + 13 * (x 2))]) dX0_noteComes_177 lX0_167 yk_X0_rollStands yv_X0_rollStands kX0 rfl (by decide) hq.o rfl rfl (Nat.le_of_ble_eq_true rfl) rfl (c_X0_rollStands hq hC2 (hN1.put hxN) (by omega) x2 (by rw [put_o (Or.inr (by decide))]; exact h9) (of_decide_eq_true c172) (by rw [put_o (Or.inr (by decide)), put_o (Or.inr (by decide))]; exact (o7 h9).1) (by rw [put_o (Or.inr (by decide)), put_o (Or.inr (by decide))]; exact (o7 h9).2.1)) (fun v9 ⟨hC7, hO8⟩ => ?_)
                replace hO8 := (hO1.tr hO2).tr hO8
                refine P_goto (tgt := 207) dX0_noteComes_180 (by decide) ?_
                refine P_vret dX0_noteComes_207 rfl ?_
                refine q_s rfl ⟨hC7.cg ?_, hO8⟩
                unfold mread
                rw [if_neg c54, if_neg (by omega), if_neg (by omega), if_pos c77]
                unfold mreplied
                rw [if_pos h4.symm]
                unfold mans
                rw [if_pos (of_decide_eq_true c172)]
      · refine P_aload_n dX0_noteComes_57 rfl rfl ?_
        refine P_getr (t := b + 2) dX0_noteComes_58 kX0 fX0_20 rfl (by decide) hq.o hq.r1 hq.k2.1.2 ?_
        refine P_dup dX0_noteComes_61 rfl ?_
        refine P_getiN (x := nI (gG T 3)) dX0_noteComes_62 kX3 fX0_187 rfl (by decide) hq.k2 hC1.p4 ?_
        refine P_iconst (v := nI 1) dX0_noteComes_65 (by decide) ?_
        refine P_iaddN dX0_noteComes_66 ?_
        refine P_puti dX0_noteComes_67 kX3 fX0_187 rfl (by decide) rfl hq.k2 ?_
        have hC10 : CR c (vU v1 (b + 2) 4 (nI (gG T 3 + 1))) b (sG T 3 (gG T 3 + 1)) := hC1.G3
        have hO11 : vOw v (vU v1 (b + 2) 4 (nI (gG T 3 + 1))) b 84 := hO1.u (by omega) (by omega)
        generalize vU v1 (b + 2) 4 (nI (gG T 3 + 1)) = v12 at hC10 hO11 ⊢
        refine P_vret dX0_noteComes_70 rfl ?_
        refine q_s rfl ⟨hC10.cg ?_, hO11⟩
        unfold mread
        rw [if_pos c54]
    · exact Bool.noConfusion c38
set_option maxHeartbeats 4000000 in
set_option maxRecDepth 100000 in
theorem c_X0_letTicksGo {σ : vS} {v : vV} {c b : Nat} {S : mS} {n : Nat} (hq : kLC σ b) (hC : CR c v b S) {B : Nat} (hN : NB c S B) (hB : B + 100000 < 1000000000) (hI : Iv c 1 S) (hn : n ≤ 60) : vC M_X0_letTicksGo yX0_letTicksGo [.ref (b), .int (nI (n))] (σ, v) (qS σ none (kPo c v b (mticks n S))) := by
  have hc6 := hC.c6
  have hO : vOw v v b 84 := vOw.rf
  refine vC_of (ls := [some (.ref (b)), some (.int (nI (n))), none, none]) pn_X0 rfl rfl (Nat.le_of_ble_eq_true rfl) rfl ?_
  refine P_iconst (v := nI 0) dX0_letTicksGo_0 (by decide) ?_
  refine P_istore_n (ls2 := [some (.ref (b)), some (.int (nI (n))), some (.int (nI (0))), none]) dX0_letTicksGo_1 rfl (by decide) rfl ?_
  have hL2 : ∀ (n2 : Nat) (i : Nat) (v1 : vV), (i ≤ n) → (i + n2 = n + 1) → (CR c v1 b (mticks i S)) → (vOw v v1 b 84) → vP M_X0_letTicksGo 2 [some (.ref (b)), some (.int (nI (n))), some (.int (nI (i))), none] [] ((vRm M_X0_letTicksGo).cells, (vRm M_X0_letTicksGo).slots) (σ, v1) (vN (qS σ none (kPo c v b (mticks n S)))) := by
    intro n2
    induction n2 with
    | zero =>
      intro i v1 g1 g2 hCi hOi
      exact absurd g2 (by omega)
    | succ n2 ih2 =>
      intro i v1 g1 g2 hCi hOi
      refine P_iload_n dX0_letTicksGo_2 rfl rfl ?_
      refine P_iload_n dX0_letTicksGo_3 rfl rfl ?_
      refine P_icmp_geN (tgt := 110) dX0_letTicksGo_4 (by decide) (by omega) (by omega) (fun c4 => ?_) (fun c4 => ?_)
      · refine P_vret dX0_letTicksGo_110 rfl ?_
        refine q_s rfl ⟨?_, hOi⟩
        rw [show i = n by omega] at hCi
        exact hCi
      · have hNi : NB c (mticks i S) (B + 1135 * i) := hN.ticks i
        have hIi : Iv c 1 (mticks i S) := hI.ticks hN i
        generalize hU : mticks i S = U at hCi hNi hIi
        have hgt := hNi.g (i := 1) (by decide)
        refine P_aload_n dX0_letTicksGo_7 rfl rfl ?_
        refine P_dup dX0_letTicksGo_8 rfl ?_
        refine P_getiN (x := nI (gG U 1)) dX0_letTicksGo_9 kX0 fX0_42 rfl (by decide) hq.o hCi.g4 ?_
        refine P_iconst (v := nI 1) dX0_letTicksGo_12 (by decide) ?_
        refine P_iaddN dX0_letTicksGo_13 ?_
        refine P_puti dX0_letTicksGo_14 kX0 fX0_42 rfl (by decide) rfl hq.o ?_
        have hC1 : CR c (vU v1 b 4 (nI (gG U 1 + 1))) b (sG U 1 (gG U 1 + 1)) := (hCi.G (k := 4) (x := gG U 1 + 1) (by decide))
        have hO2 : vOw v (vU v1 b 4 (nI (gG U 1 + 1))) b 84 := hOi.u (by omega) (by omega)
        generalize vU v1 b 4 (nI (gG U 1 + 1)) = v3 at hC1 hO2 ⊢
        refine P_aload_n dX0_letTicksGo_17 rfl rfl ?_
        refine P_getr (t := b + 2) dX0_letTicksGo_18 kX0 fX0_20 rfl (by decide) hq.o hq.r1 hq.k2.1.2 ?_
        refine P_getiN (x := nI ((gN (sG U 1 (gG U 1 + 1))).length)) dX0_letTicksGo_21 kX3 fX0_170 rfl (by decide) hq.k2 hC1.p3 ?_
        refine P_istore_n (ls2 := [some (.ref (b)), some (.int (nI (n))), some (.int (nI (i))), some (.int (nI ((gN (sG U 1 (gG U 1 + 1))).length)))]) dX0_letTicksGo_24 rfl (by decide) rfl ?_
        have hJ53 : ∀ (v2 : vV), (CR c v2 b (mDS U)) → (vOw v v2 b 84) → vP M_X0_letTicksGo 53 [some (.ref (b)), some (.int (nI (n))), some (.int (nI (i))), none] [] ((vRm M_X0_letTicksGo).cells, (vRm M_X0_letTicksGo).slots) (σ, v2) (vN (qS σ none (kPo c v b (mticks n S)))) := by
          intro v2 hCd hOd
          refine P_iconst (v := nI 0) dX0_letTicksGo_53 (by decide) ?_
          refine P_istore_n (ls2 := [some (.ref (b)), some (.int (nI (n))), some (.int (nI (i))), some (.int (nI (0)))]) dX0_letTicksGo_54 rfl (by decide) rfl ?_
          have hL55 : ∀ (n55 : Nat) (k : Nat) (v3 : vV), (k ≤ c) → (k + n55 = c + 1) → (CR c v3 b (mW U k)) → (vOw v v3 b 84) → vP M_X0_letTicksGo 55 [some (.ref (b)), some (.int (nI (n))), some (.int (nI (i))), some (.int (nI (k)))] [] ((vRm M_X0_letTicksGo).cells, (vRm M_X0_letTicksGo).slots) (σ, v3) (vN (qS σ none (kPo c v b (mticks n S)))) := by
            intro n55
            induction n55 with
            | zero =>
              intro k v3 h1 h2 hCk hOk
              exact absurd h2 (by omega)
            | succ n55 ih55 =>
              intro k v3 h1 h2 hCk hOk
              have hNk : NB c (mW U k) (B + 1135 * i + 1135) := hNi.mWk h1
              have hIk : Iv c 1 (mW U k) := hIi.mWk hNi h1
              refine P_iload_n dX0_letTicksGo_55 rfl rfl ?_
              refine P_aload_n dX0_letTicksGo_56 rfl rfl ?_
              refine P_getiN (x := nI (c)) dX0_letTicksGo_57 kX0 fX0_38 rfl (by decide) hq.o hCk.g3 ?_
              refine P_icmp_geN (tgt := 104) dX0_letTicksGo_60 (by decide) (by omega) (by omega) (fun c60 => ?_) (fun c60 => ?_)
              · refine P_iinc (v := nI (i + 1)) (ls2 := [some (.ref (b)), some (.int (nI (n))), some (.int (nI (i + 1))), some (.int (nI (k)))]) dX0_letTicksGo_104 rfl (nI_inc _ 1) (by decide) rfl ?_
                refine P_goto (tgt := 2) dX0_letTicksGo_107 (by decide) ?_
                refine P_weak (ls2 := [some (.ref (b)), some (.int (nI (n))), some (.int (nI (i + 1))), none]) ⟨rfl, rfl, rfl, trivial⟩ ?_
                have ek : k = c := by omega
                rw [ek] at hCk
                refine ih2 (i + 1) v3 (by omega) (by omega) ?_ hOk
                rw [show mticks (i + 1) S = mtick U from by rw [← hU]; rfl, ← mW_t hNi.c0]
                exact hCk
              · obtain ⟨F, hMP, -⟩ := hIk.2
                obtain ⟨hmo, hao⟩ := hMP k (by omega)
                refine P_aload_n dX0_letTicksGo_63 rfl rfl ?_
                refine P_getr (t := b + 1) dX0_letTicksGo_64 kX0 fX0_11 rfl (by decide) hq.o hq.r0 hq.k1.1.2 ?_
                refine P_iload_n dX0_letTicksGo_67 rfl rfl ?_
                refine P_aaldM (t := b + 6 + 13 * k) (k) dX0_letTicksGo_68 hq.k1 rfl (by omega) (by decide) (hq.e (by omega)) (hq.m (by omega)).o.1.2 ?_
                refine P_aload_n dX0_letTicksGo_69 rfl rfl ?_
                refine P_getiN (x := nI (gG (mW U k) 1)) dX0_letTicksGo_70 kX0 fX0_42 rfl (by decide) hq.o hCk.g4 ?_
                refine P_aload_n dX0_letTicksGo_73 rfl rfl ?_
                refine P_getiN (x := nI (gG (mW U k) 7)) dX0_letTicksGo_74 kX0 fX0_45 rfl (by decide) hq.o hCk.g5 ?_
                refine P_cVp (rest := []) (As := [.int (nI (gG (mW U k) 1)), .int (nI (gG (mW U k) 7))]) dX0_letTicksGo_77 lX0_177 yk_X2_isOutOfPatience yv_X2_isOutOfPatience kX2 rfl (by decide) (hq.m (by omega)).o rfl rfl (Nat.le_of_ble_eq_true rfl) rfl (c_X2_isOutOfPatience hq hCk hNk (by omega) (by omega) hIk.1.2.2.1) ?_
                refine P_bif_eq (tgt := 98) dX0_letTicksGo_80 (by decide) (fun c80 => ?_) (fun c80 => ?_)
                · refine P_iinc (v := nI (k + 1)) (ls2 := [some (.ref (b)), some (.int (nI (n))), some (.int (nI (i))), some (.int (nI (k + 1)))]) dX0_letTicksGo_98 rfl (nI_inc _ 1) (by decide) rfl ?_
                  refine P_goto (tgt := 55) dX0_letTicksGo_101 (by decide) ?_
                  refine ih55 (k + 1) v3 (by omega) (by omega) ?_ hOk
                  rw [mW_n (fun q => of_decide_eq_false c80 ⟨q.1, hmo.h8.mp q.2.1, q.2.2⟩)]
                  exact hCk
                · have hpq := of_decide_eq_true c80
                  have h8p := hmo.h8.mpr hpq.2.1
                  refine P_aload_n dX0_letTicksGo_83 rfl rfl ?_
                  refine P_iload_n dX0_letTicksGo_84 rfl rfl ?_
                  refine P_aload_n dX0_letTicksGo_85 rfl rfl ?_
                  refine P_getr (t := b + 1) dX0_letTicksGo_86 kX0 fX0_11 rfl (by decide) hq.o hq.r0 hq.k1.1.2 ?_
                  refine P_iload_n dX0_letTicksGo_89 rfl rfl ?_
                  refine P_aaldM (t := b + 6 + 13 * k) (k) dX0_letTicksGo_90 hq.k1 rfl (by omega) (by decide) (hq.e (by omega)) (hq.m (by omega)).o.1.2 ?_
                  refine P_getiN (x := nI (gM (mW U k) k 10)) dX0_letTicksGo_91 kX2 fX0_180 rfl (by decide) (hq.m (by omega)).o (hCk.m (by omega)).n12 ?_
                  refine P_cVs (rest := []) (As := [.int (nI (k)), .int (nI (gM (mW U k) k 10))]) dX0_letTicksGo_94 lX0_139 yk_X0_callRoll yv_X0_callRoll kX0 rfl (by decide) hq.o rfl rfl (Nat.le_of_ble_eq_true rfl) rfl (c_X0_callRoll hq hCk hNk (by omega) (by omega) (hNk.m10 k) (hao hpq.2.1).1 hmo.1) (fun v6 ⟨hC4, hO5⟩ => ?_)
                  replace hO5 := hOk.tr hO5
                  refine P_pop dX0_letTicksGo_97 rfl ?_
                  refine P_iinc (v := nI (k + 1)) (ls2 := [some (.ref (b)), some (.int (nI (n))), some (.int (nI (i))), some (.int (nI (k + 1)))]) dX0_letTicksGo_98 rfl (nI_inc _ 1) (by decide) rfl ?_
                  refine P_goto (tgt := 55) dX0_letTicksGo_101 (by decide) ?_
                  refine ih55 (k + 1) v6 (by omega) (by omega) ?_ hO5
                  rw [mW_s hpq.1 (by omega) hpq.2.2]
                  exact hC4
          exact hL55 (c + 1) 0 v2 (by omega) (by omega) (by have e9 : mW U 0 = mDS U := (by unfold mW; exact ite_self _); rw [e9]; exact hCd) hOd
        have hL25 : ∀ (n25 : Nat) (l : Nat) (v2 : vV) (S1 : mS) (B1 : Nat), (l < n25) → (B1 + 7 * l ≤ B + 1135 * i + 1051) → (Iv c 0 S1) → (NB c S1 B1) → (mdrain l S1 = mDS U) → (CR c v2 b S1) → (vOw v v2 b 84) → vP M_X0_letTicksGo 25 [some (.ref (b)), some (.int (nI (n))), some (.int (nI (i))), some (.int (nI (l)))] [] ((vRm M_X0_letTicksGo).cells, (vRm M_X0_letTicksGo).slots) (σ, v2) (vN (qS σ none (kPo c v b (mticks n S)))) := by
          intro n25
          induction n25 with
          | zero =>
            intro l v2 S1 B1 g1 hB1 hI1 hN1 hfin hC1 hO1
            exact absurd g1 (Nat.not_lt_zero _)
          | succ n25 ih25 =>
            intro l v2 S1 B1 g1 hB1 hI1 hN1 hfin hC1 hO1
            refine P_iload_n dX0_letTicksGo_25 rfl rfl ?_
            refine P_if_leN (tgt := 53) dX0_letTicksGo_26 (by decide) (by have := hN1.b.2.2; have := hNi.b.2.2; omega) (fun c26 => ?_) (fun c26 => ?_)
            · refine P_weak (ls2 := [some (.ref (b)), some (.int (nI (n))), some (.int (nI (i))), none]) ⟨rfl, rfl, rfl, trivial⟩ ?_
              rw [show l = 0 by omega] at hfin
              rw [← hfin] at hJ53
              exact hJ53 v2 hC1 hO1
            · refine P_aload_n dX0_letTicksGo_29 rfl rfl ?_
              refine P_getr (t := b + 2) dX0_letTicksGo_30 kX0 fX0_20 rfl (by decide) hq.o hq.r1 hq.k2.1.2 ?_
              refine P_aload_n dX0_letTicksGo_33 rfl rfl ?_
              refine P_getiN (x := nI (gG S1 1)) dX0_letTicksGo_34 kX0 fX0_42 rfl (by decide) hq.o hC1.g4 ?_
              refine P_cVp (rest := []) (As := [.int (nI (gG S1 1))]) dX0_letTicksGo_37 lX0_171 yk_X3_isDue yv_X3_isDue kX3 rfl (by decide) hq.k2 rfl rfl (Nat.le_of_ble_eq_true rfl) rfl (c_X3_isDue hq hC1 hN1 (by omega) (by have := hN1.g (i := 1) (by decide); omega)) ?_
              refine P_bif_eq (tgt := 53) dX0_letTicksGo_40 (by decide) (fun c40 => ?_) (fun c40 => ?_)
              · refine P_weak (ls2 := [some (.ref (b)), some (.int (nI (n))), some (.int (nI (i))), none]) ⟨rfl, rfl, rfl, trivial⟩ ?_
                have hst : ¬ mdue S1 := fun q => of_decide_eq_false c40 ⟨q.1, Nat.le_of_eq q.2⟩
                rw [drain_stop hst] at hfin
                rw [hfin] at hC1
                exact hJ53 v2 hC1 hO1
              · have hdue : mdue S1 := by
                  have q := of_decide_eq_true c40
                  have g9 := hI1.1.2.2.2.2.2 _ (head_mem q.1)
                  exact ⟨q.1, by omega⟩
                refine P_aload_n dX0_letTicksGo_43 rfl rfl ?_
                refine P_cVs (rest := []) (As := []) dX0_letTicksGo_44 lX0_174 yk_X0_noteComes yv_X0_noteComes kX0 rfl (by decide) hq.o rfl rfl (Nat.le_of_ble_eq_true rfl) rfl (c_X0_noteComes hq hC1 hN1 (by omega) hdue.1 hI1) (fun v3 ⟨hC3, hO3⟩ => ?_)
                refine P_iinc (v := nI (l - 1)) (ls2 := [some (.ref (b)), some (.int (nI (n))), some (.int (nI (i))), some (.int (nI (l - 1)))]) dX0_letTicksGo_47 rfl (nI_dec _ 1 (by omega)) (by decide) rfl ?_
                refine P_goto (tgt := 25) dX0_letTicksGo_50 (by decide) ?_
                exact ih25 (l - 1) v3 (mcomes S1) (B1 + 7) (by omega) (by omega) (hI1.comes hN1 hdue.1) (hN1.comes hdue.1) (by rw [← hfin, ← drain_step hdue (l - 1)]; exact congrArg (fun z => mdrain z S1) (by omega)) hC3 (hO1.tr hO3)
        have hl9 := hNi.b.2.2
        exact hL25 ((gN U).length + 1) (gN U).length v3 (sG U 1 (gG U 1 + 1)) (B + 1135 * i + 1) (Nat.lt_succ_self _) (by omega) hIi.time hNi.time rfl hC1 hO2
  exact hL2 (n + 1) 0 v (by omega) (by omega) hC hO
