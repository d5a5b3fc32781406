
theorem mcsay_K {c a : Nat} {S : mS} (hc : c ≤ 6) (ha : a < 1000) : mcsay c S (nI a) = decide (a < c ∧ gM S a 1 = 0 ∧ gM S a 7 < 4) := by
  unfold mcsay
  rw [mb_n (by omega), nI_toInt (by omega)]
  by_cases h : a < c
  · rw [decide_eq_true h, Bool.true_and]
    exact decide_eq_decide.mpr ⟨fun q => ⟨h, q⟩, fun q => q.2⟩
  · rw [decide_eq_false h, Bool.false_and]
    exact (decide_eq_false (fun q => h q.1)).symm
theorem mccall_K {c a s : Nat} {S : mS} (hc : c ≤ 6) (ha : a < 1000) (hs : s < 1000) : mccall c S (nI a) (nI s) = decide (a < c ∧ (s < 2 ^ c ∧ s.testBit a = true) ∧ gM S a 1 ≠ 2) := by
  unfold mccall
  rw [mb_n (by omega), nI_toInt (by omega)]
  show (decide (a < c) && (mset c a (nI s) && decide (¬ gM S a 1 = 2))) = _
  rw [mset_n (by omega), Bool.eq_iff_iff]
  simp only [Bool.and_eq_true, decide_eq_true_iff, ne_eq]
theorem mgone_K {c a : Nat} {S : mS} (hc : c ≤ 6) (ha : a < 1000) : mgone c S (nI a) = decide (a < c ∧ gM S a 1 = 2) := by
  unfold mgone
  rw [mb_n (by omega), nI_toInt (by omega)]
  by_cases h : a < c
  · rw [decide_eq_true h, Bool.true_and]
    exact decide_eq_decide.mpr ⟨fun q => ⟨h, q⟩, fun q => q.2⟩
  · rw [decide_eq_false h, Bool.false_and]
    exact (decide_eq_false (fun q => h q.1)).symm

theorem gf_t {b : Bool} (h : b = false) : ¬ b = true := by rw [h]; exact Bool.noConfusion
set_option maxHeartbeats 4000000 in
set_option maxRecDepth 100000 in
theorem c_X7_turnGoing {σ : vS} {v : vV} {c q : Nat} {S : mS} (hq : LR σ q) (hR : RR c v (q + 3) S) {B : Nat} (hN : NB c S B) (hB : B + 100000 < 1000000000) (hI : Iv c 1 S) {m : Nat} {z : Bool} (hm : m < 6) : vC M_X7_turnGoing yX7_turnGoing [.ref (q), .int (nI (m)), .int (vb (z))] (σ, v) (qS σ none (fun v9 => RR (if z = true then (kLeave (c, S) m).2 else (kBack (c, S) m).2).1 v9 (q + 3) (if z = true then (kLeave (c, S) m).2 else (kBack (c, S) m).2).2 ∧ vO2 v v9 (q + 3) (q + 7))) := by
  have hc6 := hR.c6
  refine vC_of (ls := [some (.ref (q)), some (.int (nI (m))), some (.int (vb (z)))]) pn_X7 rfl rfl (Nat.le_of_ble_eq_true rfl) rfl ?_
  refine P_iload_n dX7_turnGoing_0 rfl rfl ?_
  refine P_bif_eq (tgt := 38) dX7_turnGoing_1 (by decide) (fun c1 => ?_) (fun c1 => ?_)
  · refine P_iload_n dX7_turnGoing_38 rfl rfl ?_
    refine P_bif_ne (tgt := 62) dX7_turnGoing_39 (by decide) (fun c39 => ?_) (fun c39 => ?_)
    · refine P_vret dX7_turnGoing_62 rfl ?_
      have e9 : (if z = true then (kLeave (c, S) m).2 else (kBack (c, S) m).2) = (c, S) := by rw [if_pos (by first | exact c1 | exact c39), show kLeave (c, S) m = (false, (c, S)) from if_neg (fun q9 => by rw [c39] at c1; cases c1)]
      exact q_s rfl (by rw [e9]; exact ⟨hR, vO2.rf⟩)
    · refine P_aload_n dX7_turnGoing_42 rfl rfl ?_
      refine P_getr (t := q + 3) dX7_turnGoing_43 kX7 fX7_16 rfl (by decide) hq.o hq.r3 hq.k3.1.2 ?_
      refine P_iload_n dX7_turnGoing_46 rfl rfl ?_
      refine P_cSp (rest := []) (As := [.ref (q + 3), .int (nI (m))]) dX7_turnGoing_47 lX7_169 yk_X7_isGone ys_X7_isGone (by decide) rfl rfl (Nat.le_of_ble_eq_true rfl) rfl (c_X7_isGone hq.k3 hR hN) ?_
      refine P_top (y := vb (decide (m < c ∧ gM S m 1 = 2))) (by rw [mgone_K hc6 (by omega)]) ?_
      refine P_bif_eq (tgt := 62) dX7_turnGoing_50 (by decide) (fun c50 => ?_) (fun c50 => ?_)
      · refine P_vret dX7_turnGoing_62 rfl ?_
        have e9 : (if z = true then (kLeave (c, S) m).2 else (kBack (c, S) m).2) = (c, S) := by rw [if_neg (by first | exact gf_t c1 | exact gf_t c39), show kBack (c, S) m = (false, (c, S)) from if_neg (of_decide_eq_false c50)]
        exact q_s rfl (by rw [e9]; exact ⟨hR, vO2.rf⟩)
      · obtain ⟨z1, z6⟩ := of_decide_eq_true c50
        refine P_aload_n dX7_turnGoing_53 rfl rfl ?_
        refine P_getr (t := q + 3) dX7_turnGoing_54 kX7 fX7_16 rfl (by decide) hq.o hq.r3 hq.k3.1.2 ?_
        refine P_iload_n dX7_turnGoing_57 rfl rfl ?_
        refine P_cSs (rest := []) (As := [.ref (q + 3), .int (nI (m))]) dX7_turnGoing_58 lX7_175 yk_X7_backOn ys_X7_backOn (by decide) rfl rfl (Nat.le_of_ble_eq_true rfl) rfl (c_X7_backOn hq.k3 hR z1) (fun v3 ⟨hR3, hO3⟩ => ?_)
        refine P_pop dX7_turnGoing_61 rfl ?_
        refine P_vret dX7_turnGoing_62 rfl ?_
        have e9 : (if z = true then (kLeave (c, S) m).2 else (kBack (c, S) m).2) = (c, mback S (m)) := by rw [if_neg (by first | exact gf_t c1 | exact gf_t c39), show kBack (c, S) m = (true, (c, mback S m)) from if_pos ⟨z1, z6⟩]
        exact q_s rfl (by rw [e9]; exact ⟨hR3, hO3.to2⟩)
  · refine P_aload_n dX7_turnGoing_4 rfl rfl ?_
    refine P_getr (t := q + 3) dX7_turnGoing_5 kX7 fX7_16 rfl (by decide) hq.o hq.r3 hq.k3.1.2 ?_
    refine P_iload_n dX7_turnGoing_8 rfl rfl ?_
    refine P_cSp (rest := []) (As := [.ref (q + 3), .int (nI (m))]) dX7_turnGoing_9 lX7_112 yk_X7_isMember ys_X7_isMember (by decide) rfl rfl (Nat.le_of_ble_eq_true rfl) rfl (c_X7_isMember hq.k3 hR) ?_
    refine P_top (y := vb (decide (m < c))) (by rw [mb_n (by omega)]) ?_
    refine P_bif_eq (tgt := 38) dX7_turnGoing_12 (by decide) (fun c12 => ?_) (fun c12 => ?_)
    · refine P_iload_n dX7_turnGoing_38 rfl rfl ?_
      refine P_bif_ne (tgt := 62) dX7_turnGoing_39 (by decide) (fun c39 => ?_) (fun c39 => ?_)
      · refine P_vret dX7_turnGoing_62 rfl ?_
        have e9 : (if z = true then (kLeave (c, S) m).2 else (kBack (c, S) m).2) = (c, S) := by rw [if_pos (by first | exact c1 | exact c39), show kLeave (c, S) m = (false, (c, S)) from if_neg (fun q9 => absurd q9.1 (of_decide_eq_false c12))]
        exact q_s rfl (by rw [e9]; exact ⟨hR, vO2.rf⟩)
      · exact absurd c1 (by rw [c39]; exact Bool.noConfusion)
    · have z1 := of_decide_eq_true c12
      refine P_aload_n dX7_turnGoing_15 rfl rfl ?_
      refine P_getr (t := q + 3) dX7_turnGoing_16 kX7 fX7_16 rfl (by decide) hq.o hq.r3 hq.k3.1.2 ?_
      refine P_iload_n dX7_turnGoing_19 rfl rfl ?_
      refine P_cSp (rest := []) (As := [.ref (q + 3), .int (nI (m))]) dX7_turnGoing_20 lX7_169 yk_X7_isGone ys_X7_isGone (by decide) rfl rfl (Nat.le_of_ble_eq_true rfl) rfl (c_X7_isGone hq.k3 hR hN) ?_
      refine P_top (y := vb (decide (m < c ∧ gM S m 1 = 2))) (by rw [mgone_K hc6 (by omega)]) ?_
      refine P_bif_ne (tgt := 38) dX7_turnGoing_23 (by decide) (fun c23 => ?_) (fun c23 => ?_)
      · refine P_iload_n dX7_turnGoing_38 rfl rfl ?_
        refine P_bif_ne (tgt := 62) dX7_turnGoing_39 (by decide) (fun c39 => ?_) (fun c39 => ?_)
        · refine P_vret dX7_turnGoing_62 rfl ?_
          have e9 : (if z = true then (kLeave (c, S) m).2 else (kBack (c, S) m).2) = (c, S) := by rw [if_pos (by first | exact c1 | exact c39), show kLeave (c, S) m = (false, (c, S)) from if_neg (fun q9 => q9.2 (of_decide_eq_true c23).2)]
          exact q_s rfl (by rw [e9]; exact ⟨hR, vO2.rf⟩)
        · exact absurd c1 (by rw [c39]; exact Bool.noConfusion)
      · have z5 := of_decide_eq_false c23
        refine P_aload_n dX7_turnGoing_26 rfl rfl ?_
        refine P_getr (t := q + 3) dX7_turnGoing_27 kX7 fX7_16 rfl (by decide) hq.o hq.r3 hq.k3.1.2 ?_
        refine P_iload_n dX7_turnGoing_30 rfl rfl ?_
        refine P_cSs (rest := []) (As := [.ref (q + 3), .int (nI (m))]) dX7_turnGoing_31 lX7_172 yk_X7_leaveOn ys_X7_leaveOn (by decide) rfl rfl (Nat.le_of_ble_eq_true rfl) rfl (c_X7_leaveOn hq.k3 hR z1) (fun v3 ⟨hR3, hO3⟩ => ?_)
        refine P_pop dX7_turnGoing_34 rfl ?_
        refine P_goto (tgt := 62) dX7_turnGoing_35 (by decide) ?_
        refine P_vret dX7_turnGoing_62 rfl ?_
        have e9 : (if z = true then (kLeave (c, S) m).2 else (kBack (c, S) m).2) = (c, mleave S (m)) := by rw [if_pos c1, show kLeave (c, S) m = (true, (c, mleave S m)) from if_pos ⟨z1, fun q9 => z5 ⟨z1, q9⟩⟩]
        exact q_s rfl (by rw [e9]; exact ⟨hR3, hO3.to2⟩)
set_option maxHeartbeats 4000000 in
set_option maxRecDepth 100000 in
theorem c_X7_turn {σ : vS} {v : vV} {c q : Nat} {S : mS} (hq : LR σ q) (hR : RR c v (q + 3) S) {B : Nat} (hN : NB c S B) (hB : B + 100000 < 1000000000) (hI : Iv c 1 S) {r : Nat} (hr9 : r < 2147483648) : vC M_X7_turn yX7_turn [.ref (q), .int (nI (r))] (σ, v) (qS σ none (fun v9 => RR (mturn r (c, S)).1 v9 (q + 3) (mturn r (c, S)).2 ∧ vO2 v v9 (q + 3) (q + 7))) := by
  have hc6 := hR.c6
  refine vC_of (ls := [some (.ref (q)), some (.int (nI (r))), none, none, none, none]) pn_X7 rfl rfl (Nat.le_of_ble_eq_true rfl) rfl ?_
  refine P_iload_n dX7_turn_0 rfl rfl ?_
  refine P_bipush (v := nI 16) dX7_turn_1 (by decide) ?_
  refine P_idivN dX7_turn_3 (by omega) (by decide) (by decide) ?_
  refine P_istore_n (ls2 := [some (.ref (q)), some (.int (nI (r))), some (.int (nI (r / 16))), none, none, none]) dX7_turn_4 rfl (by decide) rfl ?_
  refine P_iload_n dX7_turn_5 rfl rfl ?_
  refine P_bipush (v := nI 6) dX7_turn_6 (by decide) ?_
  refine P_iremN dX7_turn_8 (by omega) (by decide) (by decide) ?_
  refine P_istore_n (ls2 := [some (.ref (q)), some (.int (nI (r))), some (.int (nI (r / 16))), some (.int (nI ((r / 16) % 6))), none, none]) dX7_turn_9 rfl (by decide) rfl ?_
  refine P_iload_n dX7_turn_10 rfl rfl ?_
  refine P_bipush (v := nI 16) dX7_turn_11 (by decide) ?_
  refine P_iremN dX7_turn_13 (by omega) (by decide) (by decide) ?_
  refine P_istore (ls2 := [some (.ref (q)), some (.int (nI (r))), some (.int (nI (r / 16))), some (.int (nI ((r / 16) % 6))), some (.int (nI (r % 16))), none]) dX7_turn_14 (by decide) rfl ?_
  refine P_iload dX7_turn_16 rfl ?_
  refine P_if_neN (tgt := 47) dX7_turn_18 (by decide) (by omega) (fun c18 => ?_) (fun c18 => ?_)
  · refine P_iload dX7_turn_47 rfl ?_
    refine P_bipush (v := nI 6) dX7_turn_49 (by decide) ?_
    refine P_icmp_geN (tgt := 77) dX7_turn_51 (by decide) (by omega) (by omega) (fun c51 => ?_) (fun c51 => ?_)
    · refine P_iload dX7_turn_77 rfl ?_
      refine P_bipush (v := nI 8) dX7_turn_79 (by decide) ?_
      refine P_icmp_geN (tgt := 135) dX7_turn_81 (by decide) (by omega) (by omega) (fun c81 => ?_) (fun c81 => ?_)
      · refine P_iload dX7_turn_135 rfl ?_
        refine P_bipush (v := nI 8) dX7_turn_137 (by decide) ?_
        refine P_icmp_neN (tgt := 208) dX7_turn_139 (by decide) (by omega) (by omega) (fun c139 => ?_) (fun c139 => ?_)
        · refine P_iload dX7_turn_208 rfl ?_
          refine P_bipush (v := nI 9) dX7_turn_210 (by decide) ?_
          refine P_icmp_neN (tgt := 237) dX7_turn_212 (by decide) (by omega) (by omega) (fun c212 => ?_) (fun c212 => ?_)
          · refine P_iload dX7_turn_237 rfl ?_
            refine P_bipush (v := nI 10) dX7_turn_239 (by decide) ?_
            refine P_icmp_neN (tgt := 258) dX7_turn_241 (by decide) (by omega) (by omega) (fun c241 => ?_) (fun c241 => ?_)
            · refine P_aload_n dX7_turn_258 rfl rfl ?_
              refine P_aload_n dX7_turn_259 rfl rfl ?_
              refine P_getr (t := q + 3) dX7_turn_260 kX7 fX7_16 rfl (by decide) hq.o hq.r3 hq.k3.1.2 ?_
              refine P_iconst (v := nI 1) dX7_turn_263 (by decide) ?_
              refine P_iload_n dX7_turn_264 rfl rfl ?_
              refine P_bipush (v := nI 8) dX7_turn_265 (by decide) ?_
              refine P_iremN dX7_turn_267 (by omega) (by decide) (by decide) ?_
              refine P_iaddN dX7_turn_268 ?_
              refine P_cVs (rest := []) (As := [.ref (q + 3), .int (nI (1 + ((r / 16) % 8)))]) dX7_turn_269 lX7_178 yk_X7_ticksOn yv_X7_ticksOn kX7 rfl (by decide) hq.o rfl rfl (Nat.le_of_ble_eq_true rfl) rfl (c_X7_ticksOn hq hq.k3 hR (by omega) hN (by omega) hI (by omega)) (fun v3 ⟨hR3, hO3⟩ => ?_)
              refine P_pop dX7_turn_272 rfl ?_
              refine P_vret dX7_turn_273 rfl ?_
              have e9 : mturn r (c, S) = (c, mticks (1 + ((r / 16) % 8)) S) := by
                unfold mturn
                rw [if_neg (by omega), if_neg (by omega), if_neg (by omega), if_neg (by omega), if_neg (by omega), if_neg (by omega)]
                rfl
              exact q_s rfl (by rw [e9]; exact ⟨hR3, hO3⟩)
            · refine P_aload_n dX7_turn_244 rfl rfl ?_
              refine P_getr (t := q + 3) dX7_turn_245 kX7 fX7_16 rfl (by decide) hq.o hq.r3 hq.k3.1.2 ?_
              refine P_bipush (v := nI 7) dX7_turn_248 (by decide) ?_
              refine P_iload_n dX7_turn_250 rfl rfl ?_
              refine P_bipush (v := nI 41) dX7_turn_251 (by decide) ?_
              refine P_iremN dX7_turn_253 (by omega) (by decide) (by decide) ?_
              refine P_iast (7) dX7_turn_254 hq.k3 rfl (by omega) (by decide) ?_
              have hR3 : RR c (vU v (q + 3) 7 (nI (r / 16 % 41))) (q + 3) (sG S 7 (r / 16 % 41)) := hR.G (by decide) (by decide) (by decide)
              refine P_goto (tgt := 273) dX7_turn_255 (by decide) ?_
              refine P_vret dX7_turn_273 rfl ?_
              have e9 : mturn r (c, S) = (c, sG S 7 (r / 16 % 41)) := by
                unfold mturn
                rw [if_neg (by omega), if_neg (by omega), if_neg (by omega), if_neg (by omega), if_neg (by omega), if_pos (by omega)]
                rfl
              exact q_s rfl (by rw [e9]; exact ⟨hR3, (vO9.rf.u).to2⟩)
          · refine P_aload_n dX7_turn_215 rfl rfl ?_
            refine P_iload_n dX7_turn_216 rfl rfl ?_
            refine P_iload_n dX7_turn_217 rfl rfl ?_
            refine P_bipush (v := nI 8) dX7_turn_218 (by decide) ?_
            refine P_idivN dX7_turn_220 (by omega) (by decide) (by decide) ?_
            refine P_iconst (v := nI 3) dX7_turn_221 (by decide) ?_
            refine P_iremN dX7_turn_222 (by omega) (by decide) (by decide) ?_
            refine P_if_neN (tgt := 230) dX7_turn_223 (by decide) (by omega) (fun c223 => ?_) (fun c223 => ?_)
            · refine P_iconst (v := nI 0) dX7_turn_230 (by decide) ?_
              refine P_top (y := vb (decide (r / 16 / 8 % 3 = 0))) (by rw [show decide (r / 16 / 8 % 3 = 0) = false from decide_eq_false (by omega)]; rfl) ?_
              refine P_cVs (rest := []) (As := [.int (nI ((r / 16) % 6)), .int (vb (decide (r / 16 / 8 % 3 = 0)))]) dX7_turn_231 lX7_233 yk_X7_turnGoing yv_X7_turnGoing kX7 rfl (by decide) hq.o rfl rfl (Nat.le_of_ble_eq_true rfl) rfl (c_X7_turnGoing (z := decide (r / 16 / 8 % 3 = 0)) hq hR hN (by omega) hI (by omega)) (fun v3 ⟨hR3, hO3⟩ => ?_)
              refine P_goto (tgt := 273) dX7_turn_234 (by decide) ?_
              refine P_vret dX7_turn_273 rfl ?_
              have e9 : mturn r (c, S) = (if decide (r / 16 / 8 % 3 = 0) = true then (kLeave (c, S) (r / 16 % 6)).2 else (kBack (c, S) (r / 16 % 6)).2) := by
                unfold mturn
                rw [if_neg (by omega), if_neg (by omega), if_neg (by omega), if_neg (by omega), if_pos (by omega)]
                by_cases h9 : r / 16 / 8 % 3 = 0
                · rw [if_pos h9, if_pos (decide_eq_true h9)]
                · rw [if_neg h9, if_neg (gf_t (decide_eq_false h9))]
              exact q_s rfl (by rw [e9]; exact ⟨hR3, hO3⟩)
            · refine P_iconst (v := nI 1) dX7_turn_226 (by decide) ?_
              refine P_goto (tgt := 231) dX7_turn_227 (by decide) ?_
              refine P_top (y := vb (decide (r / 16 / 8 % 3 = 0))) (by rw [show decide (r / 16 / 8 % 3 = 0) = true from decide_eq_true (by omega)]; rfl) ?_
              refine P_cVs (rest := []) (As := [.int (nI ((r / 16) % 6)), .int (vb (decide (r / 16 / 8 % 3 = 0)))]) dX7_turn_231 lX7_233 yk_X7_turnGoing yv_X7_turnGoing kX7 rfl (by decide) hq.o rfl rfl (Nat.le_of_ble_eq_true rfl) rfl (c_X7_turnGoing (z := decide (r / 16 / 8 % 3 = 0)) hq hR hN (by omega) hI (by omega)) (fun v3 ⟨hR3, hO3⟩ => ?_)
              refine P_goto (tgt := 273) dX7_turn_234 (by decide) ?_
              refine P_vret dX7_turn_273 rfl ?_
              have e9 : mturn r (c, S) = (if decide (r / 16 / 8 % 3 = 0) = true then (kLeave (c, S) (r / 16 % 6)).2 else (kBack (c, S) (r / 16 % 6)).2) := by
                unfold mturn
                rw [if_neg (by omega), if_neg (by omega), if_neg (by omega), if_neg (by omega), if_pos (by omega)]
                by_cases h9 : r / 16 / 8 % 3 = 0
                · rw [if_pos h9, if_pos (decide_eq_true h9)]
                · rw [if_neg h9, if_neg (gf_t (decide_eq_false h9))]
              exact q_s rfl (by rw [e9]; exact ⟨hR3, hO3⟩)
        · refine P_iload_n dX7_turn_142 rfl rfl ?_
          refine P_bipush (v := nI 6) dX7_turn_143 (by decide) ?_
          refine P_idivN dX7_turn_145 (by omega) (by decide) (by decide) ?_
          refine P_bipush (v := nI 6) dX7_turn_146 (by decide) ?_
          refine P_iremN dX7_turn_148 (by omega) (by decide) (by decide) ?_
          refine P_istore (ls2 := [some (.ref (q)), some (.int (nI (r))), some (.int (nI (r / 16))), some (.int (nI ((r / 16) % 6))), some (.int (nI (r % 16))), some (.int (nI (((r / 16) / 6) % 6)))]) dX7_turn_149 (by decide) rfl ?_
          refine P_aload_n dX7_turn_151 rfl rfl ?_
          refine P_getr (t := q + 3) dX7_turn_152 kX7 fX7_16 rfl (by decide) hq.o hq.r3 hq.k3.1.2 ?_
          refine P_iload_n dX7_turn_155 rfl rfl ?_
          refine P_cSp (rest := []) (As := [.ref (q + 3), .int (nI ((r / 16) % 6))]) dX7_turn_156 lX7_112 yk_X7_isMember ys_X7_isMember (by decide) rfl rfl (Nat.le_of_ble_eq_true rfl) rfl (c_X7_isMember hq.k3 hR) ?_
          refine P_top (y := vb (decide ((r / 16) % 6 < c))) (by rw [mb_n (by omega)]) ?_
          refine P_bif_eq (tgt := 205) dX7_turn_159 (by decide) (fun c159 => ?_) (fun c159 => ?_)
          · refine P_goto (tgt := 273) dX7_turn_205 (by decide) ?_
            refine P_vret dX7_turn_273 rfl ?_
            have e9 : mturn r (c, S) = (c, S) := by
              unfold mturn
              rw [if_neg (by omega), if_neg (by omega), if_neg (by omega), if_pos (by omega)]
              rw [show kCut (c, S) (r / 16 % 6) (r / 16 / 6 % 6) (decide (r / 16 / 64 % 3 = 0)) = (false, (c, S)) from if_neg (fun q9 => by first | exact absurd q9.1.1 (of_decide_eq_false c159) | exact absurd q9.1.2 (of_decide_eq_false c171) | exact q9.2 (by omega))]
            exact q_s rfl (by rw [e9]; exact ⟨hR, vO2.rf⟩)
          · have z1 := of_decide_eq_true c159
            refine P_aload_n dX7_turn_162 rfl rfl ?_
            refine P_getr (t := q + 3) dX7_turn_163 kX7 fX7_16 rfl (by decide) hq.o hq.r3 hq.k3.1.2 ?_
            refine P_iload dX7_turn_166 rfl ?_
            refine P_cSp (rest := []) (As := [.ref (q + 3), .int (nI (((r / 16) / 6) % 6))]) dX7_turn_168 lX7_112 yk_X7_isMember ys_X7_isMember (by decide) rfl rfl (Nat.le_of_ble_eq_true rfl) rfl (c_X7_isMember hq.k3 hR) ?_
            refine P_top (y := vb (decide (((r / 16) / 6) % 6 < c))) (by rw [mb_n (by omega)]) ?_
            refine P_bif_eq (tgt := 205) dX7_turn_171 (by decide) (fun c171 => ?_) (fun c171 => ?_)
            · refine P_goto (tgt := 273) dX7_turn_205 (by decide) ?_
              refine P_vret dX7_turn_273 rfl ?_
              have e9 : mturn r (c, S) = (c, S) := by
                unfold mturn
                rw [if_neg (by omega), if_neg (by omega), if_neg (by omega), if_pos (by omega)]
                rw [show kCut (c, S) (r / 16 % 6) (r / 16 / 6 % 6) (decide (r / 16 / 64 % 3 = 0)) = (false, (c, S)) from if_neg (fun q9 => by first | exact absurd q9.1.1 (of_decide_eq_false c159) | exact absurd q9.1.2 (of_decide_eq_false c171) | exact q9.2 (by omega))]
              exact q_s rfl (by rw [e9]; exact ⟨hR, vO2.rf⟩)
            · have z2 := of_decide_eq_true c171
              refine P_iload_n dX7_turn_174 rfl rfl ?_
              refine P_iload dX7_turn_175 rfl ?_
              refine P_icmp_eqN (tgt := 205) dX7_turn_177 (by decide) (by omega) (by omega) (fun c177 => ?_) (fun c177 => ?_)
              · refine P_goto (tgt := 273) dX7_turn_205 (by decide) ?_
                refine P_vret dX7_turn_273 rfl ?_
                have e9 : mturn r (c, S) = (c, S) := by
                  unfold mturn
                  rw [if_neg (by omega), if_neg (by omega), if_neg (by omega), if_pos (by omega)]
                  rw [show kCut (c, S) (r / 16 % 6) (r / 16 / 6 % 6) (decide (r / 16 / 64 % 3 = 0)) = (false, (c, S)) from if_neg (fun q9 => by first | exact absurd q9.1.1 (of_decide_eq_false c159) | exact absurd q9.1.2 (of_decide_eq_false c171) | exact q9.2 (by omega))]
                exact q_s rfl (by rw [e9]; exact ⟨hR, vO2.rf⟩)
              · have z4 : r / 16 % 6 ≠ r / 16 / 6 % 6 := by omega
                refine P_aload_n dX7_turn_180 rfl rfl ?_
                refine P_getr (t := q + 3) dX7_turn_181 kX7 fX7_16 rfl (by decide) hq.o hq.r3 hq.k3.1.2 ?_
                refine P_iload_n dX7_turn_184 rfl rfl ?_
                refine P_iload dX7_turn_185 rfl ?_
                refine P_iload_n dX7_turn_187 rfl rfl ?_
                refine P_bipush (v := nI 64) dX7_turn_188 (by decide) ?_
                refine P_idivN dX7_turn_190 (by omega) (by decide) (by decide) ?_
                refine P_iconst (v := nI 3) dX7_turn_191 (by decide) ?_
                refine P_iremN dX7_turn_192 (by omega) (by decide) (by decide) ?_
                refine P_if_neN (tgt := 200) dX7_turn_193 (by decide) (by omega) (fun c193 => ?_) (fun c193 => ?_)
                · refine P_iconst (v := nI 0) dX7_turn_200 (by decide) ?_
                  refine P_top (y := vb (decide (r / 16 / 64 % 3 = 0))) (by rw [show decide (r / 16 / 64 % 3 = 0) = false from decide_eq_false (by omega)]; rfl) ?_
                  refine P_cSs (rest := []) (As := [.ref (q + 3), .int (nI ((r / 16) % 6)), .int (nI (((r / 16) / 6) % 6)), .int (vb (decide (r / 16 / 64 % 3 = 0)))]) dX7_turn_201 lX7_165 yk_X7_cutOn ys_X7_cutOn (by decide) rfl rfl (Nat.le_of_ble_eq_true rfl) rfl (c_X7_cutOn (cut := decide (r / 16 / 64 % 3 = 0)) hq.k3 hR hN z1 z2 z4) (fun v3 ⟨hR3, hO3⟩ => ?_)
                  refine P_pop dX7_turn_204 rfl ?_
                  refine P_goto (tgt := 273) dX7_turn_205 (by decide) ?_
                  refine P_vret dX7_turn_273 rfl ?_
                  have e9 : mturn r (c, S) = (c, mcut S ((r / 16) % 6) (((r / 16) / 6) % 6) (decide (r / 16 / 64 % 3 = 0))) := by
                    unfold mturn
                    rw [if_neg (by omega), if_neg (by omega), if_neg (by omega), if_pos (by omega)]
                    rw [show kCut (c, S) (r / 16 % 6) (r / 16 / 6 % 6) (decide (r / 16 / 64 % 3 = 0)) = (true, (c, mcut S ((r / 16) % 6) (((r / 16) / 6) % 6) (decide (r / 16 / 64 % 3 = 0)))) from if_pos ⟨⟨z1, z2⟩, z4⟩]
                  exact q_s rfl (by rw [e9]; exact ⟨hR3, hO3.to2⟩)
                · refine P_iconst (v := nI 1) dX7_turn_196 (by decide) ?_
                  refine P_goto (tgt := 201) dX7_turn_197 (by decide) ?_
                  refine P_top (y := vb (decide (r / 16 / 64 % 3 = 0))) (by rw [show decide (r / 16 / 64 % 3 = 0) = true from decide_eq_true (by omega)]; rfl) ?_
                  refine P_cSs (rest := []) (As := [.ref (q + 3), .int (nI ((r / 16) % 6)), .int (nI (((r / 16) / 6) % 6)), .int (vb (decide (r / 16 / 64 % 3 = 0)))]) dX7_turn_201 lX7_165 yk_X7_cutOn ys_X7_cutOn (by decide) rfl rfl (Nat.le_of_ble_eq_true rfl) rfl (c_X7_cutOn (cut := decide (r / 16 / 64 % 3 = 0)) hq.k3 hR hN z1 z2 z4) (fun v3 ⟨hR3, hO3⟩ => ?_)
                  refine P_pop dX7_turn_204 rfl ?_
                  refine P_goto (tgt := 273) dX7_turn_205 (by decide) ?_
                  refine P_vret dX7_turn_273 rfl ?_
                  have e9 : mturn r (c, S) = (c, mcut S ((r / 16) % 6) (((r / 16) / 6) % 6) (decide (r / 16 / 64 % 3 = 0))) := by
                    unfold mturn
                    rw [if_neg (by omega), if_neg (by omega), if_neg (by omega), if_pos (by omega)]
                    rw [show kCut (c, S) (r / 16 % 6) (r / 16 / 6 % 6) (decide (r / 16 / 64 % 3 = 0)) = (true, (c, mcut S ((r / 16) % 6) (((r / 16) / 6) % 6) (decide (r / 16 / 64 % 3 = 0)))) from if_pos ⟨⟨z1, z2⟩, z4⟩]
                  exact q_s rfl (by rw [e9]; exact ⟨hR3, hO3.to2⟩)
      · refine P_iload_n dX7_turn_84 rfl rfl ?_
        refine P_bipush (v := nI 8) dX7_turn_85 (by decide) ?_
        refine P_idivN dX7_turn_87 (by omega) (by decide) (by decide) ?_
        refine P_bipush (v := nI 64) dX7_turn_88 (by decide) ?_
        refine P_iremN dX7_turn_90 (by omega) (by decide) (by decide) ?_
        refine P_iconst (v := nI 1) dX7_turn_91 (by decide) ?_
        refine P_iload_n dX7_turn_92 rfl rfl ?_
        refine P_ishlN dX7_turn_93 (by omega) ?_
        refine P_iorN dX7_turn_94 ?_
        refine P_iconst (v := nI 1) dX7_turn_95 (by decide) ?_
        refine P_aload_n dX7_turn_96 rfl rfl ?_
        refine P_getr (t := q + 3) dX7_turn_97 kX7 fX7_16 rfl (by decide) hq.o hq.r3 hq.k3.1.2 ?_
        refine P_iconst (v := nI 0) dX7_turn_100 (by decide) ?_
        refine P_ialdN (x := nI (c)) (0) dX7_turn_101 hq.k3 rfl (by omega) (by decide) hR.cc ?_
        refine P_ishlN dX7_turn_102 (by omega) ?_
        refine P_iconst (v := nI 1) dX7_turn_103 (by decide) ?_
        refine P_isubN dX7_turn_104 (by exact one_pc) ?_
        refine P_iandN dX7_turn_105 ?_
        refine P_istore (ls2 := [some (.ref (q)), some (.int (nI (r))), some (.int (nI (r / 16))), some (.int (nI ((r / 16) % 6))), some (.int (nI (r % 16))), some (.int (nI (((((r / 16) / 8) % 64) ||| (1 <<< ((r / 16) % 6))) &&& ((1 <<< c) - 1))))]) dX7_turn_106 (by decide) rfl ?_
        refine P_aload_n dX7_turn_108 rfl rfl ?_
        refine P_getr (t := q + 3) dX7_turn_109 kX7 fX7_16 rfl (by decide) hq.o hq.r3 hq.k3.1.2 ?_
        refine P_iload_n dX7_turn_112 rfl rfl ?_
        refine P_iload dX7_turn_113 rfl ?_
        refine P_cSp (rest := []) (As := [.ref (q + 3), .int (nI ((r / 16) % 6)), .int (nI (((((r / 16) / 8) % 64) ||| (1 <<< ((r / 16) % 6))) &&& ((1 <<< c) - 1)))]) dX7_turn_115 lX7_162 yk_X7_canCall ys_X7_canCall (by decide) rfl rfl (Nat.le_of_ble_eq_true rfl) rfl (c_X7_canCall hq.k3 hR hN) ?_
        refine P_top (y := vb (decide (((r / 16) % 6) < c ∧ ((((((r / 16) / 8) % 64) ||| (1 <<< ((r / 16) % 6))) &&& ((1 <<< c) - 1)) < 2 ^ c ∧ (((((r / 16) / 8) % 64) ||| (1 <<< ((r / 16) % 6))) &&& ((1 <<< c) - 1)).testBit ((r / 16) % 6) = true) ∧ gM S ((r / 16) % 6) 1 ≠ 2))) (by rw [mccall_K hc6 (by omega) (by have := turn_lt (y := r / 16 / 8 % 64 ||| 1 <<< (r / 16 % 6)) hc6; omega)]) ?_
        refine P_bif_eq (tgt := 132) dX7_turn_118 (by decide) (fun c118 => ?_) (fun c118 => ?_)
        · refine P_goto (tgt := 273) dX7_turn_132 (by decide) ?_
          refine P_vret dX7_turn_273 rfl ?_
          have e9 : mturn r (c, S) = (c, S) := by
            unfold mturn
            rw [if_neg (by omega), if_neg (by omega), if_pos (by omega)]
            rw [show kCall (c, S) (r / 16 % 6) (r / 16 / 8 % 64 &&& (1 <<< c - 1) ||| 1 <<< (r / 16 % 6)) = (false, (c, S)) from if_neg (fun q9 => of_decide_eq_false c118 (by rw [turn_sets hc6 q9.1]; exact q9))]
          exact q_s rfl (by rw [e9]; exact ⟨hR, vO2.rf⟩)
        · obtain ⟨z1, z2, z3⟩ := of_decide_eq_true c118
          refine P_aload_n dX7_turn_121 rfl rfl ?_
          refine P_getr (t := q + 3) dX7_turn_122 kX7 fX7_16 rfl (by decide) hq.o hq.r3 hq.k3.1.2 ?_
          refine P_iload_n dX7_turn_125 rfl rfl ?_
          refine P_iload dX7_turn_126 rfl ?_
          refine P_cSs (rest := []) (As := [.ref (q + 3), .int (nI ((r / 16) % 6)), .int (nI (((((r / 16) / 8) % 64) ||| (1 <<< ((r / 16) % 6))) &&& ((1 <<< c) - 1)))]) dX7_turn_128 lX7_106 yk_X7_callOn ys_X7_callOn (by decide) rfl rfl (Nat.le_of_ble_eq_true rfl) rfl (c_X7_callOn hq.k3 hR hN (by omega) z1 (by exact turn_lt hc6)) (fun v3 ⟨hR3, hO3⟩ => ?_)
          refine P_pop dX7_turn_131 rfl ?_
          refine P_goto (tgt := 273) dX7_turn_132 (by decide) ?_
          refine P_vret dX7_turn_273 rfl ?_
          have e9 : mturn r (c, S) = (c, mcall S ((r / 16) % 6) (((((r / 16) / 8) % 64) ||| (1 <<< ((r / 16) % 6))) &&& ((1 <<< c) - 1))) := by
            unfold mturn
            rw [if_neg (by omega), if_neg (by omega), if_pos (by omega)]
            rw [show kCall (c, S) (r / 16 % 6) (r / 16 / 8 % 64 &&& (1 <<< c - 1) ||| 1 <<< (r / 16 % 6)) = (true, (c, mcall S ((r / 16) % 6) (((((r / 16) / 8) % 64) ||| (1 <<< ((r / 16) % 6))) &&& ((1 <<< c) - 1)))) from (by rw [← turn_sets hc6 z1]; exact if_pos ⟨z1, z2, z3⟩)]
          exact q_s rfl (by rw [e9]; exact ⟨hR3, hO3.to2⟩)
    · refine P_aload_n dX7_turn_54 rfl rfl ?_
      refine P_getr (t := q + 3) dX7_turn_55 kX7 fX7_16 rfl (by decide) hq.o hq.r3 hq.k3.1.2 ?_
      refine P_iload_n dX7_turn_58 rfl rfl ?_
      refine P_cSp (rest := []) (As := [.ref (q + 3), .int (nI ((r / 16) % 6))]) dX7_turn_59 lX7_156 yk_X7_canSay ys_X7_canSay (by decide) rfl rfl (Nat.le_of_ble_eq_true rfl) rfl (c_X7_canSay hq.k3 hR hN) ?_
      refine P_top (y := vb (decide (((r / 16) % 6) < c ∧ gM S ((r / 16) % 6) 1 = 0 ∧ gM S ((r / 16) % 6) 7 < 4))) (by rw [mcsay_K hc6 (by omega)]) ?_
      refine P_bif_eq (tgt := 273) dX7_turn_62 (by decide) (fun c62 => ?_) (fun c62 => ?_)
      · refine P_vret dX7_turn_273 rfl ?_
        have e9 : mturn r (c, S) = (c, S) := by
          unfold mturn
          rw [if_neg (by omega), if_pos (by omega)]
          rw [show kSay (c, S) (r / 16 % 6) = (false, (c, S)) from if_neg (of_decide_eq_false c62)]
        exact q_s rfl (by rw [e9]; exact ⟨hR, vO2.rf⟩)
      · obtain ⟨z1, z2, z3⟩ := of_decide_eq_true c62
        refine P_aload_n dX7_turn_65 rfl rfl ?_
        refine P_getr (t := q + 3) dX7_turn_66 kX7 fX7_16 rfl (by decide) hq.o hq.r3 hq.k3.1.2 ?_
        refine P_iload_n dX7_turn_69 rfl rfl ?_
        refine P_cSs (rest := []) (As := [.ref (q + 3), .int (nI ((r / 16) % 6))]) dX7_turn_70 lX7_159 yk_X7_sayOn ys_X7_sayOn (by decide) rfl rfl (Nat.le_of_ble_eq_true rfl) rfl (c_X7_sayOn hq.k3 hR hN (by omega) z1 z3) (fun v3 ⟨hR3, hO3⟩ => ?_)
        refine P_pop dX7_turn_73 rfl ?_
        refine P_goto (tgt := 273) dX7_turn_74 (by decide) ?_
        refine P_vret dX7_turn_273 rfl ?_
        have e9 : mturn r (c, S) = (c, msay S ((r / 16) % 6)) := by
          unfold mturn
          rw [if_neg (by omega), if_pos (by omega)]
          rw [show kSay (c, S) (r / 16 % 6) = (true, (c, msay S ((r / 16) % 6))) from if_pos ⟨z1, z2, z3⟩]
        exact q_s rfl (by rw [e9]; exact ⟨hR3, hO3.to2⟩)
  · refine P_aload_n dX7_turn_21 rfl rfl ?_
    refine P_getr (t := q + 3) dX7_turn_22 kX7 fX7_16 rfl (by decide) hq.o hq.r3 hq.k3.1.2 ?_
    refine P_iconst (v := nI 0) dX7_turn_25 (by decide) ?_
    refine P_ialdN (x := nI (c)) (0) dX7_turn_26 hq.k3 rfl (by omega) (by decide) hR.cc ?_
    refine P_bipush (v := nI 6) dX7_turn_27 (by decide) ?_
    refine P_icmp_geN (tgt := 273) dX7_turn_29 (by decide) (by omega) (by omega) (fun c29 => ?_) (fun c29 => ?_)
    · refine P_vret dX7_turn_273 rfl ?_
      have e9 : mturn r (c, S) = (c, S) := by
        unfold mturn
        rw [if_pos (by omega)]
        rw [show kAdd (c, S) (r / 16 % 10) = (false, (c, S)) from if_neg (show ¬ c < 6 by omega)]
      exact q_s rfl (by rw [e9]; exact ⟨hR, vO2.rf⟩)
    · refine P_aload_n dX7_turn_32 rfl rfl ?_
      refine P_getr (t := q + 3) dX7_turn_33 kX7 fX7_16 rfl (by decide) hq.o hq.r3 hq.k3.1.2 ?_
      refine P_iload_n dX7_turn_36 rfl rfl ?_
      refine P_bipush (v := nI 10) dX7_turn_37 (by decide) ?_
      refine P_iremN dX7_turn_39 (by omega) (by decide) (by decide) ?_
      refine P_cSs (rest := []) (As := [.ref (q + 3), .int (nI ((r / 16) % 10))]) dX7_turn_40 lX7_145 yk_X7_memberOn ys_X7_memberOn (by decide) rfl rfl (Nat.le_of_ble_eq_true rfl) rfl (c_X7_memberOn hq.k3 hR (by omega) hI.1.2.1) (fun v3 ⟨hR3, hO3⟩ => ?_)
      refine P_pop dX7_turn_43 rfl ?_
      refine P_goto (tgt := 273) dX7_turn_44 (by decide) ?_
      refine P_vret dX7_turn_273 rfl ?_
      have e9 : mturn r (c, S) = (c + 1, madd S ((r / 16) % 10)) := by
        unfold mturn
        rw [if_pos (by omega)]
        rw [show kAdd (c, S) (r / 16 % 10) = (true, (c + 1, madd S ((r / 16) % 10))) from if_pos (show c < 6 by omega)]
      exact q_s rfl (by rw [e9]; exact ⟨hR3, hO3.to2⟩)
set_option maxHeartbeats 4000000 in
set_option maxRecDepth 100000 in
theorem c_X7_simulate {σ : vS} {v : vV} {c q n : Nat} {S : mS} {t : mN} {D : List mC} {sl : Nat → Option mC} {n8 : Int32} {x : Int64} (hq : LR σ q) (hT : RT v q ((t, n), (c, S), D, sl)) {B : Nat} (hG : GI B ((t, n), (c, S), D, sl)) (hB : B + 6000000 < 1000000000) : vC M_X7_simulate yX7_simulate [.ref (q), .long (x), .int (n8)] (σ, v) (qR σ v q (g_simulate ((t, n), (c, S), D, sl) x n8)) := by
  have hR : RR c v (q + 2) S := hT.r
  have hN : NB c S B := hG.1.1
  have hI : Iv c 1 S := hG.1.2
  have hc6 := hR.c6
  have htx : mTX v q t n := hT.tx
  have hlt : D.length ≤ 14 := hT.l
  refine vC_of (ls := [some (.ref (q)), some (.long (x)), none, some (.int (n8)), none, none, none]) pn_X7 rfl rfl (Nat.le_of_ble_eq_true rfl) rfl ?_
  refine P_aload_n dX7_simulate_0 rfl rfl ?_
  refine P_iload_n dX7_simulate_1 rfl rfl ?_
  refine P_i2l dX7_simulate_2 ?_
  refine P_lconst (v := 1) dX7_simulate_3 (by decide) ?_
  refine P_ldc2_w dX7_simulate_4 cX7_210 ?_
  refine P_cSp (rest := [.ref (q)]) (As := [.long ((n8).toInt64), .long ((1)), .long ((60))]) dX7_simulate_7 lX7_40 yk_X7_in ys_X7_in (by decide) rfl rfl (Nat.le_of_ble_eq_true rfl) rfl (c_X7_in _ _ _) ?_
  refine P_top (y := vb (gin n8 1 60)) (congrArg vb (in_gin (by decide) (by decide))) ?_
  refine P_bif_eq (tgt := 17) dX7_simulate_10 (by decide) (fun c10 => ?_) (fun c10 => ?_)
  · refine P_iconst (v := nI 1) dX7_simulate_17 (by decide) ?_
    refine P_cVs (rest := []) (As := [.int (nI (1))]) dX7_simulate_18 lX7_129 yk_X7_refused yv_X7_refused kX7 rfl (by decide) hq.o rfl rfl (Nat.le_of_ble_eq_true rfl) rfl (c_X7_refused (k := 1) hq (by decide)) (fun v9 e9 => ?_)
    subst e9
    refine P_top (y := vb true) rfl ?_
    refine P_bif_eq (tgt := 26) dX7_simulate_21 (by decide) (fun q9 => Bool.noConfusion q9) (fun _ => ?_)
    refine P_iconst (v := nI 0) dX7_simulate_24 (by decide) ?_
    refine P_iret dX7_simulate_25 rfl ?_
    exact qr_thr hT (if_pos c10)
  · refine P_iconst (v := nI 0) dX7_simulate_13 (by decide) ?_
    refine P_goto (tgt := 18) dX7_simulate_14 (by decide) ?_
    refine P_cVs (rest := []) (As := [.int (nI (0))]) dX7_simulate_18 lX7_129 yk_X7_refused yv_X7_refused kX7 rfl (by decide) hq.o rfl rfl (Nat.le_of_ble_eq_true rfl) rfl (c_X7_refused (k := 0) hq (by decide)) (fun v1 e1 => ?_)
    obtain ⟨hT1, h01, hF1⟩ : RT v1 q ((t, n), (c, S), D, sl) ∧ v1 q 0 = nI 0 ∧ vOw v v1 q 8 := by subst e1; exact ⟨hT.ref, vU_s, vOw.rf.u (by omega) (by omega)⟩
    have hR1 : RR c v1 (q + 2) S := hT1.r
    clear e1
    refine P_top (y := vb false) rfl ?_
    refine P_bif_eq (tgt := 26) dX7_simulate_21 (by decide) (fun _ => ?_) (fun q9 => Bool.noConfusion q9)
    have hgi9 := c10
    obtain ⟨nk, nk0, nk1, rfl⟩ := gin_n (lo := 1) (hi := 60) (by decide) c10
    have hX0 : KC (B + 100) (c, S) := (show KC B (c, S) from hG.1).up (by omega)
    refine P_aload_n dX7_simulate_26 rfl rfl ?_
    refine P_getr (t := q + 2) dX7_simulate_27 kX7 fX7_13 rfl (by decide) hq.o hq.r2 hq.k2.1.2 ?_
    refine P_iconst (v := nI 0) dX7_simulate_30 (by decide) ?_
    refine P_aload_n dX7_simulate_31 rfl rfl ?_
    refine P_getr (t := q + 3) dX7_simulate_32 kX7 fX7_16 rfl (by decide) hq.o hq.r3 hq.k3.1.2 ?_
    refine P_iconst (v := nI 0) dX7_simulate_35 (by decide) ?_
    refine P_cSs (rest := []) (As := [.ref (q + 2), .int (nI (0)), .ref (q + 3), .int (nI (0))]) dX7_simulate_36 lX7_189 yk_X7_copyState ys_X7_copyState (by decide) rfl rfl (Nat.le_of_ble_eq_true rfl) rfl (c_X7_copyState (fa := 0) (ta := 0) hq.k2 hq.k3 (by omega) (by omega) (by omega) (by decide) (by decide)) (fun v2 ⟨hO2, hs2⟩ => ?_)
    have hR2 : RR c v2 (q + 3) S := hR1.sh (fun i hi => by rw [hs2, if_pos (by omega), show 0 + (i - 0) = i by omega])
    have hO29 : vO4 v1 v2 (q + 3) q := hO2.c3
    refine P_lload_n dX7_simulate_39 rfl rfl ?_
    refine P_lstore (ls2 := [some (.ref (q)), some (.long (x)), none, some (.int (nI (nk))), some (.long (x)), none, none]) dX7_simulate_40 (by decide) rfl ?_
    refine P_iconst (v := nI 0) dX7_simulate_42 (by decide) ?_
    refine P_istore (ls2 := [some (.ref (q)), some (.long (x)), none, some (.int (nI (nk))), some (.long (x)), none, some (.int (nI (0)))]) dX7_simulate_43 (by decide) rfl ?_
    have hL45 : ∀ (n45 : Nat) (i : Nat) (v3 : vV), (i ≤ nk) → (i + n45 = nk + 1) → (RR (msim (c, S) x i).1 v3 (q + 3) (msim (c, S) x i).2) → (vO4 v1 v3 (q + 3) q) → vP M_X7_simulate 45 [some (.ref (q)), some (.long (x)), none, some (.int (nI (nk))), some (.long ((msx x i))), none, some (.int (nI (i)))] [] ((vRm M_X7_simulate).cells, (vRm M_X7_simulate).slots) (σ, v3) (vN (qR σ v q (g_simulate ((t, n), (c, S), D, sl) x (nI nk)))) := by
      intro n45
      induction n45 with
      | zero =>
        intro i v3 h1 h2 hR3 hO3
        exact absurd h2 (by omega)
      | succ n45 ih45 =>
        intro i v3 h1 h2 hR3 hO3
        have hX3 := hX0.msim (by omega) x i
        refine P_iload dX7_simulate_45 rfl ?_
        refine P_iload_n dX7_simulate_47 rfl rfl ?_
        refine P_icmp_geN (tgt := 79) dX7_simulate_48 (by decide) (by omega) (by omega) (fun c48 => ?_) (fun c48 => ?_)
        · refine P_aload_n dX7_simulate_79 rfl rfl ?_
          refine P_getr (t := q + 3) dX7_simulate_80 kX7 fX7_16 rfl (by decide) hq.o hq.r3 hq.k3.1.2 ?_
          refine P_iconst (v := nI 5) dX7_simulate_83 (by decide) ?_
          refine P_ialdN (x := nI (gG ((msim (c, S) x i).2) 5)) (5) dX7_simulate_84 hq.k3 rfl (by omega) (by decide) (hR3.g (by decide) (by decide)) ?_
          refine P_aload_n dX7_simulate_85 rfl rfl ?_
          refine P_getr (t := q + 2) dX7_simulate_86 kX7 fX7_13 rfl (by decide) hq.o hq.r2 hq.k2.1.2 ?_
          refine P_iconst (v := nI 5) dX7_simulate_89 (by decide) ?_
          refine P_ialdN (x := nI (gG S 5)) (5) dX7_simulate_90 hq.k2 rfl (by omega) (by decide) ((hT1.o4 hO3).r.g (by decide) (by decide)) ?_
          refine P_isub dX7_simulate_91 ?_
          refine P_istore (ls2 := [some (.ref (q)), some (.long (x)), none, some (.int (nI (nk))), some (.long ((msx x i))), none, some (.int ((nI (gG ((msim (c, S) x i).2) 5) - nI (gG S 5))))]) dX7_simulate_92 (by decide) rfl ?_
          refine P_sipush (v := nI 10000) dX7_simulate_94 (by decide) ?_
          refine P_aload_n dX7_simulate_97 rfl rfl ?_
          refine P_getr (t := q + 3) dX7_simulate_98 kX7 fX7_16 rfl (by decide) hq.o hq.r3 hq.k3.1.2 ?_
          refine P_bipush (v := nI 6) dX7_simulate_101 (by decide) ?_
          refine P_ialdN (x := nI (gG ((msim (c, S) x i).2) 6)) (6) dX7_simulate_103 hq.k3 rfl (by omega) (by decide) (hR3.g (by decide) (by decide)) ?_
          refine P_aload_n dX7_simulate_104 rfl rfl ?_
          refine P_getr (t := q + 2) dX7_simulate_105 kX7 fX7_13 rfl (by decide) hq.o hq.r2 hq.k2.1.2 ?_
          refine P_bipush (v := nI 6) dX7_simulate_108 (by decide) ?_
          refine P_ialdN (x := nI (gG S 6)) (6) dX7_simulate_110 hq.k2 rfl (by omega) (by decide) ((hT1.o4 hO3).r.g (by decide) (by decide)) ?_
          refine P_isub dX7_simulate_111 ?_
          refine P_imul dX7_simulate_112 ?_
          refine P_bipush (v := nI 100) dX7_simulate_113 (by decide) ?_
          refine P_aload_n dX7_simulate_115 rfl rfl ?_
          refine P_getr (t := q + 3) dX7_simulate_116 kX7 fX7_16 rfl (by decide) hq.o hq.r3 hq.k3.1.2 ?_
          refine P_iconst (v := nI 4) dX7_simulate_119 (by decide) ?_
          refine P_ialdN (x := nI (gG ((msim (c, S) x i).2) 4)) (4) dX7_simulate_120 hq.k3 rfl (by omega) (by decide) (hR3.g (by decide) (by decide)) ?_
          refine P_aload_n dX7_simulate_121 rfl rfl ?_
          refine P_getr (t := q + 2) dX7_simulate_122 kX7 fX7_13 rfl (by decide) hq.o hq.r2 hq.k2.1.2 ?_
          refine P_iconst (v := nI 4) dX7_simulate_125 (by decide) ?_
          refine P_ialdN (x := nI (gG S 4)) (4) dX7_simulate_126 hq.k2 rfl (by omega) (by decide) ((hT1.o4 hO3).r.g (by decide) (by decide)) ?_
          refine P_isub dX7_simulate_127 ?_
          refine P_imul dX7_simulate_128 ?_
          refine P_iadd dX7_simulate_129 ?_
          refine P_iload dX7_simulate_130 rfl ?_
          refine P_bipush (v := nI 99) dX7_simulate_132 (by decide) ?_
          refine P_icmp_le (tgt := 142) dX7_simulate_134 (by decide) (fun c134 => ?_) (fun c134 => ?_)
          · refine P_iload dX7_simulate_142 rfl ?_
            refine P_iadd dX7_simulate_144 ?_
            refine P_iret dX7_simulate_145 rfl ?_
            have ei : i = nk := by omega
            refine qr_ret (x := (((nI (10000) * (nI (gG ((msim (c, S) x i).2) 6) - nI (gG S 6))) + (nI (100) * (nI (gG ((msim (c, S) x i).2) 4) - nI (gG S 4)))) + (nI (gG ((msim (c, S) x i).2) 5) - nI (gG S 5)))) ((if_neg (gt_f hgi9)).trans (by rw [nn (by omega), ← ei]; unfold msum; rw [if_neg (fun q9 => absurd c134 (Int32.not_le.mpr q9))])) (by rw [hO3.2 0 (by decide) (by decide)]; exact h01) (hT1.o4 hO3) (hF1.tr (hO3.ow (by omega) (by omega)))
          · refine P_bipush (v := nI 99) dX7_simulate_137 (by decide) ?_
            refine P_goto (tgt := 144) dX7_simulate_139 (by decide) ?_
            refine P_iadd dX7_simulate_144 ?_
            refine P_iret dX7_simulate_145 rfl ?_
            have ei : i = nk := by omega
            refine qr_ret (x := (((nI (10000) * (nI (gG ((msim (c, S) x i).2) 6) - nI (gG S 6))) + (nI (100) * (nI (gG ((msim (c, S) x i).2) 4) - nI (gG S 4)))) + nI (99))) ((if_neg (gt_f hgi9)).trans (by rw [nn (by omega), ← ei]; unfold msum; rw [if_pos (Int32.not_le.mp c134)])) (by rw [hO3.2 0 (by decide) (by decide)]; exact h01) (hT1.o4 hO3) (hF1.tr (hO3.ow (by omega) (by omega)))
        · refine P_lload dX7_simulate_51 rfl ?_
          refine P_ldc2_w dX7_simulate_53 cX7_237 ?_
          refine P_lmul dX7_simulate_56 ?_
          refine P_ldc2_w dX7_simulate_57 cX7_239 ?_
          refine P_ladd dX7_simulate_60 ?_
          refine P_topL (y := msx x (i + 1)) rfl ?_
          refine P_lstore (ls2 := [some (.ref (q)), some (.long (x)), none, some (.int (nI (nk))), some (.long ((msx x (i + 1)))), none, some (.int (nI (i)))]) dX7_simulate_61 (by decide) rfl ?_
          refine P_aload_n dX7_simulate_63 rfl rfl ?_
          refine P_lload dX7_simulate_64 rfl ?_
          refine P_bipush (v := nI 33) dX7_simulate_66 (by decide) ?_
          refine P_lushr dX7_simulate_68 ?_
          refine P_l2i dX7_simulate_69 ?_
          refine P_top (y := nI (rOf (msx x (i + 1)))) (sh33 _).1 ?_
          refine P_cVs (rest := []) (As := [.int (nI (rOf (msx x (i + 1))))]) dX7_simulate_70 lX7_241 yk_X7_turn yv_X7_turn kX7 rfl (by decide) hq.o rfl rfl (Nat.le_of_ble_eq_true rfl) rfl (c_X7_turn hq hR3 hX3.1 (by omega) hX3.2 (sh33 _).2) (fun v4 hq4 => ?_)
          refine P_iinc (v := nI (i + 1)) (ls2 := [some (.ref (q)), some (.long (x)), none, some (.int (nI (nk))), some (.long ((msx x (i + 1)))), none, some (.int (nI (i + 1)))]) dX7_simulate_73 rfl (nI_inc _ 1) (by decide) rfl ?_
          refine P_goto (tgt := 45) dX7_simulate_76 (by decide) ?_
          exact ih45 (i + 1) _ (by omega) (by omega) hq4.1 (hO3.tr hq4.2.c3)
    exact hL45 (nk + 1) 0 v2 (by omega) (by omega) hR2 hO29
