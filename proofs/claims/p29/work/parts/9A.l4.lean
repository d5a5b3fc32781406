
/-! WHAT IS DONE IN A TURN -/
/-- what a turn does: k tells what, y with which numbers -/
def gactK (k y : Nat) : gT → Int32 × gT
  | ((t, n), (c, S), D, sl) =>
    if k < 4 then gP [eIO, eIS] (g_say ((t, n), (c, S), D, sl) (nI (y % c)))
    else if k < 7 then gP [eIO, eIA, eIS] (g_call ((t, n), (c, S), D, sl) (nI (y % c)) (nI ((y / 6 % 64 ||| 1 <<< (y % c)) &&& (1 <<< c - 1))))
    else if k = 7 then gP [eIO, eIA] (g_cut ((t, n), (c, S), D, sl) (nI (y % c)) (nI (y / 6 % c)) (decide (y / 36 % 3 = 0)))
    else if k = 8 then (if gM S (y % c) 1 = 2 then gP [eIO, eIS] (g_back ((t, n), (c, S), D, sl) (nI (y % c))) else if y / 36 % 3 = 0 then gP [eIO, eIS] (g_leave ((t, n), (c, S), D, sl) (nI (y % c))) else (-1, ((t, n), (c, S), D, sl)))
    else if k = 9 then gP [eIA] (g_set ((t, n), (c, S), D, sl) (nI (if y % 3 = 0 then 0 else 3 + y / 3 % 20)))
    else if k = 10 then (if y % 2 = 0 then gP [eIO] (g_save ((t, n), (c, S), D, sl) (nI (y / 2 % 2))) else gP [eIO, eIS] (g_restore ((t, n), (c, S), D, sl) (nI (y / 2 % 2))))
    else if k = 11 then (if gG S 1 < 2 then gP [eIA, eIS] (g_member ((t, n), (c, S), D, sl) (nI (y % 10))) else gP [eIS] (g_undo ((t, n), (c, S), D, sl)))
    else gP [eIA] (g_ticks ((t, n), (c, S), D, sl) (nI (1 + y % 9)))
def gact (x : Nat) (T : gT) : Int32 × gT := gactK (x % 16) (x / 16) T
theorem qc_endR {σ : vS} {v0 v : vV} {b : Nat} {R R' : Int32 × gT} (h : RV v0 b R'.2 v) (e : R = R') : vN (qC σ v0 b R) (.inl (some (.int R'.1))) (σ, v) := by
  subst e
  exact ⟨rfl, v, rfl, h.1, h.2⟩
set_option maxHeartbeats 8000000 in
set_option maxRecDepth 100000 in
theorem c_L_act {σ : vS} {v : vV} {c b n : Nat} {S : mS} {t : mN} {D : List mC} {sl : Nat → Option mC} {x : Nat} (hx : x < 2147483648) (hc2 : 2 ≤ c) (hT : kLT σ b) (hK : KT v b ((t, n), (c, S), D, sl)) {B : Nat} (hG : GI B ((t, n), (c, S), D, sl)) (hB : B + 6000000 < 1000000000) (hB2 : B ≤ 200000000) (hf : σ.2.2.2 = false)  : vCZ zN M_L_act yL_act [.ref (b), .int (nI (x))] (σ, v) (qC σ v b (gact x ((t, n), (c, S), D, sl))) := by
  have hN : NB c S B := hG.1.1
  have hI : Iv c 1 S := hG.1.2
  have hc6 := hN.c6
  have hl5 : ∀ m, (gH S m).length ≤ 5 := hN.b.2.1
  have hl12 : ∀ m, (gK S m).length ≤ 12 := hN.b.1
  have hl150 : (gN S).length ≤ 150 := hN.b.2.2
  have hv0 : RV v b ((t, n), (c, S), D, sl) v := ⟨hK, vOw.rf⟩
  refine vCZ_of (ls := [some (.ref (b)), some (.int (nI (x))), none, none, none, none]) pn_L rfl rfl (Nat.le_of_ble_eq_true rfl) rfl ?_
  refine G_bud (b2 := (4 * (6 - 0), 24 * (6 - 0))) (by decide) ?_
  have hy : x / 16 < 134217728 := by omega
  have hk : x % 16 < 16 := by omega
  refine G_iload_n dL_act_0 rfl rfl ?_
  refine G_bipush (v := nI 16) dL_act_1 (by decide) ?_
  refine G_idivN dL_act_3 (by omega) (by decide) (by decide) ?_
  refine G_istore_n (ls2 := [some (.ref (b)), some (.int (nI (x))), some (.int (nI (x / 16))), none, none, none]) dL_act_4 rfl (by decide) rfl ?_
  refine G_aload_n dL_act_5 rfl rfl ?_
  refine G_iconst (v := nI 2) dL_act_6 (by decide) ?_
  refine G_iconst (v := nI 0) dL_act_7 (by decide) ?_
  refine G_iconst (v := nI 0) dL_act_8 (by decide) ?_
  refine G_iconst (v := nI 0) dL_act_9 (by decide) ?_
  refine G_lc (E := 6) (u := 0) (u2 := 1) (rest := []) zN_go dL_act_10 lL_162 ⟨Nat.le_of_ble_eq_true rfl, Nat.le_of_ble_eq_true rfl⟩ (Nat.le_of_ble_eq_true rfl) hf ⟨by omega, rfl⟩ hv0.2 (r_about (by decide) hT hv0.1 hG hB hf) (fun v1 rv2 => ?_)
  refine G_top (y := nI (c)) rfl ?_
  refine G_istore_n (ls2 := [some (.ref (b)), some (.int (nI (x))), some (.int (nI (x / 16))), some (.int (nI (c))), none, none]) dL_act_13 rfl (by decide) rfl ?_
  refine G_iload_n dL_act_14 rfl rfl ?_
  refine G_iload_n dL_act_15 rfl rfl ?_
  refine G_iremN dL_act_16 (by omega) (by omega) (by omega) ?_
  refine G_istore (ls2 := [some (.ref (b)), some (.int (nI (x))), some (.int (nI (x / 16))), some (.int (nI (c))), some (.int (nI ((x / 16) % c))), none]) dL_act_17 (by decide) rfl ?_
  refine G_iload_n dL_act_19 rfl rfl ?_
  refine G_bipush (v := nI 6) dL_act_20 (by decide) ?_
  refine G_idivN dL_act_22 (by omega) (by decide) (by decide) ?_
  refine G_iload_n dL_act_23 rfl rfl ?_
  refine G_iremN dL_act_24 (by omega) (by omega) (by omega) ?_
  refine G_istore (ls2 := [some (.ref (b)), some (.int (nI (x))), some (.int (nI (x / 16))), some (.int (nI (c))), some (.int (nI ((x / 16) % c))), some (.int (nI (((x / 16) / 6) % c)))]) dL_act_25 (by decide) rfl ?_
  refine G_iload_n dL_act_27 rfl rfl ?_
  refine G_bipush (v := nI 16) dL_act_28 (by decide) ?_
  refine G_iremN dL_act_30 (by omega) (by decide) (by decide) ?_
  unfold gact
  generalize x / 16 = y at hy ⊢
  generalize x % 16 = k at hk ⊢
  have hm9 : y % c < c := Nat.mod_lt y (by omega)
  rcases vsw (k) 0 11 (by omega) (by decide) with c31 | ⟨c31_j, c31_b, c31⟩
  · refine G_tswOut (tgt := 304) dL_act_31 (vsw_out (by omega) c31) (by decide) ?_
    refine G_aload_n dL_act_304 rfl rfl ?_
    refine G_bipush (v := nI 13) dL_act_305 (by decide) ?_
    refine G_iconst (v := nI 1) dL_act_307 (by decide) ?_
    refine G_iload_n dL_act_308 rfl rfl ?_
    refine G_bipush (v := nI 9) dL_act_309 (by decide) ?_
    refine G_iremN dL_act_311 (by omega) (by decide) (by decide) ?_
    refine G_iaddN dL_act_312 ?_
    refine G_iconst (v := nI 0) dL_act_313 (by decide) ?_
    refine G_iconst (v := nI 0) dL_act_314 (by decide) ?_
    refine G_lc (E := 6) (u := 1) (u2 := 2) (rest := []) zN_go dL_act_315 lL_162 ⟨Nat.le_of_ble_eq_true rfl, Nat.le_of_ble_eq_true rfl⟩ (Nat.le_of_ble_eq_true rfl) hf ⟨by omega, rfl⟩ rv2.2 (c_call_13 hT rv2.1 hG hB hf) (fun v3 rv4 => ?_)
    refine G_top (y := ((gP [eIA] (g_ticks ((t, n), (c, S), D, sl) (nI (1 + (y % 9))))).1)) rfl ?_
    refine G_iret dL_act_318 rfl ?_
    refine qc_endR (R' := gP [eIA] (g_ticks ((t, n), (c, S), D, sl) (nI (1 + (y % 9))))) rv4 ?_
    show gactK k y ((t, n), (c, S), D, sl) = _
    dsimp only [gactK]
    (repeat (first | rw [if_pos (by omega)] | rw [if_neg (by omega)] | rw [decide_eq_true (by omega)] | rw [decide_eq_false (by omega)]))
  · rcases (by omega : c31_j = 0 ∨ c31_j = 1 ∨ c31_j = 2 ∨ c31_j = 3 ∨ c31_j = 4 ∨ c31_j = 5 ∨ c31_j = 6 ∨ c31_j = 7 ∨ c31_j = 8 ∨ c31_j = 9 ∨ c31_j = 10 ∨ c31_j = 11) with q31 | q31 | q31 | q31 | q31 | q31 | q31 | q31 | q31 | q31 | q31 | q31
    · replace c31 : k = 0 := by omega
      refine G_tswIn (off := 61) (tgt := 92) dL_act_31 (by rw [vsw_int c31 (by decide)]; decide) (by rw [vsw_int c31 (by decide)]; decide) (by rw [vsw_int c31 (by decide)]; rfl) (by decide) ?_
      refine G_aload_n dL_act_92 rfl rfl ?_
      refine G_bipush (v := nI 8) dL_act_93 (by decide) ?_
      refine G_iload dL_act_95 rfl ?_
      refine G_iconst (v := nI 0) dL_act_97 (by decide) ?_
      refine G_iconst (v := nI 0) dL_act_98 (by decide) ?_
      refine G_lc (E := 6) (u := 1) (u2 := 2) (rest := []) zN_go dL_act_99 lL_162 ⟨Nat.le_of_ble_eq_true rfl, Nat.le_of_ble_eq_true rfl⟩ (Nat.le_of_ble_eq_true rfl) hf ⟨by omega, rfl⟩ rv2.2 (c_call_8 hT rv2.1 hG hB hf) (fun v5 rv6 => ?_)
      refine G_top (y := ((gP [eIO, eIS] (g_say ((t, n), (c, S), D, sl) (nI (y % c)))).1)) rfl ?_
      refine G_iret dL_act_102 rfl ?_
      refine qc_endR (R' := gP [eIO, eIS] (g_say ((t, n), (c, S), D, sl) (nI (y % c)))) rv6 ?_
      show gactK k y ((t, n), (c, S), D, sl) = _
      dsimp only [gactK]
      (repeat (first | rw [if_pos (by omega)] | rw [if_neg (by omega)] | rw [decide_eq_true (by omega)] | rw [decide_eq_false (by omega)]))
    · replace c31 : k = 1 := by omega
      refine G_tswIn (off := 61) (tgt := 92) dL_act_31 (by rw [vsw_int c31 (by decide)]; decide) (by rw [vsw_int c31 (by decide)]; decide) (by rw [vsw_int c31 (by decide)]; rfl) (by decide) ?_
      refine G_aload_n dL_act_92 rfl rfl ?_
      refine G_bipush (v := nI 8) dL_act_93 (by decide) ?_
      refine G_iload dL_act_95 rfl ?_
      refine G_iconst (v := nI 0) dL_act_97 (by decide) ?_
      refine G_iconst (v := nI 0) dL_act_98 (by decide) ?_
      refine G_lc (E := 6) (u := 1) (u2 := 2) (rest := []) zN_go dL_act_99 lL_162 ⟨Nat.le_of_ble_eq_true rfl, Nat.le_of_ble_eq_true rfl⟩ (Nat.le_of_ble_eq_true rfl) hf ⟨by omega, rfl⟩ rv2.2 (c_call_8 hT rv2.1 hG hB hf) (fun v7 rv8 => ?_)
      refine G_top (y := ((gP [eIO, eIS] (g_say ((t, n), (c, S), D, sl) (nI (y % c)))).1)) rfl ?_
      refine G_iret dL_act_102 rfl ?_
      refine qc_endR (R' := gP [eIO, eIS] (g_say ((t, n), (c, S), D, sl) (nI (y % c)))) rv8 ?_
      show gactK k y ((t, n), (c, S), D, sl) = _
      dsimp only [gactK]
      (repeat (first | rw [if_pos (by omega)] | rw [if_neg (by omega)] | rw [decide_eq_true (by omega)] | rw [decide_eq_false (by omega)]))
    · replace c31 : k = 2 := by omega
      refine G_tswIn (off := 61) (tgt := 92) dL_act_31 (by rw [vsw_int c31 (by decide)]; decide) (by rw [vsw_int c31 (by decide)]; decide) (by rw [vsw_int c31 (by decide)]; rfl) (by decide) ?_
      refine G_aload_n dL_act_92 rfl rfl ?_
      refine G_bipush (v := nI 8) dL_act_93 (by decide) ?_
      refine G_iload dL_act_95 rfl ?_
      refine G_iconst (v := nI 0) dL_act_97 (by decide) ?_
      refine G_iconst (v := nI 0) dL_act_98 (by decide) ?_
      refine G_lc (E := 6) (u := 1) (u2 := 2) (rest := []) zN_go dL_act_99 lL_162 ⟨Nat.le_of_ble_eq_true rfl, Nat.le_of_ble_eq_true rfl⟩ (Nat.le_of_ble_eq_true rfl) hf ⟨by omega, rfl⟩ rv2.2 (c_call_8 hT rv2.1 hG hB hf) (fun v9 rv10 => ?_)
      refine G_top (y := ((gP [eIO, eIS] (g_say ((t, n), (c, S), D, sl) (nI (y % c)))).1)) rfl ?_
      refine G_iret dL_act_102 rfl ?_
      refine qc_endR (R' := gP [eIO, eIS] (g_say ((t, n), (c, S), D, sl) (nI (y % c)))) rv10 ?_
      show gactK k y ((t, n), (c, S), D, sl) = _
      dsimp only [gactK]
      (repeat (first | rw [if_pos (by omega)] | rw [if_neg (by omega)] | rw [decide_eq_true (by omega)] | rw [decide_eq_false (by omega)]))
    · replace c31 : k = 3 := by omega
      refine G_tswIn (off := 61) (tgt := 92) dL_act_31 (by rw [vsw_int c31 (by decide)]; decide) (by rw [vsw_int c31 (by decide)]; decide) (by rw [vsw_int c31 (by decide)]; rfl) (by decide) ?_
      refine G_aload_n dL_act_92 rfl rfl ?_
      refine G_bipush (v := nI 8) dL_act_93 (by decide) ?_
      refine G_iload dL_act_95 rfl ?_
      refine G_iconst (v := nI 0) dL_act_97 (by decide) ?_
      refine G_iconst (v := nI 0) dL_act_98 (by decide) ?_
      refine G_lc (E := 6) (u := 1) (u2 := 2) (rest := []) zN_go dL_act_99 lL_162 ⟨Nat.le_of_ble_eq_true rfl, Nat.le_of_ble_eq_true rfl⟩ (Nat.le_of_ble_eq_true rfl) hf ⟨by omega, rfl⟩ rv2.2 (c_call_8 hT rv2.1 hG hB hf) (fun v11 rv12 => ?_)
      refine G_top (y := ((gP [eIO, eIS] (g_say ((t, n), (c, S), D, sl) (nI (y % c)))).1)) rfl ?_
      refine G_iret dL_act_102 rfl ?_
      refine qc_endR (R' := gP [eIO, eIS] (g_say ((t, n), (c, S), D, sl) (nI (y % c)))) rv12 ?_
      show gactK k y ((t, n), (c, S), D, sl) = _
      dsimp only [gactK]
      (repeat (first | rw [if_pos (by omega)] | rw [if_neg (by omega)] | rw [decide_eq_true (by omega)] | rw [decide_eq_false (by omega)]))
    · replace c31 : k = 4 := by omega
      refine G_tswIn (off := 72) (tgt := 103) dL_act_31 (by rw [vsw_int c31 (by decide)]; decide) (by rw [vsw_int c31 (by decide)]; decide) (by rw [vsw_int c31 (by decide)]; rfl) (by decide) ?_
      refine G_aload_n dL_act_103 rfl rfl ?_
      refine G_bipush (v := nI 9) dL_act_104 (by decide) ?_
      refine G_iload dL_act_106 rfl ?_
      refine G_iload_n dL_act_108 rfl rfl ?_
      refine G_bipush (v := nI 6) dL_act_109 (by decide) ?_
      refine G_idivN dL_act_111 (by omega) (by decide) (by decide) ?_
      refine G_bipush (v := nI 64) dL_act_112 (by decide) ?_
      refine G_iremN dL_act_114 (by omega) (by decide) (by decide) ?_
      refine G_iconst (v := nI 1) dL_act_115 (by decide) ?_
      refine G_iload dL_act_116 rfl ?_
      refine G_ishlN dL_act_118 (by have := Nat.mod_lt y (show 0 < c by omega); omega) ?_
      refine G_iorN dL_act_119 ?_
      refine G_iconst (v := nI 1) dL_act_120 (by decide) ?_
      refine G_iload_n dL_act_121 rfl rfl ?_
      refine G_ishlN dL_act_122 (by omega) ?_
      refine G_iconst (v := nI 1) dL_act_123 (by decide) ?_
      refine G_isubN dL_act_124 (by rw [Nat.one_shiftLeft]; exact Nat.pow_pos (by decide)) ?_
      refine G_iandN dL_act_125 ?_
      refine G_iconst (v := nI 0) dL_act_126 (by decide) ?_
      refine G_lc (E := 6) (u := 1) (u2 := 2) (rest := []) zN_go dL_act_127 lL_162 ⟨Nat.le_of_ble_eq_true rfl, Nat.le_of_ble_eq_true rfl⟩ (Nat.le_of_ble_eq_true rfl) hf ⟨by omega, rfl⟩ rv2.2 (c_call_9 hT rv2.1 hG hB hf) (fun v13 rv14 => ?_)
      refine G_top (y := ((gP [eIO, eIA, eIS] (g_call ((t, n), (c, S), D, sl) (nI (y % c)) (nI ((((y / 6) % 64) ||| (1 <<< (y % c))) &&& ((1 <<< c) - 1))))).1)) rfl ?_
      refine G_iret dL_act_130 rfl ?_
      refine qc_endR (R' := gP [eIO, eIA, eIS] (g_call ((t, n), (c, S), D, sl) (nI (y % c)) (nI ((((y / 6) % 64) ||| (1 <<< (y % c))) &&& ((1 <<< c) - 1))))) rv14 ?_
      show gactK k y ((t, n), (c, S), D, sl) = _
      dsimp only [gactK]
      (repeat (first | rw [if_pos (by omega)] | rw [if_neg (by omega)] | rw [decide_eq_true (by omega)] | rw [decide_eq_false (by omega)]))
    · replace c31 : k = 5 := by omega
      refine G_tswIn (off := 72) (tgt := 103) dL_act_31 (by rw [vsw_int c31 (by decide)]; decide) (by rw [vsw_int c31 (by decide)]; decide) (by rw [vsw_int c31 (by decide)]; rfl) (by decide) ?_
      refine G_aload_n dL_act_103 rfl rfl ?_
      refine G_bipush (v := nI 9) dL_act_104 (by decide) ?_
      refine G_iload dL_act_106 rfl ?_
      refine G_iload_n dL_act_108 rfl rfl ?_
      refine G_bipush (v := nI 6) dL_act_109 (by decide) ?_
      refine G_idivN dL_act_111 (by omega) (by decide) (by decide) ?_
      refine G_bipush (v := nI 64) dL_act_112 (by decide) ?_
      refine G_iremN dL_act_114 (by omega) (by decide) (by decide) ?_
      refine G_iconst (v := nI 1) dL_act_115 (by decide) ?_
      refine G_iload dL_act_116 rfl ?_
      refine G_ishlN dL_act_118 (by have := Nat.mod_lt y (show 0 < c by omega); omega) ?_
      refine G_iorN dL_act_119 ?_
      refine G_iconst (v := nI 1) dL_act_120 (by decide) ?_
      refine G_iload_n dL_act_121 rfl rfl ?_
      refine G_ishlN dL_act_122 (by omega) ?_
      refine G_iconst (v := nI 1) dL_act_123 (by decide) ?_
      refine G_isubN dL_act_124 (by rw [Nat.one_shiftLeft]; exact Nat.pow_pos (by decide)) ?_
      refine G_iandN dL_act_125 ?_
      refine G_iconst (v := nI 0) dL_act_126 (by decide) ?_
      refine G_lc (E := 6) (u := 1) (u2 := 2) (rest := []) zN_go dL_act_127 lL_162 ⟨Nat.le_of_ble_eq_true rfl, Nat.le_of_ble_eq_true rfl⟩ (Nat.le_of_ble_eq_true rfl) hf ⟨by omega, rfl⟩ rv2.2 (c_call_9 hT rv2.1 hG hB hf) (fun v15 rv16 => ?_)
      refine G_top (y := ((gP [eIO, eIA, eIS] (g_call ((t, n), (c, S), D, sl) (nI (y % c)) (nI ((((y / 6) % 64) ||| (1 <<< (y % c))) &&& ((1 <<< c) - 1))))).1)) rfl ?_
      refine G_iret dL_act_130 rfl ?_
      refine qc_endR (R' := gP [eIO, eIA, eIS] (g_call ((t, n), (c, S), D, sl) (nI (y % c)) (nI ((((y / 6) % 64) ||| (1 <<< (y % c))) &&& ((1 <<< c) - 1))))) rv16 ?_
      show gactK k y ((t, n), (c, S), D, sl) = _
      dsimp only [gactK]
      (repeat (first | rw [if_pos (by omega)] | rw [if_neg (by omega)] | rw [decide_eq_true (by omega)] | rw [decide_eq_false (by omega)]))
    · replace c31 : k = 6 := by omega
      refine G_tswIn (off := 72) (tgt := 103) dL_act_31 (by rw [vsw_int c31 (by decide)]; decide) (by rw [vsw_int c31 (by decide)]; decide) (by rw [vsw_int c31 (by decide)]; rfl) (by decide) ?_
      refine G_aload_n dL_act_103 rfl rfl ?_
      refine G_bipush (v := nI 9) dL_act_104 (by decide) ?_
      refine G_iload dL_act_106 rfl ?_
      refine G_iload_n dL_act_108 rfl rfl ?_
      refine G_bipush (v := nI 6) dL_act_109 (by decide) ?_
      refine G_idivN dL_act_111 (by omega) (by decide) (by decide) ?_
      refine G_bipush (v := nI 64) dL_act_112 (by decide) ?_
      refine G_iremN dL_act_114 (by omega) (by decide) (by decide) ?_
      refine G_iconst (v := nI 1) dL_act_115 (by decide) ?_
      refine G_iload dL_act_116 rfl ?_
      refine G_ishlN dL_act_118 (by have := Nat.mod_lt y (show 0 < c by omega); omega) ?_
      refine G_iorN dL_act_119 ?_
      refine G_iconst (v := nI 1) dL_act_120 (by decide) ?_
      refine G_iload_n dL_act_121 rfl rfl ?_
      refine G_ishlN dL_act_122 (by omega) ?_
      refine G_iconst (v := nI 1) dL_act_123 (by decide) ?_
      refine G_isubN dL_act_124 (by rw [Nat.one_shiftLeft]; exact Nat.pow_pos (by decide)) ?_
      refine G_iandN dL_act_125 ?_
      refine G_iconst (v := nI 0) dL_act_126 (by decide) ?_
      refine G_lc (E := 6) (u := 1) (u2 := 2) (rest := []) zN_go dL_act_127 lL_162 ⟨Nat.le_of_ble_eq_true rfl, Nat.le_of_ble_eq_true rfl⟩ (Nat.le_of_ble_eq_true rfl) hf ⟨by omega, rfl⟩ rv2.2 (c_call_9 hT rv2.1 hG hB hf) (fun v17 rv18 => ?_)
      refine G_top (y := ((gP [eIO, eIA, eIS] (g_call ((t, n), (c, S), D, sl) (nI (y % c)) (nI ((((y / 6) % 64) ||| (1 <<< (y % c))) &&& ((1 <<< c) - 1))))).1)) rfl ?_
      refine G_iret dL_act_130 rfl ?_
      refine qc_endR (R' := gP [eIO, eIA, eIS] (g_call ((t, n), (c, S), D, sl) (nI (y % c)) (nI ((((y / 6) % 64) ||| (1 <<< (y % c))) &&& ((1 <<< c) - 1))))) rv18 ?_
      show gactK k y ((t, n), (c, S), D, sl) = _
      dsimp only [gactK]
      (repeat (first | rw [if_pos (by omega)] | rw [if_neg (by omega)] | rw [decide_eq_true (by omega)] | rw [decide_eq_false (by omega)]))
    · replace c31 : k = 7 := by omega
      refine G_tswIn (off := 100) (tgt := 131) dL_act_31 (by rw [vsw_int c31 (by decide)]; decide) (by rw [vsw_int c31 (by decide)]; decide) (by rw [vsw_int c31 (by decide)]; rfl) (by decide) ?_
      refine G_aload_n dL_act_131 rfl rfl ?_
      refine G_iload dL_act_132 rfl ?_
      refine G_iload dL_act_134 rfl ?_
      refine G_iload_n dL_act_136 rfl rfl ?_
      refine G_bipush (v := nI 36) dL_act_137 (by decide) ?_
      refine G_idivN dL_act_139 (by omega) (by decide) (by decide) ?_
      refine G_iconst (v := nI 3) dL_act_140 (by decide) ?_
      refine G_iremN dL_act_141 (by omega) (by decide) (by decide) ?_
      refine G_if_neN (tgt := 149) dL_act_142 (by decide) (by omega) (fun c142 => ?_) (fun c142 => ?_)
      · refine G_iconst (v := nI 0) dL_act_149 (by decide) ?_
        refine G_top (y := vb false) (by decide) ?_
        refine G_lw (np := 4) (hh := [(0, 7, 8, 13), (0, 7, 13, 16)]) (E := 6) (u := 1) (u2 := 2) (rest := []) (As := [.ref (b), .int (nI (y % c)), .int (nI ((y / 6) % c)), .int (vb (false))]) (fun _ _ _ _ z9 => z9) dL_act_150 lL_165 (aw_t 821 (by decide +kernel) (by decide +kernel)) (aw_t 0 (by decide +kernel) (by decide +kernel)) ⟨by decide +kernel, by decide +kernel, by decide +kernel⟩ ys_L_cuts ⟨Nat.le_of_ble_eq_true rfl, Nat.le_of_ble_eq_true rfl⟩ rfl rfl (Nat.le_of_ble_eq_true rfl) rfl hf ⟨by omega, rfl⟩ rv2.2 (c_L_cuts (z := false) hT rv2.1 hG hB hf) (fun v19 rv20 => ?_)
        refine G_iret dL_act_153 rfl ?_
        refine qc_endR (R' := gP [eIO, eIA] (g_cut ((t, n), (c, S), D, sl) (nI (y % c)) (nI ((y / 6) % c)) false)) rv20 ?_
        show gactK k y ((t, n), (c, S), D, sl) = _
        dsimp only [gactK]
        (repeat (first | rw [if_pos (by omega)] | rw [if_neg (by omega)] | rw [decide_eq_true (by omega)] | rw [decide_eq_false (by omega)]))
      · refine G_iconst (v := nI 1) dL_act_145 (by decide) ?_
        refine G_goto (tgt := 150) dL_act_146 (by decide) ?_
        refine G_top (y := vb true) (by decide) ?_
        refine G_lw (np := 4) (hh := [(0, 7, 8, 13), (0, 7, 13, 16)]) (E := 6) (u := 1) (u2 := 2) (rest := []) (As := [.ref (b), .int (nI (y % c)), .int (nI ((y / 6) % c)), .int (vb (true))]) (fun _ _ _ _ z9 => z9) dL_act_150 lL_165 (aw_t 821 (by decide +kernel) (by decide +kernel)) (aw_t 0 (by decide +kernel) (by decide +kernel)) ⟨by decide +kernel, by decide +kernel, by decide +kernel⟩ ys_L_cuts ⟨Nat.le_of_ble_eq_true rfl, Nat.le_of_ble_eq_true rfl⟩ rfl rfl (Nat.le_of_ble_eq_true rfl) rfl hf ⟨by omega, rfl⟩ rv2.2 (c_L_cuts (z := true) hT rv2.1 hG hB hf) (fun v21 rv22 => ?_)
        refine G_iret dL_act_153 rfl ?_
        refine qc_endR (R' := gP [eIO, eIA] (g_cut ((t, n), (c, S), D, sl) (nI (y % c)) (nI ((y / 6) % c)) true)) rv22 ?_
        show gactK k y ((t, n), (c, S), D, sl) = _
        dsimp only [gactK]
        (repeat (first | rw [if_pos (by omega)] | rw [if_neg (by omega)] | rw [decide_eq_true (by omega)] | rw [decide_eq_false (by omega)]))
    · replace c31 : k = 8 := by omega
      refine G_tswIn (off := 123) (tgt := 154) dL_act_31 (by rw [vsw_int c31 (by decide)]; decide) (by rw [vsw_int c31 (by decide)]; decide) (by rw [vsw_int c31 (by decide)]; rfl) (by decide) ?_
      refine G_aload_n dL_act_154 rfl rfl ?_
      refine G_iconst (v := nI 3) dL_act_155 (by decide) ?_
      refine G_iload dL_act_156 rfl ?_
      refine G_iconst (v := nI 1) dL_act_158 (by decide) ?_
      refine G_iconst (v := nI 0) dL_act_159 (by decide) ?_
      refine G_lc (E := 6) (u := 1) (u2 := 2) (rest := []) zN_go dL_act_160 lL_162 ⟨Nat.le_of_ble_eq_true rfl, Nat.le_of_ble_eq_true rfl⟩ (Nat.le_of_ble_eq_true rfl) hf ⟨by omega, rfl⟩ rv2.2 (r_member (by omega) (by decide) hT rv2.1 hG hB hf) (fun v23 rv24 => ?_)
      refine G_top (y := nI (gM S (y % c) 1)) rfl ?_
      refine G_iconst (v := nI 2) dL_act_163 (by decide) ?_
      refine G_icmp_neN (tgt := 180) dL_act_164 (by decide) (by have := hN.m1 ((y % c)); omega) (by omega) (fun c164 => ?_) (fun c164 => ?_)
      · refine G_iload_n dL_act_180 rfl rfl ?_
        refine G_bipush (v := nI 36) dL_act_181 (by decide) ?_
        refine G_idivN dL_act_183 (by omega) (by decide) (by decide) ?_
        refine G_iconst (v := nI 3) dL_act_184 (by decide) ?_
        refine G_iremN dL_act_185 (by omega) (by decide) (by decide) ?_
        refine G_if_neN (tgt := 202) dL_act_186 (by decide) (by omega) (fun c186 => ?_) (fun c186 => ?_)
        · refine G_iconst (v := -1) dL_act_202 (by decide) ?_
          refine G_iret dL_act_203 rfl ?_
          refine qc_endR (R' := (-1, ((t, n), (c, S), D, sl))) rv24 ?_
          show gactK k y ((t, n), (c, S), D, sl) = _
          dsimp only [gactK]
          (repeat (first | rw [if_pos (by omega)] | rw [if_neg (by omega)] | rw [decide_eq_true (by omega)] | rw [decide_eq_false (by omega)]))
        · refine G_aload_n dL_act_189 rfl rfl ?_
          refine G_bipush (v := nI 10) dL_act_190 (by decide) ?_
          refine G_iload dL_act_192 rfl ?_
          refine G_iconst (v := nI 0) dL_act_194 (by decide) ?_
          refine G_iconst (v := nI 0) dL_act_195 (by decide) ?_
          refine G_lc (E := 6) (u := 2) (u2 := 3) (rest := []) zN_go dL_act_196 lL_162 ⟨Nat.le_of_ble_eq_true rfl, Nat.le_of_ble_eq_true rfl⟩ (Nat.le_of_ble_eq_true rfl) hf ⟨by omega, rfl⟩ rv24.2 (c_call_10 hT rv24.1 hG hB hf) (fun v25 rv26 => ?_)
          refine G_top (y := ((gP [eIO, eIS] (g_leave ((t, n), (c, S), D, sl) (nI (y % c)))).1)) rfl ?_
          refine G_goto (tgt := 203) dL_act_199 (by decide) ?_
          refine G_iret dL_act_203 rfl ?_
          refine qc_endR (R' := gP [eIO, eIS] (g_leave ((t, n), (c, S), D, sl) (nI (y % c)))) rv26 ?_
          show gactK k y ((t, n), (c, S), D, sl) = _
          dsimp only [gactK]
          (repeat (first | rw [if_pos (by omega)] | rw [if_neg (by omega)] | rw [decide_eq_true (by omega)] | rw [decide_eq_false (by omega)]))
      · refine G_aload_n dL_act_167 rfl rfl ?_
        refine G_bipush (v := nI 11) dL_act_168 (by decide) ?_
        refine G_iload dL_act_170 rfl ?_
        refine G_iconst (v := nI 0) dL_act_172 (by decide) ?_
        refine G_iconst (v := nI 0) dL_act_173 (by decide) ?_
        refine G_lc (E := 6) (u := 2) (u2 := 3) (rest := []) zN_go dL_act_174 lL_162 ⟨Nat.le_of_ble_eq_true rfl, Nat.le_of_ble_eq_true rfl⟩ (Nat.le_of_ble_eq_true rfl) hf ⟨by omega, rfl⟩ rv24.2 (c_call_11 hT rv24.1 hG hB hf) (fun v27 rv28 => ?_)
        refine G_top (y := ((gP [eIO, eIS] (g_back ((t, n), (c, S), D, sl) (nI (y % c)))).1)) rfl ?_
        refine G_goto (tgt := 203) dL_act_177 (by decide) ?_
        refine G_iret dL_act_203 rfl ?_
        refine qc_endR (R' := gP [eIO, eIS] (g_back ((t, n), (c, S), D, sl) (nI (y % c)))) rv28 ?_
        show gactK k y ((t, n), (c, S), D, sl) = _
        dsimp only [gactK]
        (repeat (first | rw [if_pos (by omega)] | rw [if_neg (by omega)] | rw [decide_eq_true (by omega)] | rw [decide_eq_false (by omega)]))
    · replace c31 : k = 9 := by omega
      refine G_tswIn (off := 173) (tgt := 204) dL_act_31 (by rw [vsw_int c31 (by decide)]; decide) (by rw [vsw_int c31 (by decide)]; decide) (by rw [vsw_int c31 (by decide)]; rfl) (by decide) ?_
      refine G_aload_n dL_act_204 rfl rfl ?_
      refine G_bipush (v := nI 12) dL_act_205 (by decide) ?_
      refine G_iload_n dL_act_207 rfl rfl ?_
      refine G_iconst (v := nI 3) dL_act_208 (by decide) ?_
      refine G_iremN dL_act_209 (by omega) (by decide) (by decide) ?_
      refine G_if_neN (tgt := 217) dL_act_210 (by decide) (by omega) (fun c210 => ?_) (fun c210 => ?_)
      · refine G_iconst (v := nI 3) dL_act_217 (by decide) ?_
        refine G_iload_n dL_act_218 rfl rfl ?_
        refine G_iconst (v := nI 3) dL_act_219 (by decide) ?_
        refine G_idivN dL_act_220 (by omega) (by decide) (by decide) ?_
        refine G_bipush (v := nI 20) dL_act_221 (by decide) ?_
        refine G_iremN dL_act_223 (by omega) (by decide) (by decide) ?_
        refine G_iaddN dL_act_224 ?_
        refine G_iconst (v := nI 0) dL_act_225 (by decide) ?_
        refine G_iconst (v := nI 0) dL_act_226 (by decide) ?_
        refine G_lc (E := 6) (u := 1) (u2 := 2) (rest := []) zN_go dL_act_227 lL_162 ⟨Nat.le_of_ble_eq_true rfl, Nat.le_of_ble_eq_true rfl⟩ (Nat.le_of_ble_eq_true rfl) hf ⟨by omega, rfl⟩ rv2.2 (c_call_12 hT rv2.1 hG hB hf) (fun v29 rv30 => ?_)
        refine G_top (y := ((gP [eIA] (g_set ((t, n), (c, S), D, sl) (nI (3 + ((y / 3) % 20))))).1)) rfl ?_
        refine G_iret dL_act_230 rfl ?_
        refine qc_endR (R' := gP [eIA] (g_set ((t, n), (c, S), D, sl) (nI (3 + ((y / 3) % 20))))) rv30 ?_
        show gactK k y ((t, n), (c, S), D, sl) = _
        dsimp only [gactK]
        (repeat (first | rw [if_pos (by omega)] | rw [if_neg (by omega)] | rw [decide_eq_true (by omega)] | rw [decide_eq_false (by omega)]))
      · refine G_iconst (v := nI 0) dL_act_213 (by decide) ?_
        refine G_goto (tgt := 225) dL_act_214 (by decide) ?_
        refine G_iconst (v := nI 0) dL_act_225 (by decide) ?_
        refine G_iconst (v := nI 0) dL_act_226 (by decide) ?_
        refine G_lc (E := 6) (u := 1) (u2 := 2) (rest := []) zN_go dL_act_227 lL_162 ⟨Nat.le_of_ble_eq_true rfl, Nat.le_of_ble_eq_true rfl⟩ (Nat.le_of_ble_eq_true rfl) hf ⟨by omega, rfl⟩ rv2.2 (c_call_12 hT rv2.1 hG hB hf) (fun v31 rv32 => ?_)
        refine G_top (y := ((gP [eIA] (g_set ((t, n), (c, S), D, sl) (nI (0)))).1)) rfl ?_
        refine G_iret dL_act_230 rfl ?_
        refine qc_endR (R' := gP [eIA] (g_set ((t, n), (c, S), D, sl) (nI (0)))) rv32 ?_
        show gactK k y ((t, n), (c, S), D, sl) = _
        dsimp only [gactK]
        (repeat (first | rw [if_pos (by omega)] | rw [if_neg (by omega)] | rw [decide_eq_true (by omega)] | rw [decide_eq_false (by omega)]))
    · replace c31 : k = 10 := by omega
      refine G_tswIn (off := 200) (tgt := 231) dL_act_31 (by rw [vsw_int c31 (by decide)]; decide) (by rw [vsw_int c31 (by decide)]; decide) (by rw [vsw_int c31 (by decide)]; rfl) (by decide) ?_
      refine G_iload_n dL_act_231 rfl rfl ?_
      refine G_iconst (v := nI 2) dL_act_232 (by decide) ?_
      refine G_iremN dL_act_233 (by omega) (by decide) (by decide) ?_
      refine G_if_neN (tgt := 253) dL_act_234 (by decide) (by omega) (fun c234 => ?_) (fun c234 => ?_)
      · refine G_aload_n dL_act_253 rfl rfl ?_
        refine G_bipush (v := nI 19) dL_act_254 (by decide) ?_
        refine G_iload_n dL_act_256 rfl rfl ?_
        refine G_iconst (v := nI 2) dL_act_257 (by decide) ?_
        refine G_idivN dL_act_258 (by omega) (by decide) (by decide) ?_
        refine G_iconst (v := nI 2) dL_act_259 (by decide) ?_
        refine G_iremN dL_act_260 (by omega) (by decide) (by decide) ?_
        refine G_iconst (v := nI 0) dL_act_261 (by decide) ?_
        refine G_iconst (v := nI 0) dL_act_262 (by decide) ?_
        refine G_lc (E := 6) (u := 1) (u2 := 2) (rest := []) zN_go dL_act_263 lL_162 ⟨Nat.le_of_ble_eq_true rfl, Nat.le_of_ble_eq_true rfl⟩ (Nat.le_of_ble_eq_true rfl) hf ⟨by omega, rfl⟩ rv2.2 (c_call_19 hT rv2.1 hG hB hf) (fun v33 rv34 => ?_)
        refine G_top (y := ((gP [eIO, eIS] (g_restore ((t, n), (c, S), D, sl) (nI ((y / 2) % 2)))).1)) rfl ?_
        refine G_iret dL_act_266 rfl ?_
        refine qc_endR (R' := gP [eIO, eIS] (g_restore ((t, n), (c, S), D, sl) (nI ((y / 2) % 2)))) rv34 ?_
        show gactK k y ((t, n), (c, S), D, sl) = _
        dsimp only [gactK]
        (repeat (first | rw [if_pos (by omega)] | rw [if_neg (by omega)] | rw [decide_eq_true (by omega)] | rw [decide_eq_false (by omega)]))
      · refine G_aload_n dL_act_237 rfl rfl ?_
        refine G_bipush (v := nI 18) dL_act_238 (by decide) ?_
        refine G_iload_n dL_act_240 rfl rfl ?_
        refine G_iconst (v := nI 2) dL_act_241 (by decide) ?_
        refine G_idivN dL_act_242 (by omega) (by decide) (by decide) ?_
        refine G_iconst (v := nI 2) dL_act_243 (by decide) ?_
        refine G_iremN dL_act_244 (by omega) (by decide) (by decide) ?_
        refine G_iconst (v := nI 0) dL_act_245 (by decide) ?_
        refine G_iconst (v := nI 0) dL_act_246 (by decide) ?_
        refine G_lc (E := 6) (u := 1) (u2 := 2) (rest := []) zN_go dL_act_247 lL_162 ⟨Nat.le_of_ble_eq_true rfl, Nat.le_of_ble_eq_true rfl⟩ (Nat.le_of_ble_eq_true rfl) hf ⟨by omega, rfl⟩ rv2.2 (c_call_18 hT rv2.1 hG hB hf) (fun v35 rv36 => ?_)
        refine G_top (y := ((gP [eIO] (g_save ((t, n), (c, S), D, sl) (nI ((y / 2) % 2)))).1)) rfl ?_
        refine G_goto (tgt := 266) dL_act_250 (by decide) ?_
        refine G_iret dL_act_266 rfl ?_
        refine qc_endR (R' := gP [eIO] (g_save ((t, n), (c, S), D, sl) (nI ((y / 2) % 2)))) rv36 ?_
        show gactK k y ((t, n), (c, S), D, sl) = _
        dsimp only [gactK]
        (repeat (first | rw [if_pos (by omega)] | rw [if_neg (by omega)] | rw [decide_eq_true (by omega)] | rw [decide_eq_false (by omega)]))
    · replace c31 : k = 11 := by omega
      refine G_tswIn (off := 236) (tgt := 267) dL_act_31 (by rw [vsw_int c31 (by decide)]; decide) (by rw [vsw_int c31 (by decide)]; decide) (by rw [vsw_int c31 (by decide)]; rfl) (by decide) ?_
      refine G_aload_n dL_act_267 rfl rfl ?_
      refine G_iconst (v := nI 2) dL_act_268 (by decide) ?_
      refine G_iconst (v := nI 1) dL_act_269 (by decide) ?_
      refine G_iconst (v := nI 0) dL_act_270 (by decide) ?_
      refine G_iconst (v := nI 0) dL_act_271 (by decide) ?_
      refine G_lc (E := 6) (u := 1) (u2 := 2) (rest := []) zN_go dL_act_272 lL_162 ⟨Nat.le_of_ble_eq_true rfl, Nat.le_of_ble_eq_true rfl⟩ (Nat.le_of_ble_eq_true rfl) hf ⟨by omega, rfl⟩ rv2.2 (r_about (by decide) hT rv2.1 hG hB hf) (fun v37 rv38 => ?_)
      refine G_top (y := nI (gG S 1)) rfl ?_
      refine G_iconst (v := nI 2) dL_act_275 (by decide) ?_
      refine G_icmp_geN (tgt := 294) dL_act_276 (by decide) (by have := hN.g (i := 1) (by decide); omega) (by omega) (fun c276 => ?_) (fun c276 => ?_)
      · refine G_aload_n dL_act_294 rfl rfl ?_
        refine G_bipush (v := nI 14) dL_act_295 (by decide) ?_
        refine G_iconst (v := nI 0) dL_act_297 (by decide) ?_
        refine G_iconst (v := nI 0) dL_act_298 (by decide) ?_
        refine G_iconst (v := nI 0) dL_act_299 (by decide) ?_
        refine G_lc (E := 6) (u := 2) (u2 := 3) (rest := []) zN_go dL_act_300 lL_162 ⟨Nat.le_of_ble_eq_true rfl, Nat.le_of_ble_eq_true rfl⟩ (Nat.le_of_ble_eq_true rfl) hf ⟨by omega, rfl⟩ rv38.2 (c_call_14 hT rv38.1 hG hB hf) (fun v39 rv40 => ?_)
        refine G_top (y := ((gP [eIS] (g_undo ((t, n), (c, S), D, sl))).1)) rfl ?_
        refine G_iret dL_act_303 rfl ?_
        refine qc_endR (R' := gP [eIS] (g_undo ((t, n), (c, S), D, sl))) rv40 ?_
        show gactK k y ((t, n), (c, S), D, sl) = _
        dsimp only [gactK]
        (repeat (first | rw [if_pos (by omega)] | rw [if_neg (by omega)] | rw [decide_eq_true (by omega)] | rw [decide_eq_false (by omega)]))
      · refine G_aload_n dL_act_279 rfl rfl ?_
        refine G_bipush (v := nI 7) dL_act_280 (by decide) ?_
        refine G_iload_n dL_act_282 rfl rfl ?_
        refine G_bipush (v := nI 10) dL_act_283 (by decide) ?_
        refine G_iremN dL_act_285 (by omega) (by decide) (by decide) ?_
        refine G_iconst (v := nI 0) dL_act_286 (by decide) ?_
        refine G_iconst (v := nI 0) dL_act_287 (by decide) ?_
        refine G_lc (E := 6) (u := 2) (u2 := 3) (rest := []) zN_go dL_act_288 lL_162 ⟨Nat.le_of_ble_eq_true rfl, Nat.le_of_ble_eq_true rfl⟩ (Nat.le_of_ble_eq_true rfl) hf ⟨by omega, rfl⟩ rv38.2 (c_call_7 hT rv38.1 hG hB hf) (fun v41 rv42 => ?_)
        refine G_top (y := ((gP [eIA, eIS] (g_member ((t, n), (c, S), D, sl) (nI (y % 10)))).1)) rfl ?_
        refine G_goto (tgt := 303) dL_act_291 (by decide) ?_
        refine G_iret dL_act_303 rfl ?_
        refine qc_endR (R' := gP [eIA, eIS] (g_member ((t, n), (c, S), D, sl) (nI (y % 10)))) rv42 ?_
        show gactK k y ((t, n), (c, S), D, sl) = _
        dsimp only [gactK]
        (repeat (first | rw [if_pos (by omega)] | rw [if_neg (by omega)] | rw [decide_eq_true (by omega)] | rw [decide_eq_false (by omega)]))
