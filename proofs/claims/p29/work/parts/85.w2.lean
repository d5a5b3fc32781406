
/-! THE LAW'S METHOD call, a row for each number of what is called -/
set_option maxHeartbeats 4000000 in
set_option maxRecDepth 100000 in
theorem c_call_0 {σ : vS} {v : vV} {c b n : Nat} {S : mS} {t : mN} {D : List mC} {sl : Nat → Option mC} {x1 x2 x3 : Int32} (hT : kLT σ b) (hK : KT v b ((t, n), (c, S), D, sl)) {B : Nat} (hG : GI B ((t, n), (c, S), D, sl)) (hB : B + 6000000 < 1000000000) (hf : σ.2.2.2 = false) : vCZ zN M_L_call yL_call [.ref (b), .int (nI 0), .int x1, .int x2, .int x3] (σ, v) (qC σ v b (gP [eIA, eIS] (g_append ((t, n), (c, S), D, sl) x1))) := by
  refine vCZ_of (ls := [some (.ref (b)), some (.int (nI 0)), some (.int x1), some (.int x2), some (.int x3)]) pn_L rfl rfl (Nat.le_of_ble_eq_true rfl) rfl ?_
  refine G_iload_n dL_call_0 rfl rfl ?_
  refine G_tswIn (off := 91) (tgt := 92) dL_call_1 (by rw [vsw_int (k := 0) rfl (by decide)]; decide) (by rw [vsw_int (k := 0) rfl (by decide)]; decide) (by rw [vsw_int (k := 0) rfl (by decide)]; rfl) (by decide) ?_
  refine G_aload_n dL_call_92 rfl rfl ?_
  refine G_iload_n dL_call_93 rfl rfl ?_
  refine G_callSW (np := 2) (hh := [(0, 5, 6, 16), (0, 5, 10, 31)]) (rest := []) (As := [.ref (b), .int x1]) (fun _ _ _ _ z9 => z9) dL_call_94 lL_94 (aw_t 273 (by decide +kernel) (by decide +kernel)) (aw_t 0 (by decide +kernel) (by decide +kernel)) ⟨by decide +kernel, by decide +kernel, by decide +kernel⟩ ys_L_tryAppend ⟨Nat.le_of_ble_eq_true rfl, Nat.le_of_ble_eq_true rfl⟩ rfl rfl (Nat.le_of_ble_eq_true rfl) (by decide) (c_L_tryAppend hT hK hG hB hf) (qc_al hf) ?_
  rintro o9 μ9 ⟨rfl, v1, rfl, hK1, hw1⟩
  refine G_iret dL_call_97 rfl ?_
  exact ⟨rfl, v1, rfl, hK1, hw1⟩
set_option maxHeartbeats 4000000 in
set_option maxRecDepth 100000 in
theorem c_call_1 {σ : vS} {v : vV} {c b n : Nat} {S : mS} {t : mN} {D : List mC} {sl : Nat → Option mC} {x1 x2 x3 : Int32} (hT : kLT σ b) (hK : KT v b ((t, n), (c, S), D, sl)) {B : Nat} (hG : GI B ((t, n), (c, S), D, sl)) (hB : B + 6000000 < 1000000000) (hf : σ.2.2.2 = false) : vCZ zN M_L_call yL_call [.ref (b), .int (nI 1), .int x1, .int x2, .int x3] (σ, v) (qC σ v b (gP [eIS] (g_load ((t, n), (c, S), D, sl)))) := by
  refine vCZ_of (ls := [some (.ref (b)), some (.int (nI 1)), some (.int x1), some (.int x2), some (.int x3)]) pn_L rfl rfl (Nat.le_of_ble_eq_true rfl) rfl ?_
  refine G_iload_n dL_call_0 rfl rfl ?_
  refine G_tswIn (off := 97) (tgt := 98) dL_call_1 (by rw [vsw_int (k := 1) rfl (by decide)]; decide) (by rw [vsw_int (k := 1) rfl (by decide)]; decide) (by rw [vsw_int (k := 1) rfl (by decide)]; rfl) (by decide) ?_
  refine G_aload_n dL_call_98 rfl rfl ?_
  refine G_callSW (np := 1) (hh := [(0, 4, 5, 31)]) (rest := []) (As := [.ref (b)]) (fun _ _ _ _ z9 => z9) dL_call_99 lL_100 (aw_t 372 (by decide +kernel) (by decide +kernel)) (aw_t 0 (by decide +kernel) (by decide +kernel)) ⟨by decide +kernel, by decide +kernel, by decide +kernel⟩ ys_L_tryLoad ⟨Nat.le_of_ble_eq_true rfl, Nat.le_of_ble_eq_true rfl⟩ rfl rfl (Nat.le_of_ble_eq_true rfl) (by decide) (c_L_tryLoad hT hK hG hB hf) (qc_al hf) ?_
  rintro o9 μ9 ⟨rfl, v1, rfl, hK1, hw1⟩
  refine G_iret dL_call_102 rfl ?_
  exact ⟨rfl, v1, rfl, hK1, hw1⟩
set_option maxHeartbeats 4000000 in
set_option maxRecDepth 100000 in
theorem c_call_2 {σ : vS} {v : vV} {c b n : Nat} {S : mS} {t : mN} {D : List mC} {sl : Nat → Option mC} {x1 x2 x3 : Int32} (hT : kLT σ b) (hK : KT v b ((t, n), (c, S), D, sl)) {B : Nat} (hG : GI B ((t, n), (c, S), D, sl)) (hB : B + 6000000 < 1000000000) (hf : σ.2.2.2 = false) : vCZ zN M_L_call yL_call [.ref (b), .int (nI 2), .int x1, .int x2, .int x3] (σ, v) (qC σ v b (gP [eIA] (g_about ((t, n), (c, S), D, sl) x1))) := by
  refine vCZ_of (ls := [some (.ref (b)), some (.int (nI 2)), some (.int x1), some (.int x2), some (.int x3)]) pn_L rfl rfl (Nat.le_of_ble_eq_true rfl) rfl ?_
  refine G_iload_n dL_call_0 rfl rfl ?_
  refine G_tswIn (off := 102) (tgt := 103) dL_call_1 (by rw [vsw_int (k := 2) rfl (by decide)]; decide) (by rw [vsw_int (k := 2) rfl (by decide)]; decide) (by rw [vsw_int (k := 2) rfl (by decide)]; rfl) (by decide) ?_
  refine G_aload_n dL_call_103 rfl rfl ?_
  refine G_iload_n dL_call_104 rfl rfl ?_
  refine G_callSW (np := 2) (hh := [(0, 5, 6, 16)]) (rest := []) (As := [.ref (b), .int x1]) (fun _ _ _ _ z9 => z9) dL_call_105 lL_104 (aw_t 595 (by decide +kernel) (by decide +kernel)) (aw_t 0 (by decide +kernel) (by decide +kernel)) ⟨by decide +kernel, by decide +kernel, by decide +kernel⟩ ys_L_tryAbout ⟨Nat.le_of_ble_eq_true rfl, Nat.le_of_ble_eq_true rfl⟩ rfl rfl (Nat.le_of_ble_eq_true rfl) (by decide) (c_L_tryAbout hT hK hG hB hf) (qc_al hf) ?_
  rintro o9 μ9 ⟨rfl, v1, rfl, hK1, hw1⟩
  refine G_iret dL_call_108 rfl ?_
  exact ⟨rfl, v1, rfl, hK1, hw1⟩
set_option maxHeartbeats 4000000 in
set_option maxRecDepth 100000 in
theorem c_call_3 {σ : vS} {v : vV} {c b n : Nat} {S : mS} {t : mN} {D : List mC} {sl : Nat → Option mC} {x1 x2 x3 : Int32} (hT : kLT σ b) (hK : KT v b ((t, n), (c, S), D, sl)) {B : Nat} (hG : GI B ((t, n), (c, S), D, sl)) (hB : B + 6000000 < 1000000000) (hf : σ.2.2.2 = false) : vCZ zN M_L_call yL_call [.ref (b), .int (nI 3), .int x1, .int x2, .int x3] (σ, v) (qC σ v b (gP [eIO, eIA] (g_memberOf ((t, n), (c, S), D, sl) x1 x2))) := by
  refine vCZ_of (ls := [some (.ref (b)), some (.int (nI 3)), some (.int x1), some (.int x2), some (.int x3)]) pn_L rfl rfl (Nat.le_of_ble_eq_true rfl) rfl ?_
  refine G_iload_n dL_call_0 rfl rfl ?_
  refine G_tswIn (off := 108) (tgt := 109) dL_call_1 (by rw [vsw_int (k := 3) rfl (by decide)]; decide) (by rw [vsw_int (k := 3) rfl (by decide)]; decide) (by rw [vsw_int (k := 3) rfl (by decide)]; rfl) (by decide) ?_
  refine G_aload_n dL_call_109 rfl rfl ?_
  refine G_iload_n dL_call_110 rfl rfl ?_
  refine G_iload_n dL_call_111 rfl rfl ?_
  refine G_callSW (np := 3) (hh := [(0, 6, 7, 13), (0, 6, 11, 16)]) (rest := []) (As := [.ref (b), .int x1, .int x2]) (fun _ _ _ _ z9 => z9) dL_call_112 lL_107 (aw_t 607 (by decide +kernel) (by decide +kernel)) (aw_t 0 (by decide +kernel) (by decide +kernel)) ⟨by decide +kernel, by decide +kernel, by decide +kernel⟩ ys_L_tryMember ⟨Nat.le_of_ble_eq_true rfl, Nat.le_of_ble_eq_true rfl⟩ rfl rfl (Nat.le_of_ble_eq_true rfl) (by decide) (c_L_tryMember hT hK hG hB hf) (qc_al hf) ?_
  rintro o9 μ9 ⟨rfl, v1, rfl, hK1, hw1⟩
  refine G_iret dL_call_115 rfl ?_
  exact ⟨rfl, v1, rfl, hK1, hw1⟩
set_option maxHeartbeats 4000000 in
set_option maxRecDepth 100000 in
theorem c_call_4 {σ : vS} {v : vV} {c b n : Nat} {S : mS} {t : mN} {D : List mC} {sl : Nat → Option mC} {x1 x2 x3 : Int32} (hT : kLT σ b) (hK : KT v b ((t, n), (c, S), D, sl)) {B : Nat} (hG : GI B ((t, n), (c, S), D, sl)) (hB : B + 6000000 < 1000000000) (hf : σ.2.2.2 = false) : vCZ zN M_L_call yL_call [.ref (b), .int (nI 4), .int x1, .int x2, .int x3] (σ, v) (qC σ v b (gP [eIO, eIA] (g_session ((t, n), (c, S), D, sl) x1 x2 x3))) := by
  refine vCZ_of (ls := [some (.ref (b)), some (.int (nI 4)), some (.int x1), some (.int x2), some (.int x3)]) pn_L rfl rfl (Nat.le_of_ble_eq_true rfl) rfl ?_
  refine G_iload_n dL_call_0 rfl rfl ?_
  refine G_tswIn (off := 115) (tgt := 116) dL_call_1 (by rw [vsw_int (k := 4) rfl (by decide)]; decide) (by rw [vsw_int (k := 4) rfl (by decide)]; decide) (by rw [vsw_int (k := 4) rfl (by decide)]; rfl) (by decide) ?_
  refine G_aload_n dL_call_116 rfl rfl ?_
  refine G_iload_n dL_call_117 rfl rfl ?_
  refine G_iload_n dL_call_118 rfl rfl ?_
  refine G_iload dL_call_119 rfl ?_
  refine G_callSW (np := 4) (hh := [(0, 7, 8, 13), (0, 7, 13, 16)]) (rest := []) (As := [.ref (b), .int x1, .int x2, .int x3]) (fun _ _ _ _ z9 => z9) dL_call_121 lL_111 (aw_t 638 (by decide +kernel) (by decide +kernel)) (aw_t 0 (by decide +kernel) (by decide +kernel)) ⟨by decide +kernel, by decide +kernel, by decide +kernel⟩ ys_L_trySession ⟨Nat.le_of_ble_eq_true rfl, Nat.le_of_ble_eq_true rfl⟩ rfl rfl (Nat.le_of_ble_eq_true rfl) (by decide) (c_L_trySession hT hK hG hB hf) (qc_al hf) ?_
  rintro o9 μ9 ⟨rfl, v1, rfl, hK1, hw1⟩
  refine G_iret dL_call_124 rfl ?_
  exact ⟨rfl, v1, rfl, hK1, hw1⟩
set_option maxHeartbeats 4000000 in
set_option maxRecDepth 100000 in
theorem c_call_5 {σ : vS} {v : vV} {c b n : Nat} {S : mS} {t : mN} {D : List mC} {sl : Nat → Option mC} {x1 x2 x3 : Int32} (hT : kLT σ b) (hK : KT v b ((t, n), (c, S), D, sl)) {B : Nat} (hG : GI B ((t, n), (c, S), D, sl)) (hB : B + 6000000 < 1000000000) (hf : σ.2.2.2 = false) : vCZ zN M_L_call yL_call [.ref (b), .int (nI 5), .int x1, .int x2, .int x3] (σ, v) (qC σ v b (gP [eIO, eIA] (g_note ((t, n), (c, S), D, sl) x1 x2))) := by
  refine vCZ_of (ls := [some (.ref (b)), some (.int (nI 5)), some (.int x1), some (.int x2), some (.int x3)]) pn_L rfl rfl (Nat.le_of_ble_eq_true rfl) rfl ?_
  refine G_iload_n dL_call_0 rfl rfl ?_
  refine G_tswIn (off := 124) (tgt := 125) dL_call_1 (by rw [vsw_int (k := 5) rfl (by decide)]; decide) (by rw [vsw_int (k := 5) rfl (by decide)]; decide) (by rw [vsw_int (k := 5) rfl (by decide)]; rfl) (by decide) ?_
  refine G_aload_n dL_call_125 rfl rfl ?_
  refine G_iload_n dL_call_126 rfl rfl ?_
  refine G_iload_n dL_call_127 rfl rfl ?_
  refine G_callSW (np := 3) (hh := [(0, 6, 7, 13), (0, 6, 11, 16)]) (rest := []) (As := [.ref (b), .int x1, .int x2]) (fun _ _ _ _ z9 => z9) dL_call_128 lL_115 (aw_t 647 (by decide +kernel) (by decide +kernel)) (aw_t 0 (by decide +kernel) (by decide +kernel)) ⟨by decide +kernel, by decide +kernel, by decide +kernel⟩ ys_L_tryNote ⟨Nat.le_of_ble_eq_true rfl, Nat.le_of_ble_eq_true rfl⟩ rfl rfl (Nat.le_of_ble_eq_true rfl) (by decide) (c_L_tryNote hT hK hG hB hf) (qc_al hf) ?_
  rintro o9 μ9 ⟨rfl, v1, rfl, hK1, hw1⟩
  refine G_iret dL_call_131 rfl ?_
  exact ⟨rfl, v1, rfl, hK1, hw1⟩
set_option maxHeartbeats 4000000 in
set_option maxRecDepth 100000 in
theorem c_call_6 {σ : vS} {v : vV} {c b n : Nat} {S : mS} {t : mN} {D : List mC} {sl : Nat → Option mC} {x1 x2 x3 : Int32} (hT : kLT σ b) (hK : KT v b ((t, n), (c, S), D, sl)) {B : Nat} (hG : GI B ((t, n), (c, S), D, sl)) (hB : B + 6000000 < 1000000000) (hf : σ.2.2.2 = false) : vCZ zN M_L_call yL_call [.ref (b), .int (nI 6), .int x1, .int x2, .int x3] (σ, v) (qC σ v b (gP [eIO] (g_isCut ((t, n), (c, S), D, sl) x1 x2))) := by
  refine vCZ_of (ls := [some (.ref (b)), some (.int (nI 6)), some (.int x1), some (.int x2), some (.int x3)]) pn_L rfl rfl (Nat.le_of_ble_eq_true rfl) rfl ?_
  refine G_iload_n dL_call_0 rfl rfl ?_
  refine G_tswIn (off := 131) (tgt := 132) dL_call_1 (by rw [vsw_int (k := 6) rfl (by decide)]; decide) (by rw [vsw_int (k := 6) rfl (by decide)]; decide) (by rw [vsw_int (k := 6) rfl (by decide)]; rfl) (by decide) ?_
  refine G_aload_n dL_call_132 rfl rfl ?_
  refine G_iload_n dL_call_133 rfl rfl ?_
  refine G_iload_n dL_call_134 rfl rfl ?_
  refine G_callSW (np := 3) (hh := [(0, 6, 7, 13)]) (rest := []) (As := [.ref (b), .int x1, .int x2]) (fun _ _ _ _ z9 => z9) dL_call_135 lL_118 (aw_t 656 (by decide +kernel) (by decide +kernel)) (aw_t 0 (by decide +kernel) (by decide +kernel)) ⟨by decide +kernel, by decide +kernel, by decide +kernel⟩ ys_L_tryCut ⟨Nat.le_of_ble_eq_true rfl, Nat.le_of_ble_eq_true rfl⟩ rfl rfl (Nat.le_of_ble_eq_true rfl) (by decide) (c_L_tryCut hT hK hG hB hf) (qc_al hf) ?_
  rintro o9 μ9 ⟨rfl, v1, rfl, hK1, hw1⟩
  refine G_iret dL_call_138 rfl ?_
  exact ⟨rfl, v1, rfl, hK1, hw1⟩
set_option maxHeartbeats 4000000 in
set_option maxRecDepth 100000 in
theorem c_call_7 {σ : vS} {v : vV} {c b n : Nat} {S : mS} {t : mN} {D : List mC} {sl : Nat → Option mC} {x1 x2 x3 : Int32} (hT : kLT σ b) (hK : KT v b ((t, n), (c, S), D, sl)) {B : Nat} (hG : GI B ((t, n), (c, S), D, sl)) (hB : B + 6000000 < 1000000000) (hf : σ.2.2.2 = false) : vCZ zN M_L_call yL_call [.ref (b), .int (nI 7), .int x1, .int x2, .int x3] (σ, v) (qC σ v b (gP [eIA, eIS] (g_member ((t, n), (c, S), D, sl) x1))) := by
  refine vCZ_of (ls := [some (.ref (b)), some (.int (nI 7)), some (.int x1), some (.int x2), some (.int x3)]) pn_L rfl rfl (Nat.le_of_ble_eq_true rfl) rfl ?_
  refine G_iload_n dL_call_0 rfl rfl ?_
  refine G_tswIn (off := 138) (tgt := 139) dL_call_1 (by rw [vsw_int (k := 7) rfl (by decide)]; decide) (by rw [vsw_int (k := 7) rfl (by decide)]; decide) (by rw [vsw_int (k := 7) rfl (by decide)]; rfl) (by decide) ?_
  refine G_aload_n dL_call_139 rfl rfl ?_
  refine G_iload_n dL_call_140 rfl rfl ?_
  refine G_callSW (np := 2) (hh := [(0, 5, 6, 16), (0, 5, 10, 31)]) (rest := []) (As := [.ref (b), .int x1]) (fun _ _ _ _ z9 => z9) dL_call_141 lL_121 (aw_t 664 (by decide +kernel) (by decide +kernel)) (aw_t 0 (by decide +kernel) (by decide +kernel)) ⟨by decide +kernel, by decide +kernel, by decide +kernel⟩ ys_L_tryCome ⟨Nat.le_of_ble_eq_true rfl, Nat.le_of_ble_eq_true rfl⟩ rfl rfl (Nat.le_of_ble_eq_true rfl) (by decide) (c_L_tryCome hT hK hG hB hf) (qc_al hf) ?_
  rintro o9 μ9 ⟨rfl, v1, rfl, hK1, hw1⟩
  refine G_iret dL_call_144 rfl ?_
  exact ⟨rfl, v1, rfl, hK1, hw1⟩
set_option maxHeartbeats 4000000 in
set_option maxRecDepth 100000 in
theorem c_call_8 {σ : vS} {v : vV} {c b n : Nat} {S : mS} {t : mN} {D : List mC} {sl : Nat → Option mC} {x1 x2 x3 : Int32} (hT : kLT σ b) (hK : KT v b ((t, n), (c, S), D, sl)) {B : Nat} (hG : GI B ((t, n), (c, S), D, sl)) (hB : B + 6000000 < 1000000000) (hf : σ.2.2.2 = false) : vCZ zN M_L_call yL_call [.ref (b), .int (nI 8), .int x1, .int x2, .int x3] (σ, v) (qC σ v b (gP [eIO, eIS] (g_say ((t, n), (c, S), D, sl) x1))) := by
  refine vCZ_of (ls := [some (.ref (b)), some (.int (nI 8)), some (.int x1), some (.int x2), some (.int x3)]) pn_L rfl rfl (Nat.le_of_ble_eq_true rfl) rfl ?_
  refine G_iload_n dL_call_0 rfl rfl ?_
  refine G_tswIn (off := 144) (tgt := 145) dL_call_1 (by rw [vsw_int (k := 8) rfl (by decide)]; decide) (by rw [vsw_int (k := 8) rfl (by decide)]; decide) (by rw [vsw_int (k := 8) rfl (by decide)]; rfl) (by decide) ?_
  refine G_aload_n dL_call_145 rfl rfl ?_
  refine G_iload_n dL_call_146 rfl rfl ?_
  refine G_callSW (np := 2) (hh := [(0, 5, 6, 13), (0, 5, 10, 31)]) (rest := []) (As := [.ref (b), .int x1]) (fun _ _ _ _ z9 => z9) dL_call_147 lL_124 (aw_t 681 (by decide +kernel) (by decide +kernel)) (aw_t 0 (by decide +kernel) (by decide +kernel)) ⟨by decide +kernel, by decide +kernel, by decide +kernel⟩ ys_L_trySay ⟨Nat.le_of_ble_eq_true rfl, Nat.le_of_ble_eq_true rfl⟩ rfl rfl (Nat.le_of_ble_eq_true rfl) (by decide) (c_L_trySay hT hK hG hB hf) (qc_al hf) ?_
  rintro o9 μ9 ⟨rfl, v1, rfl, hK1, hw1⟩
  refine G_iret dL_call_150 rfl ?_
  exact ⟨rfl, v1, rfl, hK1, hw1⟩
set_option maxHeartbeats 4000000 in
set_option maxRecDepth 100000 in
theorem c_call_9 {σ : vS} {v : vV} {c b n : Nat} {S : mS} {t : mN} {D : List mC} {sl : Nat → Option mC} {x1 x2 x3 : Int32} (hT : kLT σ b) (hK : KT v b ((t, n), (c, S), D, sl)) {B : Nat} (hG : GI B ((t, n), (c, S), D, sl)) (hB : B + 6000000 < 1000000000) (hf : σ.2.2.2 = false) : vCZ zN M_L_call yL_call [.ref (b), .int (nI 9), .int x1, .int x2, .int x3] (σ, v) (qC σ v b (gP [eIO, eIA, eIS] (g_call ((t, n), (c, S), D, sl) x1 x2))) := by
  refine vCZ_of (ls := [some (.ref (b)), some (.int (nI 9)), some (.int x1), some (.int x2), some (.int x3)]) pn_L rfl rfl (Nat.le_of_ble_eq_true rfl) rfl ?_
  refine G_iload_n dL_call_0 rfl rfl ?_
  refine G_tswIn (off := 150) (tgt := 151) dL_call_1 (by rw [vsw_int (k := 9) rfl (by decide)]; decide) (by rw [vsw_int (k := 9) rfl (by decide)]; decide) (by rw [vsw_int (k := 9) rfl (by decide)]; rfl) (by decide) ?_
  refine G_aload_n dL_call_151 rfl rfl ?_
  refine G_iload_n dL_call_152 rfl rfl ?_
  refine G_iload_n dL_call_153 rfl rfl ?_
  refine G_callSW (np := 3) (hh := [(0, 6, 7, 13), (0, 6, 11, 16), (0, 6, 15, 31)]) (rest := []) (As := [.ref (b), .int x1, .int x2]) (fun _ _ _ _ z9 => z9) dL_call_154 lL_127 (aw_t 691 (by decide +kernel) (by decide +kernel)) (aw_t 0 (by decide +kernel) (by decide +kernel)) ⟨by decide +kernel, by decide +kernel, by decide +kernel⟩ ys_L_tryCall ⟨Nat.le_of_ble_eq_true rfl, Nat.le_of_ble_eq_true rfl⟩ rfl rfl (Nat.le_of_ble_eq_true rfl) (by decide) (c_L_tryCall hT hK hG hB hf) (qc_al hf) ?_
  rintro o9 μ9 ⟨rfl, v1, rfl, hK1, hw1⟩
  refine G_iret dL_call_157 rfl ?_
  exact ⟨rfl, v1, rfl, hK1, hw1⟩
set_option maxHeartbeats 4000000 in
set_option maxRecDepth 100000 in
theorem c_call_10 {σ : vS} {v : vV} {c b n : Nat} {S : mS} {t : mN} {D : List mC} {sl : Nat → Option mC} {x1 x2 x3 : Int32} (hT : kLT σ b) (hK : KT v b ((t, n), (c, S), D, sl)) {B : Nat} (hG : GI B ((t, n), (c, S), D, sl)) (hB : B + 6000000 < 1000000000) (hf : σ.2.2.2 = false) : vCZ zN M_L_call yL_call [.ref (b), .int (nI 10), .int x1, .int x2, .int x3] (σ, v) (qC σ v b (gP [eIO, eIS] (g_leave ((t, n), (c, S), D, sl) x1))) := by
  refine vCZ_of (ls := [some (.ref (b)), some (.int (nI 10)), some (.int x1), some (.int x2), some (.int x3)]) pn_L rfl rfl (Nat.le_of_ble_eq_true rfl) rfl ?_
  refine G_iload_n dL_call_0 rfl rfl ?_
  refine G_tswIn (off := 157) (tgt := 158) dL_call_1 (by rw [vsw_int (k := 10) rfl (by decide)]; decide) (by rw [vsw_int (k := 10) rfl (by decide)]; decide) (by rw [vsw_int (k := 10) rfl (by decide)]; rfl) (by decide) ?_
  refine G_aload_n dL_call_158 rfl rfl ?_
  refine G_iload_n dL_call_159 rfl rfl ?_
  refine G_callSW (np := 2) (hh := [(0, 5, 6, 13), (0, 5, 10, 31)]) (rest := []) (As := [.ref (b), .int x1]) (fun _ _ _ _ z9 => z9) dL_call_160 lL_130 (aw_t 703 (by decide +kernel) (by decide +kernel)) (aw_t 0 (by decide +kernel) (by decide +kernel)) ⟨by decide +kernel, by decide +kernel, by decide +kernel⟩ ys_L_tryLeave ⟨Nat.le_of_ble_eq_true rfl, Nat.le_of_ble_eq_true rfl⟩ rfl rfl (Nat.le_of_ble_eq_true rfl) (by decide) (c_L_tryLeave hT hK hG hB hf) (qc_al hf) ?_
  rintro o9 μ9 ⟨rfl, v1, rfl, hK1, hw1⟩
  refine G_iret dL_call_163 rfl ?_
  exact ⟨rfl, v1, rfl, hK1, hw1⟩
set_option maxHeartbeats 4000000 in
set_option maxRecDepth 100000 in
theorem c_call_11 {σ : vS} {v : vV} {c b n : Nat} {S : mS} {t : mN} {D : List mC} {sl : Nat → Option mC} {x1 x2 x3 : Int32} (hT : kLT σ b) (hK : KT v b ((t, n), (c, S), D, sl)) {B : Nat} (hG : GI B ((t, n), (c, S), D, sl)) (hB : B + 6000000 < 1000000000) (hf : σ.2.2.2 = false) : vCZ zN M_L_call yL_call [.ref (b), .int (nI 11), .int x1, .int x2, .int x3] (σ, v) (qC σ v b (gP [eIO, eIS] (g_back ((t, n), (c, S), D, sl) x1))) := by
  refine vCZ_of (ls := [some (.ref (b)), some (.int (nI 11)), some (.int x1), some (.int x2), some (.int x3)]) pn_L rfl rfl (Nat.le_of_ble_eq_true rfl) rfl ?_
  refine G_iload_n dL_call_0 rfl rfl ?_
  refine G_tswIn (off := 163) (tgt := 164) dL_call_1 (by rw [vsw_int (k := 11) rfl (by decide)]; decide) (by rw [vsw_int (k := 11) rfl (by decide)]; decide) (by rw [vsw_int (k := 11) rfl (by decide)]; rfl) (by decide) ?_
  refine G_aload_n dL_call_164 rfl rfl ?_
  refine G_iload_n dL_call_165 rfl rfl ?_
  refine G_callSW (np := 2) (hh := [(0, 5, 6, 13), (0, 5, 10, 31)]) (rest := []) (As := [.ref (b), .int x1]) (fun _ _ _ _ z9 => z9) dL_call_166 lL_133 (aw_t 711 (by decide +kernel) (by decide +kernel)) (aw_t 0 (by decide +kernel) (by decide +kernel)) ⟨by decide +kernel, by decide +kernel, by decide +kernel⟩ ys_L_tryReturn ⟨Nat.le_of_ble_eq_true rfl, Nat.le_of_ble_eq_true rfl⟩ rfl rfl (Nat.le_of_ble_eq_true rfl) (by decide) (c_L_tryReturn hT hK hG hB hf) (qc_al hf) ?_
  rintro o9 μ9 ⟨rfl, v1, rfl, hK1, hw1⟩
  refine G_iret dL_call_169 rfl ?_
  exact ⟨rfl, v1, rfl, hK1, hw1⟩
set_option maxHeartbeats 4000000 in
set_option maxRecDepth 100000 in
theorem c_call_12 {σ : vS} {v : vV} {c b n : Nat} {S : mS} {t : mN} {D : List mC} {sl : Nat → Option mC} {x1 x2 x3 : Int32} (hT : kLT σ b) (hK : KT v b ((t, n), (c, S), D, sl)) {B : Nat} (hG : GI B ((t, n), (c, S), D, sl)) (hB : B + 6000000 < 1000000000) (hf : σ.2.2.2 = false) : vCZ zN M_L_call yL_call [.ref (b), .int (nI 12), .int x1, .int x2, .int x3] (σ, v) (qC σ v b (gP [eIA] (g_set ((t, n), (c, S), D, sl) x1))) := by
  refine vCZ_of (ls := [some (.ref (b)), some (.int (nI 12)), some (.int x1), some (.int x2), some (.int x3)]) pn_L rfl rfl (Nat.le_of_ble_eq_true rfl) rfl ?_
  refine G_iload_n dL_call_0 rfl rfl ?_
  refine G_tswIn (off := 169) (tgt := 170) dL_call_1 (by rw [vsw_int (k := 12) rfl (by decide)]; decide) (by rw [vsw_int (k := 12) rfl (by decide)]; decide) (by rw [vsw_int (k := 12) rfl (by decide)]; rfl) (by decide) ?_
  refine G_aload_n dL_call_170 rfl rfl ?_
  refine G_iload_n dL_call_171 rfl rfl ?_
  refine G_callSW (np := 2) (hh := [(0, 5, 6, 16)]) (rest := []) (As := [.ref (b), .int x1]) (fun _ _ _ _ z9 => z9) dL_call_172 lL_136 (aw_t 720 (by decide +kernel) (by decide +kernel)) (aw_t 0 (by decide +kernel) (by decide +kernel)) ⟨by decide +kernel, by decide +kernel, by decide +kernel⟩ ys_L_tryLay ⟨Nat.le_of_ble_eq_true rfl, Nat.le_of_ble_eq_true rfl⟩ rfl rfl (Nat.le_of_ble_eq_true rfl) (by decide) (c_L_tryLay hT hK hG hB hf) (qc_al hf) ?_
  rintro o9 μ9 ⟨rfl, v1, rfl, hK1, hw1⟩
  refine G_iret dL_call_175 rfl ?_
  exact ⟨rfl, v1, rfl, hK1, hw1⟩
set_option maxHeartbeats 4000000 in
set_option maxRecDepth 100000 in
theorem c_call_13 {σ : vS} {v : vV} {c b n : Nat} {S : mS} {t : mN} {D : List mC} {sl : Nat → Option mC} {x1 x2 x3 : Int32} (hT : kLT σ b) (hK : KT v b ((t, n), (c, S), D, sl)) {B : Nat} (hG : GI B ((t, n), (c, S), D, sl)) (hB : B + 6000000 < 1000000000) (hf : σ.2.2.2 = false) : vCZ zN M_L_call yL_call [.ref (b), .int (nI 13), .int x1, .int x2, .int x3] (σ, v) (qC σ v b (gP [eIA] (g_ticks ((t, n), (c, S), D, sl) x1))) := by
  refine vCZ_of (ls := [some (.ref (b)), some (.int (nI 13)), some (.int x1), some (.int x2), some (.int x3)]) pn_L rfl rfl (Nat.le_of_ble_eq_true rfl) rfl ?_
  refine G_iload_n dL_call_0 rfl rfl ?_
  refine G_tswIn (off := 175) (tgt := 176) dL_call_1 (by rw [vsw_int (k := 13) rfl (by decide)]; decide) (by rw [vsw_int (k := 13) rfl (by decide)]; decide) (by rw [vsw_int (k := 13) rfl (by decide)]; rfl) (by decide) ?_
  refine G_aload_n dL_call_176 rfl rfl ?_
  refine G_iload_n dL_call_177 rfl rfl ?_
  refine G_callSW (np := 2) (hh := [(0, 5, 6, 16)]) (rest := []) (As := [.ref (b), .int x1]) (fun _ _ _ _ z9 => z9) dL_call_178 lL_139 (aw_t 729 (by decide +kernel) (by decide +kernel)) (aw_t 0 (by decide +kernel) (by decide +kernel)) ⟨by decide +kernel, by decide +kernel, by decide +kernel⟩ ys_L_tryTicks ⟨Nat.le_of_ble_eq_true rfl, Nat.le_of_ble_eq_true rfl⟩ rfl rfl (Nat.le_of_ble_eq_true rfl) (by decide) (c_L_tryTicks hT hK hG hB hf) (qc_al hf) ?_
  rintro o9 μ9 ⟨rfl, v1, rfl, hK1, hw1⟩
  refine G_iret dL_call_181 rfl ?_
  exact ⟨rfl, v1, rfl, hK1, hw1⟩
set_option maxHeartbeats 4000000 in
set_option maxRecDepth 100000 in
theorem c_call_14 {σ : vS} {v : vV} {c b n : Nat} {S : mS} {t : mN} {D : List mC} {sl : Nat → Option mC} {x1 x2 x3 : Int32} (hT : kLT σ b) (hK : KT v b ((t, n), (c, S), D, sl)) {B : Nat} (hG : GI B ((t, n), (c, S), D, sl)) (hB : B + 6000000 < 1000000000) (hf : σ.2.2.2 = false) : vCZ zN M_L_call yL_call [.ref (b), .int (nI 14), .int x1, .int x2, .int x3] (σ, v) (qC σ v b (gP [eIS] (g_undo ((t, n), (c, S), D, sl)))) := by
  refine vCZ_of (ls := [some (.ref (b)), some (.int (nI 14)), some (.int x1), some (.int x2), some (.int x3)]) pn_L rfl rfl (Nat.le_of_ble_eq_true rfl) rfl ?_
  refine G_iload_n dL_call_0 rfl rfl ?_
  refine G_tswIn (off := 181) (tgt := 182) dL_call_1 (by rw [vsw_int (k := 14) rfl (by decide)]; decide) (by rw [vsw_int (k := 14) rfl (by decide)]; decide) (by rw [vsw_int (k := 14) rfl (by decide)]; rfl) (by decide) ?_
  refine G_aload_n dL_call_182 rfl rfl ?_
  refine G_callSW (np := 1) (hh := [(0, 4, 5, 31)]) (rest := []) (As := [.ref (b)]) (fun _ _ _ _ z9 => z9) dL_call_183 lL_142 (aw_t 739 (by decide +kernel) (by decide +kernel)) (aw_t 0 (by decide +kernel) (by decide +kernel)) ⟨by decide +kernel, by decide +kernel, by decide +kernel⟩ ys_L_tryUndo ⟨Nat.le_of_ble_eq_true rfl, Nat.le_of_ble_eq_true rfl⟩ rfl rfl (Nat.le_of_ble_eq_true rfl) (by decide) (c_L_tryUndo hT hK hG hB hf) (qc_al hf) ?_
  rintro o9 μ9 ⟨rfl, v1, rfl, hK1, hw1⟩
  refine G_iret dL_call_186 rfl ?_
  exact ⟨rfl, v1, rfl, hK1, hw1⟩
set_option maxHeartbeats 4000000 in
set_option maxRecDepth 100000 in
theorem c_call_15 {σ : vS} {v : vV} {c b n : Nat} {S : mS} {t : mN} {D : List mC} {sl : Nat → Option mC} {x1 x2 x3 : Int32} (hT : kLT σ b) (hK : KT v b ((t, n), (c, S), D, sl)) {B : Nat} (hG : GI B ((t, n), (c, S), D, sl)) (hB : B + 6000000 < 1000000000) (hf : σ.2.2.2 = false) : vCZ zN M_L_call yL_call [.ref (b), .int (nI 15), .int x1, .int x2, .int x3] (σ, v) (qC σ v b (gP [eIO, eIA] (g_standsIn ((t, n), (c, S), D, sl) x1 x2 x3))) := by
  refine vCZ_of (ls := [some (.ref (b)), some (.int (nI 15)), some (.int x1), some (.int x2), some (.int x3)]) pn_L rfl rfl (Nat.le_of_ble_eq_true rfl) rfl ?_
  refine G_iload_n dL_call_0 rfl rfl ?_
  refine G_tswIn (off := 186) (tgt := 187) dL_call_1 (by rw [vsw_int (k := 15) rfl (by decide)]; decide) (by rw [vsw_int (k := 15) rfl (by decide)]; decide) (by rw [vsw_int (k := 15) rfl (by decide)]; rfl) (by decide) ?_
  refine G_aload_n dL_call_187 rfl rfl ?_
  refine G_iload_n dL_call_188 rfl rfl ?_
  refine G_iload_n dL_call_189 rfl rfl ?_
  refine G_iload dL_call_190 rfl ?_
  refine G_callSW (np := 4) (hh := [(0, 7, 8, 13), (0, 7, 13, 16)]) (rest := []) (As := [.ref (b), .int x1, .int x2, .int x3]) (fun _ _ _ _ z9 => z9) dL_call_192 lL_145 (aw_t 751 (by decide +kernel) (by decide +kernel)) (aw_t 0 (by decide +kernel) (by decide +kernel)) ⟨by decide +kernel, by decide +kernel, by decide +kernel⟩ ys_L_tryStands ⟨Nat.le_of_ble_eq_true rfl, Nat.le_of_ble_eq_true rfl⟩ rfl rfl (Nat.le_of_ble_eq_true rfl) (by decide) (c_L_tryStands hT hK hG hB hf) (qc_al hf) ?_
  rintro o9 μ9 ⟨rfl, v1, rfl, hK1, hw1⟩
  refine G_iret dL_call_195 rfl ?_
  exact ⟨rfl, v1, rfl, hK1, hw1⟩
set_option maxHeartbeats 4000000 in
set_option maxRecDepth 100000 in
theorem c_call_16 {σ : vS} {v : vV} {c b n : Nat} {S : mS} {t : mN} {D : List mC} {sl : Nat → Option mC} {x1 x2 x3 : Int32} (hT : kLT σ b) (hK : KT v b ((t, n), (c, S), D, sl)) {B : Nat} (hG : GI B ((t, n), (c, S), D, sl)) (hB : B + 6000000 < 1000000000) (hf : σ.2.2.2 = false) : vCZ zN M_L_call yL_call [.ref (b), .int (nI 16), .int x1, .int x2, .int x3] (σ, v) (qC σ v b (gP [eIO, eIA] (g_compare ((t, n), (c, S), D, sl) x1 x2 x3))) := by
  refine vCZ_of (ls := [some (.ref (b)), some (.int (nI 16)), some (.int x1), some (.int x2), some (.int x3)]) pn_L rfl rfl (Nat.le_of_ble_eq_true rfl) rfl ?_
  refine G_iload_n dL_call_0 rfl rfl ?_
  refine G_tswIn (off := 195) (tgt := 196) dL_call_1 (by rw [vsw_int (k := 16) rfl (by decide)]; decide) (by rw [vsw_int (k := 16) rfl (by decide)]; decide) (by rw [vsw_int (k := 16) rfl (by decide)]; rfl) (by decide) ?_
  refine G_aload_n dL_call_196 rfl rfl ?_
  refine G_iload_n dL_call_197 rfl rfl ?_
  refine G_iload_n dL_call_198 rfl rfl ?_
  refine G_iload dL_call_199 rfl ?_
  refine G_callSW (np := 4) (hh := [(0, 7, 8, 13), (0, 7, 13, 16)]) (rest := []) (As := [.ref (b), .int x1, .int x2, .int x3]) (fun _ _ _ _ z9 => z9) dL_call_201 lL_148 (aw_t 765 (by decide +kernel) (by decide +kernel)) (aw_t 0 (by decide +kernel) (by decide +kernel)) ⟨by decide +kernel, by decide +kernel, by decide +kernel⟩ ys_L_tryCompare ⟨Nat.le_of_ble_eq_true rfl, Nat.le_of_ble_eq_true rfl⟩ rfl rfl (Nat.le_of_ble_eq_true rfl) (by decide) (c_L_tryCompare hT hK hG hB hf) (qc_al hf) ?_
  rintro o9 μ9 ⟨rfl, v1, rfl, hK1, hw1⟩
  refine G_iret dL_call_204 rfl ?_
  exact ⟨rfl, v1, rfl, hK1, hw1⟩
set_option maxHeartbeats 4000000 in
set_option maxRecDepth 100000 in
theorem c_call_17 {σ : vS} {v : vV} {c b n : Nat} {S : mS} {t : mN} {D : List mC} {sl : Nat → Option mC} {x1 x2 x3 : Int32} (hT : kLT σ b) (hK : KT v b ((t, n), (c, S), D, sl)) {B : Nat} (hG : GI B ((t, n), (c, S), D, sl)) (hB : B + 6000000 < 1000000000) (hf : σ.2.2.2 = false) : vCZ zN M_L_call yL_call [.ref (b), .int (nI 17), .int x1, .int x2, .int x3] (σ, v) (qC σ v b (gP [eIO] (g_lacks ((t, n), (c, S), D, sl) x1))) := by
  refine vCZ_of (ls := [some (.ref (b)), some (.int (nI 17)), some (.int x1), some (.int x2), some (.int x3)]) pn_L rfl rfl (Nat.le_of_ble_eq_true rfl) rfl ?_
  refine G_iload_n dL_call_0 rfl rfl ?_
  refine G_tswIn (off := 204) (tgt := 205) dL_call_1 (by rw [vsw_int (k := 17) rfl (by decide)]; decide) (by rw [vsw_int (k := 17) rfl (by decide)]; decide) (by rw [vsw_int (k := 17) rfl (by decide)]; rfl) (by decide) ?_
  refine G_aload_n dL_call_205 rfl rfl ?_
  refine G_iload_n dL_call_206 rfl rfl ?_
  refine G_callSW (np := 2) (hh := [(0, 5, 6, 13)]) (rest := []) (As := [.ref (b), .int x1]) (fun _ _ _ _ z9 => z9) dL_call_207 lL_151 (aw_t 777 (by decide +kernel) (by decide +kernel)) (aw_t 0 (by decide +kernel) (by decide +kernel)) ⟨by decide +kernel, by decide +kernel, by decide +kernel⟩ ys_L_tryLacks ⟨Nat.le_of_ble_eq_true rfl, Nat.le_of_ble_eq_true rfl⟩ rfl rfl (Nat.le_of_ble_eq_true rfl) (by decide) (c_L_tryLacks hT hK hG hB hf) (qc_al hf) ?_
  rintro o9 μ9 ⟨rfl, v1, rfl, hK1, hw1⟩
  refine G_iret dL_call_210 rfl ?_
  exact ⟨rfl, v1, rfl, hK1, hw1⟩
set_option maxHeartbeats 4000000 in
set_option maxRecDepth 100000 in
theorem c_call_18 {σ : vS} {v : vV} {c b n : Nat} {S : mS} {t : mN} {D : List mC} {sl : Nat → Option mC} {x1 x2 x3 : Int32} (hT : kLT σ b) (hK : KT v b ((t, n), (c, S), D, sl)) {B : Nat} (hG : GI B ((t, n), (c, S), D, sl)) (hB : B + 6000000 < 1000000000) (hf : σ.2.2.2 = false) : vCZ zN M_L_call yL_call [.ref (b), .int (nI 18), .int x1, .int x2, .int x3] (σ, v) (qC σ v b (gP [eIO] (g_save ((t, n), (c, S), D, sl) x1))) := by
  refine vCZ_of (ls := [some (.ref (b)), some (.int (nI 18)), some (.int x1), some (.int x2), some (.int x3)]) pn_L rfl rfl (Nat.le_of_ble_eq_true rfl) rfl ?_
  refine G_iload_n dL_call_0 rfl rfl ?_
  refine G_tswIn (off := 210) (tgt := 211) dL_call_1 (by rw [vsw_int (k := 18) rfl (by decide)]; decide) (by rw [vsw_int (k := 18) rfl (by decide)]; decide) (by rw [vsw_int (k := 18) rfl (by decide)]; rfl) (by decide) ?_
  refine G_aload_n dL_call_211 rfl rfl ?_
  refine G_iload_n dL_call_212 rfl rfl ?_
  refine G_callSW (np := 2) (hh := [(0, 5, 6, 13)]) (rest := []) (As := [.ref (b), .int x1]) (fun _ _ _ _ z9 => z9) dL_call_213 lL_154 (aw_t 794 (by decide +kernel) (by decide +kernel)) (aw_t 0 (by decide +kernel) (by decide +kernel)) ⟨by decide +kernel, by decide +kernel, by decide +kernel⟩ ys_L_tryKeep ⟨Nat.le_of_ble_eq_true rfl, Nat.le_of_ble_eq_true rfl⟩ rfl rfl (Nat.le_of_ble_eq_true rfl) (by decide) (c_L_tryKeep hT hK hG hB hf) (qc_al hf) ?_
  rintro o9 μ9 ⟨rfl, v1, rfl, hK1, hw1⟩
  refine G_iret dL_call_216 rfl ?_
  exact ⟨rfl, v1, rfl, hK1, hw1⟩
set_option maxHeartbeats 4000000 in
set_option maxRecDepth 100000 in
theorem c_call_19 {σ : vS} {v : vV} {c b n : Nat} {S : mS} {t : mN} {D : List mC} {sl : Nat → Option mC} {x1 x2 x3 : Int32} (hT : kLT σ b) (hK : KT v b ((t, n), (c, S), D, sl)) {B : Nat} (hG : GI B ((t, n), (c, S), D, sl)) (hB : B + 6000000 < 1000000000) (hf : σ.2.2.2 = false) : vCZ zN M_L_call yL_call [.ref (b), .int (nI 19), .int x1, .int x2, .int x3] (σ, v) (qC σ v b (gP [eIO, eIS] (g_restore ((t, n), (c, S), D, sl) x1))) := by
  refine vCZ_of (ls := [some (.ref (b)), some (.int (nI 19)), some (.int x1), some (.int x2), some (.int x3)]) pn_L rfl rfl (Nat.le_of_ble_eq_true rfl) rfl ?_
  refine G_iload_n dL_call_0 rfl rfl ?_
  refine G_tswOut (tgt := 217) dL_call_1 (by rw [vsw_int (k := 19) rfl (by decide)]; decide) (by decide) ?_
  refine G_aload_n dL_call_217 rfl rfl ?_
  refine G_iload_n dL_call_218 rfl rfl ?_
  refine G_callSW (np := 2) (hh := [(0, 5, 6, 13), (0, 5, 10, 31)]) (rest := []) (As := [.ref (b), .int x1]) (fun _ _ _ _ z9 => z9) dL_call_219 lL_157 (aw_t 805 (by decide +kernel) (by decide +kernel)) (aw_t 0 (by decide +kernel) (by decide +kernel)) ⟨by decide +kernel, by decide +kernel, by decide +kernel⟩ ys_L_tryBack ⟨Nat.le_of_ble_eq_true rfl, Nat.le_of_ble_eq_true rfl⟩ rfl rfl (Nat.le_of_ble_eq_true rfl) (by decide) (c_L_tryBack hT hK hG hB hf) (qc_al hf) ?_
  rintro o9 μ9 ⟨rfl, v1, rfl, hK1, hw1⟩
  refine G_iret dL_call_222 rfl ?_
  exact ⟨rfl, v1, rfl, hK1, hw1⟩
