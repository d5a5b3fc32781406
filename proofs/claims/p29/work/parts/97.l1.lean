
/-! CALLS IN THE LAW'S METHODS: what they answer -/
def RV (v0 : vV) (b : Nat) (T : gT) (v : vV) : Prop := KT v b T ∧ vOw v0 v b 1603
theorem vCZ_eq {Zs : Nat → State → Prop} {z : vR} {y : MethodName} {As : List Value} {σ : vS} {v : vV} {b : Nat} {R R' : Int32 × gT} (h : vCZ Zs z y As (σ, v) (qC σ v b R)) (e : R = R') : vCZ Zs z y As (σ, v) (qC σ v b R') := e ▸ h
/-- a call of one of the law's own methods, of the cost K -/
theorem G_lz {Z9 : kZ9} {M z : vR} {y : MethodName} {pc idx E u u2 K b np : Nat} {ls : List (Option Value)} {st rest As : List Value} {σ : vS} {v0 v : vV} {R : Int32 × gT} {Q : vO → vM → Prop} (hZ : zGo Z9 zN) (hd : decode (vCC M) pc = .ok (.invokestatic idx, 3)) (hl : Cond.methodLink (vOwn M) idx y ∈ aw) (hy : vY z y np) (hs : Cond.static y ∈ aw) (hR : (vRm z).frames + 1 ≤ (vRm M).frames ∧ 8 + (vNL z + 11) + (vRm z).locals ≤ (vRm M).locals) (hst : st = As.reverse ++ rest) (hnp : As.length = np) (hcat : (rest.map fun v => v.category).sum ≤ 8) (hK : ((vRm z).cells, (vRm z).slots) = (4 * K, 24 * K)) (hf : σ.2.2.2 = false) (hu : u + K ≤ E ∧ u2 = u + K) (hv : vOw v0 v b 1603) (hc : vCZ zN z y As (σ, v) (qC σ v b R)) (k : ∀ v', RV v0 b R.2 v' → vG Z9 M (pc + 3) ls (.int R.1 :: rest) (4 * (E - u2), 24 * (E - u2)) (σ, v') Q) : vG Z9 M pc ls st (4 * (E - u), 24 * (E - u)) (σ, v) Q := by
  have k1 : (vRm z).cells = 4 * K := congrArg Prod.fst hK
  have k2 : (vRm z).slots = 24 * K := congrArg Prod.snd hK
  obtain ⟨u1, rfl⟩ := hu
  refine G_callZ hZ zN_bl hd hl hy hs hR hst hnp hcat ⟨by rw [k1]; show 4 * K ≤ 4 * (E - u); omega, by rw [k2]; show 24 * K ≤ 24 * (E - u); omega⟩ hc (qc_al hf) ?_
  rintro o μ ⟨rfl, v', rfl, hK', hw'⟩
  have := k v' ⟨hK', vOw.tr hv hw'⟩
  rw [show 4 * (E - (u + K)) = 4 * (E - u) - (vRm z).cells by rw [k1]; omega, show 24 * (E - (u + K)) = 24 * (E - u) - (vRm z).slots by rw [k2]; omega] at this
  exact this
theorem G_lc {Z9 : kZ9} {M : vR} {pc idx E u u2 b : Nat} {ls : List (Option Value)} {rest : List Value} {σ : vS} {v0 v : vV} {k x1 x2 x3 : Int32} {R : Int32 × gT} {Q : vO → vM → Prop} (hZ : zGo Z9 zN) (hd : decode (vCC M) pc = .ok (.invokestatic idx, 3)) (hl : Cond.methodLink (vOwn M) idx yL_call ∈ aw) (hR : (vRm M_L_call).frames + 1 ≤ (vRm M).frames ∧ 8 + (vNL M_L_call + 11) + (vRm M_L_call).locals ≤ (vRm M).locals) (hcat : (rest.map fun v => v.category).sum ≤ 8) (hf : σ.2.2.2 = false) (hu : u + 1 ≤ E ∧ u2 = u + 1) (hv : vOw v0 v b 1603) (hc : vCZ zN M_L_call yL_call [.ref b, .int k, .int x1, .int x2, .int x3] (σ, v) (qC σ v b R)) (K : ∀ v', RV v0 b R.2 v' → vG Z9 M (pc + 3) ls (.int R.1 :: rest) (4 * (E - u2), 24 * (E - u2)) (σ, v') Q) : vG Z9 M pc ls (.int x3 :: .int x2 :: .int x1 :: .int k :: .ref b :: rest) (4 * (E - u), 24 * (E - u)) (σ, v) Q :=
  G_lz (K := 1) (As := [.ref b, .int k, .int x1, .int x2, .int x3]) hZ hd hl yk_L_call ys_L_call hR rfl rfl hcat rfl hf hu hv hc K
/-- a wrapper that is called right away -/
theorem G_lw {Z9 : kZ9} {M z : vR} {hh : List (Nat × Nat × Nat × Nat)} {y : MethodName} {pc idx E u u2 b np : Nat} {ls : List (Option Value)} {st rest As : List Value} {σ : vS} {v0 v : vV} {R : Int32 × gT} {Q : vO → vM → Prop} (hZ : ∀ s args c hz, Z9 s args c hz → vNcs s) (hd : decode (vCC M) pc = .ok (.invokestatic idx, 3)) (hl : Cond.methodLink (vOwn M) idx y ∈ aw) (hcw : Cond.codeWith y (vCC z) (vNL z) (vRt z) hh ∈ aw) (hini : Cond.initialized y.cls ∈ aw) (hdd : y.cls ≠ "java/lang/invoke/MethodHandle" ∧ y.cls ≠ "java/lang/invoke/VarHandle" ∧ (parseMethodDescriptor y.desc).map (fun d => d.parameters.length) = some np) (hs : Cond.static y ∈ aw) (hR : (vRm z).frames + 1 ≤ (vRm M).frames ∧ 8 + (vNL z + 11) + (vRm z).locals ≤ (vRm M).locals) (hst : st = As.reverse ++ rest) (hnp : As.length = np) (hcat : (rest.map fun v => v.category).sum ≤ 8) (hK : ((vRm z).cells, (vRm z).slots) = (4, 24)) (hf : σ.2.2.2 = false) (hu : u + 1 ≤ E ∧ u2 = u + 1) (hv : vOw v0 v b 1603) (hc : vCG z hh y As (σ, v) (qC σ v b R)) (k : ∀ v', RV v0 b R.2 v' → vG Z9 M (pc + 3) ls (.int R.1 :: rest) (4 * (E - u2), 24 * (E - u2)) (σ, v') Q) : vG Z9 M pc ls st (4 * (E - u), 24 * (E - u)) (σ, v) Q := by
  have k1 : (vRm z).cells = 4 := congrArg Prod.fst hK
  have k2 : (vRm z).slots = 24 := congrArg Prod.snd hK
  obtain ⟨u1, rfl⟩ := hu
  refine G_callSW hZ hd hl hcw hini hdd hs hR hst hnp hcat ⟨by rw [k1]; show 4 ≤ 4 * (E - u); omega, by rw [k2]; show 24 ≤ 24 * (E - u); omega⟩ hc (qc_al hf) ?_
  rintro o μ ⟨rfl, v', rfl, hK', hw'⟩
  have := k v' ⟨hK', vOw.tr hv hw'⟩
  rw [show 4 * (E - (u + 1)) = 4 * (E - u) - (vRm z).cells by rw [k1]; omega, show 24 * (E - (u + 1)) = 24 * (E - u) - (vRm z).slots by rw [k2]; omega] at this
  exact this
theorem vCG_eq {hh : List (Nat × Nat × Nat × Nat)} {z : vR} {y : MethodName} {As : List Value} {σ : vS} {v : vV} {b : Nat} {R R' : Int32 × gT} (h : vCG z hh y As (σ, v) (qC σ v b R)) (e : R = R') : vCG z hh y As (σ, v) (qC σ v b R') := e ▸ h
theorem mb_t {c m : Nat} (h : m < c) (hc : c ≤ 6) : mb c (nI m) = true := by rw [mb_n (by omega)]; exact decide_eq_true h
theorem gin_t {k lo hi : Nat} (h1 : lo ≤ k) (h2 : k ≤ hi) (hh : hi < 2147483648) : gin (nI k) lo hi = true := by rw [gin_k (by omega)]; exact decide_eq_true ⟨h1, h2⟩
theorem gin_f {k lo hi : Nat} (h : k < lo ∨ hi < k) (hh : k < 2147483648) : gin (nI k) lo hi = false := by rw [gin_k hh]; exact decide_eq_false (by omega)
theorem idx_t {k n : Nat} (h : k < n) (hn : n < 2147483648) : idxIn (nI k) n = true := by unfold idxIn; rw [nI_toInt (by omega)]; exact decide_eq_true (by omega)
theorem idx_f {k n : Nat} (h : n ≤ k) (hk : k < 2147483648) : idxIn (nI k) n = false := by unfold idxIn; rw [nI_toInt hk]; exact decide_eq_false (by omega)
theorem neg_toInt {k : Nat} (h : k < 1000000) : (-1 - nI k : Int32).toInt = -1 - (k : Int) := by
  have e1 : (nI k).toInt = k := nI_toInt (by omega)
  rw [Int32.toInt_sub, e1, show (-1 : Int32).toInt = -1 by decide]
  exact Int.bmod_eq_of_le (by omega) (by omega)
theorem neg_gin {k lo hi : Nat} (h : k < 1000000) : gin (-1 - nI k) lo hi = false := by unfold gin; rw [neg_toInt h]; exact decide_eq_false (by omega)
theorem neg_mb {c k : Nat} (h : k < 1000000) : mb c (-1 - nI k) = false := by unfold mb; rw [neg_toInt h]; exact decide_eq_false (by omega)
theorem neg1_gin {lo hi : Nat} : gin (-1) lo hi = false := by unfold gin; rw [show (-1 : Int32).toInt = -1 by decide]; exact decide_eq_false (by omega)

theorem x_append {t : mN} {n c : Nat} {S : mS} {D : List mC} {sl : Nat → Option mC} {a : Int32} (h : gin a 0 255 = false) : gP [eIA, eIS] (g_append ((t, n), (c, S), D, sl) a) = (eIA, ((t, n), (c, S), D, sl)) := by
  dsimp only [g_append]
  rw [if_pos h]
  rfl
theorem x_about {t : mN} {n c : Nat} {S : mS} {D : List mC} {sl : Nat → Option mC} {w : Int32} (h : gin w 0 9 = false) : gP [eIA] (g_about ((t, n), (c, S), D, sl) w) = (eIA, ((t, n), (c, S), D, sl)) := by
  dsimp only [g_about]
  rw [if_pos h]
  rfl
theorem x_memO {t : mN} {n c : Nat} {S : mS} {D : List mC} {sl : Nat → Option mC} {m w : Int32} (h : mb c m = false) : gP [eIO, eIA] (g_memberOf ((t, n), (c, S), D, sl) m w) = (eIO, ((t, n), (c, S), D, sl)) := by
  dsimp only [g_memberOf]
  rw [if_pos h]
  rfl
theorem x_memA {t : mN} {n c : Nat} {S : mS} {D : List mC} {sl : Nat → Option mC} {m w : Int32} (h : mb c m = true) (h2 : gin w 0 11 = false) : gP [eIO, eIA] (g_memberOf ((t, n), (c, S), D, sl) m w) = (eIA, ((t, n), (c, S), D, sl)) := by
  dsimp only [g_memberOf]
  rw [if_neg (gt_f h), if_pos h2]
  rfl
theorem x_sesO {t : mN} {n c : Nat} {S : mS} {D : List mC} {sl : Nat → Option mC} {m k w : Int32} (h : (mb c m && idxIn k (gH S m.toInt.toNat).length) = false) : gP [eIO, eIA] (g_session ((t, n), (c, S), D, sl) m k w) = (eIO, ((t, n), (c, S), D, sl)) := by
  dsimp only [g_session]
  rw [if_pos h]
  rfl
theorem x_notO {t : mN} {n c : Nat} {S : mS} {D : List mC} {sl : Nat → Option mC} {k w : Int32} (h : idxIn k (gN S).length = false) : gP [eIO, eIA] (g_note ((t, n), (c, S), D, sl) k w) = (eIO, ((t, n), (c, S), D, sl)) := by
  dsimp only [g_note]
  rw [if_pos h]
  rfl
theorem x_notA {t : mN} {n c : Nat} {S : mS} {D : List mC} {sl : Nat → Option mC} {k w : Int32} (h : idxIn k (gN S).length = true) (h2 : gin w 0 5 = false) : gP [eIO, eIA] (g_note ((t, n), (c, S), D, sl) k w) = (eIA, ((t, n), (c, S), D, sl)) := by
  dsimp only [g_note]
  rw [if_neg (gt_f h), if_pos h2]
  rfl
theorem x_cut {t : mN} {n c : Nat} {S : mS} {D : List mC} {sl : Nat → Option mC} {a d : Int32} (h : (mb c a && mb c d) = false) : gP [eIO] (g_isCut ((t, n), (c, S), D, sl) a d) = (eIO, ((t, n), (c, S), D, sl)) := by
  dsimp only [g_isCut]
  rw [if_pos h]
  rfl
theorem x_comA {t : mN} {n c : Nat} {S : mS} {D : List mC} {sl : Nat → Option mC} {p : Int32} (h : gin p 0 9 = false) : gP [eIA, eIS] (g_member ((t, n), (c, S), D, sl) p) = (eIA, ((t, n), (c, S), D, sl)) := by
  dsimp only [g_member]
  rw [if_pos h]
  rfl
theorem x_comS {t : mN} {n c : Nat} {S : mS} {D : List mC} {sl : Nat → Option mC} {p : Int32} (h : gin p 0 9 = true) (h2 : ¬ c < 6) : gP [eIA, eIS] (g_member ((t, n), (c, S), D, sl) p) = (eIS, ((t, n), (c, S), D, sl)) := by
  dsimp only [g_member]
  rw [if_neg (gt_f h), if_pos h2]
  rfl
theorem x_sayO {t : mN} {n c : Nat} {S : mS} {D : List mC} {sl : Nat → Option mC} {m : Int32} (h : mb c m = false) : gP [eIO, eIS] (g_say ((t, n), (c, S), D, sl) m) = (eIO, ((t, n), (c, S), D, sl)) := by
  dsimp only [g_say]
  rw [if_pos h]
  rfl
theorem x_sayS {t : mN} {n c : Nat} {S : mS} {D : List mC} {sl : Nat → Option mC} {m : Int32} (h : mb c m = true) (h2 : ¬ (gM S m.toInt.toNat 1 = 0 ∧ gM S m.toInt.toNat 7 < 4)) : gP [eIO, eIS] (g_say ((t, n), (c, S), D, sl) m) = (eIS, ((t, n), (c, S), D, sl)) := by
  dsimp only [g_say]
  rw [if_neg (gt_f h), if_pos h2]
  rfl
theorem x_calO {t : mN} {n c : Nat} {S : mS} {D : List mC} {sl : Nat → Option mC} {m s : Int32} (h : mb c m = false) : gP [eIO, eIA, eIS] (g_call ((t, n), (c, S), D, sl) m s) = (eIO, ((t, n), (c, S), D, sl)) := by
  dsimp only [g_call]
  rw [if_pos h]
  rfl
theorem x_calA {t : mN} {n c : Nat} {S : mS} {D : List mC} {sl : Nat → Option mC} {m s : Int32} (h : mb c m = true) (h2 : mset c m.toInt.toNat s = false) : gP [eIO, eIA, eIS] (g_call ((t, n), (c, S), D, sl) m s) = (eIA, ((t, n), (c, S), D, sl)) := by
  dsimp only [g_call]
  rw [if_neg (gt_f h), if_pos h2]
  rfl
theorem x_calS {t : mN} {n c : Nat} {S : mS} {D : List mC} {sl : Nat → Option mC} {m s : Int32} (h : mb c m = true) (h2 : mset c m.toInt.toNat s = true) (h3 : gM S m.toInt.toNat 1 = 2) : gP [eIO, eIA, eIS] (g_call ((t, n), (c, S), D, sl) m s) = (eIS, ((t, n), (c, S), D, sl)) := by
  dsimp only [g_call]
  rw [if_neg (gt_f h), if_neg (gt_f h2), if_pos h3]
  rfl
theorem x_cutsO {t : mN} {n c : Nat} {S : mS} {D : List mC} {sl : Nat → Option mC} {a d : Int32} {z : Bool} (h : (mb c a && mb c d) = false) : gP [eIO, eIA] (g_cut ((t, n), (c, S), D, sl) a d z) = (eIO, ((t, n), (c, S), D, sl)) := by
  dsimp only [g_cut]
  rw [if_pos h]
  rfl
theorem x_cutsA {t : mN} {n c : Nat} {S : mS} {D : List mC} {sl : Nat → Option mC} {a : Int32} {z : Bool} (h : (mb c a && mb c a) = true) : gP [eIO, eIA] (g_cut ((t, n), (c, S), D, sl) a a z) = (eIA, ((t, n), (c, S), D, sl)) := by
  dsimp only [g_cut]
  rw [if_neg (gt_f h), if_pos rfl]
  rfl
theorem x_leaO {t : mN} {n c : Nat} {S : mS} {D : List mC} {sl : Nat → Option mC} {m : Int32} (h : mb c m = false) : gP [eIO, eIS] (g_leave ((t, n), (c, S), D, sl) m) = (eIO, ((t, n), (c, S), D, sl)) := by
  dsimp only [g_leave]
  rw [if_pos h]
  rfl
theorem x_leaS {t : mN} {n c : Nat} {S : mS} {D : List mC} {sl : Nat → Option mC} {m : Int32} (h : mb c m = true) (h2 : gM S m.toInt.toNat 1 = 2) : gP [eIO, eIS] (g_leave ((t, n), (c, S), D, sl) m) = (eIS, ((t, n), (c, S), D, sl)) := by
  dsimp only [g_leave]
  rw [if_neg (gt_f h), if_pos h2]
  rfl
theorem x_retO {t : mN} {n c : Nat} {S : mS} {D : List mC} {sl : Nat → Option mC} {m : Int32} (h : mb c m = false) : gP [eIO, eIS] (g_back ((t, n), (c, S), D, sl) m) = (eIO, ((t, n), (c, S), D, sl)) := by
  dsimp only [g_back]
  rw [if_pos h]
  rfl
theorem x_retS {t : mN} {n c : Nat} {S : mS} {D : List mC} {sl : Nat → Option mC} {m : Int32} (h : mb c m = true) (h2 : ¬ gM S m.toInt.toNat 1 = 2) : gP [eIO, eIS] (g_back ((t, n), (c, S), D, sl) m) = (eIS, ((t, n), (c, S), D, sl)) := by
  dsimp only [g_back]
  rw [if_neg (gt_f h), if_pos h2]
  rfl
theorem x_lay {t : mN} {n c : Nat} {S : mS} {D : List mC} {sl : Nat → Option mC} {a : Int32} (h : gin a 0 40 = false) : gP [eIA] (g_set ((t, n), (c, S), D, sl) a) = (eIA, ((t, n), (c, S), D, sl)) := by
  dsimp only [g_set]
  rw [if_pos h]
  rfl
theorem x_tic {t : mN} {n c : Nat} {S : mS} {D : List mC} {sl : Nat → Option mC} {a : Int32} (h : gin a 1 60 = false) : gP [eIA] (g_ticks ((t, n), (c, S), D, sl) a) = (eIA, ((t, n), (c, S), D, sl)) := by
  dsimp only [g_ticks]
  rw [if_pos h]
  rfl
theorem x_staO {t : mN} {n c : Nat} {S : mS} {D : List mC} {sl : Nat → Option mC} {m s w : Int32} (h : mb c m = false) : gP [eIO, eIA] (g_standsIn ((t, n), (c, S), D, sl) m s w) = (eIO, ((t, n), (c, S), D, sl)) := by
  dsimp only [g_standsIn]
  rw [if_pos h]
  rfl
theorem x_staA {t : mN} {n c : Nat} {S : mS} {D : List mC} {sl : Nat → Option mC} {m s w : Int32} (h : mb c m = true) (h2 : (gin w 0 1 && mset c m.toInt.toNat s) = false) : gP [eIO, eIA] (g_standsIn ((t, n), (c, S), D, sl) m s w) = (eIA, ((t, n), (c, S), D, sl)) := by
  dsimp only [g_standsIn]
  rw [if_neg (gt_f h), if_pos h2]
  rfl
theorem x_staN {t : mN} {n c : Nat} {S : mS} {D : List mC} {sl : Nat → Option mC} {m s w : Int32} (h : mb c m = true) (h2 : (gin w 0 1 && mset c m.toInt.toNat s) = true) (h3 : gM S m.toInt.toNat 1 = 2) : gP [eIO, eIA] (g_standsIn ((t, n), (c, S), D, sl) m s w) = (-1, ((t, n), (c, S), D, sl)) := by
  dsimp only [g_standsIn]
  rw [if_neg (gt_f h), if_neg (gt_f h2), if_pos h3]
  rfl
theorem x_cmpO {t : mN} {n c : Nat} {S : mS} {D : List mC} {sl : Nat → Option mC} {a d w : Int32} (h : (mb c a && mb c d) = false) : gP [eIO, eIA] (g_compare ((t, n), (c, S), D, sl) a d w) = (eIO, ((t, n), (c, S), D, sl)) := by
  dsimp only [g_compare]
  rw [if_pos h]
  rfl
theorem x_cmpA {t : mN} {n c : Nat} {S : mS} {D : List mC} {sl : Nat → Option mC} {a d w : Int32} (h : (mb c a && mb c d) = true) (h2 : gin w 0 1 = false) : gP [eIO, eIA] (g_compare ((t, n), (c, S), D, sl) a d w) = (eIA, ((t, n), (c, S), D, sl)) := by
  dsimp only [g_compare]
  rw [if_neg (gt_f h), if_pos h2]
  rfl
theorem x_lacO {t : mN} {n c : Nat} {S : mS} {D : List mC} {sl : Nat → Option mC} {m : Int32} (h : mb c m = false) : gP [eIO] (g_lacks ((t, n), (c, S), D, sl) m) = (eIO, ((t, n), (c, S), D, sl)) := by
  dsimp only [g_lacks]
  rw [if_pos h]
  rfl
theorem x_keeO {t : mN} {n c : Nat} {S : mS} {D : List mC} {sl : Nat → Option mC} {s : Int32} (h : gin s 0 1 = false) : gP [eIO] (g_save ((t, n), (c, S), D, sl) s) = (eIO, ((t, n), (c, S), D, sl)) := by
  dsimp only [g_save]
  rw [if_pos h]
  rfl
theorem x_bacO {t : mN} {n c : Nat} {S : mS} {D : List mC} {sl : Nat → Option mC} {s : Int32} (h : gin s 0 1 = false) : gP [eIO, eIS] (g_restore ((t, n), (c, S), D, sl) s) = (eIO, ((t, n), (c, S), D, sl)) := by
  dsimp only [g_restore]
  rw [if_pos h]
  rfl
theorem x_scr {t : mN} {n c : Nat} {S : mS} {D : List mC} {sl : Nat → Option mC} {k : Int32} {s : Int64} (h : (gin k 1 3 && decide (0 ≤ s.toInt ∧ s.toInt < ((100000 ^ k.toInt.toNat : Nat) : Int))) = false) : gP [eIA] (g_runScript ((t, n), (c, S), D, sl) k s) = (eIA, ((t, n), (c, S), D, sl)) := by
  dsimp only [g_runScript]
  rw [if_pos h]
  rfl
theorem x_sim {t : mN} {n c : Nat} {S : mS} {D : List mC} {sl : Nat → Option mC} {k : Int32} {x : Int64} (h : gin k 1 60 = false) : gP [eIA] (g_simulate ((t, n), (c, S), D, sl) x k) = (eIA, ((t, n), (c, S), D, sl)) := by
  dsimp only [g_simulate]
  rw [if_pos h]
  rfl
theorem r_about {σ : vS} {v : vV} {c b n : Nat} {S : mS} {t : mN} {D : List mC} {sl : Nat → Option mC} {w : Nat} {y z : Int32} (hw : w ≤ 9) (hT : kLT σ b) (hK : KT v b ((t, n), (c, S), D, sl)) {B : Nat} (hG : GI B ((t, n), (c, S), D, sl)) (hB : B + 6000000 < 1000000000) (hf : σ.2.2.2 = false) : vCZ zN M_L_call yL_call [.ref (b), .int (nI 2), .int (nI w), .int y, .int z] (σ, v) (qC σ v b (nI (aOf c S w), ((t, n), (c, S), D, sl))) := by
  have hc6 : c ≤ 6 := hG.1.1.c6
  refine vCZ_eq (c_call_2 hT hK hG hB hf) ?_
  dsimp only [g_about]
  rw [if_neg (gt_f (gin_t (Nat.zero_le _) hw (by decide))), nn (by omega)]
  rfl
theorem r_member {σ : vS} {v : vV} {c b n : Nat} {S : mS} {t : mN} {D : List mC} {sl : Nat → Option mC} {m w : Nat} {z : Int32} (hm : m < c) (hw : w ≤ 11) (hT : kLT σ b) (hK : KT v b ((t, n), (c, S), D, sl)) {B : Nat} (hG : GI B ((t, n), (c, S), D, sl)) (hB : B + 6000000 < 1000000000) (hf : σ.2.2.2 = false) : vCZ zN M_L_call yL_call [.ref (b), .int (nI 3), .int (nI m), .int (nI w), .int z] (σ, v) (qC σ v b (nI (mOf S m w), ((t, n), (c, S), D, sl))) := by
  have hc6 : c ≤ 6 := hG.1.1.c6
  refine vCZ_eq (c_call_3 hT hK hG hB hf) ?_
  dsimp only [g_memberOf]
  rw [if_neg (gt_f (mb_t hm hc6)), if_neg (gt_f (gin_t (Nat.zero_le _) hw (by decide))), nn (by omega), nn (by omega)]
  rfl
theorem r_session {σ : vS} {v : vV} {c b n : Nat} {S : mS} {t : mN} {D : List mC} {sl : Nat → Option mC} {m k w : Nat} (hm : m < c) (hk : k < (gH S m).length) (hw : w ≤ 2) (hT : kLT σ b) (hK : KT v b ((t, n), (c, S), D, sl)) {B : Nat} (hG : GI B ((t, n), (c, S), D, sl)) (hB : B + 6000000 < 1000000000) (hf : σ.2.2.2 = false) : vCZ zN M_L_call yL_call [.ref (b), .int (nI 4), .int (nI m), .int (nI k), .int (nI w)] (σ, v) (qC σ v b (nI (sOf S m k w), ((t, n), (c, S), D, sl))) := by
  have hc6 : c ≤ 6 := hG.1.1.c6
  refine vCZ_eq (c_call_4 hT hK hG hB hf) ?_
  have hl := hG.1.1.b.2.1 m
  replace hl : (gH S m).length ≤ 5 := hl
  dsimp only [g_session]
  rw [nn (k := m) (by omega), if_neg (gt_f (Bool.and_eq_true_iff.mpr ⟨mb_t hm hc6, idx_t hk (by omega)⟩)), if_neg (gt_f (gin_t (Nat.zero_le _) hw (by decide))), nn (by omega), nn (by omega)]
  rfl
theorem r_note {σ : vS} {v : vV} {c b n : Nat} {S : mS} {t : mN} {D : List mC} {sl : Nat → Option mC} {k w : Nat} {z : Int32} (hk : k < (gN S).length) (hw : w ≤ 5) (hT : kLT σ b) (hK : KT v b ((t, n), (c, S), D, sl)) {B : Nat} (hG : GI B ((t, n), (c, S), D, sl)) (hB : B + 6000000 < 1000000000) (hf : σ.2.2.2 = false) : vCZ zN M_L_call yL_call [.ref (b), .int (nI 5), .int (nI k), .int (nI w), .int z] (σ, v) (qC σ v b (nI (xc ((gN S).getD k n0) w), ((t, n), (c, S), D, sl))) := by
  have hc6 : c ≤ 6 := hG.1.1.c6
  refine vCZ_eq (c_call_5 hT hK hG hB hf) ?_
  have hl := hG.1.1.b.2.2
  replace hl : (gN S).length ≤ 150 := hl
  dsimp only [g_note]
  rw [if_neg (gt_f (idx_t hk (by omega))), if_neg (gt_f (gin_t (Nat.zero_le _) hw (by decide))), nn (by omega), nn (by omega)]
  rfl
theorem r_compare {σ : vS} {v : vV} {c b n : Nat} {S : mS} {t : mN} {D : List mC} {sl : Nat → Option mC} {a d w : Nat} (ha : a < c) (hd : d < c) (hw : w ≤ 1) (hT : kLT σ b) (hK : KT v b ((t, n), (c, S), D, sl)) {B : Nat} (hG : GI B ((t, n), (c, S), D, sl)) (hB : B + 6000000 < 1000000000) (hf : σ.2.2.2 = false) : vCZ zN M_L_call yL_call [.ref (b), .int (nI 16), .int (nI a), .int (nI d), .int (nI w)] (σ, v) (qC σ v b (nI (mcmp S a d w), ((t, n), (c, S), D, sl))) := by
  have hc6 : c ≤ 6 := hG.1.1.c6
  refine vCZ_eq (c_call_16 hT hK hG hB hf) ?_
  dsimp only [g_compare]
  rw [if_neg (gt_f (Bool.and_eq_true_iff.mpr ⟨mb_t ha hc6, mb_t hd hc6⟩)), if_neg (gt_f (gin_t (Nat.zero_le _) hw (by decide))), nn (by omega), nn (by omega), nn (by omega)]
  rfl
theorem r_lacks {σ : vS} {v : vV} {c b n : Nat} {S : mS} {t : mN} {D : List mC} {sl : Nat → Option mC} {m : Nat} {y z : Int32} (hm : m < c) (hT : kLT σ b) (hK : KT v b ((t, n), (c, S), D, sl)) {B : Nat} (hG : GI B ((t, n), (c, S), D, sl)) (hB : B + 6000000 < 1000000000) (hf : σ.2.2.2 = false) : vCZ zN M_L_call yL_call [.ref (b), .int (nI 17), .int (nI m), .int y, .int z] (σ, v) (qC σ v b (nI (mbits (mdif (mlck S m c) (gM S m 5)) 24), ((t, n), (c, S), D, sl))) := by
  have hc6 : c ≤ 6 := hG.1.1.c6
  refine vCZ_eq (c_call_17 hT hK hG hB hf) ?_
  dsimp only [g_lacks]
  rw [if_neg (gt_f (mb_t hm hc6)), nn (by omega)]
  rfl
