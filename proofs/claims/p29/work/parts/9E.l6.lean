
/-! TWO OBJECTS THAT ARE ALIKE -/
def LW (v : vV) (T U : gT) : Prop := KT v 0 T ∧ KT v 1603 U
theorem LW.o {v v' : vV} {T T' U : gT} (h : LW v T U) (r : RV v 0 T' v') : LW v' T' U := ⟨r.1, h.2.out r.2 (Or.inr (Nat.le_refl _))⟩
theorem LW.q {v v' : vV} {T U U' : gT} (h : LW v T U) (r : RV v 1603 U' v') : LW v' T U' := ⟨h.1.out r.2 (Or.inl (Nat.le_refl _)), r.1⟩
def qD (σ : vS) (x : Int32) (T : gT) : Option Value → vM → Prop := fun r μ' => r = some (.int x) ∧ ∃ v' : vV, μ' = (σ, v') ∧ LW v' T T
theorem qd_end {σ : vS} {v : vV} {x y : Int32} {T T' : gT} (h : LW v T' T') (e : x = y) (e2 : T' = T) : vN (qD σ y T) (.inl (some (.int x))) (σ, v) := ⟨by rw [e], v, rfl, by rw [← e2]; exact h⟩
/-- a call of a method of the law on both -/
theorem G_l2 {Z9 : kZ9} {M z : vR} {y : MethodName} {pc idx E u u2 K np : Nat} {ls : List (Option Value)} {st rest As : List Value} {σ : vS} {v : vV} {x : Int32} {T : gT} {Q : vO → vM → Prop} (hZ : zGo Z9 zN) (hd : decode (vCC M) pc = .ok (.invokestatic idx, 3)) (hl : Cond.methodLink (vOwn M) idx y ∈ aw) (hy : vY z y np) (hs : Cond.static y ∈ aw) (hR : (vRm z).frames + 1 ≤ (vRm M).frames ∧ 8 + (vNL z + 11) + (vRm z).locals ≤ (vRm M).locals) (hst : st = As.reverse ++ rest) (hnp : As.length = np) (hcat : (rest.map fun v => v.category).sum ≤ 8) (hK : ((vRm z).cells, (vRm z).slots) = (4 * K, 24 * K)) (hf : σ.2.2.2 = false) (hu : u + K ≤ E ∧ u2 = u + K) (hc : vCZ zN z y As (σ, v) (qD σ x T)) (k : ∀ v', LW v' T T → vG Z9 M (pc + 3) ls (.int x :: rest) (4 * (E - u2), 24 * (E - u2)) (σ, v') Q) : vG Z9 M pc ls st (4 * (E - u), 24 * (E - u)) (σ, v) Q := by
  have k1 : (vRm z).cells = 4 * K := congrArg Prod.fst hK
  have k2 : (vRm z).slots = 24 * K := congrArg Prod.snd hK
  obtain ⟨u1, rfl⟩ := hu
  refine G_callZ hZ zN_bl hd hl hy hs hR hst hnp hcat ⟨by rw [k1]; show 4 * K ≤ 4 * (E - u); omega, by rw [k2]; show 24 * K ≤ 24 * (E - u); omega⟩ hc ?_ ?_
  · rintro o μ ⟨-, v', rfl, -⟩ g
    exact absurd (hf.symm.trans g) Bool.false_ne_true
  · rintro o μ ⟨rfl, v', rfl, hw'⟩
    have := k v' hw'
    rw [show 4 * (E - (u + K)) = 4 * (E - u) - (vRm z).cells by rw [k1]; omega, show 24 * (E - (u + K)) = 24 * (E - u) - (vRm z).slots by rw [k2]; omega] at this
    exact this
theorem y_about {t : mN} {n c : Nat} {S : mS} {D : List mC} {sl : Nat → Option mC} {cs : List Int32} {w : Int32} : gP cs (g_about ((t, n), (c, S), D, sl) w) = ((gP cs (g_about ((t, n), (c, S), D, sl) w)).1, ((t, n), (c, S), D, sl)) := by
  dsimp only [g_about]; split <;> rfl
theorem y_member {t : mN} {n c : Nat} {S : mS} {D : List mC} {sl : Nat → Option mC} {cs : List Int32} {m w : Int32} : gP cs (g_memberOf ((t, n), (c, S), D, sl) m w) = ((gP cs (g_memberOf ((t, n), (c, S), D, sl) m w)).1, ((t, n), (c, S), D, sl)) := by
  dsimp only [g_memberOf]; (repeat' split) <;> rfl
theorem y_note {t : mN} {n c : Nat} {S : mS} {D : List mC} {sl : Nat → Option mC} {cs : List Int32} {m w : Int32} : gP cs (g_note ((t, n), (c, S), D, sl) m w) = ((gP cs (g_note ((t, n), (c, S), D, sl) m w)).1, ((t, n), (c, S), D, sl)) := by
  dsimp only [g_note]; (repeat' split) <;> rfl
theorem y_session {t : mN} {n c : Nat} {S : mS} {D : List mC} {sl : Nat → Option mC} {cs : List Int32} {m k w : Int32} : gP cs (g_session ((t, n), (c, S), D, sl) m k w) = ((gP cs (g_session ((t, n), (c, S), D, sl) m k w)).1, ((t, n), (c, S), D, sl)) := by
  dsimp only [g_session]; (repeat' split) <;> rfl
theorem y_lacks {t : mN} {n c : Nat} {S : mS} {D : List mC} {sl : Nat → Option mC} {cs : List Int32} {m : Int32} : gP cs (g_lacks ((t, n), (c, S), D, sl) m) = ((gP cs (g_lacks ((t, n), (c, S), D, sl) m)).1, ((t, n), (c, S), D, sl)) := by
  dsimp only [g_lacks]; (repeat' split) <;> rfl
theorem y_sim {t : mN} {n c : Nat} {S : mS} {D : List mC} {sl : Nat → Option mC} {cs : List Int32} {x : Int64} {k : Int32} : gP cs (g_simulate ((t, n), (c, S), D, sl) x k) = ((gP cs (g_simulate ((t, n), (c, S), D, sl) x k)).1, ((t, n), (c, S), D, sl)) := by
  dsimp only [g_simulate]; (repeat' split) <;> rfl
def dr1 (D : List mC) : List mC := if D.length = 14 then D.drop 1 else D
theorem t_ticks1 {t : mN} {n c : Nat} {S : mS} {D : List mC} {sl : Nat → Option mC} {p : Nat} (h1 : 1 ≤ p) (h2 : p ≤ 60) : gP [eIA] (g_ticks ((t, n), (c, S), D, sl) (nI p)) = (nI (gG (mticks p S) 6 - gG S 6), ((t, n), (c, mticks p S), dr1 D ++ [(c, S)], sl)) := t_ticks h1 h2
/-- what is undone -/
def tU (T : gT) : gT := (T.1, T.2.2.1.getLast?.getD T.2.1, T.2.2.1.dropLast, T.2.2.2)
theorem t_undo0 {T : gT} (h : 0 < T.2.2.1.length) : gP [eIS] (g_undo T) = (nI (T.2.2.1.length - 1), tU T) := by
  obtain ⟨tn, X, D, sl⟩ := T
  show gP [eIS] (if D.length = 0 then _ else _) = _
  rw [if_neg (show ¬ D.length = 0 from Nat.ne_of_gt h)]
  rfl
theorem GI.undo {B : Nat} {T : gT} (h : GI B T) : GI B (tU T) := by
  refine ⟨?_, fun Y hY => h.2.1 Y ((List.dropLast_sublist _).subset hY), h.2.2⟩
  show KC B (T.2.2.1.getLast?.getD T.2.1)
  cases e : T.2.2.1.getLast? with
  | none => exact h.1
  | some Y => exact h.2.1 Y (List.mem_of_getLast? e)
theorem KT.len {v : vV} {b : Nat} {T : gT} (h : KT v b T) : T.2.2.1.length ≤ 14 := by
  obtain ⟨nx, h1, h2, h3, h4, -⟩ := h.d
  exact h4
theorem c_undo {σ : vS} {v : vV} {b : Nat} {T : gT} {x1 x2 x3 : Int32} (hT : kLT σ b) (hK : KT v b T) {B : Nat} (hG : GI B T) (hB : B + 6000000 < 1000000000) (hf : σ.2.2.2 = false) (h : 0 < T.2.2.1.length) : vCZ zN M_L_call yL_call [.ref (b), .int (nI 14), .int x1, .int x2, .int x3] (σ, v) (qC σ v b (nI (T.2.2.1.length - 1), tU T)) := by
  obtain ⟨⟨t, n⟩, ⟨c, S⟩, D, sl⟩ := T
  exact vCZ_eq (c_call_14 hT hK hG hB hf) (t_undo0 h)
theorem sub60 {p : Nat} (h : p ≤ 60) : nI p + Int32.ofInt (-60) ≤ 0 := by
  have : ∀ p, p ≤ 60 → nI p + Int32.ofInt (-60) ≤ 0 := by decide
  exact this p h
set_option maxHeartbeats 8000000 in
set_option maxRecDepth 100000 in
theorem c_L_alike {σ : vS} {v : vV} {c n : Nat} {S : mS} {t : mN} {D : List mC} {sl : Nat → Option mC} {x : Nat} (hTo : kLT σ 0) (hTq : kLT σ 1603) (hW : LW v ((t, n), (c, S), D, sl) ((t, n), (c, S), D, sl)) {B : Nat} (hG : GI B ((t, n), (c, S), D, sl)) (hB : B + 6000000 < 1000000000) (hf : σ.2.2.2 = false) (hx : x < 2147483648) : vCZ zN M_L_alike yL_alike [.ref (0), .ref (1603), .int (nI (x))] (σ, v) (qD σ (nI 1) ((t, n), (c, S), D, sl)) := by
  have hN : NB c S B := hG.1.1
  have hI : Iv c 1 S := hG.1.2
  have hc6 := hN.c6
  have hl5 : ∀ m, (gH S m).length ≤ 5 := hN.b.2.1
  have hl12 : ∀ m, (gK S m).length ≤ 12 := hN.b.1
  have hl150 : (gN S).length ≤ 150 := hN.b.2.2
  refine vCZ_of (ls := [some (.ref (0)), some (.ref (1603)), some (.int (nI (x))), none, none]) pn_L rfl rfl (Nat.le_of_ble_eq_true rfl) rfl ?_
  refine G_bud (b2 := (4 * (130 - 0), 24 * (130 - 0))) (by decide) ?_
  refine G_aload_n dL_alike_0 rfl rfl ?_
  refine G_iload_n dL_alike_1 rfl rfl ?_
  refine G_i2l dL_alike_2 ?_
  refine G_iconst (v := nI 1) dL_alike_3 (by decide) ?_
  refine G_iload_n dL_alike_4 rfl rfl ?_
  refine G_bipush (v := nI 20) dL_alike_5 (by decide) ?_
  refine G_iremN dL_alike_7 (by omega) (by decide) (by decide) ?_
  refine G_iaddN dL_alike_8 ?_
  refine G_lw (np := 3) (hh := [(0, 6, 7, 16)]) (E := 130) (u := 0) (u2 := 1) (rest := []) (As := [.ref (0), .long ((nI (x)).toInt64), .int (nI (1 + (x % 20)))]) (fun _ _ _ _ z9 => z9) dL_alike_9 lL_175 (aw_t 846 (by decide +kernel) (by decide +kernel)) (aw_t 0 (by decide +kernel) (by decide +kernel)) ⟨by decide +kernel, by decide +kernel, by decide +kernel⟩ ys_L_doSimulate ⟨Nat.le_of_ble_eq_true rfl, Nat.le_of_ble_eq_true rfl⟩ rfl rfl (Nat.le_of_ble_eq_true rfl) rfl hf ⟨by omega, rfl⟩ (vOw.rf (v := v)) (vCG_eq (c_L_doSimulate hTo hW.1 hG hB hf) y_sim) (fun v1 rv2 => ?_)
  have W3 : LW v1 ((t, n), (c, S), D, sl) ((t, n), (c, S), D, sl) := hW.o rv2
  refine G_aload_n dL_alike_12 rfl rfl ?_
  refine G_iload_n dL_alike_13 rfl rfl ?_
  refine G_i2l dL_alike_14 ?_
  refine G_iconst (v := nI 1) dL_alike_15 (by decide) ?_
  refine G_iload_n dL_alike_16 rfl rfl ?_
  refine G_bipush (v := nI 20) dL_alike_17 (by decide) ?_
  refine G_iremN dL_alike_19 (by omega) (by decide) (by decide) ?_
  refine G_iaddN dL_alike_20 ?_
  refine G_lw (np := 3) (hh := [(0, 6, 7, 16)]) (E := 130) (u := 1) (u2 := 2) (rest := [.int (((gP [eIA] (g_simulate ((t, n), (c, S), D, sl) ((nI (x)).toInt64) (nI (1 + (x % 20))))).1))]) (As := [.ref (1603), .long ((nI (x)).toInt64), .int (nI (1 + (x % 20)))]) (fun _ _ _ _ z9 => z9) dL_alike_21 lL_175 (aw_t 846 (by decide +kernel) (by decide +kernel)) (aw_t 0 (by decide +kernel) (by decide +kernel)) ⟨by decide +kernel, by decide +kernel, by decide +kernel⟩ ys_L_doSimulate ⟨Nat.le_of_ble_eq_true rfl, Nat.le_of_ble_eq_true rfl⟩ rfl rfl (Nat.le_of_ble_eq_true rfl) rfl hf ⟨by omega, rfl⟩ (vOw.rf (v := v1)) (vCG_eq (c_L_doSimulate hTq W3.2 hG hB hf) y_sim) (fun v4 rv5 => ?_)
  have W6 : LW v4 ((t, n), (c, S), D, sl) ((t, n), (c, S), D, sl) := W3.q rv5
  refine G_icmp_ne (tgt := 42) dL_alike_24 (by decide) (fun c24 => (c24 rfl).elim) (fun c24 => ?_)
  refine G_aload_n dL_alike_27 rfl rfl ?_
  refine G_together (rest := []) dL_alike_28 lL_182 (Nat.le_of_ble_eq_true rfl) hTo.o (by decide) hf (vOw.rf (v := v4)) (c_X6_together hTo W6.1 hG hB hf) (fun v7 rv8 => ?_)
  have W9 : LW v7 ((t, n), (c, S), D, sl) ((t, n), (c, S), D, sl) := W6.o rv8
  refine G_top (y := nI (mbest c S c)) rfl ?_
  refine G_aload_n dL_alike_31 rfl rfl ?_
  refine G_together (rest := [.int (nI (mbest c S c))]) dL_alike_32 lL_182 (Nat.le_of_ble_eq_true rfl) hTq.o (by decide) hf (vOw.rf (v := v7)) (c_X6_together hTq W9.2 hG hB hf) (fun v10 rv11 => ?_)
  have W12 : LW v10 ((t, n), (c, S), D, sl) ((t, n), (c, S), D, sl) := W9.q rv11
  refine G_top (y := nI (mbest c S c)) rfl ?_
  refine G_icmp_neN (tgt := 42) dL_alike_35 (by decide) (by have := mbest_lt (S := S) hc6 c; omega) (by have := mbest_lt (S := S) hc6 c; omega) (fun c35 => (c35 rfl).elim) (fun c35 => ?_)
  refine G_iconst (v := nI 1) dL_alike_38 (by decide) ?_
  refine G_goto (tgt := 43) dL_alike_39 (by decide) ?_
  refine G_istore_n (ls2 := [some (.ref (0)), some (.ref (1603)), some (.int (nI (x))), some (.int (nI (1))), none]) dL_alike_43 rfl (by decide) rfl ?_
  refine G_iconst (v := nI 0) dL_alike_44 (by decide) ?_
  refine G_istore (ls2 := [some (.ref (0)), some (.ref (1603)), some (.int (nI (x))), some (.int (nI (1))), some (.int (nI (0)))]) dL_alike_45 (by decide) rfl ?_
  have hL47 : ∀ (n47 : Nat) (k : Nat) (w47 : vV), (LW w47 ((t, n), (c, S), D, sl) ((t, n), (c, S), D, sl)) → (k ≤ 12) → (k + n47 = 13) → vG (kZs zN) M_L_alike 47 [some (.ref (0)), some (.ref (1603)), some (.int (nI (x))), some (.int (nI (1))), some (.int (nI (k)))] [] (4 * (10 * n47 - 2 - 0), 24 * (10 * n47 - 2 - 0)) (σ, w47) (vN (qD σ (nI 1) ((t, n), (c, S), D, sl))) := by
    intro n47
    induction n47 with
    | zero =>
      intro k w47 W47 h1 h2
      exact absurd h2 (by omega)
    | succ n47 ih47 =>
      intro k w47 W47 h1 h2
      refine G_iload dL_alike_47 rfl ?_
      refine G_bipush (v := nI 12) dL_alike_49 (by decide) ?_
      refine G_icmp_geN (tgt := 199) dL_alike_51 (by decide) (by omega) (by omega) (fun c51 => ?_) (fun c51 => ?_)
      · refine G_iload_n dL_alike_199 rfl rfl ?_
        refine G_zret dL_alike_200 rfl (by decide) ?_
        exact qd_end W47 rfl rfl
      · refine G_iload_n dL_alike_54 rfl rfl ?_
        refine G_if_eqN (tgt := 199) dL_alike_55 (by decide) (by decide) (fun q9 => absurd q9 (by decide)) (fun _ => ?_)
        refine G_aload_n dL_alike_58 rfl rfl ?_
        refine G_iconst (v := nI 2) dL_alike_59 (by decide) ?_
        refine G_iload dL_alike_60 rfl ?_
        refine G_iconst (v := nI 0) dL_alike_62 (by decide) ?_
        refine G_iconst (v := nI 0) dL_alike_63 (by decide) ?_
        refine G_lc (E := 10 * (n47 + 1) - 2) (u := 0) (u2 := 1) (rest := []) zN_go dL_alike_64 lL_162 ⟨Nat.le_of_ble_eq_true rfl, Nat.le_of_ble_eq_true rfl⟩ (Nat.le_of_ble_eq_true rfl) hf ⟨by omega, rfl⟩ (vOw.rf (v := w47)) (vCZ_eq (c_call_2 hTo W47.1 hG hB hf) y_about) (fun v13 rv14 => ?_)
        have W15 : LW v13 ((t, n), (c, S), D, sl) ((t, n), (c, S), D, sl) := W47.o rv14
        refine G_top (y := ((gP [eIA] (g_about ((t, n), (c, S), D, sl) (nI (k)))).1)) rfl ?_
        refine G_aload_n dL_alike_67 rfl rfl ?_
        refine G_iconst (v := nI 2) dL_alike_68 (by decide) ?_
        refine G_iload dL_alike_69 rfl ?_
        refine G_iconst (v := nI 0) dL_alike_71 (by decide) ?_
        refine G_iconst (v := nI 0) dL_alike_72 (by decide) ?_
        refine G_lc (E := 10 * (n47 + 1) - 2) (u := 1) (u2 := 2) (rest := [.int (((gP [eIA] (g_about ((t, n), (c, S), D, sl) (nI (k)))).1))]) zN_go dL_alike_73 lL_162 ⟨Nat.le_of_ble_eq_true rfl, Nat.le_of_ble_eq_true rfl⟩ (Nat.le_of_ble_eq_true rfl) hf ⟨by omega, rfl⟩ (vOw.rf (v := v13)) (vCZ_eq (c_call_2 hTq W15.2 hG hB hf) y_about) (fun v16 rv17 => ?_)
        have W18 : LW v16 ((t, n), (c, S), D, sl) ((t, n), (c, S), D, sl) := W15.q rv17
        refine G_top (y := ((gP [eIA] (g_about ((t, n), (c, S), D, sl) (nI (k)))).1)) rfl ?_
        refine G_icmp_ne (tgt := 191) dL_alike_76 (by decide) (fun c76 => (c76 rfl).elim) (fun c76 => ?_)
        refine G_aload_n dL_alike_79 rfl rfl ?_
        refine G_iconst (v := nI 3) dL_alike_80 (by decide) ?_
        refine G_iload_n dL_alike_81 rfl rfl ?_
        refine G_bipush (v := nI 6) dL_alike_82 (by decide) ?_
        refine G_iremN dL_alike_84 (by omega) (by decide) (by decide) ?_
        refine G_iload dL_alike_85 rfl ?_
        refine G_iconst (v := nI 0) dL_alike_87 (by decide) ?_
        refine G_lc (E := 10 * (n47 + 1) - 2) (u := 2) (u2 := 3) (rest := []) zN_go dL_alike_88 lL_162 ⟨Nat.le_of_ble_eq_true rfl, Nat.le_of_ble_eq_true rfl⟩ (Nat.le_of_ble_eq_true rfl) hf ⟨by omega, rfl⟩ (vOw.rf (v := v16)) (vCZ_eq (c_call_3 hTo W18.1 hG hB hf) y_member) (fun v19 rv20 => ?_)
        have W21 : LW v19 ((t, n), (c, S), D, sl) ((t, n), (c, S), D, sl) := W18.o rv20
        refine G_top (y := ((gP [eIO, eIA] (g_memberOf ((t, n), (c, S), D, sl) (nI (x % 6)) (nI (k)))).1)) rfl ?_
        refine G_aload_n dL_alike_91 rfl rfl ?_
        refine G_iconst (v := nI 3) dL_alike_92 (by decide) ?_
        refine G_iload_n dL_alike_93 rfl rfl ?_
        refine G_bipush (v := nI 6) dL_alike_94 (by decide) ?_
        refine G_iremN dL_alike_96 (by omega) (by decide) (by decide) ?_
        refine G_iload dL_alike_97 rfl ?_
        refine G_iconst (v := nI 0) dL_alike_99 (by decide) ?_
        refine G_lc (E := 10 * (n47 + 1) - 2) (u := 3) (u2 := 4) (rest := [.int (((gP [eIO, eIA] (g_memberOf ((t, n), (c, S), D, sl) (nI (x % 6)) (nI (k)))).1))]) zN_go dL_alike_100 lL_162 ⟨Nat.le_of_ble_eq_true rfl, Nat.le_of_ble_eq_true rfl⟩ (Nat.le_of_ble_eq_true rfl) hf ⟨by omega, rfl⟩ (vOw.rf (v := v19)) (vCZ_eq (c_call_3 hTq W21.2 hG hB hf) y_member) (fun v22 rv23 => ?_)
        have W24 : LW v22 ((t, n), (c, S), D, sl) ((t, n), (c, S), D, sl) := W21.q rv23
        refine G_top (y := ((gP [eIO, eIA] (g_memberOf ((t, n), (c, S), D, sl) (nI (x % 6)) (nI (k)))).1)) rfl ?_
        refine G_icmp_ne (tgt := 191) dL_alike_103 (by decide) (fun c103 => (c103 rfl).elim) (fun c103 => ?_)
        refine G_aload_n dL_alike_106 rfl rfl ?_
        refine G_iconst (v := nI 5) dL_alike_107 (by decide) ?_
        refine G_iload dL_alike_108 rfl ?_
        refine G_iload_n dL_alike_110 rfl rfl ?_
        refine G_bipush (v := nI 6) dL_alike_111 (by decide) ?_
        refine G_iremN dL_alike_113 (by omega) (by decide) (by decide) ?_
        refine G_iconst (v := nI 0) dL_alike_114 (by decide) ?_
        refine G_lc (E := 10 * (n47 + 1) - 2) (u := 4) (u2 := 5) (rest := []) zN_go dL_alike_115 lL_162 ⟨Nat.le_of_ble_eq_true rfl, Nat.le_of_ble_eq_true rfl⟩ (Nat.le_of_ble_eq_true rfl) hf ⟨by omega, rfl⟩ (vOw.rf (v := v22)) (vCZ_eq (c_call_5 hTo W24.1 hG hB hf) y_note) (fun v25 rv26 => ?_)
        have W27 : LW v25 ((t, n), (c, S), D, sl) ((t, n), (c, S), D, sl) := W24.o rv26
        refine G_top (y := ((gP [eIO, eIA] (g_note ((t, n), (c, S), D, sl) (nI (k)) (nI (x % 6)))).1)) rfl ?_
        refine G_aload_n dL_alike_118 rfl rfl ?_
        refine G_iconst (v := nI 5) dL_alike_119 (by decide) ?_
        refine G_iload dL_alike_120 rfl ?_
        refine G_iload_n dL_alike_122 rfl rfl ?_
        refine G_bipush (v := nI 6) dL_alike_123 (by decide) ?_
        refine G_iremN dL_alike_125 (by omega) (by decide) (by decide) ?_
        refine G_iconst (v := nI 0) dL_alike_126 (by decide) ?_
        refine G_lc (E := 10 * (n47 + 1) - 2) (u := 5) (u2 := 6) (rest := [.int (((gP [eIO, eIA] (g_note ((t, n), (c, S), D, sl) (nI (k)) (nI (x % 6)))).1))]) zN_go dL_alike_127 lL_162 ⟨Nat.le_of_ble_eq_true rfl, Nat.le_of_ble_eq_true rfl⟩ (Nat.le_of_ble_eq_true rfl) hf ⟨by omega, rfl⟩ (vOw.rf (v := v25)) (vCZ_eq (c_call_5 hTq W27.2 hG hB hf) y_note) (fun v28 rv29 => ?_)
        have W30 : LW v28 ((t, n), (c, S), D, sl) ((t, n), (c, S), D, sl) := W27.q rv29
        refine G_top (y := ((gP [eIO, eIA] (g_note ((t, n), (c, S), D, sl) (nI (k)) (nI (x % 6)))).1)) rfl ?_
        refine G_icmp_ne (tgt := 191) dL_alike_130 (by decide) (fun c130 => (c130 rfl).elim) (fun c130 => ?_)
        refine G_aload_n dL_alike_133 rfl rfl ?_
        refine G_iconst (v := nI 4) dL_alike_134 (by decide) ?_
        refine G_iload_n dL_alike_135 rfl rfl ?_
        refine G_bipush (v := nI 6) dL_alike_136 (by decide) ?_
        refine G_iremN dL_alike_138 (by omega) (by decide) (by decide) ?_
        refine G_iload dL_alike_139 rfl ?_
        refine G_iload_n dL_alike_141 rfl rfl ?_
        refine G_iconst (v := nI 3) dL_alike_142 (by decide) ?_
        refine G_iremN dL_alike_143 (by omega) (by decide) (by decide) ?_
        refine G_lc (E := 10 * (n47 + 1) - 2) (u := 6) (u2 := 7) (rest := []) zN_go dL_alike_144 lL_162 ⟨Nat.le_of_ble_eq_true rfl, Nat.le_of_ble_eq_true rfl⟩ (Nat.le_of_ble_eq_true rfl) hf ⟨by omega, rfl⟩ (vOw.rf (v := v28)) (vCZ_eq (c_call_4 hTo W30.1 hG hB hf) y_session) (fun v31 rv32 => ?_)
        have W33 : LW v31 ((t, n), (c, S), D, sl) ((t, n), (c, S), D, sl) := W30.o rv32
        refine G_top (y := ((gP [eIO, eIA] (g_session ((t, n), (c, S), D, sl) (nI (x % 6)) (nI (k)) (nI (x % 3)))).1)) rfl ?_
        refine G_aload_n dL_alike_147 rfl rfl ?_
        refine G_iconst (v := nI 4) dL_alike_148 (by decide) ?_
        refine G_iload_n dL_alike_149 rfl rfl ?_
        refine G_bipush (v := nI 6) dL_alike_150 (by decide) ?_
        refine G_iremN dL_alike_152 (by omega) (by decide) (by decide) ?_
        refine G_iload dL_alike_153 rfl ?_
        refine G_iload_n dL_alike_155 rfl rfl ?_
        refine G_iconst (v := nI 3) dL_alike_156 (by decide) ?_
        refine G_iremN dL_alike_157 (by omega) (by decide) (by decide) ?_
        refine G_lc (E := 10 * (n47 + 1) - 2) (u := 7) (u2 := 8) (rest := [.int (((gP [eIO, eIA] (g_session ((t, n), (c, S), D, sl) (nI (x % 6)) (nI (k)) (nI (x % 3)))).1))]) zN_go dL_alike_158 lL_162 ⟨Nat.le_of_ble_eq_true rfl, Nat.le_of_ble_eq_true rfl⟩ (Nat.le_of_ble_eq_true rfl) hf ⟨by omega, rfl⟩ (vOw.rf (v := v31)) (vCZ_eq (c_call_4 hTq W33.2 hG hB hf) y_session) (fun v34 rv35 => ?_)
        have W36 : LW v34 ((t, n), (c, S), D, sl) ((t, n), (c, S), D, sl) := W33.q rv35
        refine G_top (y := ((gP [eIO, eIA] (g_session ((t, n), (c, S), D, sl) (nI (x % 6)) (nI (k)) (nI (x % 3)))).1)) rfl ?_
        refine G_icmp_ne (tgt := 191) dL_alike_161 (by decide) (fun c161 => (c161 rfl).elim) (fun c161 => ?_)
        refine G_aload_n dL_alike_164 rfl rfl ?_
        refine G_bipush (v := nI 17) dL_alike_165 (by decide) ?_
        refine G_iload dL_alike_167 rfl ?_
        refine G_iconst (v := nI 0) dL_alike_169 (by decide) ?_
        refine G_iconst (v := nI 0) dL_alike_170 (by decide) ?_
        refine G_lc (E := 10 * (n47 + 1) - 2) (u := 8) (u2 := 9) (rest := []) zN_go dL_alike_171 lL_162 ⟨Nat.le_of_ble_eq_true rfl, Nat.le_of_ble_eq_true rfl⟩ (Nat.le_of_ble_eq_true rfl) hf ⟨by omega, rfl⟩ (vOw.rf (v := v34)) (vCZ_eq (c_call_17 hTo W36.1 hG hB hf) y_lacks) (fun v37 rv38 => ?_)
        have W39 : LW v37 ((t, n), (c, S), D, sl) ((t, n), (c, S), D, sl) := W36.o rv38
        refine G_top (y := ((gP [eIO] (g_lacks ((t, n), (c, S), D, sl) (nI (k)))).1)) rfl ?_
        refine G_aload_n dL_alike_174 rfl rfl ?_
        refine G_bipush (v := nI 17) dL_alike_175 (by decide) ?_
        refine G_iload dL_alike_177 rfl ?_
        refine G_iconst (v := nI 0) dL_alike_179 (by decide) ?_
        refine G_iconst (v := nI 0) dL_alike_180 (by decide) ?_
        refine G_lc (E := 10 * (n47 + 1) - 2) (u := 9) (u2 := 10) (rest := [.int (((gP [eIO] (g_lacks ((t, n), (c, S), D, sl) (nI (k)))).1))]) zN_go dL_alike_181 lL_162 ⟨Nat.le_of_ble_eq_true rfl, Nat.le_of_ble_eq_true rfl⟩ (Nat.le_of_ble_eq_true rfl) hf ⟨by omega, rfl⟩ (vOw.rf (v := v37)) (vCZ_eq (c_call_17 hTq W39.2 hG hB hf) y_lacks) (fun v40 rv41 => ?_)
        have W42 : LW v40 ((t, n), (c, S), D, sl) ((t, n), (c, S), D, sl) := W39.q rv41
        refine G_top (y := ((gP [eIO] (g_lacks ((t, n), (c, S), D, sl) (nI (k)))).1)) rfl ?_
        refine G_icmp_ne (tgt := 191) dL_alike_184 (by decide) (fun c184 => (c184 rfl).elim) (fun c184 => ?_)
        refine G_iconst (v := nI 1) dL_alike_187 (by decide) ?_
        refine G_goto (tgt := 192) dL_alike_188 (by decide) ?_
        refine G_istore_n (ls2 := [some (.ref (0)), some (.ref (1603)), some (.int (nI (x))), some (.int (nI (1))), some (.int (nI (k)))]) dL_alike_192 rfl (by decide) rfl ?_
        refine G_iinc (v := nI (k + 1)) (ls2 := [some (.ref (0)), some (.ref (1603)), some (.int (nI (x))), some (.int (nI (1))), some (.int (nI (k + 1)))]) dL_alike_193 rfl (nI_inc _ 1) (by decide) rfl ?_
        refine G_goto (tgt := 47) dL_alike_196 (by decide) ?_
        refine G_bud (b2 := (4 * (10 * n47 - 2 - 0), 24 * (10 * n47 - 2 - 0))) ⟨by show 4 * (10 * n47 - 2 - 0) ≤ 4 * (10 * (n47 + 1) - 2 - 10); omega, by show 24 * (10 * n47 - 2 - 0) ≤ 24 * (10 * (n47 + 1) - 2 - 10); omega⟩ ?_
        exact ih47 (k + 1) v40 W42 (by omega) (by omega)
  refine G_bud (b2 := (4 * (10 * 13 - 2 - 0), 24 * (10 * 13 - 2 - 0))) ⟨by show 4 * (10 * 13 - 2 - 0) ≤ 4 * (130 - 2); omega, by show 24 * (10 * 13 - 2 - 0) ≤ 24 * (130 - 2); omega⟩ ?_
  exact hL47 13 0 v10 W12 (by decide) (by decide)
