
/-- an object after ticks went by, in parts -/
def wT (T : gT) (p : Nat) : gT := match T with
  | ((t, n), (c, S), D, sl) => if p = 0 then ((t, n), (c, S), D, sl) else if p ≤ 60 then ((t, n), (c, mticks p S), dr1 D ++ [(c, S)], sl) else ((t, n), (c, mticks (p - 60) (mticks 60 S)), dr1 (dr1 D ++ [(c, S)]) ++ [(c, mticks 60 S)], sl)
def uT (T : gT) (p : Nat) : gT := if p = 0 then T else if p ≤ 60 then tU T else tU (tU T)
set_option maxHeartbeats 8000000 in
set_option maxRecDepth 100000 in
theorem c_L_waits {σ : vS} {v : vV} {c n : Nat} {S : mS} {t : mN} {D : List mC} {sl : Nat → Option mC} {p : Nat} (hTo : kLT σ 0) (hTq : kLT σ 1603) (hW : LW v ((t, n), (c, S), D, sl) ((t, n), (c, S), D, sl)) {B : Nat} (hG : GI B ((t, n), (c, S), D, sl)) (hB : B + 6000000 < 1000000000) (hf : σ.2.2.2 = false) (hp : p ≤ 100) (hB2 : B ≤ 200270000) (hk : ∀ i, i ≤ 100 → KC B (c, mticks i S)) : vCZ zN M_L_waits yL_waits [.ref (0), .ref (1603), .int (nI (p))] (σ, v) (qD σ (nI 1) (wT ((t, n), (c, S), D, sl) p)) := by
  have hN : NB c S B := hG.1.1
  have hI : Iv c 1 S := hG.1.2
  have hc6 := hN.c6
  have hl5 : ∀ m, (gH S m).length ≤ 5 := hN.b.2.1
  have hl12 : ∀ m, (gK S m).length ≤ 12 := hN.b.1
  have hl150 : (gN S).length ≤ 150 := hN.b.2.2
  refine vCZ_of (ls := [some (.ref (0)), some (.ref (1603)), some (.int (nI (p))), none, none, none, none]) pn_L rfl rfl (Nat.le_of_ble_eq_true rfl) rfl ?_
  refine G_bud (b2 := (4 * (4 - 0), 24 * (4 - 0))) (by decide) ?_
  refine G_iconst (v := nI 1) dL_waits_0 (by decide) ?_
  refine G_istore_n (ls2 := [some (.ref (0)), some (.ref (1603)), some (.int (nI (p))), some (.int (nI (1))), none, none, none]) dL_waits_1 rfl (by decide) rfl ?_
  refine G_iload_n dL_waits_2 rfl rfl ?_
  refine G_istore (ls2 := [some (.ref (0)), some (.ref (1603)), some (.int (nI (p))), some (.int (nI (1))), some (.int (nI (p))), none, none]) dL_waits_3 (by decide) rfl ?_
  refine G_iload dL_waits_5 rfl ?_
  refine G_if_leN (tgt := 74) dL_waits_7 (by decide) (by omega) (fun c7 => ?_) (fun c7 => ?_)
  · refine G_iload_n dL_waits_74 rfl rfl ?_
    refine G_zret dL_waits_75 rfl (by decide) ?_
    exact qd_end hW rfl (by dsimp only [wT]; first | rw [if_pos (by omega)] | rw [if_neg (by omega), if_pos (by omega)] | rw [if_neg (by omega), if_neg (by omega)])
  · refine G_iload_n dL_waits_10 rfl rfl ?_
    refine G_if_eqN (tgt := 74) dL_waits_11 (by decide) (by decide) (fun q9 => absurd q9 (by decide)) (fun _ => ?_)
    refine G_iload dL_waits_14 rfl ?_
    refine G_bipush (v := nI 60) dL_waits_16 (by decide) ?_
    refine G_icmp_leN (tgt := 26) dL_waits_18 (by decide) (by omega) (by omega) (fun c18 => ?_) (fun c18 => ?_)
    · refine G_iload dL_waits_26 rfl ?_
      refine G_istore (ls2 := [some (.ref (0)), some (.ref (1603)), some (.int (nI (p))), some (.int (nI (1))), some (.int (nI (p))), some (.int (nI (p))), none]) dL_waits_28 (by decide) rfl ?_
      refine G_aload_n dL_waits_30 rfl rfl ?_
      refine G_bipush (v := nI 13) dL_waits_31 (by decide) ?_
      refine G_iload dL_waits_33 rfl ?_
      refine G_iconst (v := nI 0) dL_waits_35 (by decide) ?_
      refine G_iconst (v := nI 0) dL_waits_36 (by decide) ?_
      refine G_lc (E := 4) (u := 0) (u2 := 1) (rest := []) zN_go dL_waits_37 lL_162 ⟨Nat.le_of_ble_eq_true rfl, Nat.le_of_ble_eq_true rfl⟩ (Nat.le_of_ble_eq_true rfl) hf ⟨by omega, rfl⟩ (vOw.rf (v := v)) (vCZ_eq (c_call_13 hTo hW.1 hG hB hf) (t_ticks1 (by omega) (by omega))) (fun v1 rv2 => ?_)
      have W3 : LW v1 ((t, n), (c, mticks p S), dr1 D ++ [(c, S)], sl) ((t, n), (c, S), D, sl) := hW.o rv2
      refine G_top (y := nI (gG (mticks p S) 6 - gG S 6)) rfl ?_
      refine G_istore (ls2 := [some (.ref (0)), some (.ref (1603)), some (.int (nI (p))), some (.int (nI (1))), some (.int (nI (p))), some (.int (nI (p))), some (.int (nI (gG (mticks p S) 6 - gG S 6)))]) dL_waits_40 (by decide) rfl ?_
      refine G_iload dL_waits_42 rfl ?_
      refine G_if_ltN (tgt := 66) dL_waits_44 (by decide) (by have i8 : ∀ q, q ≤ 100 → gG (mticks q S) 6 ≤ B := fun q hq => (hk q hq).1.g (i := 6) (by decide); have i9 := i8 60 (by omega); have i7 := i8 p hp; first | omega | (rw [show p = 60 + (p - 60) by omega, mticks_add] at i7; omega)) (fun c44 => (c44).elim) (fun c44 => ?_)
      refine G_aload_n dL_waits_47 rfl rfl ?_
      refine G_bipush (v := nI 13) dL_waits_48 (by decide) ?_
      refine G_iload dL_waits_50 rfl ?_
      refine G_iconst (v := nI 0) dL_waits_52 (by decide) ?_
      refine G_iconst (v := nI 0) dL_waits_53 (by decide) ?_
      refine G_lc (E := 4) (u := 1) (u2 := 2) (rest := []) zN_go dL_waits_54 lL_162 ⟨Nat.le_of_ble_eq_true rfl, Nat.le_of_ble_eq_true rfl⟩ (Nat.le_of_ble_eq_true rfl) hf ⟨by omega, rfl⟩ (vOw.rf (v := v1)) (vCZ_eq (c_call_13 hTq W3.2 hG hB hf) (t_ticks1 (by omega) (by omega))) (fun v4 rv5 => ?_)
      have W6 : LW v4 ((t, n), (c, mticks p S), dr1 D ++ [(c, S)], sl) ((t, n), (c, mticks p S), dr1 D ++ [(c, S)], sl) := W3.q rv5
      have gi7 : GI B ((t, n), (c, mticks p S), dr1 D ++ [(c, S)], sl) := hG.act (X := (c, mticks p S)) (hk p (by omega)) (Nat.le_refl _)
      refine G_top (y := nI (gG (mticks p S) 6 - gG S 6)) rfl ?_
      refine G_iload dL_waits_57 rfl ?_
      refine G_icmp_neN (tgt := 66) dL_waits_59 (by decide) (by have i8 : ∀ q, q ≤ 100 → gG (mticks q S) 6 ≤ B := fun q hq => (hk q hq).1.g (i := 6) (by decide); have i9 := i8 60 (by omega); have i7 := i8 p hp; first | omega | (rw [show p = 60 + (p - 60) by omega, mticks_add] at i7; omega)) (by have i8 : ∀ q, q ≤ 100 → gG (mticks q S) 6 ≤ B := fun q hq => (hk q hq).1.g (i := 6) (by decide); have i9 := i8 60 (by omega); have i7 := i8 p hp; first | omega | (rw [show p = 60 + (p - 60) by omega, mticks_add] at i7; omega)) (fun c59 => (c59 rfl).elim) (fun c59 => ?_)
      refine G_iconst (v := nI 1) dL_waits_62 (by decide) ?_
      refine G_goto (tgt := 67) dL_waits_63 (by decide) ?_
      refine G_istore_n (ls2 := [some (.ref (0)), some (.ref (1603)), some (.int (nI (p))), some (.int (nI (1))), some (.int (nI (p))), some (.int (nI (p))), some (.int (nI (gG (mticks p S) 6 - gG S 6)))]) dL_waits_67 rfl (by decide) rfl ?_
      refine G_iinc (ls2 := [some (.ref (0)), some (.ref (1603)), some (.int (nI (p))), some (.int (nI (1))), some (.int (nI (p) + Int32.ofInt (-60))), some (.int (nI (p))), some (.int (nI (gG (mticks p S) 6 - gG S 6)))]) dL_waits_68 rfl rfl (by decide) rfl ?_
      refine G_goto (tgt := 5) dL_waits_71 (by decide) ?_
      refine G_iload dL_waits_5 rfl ?_
      refine G_if_le (tgt := 74) dL_waits_7 (by decide) (fun c7 => ?_) (fun c7 => (c7 (sub60 (by omega))).elim)
      refine G_iload_n dL_waits_74 rfl rfl ?_
      refine G_zret dL_waits_75 rfl (by decide) ?_
      exact qd_end W6 rfl (by dsimp only [wT]; first | rw [if_pos (by omega)] | rw [if_neg (by omega), if_pos (by omega)] | rw [if_neg (by omega), if_neg (by omega)])
    · refine G_bipush (v := nI 60) dL_waits_21 (by decide) ?_
      refine G_goto (tgt := 28) dL_waits_23 (by decide) ?_
      refine G_istore (ls2 := [some (.ref (0)), some (.ref (1603)), some (.int (nI (p))), some (.int (nI (1))), some (.int (nI (p))), some (.int (nI (60))), none]) dL_waits_28 (by decide) rfl ?_
      refine G_aload_n dL_waits_30 rfl rfl ?_
      refine G_bipush (v := nI 13) dL_waits_31 (by decide) ?_
      refine G_iload dL_waits_33 rfl ?_
      refine G_iconst (v := nI 0) dL_waits_35 (by decide) ?_
      refine G_iconst (v := nI 0) dL_waits_36 (by decide) ?_
      refine G_lc (E := 4) (u := 0) (u2 := 1) (rest := []) zN_go dL_waits_37 lL_162 ⟨Nat.le_of_ble_eq_true rfl, Nat.le_of_ble_eq_true rfl⟩ (Nat.le_of_ble_eq_true rfl) hf ⟨by omega, rfl⟩ (vOw.rf (v := v)) (vCZ_eq (c_call_13 hTo hW.1 hG hB hf) (t_ticks1 (by omega) (by omega))) (fun v8 rv9 => ?_)
      have W10 : LW v8 ((t, n), (c, mticks 60 S), dr1 D ++ [(c, S)], sl) ((t, n), (c, S), D, sl) := hW.o rv9
      refine G_top (y := nI (gG (mticks 60 S) 6 - gG S 6)) rfl ?_
      refine G_istore (ls2 := [some (.ref (0)), some (.ref (1603)), some (.int (nI (p))), some (.int (nI (1))), some (.int (nI (p))), some (.int (nI (60))), some (.int (nI (gG (mticks 60 S) 6 - gG S 6)))]) dL_waits_40 (by decide) rfl ?_
      refine G_iload dL_waits_42 rfl ?_
      refine G_if_ltN (tgt := 66) dL_waits_44 (by decide) (by have i8 : ∀ q, q ≤ 100 → gG (mticks q S) 6 ≤ B := fun q hq => (hk q hq).1.g (i := 6) (by decide); have i9 := i8 60 (by omega); have i7 := i8 p hp; first | omega | (rw [show p = 60 + (p - 60) by omega, mticks_add] at i7; omega)) (fun c44 => (c44).elim) (fun c44 => ?_)
      refine G_aload_n dL_waits_47 rfl rfl ?_
      refine G_bipush (v := nI 13) dL_waits_48 (by decide) ?_
      refine G_iload dL_waits_50 rfl ?_
      refine G_iconst (v := nI 0) dL_waits_52 (by decide) ?_
      refine G_iconst (v := nI 0) dL_waits_53 (by decide) ?_
      refine G_lc (E := 4) (u := 1) (u2 := 2) (rest := []) zN_go dL_waits_54 lL_162 ⟨Nat.le_of_ble_eq_true rfl, Nat.le_of_ble_eq_true rfl⟩ (Nat.le_of_ble_eq_true rfl) hf ⟨by omega, rfl⟩ (vOw.rf (v := v8)) (vCZ_eq (c_call_13 hTq W10.2 hG hB hf) (t_ticks1 (by omega) (by omega))) (fun v11 rv12 => ?_)
      have W13 : LW v11 ((t, n), (c, mticks 60 S), dr1 D ++ [(c, S)], sl) ((t, n), (c, mticks 60 S), dr1 D ++ [(c, S)], sl) := W10.q rv12
      have gi14 : GI B ((t, n), (c, mticks 60 S), dr1 D ++ [(c, S)], sl) := hG.act (X := (c, mticks 60 S)) (hk 60 (by omega)) (Nat.le_refl _)
      refine G_top (y := nI (gG (mticks 60 S) 6 - gG S 6)) rfl ?_
      refine G_iload dL_waits_57 rfl ?_
      refine G_icmp_neN (tgt := 66) dL_waits_59 (by decide) (by have i8 : ∀ q, q ≤ 100 → gG (mticks q S) 6 ≤ B := fun q hq => (hk q hq).1.g (i := 6) (by decide); have i9 := i8 60 (by omega); have i7 := i8 p hp; first | omega | (rw [show p = 60 + (p - 60) by omega, mticks_add] at i7; omega)) (by have i8 : ∀ q, q ≤ 100 → gG (mticks q S) 6 ≤ B := fun q hq => (hk q hq).1.g (i := 6) (by decide); have i9 := i8 60 (by omega); have i7 := i8 p hp; first | omega | (rw [show p = 60 + (p - 60) by omega, mticks_add] at i7; omega)) (fun c59 => (c59 rfl).elim) (fun c59 => ?_)
      refine G_iconst (v := nI 1) dL_waits_62 (by decide) ?_
      refine G_goto (tgt := 67) dL_waits_63 (by decide) ?_
      refine G_istore_n (ls2 := [some (.ref (0)), some (.ref (1603)), some (.int (nI (p))), some (.int (nI (1))), some (.int (nI (p))), some (.int (nI (60))), some (.int (nI (gG (mticks 60 S) 6 - gG S 6)))]) dL_waits_67 rfl (by decide) rfl ?_
      refine G_iinc (v := nI (p - 60)) (ls2 := [some (.ref (0)), some (.ref (1603)), some (.int (nI (p))), some (.int (nI (1))), some (.int (nI (p - 60))), some (.int (nI (60))), some (.int (nI (gG (mticks 60 S) 6 - gG S 6)))]) dL_waits_68 rfl (nI_dec _ 60 (by omega)) (by decide) rfl ?_
      refine G_goto (tgt := 5) dL_waits_71 (by decide) ?_
      refine G_iload dL_waits_5 rfl ?_
      refine G_if_leN (tgt := 74) dL_waits_7 (by decide) (by omega) (fun c7 => ((by omega : False)).elim) (fun c7 => ?_)
      refine G_iload_n dL_waits_10 rfl rfl ?_
      refine G_if_eqN (tgt := 74) dL_waits_11 (by decide) (by decide) (fun q9 => absurd q9 (by decide)) (fun _ => ?_)
      refine G_iload dL_waits_14 rfl ?_
      refine G_bipush (v := nI 60) dL_waits_16 (by decide) ?_
      refine G_icmp_leN (tgt := 26) dL_waits_18 (by decide) (by omega) (by omega) (fun c18 => ?_) (fun c18 => ((by omega : False)).elim)
      refine G_iload dL_waits_26 rfl ?_
      refine G_istore (ls2 := [some (.ref (0)), some (.ref (1603)), some (.int (nI (p))), some (.int (nI (1))), some (.int (nI (p - 60))), some (.int (nI (p - 60))), some (.int (nI (gG (mticks 60 S) 6 - gG S 6)))]) dL_waits_28 (by decide) rfl ?_
      refine G_aload_n dL_waits_30 rfl rfl ?_
      refine G_bipush (v := nI 13) dL_waits_31 (by decide) ?_
      refine G_iload dL_waits_33 rfl ?_
      refine G_iconst (v := nI 0) dL_waits_35 (by decide) ?_
      refine G_iconst (v := nI 0) dL_waits_36 (by decide) ?_
      refine G_lc (E := 4) (u := 2) (u2 := 3) (rest := []) zN_go dL_waits_37 lL_162 ⟨Nat.le_of_ble_eq_true rfl, Nat.le_of_ble_eq_true rfl⟩ (Nat.le_of_ble_eq_true rfl) hf ⟨by omega, rfl⟩ (vOw.rf (v := v11)) (vCZ_eq (c_call_13 (t := t) (n := n) (c := c) (S := mticks 60 S) (D := dr1 D ++ [(c, S)]) (sl := sl) hTo W13.1 gi14 hB hf) (t_ticks1 (t := t) (n := n) (c := c) (S := mticks 60 S) (D := dr1 D ++ [(c, S)]) (sl := sl) (by omega) (by omega))) (fun v15 rv16 => ?_)
      have W17 : LW v15 ((t, n), (c, mticks (p - 60) (mticks 60 S)), dr1 (dr1 D ++ [(c, S)]) ++ [(c, mticks 60 S)], sl) ((t, n), (c, mticks 60 S), dr1 D ++ [(c, S)], sl) := W13.o rv16
      refine G_top (y := nI (gG (mticks (p - 60) (mticks 60 S)) 6 - gG (mticks 60 S) 6)) rfl ?_
      refine G_istore (ls2 := [some (.ref (0)), some (.ref (1603)), some (.int (nI (p))), some (.int (nI (1))), some (.int (nI (p - 60))), some (.int (nI (p - 60))), some (.int (nI (gG (mticks (p - 60) (mticks 60 S)) 6 - gG (mticks 60 S) 6)))]) dL_waits_40 (by decide) rfl ?_
      refine G_iload dL_waits_42 rfl ?_
      refine G_if_ltN (tgt := 66) dL_waits_44 (by decide) (by have i8 : ∀ q, q ≤ 100 → gG (mticks q S) 6 ≤ B := fun q hq => (hk q hq).1.g (i := 6) (by decide); have i9 := i8 60 (by omega); have i7 := i8 p hp; first | omega | (rw [show p = 60 + (p - 60) by omega, mticks_add] at i7; omega)) (fun c44 => (c44).elim) (fun c44 => ?_)
      refine G_aload_n dL_waits_47 rfl rfl ?_
      refine G_bipush (v := nI 13) dL_waits_48 (by decide) ?_
      refine G_iload dL_waits_50 rfl ?_
      refine G_iconst (v := nI 0) dL_waits_52 (by decide) ?_
      refine G_iconst (v := nI 0) dL_waits_53 (by decide) ?_
      refine G_lc (E := 4) (u := 3) (u2 := 4) (rest := []) zN_go dL_waits_54 lL_162 ⟨Nat.le_of_ble_eq_true rfl, Nat.le_of_ble_eq_true rfl⟩ (Nat.le_of_ble_eq_true rfl) hf ⟨by omega, rfl⟩ (vOw.rf (v := v15)) (vCZ_eq (c_call_13 (t := t) (n := n) (c := c) (S := mticks 60 S) (D := dr1 D ++ [(c, S)]) (sl := sl) hTq W17.2 gi14 hB hf) (t_ticks1 (t := t) (n := n) (c := c) (S := mticks 60 S) (D := dr1 D ++ [(c, S)]) (sl := sl) (by omega) (by omega))) (fun v18 rv19 => ?_)
      have W20 : LW v18 ((t, n), (c, mticks (p - 60) (mticks 60 S)), dr1 (dr1 D ++ [(c, S)]) ++ [(c, mticks 60 S)], sl) ((t, n), (c, mticks (p - 60) (mticks 60 S)), dr1 (dr1 D ++ [(c, S)]) ++ [(c, mticks 60 S)], sl) := W17.q rv19
      have gi21 : GI B ((t, n), (c, mticks (p - 60) (mticks 60 S)), dr1 (dr1 D ++ [(c, S)]) ++ [(c, mticks 60 S)], sl) := gi14.act (X := (c, mticks (p - 60) (mticks 60 S))) (by have h9 := hk p hp; rw [show p = 60 + (p - 60) by omega, mticks_add] at h9; exact h9) (Nat.le_refl _)
      refine G_top (y := nI (gG (mticks (p - 60) (mticks 60 S)) 6 - gG (mticks 60 S) 6)) rfl ?_
      refine G_iload dL_waits_57 rfl ?_
      refine G_icmp_neN (tgt := 66) dL_waits_59 (by decide) (by have i8 : ∀ q, q ≤ 100 → gG (mticks q S) 6 ≤ B := fun q hq => (hk q hq).1.g (i := 6) (by decide); have i9 := i8 60 (by omega); have i7 := i8 p hp; first | omega | (rw [show p = 60 + (p - 60) by omega, mticks_add] at i7; omega)) (by have i8 : ∀ q, q ≤ 100 → gG (mticks q S) 6 ≤ B := fun q hq => (hk q hq).1.g (i := 6) (by decide); have i9 := i8 60 (by omega); have i7 := i8 p hp; first | omega | (rw [show p = 60 + (p - 60) by omega, mticks_add] at i7; omega)) (fun c59 => (c59 rfl).elim) (fun c59 => ?_)
      refine G_iconst (v := nI 1) dL_waits_62 (by decide) ?_
      refine G_goto (tgt := 67) dL_waits_63 (by decide) ?_
      refine G_istore_n (ls2 := [some (.ref (0)), some (.ref (1603)), some (.int (nI (p))), some (.int (nI (1))), some (.int (nI (p - 60))), some (.int (nI (p - 60))), some (.int (nI (gG (mticks (p - 60) (mticks 60 S)) 6 - gG (mticks 60 S) 6)))]) dL_waits_67 rfl (by decide) rfl ?_
      refine G_iinc (ls2 := [some (.ref (0)), some (.ref (1603)), some (.int (nI (p))), some (.int (nI (1))), some (.int (nI (p - 60) + Int32.ofInt (-60))), some (.int (nI (p - 60))), some (.int (nI (gG (mticks (p - 60) (mticks 60 S)) 6 - gG (mticks 60 S) 6)))]) dL_waits_68 rfl rfl (by decide) rfl ?_
      refine G_goto (tgt := 5) dL_waits_71 (by decide) ?_
      refine G_iload dL_waits_5 rfl ?_
      refine G_if_le (tgt := 74) dL_waits_7 (by decide) (fun c7 => ?_) (fun c7 => (c7 (sub60 (by omega))).elim)
      refine G_iload_n dL_waits_74 rfl rfl ?_
      refine G_zret dL_waits_75 rfl (by decide) ?_
      exact qd_end W20 rfl (by dsimp only [wT]; first | rw [if_pos (by omega)] | rw [if_neg (by omega), if_pos (by omega)] | rw [if_neg (by omega), if_neg (by omega)])
set_option maxHeartbeats 8000000 in
set_option maxRecDepth 100000 in
theorem c_L_undoes {σ : vS} {v : vV} {c n : Nat} {S : mS} {t : mN} {D : List mC} {sl : Nat → Option mC} {p : Nat} (hTo : kLT σ 0) (hTq : kLT σ 1603) (hW : LW v ((t, n), (c, S), D, sl) ((t, n), (c, S), D, sl)) {B : Nat} (hG : GI B ((t, n), (c, S), D, sl)) (hB : B + 6000000 < 1000000000) (hf : σ.2.2.2 = false) (hp : p ≤ 100) (hd1 : 0 < p → 0 < D.length) (hd2 : 60 < p → 0 < (tU ((t, n), (c, S), D, sl)).2.2.1.length) : vCZ zN M_L_undoes yL_undoes [.ref (0), .ref (1603), .int (nI (p))] (σ, v) (qD σ (nI 1) (uT ((t, n), (c, S), D, sl) p)) := by
  have hN : NB c S B := hG.1.1
  have hI : Iv c 1 S := hG.1.2
  have hc6 := hN.c6
  have hl5 : ∀ m, (gH S m).length ≤ 5 := hN.b.2.1
  have hl12 : ∀ m, (gK S m).length ≤ 12 := hN.b.1
  have hl150 : (gN S).length ≤ 150 := hN.b.2.2
  refine vCZ_of (ls := [some (.ref (0)), some (.ref (1603)), some (.int (nI (p))), none, none]) pn_L rfl rfl (Nat.le_of_ble_eq_true rfl) rfl ?_
  refine G_bud (b2 := (4 * (4 - 0), 24 * (4 - 0))) (by decide) ?_
  refine G_iconst (v := nI 1) dL_undoes_0 (by decide) ?_
  refine G_istore_n (ls2 := [some (.ref (0)), some (.ref (1603)), some (.int (nI (p))), some (.int (nI (1))), none]) dL_undoes_1 rfl (by decide) rfl ?_
  refine G_iload_n dL_undoes_2 rfl rfl ?_
  refine G_istore (ls2 := [some (.ref (0)), some (.ref (1603)), some (.int (nI (p))), some (.int (nI (1))), some (.int (nI (p)))]) dL_undoes_3 (by decide) rfl ?_
  refine G_iload dL_undoes_5 rfl ?_
  refine G_if_leN (tgt := 56) dL_undoes_7 (by decide) (by omega) (fun c7 => ?_) (fun c7 => ?_)
  · refine G_iload_n dL_undoes_56 rfl rfl ?_
    refine G_zret dL_undoes_57 rfl (by decide) ?_
    exact qd_end hW rfl (by unfold uT; first | rw [if_pos (by omega)] | rw [if_neg (by omega), if_pos (by omega)] | rw [if_neg (by omega), if_neg (by omega)])
  · refine G_iload_n dL_undoes_10 rfl rfl ?_
    refine G_if_eqN (tgt := 56) dL_undoes_11 (by decide) (by decide) (fun q9 => absurd q9 (by decide)) (fun _ => ?_)
    refine G_aload_n dL_undoes_14 rfl rfl ?_
    refine G_bipush (v := nI 14) dL_undoes_15 (by decide) ?_
    refine G_iconst (v := nI 0) dL_undoes_17 (by decide) ?_
    refine G_iconst (v := nI 0) dL_undoes_18 (by decide) ?_
    refine G_iconst (v := nI 0) dL_undoes_19 (by decide) ?_
    refine G_lc (E := 4) (u := 0) (u2 := 1) (rest := []) zN_go dL_undoes_20 lL_162 ⟨Nat.le_of_ble_eq_true rfl, Nat.le_of_ble_eq_true rfl⟩ (Nat.le_of_ble_eq_true rfl) hf ⟨by omega, rfl⟩ (vOw.rf (v := v)) (c_undo hTo hW.1 hG hB hf (hd1 (by omega))) (fun v1 rv2 => ?_)
    have W3 : LW v1 (tU ((t, n), (c, S), D, sl)) ((t, n), (c, S), D, sl) := hW.o rv2
    refine G_top (y := nI (D.length - 1)) rfl ?_
    refine G_cSp (rest := []) (As := [.int (nI (D.length - 1))]) dL_undoes_23 lL_217 yk_L_thrown ys_L_thrown (by decide) rfl rfl (Nat.le_of_ble_eq_true rfl) rfl (c_L_thrown (by have h14 := hW.1.len; replace h14 : D.length ≤ 14 := h14; first | omega | (have h15 : (tU ((t, n), (c, S), D, sl)).2.2.1.length ≤ D.length := (by show D.dropLast.length ≤ D.length; rw [List.length_dropLast]; omega); omega))) ?_
    refine G_if_neN (tgt := 48) dL_undoes_26 (by decide) (by decide) (fun q9 => absurd q9 (by decide)) (fun _ => ?_)
    refine G_aload_n dL_undoes_29 rfl rfl ?_
    refine G_bipush (v := nI 14) dL_undoes_30 (by decide) ?_
    refine G_iconst (v := nI 0) dL_undoes_32 (by decide) ?_
    refine G_iconst (v := nI 0) dL_undoes_33 (by decide) ?_
    refine G_iconst (v := nI 0) dL_undoes_34 (by decide) ?_
    refine G_lc (E := 4) (u := 1) (u2 := 2) (rest := []) zN_go dL_undoes_35 lL_162 ⟨Nat.le_of_ble_eq_true rfl, Nat.le_of_ble_eq_true rfl⟩ (Nat.le_of_ble_eq_true rfl) hf ⟨by omega, rfl⟩ (vOw.rf (v := v1)) (c_undo hTq W3.2 hG hB hf (hd1 (by omega))) (fun v4 rv5 => ?_)
    have W6 : LW v4 (tU ((t, n), (c, S), D, sl)) (tU ((t, n), (c, S), D, sl)) := W3.q rv5
    have gi7 : GI B (tU ((t, n), (c, S), D, sl)) := hG.undo
    refine G_top (y := nI (D.length - 1)) rfl ?_
    refine G_cSp (rest := []) (As := [.int (nI (D.length - 1))]) dL_undoes_38 lL_217 yk_L_thrown ys_L_thrown (by decide) rfl rfl (Nat.le_of_ble_eq_true rfl) rfl (c_L_thrown (by have h14 := hW.1.len; replace h14 : D.length ≤ 14 := h14; first | omega | (have h15 : (tU ((t, n), (c, S), D, sl)).2.2.1.length ≤ D.length := (by show D.dropLast.length ≤ D.length; rw [List.length_dropLast]; omega); omega))) ?_
    refine G_if_neN (tgt := 48) dL_undoes_41 (by decide) (by decide) (fun q9 => absurd q9 (by decide)) (fun _ => ?_)
    refine G_iconst (v := nI 1) dL_undoes_44 (by decide) ?_
    refine G_goto (tgt := 49) dL_undoes_45 (by decide) ?_
    refine G_istore_n (ls2 := [some (.ref (0)), some (.ref (1603)), some (.int (nI (p))), some (.int (nI (1))), some (.int (nI (p)))]) dL_undoes_49 rfl (by decide) rfl ?_
    by_cases e60 : p ≤ 60
    · refine G_iinc (ls2 := [some (.ref (0)), some (.ref (1603)), some (.int (nI (p))), some (.int (nI (1))), some (.int (nI (p) + Int32.ofInt (-60)))]) dL_undoes_50 rfl rfl (by decide) rfl ?_
      refine G_goto (tgt := 5) dL_undoes_53 (by decide) ?_
      refine G_iload dL_undoes_5 rfl ?_
      refine G_if_le (tgt := 56) dL_undoes_7 (by decide) (fun c7 => ?_) (fun c7 => (c7 (sub60 e60)).elim)
      refine G_iload_n dL_undoes_56 rfl rfl ?_
      refine G_zret dL_undoes_57 rfl (by decide) ?_
      exact qd_end W6 rfl (by unfold uT; first | rw [if_pos (by omega)] | rw [if_neg (by omega), if_pos (by omega)] | rw [if_neg (by omega), if_neg (by omega)])
    · refine G_iinc (v := nI (p - 60)) (ls2 := [some (.ref (0)), some (.ref (1603)), some (.int (nI (p))), some (.int (nI (1))), some (.int (nI (p - 60)))]) dL_undoes_50 rfl (nI_dec _ 60 (by omega)) (by decide) rfl ?_
      refine G_goto (tgt := 5) dL_undoes_53 (by decide) ?_
      refine G_iload dL_undoes_5 rfl ?_
      refine G_if_leN (tgt := 56) dL_undoes_7 (by decide) (by omega) (fun c7 => ((by omega : False)).elim) (fun c7 => ?_)
      refine G_iload_n dL_undoes_10 rfl rfl ?_
      refine G_if_eqN (tgt := 56) dL_undoes_11 (by decide) (by decide) (fun q9 => absurd q9 (by decide)) (fun _ => ?_)
      refine G_aload_n dL_undoes_14 rfl rfl ?_
      refine G_bipush (v := nI 14) dL_undoes_15 (by decide) ?_
      refine G_iconst (v := nI 0) dL_undoes_17 (by decide) ?_
      refine G_iconst (v := nI 0) dL_undoes_18 (by decide) ?_
      refine G_iconst (v := nI 0) dL_undoes_19 (by decide) ?_
      refine G_lc (E := 4) (u := 2) (u2 := 3) (rest := []) zN_go dL_undoes_20 lL_162 ⟨Nat.le_of_ble_eq_true rfl, Nat.le_of_ble_eq_true rfl⟩ (Nat.le_of_ble_eq_true rfl) hf ⟨by omega, rfl⟩ (vOw.rf (v := v4)) (c_undo hTo W6.1 gi7 hB hf (hd2 (by omega))) (fun v8 rv9 => ?_)
      have W10 : LW v8 (tU (tU ((t, n), (c, S), D, sl))) (tU ((t, n), (c, S), D, sl)) := W6.o rv9
      refine G_top (y := nI (((tU ((t, n), (c, S), D, sl))).2.2.1.length - 1)) rfl ?_
      refine G_cSp (rest := []) (As := [.int (nI (((tU ((t, n), (c, S), D, sl))).2.2.1.length - 1))]) dL_undoes_23 lL_217 yk_L_thrown ys_L_thrown (by decide) rfl rfl (Nat.le_of_ble_eq_true rfl) rfl (c_L_thrown (by have h14 := hW.1.len; replace h14 : D.length ≤ 14 := h14; first | omega | (have h15 : (tU ((t, n), (c, S), D, sl)).2.2.1.length ≤ D.length := (by show D.dropLast.length ≤ D.length; rw [List.length_dropLast]; omega); omega))) ?_
      refine G_if_neN (tgt := 48) dL_undoes_26 (by decide) (by decide) (fun q9 => absurd q9 (by decide)) (fun _ => ?_)
      refine G_aload_n dL_undoes_29 rfl rfl ?_
      refine G_bipush (v := nI 14) dL_undoes_30 (by decide) ?_
      refine G_iconst (v := nI 0) dL_undoes_32 (by decide) ?_
      refine G_iconst (v := nI 0) dL_undoes_33 (by decide) ?_
      refine G_iconst (v := nI 0) dL_undoes_34 (by decide) ?_
      refine G_lc (E := 4) (u := 3) (u2 := 4) (rest := []) zN_go dL_undoes_35 lL_162 ⟨Nat.le_of_ble_eq_true rfl, Nat.le_of_ble_eq_true rfl⟩ (Nat.le_of_ble_eq_true rfl) hf ⟨by omega, rfl⟩ (vOw.rf (v := v8)) (c_undo hTq W10.2 gi7 hB hf (hd2 (by omega))) (fun v11 rv12 => ?_)
      have W13 : LW v11 (tU (tU ((t, n), (c, S), D, sl))) (tU (tU ((t, n), (c, S), D, sl))) := W10.q rv12
      have gi14 : GI B (tU (tU ((t, n), (c, S), D, sl))) := gi7.undo
      refine G_top (y := nI (((tU ((t, n), (c, S), D, sl))).2.2.1.length - 1)) rfl ?_
      refine G_cSp (rest := []) (As := [.int (nI (((tU ((t, n), (c, S), D, sl))).2.2.1.length - 1))]) dL_undoes_38 lL_217 yk_L_thrown ys_L_thrown (by decide) rfl rfl (Nat.le_of_ble_eq_true rfl) rfl (c_L_thrown (by have h14 := hW.1.len; replace h14 : D.length ≤ 14 := h14; first | omega | (have h15 : (tU ((t, n), (c, S), D, sl)).2.2.1.length ≤ D.length := (by show D.dropLast.length ≤ D.length; rw [List.length_dropLast]; omega); omega))) ?_
      refine G_if_neN (tgt := 48) dL_undoes_41 (by decide) (by decide) (fun q9 => absurd q9 (by decide)) (fun _ => ?_)
      refine G_iconst (v := nI 1) dL_undoes_44 (by decide) ?_
      refine G_goto (tgt := 49) dL_undoes_45 (by decide) ?_
      refine G_istore_n (ls2 := [some (.ref (0)), some (.ref (1603)), some (.int (nI (p))), some (.int (nI (1))), some (.int (nI (p - 60)))]) dL_undoes_49 rfl (by decide) rfl ?_
      refine G_iinc (ls2 := [some (.ref (0)), some (.ref (1603)), some (.int (nI (p))), some (.int (nI (1))), some (.int (nI (p - 60) + Int32.ofInt (-60)))]) dL_undoes_50 rfl rfl (by decide) rfl ?_
      refine G_goto (tgt := 5) dL_undoes_53 (by decide) ?_
      refine G_iload dL_undoes_5 rfl ?_
      refine G_if_le (tgt := 56) dL_undoes_7 (by decide) (fun c7 => ?_) (fun c7 => (c7 (sub60 (by omega))).elim)
      refine G_iload_n dL_undoes_56 rfl rfl ?_
      refine G_zret dL_undoes_57 rfl (by decide) ?_
      exact qd_end W13 rfl (by unfold uT; first | rw [if_pos (by omega)] | rw [if_neg (by omega), if_pos (by omega)] | rw [if_neg (by omega), if_neg (by omega)])
