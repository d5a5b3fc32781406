
/-! THE WHOLE OBJECT: text, club, new club, trial, history, slots -/
abbrev gT : Type := (mN × Nat) × mC × List mC × (Nat → Option mC)
def kLH (σ : vS) (h : Nat) : Prop := vK σ h 1 0 ∧ vK σ (h + 1) 10 14 ∧ σ.2.2.1 h 0 = some (h + 1) ∧ ∀ i, i < 14 → σ.2.2.1 (h + 1) i = some (h + 2 + 84 * i) ∧ kLC σ (h + 2 + 84 * i)
def kLT (σ : vS) (b : Nat) : Prop := vK σ b 6 0 ∧ kTX σ (b + 1) ∧ kLC σ (b + 3) ∧ kLC σ (b + 87) ∧ kLC σ (b + 171) ∧ kLH σ (b + 255) ∧ vK σ (b + 1433) 10 2 ∧ (∀ i, i < 2 → σ.2.2.1 (b + 1433) i = some (b + 1434 + 84 * i) ∧ kLC σ (b + 1434 + 84 * i)) ∧ vK σ (b + 1602) 9 2 ∧
  σ.2.2.1 b 0 = some (b + 1) ∧ σ.2.2.1 b 1 = some (b + 3) ∧ σ.2.2.1 b 2 = some (b + 87) ∧ σ.2.2.1 b 3 = some (b + 171) ∧ σ.2.2.1 b 4 = some (b + 255) ∧ σ.2.2.1 b 5 = some (b + 1433) ∧ σ.2.2.1 b 6 = some (b + 1602)
theorem kLT.o {σ : vS} {b : Nat} (h : kLT σ b) : vK σ b 6 0 := h.1
theorem kLT.t {σ : vS} {b : Nat} (h : kLT σ b) : kTX σ (b + 1) := h.2.1
theorem kLT.k1 {σ : vS} {b : Nat} (h : kLT σ b) : kLC σ (b + 3) := h.2.2.1
theorem kLT.k2 {σ : vS} {b : Nat} (h : kLT σ b) : kLC σ (b + 87) := h.2.2.2.1
theorem kLT.k3 {σ : vS} {b : Nat} (h : kLT σ b) : kLC σ (b + 171) := h.2.2.2.2.1
theorem kLT.h {σ : vS} {b : Nat} (h : kLT σ b) : kLH σ (b + 255) := h.2.2.2.2.2.1
theorem kLT.s {σ : vS} {b : Nat} (h : kLT σ b) : vK σ (b + 1433) 10 2 := h.2.2.2.2.2.2.1
theorem kLT.se {σ : vS} {b i : Nat} (h : kLT σ b) (hi : i < 2) : σ.2.2.1 (b + 1433) i = some (b + 1434 + 84 * i) := (h.2.2.2.2.2.2.2.1 i hi).1
theorem kLT.sk {σ : vS} {b i : Nat} (h : kLT σ b) (hi : i < 2) : kLC σ (b + 1434 + 84 * i) := (h.2.2.2.2.2.2.2.1 i hi).2
theorem kLT.z {σ : vS} {b : Nat} (h : kLT σ b) : vK σ (b + 1602) 9 2 := h.2.2.2.2.2.2.2.2.1
theorem kLT.r0 {σ : vS} {b : Nat} (h : kLT σ b) : σ.2.2.1 b 0 = some (b + 1) := h.2.2.2.2.2.2.2.2.2.1
theorem kLT.r1 {σ : vS} {b : Nat} (h : kLT σ b) : σ.2.2.1 b 1 = some (b + 3) := h.2.2.2.2.2.2.2.2.2.2.1
theorem kLT.r2 {σ : vS} {b : Nat} (h : kLT σ b) : σ.2.2.1 b 2 = some (b + 87) := h.2.2.2.2.2.2.2.2.2.2.2.1
theorem kLT.r3 {σ : vS} {b : Nat} (h : kLT σ b) : σ.2.2.1 b 3 = some (b + 171) := h.2.2.2.2.2.2.2.2.2.2.2.2.1
theorem kLT.r4 {σ : vS} {b : Nat} (h : kLT σ b) : σ.2.2.1 b 4 = some (b + 255) := h.2.2.2.2.2.2.2.2.2.2.2.2.2.1
theorem kLT.r5 {σ : vS} {b : Nat} (h : kLT σ b) : σ.2.2.1 b 5 = some (b + 1433) := h.2.2.2.2.2.2.2.2.2.2.2.2.2.2.1
theorem kLT.r6 {σ : vS} {b : Nat} (h : kLT σ b) : σ.2.2.1 b 6 = some (b + 1602) := h.2.2.2.2.2.2.2.2.2.2.2.2.2.2.2
/-- the states that are remembered, in their ring -/
def HR (v : vV) (h : Nat) (D : List mC) : Prop := ∃ nx, nx < 14 ∧ v h 1 = nI nx ∧ v h 2 = nI D.length ∧ D.length ≤ 14 ∧ (∀ i, i < 14 → CS v (h + 2 + 84 * i)) ∧ ∀ (j : Nat) (Y : mC), D[j]? = some Y → CR Y.1 v (h + 2 + 84 * ((nx + 14 - D.length + j) % 14)) Y.2
theorem HR.ow {v v' : vV} {h r w : Nat} {D : List mC} (hH : HR v h D) (e : vOw v v' r w) (hb : h + 1178 ≤ r ∨ r + w ≤ h) : HR v' h D := by
  obtain ⟨nx, h1, h2, h3, h4, h5, h6⟩ := hH
  refine ⟨nx, h1, by rw [e h (by omega)]; exact h2, by rw [e h (by omega)]; exact h3, h4, fun i hi => (h5 i hi).ow e (by omega), fun j Y hj => (h6 j Y hj).ow e (by omega)⟩
def KT (v : vV) (b : Nat) (T : gT) : Prop := mTC v (b + 1) T.1.1 T.1.2 ∧ CR T.2.1.1 v (b + 3) T.2.1.2 ∧ CR 0 v (b + 87) mS0 ∧ CS v (b + 171) ∧ HR v (b + 255) T.2.2.1 ∧ ∀ i, i < 2 → CS v (b + 1434 + 84 * i) ∧ v (b + 1602) i = vb (T.2.2.2 i).isSome ∧ ∀ Y, T.2.2.2 i = some Y → CR Y.1 v (b + 1434 + 84 * i) Y.2
theorem KT.t {v : vV} {b : Nat} {T : gT} (h : KT v b T) : mTC v (b + 1) T.1.1 T.1.2 := h.1
theorem KT.c {v : vV} {b : Nat} {T : gT} (h : KT v b T) : CR T.2.1.1 v (b + 3) T.2.1.2 := h.2.1
theorem KT.n {v : vV} {b : Nat} {T : gT} (h : KT v b T) : CR 0 v (b + 87) mS0 := h.2.2.1
theorem KT.tr {v : vV} {b : Nat} {T : gT} (h : KT v b T) : CS v (b + 171) := h.2.2.2.1
theorem KT.d {v : vV} {b : Nat} {T : gT} (h : KT v b T) : HR v (b + 255) T.2.2.1 := h.2.2.2.2.1
theorem KT.s {v : vV} {b i : Nat} {T : gT} (h : KT v b T) (hi : i < 2) : CS v (b + 1434 + 84 * i) ∧ v (b + 1602) i = vb (T.2.2.2 i).isSome ∧ ∀ Y, T.2.2.2 i = some Y → CR Y.1 v (b + 1434 + 84 * i) Y.2 := h.2.2.2.2.2 i hi
theorem mTC.ow {v v' : vV} {p n r w : Nat} {t : mN} (h : mTC v p t n) (e : vOw v v' r w) (hb : p + 2 ≤ r ∨ r + w ≤ p) : mTC v' p t n := h.of (e p (by omega)) (e (p + 1) (by omega))
theorem KT.slots {v v' : vV} {b : Nat} {sl : Nat → Option mC} (h : ∀ i, i < 2 → CS v (b + 1434 + 84 * i) ∧ v (b + 1602) i = vb (sl i).isSome ∧ ∀ Y, sl i = some Y → CR Y.1 v (b + 1434 + 84 * i) Y.2) {r w : Nat} (e : vOw v v' r w) (hb : r + w ≤ b + 1434) : ∀ i, i < 2 → CS v' (b + 1434 + 84 * i) ∧ v' (b + 1602) i = vb (sl i).isSome ∧ ∀ Y, sl i = some Y → CR Y.1 v' (b + 1434 + 84 * i) Y.2 := fun i hi =>
  ⟨(h i hi).1.ow e (by omega), by rw [e (b + 1602) (by omega)]; exact (h i hi).2.1, fun Y hY => ((h i hi).2.2 Y hY).ow e (by omega)⟩
/-- the club is another -/
theorem KT.club {v v' : vV} {b : Nat} {T : gT} {X : mC} (h : KT v b T) (e : vOw v v' (b + 3) 84) (hC : CR X.1 v' (b + 3) X.2) : KT v' b (T.1, X, T.2.2) :=
  ⟨h.t.ow e (by omega), hC, h.n.ow e (by omega), h.tr.ow e (by omega), h.d.ow e (by omega), KT.slots h.2.2.2.2.2 e (by omega)⟩
/-- the trial is another -/
theorem KT.trial {v v' : vV} {b : Nat} {T : gT} (h : KT v b T) (e : vOw v v' (b + 171) 84) (hC : CS v' (b + 171)) : KT v' b T :=
  ⟨h.t.ow e (by omega), h.c.ow e (by omega), h.n.ow e (by omega), hC, h.d.ow e (by omega), KT.slots h.2.2.2.2.2 e (by omega)⟩
theorem KT.hist {v v' : vV} {b : Nat} {T : gT} {D : List mC} (h : KT v b T) (e : vOw v v' (b + 255) 1178) (hC : HR v' (b + 255) D) : KT v' b (T.1, T.2.1, D, T.2.2.2) :=
  ⟨h.t.ow e (by omega), h.c.ow e (by omega), h.n.ow e (by omega), h.tr.ow e (by omega), hC, KT.slots h.2.2.2.2.2 e (by omega)⟩
theorem KT.text {v v' : vV} {b n : Nat} {t : mN} {T : gT} (h : KT v b T) (e : vOw v v' (b + 1) 2) (hC : mTC v' (b + 1) t n) : KT v' b ((t, n), T.2) :=
  ⟨hC, h.c.ow e (by omega), h.n.ow e (by omega), h.tr.ow e (by omega), h.d.ow e (by omega), KT.slots h.2.2.2.2.2 e (by omega)⟩
/-- the invariants of all clubs -/
def GI (B : Nat) (T : gT) : Prop := KC B T.2.1 ∧ (∀ Y, Y ∈ T.2.2.1 → KC B Y) ∧ ∀ (i : Nat) (Y : mC), T.2.2.2 i = some Y → KC B Y
def gNm (l : List String) (k : Nat) : String := l.getD (k - 1) ""
abbrev xIO : String := "java/lang/IndexOutOfBoundsException"
abbrev xIA : String := "java/lang/IllegalArgumentException"
abbrev xIS : String := "java/lang/IllegalStateException"
def gin (x : Int32) (lo hi : Nat) : Bool := decide ((lo : Int) ≤ x.toInt ∧ x.toInt ≤ (hi : Int))
def gAct : gT → mC → gT
  | (tn, X, D, sl), Y => (tn, Y, (if D.length = 14 then D.drop 1 else D) ++ [X], sl)
theorem gin_lo {x : Int32} {lo hi : Nat} (hl : lo < 2147483648) (h : x < nI lo) : gin x lo hi = false := by
  unfold gin; rw [i_lt, nI_toInt hl] at h; exact decide_eq_false (by omega)
theorem gin_hi {x : Int32} {lo hi : Nat} (hl : hi < 2147483648) (h : nI hi < x) : gin x lo hi = false := by
  unfold gin; rw [i_lt, nI_toInt hl] at h; exact decide_eq_false (by omega)
theorem gin_ok {x : Int32} {lo hi : Nat} (h1 : ¬ x < nI lo) (h2 : ¬ nI hi < x) (hl : lo < 2147483648) (hh : hi < 2147483648) : gin x lo hi = true := by
  unfold gin; rw [i_lt, nI_toInt hl] at h1; rw [i_lt, nI_toInt hh] at h2; exact decide_eq_true (by omega)
theorem gin_n {x : Int32} {lo hi : Nat} (hh : hi < 2147483648) (h : gin x lo hi = true) : ∃ k, lo ≤ k ∧ k ≤ hi ∧ x = nI k := by
  unfold gin at h
  have h9 := of_decide_eq_true h
  exact ⟨x.toInt.toNat, by omega, by omega, nI_of_toInt (by omega) (by omega)⟩
theorem gin_k {k lo hi : Nat} (hk : k < 2147483648) : gin (nI k) lo hi = decide (lo ≤ k ∧ k ≤ hi) := rng_n hk

/-- a check: it is so and nothing happens, or it throws -/
def chkP (μ : vM) (B : Bool) : vO → vM → Prop := fun o μ' => match o with
  | .inl r => r = none ∧ μ' = μ ∧ B = true
  | .inr Ex => Ex = xIO ∧ μ' = μ ∧ B = false
set_option maxHeartbeats 4000000 in
set_option maxRecDepth 100000 in
theorem c_X1_remember {σ : vS} {v : vV} {c h d : Nat} {S : mS} {D : List mC} (hh : kLH σ h) (hd : kLC σ d) (hhd : h + 1178 ≤ d ∨ d + 84 ≤ h) (hC : CR c v d S) (hR : HR v h D) : vC M_X1_remember yX1_remember [.ref (h), .ref (d)] (σ, v) (qS σ none (fun v9 => HR v9 h ((if D.length = 14 then D.drop 1 else D) ++ [(c, S)]) ∧ vOw v v9 h 1178)) := by
  obtain ⟨nx, hnx, e1, e2, e3, e4, e5⟩ := hR
  refine vC_of (ls := [some (.ref (h)), some (.ref (d))]) pn_X1 rfl rfl (Nat.le_of_ble_eq_true rfl) rfl ?_
  refine P_aload_n dX1_remember_0 rfl rfl ?_
  refine P_getr (t := h + 1) dX1_remember_1 kX1 fX1_11 rfl (by decide) hh.1 hh.2.2.1 hh.2.1.1.2 ?_
  refine P_aload_n dX1_remember_4 rfl rfl ?_
  refine P_getiN (x := nI (nx)) dX1_remember_5 kX1 fX1_18 rfl (by decide) hh.1 e1 ?_
  refine P_aaldC (t := h + 2 + 84 * nx) (nx) dX1_remember_8 hh.2.1 rfl (by omega) (by decide) (hh.2.2.2 nx hnx).1 (hh.2.2.2 nx hnx).2.o.1.2 ?_
  refine P_aload_n dX1_remember_9 rfl rfl ?_
  refine P_cVs (rest := []) (As := [.ref (d)]) dX1_remember_10 lX1_22 yk_X0_copyFrom yv_X0_copyFrom kX0 rfl (by decide) (hh.2.2.2 nx hnx).2.o rfl rfl (Nat.le_of_ble_eq_true rfl) rfl (c_X0_copyFrom (hh.2.2.2 nx hnx).2 hd (by omega) hC (e4 nx hnx)) (fun v1 ⟨hC9, hO9⟩ => ?_)
  refine P_aload_n dX1_remember_13 rfl rfl ?_
  refine P_aload_n dX1_remember_14 rfl rfl ?_
  refine P_getiN (x := nI (nx)) dX1_remember_15 kX1 fX1_18 rfl (by decide) hh.1 (by rw [hO9 h (by omega)]; exact e1) ?_
  refine P_bipush (v := nI 13) dX1_remember_18 (by decide) ?_
  refine P_icmp_ltN (tgt := 27) dX1_remember_20 (by decide) (by omega) (by omega) (fun c20 => ?_) (fun c20 => ?_)
  · refine P_aload_n dX1_remember_27 rfl rfl ?_
    refine P_getiN (x := nI (nx)) dX1_remember_28 kX1 fX1_18 rfl (by decide) hh.1 (by rw [hO9 h (by omega)]; exact e1) ?_
    refine P_iconst (v := nI 1) dX1_remember_31 (by decide) ?_
    refine P_iaddN dX1_remember_32 ?_
    refine P_puti dX1_remember_33 kX1 fX1_18 rfl (by decide) rfl hh.1 ?_
    refine P_aload_n dX1_remember_36 rfl rfl ?_
    refine P_aload_n dX1_remember_37 rfl rfl ?_
    refine P_getiN (x := nI (D.length)) dX1_remember_38 kX1 fX1_26 rfl (by decide) hh.1 (by rw [vU_o (by omega), hO9 h (by omega)]; exact e2) ?_
    refine P_iconst (v := nI 1) dX1_remember_41 (by decide) ?_
    refine P_iaddN dX1_remember_42 ?_
    refine P_bipush (v := nI 14) dX1_remember_43 (by decide) ?_
    refine P_mmin dX1_remember_45 lX1_29 ⟨Nat.le_of_ble_eq_true rfl, Nat.le_of_ble_eq_true rfl⟩ ?_
    refine P_top (y := nI ((if D.length = 14 then 14 else D.length + 1))) (by by_cases q : D.length = 14; (· rw [q]; decide); (· rw [if_neg q, if_neg (fun z => by rw [nI_ltI (by omega) (by omega)] at z; omega)])) ?_
    refine P_puti dX1_remember_48 kX1 fX1_26 rfl (by decide) rfl hh.1 ?_
    refine P_vret dX1_remember_51 rfl ?_
    refine q_s rfl ⟨?_, ?_⟩
    · have hl2 : ((if D.length = 14 then D.drop 1 else D) ++ [(c, S)]).length = (if D.length = 14 then 14 else D.length + 1) := by
        rw [List.length_append]
        split
        · rw [List.length_drop]; show D.length - 1 + 1 = 14; omega
        · rfl
      refine ⟨nx + 1, by omega, by rw [vU_o (by omega), vU_s], by rw [vU_s, hl2], by rw [hl2]; split <;> omega, fun i hi => ?_, fun j Y hj => ?_⟩
      · intro m hm
        rw [vU_ne (by omega), vU_ne (by omega)]
        by_cases e9 : i = nx
        · subst e9; exact (hC9.m hm).s
        · rw [hO9 _ (by omega)]; exact e4 i hi m hm
      · have hj2 := (List.getElem?_eq_some_iff.mp hj).1
        rw [hl2] at hj2 ⊢
        refine CR.of (v := v1) ?_ (fun n g1 g2 g3 => by rw [vU_ne (by omega), vU_ne (by omega)])
        by_cases e9 : D.length = 14
        · rw [if_pos e9] at hj hj2 ⊢
          by_cases e8 : j = 13
          · rw [List.getElem?_append_right (by rw [List.length_drop]; omega), List.length_drop, show j - (D.length - 1) = 0 by omega] at hj
            cases hj
            rw [show (nx + 1 + 14 - 14 + j) % 14 = nx by omega]
            exact hC9
          · rw [List.getElem?_append_left (by rw [List.length_drop]; omega), List.getElem?_drop] at hj
            have := e5 _ Y hj
            rw [show (nx + 14 - D.length + (1 + j)) % 14 = (nx + 1 + 14 - 14 + j) % 14 by omega] at this
            exact this.ow hO9 (by omega)
        · rw [if_neg e9] at hj hj2 ⊢
          by_cases e8 : j = D.length
          · rw [List.getElem?_append_right (by omega), show j - D.length = 0 by omega] at hj
            cases hj
            rw [show (nx + 1 + 14 - (D.length + 1) + j) % 14 = nx by omega]
            exact hC9
          · rw [List.getElem?_append_left (by omega)] at hj
            have := e5 _ Y hj
            rw [show (nx + 14 - D.length + j) % 14 = (nx + 1 + 14 - (D.length + 1) + j) % 14 by omega] at this
            exact this.ow hO9 (by omega)
    · exact ((hO9.mono (by omega) (by omega)).u (by omega) (by omega)).u (by omega) (by omega)
  · refine P_iconst (v := nI 0) dX1_remember_23 (by decide) ?_
    refine P_goto (tgt := 33) dX1_remember_24 (by decide) ?_
    refine P_puti dX1_remember_33 kX1 fX1_18 rfl (by decide) rfl hh.1 ?_
    refine P_aload_n dX1_remember_36 rfl rfl ?_
    refine P_aload_n dX1_remember_37 rfl rfl ?_
    refine P_getiN (x := nI (D.length)) dX1_remember_38 kX1 fX1_26 rfl (by decide) hh.1 (by rw [vU_o (by omega), hO9 h (by omega)]; exact e2) ?_
    refine P_iconst (v := nI 1) dX1_remember_41 (by decide) ?_
    refine P_iaddN dX1_remember_42 ?_
    refine P_bipush (v := nI 14) dX1_remember_43 (by decide) ?_
    refine P_mmin dX1_remember_45 lX1_29 ⟨Nat.le_of_ble_eq_true rfl, Nat.le_of_ble_eq_true rfl⟩ ?_
    refine P_top (y := nI ((if D.length = 14 then 14 else D.length + 1))) (by by_cases q : D.length = 14; (· rw [q]; decide); (· rw [if_neg q, if_neg (fun z => by rw [nI_ltI (by omega) (by omega)] at z; omega)])) ?_
    refine P_puti dX1_remember_48 kX1 fX1_26 rfl (by decide) rfl hh.1 ?_
    refine P_vret dX1_remember_51 rfl ?_
    refine q_s rfl ⟨?_, ?_⟩
    · have hl2 : ((if D.length = 14 then D.drop 1 else D) ++ [(c, S)]).length = (if D.length = 14 then 14 else D.length + 1) := by
        rw [List.length_append]
        split
        · rw [List.length_drop]; show D.length - 1 + 1 = 14; omega
        · rfl
      refine ⟨0, by omega, by rw [vU_o (by omega), vU_s], by rw [vU_s, hl2], by rw [hl2]; split <;> omega, fun i hi => ?_, fun j Y hj => ?_⟩
      · intro m hm
        rw [vU_ne (by omega), vU_ne (by omega)]
        by_cases e9 : i = nx
        · subst e9; exact (hC9.m hm).s
        · rw [hO9 _ (by omega)]; exact e4 i hi m hm
      · have hj2 := (List.getElem?_eq_some_iff.mp hj).1
        rw [hl2] at hj2 ⊢
        refine CR.of (v := v1) ?_ (fun n g1 g2 g3 => by rw [vU_ne (by omega), vU_ne (by omega)])
        by_cases e9 : D.length = 14
        · rw [if_pos e9] at hj hj2 ⊢
          by_cases e8 : j = 13
          · rw [List.getElem?_append_right (by rw [List.length_drop]; omega), List.length_drop, show j - (D.length - 1) = 0 by omega] at hj
            cases hj
            rw [show (0 + 14 - 14 + j) % 14 = nx by omega]
            exact hC9
          · rw [List.getElem?_append_left (by rw [List.length_drop]; omega), List.getElem?_drop] at hj
            have := e5 _ Y hj
            rw [show (nx + 14 - D.length + (1 + j)) % 14 = (0 + 14 - 14 + j) % 14 by omega] at this
            exact this.ow hO9 (by omega)
        · rw [if_neg e9] at hj hj2 ⊢
          by_cases e8 : j = D.length
          · rw [List.getElem?_append_right (by omega), show j - D.length = 0 by omega] at hj
            cases hj
            rw [show (0 + 14 - (D.length + 1) + j) % 14 = nx by omega]
            exact hC9
          · rw [List.getElem?_append_left (by omega)] at hj
            have := e5 _ Y hj
            rw [show (nx + 14 - D.length + j) % 14 = (0 + 14 - (D.length + 1) + j) % 14 by omega] at this
            exact this.ow hO9 (by omega)
    · exact ((hO9.mono (by omega) (by omega)).u (by omega) (by omega)).u (by omega) (by omega)
set_option maxHeartbeats 4000000 in
set_option maxRecDepth 100000 in
theorem c_X1_takeLast {σ : vS} {v : vV} {h : Nat} {D : List mC} {Y : mC} (hh : kLH σ h) (hR : HR v h (D ++ [Y])) : vC M_X1_takeLast yX1_takeLast [.ref (h)] (σ, v) (fun o μ' => ∃ (k : Nat) (v9 : vV), k < 14 ∧ o = some (.ref (h + 2 + 84 * k)) ∧ μ' = (σ, v9) ∧ CR Y.1 v9 (h + 2 + 84 * k) Y.2 ∧ HR v9 h D ∧ vOw v v9 h 1178) := by
  obtain ⟨nx, hnx, e1, e2, e3, e4, e5⟩ := hR
  have hl : (D ++ [Y]).length = D.length + 1 := by rw [List.length_append]; rfl
  rw [hl] at e3
  refine vC_of (ls := [some (.ref (h))]) pn_X1 rfl rfl (Nat.le_of_ble_eq_true rfl) rfl ?_
  refine P_aload_n dX1_takeLast_0 rfl rfl ?_
  refine P_aload_n dX1_takeLast_1 rfl rfl ?_
  refine P_getiN (x := nI (nx)) dX1_takeLast_2 kX1 fX1_18 rfl (by decide) hh.1 e1 ?_
  refine P_if_gtN (tgt := 13) dX1_takeLast_5 (by decide) (by omega) (fun c5 => ?_) (fun c5 => ?_)
  · refine P_aload_n dX1_takeLast_13 rfl rfl ?_
    refine P_getiN (x := nI (nx)) dX1_takeLast_14 kX1 fX1_18 rfl (by decide) hh.1 e1 ?_
    refine P_iconst (v := nI 1) dX1_takeLast_17 (by decide) ?_
    refine P_isubN dX1_takeLast_18 (by omega) ?_
    refine P_puti dX1_takeLast_19 kX1 fX1_18 rfl (by decide) rfl hh.1 ?_
    refine P_aload_n dX1_takeLast_22 rfl rfl ?_
    refine P_dup dX1_takeLast_23 rfl ?_
    refine P_getiN (x := nI (D.length + 1)) dX1_takeLast_24 kX1 fX1_26 rfl (by decide) hh.1 (by rw [vU_o (by omega), e2, List.length_append]; rfl) ?_
    refine P_iconst (v := nI 1) dX1_takeLast_27 (by decide) ?_
    refine P_isubN dX1_takeLast_28 (by omega) ?_
    refine P_puti dX1_takeLast_29 kX1 fX1_26 rfl (by decide) rfl hh.1 ?_
    refine P_aload_n dX1_takeLast_32 rfl rfl ?_
    refine P_getr (t := h + 1) dX1_takeLast_33 kX1 fX1_11 rfl (by decide) hh.1 hh.2.2.1 hh.2.1.1.2 ?_
    refine P_aload_n dX1_takeLast_36 rfl rfl ?_
    refine P_getiN (x := nI (nx - 1)) dX1_takeLast_37 kX1 fX1_18 rfl (by decide) hh.1 (by rw [vU_o (by omega), vU_s]) ?_
    refine P_aaldC (t := h + 2 + 84 * (nx - 1)) (nx - 1) dX1_takeLast_40 hh.2.1 rfl (by omega) (by decide) (hh.2.2.2 (nx - 1) (by omega)).1 (hh.2.2.2 (nx - 1) (by omega)).2.o.1.2 ?_
    refine P_aret dX1_takeLast_41 rfl ?_
    refine ⟨nx - 1, _, by omega, rfl, rfl, ?_, ⟨nx - 1, by omega, by rw [vU_o (by omega), vU_s], by rw [vU_s, Nat.add_sub_cancel], by omega, fun i hi m hm => ?_, fun j Z hj => ?_⟩, ?_⟩
    · have := e5 D.length Y (by rw [List.getElem?_append_right (Nat.le_refl _), Nat.sub_self]; rfl)
      rw [hl, show (nx + 14 - (D.length + 1) + D.length) % 14 = nx - 1 by omega] at this
      exact this.of (fun n g1 g2 g3 => by rw [vU_ne (by omega), vU_ne (by omega)])
    · rw [vU_ne (by omega), vU_ne (by omega)]; exact e4 i hi m hm
    · have hj2 := (List.getElem?_eq_some_iff.mp hj).1
      have := e5 j Z (by rw [List.getElem?_append_left hj2]; exact hj)
      rw [hl, show (nx + 14 - (D.length + 1) + j) % 14 = (nx - 1 + 14 - D.length + j) % 14 by omega] at this
      exact this.of (fun n g1 g2 g3 => by rw [vU_ne (by omega), vU_ne (by omega)])
    · exact (vOw.rf.u (by omega) (by omega)).u (by omega) (by omega)
  · refine P_bipush (v := nI 13) dX1_takeLast_8 (by decide) ?_
    refine P_goto (tgt := 19) dX1_takeLast_10 (by decide) ?_
    refine P_puti dX1_takeLast_19 kX1 fX1_18 rfl (by decide) rfl hh.1 ?_
    refine P_aload_n dX1_takeLast_22 rfl rfl ?_
    refine P_dup dX1_takeLast_23 rfl ?_
    refine P_getiN (x := nI (D.length + 1)) dX1_takeLast_24 kX1 fX1_26 rfl (by decide) hh.1 (by rw [vU_o (by omega), e2, List.length_append]; rfl) ?_
    refine P_iconst (v := nI 1) dX1_takeLast_27 (by decide) ?_
    refine P_isubN dX1_takeLast_28 (by omega) ?_
    refine P_puti dX1_takeLast_29 kX1 fX1_26 rfl (by decide) rfl hh.1 ?_
    refine P_aload_n dX1_takeLast_32 rfl rfl ?_
    refine P_getr (t := h + 1) dX1_takeLast_33 kX1 fX1_11 rfl (by decide) hh.1 hh.2.2.1 hh.2.1.1.2 ?_
    refine P_aload_n dX1_takeLast_36 rfl rfl ?_
    refine P_getiN (x := nI (13)) dX1_takeLast_37 kX1 fX1_18 rfl (by decide) hh.1 (by rw [vU_o (by omega), vU_s]) ?_
    refine P_aaldC (t := h + 2 + 84 * (13)) (13) dX1_takeLast_40 hh.2.1 rfl (by omega) (by decide) (hh.2.2.2 (13) (by omega)).1 (hh.2.2.2 (13) (by omega)).2.o.1.2 ?_
    refine P_aret dX1_takeLast_41 rfl ?_
    refine ⟨13, _, by omega, rfl, rfl, ?_, ⟨13, by omega, by rw [vU_o (by omega), vU_s], by rw [vU_s, Nat.add_sub_cancel], by omega, fun i hi m hm => ?_, fun j Z hj => ?_⟩, ?_⟩
    · have := e5 D.length Y (by rw [List.getElem?_append_right (Nat.le_refl _), Nat.sub_self]; rfl)
      rw [hl, show (nx + 14 - (D.length + 1) + D.length) % 14 = 13 by omega] at this
      exact this.of (fun n g1 g2 g3 => by rw [vU_ne (by omega), vU_ne (by omega)])
    · rw [vU_ne (by omega), vU_ne (by omega)]; exact e4 i hi m hm
    · have hj2 := (List.getElem?_eq_some_iff.mp hj).1
      have := e5 j Z (by rw [List.getElem?_append_left hj2]; exact hj)
      rw [hl, show (nx + 14 - (D.length + 1) + j) % 14 = (13 + 14 - D.length + j) % 14 by omega] at this
      exact this.of (fun n g1 g2 g3 => by rw [vU_ne (by omega), vU_ne (by omega)])
    · exact (vOw.rf.u (by omega) (by omega)).u (by omega) (by omega)
set_option maxHeartbeats 4000000 in
set_option maxRecDepth 100000 in
theorem c_X6_checkMember {σ : vS} {v : vV} {c b : Nat} {S : mS} {m : Int32} (hT : kLT σ b) (hC : CR c v (b + 3) S) : vCX M_X6_checkMember yX6_checkMember [.ref (b), .int (m)] (σ, v) (chkP (σ, v) (mb c m)) := by
  refine vCX_of (ls := [some (.ref (b)), some (.int (m))]) pn_X6 rfl rfl (Nat.le_of_ble_eq_true rfl) rfl ?_
  refine P_aload_n dX6_checkMember_0 rfl rfl ?_
  refine P_getr (t := b + 3) dX6_checkMember_1 kX6 fX6_19 rfl (by decide) hT.o hT.r1 hT.k1.o.1.2 ?_
  refine P_iload_n dX6_checkMember_4 rfl rfl ?_
  refine P_cVp (rest := []) (As := [.int (m)]) dX6_checkMember_5 lX6_329 yk_X0_hasMember yv_X0_hasMember kX0 rfl (by decide) hT.k1.o rfl rfl (Nat.le_of_ble_eq_true rfl) rfl (c_X0_hasMember hT.k1 hC) ?_
  refine P_bif_ne (tgt := 22) dX6_checkMember_8 (by decide) (fun c8 => ?_) (fun c8 => ?_)
  · refine P_vret dX6_checkMember_22 rfl ?_
    exact ⟨rfl, rfl, c8⟩
  · refine P_throwW (text := "there is no such member") vExO rfl (by decide +kernel) dX6_checkMember_11 dX6_checkMember_14 dX6_checkMember_15 dX6_checkMember_18 dX6_checkMember_21 ⟨Nat.le_of_ble_eq_true rfl, Nat.le_of_ble_eq_true rfl⟩ (by decide) ?_
    exact ⟨rfl, rfl, c8⟩
set_option maxHeartbeats 4000000 in
set_option maxRecDepth 100000 in
theorem c_X6_checkSlot {μ : vM} {s : Int32} : vCX M_X6_checkSlot yX6_checkSlot [.int (s)] μ (chkP μ (gin s 0 1)) := by
  refine vCX_of (ls := [some (.int (s))]) pn_X6 rfl rfl (Nat.le_of_ble_eq_true rfl) rfl ?_
  refine P_iload_n dX6_checkSlot_0 rfl rfl ?_
  refine P_if_lt (tgt := 9) dX6_checkSlot_1 (by decide) (fun c1 => ?_) (fun c1 => ?_)
  · refine P_throwW (text := "there is no such save slot") vExO rfl (by decide +kernel) dX6_checkSlot_9 dX6_checkSlot_12 dX6_checkSlot_13 dX6_checkSlot_16 dX6_checkSlot_19 ⟨Nat.le_of_ble_eq_true rfl, Nat.le_of_ble_eq_true rfl⟩ (by decide) ?_
    exact ⟨rfl, rfl, gin_lo (lo := 0) (by decide) c1⟩
  · refine P_iload_n dX6_checkSlot_4 rfl rfl ?_
    refine P_iconst (v := nI 2) dX6_checkSlot_5 (by decide) ?_
    refine P_icmp_lt (tgt := 20) dX6_checkSlot_6 (by decide) (fun c6 => ?_) (fun c6 => ?_)
    · refine P_vret dX6_checkSlot_20 rfl ?_
      exact ⟨rfl, rfl, gin_ok c1 (fun q9 => by rw [i_lt, nI_toInt (by decide)] at c6 q9; omega) (by decide) (by decide)⟩
    · refine P_throwW (text := "there is no such save slot") vExO rfl (by decide +kernel) dX6_checkSlot_9 dX6_checkSlot_12 dX6_checkSlot_13 dX6_checkSlot_16 dX6_checkSlot_19 ⟨Nat.le_of_ble_eq_true rfl, Nat.le_of_ble_eq_true rfl⟩ (by decide) ?_
      exact ⟨rfl, rfl, by rw [← Bool.not_eq_true]; intro q9; obtain ⟨k, k1, k2, rfl⟩ := gin_n (by decide) q9; exact c6 ((nI_ltI (by omega) (by decide)).mpr (by omega))⟩
