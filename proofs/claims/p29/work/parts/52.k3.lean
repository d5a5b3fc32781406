
def menterC (S : mS) (m num by9 set heard : Nat) : mS := mnone (mtold S m num by9 set heard) m
theorem mtk_map {num by9 : Nat} {l : List mT} : mtk num by9 (l.map kq) = mor num by9 l 0 := by
  unfold mtk mor
  rw [List.foldl_map]
  rfl
theorem fil_map {num : Nat} {l : List mT} : (l.map kq).filter (fun t => decide (num < t.1)) = (l.filter (fun t => decide (num < t.1))).map kq := by
  rw [List.filter_map]; rfl
theorem sH_m {S : mS} {m a w x : Nat} {l : List mT} : sM (sH S m l) a w x = sH (sM S a w x) m l := rfl
theorem menterC_e {S : mS} {m num by9 set heard : Nat} (hp : ¬ (num < gM S m 6 ∨ num ≤ gM S m 2)) :
    sM (sK (sM (sM (sM (sM (sM (mnone (mover S m heard) m) m 1 0) m 2 num) m 3 by9) m 4 set) m 7 0) m ((gK S m).filter (fun t => decide (num < t.1)))) m 5 (mor num by9 (gK S m) 0) = menterC S m num by9 set heard := by
  unfold menterC mtold
  rw [if_neg hp]
  refine mS_ext (fun _ => rfl) (fun a w => ?_) (fun a => rfl) (fun _ => rfl) rfl
  unfold mnone menter
  by_cases ha : a = m
  · subst ha
    have hk : ∀ (T : mS) (l : List mT), gM (sK T a l) a w = gM T a w := fun _ _ => rfl
    simp only [sM_at, hk]
    by_cases h1 : w = 1
    · subst h1; rfl
    · by_cases h2 : w = 2
      · subst h2; rfl
      · by_cases h3 : w = 3
        · subst h3; rfl
        · by_cases h4 : w = 4
          · subst h4; rfl
          · by_cases h5 : w = 5
            · subst h5; rfl
            · by_cases h7 : w = 7
              · subst h7; rfl
              · by_cases h8 : w = 8
                · subst h8; rfl
                · by_cases h9 : w = 9
                  · subst h9; rfl
                  · by_cases h10 : w = 10
                    · subst h10; rfl
                    · simp only [if_neg h1, if_neg h2, if_neg h3, if_neg h4, if_neg h5, if_neg h7, if_neg h8, if_neg h9, if_neg h10]
  · have hk : ∀ (T : mS) (l : List mT), gM (sK T m l) a w = gM T a w := fun _ _ => rfl
    simp only [sM_g, if_neg ha, hk]
theorem none_id {S : mS} {m : Nat} (h8 : gM S m 8 = 0) (h9 : gM S m 9 = 0) (h10 : gM S m 10 = 0) : mnone S m = S := by
  refine mS_ext (fun _ => rfl) (fun a w => ?_) (fun a => rfl) (fun _ => rfl) rfl
  unfold mnone
  by_cases ha : a = m
  · subst ha
    simp only [sM_at]
    by_cases e8 : w = 8
    · subst e8; exact h8.symm
    · by_cases e9 : w = 9
      · subst e9; exact h9.symm
      · by_cases e10 : w = 10
        · subst e10; exact h10.symm
        · simp only [if_neg e8, if_neg e9, if_neg e10]
  · simp only [sM_g, if_neg ha]
/-- who comes back alone -/
theorem mback_e {S : mS} {m : Nat} (hk : gK S m = []) (h8 : gM S m 8 = 0) (h9 : gM S m 9 = 0) (h10 : gM S m 10 = 0) (h2 : gM S m 2 ≤ gM S m 6) : menterC (sM S m 6 (gM S m 6 + 1)) m (gM S m 6 + 1) m (1 <<< m) (gM S m 5) = mback S m := by
  have e6 : gM (sM S m 6 (gM S m 6 + 1)) m 6 = gM S m 6 + 1 := by rw [sM_at, if_pos rfl]
  have e2 : gM (sM S m 6 (gM S m 6 + 1)) m 2 = gM S m 2 := by rw [sM_at, if_neg (by omega)]
  have ek : gK (sM S m 6 (gM S m 6 + 1)) m = [] := hk
  rw [← menterC_e (by rw [e6, e2]; omega), ek]
  unfold mback menter
  refine mS_ext (fun _ => rfl) (fun a w => ?_) (fun a => ?_) (fun a => ?_) rfl
  · have hk2 : ∀ (T : mS) (l : List mT) (a w : Nat), gM (sK T m l) a w = gM T a w := fun _ _ _ _ => rfl
    have hh : ∀ (T : mS) (x a w : Nat), gM (mover T m x) a w = gM T a w := fun _ _ _ _ => rfl
    unfold mnone
    by_cases ha : a = m
    · subst ha
      simp only [sM_at, hk2, hh]
      by_cases h1 : w = 1
      · subst h1; rfl
      · by_cases h2 : w = 2
        · subst h2; rfl
        · by_cases h3 : w = 3
          · subst h3; rfl
          · by_cases h4 : w = 4
            · subst h4; rfl
            · by_cases h5 : w = 5
              · subst h5; rfl
              · by_cases h7 : w = 7
                · subst h7; rfl
                · by_cases e8 : w = 8
                  · subst e8; exact h8.symm
                  · by_cases e9 : w = 9
                    · subst e9; exact h9.symm
                    · by_cases e10 : w = 10
                      · subst e10; exact h10.symm
                      · by_cases e6 : w = 6
                        · subst e6; rfl
                        · simp only [if_neg h1, if_neg h2, if_neg h3, if_neg h4, if_neg h5, if_neg h7, if_neg e8, if_neg e9, if_neg e10, if_neg e6]
    · simp only [sM_g, if_neg ha, hk2, hh]
  · show (if a = m then List.filter _ [] else S.2.2.1 a) = S.2.2.1 a
    by_cases ha : a = m
    · subst ha; rw [if_pos rfl]; exact hk.symm
    · rw [if_neg ha]
  · show (if a = m then _ else S.2.2.2.1 a) = (if a = m then _ else S.2.2.2.1 a)
    by_cases ha : a = m
    · subst ha
      have e3 : gM (sM S a 6 (gM S a 6 + 1)) a 3 = gM S a 3 := by rw [sM_at, if_neg (by omega)]
      rw [if_pos rfl, if_pos rfl, e2, e3]; rfl
    · rw [if_neg ha, if_neg ha]
theorem mleave_e {S : mS} {m : Nat} : sK (mnone (sM S m 1 2) m) m [] = mleave S m := rfl
theorem start_e {S : mS} {m set : Nat} : sM (sM (sM (sM (sM (sM (sM (sM (sM S m 6 (gM S m 6 + 1)) m 1 1) m 8 (gM S m 6 + 1)) m 9 set) m 11 (gG S 1)) m 10 (1 <<< m)) m (12 + 3 * m) (gM S m 2)) m (13 + 3 * m) (gM S m 3)) m (14 + 3 * m) (gM S m 5) = mputA (mstart S m set) m m (gM S m 2) (gM S m 3) (gM S m 5) := by
  refine mS_ext (fun _ => rfl) (fun a w => ?_) (fun a => rfl) (fun _ => rfl) rfl
  unfold mputA mstart
  by_cases ha : a = m
  · subst ha
    simp only [sM_at]
    by_cases h10 : w = 10
    · subst h10
      rw [if_neg (by omega), if_neg (by omega), if_neg (by omega), if_pos rfl, if_pos rfl]
      rw [if_neg (by omega), if_pos trivial, Nat.zero_or]
    · by_cases h11 : w = 11
      · subst h11; rw [if_neg h10]; simp only [if_neg h10]
      · simp only [if_neg h10, if_neg h11]
  · simp only [sM_g, if_neg ha]
theorem CR.cg {c : Nat} {v : vV} {b : Nat} {S S' : mS} (h : CR c v b S) (e : S = S') : CR c v b S' := e ▸ h
theorem kq_b {c B : Nat} {S : mS} {m : Nat} (hN : NB c S B) (hB : B < 1000000000) : ∀ t, t ∈ (gK S m).map kq → t.1 < 2147483648 ∧ t.2.1 < 2147483648 := by
  intro t ht
  obtain ⟨u, hu, rfl⟩ := List.mem_map.mp ht
  obtain ⟨h1, h2, -⟩ := hN.k hu
  exact ⟨by show u.1 < _; omega, by show u.2.1 < _; omega⟩

theorem CR.N8 {c : Nat} {v : vV} {b m x y : Nat} {S : mS} (h : CR c v b S) (hm : m < 6) : CR c (vU (vU v (b + 6 + 13 * m) 9 (nI x)) (b + 6 + 13 * m) 10 (nI y)) b (sM (sM S m 8 x) m 9 y) := by
  have g := h.m hm
  refine h.mem hm ((vOw.rf.u (by omega) (by omega)).u (by omega) (by omega)) ⟨?_, fun j hj => ?_, fun q => ?_, ?_, ?_, ?_, fun k hk => ?_, ?_, ?_⟩ rfl rfl (fun k hk => ⟨by rw [sM_ne hk, sM_ne hk], rfl, rfl⟩) h.b
  · rw [vU_o (by omega), vU_o (by omega)]; exact g.s
  · rw [vU_o (by omega), vU_o (by omega), sM_at, if_neg (by omega), sM_at, if_neg (by omega)]; exact g.w hj
  · rw [vU_o (by omega), vU_s, sM_at, if_neg (by omega), sM_at, if_pos rfl]
  · rw [vU_s, sM_at, if_pos rfl]
  · rw [vU_o (by omega), vU_o (by omega), sM_at, if_neg (by omega), sM_at, if_neg (by omega)]; exact g.n11
  · rw [vU_o (by omega), vU_o (by omega), sM_at, if_neg (by omega), sM_at, if_neg (by omega)]; exact g.n12
  · rw [vU_o (by omega), vU_o (by omega), vU_o (by omega), vU_o (by omega), vU_o (by omega), vU_o (by omega), sM_at, sM_at, sM_at, sM_at, sM_at, sM_at, if_neg (by omega), if_neg (by omega), if_neg (by omega), if_neg (by omega), if_neg (by omega), if_neg (by omega)]; exact g.a hk
  · exact g.k.of (by rw [vU_ne (by omega), vU_ne (by omega)]) (by rw [vU_ne (by omega), vU_ne (by omega)]) (by rw [vU_ne (by omega), vU_ne (by omega)]) (by rw [vU_ne (by omega), vU_ne (by omega)])
  · exact g.h.of (by rw [vU_ne (by omega), vU_ne (by omega)]) (by rw [vU_ne (by omega), vU_ne (by omega)]) (by rw [vU_ne (by omega), vU_ne (by omega)]) (by rw [vU_ne (by omega), vU_ne (by omega)])

theorem put_e {S : mS} {m frm num by9 heard : Nat} : sM (sM (sM (sM S m (12 + 3 * frm) num) m (13 + 3 * frm) by9) m (14 + 3 * frm) heard) m 10 (gM S m 10 ||| 1 <<< frm) = mputA S m frm num by9 heard := rfl
theorem NB.put {c B : Nat} {S : mS} (h : NB c S B) {m : Nat} {x : mN} (hx : okN c B x) : NB c (mputA S m (x 1) (x 7) (x 8) (x 6)) B := by
  have h1 : x 1 < 6 := Nat.lt_of_lt_of_le hx.2.1 h.c6
  unfold mputA
  exact NB.M (NB.M (NB.M (NB.M h (fun _ => okM_a.mpr hx.2.2.2.2.2.2.2.1)) (fun _ => okM_b.mpr hx.2.2.2.2.2.2.2.2.1)) (fun _ => okM_h.mpr hx.2.2.2.2.2.2.1)) (fun _ => by show _ < 64; exact or6 (h.m10 m) (sh6 h1))
set_option maxHeartbeats 4000000 in
set_option maxRecDepth 100000 in
theorem c_X2_isIn {σ : vS} {v : vV} {c b : Nat} {S : mS} {m x y : Nat} (hq : kLC σ b) (hC : CR c v b S) {B : Nat} (hN : NB c S B) (hB : B < 1000000000) (hm : m < 6) (hx : x < 2147483648) (hy : y < 2147483648) : vC M_X2_isIn yX2_isIn [.ref (b + 6 + 13 * m), .int (nI (x)), .int (nI (y))] (σ, v) (qP (σ, v) (.int (vb (decide (gM S m 2 = x ∧ gM S m 3 = y))))) := by
  refine vC_of (ls := [some (.ref (b + 6 + 13 * m)), some (.int (nI (x))), some (.int (nI (y)))]) pn_X2 rfl rfl (Nat.le_of_ble_eq_true rfl) rfl ?_
  refine P_aload_n dX2_isIn_0 rfl rfl ?_
  refine P_getiN (x := nI (gM S m 2)) dX2_isIn_1 kX2 fX2_42 rfl (by decide) (hq.m (by omega)).o ((hC.m (by omega)).w (by decide)) ?_
  refine P_iload_n dX2_isIn_4 rfl rfl ?_
  refine P_icmp_neN (tgt := 20) dX2_isIn_5 (by decide) (by have := hN.m2 m; omega) (by omega) (fun c5 => ?_) (fun c5 => ?_)
  · refine P_iconst (v := nI 0) dX2_isIn_20 (by decide) ?_
    refine P_zret dX2_isIn_21 rfl (by decide) ?_
    exact q_fD (fun q => c5 q.1)
  · refine P_aload_n dX2_isIn_8 rfl rfl ?_
    refine P_getiN (x := nI (gM S m 3)) dX2_isIn_9 kX2 fX2_30 rfl (by decide) (hq.m (by omega)).o ((hC.m (by omega)).w (by decide)) ?_
    refine P_iload_n dX2_isIn_12 rfl rfl ?_
    refine P_icmp_neN (tgt := 20) dX2_isIn_13 (by decide) (by have := hN.m3 m; omega) (by omega) (fun c13 => ?_) (fun c13 => ?_)
    · refine P_iconst (v := nI 0) dX2_isIn_20 (by decide) ?_
      refine P_zret dX2_isIn_21 rfl (by decide) ?_
      exact q_fD (fun q => c13 q.2)
    · refine P_iconst (v := nI 1) dX2_isIn_16 (by decide) ?_
      refine P_goto (tgt := 21) dX2_isIn_17 (by decide) ?_
      refine P_zret dX2_isIn_21 rfl (by decide) ?_
      exact q_tD ⟨c5, c13⟩
set_option maxHeartbeats 4000000 in
set_option maxRecDepth 100000 in
theorem c_X2_maySpeak {σ : vS} {v : vV} {c b : Nat} {S : mS} {m : Nat} (hq : kLC σ b) (hC : CR c v b S) {B : Nat} (hN : NB c S B) (hB : B < 1000000000) (hm : m < 6) : vC M_X2_maySpeak yX2_maySpeak [.ref (b + 6 + 13 * m)] (σ, v) (qP (σ, v) (.int (vb (decide (gM S m 1 = 0 ∧ gM S m 7 < 4))))) := by
  refine vC_of (ls := [some (.ref (b + 6 + 13 * m))]) pn_X2 rfl rfl (Nat.le_of_ble_eq_true rfl) rfl ?_
  refine P_aload_n dX2_maySpeak_0 rfl rfl ?_
  refine P_getiN (x := nI (gM S m 1)) dX2_maySpeak_1 kX2 fX2_39 rfl (by decide) (hq.m (by omega)).o ((hC.m (by omega)).w (by decide)) ?_
  refine P_if_neN (tgt := 19) dX2_maySpeak_4 (by decide) (by have := hN.m1 m; omega) (fun c4 => ?_) (fun c4 => ?_)
  · refine P_iconst (v := nI 0) dX2_maySpeak_19 (by decide) ?_
    refine P_zret dX2_maySpeak_20 rfl (by decide) ?_
    exact q_fD (fun q => c4 q.1)
  · refine P_aload_n dX2_maySpeak_7 rfl rfl ?_
    refine P_getiN (x := nI (gM S m 7)) dX2_maySpeak_8 kX2 fX2_51 rfl (by decide) (hq.m (by omega)).o ((hC.m (by omega)).w (by decide)) ?_
    refine P_iconst (v := nI 4) dX2_maySpeak_11 (by decide) ?_
    refine P_icmp_geN (tgt := 19) dX2_maySpeak_12 (by decide) (by have := hN.m7 m; omega) (by omega) (fun c12 => ?_) (fun c12 => ?_)
    · refine P_iconst (v := nI 0) dX2_maySpeak_19 (by decide) ?_
      refine P_zret dX2_maySpeak_20 rfl (by decide) ?_
      exact q_fD (fun q => absurd q.2 (by omega))
    · refine P_iconst (v := nI 1) dX2_maySpeak_15 (by decide) ?_
      refine P_goto (tgt := 20) dX2_maySpeak_16 (by decide) ?_
      refine P_zret dX2_maySpeak_20 rfl (by decide) ?_
      exact q_tD ⟨by omega, by omega⟩
set_option maxHeartbeats 4000000 in
set_option maxRecDepth 100000 in
theorem c_X2_isOutOfPatience {σ : vS} {v : vV} {c b : Nat} {S : mS} {m : Nat} (hq : kLC σ b) (hC : CR c v b S) {B : Nat} (hN : NB c S B) (hB : B < 1000000000) (hm : m < 6) (hs : SI S) : vC M_X2_isOutOfPatience yX2_isOutOfPatience [.ref (b + 6 + 13 * m), .int (nI (gG S 1)), .int (nI (gG S 7))] (σ, v) (qP (σ, v) (.int (vb (decide (gG S 7 ≠ 0 ∧ gM S m 9 ≠ 0 ∧ gG S 7 ≤ gG S 1 - gM S m 11))))) := by
  refine vC_of (ls := [some (.ref (b + 6 + 13 * m)), some (.int (nI (gG S 1))), some (.int (nI (gG S 7)))]) pn_X2 rfl rfl (Nat.le_of_ble_eq_true rfl) rfl ?_
  refine P_iload_n dX2_isOutOfPatience_0 rfl rfl ?_
  refine P_if_eqN (tgt := 25) dX2_isOutOfPatience_1 (by decide) (by have := hN.g (i := 7) (by decide); omega) (fun c1 => ?_) (fun c1 => ?_)
  · refine P_iconst (v := nI 0) dX2_isOutOfPatience_25 (by decide) ?_
    refine P_zret dX2_isOutOfPatience_26 rfl (by decide) ?_
    exact q_fD (fun q => q.1 c1)
  · refine P_aload_n dX2_isOutOfPatience_4 rfl rfl ?_
    refine P_getiN (x := nI (gM S m 9)) dX2_isOutOfPatience_5 kX2 fX2_57 rfl (by decide) (hq.m (by omega)).o (hC.m (by omega)).n10 ?_
    refine P_if_eqN (tgt := 25) dX2_isOutOfPatience_8 (by decide) (by have := hN.m9 m; omega) (fun c8 => ?_) (fun c8 => ?_)
    · refine P_iconst (v := nI 0) dX2_isOutOfPatience_25 (by decide) ?_
      refine P_zret dX2_isOutOfPatience_26 rfl (by decide) ?_
      exact q_fD (fun q => q.2.1 c8)
    · refine P_iload_n dX2_isOutOfPatience_11 rfl rfl ?_
      refine P_aload_n dX2_isOutOfPatience_12 rfl rfl ?_
      refine P_getiN (x := nI (gM S m 11)) dX2_isOutOfPatience_13 kX2 fX2_60 rfl (by decide) (hq.m (by omega)).o (hC.m (by omega)).n11 ?_
      refine P_isubN dX2_isOutOfPatience_16 (by exact hs m) ?_
      refine P_iload_n dX2_isOutOfPatience_17 rfl rfl ?_
      refine P_icmp_ltN (tgt := 25) dX2_isOutOfPatience_18 (by decide) (by have := hN.g (i := 1) (by decide); have := hN.g (i := 7) (by decide); omega) (by have := hN.g (i := 1) (by decide); have := hN.g (i := 7) (by decide); omega) (fun c18 => ?_) (fun c18 => ?_)
      · refine P_iconst (v := nI 0) dX2_isOutOfPatience_25 (by decide) ?_
        refine P_zret dX2_isOutOfPatience_26 rfl (by decide) ?_
        exact q_fD (fun q => absurd q.2.2 (by omega))
      · refine P_iconst (v := nI 1) dX2_isOutOfPatience_21 (by decide) ?_
        refine P_goto (tgt := 26) dX2_isOutOfPatience_22 (by decide) ?_
        refine P_zret dX2_isOutOfPatience_26 rfl (by decide) ?_
        exact q_tD ⟨c1, c8, by omega⟩
set_option maxHeartbeats 4000000 in
set_option maxRecDepth 100000 in
theorem c_X2_isAnsweredByAll {σ : vS} {v : vV} {c b : Nat} {S : mS} {m : Nat} (hq : kLC σ b) (hC : CR c v b S) {B : Nat} (hN : NB c S B) (hB : B < 1000000000) (hm : m < 6) : vC M_X2_isAnsweredByAll yX2_isAnsweredByAll [.ref (b + 6 + 13 * m)] (σ, v) (qP (σ, v) (.int (vb (decide (gM S m 10 = gM S m 9))))) := by
  refine vC_of (ls := [some (.ref (b + 6 + 13 * m))]) pn_X2 rfl rfl (Nat.le_of_ble_eq_true rfl) rfl ?_
  refine P_aload_n dX2_isAnsweredByAll_0 rfl rfl ?_
  refine P_getiN (x := nI (gM S m 10)) dX2_isAnsweredByAll_1 kX2 fX2_63 rfl (by decide) (hq.m (by omega)).o (hC.m (by omega)).n12 ?_
  refine P_aload_n dX2_isAnsweredByAll_4 rfl rfl ?_
  refine P_getiN (x := nI (gM S m 9)) dX2_isAnsweredByAll_5 kX2 fX2_57 rfl (by decide) (hq.m (by omega)).o (hC.m (by omega)).n10 ?_
  refine P_icmp_neN (tgt := 15) dX2_isAnsweredByAll_8 (by decide) (by have := hN.m10 m; omega) (by have := hN.m9 m; omega) (fun c8 => ?_) (fun c8 => ?_)
  · refine P_iconst (v := nI 0) dX2_isAnsweredByAll_15 (by decide) ?_
    refine P_zret dX2_isAnsweredByAll_16 rfl (by decide) ?_
    exact q_fD c8
  · refine P_iconst (v := nI 1) dX2_isAnsweredByAll_11 (by decide) ?_
    refine P_goto (tgt := 16) dX2_isAnsweredByAll_12 (by decide) ?_
    refine P_zret dX2_isAnsweredByAll_16 rfl (by decide) ?_
    exact q_tD c8
set_option maxHeartbeats 4000000 in
set_option maxRecDepth 100000 in
theorem c_X2_stopCall {σ : vS} {v : vV} {c b : Nat} {S : mS} {m : Nat} (hq : kLC σ b) (hC : CR c v b S) (hm : m < 6) : vC M_X2_stopCall yX2_stopCall [.ref (b + 6 + 13 * m)] (σ, v) (qS σ none (kPo c v b (mnone S m))) := by
  have hO : vOw v v b 84 := vOw.rf
  refine vC_of (ls := [some (.ref (b + 6 + 13 * m))]) pn_X2 rfl rfl (Nat.le_of_ble_eq_true rfl) rfl ?_
  refine P_aload_n dX2_stopCall_0 rfl rfl ?_
  refine P_iconst (v := nI 0) dX2_stopCall_1 (by decide) ?_
  refine P_puti dX2_stopCall_2 kX2 fX2_57 rfl (by decide) rfl (hq.m (by omega)).o ?_
  have hC1 : CR c (vU v (b + 6 + 13 * m) 10 (nI (0))) b (sM S m 9 0) := (hC.M9 (x := 0) (by omega) (fun q => absurd rfl q))
  have hO2 : vOw v (vU v (b + 6 + 13 * m) 10 (nI (0))) b 84 := hO.u (by omega) (by omega)
  generalize vU v (b + 6 + 13 * m) 10 (nI (0)) = v3 at hC1 hO2 ⊢
  refine P_aload_n dX2_stopCall_5 rfl rfl ?_
  refine P_iconst (v := nI 0) dX2_stopCall_6 (by decide) ?_
  refine P_puti dX2_stopCall_7 kX2 fX2_63 rfl (by decide) rfl (hq.m (by omega)).o ?_
  have hC4 : CR c (vU v3 (b + 6 + 13 * m) 12 (nI (0))) b (sM (sM S m 9 0) m 10 0) := (hC1.M10 (x := 0) (by omega))
  have hO5 : vOw v (vU v3 (b + 6 + 13 * m) 12 (nI (0))) b 84 := hO2.u (by omega) (by omega)
  generalize vU v3 (b + 6 + 13 * m) 12 (nI (0)) = v6 at hC4 hO5 ⊢
  refine P_vret dX2_stopCall_10 rfl ?_
  exact q_s rfl ⟨hC4.none (by omega), hO5⟩
set_option maxHeartbeats 4000000 in
set_option maxRecDepth 100000 in
theorem c_X2_hushFor {σ : vS} {v : vV} {c b : Nat} {S : mS} {m num : Nat} (hq : kLC σ b) (hC : CR c v b S) (hm : m < 6) : vC M_X2_hushFor yX2_hushFor [.ref (b + 6 + 13 * m), .int (nI (num))] (σ, v) (qS σ none (kPo c v b (mnone (sM (sM S m 6 num) m 1 1) m))) := by
  have hO : vOw v v b 84 := vOw.rf
  refine vC_of (ls := [some (.ref (b + 6 + 13 * m)), some (.int (nI (num)))]) pn_X2 rfl rfl (Nat.le_of_ble_eq_true rfl) rfl ?_
  refine P_aload_n dX2_hushFor_0 rfl rfl ?_
  refine P_iload_n dX2_hushFor_1 rfl rfl ?_
  refine P_puti dX2_hushFor_2 kX2 fX2_48 rfl (by decide) rfl (hq.m (by omega)).o ?_
  have hC1 : CR c (vU v (b + 6 + 13 * m) 7 (nI (num))) b (sM S m 6 num) := (hC.M (w := 6) (x := num) (by omega) (by decide))
  have hO2 : vOw v (vU v (b + 6 + 13 * m) 7 (nI (num))) b 84 := hO.u (by omega) (by omega)
  generalize vU v (b + 6 + 13 * m) 7 (nI (num)) = v3 at hC1 hO2 ⊢
  refine P_aload_n dX2_hushFor_5 rfl rfl ?_
  refine P_iconst (v := nI 1) dX2_hushFor_6 (by decide) ?_
  refine P_puti dX2_hushFor_7 kX2 fX2_39 rfl (by decide) rfl (hq.m (by omega)).o ?_
  have hC4 : CR c (vU v3 (b + 6 + 13 * m) 2 (nI (1))) b (sM (sM S m 6 num) m 1 1) := (hC1.M (w := 1) (x := 1) (by omega) (by decide))
  have hO5 : vOw v (vU v3 (b + 6 + 13 * m) 2 (nI (1))) b 84 := hO2.u (by omega) (by omega)
  generalize vU v3 (b + 6 + 13 * m) 2 (nI (1)) = v6 at hC4 hO5 ⊢
  refine P_aload_n dX2_hushFor_10 rfl rfl ?_
  refine P_cVs (rest := []) (As := []) dX2_hushFor_11 lX2_78 yk_X2_stopCall yv_X2_stopCall kX2 rfl (by decide) (hq.m (by omega)).o rfl rfl (Nat.le_of_ble_eq_true rfl) rfl (c_X2_stopCall hq hC4 (by omega)) (fun v9 ⟨hC7, hO8⟩ => ?_)
  replace hO8 := hO5.tr hO8
  refine P_vret dX2_hushFor_14 rfl ?_
  exact q_s rfl ⟨hC7, hO8⟩
set_option maxHeartbeats 4000000 in
set_option maxRecDepth 100000 in
theorem c_X2_startCall {σ : vS} {v : vV} {c b : Nat} {S : mS} {m set : Nat} (hq : kLC σ b) (hC : CR c v b S) (hm : m < 6) : vC M_X2_startCall yX2_startCall [.ref (b + 6 + 13 * m), .int (nI (set)), .int (nI (gG S 1))] (σ, v) (qS σ none (kPo c v b (mputA (mstart S m set) m m (gM S m 2) (gM S m 3) (gM S m 5)))) := by
  have hO : vOw v v b 84 := vOw.rf
  refine vC_of (ls := [some (.ref (b + 6 + 13 * m)), some (.int (nI (set))), some (.int (nI (gG S 1)))]) pn_X2 rfl rfl (Nat.le_of_ble_eq_true rfl) rfl ?_
  refine P_aload_n dX2_startCall_0 rfl rfl ?_
  refine P_dup dX2_startCall_1 rfl ?_
  refine P_getiN (x := nI (gM S m 6)) dX2_startCall_2 kX2 fX2_48 rfl (by decide) (hq.m (by omega)).o ((hC.m (by omega)).w (by decide)) ?_
  refine P_iconst (v := nI 1) dX2_startCall_5 (by decide) ?_
  refine P_iaddN dX2_startCall_6 ?_
  refine P_puti dX2_startCall_7 kX2 fX2_48 rfl (by decide) rfl (hq.m (by omega)).o ?_
  have hC1 : CR c (vU v (b + 6 + 13 * m) 7 (nI (gM S m 6 + 1))) b (sM S m 6 (gM S m 6 + 1)) := (hC.M (w := 6) (x := gM S m 6 + 1) (by omega) (by decide))
  have hO2 : vOw v (vU v (b + 6 + 13 * m) 7 (nI (gM S m 6 + 1))) b 84 := hO.u (by omega) (by omega)
  generalize vU v (b + 6 + 13 * m) 7 (nI (gM S m 6 + 1)) = v3 at hC1 hO2 ⊢
  refine P_aload_n dX2_startCall_10 rfl rfl ?_
  refine P_iconst (v := nI 1) dX2_startCall_11 (by decide) ?_
  refine P_puti dX2_startCall_12 kX2 fX2_39 rfl (by decide) rfl (hq.m (by omega)).o ?_
  have hC4 : CR c (vU v3 (b + 6 + 13 * m) 2 (nI (1))) b (sM (sM S m 6 (gM S m 6 + 1)) m 1 1) := (hC1.M (w := 1) (x := 1) (by omega) (by decide))
  have hO5 : vOw v (vU v3 (b + 6 + 13 * m) 2 (nI (1))) b 84 := hO2.u (by omega) (by omega)
  generalize vU v3 (b + 6 + 13 * m) 2 (nI (1)) = v6 at hC4 hO5 ⊢
  refine P_aload_n dX2_startCall_15 rfl rfl ?_
  refine P_aload_n dX2_startCall_16 rfl rfl ?_
  refine P_getiN (x := nI (gM S m 6 + 1)) dX2_startCall_17 kX2 fX2_48 rfl (by decide) (hq.m (by omega)).o (((hC4.m (by omega)).w (w := 6) (by decide)).trans (congrArg nI (by simp [sM, gM]))) ?_
  refine P_puti dX2_startCall_20 kX2 fX2_54 rfl (by decide) rfl (hq.m (by omega)).o ?_
  refine P_aload_n dX2_startCall_23 rfl rfl ?_
  refine P_iload_n dX2_startCall_24 rfl rfl ?_
  refine P_puti dX2_startCall_25 kX2 fX2_57 rfl (by decide) rfl (hq.m (by omega)).o ?_
  have hC7 : CR c (vU (vU v6 (b + 6 + 13 * m) 9 (nI (gM S m 6 + 1))) (b + 6 + 13 * m) 10 (nI (set))) b (sM (sM (sM (sM S m 6 (gM S m 6 + 1)) m 1 1) m 8 (gM S m 6 + 1)) m 9 set) := hC4.N8 (x := gM S m 6 + 1) (y := set) (by omega)
  have hO8 : vOw v (vU (vU v6 (b + 6 + 13 * m) 9 (nI (gM S m 6 + 1))) (b + 6 + 13 * m) 10 (nI (set))) b 84 := (hO5.u (by omega) (by omega)).u (by omega) (by omega)
  generalize vU (vU v6 (b + 6 + 13 * m) 9 (nI (gM S m 6 + 1))) (b + 6 + 13 * m) 10 (nI (set)) = v9 at hC7 hO8 ⊢
  refine P_aload_n dX2_startCall_28 rfl rfl ?_
  refine P_iload_n dX2_startCall_29 rfl rfl ?_
  refine P_puti dX2_startCall_30 kX2 fX2_60 rfl (by decide) rfl (hq.m (by omega)).o ?_
  have hC10 : CR c (vU v9 (b + 6 + 13 * m) 11 (nI (gG S 1))) b (sM (sM (sM (sM (sM S m 6 (gM S m 6 + 1)) m 1 1) m 8 (gM S m 6 + 1)) m 9 set) m 11 (gG S 1)) := (hC7.M11 (x := gG S 1) (by omega))
  have hO11 : vOw v (vU v9 (b + 6 + 13 * m) 11 (nI (gG S 1))) b 84 := hO8.u (by omega) (by omega)
  generalize vU v9 (b + 6 + 13 * m) 11 (nI (gG S 1)) = v12 at hC10 hO11 ⊢
  refine P_aload_n dX2_startCall_33 rfl rfl ?_
  refine P_iconst (v := nI 1) dX2_startCall_34 (by decide) ?_
  refine P_aload_n dX2_startCall_35 rfl rfl ?_
  refine P_getiN (x := nI (m)) dX2_startCall_36 kX2 fX2_26 rfl (by decide) (hq.m (by omega)).o (hC10.m (by omega)).s ?_
  refine P_ishlN dX2_startCall_39 (by omega) ?_
  refine P_puti dX2_startCall_40 kX2 fX2_63 rfl (by decide) rfl (hq.m (by omega)).o ?_
  have hC13 : CR c (vU v12 (b + 6 + 13 * m) 12 (nI (1 <<< m))) b (sM (sM (sM (sM (sM (sM S m 6 (gM S m 6 + 1)) m 1 1) m 8 (gM S m 6 + 1)) m 9 set) m 11 (gG S 1)) m 10 (1 <<< m)) := (hC10.M10 (x := 1 <<< m) (by omega))
  have hO14 : vOw v (vU v12 (b + 6 + 13 * m) 12 (nI (1 <<< m))) b 84 := hO11.u (by omega) (by omega)
  generalize vU v12 (b + 6 + 13 * m) 12 (nI (1 <<< m)) = v15 at hC13 hO14 ⊢
  refine P_aload_n dX2_startCall_43 rfl rfl ?_
  refine P_getr (t := b + 6 + 13 * m + 1) dX2_startCall_44 kX2 fX2_14 rfl (by decide) (hq.m (by omega)).o (hq.m (by omega)).c13 (hq.m (by omega)).pa.o.1.2 ?_
  refine P_aload_n dX2_startCall_47 rfl rfl ?_
  refine P_getiN (x := nI (m)) dX2_startCall_48 kX2 fX2_26 rfl (by decide) (hq.m (by omega)).o (hC13.m (by omega)).s ?_
  refine P_aload_n dX2_startCall_51 rfl rfl ?_
  refine P_getiN (x := nI (gM S m 2)) dX2_startCall_52 kX2 fX2_42 rfl (by decide) (hq.m (by omega)).o (((hC13.m (by omega)).w (w := 2) (by decide)).trans (congrArg nI (by simp [sM, gM]))) ?_
  refine P_aload_n dX2_startCall_55 rfl rfl ?_
  refine P_getiN (x := nI (gM S m 3)) dX2_startCall_56 kX2 fX2_30 rfl (by decide) (hq.m (by omega)).o (((hC13.m (by omega)).w (w := 3) (by decide)).trans (congrArg nI (by simp [sM, gM]))) ?_
  refine P_aload_n dX2_startCall_59 rfl rfl ?_
  refine P_getiN (x := nI (gM S m 5)) dX2_startCall_60 kX2 fX2_45 rfl (by decide) (hq.m (by omega)).o (((hC13.m (by omega)).w (w := 5) (by decide)).trans (congrArg nI (by simp [sM, gM]))) ?_
  refine P_cVs (rest := []) (As := [.int (nI (m)), .int (nI (gM S m 2)), .int (nI (gM S m 3)), .int (nI (gM S m 5))]) dX2_startCall_63 lX2_70 yk_X4_put yv_X4_put kX4 rfl (by decide) (hq.m (by omega)).pa.o rfl rfl (Nat.le_of_ble_eq_true rfl) rfl (c_X4_put (hq.m (by omega)).pa (by decide) (by omega)) (fun v16 e17 => ?_)
  subst e17
  have hC18 := hC13.A (m := m) (k := m) (x := gM S m 2) (y := gM S m 3) (z := gM S m 5) (by omega) (by omega)
  have hO19 := ((hO14.u (n := b + 6 + 13 * m + 1 + 1) (k := m) (x := nI (gM S m 2)) (by omega) (by omega)).u (n := b + 6 + 13 * m + 1 + 2) (k := m) (x := nI (gM S m 3)) (by omega) (by omega)).u (n := b + 6 + 13 * m + 1 + 3) (k := m) (x := nI (gM S m 5)) (by omega) (by omega)
  refine P_vret dX2_startCall_66 rfl ?_
  exact q_s rfl ⟨hC18.cg start_e, hO19⟩
set_option maxHeartbeats 4000000 in
set_option maxRecDepth 100000 in
theorem c_X2_countsNo {σ : vS} {v : vV} {c b : Nat} {S : mS} {m : Nat} (hq : kLC σ b) (hC : CR c v b S) {B : Nat} (hN : NB c S B) (hB : B < 1000000000) (hm : m < 6) {x : mN} (hx : ∀ j, j < 9 → v (b + 5) j = nI (xc x j)) (hxN : okN c B x) (hz : gM S m 9 = 0 ∨ x 4 ≠ gM S m 8) : vC M_X2_countsAnswer yX2_countsAnswer [.ref (b + 6 + 13 * m), .ref (b + 5)] (σ, v) (qP (σ, v) (.int (vb false))) := by
  refine vC_of (ls := [some (.ref (b + 6 + 13 * m)), some (.ref (b + 5))]) pn_X2 rfl rfl (Nat.le_of_ble_eq_true rfl) rfl ?_
  refine P_aload_n dX2_countsAnswer_0 rfl rfl ?_
  refine P_getiN (x := nI (gM S m 9)) dX2_countsAnswer_1 kX2 fX2_57 rfl (by decide) (hq.m (by omega)).o (hC.m (by omega)).n10 ?_
  refine P_if_eqN (tgt := 17) dX2_countsAnswer_4 (by decide) (by have := hN.m9 m; omega) (fun c4 => ?_) (fun c4 => ?_)
  · refine P_iconst (v := nI 0) dX2_countsAnswer_17 (by decide) ?_
    refine P_zret dX2_countsAnswer_18 rfl (by decide) ?_
    exact ⟨by rw [vb_f rfl], rfl⟩
  · refine P_aload_n dX2_countsAnswer_7 rfl rfl ?_
    refine P_iconst (v := nI 4) dX2_countsAnswer_8 (by decide) ?_
    refine P_ialdN (x := nI (x 4)) (4) dX2_countsAnswer_9 hq.k5 rfl (by omega) (by decide) (hx 4 (by decide)) ?_
    refine P_aload_n dX2_countsAnswer_10 rfl rfl ?_
    refine P_getiN (x := nI (gM S m 8)) dX2_countsAnswer_11 kX2 fX2_54 rfl (by decide) (hq.m (by omega)).o ((hC.m (by omega)).n9 c4) ?_
    refine P_icmp_eqN (tgt := 19) dX2_countsAnswer_14 (by decide) (by first | exact Nat.lt_of_le_of_lt hxN.2.2.2.2.1 (by omega) | exact Nat.lt_of_le_of_lt (hN.m8 m) (by omega)) (by first | exact Nat.lt_of_le_of_lt hxN.2.2.2.2.1 (by omega) | exact Nat.lt_of_le_of_lt (hN.m8 m) (by omega)) (fun c14 => ?_) (fun c14 => ?_)
    · exact absurd hz (fun q => q.elim c4 (fun q => q c14))
    · refine P_iconst (v := nI 0) dX2_countsAnswer_17 (by decide) ?_
      refine P_zret dX2_countsAnswer_18 rfl (by decide) ?_
      exact ⟨by rw [vb_f rfl], rfl⟩
set_option maxHeartbeats 4000000 in
set_option maxRecDepth 100000 in
theorem c_X2_countsYes {σ : vS} {v : vV} {c b : Nat} {S : mS} {m : Nat} (hq : kLC σ b) (hC : CR c v b S) {B : Nat} (hN : NB c S B) (hB : B < 1000000000) (hm : m < 6) {x : mN} (hx : ∀ j, j < 9 → v (b + 5) j = nI (xc x j)) (hxN : okN c B x) (h9 : gM S m 9 ≠ 0) (h4 : x 4 = gM S m 8) : vC M_X2_countsAnswer yX2_countsAnswer [.ref (b + 6 + 13 * m), .ref (b + 5)] (σ, v) (qS σ (some (.int (vb (decide (gM (mputA S m (x 1) (x 7) (x 8) (x 6)) m 10 = gM (mputA S m (x 1) (x 7) (x 8) (x 6)) m 9))))) (kPo c v b (mputA S m (x 1) (x 7) (x 8) (x 6)))) := by
  have hO : vOw v v b 84 := vOw.rf
  have hx1 : x 1 < 6 := Nat.lt_of_lt_of_le hxN.2.1 hN.c6
  refine vC_of (ls := [some (.ref (b + 6 + 13 * m)), some (.ref (b + 5))]) pn_X2 rfl rfl (Nat.le_of_ble_eq_true rfl) rfl ?_
  refine P_aload_n dX2_countsAnswer_0 rfl rfl ?_
  refine P_getiN (x := nI (gM S m 9)) dX2_countsAnswer_1 kX2 fX2_57 rfl (by decide) (hq.m (by omega)).o (hC.m (by omega)).n10 ?_
  refine P_if_eqN (tgt := 17) dX2_countsAnswer_4 (by decide) (by have := hN.m9 m; omega) (fun c4 => ?_) (fun c4 => ?_)
  · exact absurd c4 h9
  · refine P_aload_n dX2_countsAnswer_7 rfl rfl ?_
    refine P_iconst (v := nI 4) dX2_countsAnswer_8 (by decide) ?_
    refine P_ialdN (x := nI (x 4)) (4) dX2_countsAnswer_9 hq.k5 rfl (by omega) (by decide) (hx 4 (by decide)) ?_
    refine P_aload_n dX2_countsAnswer_10 rfl rfl ?_
    refine P_getiN (x := nI (gM S m 8)) dX2_countsAnswer_11 kX2 fX2_54 rfl (by decide) (hq.m (by omega)).o ((hC.m (by omega)).n9 h9) ?_
    refine P_icmp_eqN (tgt := 19) dX2_countsAnswer_14 (by decide) (by first | exact Nat.lt_of_le_of_lt hxN.2.2.2.2.1 (by omega) | exact Nat.lt_of_le_of_lt (hN.m8 m) (by omega)) (by first | exact Nat.lt_of_le_of_lt hxN.2.2.2.2.1 (by omega) | exact Nat.lt_of_le_of_lt (hN.m8 m) (by omega)) (fun c14 => ?_) (fun c14 => ?_)
    · refine P_aload_n dX2_countsAnswer_19 rfl rfl ?_
      refine P_getr (t := b + 6 + 13 * m + 1) dX2_countsAnswer_20 kX2 fX2_14 rfl (by decide) (hq.m (by omega)).o (hq.m (by omega)).c13 (hq.m (by omega)).pa.o.1.2 ?_
      refine P_aload_n dX2_countsAnswer_23 rfl rfl ?_
      refine P_iconst (v := nI 1) dX2_countsAnswer_24 (by decide) ?_
      refine P_ialdN (x := nI (x 1)) (1) dX2_countsAnswer_25 hq.k5 rfl (by omega) (by decide) (hx 1 (by decide)) ?_
      refine P_aload_n dX2_countsAnswer_26 rfl rfl ?_
      refine P_bipush (v := nI 6) dX2_countsAnswer_27 (by decide) ?_
      refine P_ialdN (x := nI (x 7)) (6) dX2_countsAnswer_29 hq.k5 rfl (by omega) (by decide) (hx 6 (by decide)) ?_
      refine P_aload_n dX2_countsAnswer_30 rfl rfl ?_
      refine P_bipush (v := nI 7) dX2_countsAnswer_31 (by decide) ?_
      refine P_ialdN (x := nI (x 8)) (7) dX2_countsAnswer_33 hq.k5 rfl (by omega) (by decide) (hx 7 (by decide)) ?_
      refine P_aload_n dX2_countsAnswer_34 rfl rfl ?_
      refine P_iconst (v := nI 5) dX2_countsAnswer_35 (by decide) ?_
      refine P_ialdN (x := nI (x 6)) (5) dX2_countsAnswer_36 hq.k5 rfl (by omega) (by decide) (hx 5 (by decide)) ?_
      refine P_cVs (rest := []) (As := [.int (nI (x 1)), .int (nI (x 7)), .int (nI (x 8)), .int (nI (x 6))]) dX2_countsAnswer_37 lX2_70 yk_X4_put yv_X4_put kX4 rfl (by decide) (hq.m (by omega)).pa.o rfl rfl (Nat.le_of_ble_eq_true rfl) rfl (c_X4_put (hq.m (by omega)).pa (by decide) (by omega)) (fun v1 e1 => ?_)
      subst e1
      have hC1 := hC.A (m := m) (k := x 1) (x := x 7) (y := x 8) (z := x 6) (by omega) (by omega)
      have hO1 := ((hO.u (n := b + 6 + 13 * m + 1 + 1) (k := x 1) (x := nI (x 7)) (by omega) (by omega)).u (n := b + 6 + 13 * m + 1 + 2) (k := x 1) (x := nI (x 8)) (by omega) (by omega)).u (n := b + 6 + 13 * m + 1 + 3) (k := x 1) (x := nI (x 6)) (by omega) (by omega)
      have hx1 : ∀ j, j < 9 → (vU (vU (vU v (b + 6 + 13 * m + 1 + 1) (x 1) (nI (x 7))) (b + 6 + 13 * m + 1 + 2) (x 1) (nI (x 8))) (b + 6 + 13 * m + 1 + 3) (x 1) (nI (x 6))) (b + 5) j = nI (xc x j) := fun j hj => by rw [vU_ne (by omega), vU_ne (by omega), vU_ne (by omega)]; exact hx j hj
      generalize vU (vU (vU v (b + 6 + 13 * m + 1 + 1) (x 1) (nI (x 7))) (b + 6 + 13 * m + 1 + 2) (x 1) (nI (x 8))) (b + 6 + 13 * m + 1 + 3) (x 1) (nI (x 6)) = v1 at hC1 hO1 hx1 ⊢
      refine P_aload_n dX2_countsAnswer_40 rfl rfl ?_
      refine P_dup dX2_countsAnswer_41 rfl ?_
      refine P_getiN (x := nI (gM S m 10)) dX2_countsAnswer_42 kX2 fX2_63 rfl (by decide) (hq.m (by omega)).o ((hC1.m (by omega)).n12.trans (congrArg nI (by rw [sM_at, if_neg (by omega), sM_at, if_neg (by omega), sM_at, if_neg (by omega)]))) ?_
      refine P_iconst (v := nI 1) dX2_countsAnswer_45 (by decide) ?_
      refine P_aload_n dX2_countsAnswer_46 rfl rfl ?_
      refine P_iconst (v := nI 1) dX2_countsAnswer_47 (by decide) ?_
      refine P_ialdN (x := nI (x 1)) (1) dX2_countsAnswer_48 hq.k5 rfl (by omega) (by decide) (hx1 1 (by decide)) ?_
      refine P_ishlN dX2_countsAnswer_49 (by omega) ?_
      refine P_iorN dX2_countsAnswer_50 ?_
      refine P_puti dX2_countsAnswer_51 kX2 fX2_63 rfl (by decide) rfl (hq.m (by omega)).o ?_
      have hC1 : CR c (vU v1 (b + 6 + 13 * m) 12 (nI ((gM S m 10) ||| (1 <<< (x 1))))) b (sM (sM (sM (sM S m (12 + 3 * x 1) (x 7)) m (13 + 3 * x 1) (x 8)) m (14 + 3 * x 1) (x 6)) m 10 ((gM S m 10) ||| (1 <<< (x 1)))) := (hC1.M10 (x := (gM S m 10) ||| (1 <<< (x 1))) (by omega))
      have hO2 : vOw v (vU v1 (b + 6 + 13 * m) 12 (nI ((gM S m 10) ||| (1 <<< (x 1))))) b 84 := hO1.u (by omega) (by omega)
      generalize vU v1 (b + 6 + 13 * m) 12 (nI ((gM S m 10) ||| (1 <<< (x 1)))) = v3 at hC1 hO2 ⊢
      refine P_aload_n dX2_countsAnswer_54 rfl rfl ?_
      refine P_cVp (rest := []) (As := []) dX2_countsAnswer_55 lX2_74 yk_X2_isAnsweredByAll yv_X2_isAnsweredByAll kX2 rfl (by decide) (hq.m (by omega)).o rfl rfl (Nat.le_of_ble_eq_true rfl) rfl (c_X2_isAnsweredByAll hq (hC1.cg put_e) (NB.put hN hxN) hB hm) ?_
      refine P_zret dX2_countsAnswer_58 rfl (vb_nar _) ?_
      exact q_s rfl ⟨hC1.cg put_e, hO2⟩
    · exact absurd h4 c14
set_option maxHeartbeats 4000000 in
set_option maxRecDepth 100000 in
theorem c_X2_takesHear {σ : vS} {v : vV} {c b : Nat} {S : mS} {m num cal bit : Nat} (hq : kLC σ b) (hC : CR c v b S) {B : Nat} (hN : NB c S B) (hB : B < 1000000000) (hm : m < 6) (hnum : num < 2147483648) (hcal : cal < 2147483648) (hbit : bit < 24) (hh : (gM S m 2 = num ∧ gM S m 3 = cal) ∧ gM S m 1 = 0) : vC M_X2_takesSpeech yX2_takesSpeech [.ref (b + 6 + 13 * m), .int (nI (num)), .int (nI (cal)), .int (nI (bit))] (σ, v) (qS σ (some (.int (vb true))) (kPo c v b (sM S m 5 (gM S m 5 ||| 1 <<< bit)))) := by
  have hO : vOw v v b 84 := vOw.rf
  refine vC_of (ls := [some (.ref (b + 6 + 13 * m)), some (.int (nI (num))), some (.int (nI (cal))), some (.int (nI (bit)))]) pn_X2 rfl rfl (Nat.le_of_ble_eq_true rfl) rfl ?_
  refine P_aload_n dX2_takesSpeech_0 rfl rfl ?_
  refine P_getiN (x := nI (gM S m 1)) dX2_takesSpeech_1 kX2 fX2_39 rfl (by decide) (hq.m (by omega)).o ((hC.m (by omega)).w (by decide)) ?_
  refine P_if_neN (tgt := 30) dX2_takesSpeech_4 (by decide) (by have := hN.m1 m; omega) (fun c4 => ?_) (fun c4 => ?_)
  · exact absurd hh.2 c4
  · refine P_aload_n dX2_takesSpeech_7 rfl rfl ?_
    refine P_iload_n dX2_takesSpeech_8 rfl rfl ?_
    refine P_iload_n dX2_takesSpeech_9 rfl rfl ?_
    refine P_cVp (rest := []) (As := [.int (nI (num)), .int (nI (cal))]) dX2_takesSpeech_10 lX2_81 yk_X2_isIn yv_X2_isIn kX2 rfl (by decide) (hq.m (by omega)).o rfl rfl (Nat.le_of_ble_eq_true rfl) rfl (c_X2_isIn hq hC hN hB (by omega) hnum hcal) ?_
    refine P_bif_eq (tgt := 30) dX2_takesSpeech_13 (by decide) (fun c13 => ?_) (fun c13 => ?_)
    · exact absurd hh.1 (of_decide_eq_false c13)
    · refine P_aload_n dX2_takesSpeech_16 rfl rfl ?_
      refine P_dup dX2_takesSpeech_17 rfl ?_
      refine P_getiN (x := nI (gM S m 5)) dX2_takesSpeech_18 kX2 fX2_45 rfl (by decide) (hq.m (by omega)).o ((hC.m (by omega)).w (by decide)) ?_
      refine P_iconst (v := nI 1) dX2_takesSpeech_21 (by decide) ?_
      refine P_iload_n dX2_takesSpeech_22 rfl rfl ?_
      refine P_ishlN dX2_takesSpeech_23 (by omega) ?_
      refine P_iorN dX2_takesSpeech_24 ?_
      refine P_puti dX2_takesSpeech_25 kX2 fX2_45 rfl (by decide) rfl (hq.m (by omega)).o ?_
      have hC1 : CR c (vU v (b + 6 + 13 * m) 6 (nI ((gM S m 5) ||| (1 <<< bit)))) b (sM S m 5 ((gM S m 5) ||| (1 <<< bit))) := (hC.M (w := 5) (x := (gM S m 5) ||| (1 <<< bit)) (by omega) (by decide))
      have hO2 : vOw v (vU v (b + 6 + 13 * m) 6 (nI ((gM S m 5) ||| (1 <<< bit)))) b 84 := hO.u (by omega) (by omega)
      generalize vU v (b + 6 + 13 * m) 6 (nI ((gM S m 5) ||| (1 <<< bit))) = v3 at hC1 hO2 ⊢
      refine P_iconst (v := nI 1) dX2_takesSpeech_28 (by decide) ?_
      refine P_zret dX2_takesSpeech_29 rfl (by decide) ?_
      exact q_s (by rw [vb_t rfl]) ⟨hC1, hO2⟩
set_option maxHeartbeats 4000000 in
set_option maxRecDepth 100000 in
theorem c_X2_takesKeep {σ : vS} {v : vV} {c b : Nat} {S : mS} {m num cal bit : Nat} (hq : kLC σ b) (hC : CR c v b S) {B : Nat} (hN : NB c S B) (hB : B < 1000000000) (hm : m < 6) (hnum : num < 2147483648) (hcal : cal < 2147483648) (hbit : bit < 24) (hh : ¬ ((gM S m 2 = num ∧ gM S m 3 = cal) ∧ gM S m 1 = 0)) (h2 : gM S m 2 < num) (hl : (gK S m).length < 12) : vC M_X2_takesSpeech yX2_takesSpeech [.ref (b + 6 + 13 * m), .int (nI (num)), .int (nI (cal)), .int (nI (bit))] (σ, v) (qS σ (some (.int (vb true))) (kPo c v b (sK S m (gK S m ++ [(num, cal, bit)])))) := by
  have hO : vOw v v b 84 := vOw.rf
  refine vC_of (ls := [some (.ref (b + 6 + 13 * m)), some (.int (nI (num))), some (.int (nI (cal))), some (.int (nI (bit)))]) pn_X2 rfl rfl (Nat.le_of_ble_eq_true rfl) rfl ?_
  refine P_aload_n dX2_takesSpeech_0 rfl rfl ?_
  refine P_getiN (x := nI (gM S m 1)) dX2_takesSpeech_1 kX2 fX2_39 rfl (by decide) (hq.m (by omega)).o ((hC.m (by omega)).w (by decide)) ?_
  refine P_if_neN (tgt := 30) dX2_takesSpeech_4 (by decide) (by have := hN.m1 m; omega) (fun c4 => ?_) (fun c4 => ?_)
  · refine P_iload_n dX2_takesSpeech_30 rfl rfl ?_
    refine P_aload_n dX2_takesSpeech_31 rfl rfl ?_
    refine P_getiN (x := nI (gM S m 2)) dX2_takesSpeech_32 kX2 fX2_42 rfl (by decide) (hq.m (by omega)).o ((hC.m (by omega)).w (by decide)) ?_
    refine P_icmp_leN (tgt := 48) dX2_takesSpeech_35 (by decide) (by first | omega | (have := hN.m2 m; omega)) (by first | omega | (have := hN.m2 m; omega)) (fun c35 => ?_) (fun c35 => ?_)
    · exact absurd c35 (by omega)
    · refine P_aload_n dX2_takesSpeech_38 rfl rfl ?_
      refine P_getr (t := b + 6 + 13 * m + 5) dX2_takesSpeech_39 kX2 fX2_20 rfl (by decide) (hq.m (by omega)).o (hq.m (by omega)).c14 (hq.m (by omega)).pk.o.1.2 ?_
      refine P_cVp (rest := []) (As := []) dX2_takesSpeech_42 lX2_85 yk_X4_isFull yv_X4_isFull kX4 rfl (by decide) (hq.m (by omega)).pk.o rfl rfl (Nat.le_of_ble_eq_true rfl) rfl (c_X4_isFull (hq.m (by omega)).pk (by decide) (hC.m (by omega)).k (by rw [List.length_map]; exact hN.b.1 m)) ?_
      refine P_bif_eq (tgt := 50) dX2_takesSpeech_45 (by decide) (fun c45 => ?_) (fun c45 => ?_)
      · refine P_aload_n dX2_takesSpeech_50 rfl rfl ?_
        refine P_getr (t := b + 6 + 13 * m + 5) dX2_takesSpeech_51 kX2 fX2_20 rfl (by decide) (hq.m (by omega)).o (hq.m (by omega)).c14 (hq.m (by omega)).pk.o.1.2 ?_
        refine P_iload_n dX2_takesSpeech_54 rfl rfl ?_
        refine P_iload_n dX2_takesSpeech_55 rfl rfl ?_
        refine P_iconst (v := nI 1) dX2_takesSpeech_56 (by decide) ?_
        refine P_iload_n dX2_takesSpeech_57 rfl rfl ?_
        refine P_ishlN dX2_takesSpeech_58 (by omega) ?_
        refine P_cVs (rest := []) (As := [.int (nI (num)), .int (nI (cal)), .int (nI (1 <<< bit))]) dX2_takesSpeech_59 lX2_88 yk_X4_add yv_X4_add kX4 rfl (by decide) (hq.m (by omega)).pk.o rfl rfl (Nat.le_of_ble_eq_true rfl) rfl (c_X4_add (h := 1 <<< bit) (hq.m (by omega)).pk (by decide) (hC.m (by omega)).k (by rw [List.length_map]; exact hN.b.1 m) (by decide)) (fun v1 h1 => ?_)
        have hC1 : CR c v1 b (sK S m (gK S m ++ [(num, cal, bit)])) := hC.K (by omega) h1.2 (by rw [if_neg (by rw [List.length_map]; omega)] at h1; rw [List.map_append]; exact h1.1) (by rw [List.length_append]; show _ + 1 ≤ 12; omega)
        have hO1 := hO.tr (h1.2.mono (r2 := b) (w2 := 84) (by omega) (by omega))
        refine P_iconst (v := nI 1) dX2_takesSpeech_62 (by decide) ?_
        refine P_zret dX2_takesSpeech_63 rfl (by decide) ?_
        exact q_s (by rw [vb_t rfl]) ⟨hC1, hO1⟩
      · exact absurd (of_decide_eq_true c45) (by rw [List.length_map]; omega)
  · refine P_aload_n dX2_takesSpeech_7 rfl rfl ?_
    refine P_iload_n dX2_takesSpeech_8 rfl rfl ?_
    refine P_iload_n dX2_takesSpeech_9 rfl rfl ?_
    refine P_cVp (rest := []) (As := [.int (nI (num)), .int (nI (cal))]) dX2_takesSpeech_10 lX2_81 yk_X2_isIn yv_X2_isIn kX2 rfl (by decide) (hq.m (by omega)).o rfl rfl (Nat.le_of_ble_eq_true rfl) rfl (c_X2_isIn hq hC hN hB (by omega) hnum hcal) ?_
    refine P_bif_eq (tgt := 30) dX2_takesSpeech_13 (by decide) (fun c13 => ?_) (fun c13 => ?_)
    · refine P_iload_n dX2_takesSpeech_30 rfl rfl ?_
      refine P_aload_n dX2_takesSpeech_31 rfl rfl ?_
      refine P_getiN (x := nI (gM S m 2)) dX2_takesSpeech_32 kX2 fX2_42 rfl (by decide) (hq.m (by omega)).o ((hC.m (by omega)).w (by decide)) ?_
      refine P_icmp_leN (tgt := 48) dX2_takesSpeech_35 (by decide) (by first | omega | (have := hN.m2 m; omega)) (by first | omega | (have := hN.m2 m; omega)) (fun c35 => ?_) (fun c35 => ?_)
      · exact absurd c35 (by omega)
      · refine P_aload_n dX2_takesSpeech_38 rfl rfl ?_
        refine P_getr (t := b + 6 + 13 * m + 5) dX2_takesSpeech_39 kX2 fX2_20 rfl (by decide) (hq.m (by omega)).o (hq.m (by omega)).c14 (hq.m (by omega)).pk.o.1.2 ?_
        refine P_cVp (rest := []) (As := []) dX2_takesSpeech_42 lX2_85 yk_X4_isFull yv_X4_isFull kX4 rfl (by decide) (hq.m (by omega)).pk.o rfl rfl (Nat.le_of_ble_eq_true rfl) rfl (c_X4_isFull (hq.m (by omega)).pk (by decide) (hC.m (by omega)).k (by rw [List.length_map]; exact hN.b.1 m)) ?_
        refine P_bif_eq (tgt := 50) dX2_takesSpeech_45 (by decide) (fun c45 => ?_) (fun c45 => ?_)
        · refine P_aload_n dX2_takesSpeech_50 rfl rfl ?_
          refine P_getr (t := b + 6 + 13 * m + 5) dX2_takesSpeech_51 kX2 fX2_20 rfl (by decide) (hq.m (by omega)).o (hq.m (by omega)).c14 (hq.m (by omega)).pk.o.1.2 ?_
          refine P_iload_n dX2_takesSpeech_54 rfl rfl ?_
          refine P_iload_n dX2_takesSpeech_55 rfl rfl ?_
          refine P_iconst (v := nI 1) dX2_takesSpeech_56 (by decide) ?_
          refine P_iload_n dX2_takesSpeech_57 rfl rfl ?_
          refine P_ishlN dX2_takesSpeech_58 (by omega) ?_
          refine P_cVs (rest := []) (As := [.int (nI (num)), .int (nI (cal)), .int (nI (1 <<< bit))]) dX2_takesSpeech_59 lX2_88 yk_X4_add yv_X4_add kX4 rfl (by decide) (hq.m (by omega)).pk.o rfl rfl (Nat.le_of_ble_eq_true rfl) rfl (c_X4_add (h := 1 <<< bit) (hq.m (by omega)).pk (by decide) (hC.m (by omega)).k (by rw [List.length_map]; exact hN.b.1 m) (by decide)) (fun v1 h1 => ?_)
          have hC1 : CR c v1 b (sK S m (gK S m ++ [(num, cal, bit)])) := hC.K (by omega) h1.2 (by rw [if_neg (by rw [List.length_map]; omega)] at h1; rw [List.map_append]; exact h1.1) (by rw [List.length_append]; show _ + 1 ≤ 12; omega)
          have hO1 := hO.tr (h1.2.mono (r2 := b) (w2 := 84) (by omega) (by omega))
          refine P_iconst (v := nI 1) dX2_takesSpeech_62 (by decide) ?_
          refine P_zret dX2_takesSpeech_63 rfl (by decide) ?_
          exact q_s (by rw [vb_t rfl]) ⟨hC1, hO1⟩
        · exact absurd (of_decide_eq_true c45) (by rw [List.length_map]; omega)
    · exact absurd ⟨of_decide_eq_true c13, c4⟩ hh
set_option maxHeartbeats 4000000 in
set_option maxRecDepth 100000 in
theorem c_X2_takesLate {σ : vS} {v : vV} {c b : Nat} {S : mS} {m num cal bit : Nat} (hq : kLC σ b) (hC : CR c v b S) {B : Nat} (hN : NB c S B) (hB : B < 1000000000) (hm : m < 6) (hnum : num < 2147483648) (hcal : cal < 2147483648) (hbit : bit < 24) (hh : ¬ ((gM S m 2 = num ∧ gM S m 3 = cal) ∧ gM S m 1 = 0)) (h2 : ¬ (gM S m 2 < num ∧ (gK S m).length < 12)) : vC M_X2_takesSpeech yX2_takesSpeech [.ref (b + 6 + 13 * m), .int (nI (num)), .int (nI (cal)), .int (nI (bit))] (σ, v) (qP (σ, v) (.int (vb false))) := by
  have hO : vOw v v b 84 := vOw.rf
  refine vC_of (ls := [some (.ref (b + 6 + 13 * m)), some (.int (nI (num))), some (.int (nI (cal))), some (.int (nI (bit)))]) pn_X2 rfl rfl (Nat.le_of_ble_eq_true rfl) rfl ?_
  refine P_aload_n dX2_takesSpeech_0 rfl rfl ?_
  refine P_getiN (x := nI (gM S m 1)) dX2_takesSpeech_1 kX2 fX2_39 rfl (by decide) (hq.m (by omega)).o ((hC.m (by omega)).w (by decide)) ?_
  refine P_if_neN (tgt := 30) dX2_takesSpeech_4 (by decide) (by have := hN.m1 m; omega) (fun c4 => ?_) (fun c4 => ?_)
  · refine P_iload_n dX2_takesSpeech_30 rfl rfl ?_
    refine P_aload_n dX2_takesSpeech_31 rfl rfl ?_
    refine P_getiN (x := nI (gM S m 2)) dX2_takesSpeech_32 kX2 fX2_42 rfl (by decide) (hq.m (by omega)).o ((hC.m (by omega)).w (by decide)) ?_
    refine P_icmp_leN (tgt := 48) dX2_takesSpeech_35 (by decide) (by first | omega | (have := hN.m2 m; omega)) (by first | omega | (have := hN.m2 m; omega)) (fun c35 => ?_) (fun c35 => ?_)
    · refine P_iconst (v := nI 0) dX2_takesSpeech_48 (by decide) ?_
      refine P_zret dX2_takesSpeech_49 rfl (by decide) ?_
      exact ⟨by rw [vb_f rfl], rfl⟩
    · refine P_aload_n dX2_takesSpeech_38 rfl rfl ?_
      refine P_getr (t := b + 6 + 13 * m + 5) dX2_takesSpeech_39 kX2 fX2_20 rfl (by decide) (hq.m (by omega)).o (hq.m (by omega)).c14 (hq.m (by omega)).pk.o.1.2 ?_
      refine P_cVp (rest := []) (As := []) dX2_takesSpeech_42 lX2_85 yk_X4_isFull yv_X4_isFull kX4 rfl (by decide) (hq.m (by omega)).pk.o rfl rfl (Nat.le_of_ble_eq_true rfl) rfl (c_X4_isFull (hq.m (by omega)).pk (by decide) (hC.m (by omega)).k (by rw [List.length_map]; exact hN.b.1 m)) ?_
      refine P_bif_eq (tgt := 50) dX2_takesSpeech_45 (by decide) (fun c45 => ?_) (fun c45 => ?_)
      · exact absurd h2 (fun q => q ⟨by omega, by have := of_decide_eq_false c45; rw [List.length_map] at this; have := hN.b.1 m; omega⟩)
      · refine P_iconst (v := nI 0) dX2_takesSpeech_48 (by decide) ?_
        refine P_zret dX2_takesSpeech_49 rfl (by decide) ?_
        exact ⟨by rw [vb_f rfl], rfl⟩
  · refine P_aload_n dX2_takesSpeech_7 rfl rfl ?_
    refine P_iload_n dX2_takesSpeech_8 rfl rfl ?_
    refine P_iload_n dX2_takesSpeech_9 rfl rfl ?_
    refine P_cVp (rest := []) (As := [.int (nI (num)), .int (nI (cal))]) dX2_takesSpeech_10 lX2_81 yk_X2_isIn yv_X2_isIn kX2 rfl (by decide) (hq.m (by omega)).o rfl rfl (Nat.le_of_ble_eq_true rfl) rfl (c_X2_isIn hq hC hN hB (by omega) hnum hcal) ?_
    refine P_bif_eq (tgt := 30) dX2_takesSpeech_13 (by decide) (fun c13 => ?_) (fun c13 => ?_)
    · refine P_iload_n dX2_takesSpeech_30 rfl rfl ?_
      refine P_aload_n dX2_takesSpeech_31 rfl rfl ?_
      refine P_getiN (x := nI (gM S m 2)) dX2_takesSpeech_32 kX2 fX2_42 rfl (by decide) (hq.m (by omega)).o ((hC.m (by omega)).w (by decide)) ?_
      refine P_icmp_leN (tgt := 48) dX2_takesSpeech_35 (by decide) (by first | omega | (have := hN.m2 m; omega)) (by first | omega | (have := hN.m2 m; omega)) (fun c35 => ?_) (fun c35 => ?_)
      · refine P_iconst (v := nI 0) dX2_takesSpeech_48 (by decide) ?_
        refine P_zret dX2_takesSpeech_49 rfl (by decide) ?_
        exact ⟨by rw [vb_f rfl], rfl⟩
      · refine P_aload_n dX2_takesSpeech_38 rfl rfl ?_
        refine P_getr (t := b + 6 + 13 * m + 5) dX2_takesSpeech_39 kX2 fX2_20 rfl (by decide) (hq.m (by omega)).o (hq.m (by omega)).c14 (hq.m (by omega)).pk.o.1.2 ?_
        refine P_cVp (rest := []) (As := []) dX2_takesSpeech_42 lX2_85 yk_X4_isFull yv_X4_isFull kX4 rfl (by decide) (hq.m (by omega)).pk.o rfl rfl (Nat.le_of_ble_eq_true rfl) rfl (c_X4_isFull (hq.m (by omega)).pk (by decide) (hC.m (by omega)).k (by rw [List.length_map]; exact hN.b.1 m)) ?_
        refine P_bif_eq (tgt := 50) dX2_takesSpeech_45 (by decide) (fun c45 => ?_) (fun c45 => ?_)
        · exact absurd h2 (fun q => q ⟨by omega, by have := of_decide_eq_false c45; rw [List.length_map] at this; have := hN.b.1 m; omega⟩)
        · refine P_iconst (v := nI 0) dX2_takesSpeech_48 (by decide) ?_
          refine P_zret dX2_takesSpeech_49 rfl (by decide) ?_
          exact ⟨by rw [vb_f rfl], rfl⟩
    · exact absurd ⟨of_decide_eq_true c13, c4⟩ hh
set_option maxHeartbeats 4000000 in
set_option maxRecDepth 100000 in
theorem c_X2_enterNo {σ : vS} {v : vV} {c b : Nat} {S : mS} {m num cal set heard : Nat} (hq : kLC σ b) (hC : CR c v b S) {B : Nat} (hN : NB c S B) (hB : B < 1000000000) (hm : m < 6) (hnum : num < 2147483648) (hcal : cal < 2147483648) (hz : num < gM S m 6 ∨ num ≤ gM S m 2) : vC M_X2_enterRoll yX2_enterRoll [.ref (b + 6 + 13 * m), .int (nI (num)), .int (nI (cal)), .int (nI (set)), .int (nI (heard))] (σ, v) (qS σ none (kPo c v b S)) := by
  have hO : vOw v v b 84 := vOw.rf
  refine vC_of (ls := [some (.ref (b + 6 + 13 * m)), some (.int (nI (num))), some (.int (nI (cal))), some (.int (nI (set))), some (.int (nI (heard)))]) pn_X2 rfl rfl (Nat.le_of_ble_eq_true rfl) rfl ?_
  refine P_iload_n dX2_enterRoll_0 rfl rfl ?_
  refine P_aload_n dX2_enterRoll_1 rfl rfl ?_
  refine P_getiN (x := nI (gM S m 6)) dX2_enterRoll_2 kX2 fX2_48 rfl (by decide) (hq.m (by omega)).o ((hC.m (by omega)).w (by decide)) ?_
  refine P_icmp_ltN (tgt := 16) dX2_enterRoll_5 (by decide) (by first | omega | (have := hN.m6 m; have := hN.m2 m; omega)) (by first | omega | (have := hN.m6 m; have := hN.m2 m; omega)) (fun c5 => ?_) (fun c5 => ?_)
  · refine P_vret dX2_enterRoll_16 rfl ?_
    exact q_s rfl ⟨hC, hO⟩
  · refine P_iload_n dX2_enterRoll_8 rfl rfl ?_
    refine P_aload_n dX2_enterRoll_9 rfl rfl ?_
    refine P_getiN (x := nI (gM S m 2)) dX2_enterRoll_10 kX2 fX2_42 rfl (by decide) (hq.m (by omega)).o ((hC.m (by omega)).w (by decide)) ?_
    refine P_icmp_gtN (tgt := 17) dX2_enterRoll_13 (by decide) (by first | omega | (have := hN.m6 m; have := hN.m2 m; omega)) (by first | omega | (have := hN.m6 m; have := hN.m2 m; omega)) (fun c13 => ?_) (fun c13 => ?_)
    · exact absurd hz (by omega)
    · refine P_vret dX2_enterRoll_16 rfl ?_
      exact q_s rfl ⟨hC, hO⟩
set_option maxHeartbeats 4000000 in
set_option maxRecDepth 100000 in
theorem c_X2_enterYes {σ : vS} {v : vV} {c b : Nat} {S : mS} {m num cal set heard : Nat} (hq : kLC σ b) (hC : CR c v b S) {B : Nat} (hN : NB c S B) (hB : B < 1000000000) (hm : m < 6) (hnum : num < 2147483648) (hcal : cal < 2147483648) (hz : ¬ (num < gM S m 6 ∨ num ≤ gM S m 2)) : vC M_X2_enterRoll yX2_enterRoll [.ref (b + 6 + 13 * m), .int (nI (num)), .int (nI (cal)), .int (nI (set)), .int (nI (heard))] (σ, v) (qS σ none (kPo c v b (menterC S m num cal set heard))) := by
  have hO : vOw v v b 84 := vOw.rf
  refine vC_of (ls := [some (.ref (b + 6 + 13 * m)), some (.int (nI (num))), some (.int (nI (cal))), some (.int (nI (set))), some (.int (nI (heard)))]) pn_X2 rfl rfl (Nat.le_of_ble_eq_true rfl) rfl ?_
  refine P_iload_n dX2_enterRoll_0 rfl rfl ?_
  refine P_aload_n dX2_enterRoll_1 rfl rfl ?_
  refine P_getiN (x := nI (gM S m 6)) dX2_enterRoll_2 kX2 fX2_48 rfl (by decide) (hq.m (by omega)).o ((hC.m (by omega)).w (by decide)) ?_
  refine P_icmp_ltN (tgt := 16) dX2_enterRoll_5 (by decide) (by first | omega | (have := hN.m6 m; have := hN.m2 m; omega)) (by first | omega | (have := hN.m6 m; have := hN.m2 m; omega)) (fun c5 => ?_) (fun c5 => ?_)
  · exact absurd (Or.inl c5) hz
  · refine P_iload_n dX2_enterRoll_8 rfl rfl ?_
    refine P_aload_n dX2_enterRoll_9 rfl rfl ?_
    refine P_getiN (x := nI (gM S m 2)) dX2_enterRoll_10 kX2 fX2_42 rfl (by decide) (hq.m (by omega)).o ((hC.m (by omega)).w (by decide)) ?_
    refine P_icmp_gtN (tgt := 17) dX2_enterRoll_13 (by decide) (by first | omega | (have := hN.m6 m; have := hN.m2 m; omega)) (by first | omega | (have := hN.m6 m; have := hN.m2 m; omega)) (fun c13 => ?_) (fun c13 => ?_)
    · refine P_aload_n dX2_enterRoll_17 rfl rfl ?_
      refine P_getr (t := b + 6 + 13 * m + 9) dX2_enterRoll_18 kX2 fX2_23 rfl (by decide) (hq.m (by omega)).o (hq.m (by omega)).c15 (hq.m (by omega)).ps.o.1.2 ?_
      refine P_aload_n dX2_enterRoll_21 rfl rfl ?_
      refine P_getiN (x := nI (gM S m 2)) dX2_enterRoll_22 kX2 fX2_42 rfl (by decide) (hq.m (by omega)).o ((hC.m (by omega)).w (by decide)) ?_
      refine P_aload_n dX2_enterRoll_25 rfl rfl ?_
      refine P_getiN (x := nI (gM S m 3)) dX2_enterRoll_26 kX2 fX2_30 rfl (by decide) (hq.m (by omega)).o ((hC.m (by omega)).w (by decide)) ?_
      refine P_iload dX2_enterRoll_29 rfl ?_
      refine P_cVs (rest := []) (As := [.int (nI (gM S m 2)), .int (nI (gM S m 3)), .int (nI (heard))]) dX2_enterRoll_31 lX2_88 yk_X4_add yv_X4_add kX4 rfl (by decide) (hq.m (by omega)).ps.o rfl rfl (Nat.le_of_ble_eq_true rfl) rfl (c_X4_add (hq.m (by omega)).ps (by decide) (hC.m (by omega)).h (hN.b.2.1 m) (by decide)) (fun v1 h1 => ?_)
      have hC1 : CR c v1 b (mover S m heard) := hC.H (by omega) h1.2 h1.1 (by rw [List.length_append]; show _ + 1 ≤ 5; have := hN.b.2.1 m; split <;> first | omega | (rw [List.length_drop]; omega))
      have hO1 := hO.tr (h1.2.mono (r2 := b) (w2 := 84) (by omega) (by omega))
      refine P_aload_n dX2_enterRoll_34 rfl rfl ?_
      refine P_cVs (rest := []) (As := []) dX2_enterRoll_35 lX2_78 yk_X2_stopCall yv_X2_stopCall kX2 rfl (by decide) (hq.m (by omega)).o rfl rfl (Nat.le_of_ble_eq_true rfl) rfl (c_X2_stopCall hq hC1 (by omega)) (fun v3 ⟨hC1, hO2⟩ => ?_)
      replace hO2 := hO1.tr hO2
      refine P_aload_n dX2_enterRoll_38 rfl rfl ?_
      refine P_iconst (v := nI 0) dX2_enterRoll_39 (by decide) ?_
      refine P_puti dX2_enterRoll_40 kX2 fX2_39 rfl (by decide) rfl (hq.m (by omega)).o ?_
      have hC4 : CR c (vU v3 (b + 6 + 13 * m) 2 (nI (0))) b (sM (mnone (mover S m heard) m) m 1 0) := (hC1.M (w := 1) (x := 0) (by omega) (by decide))
      have hO5 : vOw v (vU v3 (b + 6 + 13 * m) 2 (nI (0))) b 84 := hO2.u (by omega) (by omega)
      generalize vU v3 (b + 6 + 13 * m) 2 (nI (0)) = v6 at hC4 hO5 ⊢
      refine P_aload_n dX2_enterRoll_43 rfl rfl ?_
      refine P_iload_n dX2_enterRoll_44 rfl rfl ?_
      refine P_puti dX2_enterRoll_45 kX2 fX2_42 rfl (by decide) rfl (hq.m (by omega)).o ?_
      have hC7 : CR c (vU v6 (b + 6 + 13 * m) 3 (nI (num))) b (sM (sM (mnone (mover S m heard) m) m 1 0) m 2 num) := (hC4.M (w := 2) (x := num) (by omega) (by decide))
      have hO8 : vOw v (vU v6 (b + 6 + 13 * m) 3 (nI (num))) b 84 := hO5.u (by omega) (by omega)
      generalize vU v6 (b + 6 + 13 * m) 3 (nI (num)) = v9 at hC7 hO8 ⊢
      refine P_aload_n dX2_enterRoll_48 rfl rfl ?_
      refine P_iload_n dX2_enterRoll_49 rfl rfl ?_
      refine P_puti dX2_enterRoll_50 kX2 fX2_30 rfl (by decide) rfl (hq.m (by omega)).o ?_
      have hC10 : CR c (vU v9 (b + 6 + 13 * m) 4 (nI (cal))) b (sM (sM (sM (mnone (mover S m heard) m) m 1 0) m 2 num) m 3 cal) := (hC7.M (w := 3) (x := cal) (by omega) (by decide))
      have hO11 : vOw v (vU v9 (b + 6 + 13 * m) 4 (nI (cal))) b 84 := hO8.u (by omega) (by omega)
      generalize vU v9 (b + 6 + 13 * m) 4 (nI (cal)) = v12 at hC10 hO11 ⊢
      refine P_aload_n dX2_enterRoll_53 rfl rfl ?_
      refine P_iload_n dX2_enterRoll_54 rfl rfl ?_
      refine P_puti dX2_enterRoll_55 kX2 fX2_33 rfl (by decide) rfl (hq.m (by omega)).o ?_
      have hC13 : CR c (vU v12 (b + 6 + 13 * m) 5 (nI (set))) b (sM (sM (sM (sM (mnone (mover S m heard) m) m 1 0) m 2 num) m 3 cal) m 4 set) := (hC10.M (w := 4) (x := set) (by omega) (by decide))
      have hO14 : vOw v (vU v12 (b + 6 + 13 * m) 5 (nI (set))) b 84 := hO11.u (by omega) (by omega)
      generalize vU v12 (b + 6 + 13 * m) 5 (nI (set)) = v15 at hC13 hO14 ⊢
      refine P_aload_n dX2_enterRoll_58 rfl rfl ?_
      refine P_iconst (v := nI 0) dX2_enterRoll_59 (by decide) ?_
      refine P_puti dX2_enterRoll_60 kX2 fX2_51 rfl (by decide) rfl (hq.m (by omega)).o ?_
      have hC16 : CR c (vU v15 (b + 6 + 13 * m) 8 (nI (0))) b (sM (sM (sM (sM (sM (mnone (mover S m heard) m) m 1 0) m 2 num) m 3 cal) m 4 set) m 7 0) := (hC13.M (w := 7) (x := 0) (by omega) (by decide))
      have hO17 : vOw v (vU v15 (b + 6 + 13 * m) 8 (nI (0))) b 84 := hO14.u (by omega) (by omega)
      generalize vU v15 (b + 6 + 13 * m) 8 (nI (0)) = v18 at hC16 hO17 ⊢
      refine P_aload_n dX2_enterRoll_63 rfl rfl ?_
      refine P_aload_n dX2_enterRoll_64 rfl rfl ?_
      refine P_getr (t := b + 6 + 13 * m + 5) dX2_enterRoll_65 kX2 fX2_20 rfl (by decide) (hq.m (by omega)).o (hq.m (by omega)).c14 (hq.m (by omega)).pk.o.1.2 ?_
      refine P_iload_n dX2_enterRoll_68 rfl rfl ?_
      refine P_iload_n dX2_enterRoll_69 rfl rfl ?_
      refine P_cVs (rest := [.ref (b + 6 + 13 * m)]) (As := [.int (nI (num)), .int (nI (cal))]) dX2_enterRoll_70 lX2_92 yk_X4_takeUpTo yv_X4_takeUpTo kX4 rfl (by decide) (hq.m (by omega)).pk.o rfl rfl (Nat.le_of_ble_eq_true rfl) rfl (c_X4_takeUpTo (l := (gK S m).map kq) (hq.m (by omega)).pk (by decide) (hC16.m (by omega)).k (by rw [List.length_map]; exact hN.b.1 m) (kq_b hN hB) hnum hcal) (fun v19 e22 => ?_)
      have hO21 := hO17
      have hC20 : CR c v19 b (sK (sM (sM (sM (sM (sM (mnone (mover S m heard) m) m 1 0) m 2 num) m 3 cal) m 4 set) m 7 0) m ((gK S m).filter (fun t => decide (num < t.1)))) := CR.K hC16 (by omega) e22.2 (by rw [← fil_map]; exact e22.1) (Nat.le_trans (List.length_filter_le _ _) (hN.b.1 m))
      replace hO21 := hO17.tr (e22.2.mono (r2 := b) (w2 := 84) (by omega) (by omega))
      rw [mtk_map]
      refine P_puti dX2_enterRoll_73 kX2 fX2_45 rfl (by decide) rfl (hq.m (by omega)).o ?_
      have hC23 : CR c (vU v19 (b + 6 + 13 * m) 6 (nI (mor num cal (gK S m) 0))) b (sM (sK (sM (sM (sM (sM (sM (mnone (mover S m heard) m) m 1 0) m 2 num) m 3 cal) m 4 set) m 7 0) m ((gK S m).filter (fun t => decide (num < t.1)))) m 5 (mor num cal (gK S m) 0)) := (hC20.M (w := 5) (x := mor num cal (gK S m) 0) (by omega) (by decide))
      have hO24 : vOw v (vU v19 (b + 6 + 13 * m) 6 (nI (mor num cal (gK S m) 0))) b 84 := hO21.u (by omega) (by omega)
      generalize vU v19 (b + 6 + 13 * m) 6 (nI (mor num cal (gK S m) 0)) = v25 at hC23 hO24 ⊢
      refine P_vret dX2_enterRoll_76 rfl ?_
      exact q_s rfl ⟨hC23.cg (menterC_e hz), hO24⟩
    · exact absurd (Or.inr (by omega)) hz
set_option maxHeartbeats 4000000 in
set_option maxRecDepth 100000 in
theorem c_X2_goAway {σ : vS} {v : vV} {c b : Nat} {S : mS} {m : Nat} (hq : kLC σ b) (hC : CR c v b S) (hm : m < 6) : vC M_X2_goAway yX2_goAway [.ref (b + 6 + 13 * m)] (σ, v) (qS σ none (kPo c v b (mleave S m))) := by
  have hO : vOw v v b 84 := vOw.rf
  refine vC_of (ls := [some (.ref (b + 6 + 13 * m))]) pn_X2 rfl rfl (Nat.le_of_ble_eq_true rfl) rfl ?_
  refine P_aload_n dX2_goAway_0 rfl rfl ?_
  refine P_iconst (v := nI 2) dX2_goAway_1 (by decide) ?_
  refine P_puti dX2_goAway_2 kX2 fX2_39 rfl (by decide) rfl (hq.m (by omega)).o ?_
  have hC1 : CR c (vU v (b + 6 + 13 * m) 2 (nI (2))) b (sM S m 1 2) := (hC.M (w := 1) (x := 2) (by omega) (by decide))
  have hO2 : vOw v (vU v (b + 6 + 13 * m) 2 (nI (2))) b 84 := hO.u (by omega) (by omega)
  generalize vU v (b + 6 + 13 * m) 2 (nI (2)) = v3 at hC1 hO2 ⊢
  refine P_aload_n dX2_goAway_5 rfl rfl ?_
  refine P_cVs (rest := []) (As := []) dX2_goAway_6 lX2_78 yk_X2_stopCall yv_X2_stopCall kX2 rfl (by decide) (hq.m (by omega)).o rfl rfl (Nat.le_of_ble_eq_true rfl) rfl (c_X2_stopCall hq hC1 (by omega)) (fun v6 ⟨hC4, hO5⟩ => ?_)
  replace hO5 := hO2.tr hO5
  refine P_aload_n dX2_goAway_9 rfl rfl ?_
  refine P_getr (t := b + 6 + 13 * m + 5) dX2_goAway_10 kX2 fX2_20 rfl (by decide) (hq.m (by omega)).o (hq.m (by omega)).c14 (hq.m (by omega)).pk.o.1.2 ?_
  refine P_iconst (v := nI 0) dX2_goAway_13 (by decide) ?_
  refine P_puti dX2_goAway_14 kX4 fX2_96 rfl (by decide) rfl (hq.m (by omega)).pk.o ?_
  have hC7 : CR c (vU v6 (b + 6 + 13 * m + 5) 3 (nI 0)) b (mleave S m) := hC4.K (l := []) (by omega) (vOw.rf.u (by omega) (by omega)) ⟨vU_s, fun k t q => by simp at q⟩ (Nat.zero_le _)
  have hO8 : vOw v (vU v6 (b + 6 + 13 * m + 5) 3 (nI 0)) b 84 := hO5.u (by omega) (by omega)
  generalize vU v6 (b + 6 + 13 * m + 5) 3 (nI 0) = v9 at hC7 hO8 ⊢
  refine P_vret dX2_goAway_17 rfl ?_
  exact q_s rfl ⟨hC7, hO8⟩
set_option maxHeartbeats 4000000 in
set_option maxRecDepth 100000 in
theorem c_X2_comeBack {σ : vS} {v : vV} {c b : Nat} {S : mS} {m : Nat} (hq : kLC σ b) (hC : CR c v b S) {B : Nat} (hN : NB c S B) (hB : B + 1 < 1000000000) (hm : m < 6) (hk : gK S m = []) (h8 : gM S m 8 = 0) (h9 : gM S m 9 = 0) (h10 : gM S m 10 = 0) (h2 : gM S m 2 ≤ gM S m 6) : vC M_X2_comeBack yX2_comeBack [.ref (b + 6 + 13 * m)] (σ, v) (qS σ none (kPo c v b (mback S m))) := by
  have hO : vOw v v b 84 := vOw.rf
  refine vC_of (ls := [some (.ref (b + 6 + 13 * m))]) pn_X2 rfl rfl (Nat.le_of_ble_eq_true rfl) rfl ?_
  refine P_aload_n dX2_comeBack_0 rfl rfl ?_
  refine P_dup dX2_comeBack_1 rfl ?_
  refine P_getiN (x := nI (gM S m 6)) dX2_comeBack_2 kX2 fX2_48 rfl (by decide) (hq.m (by omega)).o ((hC.m (by omega)).w (by decide)) ?_
  refine P_iconst (v := nI 1) dX2_comeBack_5 (by decide) ?_
  refine P_iaddN dX2_comeBack_6 ?_
  refine P_puti dX2_comeBack_7 kX2 fX2_48 rfl (by decide) rfl (hq.m (by omega)).o ?_
  have hC1 : CR c (vU v (b + 6 + 13 * m) 7 (nI (gM S m 6 + 1))) b (sM S m 6 (gM S m 6 + 1)) := (hC.M (w := 6) (x := gM S m 6 + 1) (by omega) (by decide))
  have hO2 : vOw v (vU v (b + 6 + 13 * m) 7 (nI (gM S m 6 + 1))) b 84 := hO.u (by omega) (by omega)
  generalize vU v (b + 6 + 13 * m) 7 (nI (gM S m 6 + 1)) = v3 at hC1 hO2 ⊢
  refine P_aload_n dX2_comeBack_10 rfl rfl ?_
  refine P_aload_n dX2_comeBack_11 rfl rfl ?_
  refine P_getiN (x := nI (gM S m 6 + 1)) dX2_comeBack_12 kX2 fX2_48 rfl (by decide) (hq.m (by omega)).o (((hC1.m (by omega)).w (w := 6) (by decide)).trans (congrArg nI (by simp [sM, gM]))) ?_
  refine P_aload_n dX2_comeBack_15 rfl rfl ?_
  refine P_getiN (x := nI (m)) dX2_comeBack_16 kX2 fX2_26 rfl (by decide) (hq.m (by omega)).o (hC1.m (by omega)).s ?_
  refine P_iconst (v := nI 1) dX2_comeBack_19 (by decide) ?_
  refine P_aload_n dX2_comeBack_20 rfl rfl ?_
  refine P_getiN (x := nI (m)) dX2_comeBack_21 kX2 fX2_26 rfl (by decide) (hq.m (by omega)).o (hC1.m (by omega)).s ?_
  refine P_ishlN dX2_comeBack_24 (by omega) ?_
  refine P_aload_n dX2_comeBack_25 rfl rfl ?_
  refine P_getiN (x := nI (gM S m 5)) dX2_comeBack_26 kX2 fX2_45 rfl (by decide) (hq.m (by omega)).o (((hC1.m (by omega)).w (w := 5) (by decide)).trans (congrArg nI (by simp [sM, gM]))) ?_
  refine P_cVs (rest := []) (As := [.int (nI (gM S m 6 + 1)), .int (nI (m)), .int (nI (1 <<< m)), .int (nI (gM S m 5))]) dX2_comeBack_29 lX2_99 yk_X2_enterRoll yv_X2_enterRoll kX2 rfl (by decide) (hq.m (by omega)).o rfl rfl (Nat.le_of_ble_eq_true rfl) rfl (c_X2_enterYes hq hC1 (B := B + 1) (NB.M (hN.up (Nat.le_succ B)) (fun _ => by show _ ≤ _; have := hN.m6 m; omega)) (by omega) (by omega) (by have := hN.m6 m; omega) (by omega) (by rw [sM_at, if_pos rfl, sM_at, if_neg (by omega)]; omega)) (fun v9 ⟨hC1, hO1⟩ => ?_)
  replace hO1 := hO2.tr hO1
  refine P_vret dX2_comeBack_32 rfl ?_
  exact q_s rfl ⟨hC1.cg (mback_e hk h8 h9 h10 h2), hO1⟩
