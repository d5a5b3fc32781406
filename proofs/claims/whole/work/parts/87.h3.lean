
theorem loop_c {L i : Nat} (hL : L ≤ 2048) (hi : i ≤ L) (h : ¬ nI L - nI 4 < nI i) : i + 4 ≤ L := by
  rw [i_lt, nI_toInt (by omega)] at h
  by_cases q : L < 4
  · have h9 : ∀ L, L < 4 → (nI L - nI 4).toInt = (L : Int) - 4 := by decide
    rw [h9 L q] at h
    omega
  · rw [nI_sub (by omega), nI_toInt (by omega)] at h
    omega
theorem and31 (x : Int32) : ∃ j, j < 32 ∧ x &&& nI 31 = nI j := by
  have h : (x &&& nI 31).toBitVec.toNat < 32 := by
    rw [Int32.toBitVec_and, BitVec.toNat_and]
    exact Nat.lt_of_le_of_lt Nat.and_le_right (by decide)
  refine ⟨(x &&& nI 31).toBitVec.toNat, h, ?_⟩
  apply nI_ext
  rw [nI_bv, BitVec.toNat_ofNat, Nat.mod_eq_of_lt (by omega)]
set_option maxHeartbeats 4000000 in
set_option maxRecDepth 100000 in
theorem law_loop {σ : vS} {v : vV} {a L : Nat} {xs : Nat → Int32} (hT : kLT σ 0) (hq : LR σ 1603) (hf : σ.2.2.2 = false) (ho : vK σ 1611 12 1) (hL : L ≤ 2048) (hK0 : KT v 0 gT0) (hR00 : RT v 1603 gT0) (hG0 : GI 8400100 gT0) : vG (kZl a L xs) M_L_law 23 [some (.ref (a + 1000000)), some (.ref (0)), some (.ref (1603)), some (.ref (1611)), some (.int (nI (0))), none, none] [] (4 * 513, 24 * 513) (σ, v) (vN (fun o μ' => o = some (.int (nI 1)))) := by
  have hZ : ∀ s args c hz, kZl a L xs s args c hz → a < hz ∧ va_X a L xs s s.heap := fun _ _ _ _ z9 => ⟨z9.1, z9.2.1⟩
  have hL23 : ∀ (n23 : Nat) (i B : Nat) (v0 : vV) (T : gT), (i ≤ L) → (L + 4 ≤ i + 4 * n23) → (KT v0 0 T) → (RT v0 1603 T) → (GI B T) → (8400100 ≤ B) → (B + 70000 * n23 ≤ 100000000) → vG (kZl a L xs) M_L_law 23 [some (.ref (a + 1000000)), some (.ref (0)), some (.ref (1603)), some (.ref (1611)), some (.int (nI (i))), none, none] [] (4 * n23, 24 * n23) (σ, v0) (vN (fun o μ' => o = some (.int (nI 1)))) := by
    intro n23
    induction n23 with
    | zero =>
      intro i B v0 T hil h2 hK hR0 hG hB1 hB2
      exact absurd h2 (by omega)
    | succ n23 ih23 =>
      intro i B v0 T hil h2 hK hR0 hG hB1 hB2
      refine G_iload dL_law_23 rfl ?_
      refine G_aload_n dL_law_25 rfl rfl ?_
      refine G_slen hZ dL_law_26 ?_
      refine G_iconst (v := nI 4) dL_law_27 (by decide) ?_
      refine G_isub dL_law_28 ?_
      refine G_icmp_gt (tgt := 1713) dL_law_29 (by decide) (fun c29 => ?_) (fun c29 => ?_)
      · refine G_iconst (v := nI 1) dL_law_1713 (by decide) ?_
        refine G_zret dL_law_1714 rfl (by decide) ?_
        exact rfl
      · have hi : i + 4 ≤ L := loop_c hL hil c29
        obtain ⟨⟨t, n⟩, ⟨c, S⟩, D, sl⟩ := T
        have hJ : ∀ (v9 : vV) (T9 : gT), KT v9 0 T9 → RT v9 1603 T9 → GI (B + 70000) T9 → vG (kZl a L xs) M_L_law 1707 [some (.ref (a + 1000000)), some (.ref (0)), some (.ref (1603)), some (.ref (1611)), some (.int (nI (i))), none, none] [] ((4 * (n23 + 1), 24 * (n23 + 1)).1 - 4, (4 * (n23 + 1), 24 * (n23 + 1)).2 - 24) (σ, v9) (vN (fun o μ' => o = some (.int (nI 1)))) := by
          intro v9 T9 hK9 hR9 hG9
          refine G_iinc (v := nI (i + 4)) (ls2 := [some (.ref (a + 1000000)), some (.ref (0)), some (.ref (1603)), some (.ref (1611)), some (.int (nI (i + 4))), none, none]) dL_law_1707 rfl (nI_inc _ 4) (by decide) rfl ?_
          refine G_goto (tgt := 23) dL_law_1710 (by decide) ?_
          refine G_bud (b2 := (4 * n23, 24 * n23)) ⟨by show 4 * n23 ≤ 4 * (n23 + 1) - 4; omega, by show 24 * n23 ≤ 24 * (n23 + 1) - 24; omega⟩ ?_
          have e1 : 8400100 ≤ B + 70000 := Nat.le_trans hB1 (Nat.le_add_right _ _)
          have e2 : B + 70000 + 70000 * n23 ≤ 100000000 := by rw [Nat.mul_succ] at hB2; omega
          have e3 : L + 4 ≤ i + 4 + 4 * n23 := by omega
          exact ih23 (i + 4) (B + 70000) v9 T9 hi e3 hK9 hR9 hG9 e1 e2
        refine G_aload_n dL_law_32 rfl rfl ?_
        refine G_iload dL_law_33 rfl ?_
        refine G_sld (i) hZ dL_law_35 rfl (by omega) (by omega) ?_
        refine G_bipush (v := nI 31) dL_law_36 (by decide) ?_
        refine G_iand dL_law_38 ?_
        obtain ⟨j, hj, ej⟩ := and31 (xs i)
        rw [ej]
        rcases vsw (j) 0 25 (by omega) (by decide) with c39 | ⟨c39_j, c39_b, c39⟩
        · refine G_tswOut (tgt := 1707) dL_law_39 (vsw_out (by omega) c39) (by decide) ?_
          refine G_bud (b2 := ((4 * (n23 + 1), 24 * (n23 + 1)).1 - 4, (4 * (n23 + 1), 24 * (n23 + 1)).2 - 24)) ⟨Nat.sub_le _ _, Nat.sub_le _ _⟩ ?_
          exact hJ v0 _ hK hR0 (hG.up (by omega))
        · rcases (by omega : c39_j = 0 ∨ c39_j = 1 ∨ c39_j = 2 ∨ c39_j = 3 ∨ c39_j = 4 ∨ c39_j = 5 ∨ c39_j = 6 ∨ c39_j = 7 ∨ c39_j = 8 ∨ c39_j = 9 ∨ c39_j = 10 ∨ c39_j = 11 ∨ c39_j = 12 ∨ c39_j = 13 ∨ c39_j = 14 ∨ c39_j = 15 ∨ c39_j = 16 ∨ c39_j = 17 ∨ c39_j = 18 ∨ c39_j = 19 ∨ c39_j = 20 ∨ c39_j = 21 ∨ c39_j = 22 ∨ c39_j = 23 ∨ c39_j = 24 ∨ c39_j = 25) with q39 | q39 | q39 | q39 | q39 | q39 | q39 | q39 | q39 | q39 | q39 | q39 | q39 | q39 | q39 | q39 | q39 | q39 | q39 | q39 | q39 | q39 | q39 | q39 | q39 | q39
          · replace c39 : j = 0 := by omega
            refine G_tswIn (off := 117) (tgt := 156) dL_law_39 (by rw [vsw_int c39 (by decide)]; decide) (by rw [vsw_int c39 (by decide)]; decide) (by rw [vsw_int c39 (by decide)]; rfl) (by decide) ?_
            exact b_append hT hK hq hR0 hG hB1 (by omega) hf ho hi hL ⟨by show 4 ≤ 4 * (n23 + 1); omega, by show 24 ≤ 24 * (n23 + 1); omega⟩ hJ
          · replace c39 : j = 1 := by omega
            refine G_tswIn (off := 173) (tgt := 212) dL_law_39 (by rw [vsw_int c39 (by decide)]; decide) (by rw [vsw_int c39 (by decide)]; decide) (by rw [vsw_int c39 (by decide)]; rfl) (by decide) ?_
            exact b_clearText hT hK hq hR0 hG hB1 (by omega) hf ho hi hL ⟨by show 4 ≤ 4 * (n23 + 1); omega, by show 24 ≤ 24 * (n23 + 1); omega⟩ hJ
          · replace c39 : j = 2 := by omega
            refine G_tswIn (off := 186) (tgt := 225) dL_law_39 (by rw [vsw_int c39 (by decide)]; decide) (by rw [vsw_int c39 (by decide)]; decide) (by rw [vsw_int c39 (by decide)]; rfl) (by decide) ?_
            exact b_errorPosition hT hK hq hR0 hG hB1 (by omega) hf ho hi hL ⟨by show 4 ≤ 4 * (n23 + 1); omega, by show 24 ≤ 24 * (n23 + 1); omega⟩ hJ
          · replace c39 : j = 3 := by omega
            refine G_tswIn (off := 199) (tgt := 238) dL_law_39 (by rw [vsw_int c39 (by decide)]; decide) (by rw [vsw_int c39 (by decide)]; decide) (by rw [vsw_int c39 (by decide)]; rfl) (by decide) ?_
            exact b_load hT hK hq hR0 hG hB1 (by omega) hf ho hi hL ⟨by show 4 ≤ 4 * (n23 + 1); omega, by show 24 ≤ 24 * (n23 + 1); omega⟩ hJ
          · replace c39 : j = 4 := by omega
            refine G_tswIn (off := 243) (tgt := 282) dL_law_39 (by rw [vsw_int c39 (by decide)]; decide) (by rw [vsw_int c39 (by decide)]; decide) (by rw [vsw_int c39 (by decide)]; rfl) (by decide) ?_
            exact b_about hT hK hq hR0 hG hB1 (by omega) hf ho hi hL ⟨by show 4 ≤ 4 * (n23 + 1); omega, by show 24 ≤ 24 * (n23 + 1); omega⟩ hJ
          · replace c39 : j = 5 := by omega
            refine G_tswIn (off := 299) (tgt := 338) dL_law_39 (by rw [vsw_int c39 (by decide)]; decide) (by rw [vsw_int c39 (by decide)]; decide) (by rw [vsw_int c39 (by decide)]; rfl) (by decide) ?_
            exact b_memberOf hT hK hq hR0 hG hB1 (by omega) hf ho hi hL ⟨by show 4 ≤ 4 * (n23 + 1); omega, by show 24 ≤ 24 * (n23 + 1); omega⟩ hJ
          · replace c39 : j = 6 := by omega
            refine G_tswIn (off := 367) (tgt := 406) dL_law_39 (by rw [vsw_int c39 (by decide)]; decide) (by rw [vsw_int c39 (by decide)]; decide) (by rw [vsw_int c39 (by decide)]; rfl) (by decide) ?_
            exact b_session hT hK hq hR0 hG hB1 (by omega) hf ho hi hL ⟨by show 4 ≤ 4 * (n23 + 1); omega, by show 24 ≤ 24 * (n23 + 1); omega⟩ hJ
          · replace c39 : j = 7 := by omega
            refine G_tswIn (off := 447) (tgt := 486) dL_law_39 (by rw [vsw_int c39 (by decide)]; decide) (by rw [vsw_int c39 (by decide)]; decide) (by rw [vsw_int c39 (by decide)]; rfl) (by decide) ?_
            exact b_note hT hK hq hR0 hG hB1 (by omega) hf ho hi hL ⟨by show 4 ≤ 4 * (n23 + 1); omega, by show 24 ≤ 24 * (n23 + 1); omega⟩ hJ
          · replace c39 : j = 8 := by omega
            refine G_tswIn (off := 515) (tgt := 554) dL_law_39 (by rw [vsw_int c39 (by decide)]; decide) (by rw [vsw_int c39 (by decide)]; decide) (by rw [vsw_int c39 (by decide)]; rfl) (by decide) ?_
            exact b_isCut hT hK hq hR0 hG hB1 (by omega) hf ho hi hL ⟨by show 4 ≤ 4 * (n23 + 1); omega, by show 24 ≤ 24 * (n23 + 1); omega⟩ hJ
          · replace c39 : j = 9 := by omega
            refine G_tswIn (off := 583) (tgt := 622) dL_law_39 (by rw [vsw_int c39 (by decide)]; decide) (by rw [vsw_int c39 (by decide)]; decide) (by rw [vsw_int c39 (by decide)]; rfl) (by decide) ?_
            exact b_member hT hK hq hR0 hG hB1 (by omega) hf ho hi hL ⟨by show 4 ≤ 4 * (n23 + 1); omega, by show 24 ≤ 24 * (n23 + 1); omega⟩ hJ
          · replace c39 : j = 10 := by omega
            refine G_tswIn (off := 639) (tgt := 678) dL_law_39 (by rw [vsw_int c39 (by decide)]; decide) (by rw [vsw_int c39 (by decide)]; decide) (by rw [vsw_int c39 (by decide)]; rfl) (by decide) ?_
            exact b_say hT hK hq hR0 hG hB1 (by omega) hf ho hi hL ⟨by show 4 ≤ 4 * (n23 + 1); omega, by show 24 ≤ 24 * (n23 + 1); omega⟩ hJ
          · replace c39 : j = 11 := by omega
            refine G_tswIn (off := 695) (tgt := 734) dL_law_39 (by rw [vsw_int c39 (by decide)]; decide) (by rw [vsw_int c39 (by decide)]; decide) (by rw [vsw_int c39 (by decide)]; rfl) (by decide) ?_
            exact b_call hT hK hq hR0 hG hB1 (by omega) hf ho hi hL ⟨by show 4 ≤ 4 * (n23 + 1); omega, by show 24 ≤ 24 * (n23 + 1); omega⟩ hJ
          · replace c39 : j = 12 := by omega
            refine G_tswIn (off := 763) (tgt := 802) dL_law_39 (by rw [vsw_int c39 (by decide)]; decide) (by rw [vsw_int c39 (by decide)]; decide) (by rw [vsw_int c39 (by decide)]; rfl) (by decide) ?_
            exact b_cut hT hK hq hR0 hG hB1 (by omega) hf ho hi hL ⟨by show 4 ≤ 4 * (n23 + 1); omega, by show 24 ≤ 24 * (n23 + 1); omega⟩ hJ
          · replace c39 : j = 13 := by omega
            refine G_tswIn (off := 859) (tgt := 898) dL_law_39 (by rw [vsw_int c39 (by decide)]; decide) (by rw [vsw_int c39 (by decide)]; decide) (by rw [vsw_int c39 (by decide)]; rfl) (by decide) ?_
            exact b_leave hT hK hq hR0 hG hB1 (by omega) hf ho hi hL ⟨by show 4 ≤ 4 * (n23 + 1); omega, by show 24 ≤ 24 * (n23 + 1); omega⟩ hJ
          · replace c39 : j = 14 := by omega
            refine G_tswIn (off := 915) (tgt := 954) dL_law_39 (by rw [vsw_int c39 (by decide)]; decide) (by rw [vsw_int c39 (by decide)]; decide) (by rw [vsw_int c39 (by decide)]; rfl) (by decide) ?_
            exact b_back hT hK hq hR0 hG hB1 (by omega) hf ho hi hL ⟨by show 4 ≤ 4 * (n23 + 1); omega, by show 24 ≤ 24 * (n23 + 1); omega⟩ hJ
          · replace c39 : j = 15 := by omega
            refine G_tswIn (off := 971) (tgt := 1010) dL_law_39 (by rw [vsw_int c39 (by decide)]; decide) (by rw [vsw_int c39 (by decide)]; decide) (by rw [vsw_int c39 (by decide)]; rfl) (by decide) ?_
            exact b_set hT hK hq hR0 hG hB1 (by omega) hf ho hi hL ⟨by show 4 ≤ 4 * (n23 + 1); omega, by show 24 ≤ 24 * (n23 + 1); omega⟩ hJ
          · replace c39 : j = 16 := by omega
            refine G_tswIn (off := 1027) (tgt := 1066) dL_law_39 (by rw [vsw_int c39 (by decide)]; decide) (by rw [vsw_int c39 (by decide)]; decide) (by rw [vsw_int c39 (by decide)]; rfl) (by decide) ?_
            exact b_ticks hT hK hq hR0 hG hB1 (by omega) hf ho hi hL ⟨by show 4 ≤ 4 * (n23 + 1); omega, by show 24 ≤ 24 * (n23 + 1); omega⟩ hJ
          · replace c39 : j = 17 := by omega
            refine G_tswIn (off := 1083) (tgt := 1122) dL_law_39 (by rw [vsw_int c39 (by decide)]; decide) (by rw [vsw_int c39 (by decide)]; decide) (by rw [vsw_int c39 (by decide)]; rfl) (by decide) ?_
            exact b_undo hT hK hq hR0 hG hB1 (by omega) hf ho hi hL ⟨by show 4 ≤ 4 * (n23 + 1); omega, by show 24 ≤ 24 * (n23 + 1); omega⟩ hJ
          · replace c39 : j = 18 := by omega
            refine G_tswIn (off := 1127) (tgt := 1166) dL_law_39 (by rw [vsw_int c39 (by decide)]; decide) (by rw [vsw_int c39 (by decide)]; decide) (by rw [vsw_int c39 (by decide)]; rfl) (by decide) ?_
            exact b_standsIn hT hK hq hR0 hG hB1 (by omega) hf ho hi hL ⟨by show 4 ≤ 4 * (n23 + 1); omega, by show 24 ≤ 24 * (n23 + 1); omega⟩ hJ
          · replace c39 : j = 19 := by omega
            refine G_tswIn (off := 1207) (tgt := 1246) dL_law_39 (by rw [vsw_int c39 (by decide)]; decide) (by rw [vsw_int c39 (by decide)]; decide) (by rw [vsw_int c39 (by decide)]; rfl) (by decide) ?_
            exact b_compare hT hK hq hR0 hG hB1 (by omega) hf ho hi hL ⟨by show 4 ≤ 4 * (n23 + 1); omega, by show 24 ≤ 24 * (n23 + 1); omega⟩ hJ
          · replace c39 : j = 20 := by omega
            refine G_tswIn (off := 1287) (tgt := 1326) dL_law_39 (by rw [vsw_int c39 (by decide)]; decide) (by rw [vsw_int c39 (by decide)]; decide) (by rw [vsw_int c39 (by decide)]; rfl) (by decide) ?_
            exact b_lacks hT hK hq hR0 hG hB1 (by omega) hf ho hi hL ⟨by show 4 ≤ 4 * (n23 + 1); omega, by show 24 ≤ 24 * (n23 + 1); omega⟩ hJ
          · replace c39 : j = 21 := by omega
            refine G_tswIn (off := 1343) (tgt := 1382) dL_law_39 (by rw [vsw_int c39 (by decide)]; decide) (by rw [vsw_int c39 (by decide)]; decide) (by rw [vsw_int c39 (by decide)]; rfl) (by decide) ?_
            exact b_together hT hK hq hR0 hG hB1 (by omega) hf ho hi hL ⟨by show 4 ≤ 4 * (n23 + 1); omega, by show 24 ≤ 24 * (n23 + 1); omega⟩ hJ
          · replace c39 : j = 22 := by omega
            refine G_tswIn (off := 1356) (tgt := 1395) dL_law_39 (by rw [vsw_int c39 (by decide)]; decide) (by rw [vsw_int c39 (by decide)]; decide) (by rw [vsw_int c39 (by decide)]; rfl) (by decide) ?_
            exact b_runScript hT hK hq hR0 hG hB1 (by omega) hf ho hi hL ⟨by show 4 ≤ 4 * (n23 + 1); omega, by show 24 ≤ 24 * (n23 + 1); omega⟩ hJ
          · replace c39 : j = 23 := by omega
            refine G_tswIn (off := 1456) (tgt := 1495) dL_law_39 (by rw [vsw_int c39 (by decide)]; decide) (by rw [vsw_int c39 (by decide)]; decide) (by rw [vsw_int c39 (by decide)]; rfl) (by decide) ?_
            exact b_simulate hT hK hq hR0 hG hB1 (by omega) hf ho hi hL ⟨by show 4 ≤ 4 * (n23 + 1); omega, by show 24 ≤ 24 * (n23 + 1); omega⟩ hJ
          · replace c39 : j = 24 := by omega
            refine G_tswIn (off := 1556) (tgt := 1595) dL_law_39 (by rw [vsw_int c39 (by decide)]; decide) (by rw [vsw_int c39 (by decide)]; decide) (by rw [vsw_int c39 (by decide)]; rfl) (by decide) ?_
            exact b_save hT hK hq hR0 hG hB1 (by omega) hf ho hi hL ⟨by show 4 ≤ 4 * (n23 + 1); omega, by show 24 ≤ 24 * (n23 + 1); omega⟩ hJ
          · replace c39 : j = 25 := by omega
            refine G_tswIn (off := 1612) (tgt := 1651) dL_law_39 (by rw [vsw_int c39 (by decide)]; decide) (by rw [vsw_int c39 (by decide)]; decide) (by rw [vsw_int c39 (by decide)]; rfl) (by decide) ?_
            exact b_restore hT hK hq hR0 hG hB1 (by omega) hf ho hi hL ⟨by show 4 ≤ 4 * (n23 + 1); omega, by show 24 ≤ 24 * (n23 + 1); omega⟩ hJ
  exact hL23 513 0 8400100 v _ (Nat.zero_le _) (by omega) hK0 hR00 hG0 (Nat.le_refl _) (by omega)
