
/-! WHAT HOLDS IN EACH CLUB, walked -/
theorem mwho_lt {S : mS} {is : Nat} : ∀ n, n ≤ 6 → mwho S is n < 64 := by
  intro n
  induction n with
  | zero => intro _; show 0 < 64; decide
  | succ n ih =>
    intro hn
    rw [mwho]
    split
    · exact or6 (ih (by omega)) (sh6 (by omega))
    · rw [Nat.or_zero]; exact ih (by omega)
theorem cmp_lt {S : mS} (h : ∀ m, (gH S m).length ≤ 5) (a d w : Nat) : mcmp S a d w < 2147483648 := by
  have h1 := mcmpK_le (S := S) (a := a) (d := d) (w := w) (gH S a).length
  have h2 : (gH S a).length * (gH S d).length ≤ 5 * 5 := Nat.mul_le_mul (h a) (h d)
  unfold mcmp
  omega
set_option maxHeartbeats 8000000 in
set_option maxRecDepth 100000 in
theorem c_L_holds {σ : vS} {v : vV} {c b n : Nat} {S : mS} {t : mN} {D : List mC} {sl : Nat → Option mC} {x : Nat} (hx : x < 2147483648) (hc2 : 2 ≤ c) (hJ : IJ c S) (hT : kLT σ b) (hK : KT v b ((t, n), (c, S), D, sl)) {B : Nat} (hG : GI B ((t, n), (c, S), D, sl)) (hB : B + 6000000 < 1000000000) (hB2 : B ≤ 200000000) (hf : σ.2.2.2 = false)  : vCZ zN M_L_holds yL_holds [.ref (b), .int (nI (x))] (σ, v) (qC σ v b (nI 1, ((t, n), (c, S), D, sl))) := by
  have hN : NB c S B := hG.1.1
  have hI : Iv c 1 S := hG.1.2
  have hc6 := hN.c6
  have hl5 : ∀ m, (gH S m).length ≤ 5 := hN.b.2.1
  have hl12 : ∀ m, (gK S m).length ≤ 12 := hN.b.1
  have hl150 : (gN S).length ≤ 150 := hN.b.2.2
  have hv0 : RV v b ((t, n), (c, S), D, sl) v := ⟨hK, vOw.rf⟩
  refine vCZ_of (ls := [some (.ref (b)), some (.int (nI (x))), none, none, none, none, none, none, none, none, none, none, none, none, none, none, none, none, none]) pn_L rfl rfl (Nat.le_of_ble_eq_true rfl) rfl ?_
  refine G_bud (b2 := (4 * (2700 - 0), 24 * (2700 - 0))) (by decide) ?_
  refine G_aload_n dL_holds_0 rfl rfl ?_
  refine G_iconst (v := nI 2) dL_holds_1 (by decide) ?_
  refine G_iconst (v := nI 0) dL_holds_2 (by decide) ?_
  refine G_iconst (v := nI 0) dL_holds_3 (by decide) ?_
  refine G_iconst (v := nI 0) dL_holds_4 (by decide) ?_
  refine G_lc (E := 2700) (u := 0) (u2 := 1) (rest := []) zN_go dL_holds_5 lL_162 ⟨Nat.le_of_ble_eq_true rfl, Nat.le_of_ble_eq_true rfl⟩ (Nat.le_of_ble_eq_true rfl) hf ⟨by omega, rfl⟩ hv0.2 (r_about (by decide) hT hv0.1 hG hB hf) (fun v1 rv2 => ?_)
  refine G_top (y := nI (c)) rfl ?_
  refine G_istore_n (ls2 := [some (.ref (b)), some (.int (nI (x))), some (.int (nI (c))), none, none, none, none, none, none, none, none, none, none, none, none, none, none, none, none]) dL_holds_8 rfl (by decide) rfl ?_
  refine G_aload_n dL_holds_9 rfl rfl ?_
  refine G_iconst (v := nI 2) dL_holds_10 (by decide) ?_
  refine G_iconst (v := nI 2) dL_holds_11 (by decide) ?_
  refine G_iconst (v := nI 0) dL_holds_12 (by decide) ?_
  refine G_iconst (v := nI 0) dL_holds_13 (by decide) ?_
  refine G_lc (E := 2700) (u := 1) (u2 := 2) (rest := []) zN_go dL_holds_14 lL_162 ⟨Nat.le_of_ble_eq_true rfl, Nat.le_of_ble_eq_true rfl⟩ (Nat.le_of_ble_eq_true rfl) hf ⟨by omega, rfl⟩ rv2.2 (r_about (by decide) hT rv2.1 hG hB hf) (fun v3 rv4 => ?_)
  refine G_top (y := nI ((gN S).length)) rfl ?_
  refine G_istore_n (ls2 := [some (.ref (b)), some (.int (nI (x))), some (.int (nI (c))), some (.int (nI ((gN S).length))), none, none, none, none, none, none, none, none, none, none, none, none, none, none, none]) dL_holds_17 rfl (by decide) rfl ?_
  refine G_aload_n dL_holds_18 rfl rfl ?_
  refine G_iconst (v := nI 2) dL_holds_19 (by decide) ?_
  refine G_iconst (v := nI 1) dL_holds_20 (by decide) ?_
  refine G_iconst (v := nI 0) dL_holds_21 (by decide) ?_
  refine G_iconst (v := nI 0) dL_holds_22 (by decide) ?_
  refine G_lc (E := 2700) (u := 2) (u2 := 3) (rest := []) zN_go dL_holds_23 lL_162 ⟨Nat.le_of_ble_eq_true rfl, Nat.le_of_ble_eq_true rfl⟩ (Nat.le_of_ble_eq_true rfl) hf ⟨by omega, rfl⟩ rv4.2 (r_about (by decide) hT rv4.1 hG hB hf) (fun v5 rv6 => ?_)
  refine G_top (y := nI (gG S 1)) rfl ?_
  refine G_istore (ls2 := [some (.ref (b)), some (.int (nI (x))), some (.int (nI (c))), some (.int (nI ((gN S).length))), some (.int (nI (gG S 1))), none, none, none, none, none, none, none, none, none, none, none, none, none, none]) dL_holds_26 (by decide) rfl ?_
  refine G_iconst (v := nI 0) dL_holds_28 (by decide) ?_
  refine G_top (y := nI (mwho S 0 0)) (rfl) ?_
  refine G_istore (ls2 := [some (.ref (b)), some (.int (nI (x))), some (.int (nI (c))), some (.int (nI ((gN S).length))), some (.int (nI (gG S 1))), some (.int (nI (mwho S 0 0))), none, none, none, none, none, none, none, none, none, none, none, none, none]) dL_holds_29 (by decide) rfl ?_
  refine G_iconst (v := nI 0) dL_holds_31 (by decide) ?_
  refine G_top (y := nI (mwho S 2 0)) (rfl) ?_
  refine G_istore (ls2 := [some (.ref (b)), some (.int (nI (x))), some (.int (nI (c))), some (.int (nI ((gN S).length))), some (.int (nI (gG S 1))), some (.int (nI (mwho S 0 0))), some (.int (nI (mwho S 2 0))), none, none, none, none, none, none, none, none, none, none, none, none]) dL_holds_32 (by decide) rfl ?_
  refine G_iconst (v := nI 0) dL_holds_34 (by decide) ?_
  refine G_top (y := nI (mmost S c 0)) (rfl) ?_
  refine G_istore (ls2 := [some (.ref (b)), some (.int (nI (x))), some (.int (nI (c))), some (.int (nI ((gN S).length))), some (.int (nI (gG S 1))), some (.int (nI (mwho S 0 0))), some (.int (nI (mwho S 2 0))), some (.int (nI (mmost S c 0))), none, none, none, none, none, none, none, none, none, none, none]) dL_holds_35 (by decide) rfl ?_
  refine G_iload_n dL_holds_37 rfl rfl ?_
  refine G_bipush (v := nI 6) dL_holds_38 (by decide) ?_
  refine G_icmp_gtN (tgt := 54) dL_holds_40 (by decide) (by omega) (by omega) (fun c40 => ((by omega : False)).elim) (fun c40 => ?_)
  refine G_iload_n dL_holds_43 rfl rfl ?_
  refine G_sipush (v := nI 150) dL_holds_44 (by decide) ?_
  refine G_icmp_gtN (tgt := 54) dL_holds_47 (by decide) (by omega) (by omega) (fun c47 => ((by omega : False)).elim) (fun c47 => ?_)
  refine G_iconst (v := nI 1) dL_holds_50 (by decide) ?_
  refine G_goto (tgt := 55) dL_holds_51 (by decide) ?_
  refine G_istore (ls2 := [some (.ref (b)), some (.int (nI (x))), some (.int (nI (c))), some (.int (nI ((gN S).length))), some (.int (nI (gG S 1))), some (.int (nI (mwho S 0 0))), some (.int (nI (mwho S 2 0))), some (.int (nI (mmost S c 0))), some (.int (nI (1))), none, none, none, none, none, none, none, none, none, none]) dL_holds_55 (by decide) rfl ?_
  refine G_iconst (v := nI 0) dL_holds_57 (by decide) ?_
  refine G_istore (ls2 := [some (.ref (b)), some (.int (nI (x))), some (.int (nI (c))), some (.int (nI ((gN S).length))), some (.int (nI (gG S 1))), some (.int (nI (mwho S 0 0))), some (.int (nI (mwho S 2 0))), some (.int (nI (mmost S c 0))), some (.int (nI (1))), some (.int (nI (0))), none, none, none, none, none, none, none, none, none]) dL_holds_58 (by decide) rfl ?_
  have hL60 : ∀ (n60 : Nat) (m : Nat) (w60 : vV), (RV v b ((t, n), (c, S), D, sl) w60) → (m ≤ c) → (m + n60 = c + 1) → vG (kZs zN) M_L_holds 60 [some (.ref (b)), some (.int (nI (x))), some (.int (nI (c))), some (.int (nI ((gN S).length))), some (.int (nI (gG S 1))), some (.int (nI (mwho S 0 m))), some (.int (nI (mwho S 2 m))), some (.int (nI (mmost S c m))), some (.int (nI (1))), some (.int (nI (m))), none, none, none, none, none, none, none, none, none] [] (4 * (110 * (n60) + 1700 - 0), 24 * (110 * (n60) + 1700 - 0)) (σ, w60) (vN (qC σ v b (nI 1, ((t, n), (c, S), D, sl)))) := by
    intro n60
    induction n60 with
    | zero =>
      intro m w60 r60 h1 h2
      exact absurd h2 (by omega)
    | succ n60 ih60 =>
      intro m w60 r60 h1 h2
      refine G_iload dL_holds_60 rfl ?_
      refine G_iload_n dL_holds_62 rfl rfl ?_
      refine G_icmp_geN (tgt := 671) dL_holds_63 (by decide) (by omega) (by omega) (fun c63 => ?_) (fun c63 => ?_)
      · refine G_iload dL_holds_671 rfl ?_
        refine G_top (y := nI (lastN S 0)) (rfl) ?_
        refine G_istore (ls2 := [some (.ref (b)), some (.int (nI (x))), some (.int (nI (c))), some (.int (nI ((gN S).length))), some (.int (nI (gG S 1))), some (.int (nI (mwho S 0 m))), some (.int (nI (mwho S 2 m))), some (.int (nI (mmost S c m))), some (.int (nI (1))), some (.int (nI (lastN S 0))), none, none, none, none, none, none, none, none, none]) dL_holds_673 (by decide) rfl ?_
        refine G_iconst (v := nI 0) dL_holds_675 (by decide) ?_
        refine G_istore (ls2 := [some (.ref (b)), some (.int (nI (x))), some (.int (nI (c))), some (.int (nI ((gN S).length))), some (.int (nI (gG S 1))), some (.int (nI (mwho S 0 m))), some (.int (nI (mwho S 2 m))), some (.int (nI (mmost S c m))), some (.int (nI (1))), some (.int (nI (lastN S 0))), some (.int (nI (0))), none, none, none, none, none, none, none, none]) dL_holds_676 (by decide) rfl ?_
        have hL678 : ∀ (n678 : Nat) (k : Nat) (w678 : vV), (RV v b ((t, n), (c, S), D, sl) w678) → (k ≤ (gN S).length) → (k + n678 = (gN S).length + 1) → vG (kZs zN) M_L_holds 678 [some (.ref (b)), some (.int (nI (x))), some (.int (nI (c))), some (.int (nI ((gN S).length))), some (.int (nI (gG S 1))), some (.int (nI (mwho S 0 m))), some (.int (nI (mwho S 2 m))), some (.int (nI (mmost S c m))), some (.int (nI (1))), some (.int (nI (lastN S k))), some (.int (nI (k))), none, none, none, none, none, none, none, none] [] (4 * (6 * (n678) + 720 - 0), 24 * (6 * (n678) + 720 - 0)) (σ, w678) (vN (qC σ v b (nI 1, ((t, n), (c, S), D, sl)))) := by
          intro n678
          induction n678 with
          | zero =>
            intro k w678 r678 h3 h4
            exact absurd h4 (by omega)
          | succ n678 ih678 =>
            intro k w678 r678 h3 h4
            refine G_iload dL_holds_678 rfl ?_
            refine G_iload_n dL_holds_680 rfl rfl ?_
            refine G_icmp_geN (tgt := 829) dL_holds_681 (by decide) (by omega) (by omega) (fun c681 => ?_) (fun c681 => ?_)
            · refine G_iload_n dL_holds_829 rfl rfl ?_
              refine G_iload_n dL_holds_830 rfl rfl ?_
              refine G_iremN dL_holds_831 (by omega) (by omega) (by omega) ?_
              refine G_istore (ls2 := [some (.ref (b)), some (.int (nI (x))), some (.int (nI (c))), some (.int (nI ((gN S).length))), some (.int (nI (gG S 1))), some (.int (nI (mwho S 0 m))), some (.int (nI (mwho S 2 m))), some (.int (nI (mmost S c m))), some (.int (nI (1))), some (.int (nI (lastN S k))), some (.int (nI (x % c))), none, none, none, none, none, none, none, none]) dL_holds_832 (by decide) rfl ?_
              refine G_iload_n dL_holds_834 rfl rfl ?_
              refine G_bipush (v := nI 6) dL_holds_835 (by decide) ?_
              refine G_idivN dL_holds_837 (by omega) (by decide) (by decide) ?_
              refine G_iload_n dL_holds_838 rfl rfl ?_
              refine G_iremN dL_holds_839 (by omega) (by omega) (by omega) ?_
              refine G_istore (ls2 := [some (.ref (b)), some (.int (nI (x))), some (.int (nI (c))), some (.int (nI ((gN S).length))), some (.int (nI (gG S 1))), some (.int (nI (mwho S 0 m))), some (.int (nI (mwho S 2 m))), some (.int (nI (mmost S c m))), some (.int (nI (1))), some (.int (nI (lastN S k))), some (.int (nI (x % c))), some (.int (nI ((x / 6) % c))), none, none, none, none, none, none, none]) dL_holds_840 (by decide) rfl ?_
              have ha9 : x % c < c := Nat.mod_lt _ (by omega)
              have hd9 : x / 6 % c < c := Nat.mod_lt _ (by omega)
              generalize x % c = a at ha9 ⊢
              generalize x / 6 % c = d at hd9 ⊢
              refine G_aload_n dL_holds_842 rfl rfl ?_
              refine G_together (rest := []) dL_holds_843 lL_182 (Nat.le_of_ble_eq_true rfl) hT.o (by decide) hf r678.2 (c_X6_together hT r678.1 hG hB hf) (fun v7 rv8 => ?_)
              refine G_top (y := nI (mbest c S c)) rfl ?_
              refine G_istore (ls2 := [some (.ref (b)), some (.int (nI (x))), some (.int (nI (c))), some (.int (nI ((gN S).length))), some (.int (nI (gG S 1))), some (.int (nI (mwho S 0 m))), some (.int (nI (mwho S 2 m))), some (.int (nI (mmost S c m))), some (.int (nI (1))), some (.int (nI (lastN S k))), some (.int (nI (a))), some (.int (nI (d))), some (.int (nI (mbest c S c))), none, none, none, none, none, none]) dL_holds_846 (by decide) rfl ?_
              refine G_iload dL_holds_848 rfl ?_
              refine G_if_eqN (tgt := 1002) dL_holds_850 (by decide) (by decide) (fun q9 => absurd q9 (by decide)) (fun _ => ?_)
              refine G_aload_n dL_holds_853 rfl rfl ?_
              refine G_iconst (v := nI 2) dL_holds_854 (by decide) ?_
              refine G_bipush (v := nI 7) dL_holds_855 (by decide) ?_
              refine G_iconst (v := nI 0) dL_holds_857 (by decide) ?_
              refine G_iconst (v := nI 0) dL_holds_858 (by decide) ?_
              refine G_lc (E := 6 * (n678 + 1) + 720) (u := 0) (u2 := 1) (rest := []) zN_go dL_holds_859 lL_162 ⟨Nat.le_of_ble_eq_true rfl, Nat.le_of_ble_eq_true rfl⟩ (Nat.le_of_ble_eq_true rfl) hf ⟨by omega, rfl⟩ rv8.2 (r_about (by decide) hT rv8.1 hG hB hf) (fun v9 rv10 => ?_)
              refine G_top (y := nI (mwho S 0 c)) rfl ?_
              refine G_iload dL_holds_862 rfl ?_
              refine G_icmp_neN (tgt := 1002) dL_holds_864 (by decide) (by have := mwho_lt (S := S) (is := 0) c (by omega); have := mwho_lt (S := S) (is := 0) m (by omega); omega) (by have := mwho_lt (S := S) (is := 0) c (by omega); have := mwho_lt (S := S) (is := 0) m (by omega); omega) (fun c864 => (c864 (by rw [show m = c by omega])).elim) (fun c864 => ?_)
              refine G_aload_n dL_holds_867 rfl rfl ?_
              refine G_iconst (v := nI 2) dL_holds_868 (by decide) ?_
              refine G_bipush (v := nI 8) dL_holds_869 (by decide) ?_
              refine G_iconst (v := nI 0) dL_holds_871 (by decide) ?_
              refine G_iconst (v := nI 0) dL_holds_872 (by decide) ?_
              refine G_lc (E := 6 * (n678 + 1) + 720) (u := 1) (u2 := 2) (rest := []) zN_go dL_holds_873 lL_162 ⟨Nat.le_of_ble_eq_true rfl, Nat.le_of_ble_eq_true rfl⟩ (Nat.le_of_ble_eq_true rfl) hf ⟨by omega, rfl⟩ rv10.2 (r_about (by decide) hT rv10.1 hG hB hf) (fun v11 rv12 => ?_)
              refine G_top (y := nI (mwho S 2 c)) rfl ?_
              refine G_iload dL_holds_876 rfl ?_
              refine G_icmp_neN (tgt := 1002) dL_holds_878 (by decide) (by have := mwho_lt (S := S) (is := 2) c (by omega); have := mwho_lt (S := S) (is := 2) m (by omega); omega) (by have := mwho_lt (S := S) (is := 2) c (by omega); have := mwho_lt (S := S) (is := 2) m (by omega); omega) (fun c878 => (c878 (by rw [show m = c by omega])).elim) (fun c878 => ?_)
              refine G_iload dL_holds_881 rfl ?_
              refine G_cSp (rest := []) (As := [.int (nI (mbest c S c))]) dL_holds_883 lL_185 yk_L_bits ys_L_bits (by decide) rfl rfl (Nat.le_of_ble_eq_true rfl) rfl (c_L_bits (mbest_lt hc6 c)) ?_
              refine G_iload dL_holds_886 rfl ?_
              refine G_icmp_neN (tgt := 1002) dL_holds_888 (by decide) (by have := mbits_le (s := mbest c S c) 24; have := mmost_le (S := S) (c := c) m; omega) (by have := mbits_le (s := mbest c S c) 24; have := mmost_le (S := S) (c := c) m; omega) (fun c888 => (c888 (by rw [mbest_n hN, show m = c by omega])).elim) (fun c888 => ?_)
              refine G_iload dL_holds_891 rfl ?_
              refine G_iload dL_holds_893 rfl ?_
              refine G_iandN dL_holds_895 ?_
              refine G_if_neN (tgt := 1002) dL_holds_896 (by decide) (by exact Nat.lt_of_le_of_lt Nat.and_le_left (by have := mbest_lt (S := S) hc6 c; omega)) (fun c896 => (c896 (by rw [show m = c by omega]; exact best_gone c)).elim) (fun c896 => ?_)
              refine G_aload_n dL_holds_899 rfl rfl ?_
              refine G_iload dL_holds_900 rfl ?_
              refine G_iload dL_holds_902 rfl ?_
              refine G_lz (K := 700) (E := 6 * (n678 + 1) + 720) (u := 2) (u2 := 702) (rest := []) (As := [.ref (b), .int (nI (a)), .int (nI (d))]) zN_go dL_holds_904 lL_188 yk_L_together ys_L_together ⟨Nat.le_of_ble_eq_true rfl, Nat.le_of_ble_eq_true rfl⟩ rfl rfl (Nat.le_of_ble_eq_true rfl) rfl hf ⟨by omega, rfl⟩ rv12.2 (c_L_together ha9 hd9 hJ hT rv12.1 hG hB hB2 hf) (fun v13 rv14 => ?_)
              refine G_top (y := nI (1)) rfl ?_
              refine G_if_eqN (tgt := 1002) dL_holds_907 (by decide) (by decide) (fun q9 => absurd q9 (by decide)) (fun _ => ?_)
              refine G_aload_n dL_holds_910 rfl rfl ?_
              refine G_bipush (v := nI 16) dL_holds_911 (by decide) ?_
              refine G_iload dL_holds_913 rfl ?_
              refine G_iload dL_holds_915 rfl ?_
              refine G_iconst (v := nI 1) dL_holds_917 (by decide) ?_
              refine G_lc (E := 6 * (n678 + 1) + 720) (u := 702) (u2 := 703) (rest := []) zN_go dL_holds_918 lL_162 ⟨Nat.le_of_ble_eq_true rfl, Nat.le_of_ble_eq_true rfl⟩ (Nat.le_of_ble_eq_true rfl) hf ⟨by omega, rfl⟩ rv14.2 (r_compare (by omega) (by omega) (by decide) hT rv14.1 hG hB hf) (fun v15 rv16 => ?_)
              refine G_top (y := nI (mcmp S a d 1)) rfl ?_
              refine G_aload_n dL_holds_921 rfl rfl ?_
              refine G_bipush (v := nI 16) dL_holds_922 (by decide) ?_
              refine G_iload dL_holds_924 rfl ?_
              refine G_iload dL_holds_926 rfl ?_
              refine G_iconst (v := nI 0) dL_holds_928 (by decide) ?_
              refine G_lc (E := 6 * (n678 + 1) + 720) (u := 703) (u2 := 704) (rest := [.int (nI (mcmp S a d 1))]) zN_go dL_holds_929 lL_162 ⟨Nat.le_of_ble_eq_true rfl, Nat.le_of_ble_eq_true rfl⟩ (Nat.le_of_ble_eq_true rfl) hf ⟨by omega, rfl⟩ rv16.2 (r_compare (by omega) (by omega) (by decide) hT rv16.1 hG hB hf) (fun v17 rv18 => ?_)
              refine G_top (y := nI (mcmp S a d 0)) rfl ?_
              refine G_icmp_gtN (tgt := 1002) dL_holds_932 (by decide) (by first | exact cmp_lt hl5 _ _ _ | (have := hl5 a; omega)) (by first | exact cmp_lt hl5 _ _ _ | (have := hl5 a; omega)) (fun c932 => ((by have := cmp_le (S := S) (a := a) (d := d); omega : False)).elim) (fun c932 => ?_)
              refine G_aload_n dL_holds_935 rfl rfl ?_
              refine G_bipush (v := nI 16) dL_holds_936 (by decide) ?_
              refine G_iload dL_holds_938 rfl ?_
              refine G_iload dL_holds_940 rfl ?_
              refine G_iconst (v := nI 0) dL_holds_942 (by decide) ?_
              refine G_lc (E := 6 * (n678 + 1) + 720) (u := 704) (u2 := 705) (rest := []) zN_go dL_holds_943 lL_162 ⟨Nat.le_of_ble_eq_true rfl, Nat.le_of_ble_eq_true rfl⟩ (Nat.le_of_ble_eq_true rfl) hf ⟨by omega, rfl⟩ rv18.2 (r_compare (by omega) (by omega) (by decide) hT rv18.1 hG hB hf) (fun v19 rv20 => ?_)
              refine G_top (y := nI (mcmp S a d 0)) rfl ?_
              refine G_aload_n dL_holds_946 rfl rfl ?_
              refine G_bipush (v := nI 16) dL_holds_947 (by decide) ?_
              refine G_iload dL_holds_949 rfl ?_
              refine G_iload dL_holds_951 rfl ?_
              refine G_iconst (v := nI 0) dL_holds_953 (by decide) ?_
              refine G_lc (E := 6 * (n678 + 1) + 720) (u := 705) (u2 := 706) (rest := [.int (nI (mcmp S a d 0))]) zN_go dL_holds_954 lL_162 ⟨Nat.le_of_ble_eq_true rfl, Nat.le_of_ble_eq_true rfl⟩ (Nat.le_of_ble_eq_true rfl) hf ⟨by omega, rfl⟩ rv20.2 (r_compare (by omega) (by omega) (by decide) hT rv20.1 hG hB hf) (fun v21 rv22 => ?_)
              refine G_top (y := nI (mcmp S d a 0)) rfl ?_
              refine G_icmp_neN (tgt := 1002) dL_holds_957 (by decide) (by first | exact cmp_lt hl5 _ _ _ | (have := hl5 a; omega)) (by first | exact cmp_lt hl5 _ _ _ | (have := hl5 a; omega)) (fun c957 => (c957 cmp_sym).elim) (fun c957 => ?_)
              refine G_aload_n dL_holds_960 rfl rfl ?_
              refine G_bipush (v := nI 16) dL_holds_961 (by decide) ?_
              refine G_iload dL_holds_963 rfl ?_
              refine G_iload dL_holds_965 rfl ?_
              refine G_iconst (v := nI 0) dL_holds_967 (by decide) ?_
              refine G_lc (E := 6 * (n678 + 1) + 720) (u := 706) (u2 := 707) (rest := []) zN_go dL_holds_968 lL_162 ⟨Nat.le_of_ble_eq_true rfl, Nat.le_of_ble_eq_true rfl⟩ (Nat.le_of_ble_eq_true rfl) hf ⟨by omega, rfl⟩ rv22.2 (r_compare (by omega) (by omega) (by decide) hT rv22.1 hG hB hf) (fun v23 rv24 => ?_)
              refine G_top (y := nI (mcmp S a a 0)) rfl ?_
              refine G_aload_n dL_holds_971 rfl rfl ?_
              refine G_iconst (v := nI 3) dL_holds_972 (by decide) ?_
              refine G_iload dL_holds_973 rfl ?_
              refine G_bipush (v := nI 11) dL_holds_975 (by decide) ?_
              refine G_iconst (v := nI 0) dL_holds_977 (by decide) ?_
              refine G_lc (E := 6 * (n678 + 1) + 720) (u := 707) (u2 := 708) (rest := [.int (nI (mcmp S a a 0))]) zN_go dL_holds_978 lL_162 ⟨Nat.le_of_ble_eq_true rfl, Nat.le_of_ble_eq_true rfl⟩ (Nat.le_of_ble_eq_true rfl) hf ⟨by omega, rfl⟩ rv24.2 (r_member (by omega) (by decide) hT rv24.1 hG hB hf) (fun v25 rv26 => ?_)
              refine G_top (y := nI ((gH S a).length)) rfl ?_
              refine G_icmp_neN (tgt := 1002) dL_holds_981 (by decide) (by first | exact cmp_lt hl5 _ _ _ | (have := hl5 a; omega)) (by first | exact cmp_lt hl5 _ _ _ | (have := hl5 a; omega)) (fun c981 => (c981 (cmp_self0 hJ ha9)).elim) (fun c981 => ?_)
              refine G_aload_n dL_holds_984 rfl rfl ?_
              refine G_bipush (v := nI 16) dL_holds_985 (by decide) ?_
              refine G_iload dL_holds_987 rfl ?_
              refine G_iload dL_holds_989 rfl ?_
              refine G_iconst (v := nI 1) dL_holds_991 (by decide) ?_
              refine G_lc (E := 6 * (n678 + 1) + 720) (u := 708) (u2 := 709) (rest := []) zN_go dL_holds_992 lL_162 ⟨Nat.le_of_ble_eq_true rfl, Nat.le_of_ble_eq_true rfl⟩ (Nat.le_of_ble_eq_true rfl) hf ⟨by omega, rfl⟩ rv26.2 (r_compare (by omega) (by omega) (by decide) hT rv26.1 hG hB hf) (fun v27 rv28 => ?_)
              refine G_top (y := nI (mcmp S a a 1)) rfl ?_
              refine G_if_neN (tgt := 1002) dL_holds_995 (by decide) (by first | exact cmp_lt hl5 _ _ _ | (have := hl5 a; omega)) (fun c995 => (c995 (cmp_self1 hJ ha9)).elim) (fun c995 => ?_)
              refine G_iconst (v := nI 1) dL_holds_998 (by decide) ?_
              refine G_goto (tgt := 1003) dL_holds_999 (by decide) ?_
              refine G_zret dL_holds_1003 rfl (by decide) ?_
              exact qc_end rv28 rfl
            · refine G_iload dL_holds_684 rfl ?_
              refine G_if_eqN (tgt := 829) dL_holds_686 (by decide) (by decide) (fun q9 => absurd q9 (by decide)) (fun _ => ?_)
              obtain ⟨g0, g1, g2, g3, g4, g5, g6, g7⟩ := fact_n hJ hN hI (show k < (gN S).length by omega)
              have g8 := hN.g (i := 1) (by decide)
              refine G_aload_n dL_holds_689 rfl rfl ?_
              refine G_iconst (v := nI 5) dL_holds_690 (by decide) ?_
              refine G_iload dL_holds_691 rfl ?_
              refine G_iconst (v := nI 3) dL_holds_693 (by decide) ?_
              refine G_iconst (v := nI 0) dL_holds_694 (by decide) ?_
              refine G_lc (E := 6 * (n678 + 1) + 720) (u := 0) (u2 := 1) (rest := []) zN_go dL_holds_695 lL_162 ⟨Nat.le_of_ble_eq_true rfl, Nat.le_of_ble_eq_true rfl⟩ (Nat.le_of_ble_eq_true rfl) hf ⟨by omega, rfl⟩ r678.2 (r_note (by omega) (by decide) hT r678.1 hG hB hf) (fun v29 rv30 => ?_)
              refine G_top (y := nI (((gN S).getD k n0) 3)) rfl ?_
              refine G_istore (ls2 := [some (.ref (b)), some (.int (nI (x))), some (.int (nI (c))), some (.int (nI ((gN S).length))), some (.int (nI (gG S 1))), some (.int (nI (mwho S 0 m))), some (.int (nI (mwho S 2 m))), some (.int (nI (mmost S c m))), some (.int (nI (1))), some (.int (nI (lastN S k))), some (.int (nI (k))), some (.int (nI (((gN S).getD k n0) 3))), none, none, none, none, none, none, none]) dL_holds_698 (by decide) rfl ?_
              refine G_aload_n dL_holds_700 rfl rfl ?_
              refine G_iconst (v := nI 5) dL_holds_701 (by decide) ?_
              refine G_iload dL_holds_702 rfl ?_
              refine G_iconst (v := nI 1) dL_holds_704 (by decide) ?_
              refine G_iconst (v := nI 0) dL_holds_705 (by decide) ?_
              refine G_lc (E := 6 * (n678 + 1) + 720) (u := 1) (u2 := 2) (rest := []) zN_go dL_holds_706 lL_162 ⟨Nat.le_of_ble_eq_true rfl, Nat.le_of_ble_eq_true rfl⟩ (Nat.le_of_ble_eq_true rfl) hf ⟨by omega, rfl⟩ rv30.2 (r_note (by omega) (by decide) hT rv30.1 hG hB hf) (fun v31 rv32 => ?_)
              refine G_top (y := nI (((gN S).getD k n0) 1)) rfl ?_
              refine G_istore (ls2 := [some (.ref (b)), some (.int (nI (x))), some (.int (nI (c))), some (.int (nI ((gN S).length))), some (.int (nI (gG S 1))), some (.int (nI (mwho S 0 m))), some (.int (nI (mwho S 2 m))), some (.int (nI (mmost S c m))), some (.int (nI (1))), some (.int (nI (lastN S k))), some (.int (nI (k))), some (.int (nI (((gN S).getD k n0) 3))), some (.int (nI (((gN S).getD k n0) 1))), none, none, none, none, none, none]) dL_holds_709 (by decide) rfl ?_
              refine G_aload_n dL_holds_711 rfl rfl ?_
              refine G_iconst (v := nI 5) dL_holds_712 (by decide) ?_
              refine G_iload dL_holds_713 rfl ?_
              refine G_iconst (v := nI 2) dL_holds_715 (by decide) ?_
              refine G_iconst (v := nI 0) dL_holds_716 (by decide) ?_
              refine G_lc (E := 6 * (n678 + 1) + 720) (u := 2) (u2 := 3) (rest := []) zN_go dL_holds_717 lL_162 ⟨Nat.le_of_ble_eq_true rfl, Nat.le_of_ble_eq_true rfl⟩ (Nat.le_of_ble_eq_true rfl) hf ⟨by omega, rfl⟩ rv32.2 (r_note (by omega) (by decide) hT rv32.1 hG hB hf) (fun v33 rv34 => ?_)
              refine G_top (y := nI (((gN S).getD k n0) 2)) rfl ?_
              refine G_istore (ls2 := [some (.ref (b)), some (.int (nI (x))), some (.int (nI (c))), some (.int (nI ((gN S).length))), some (.int (nI (gG S 1))), some (.int (nI (mwho S 0 m))), some (.int (nI (mwho S 2 m))), some (.int (nI (mmost S c m))), some (.int (nI (1))), some (.int (nI (lastN S k))), some (.int (nI (k))), some (.int (nI (((gN S).getD k n0) 3))), some (.int (nI (((gN S).getD k n0) 1))), some (.int (nI (((gN S).getD k n0) 2))), none, none, none, none, none]) dL_holds_720 (by decide) rfl ?_
              refine G_aload_n dL_holds_722 rfl rfl ?_
              refine G_iconst (v := nI 5) dL_holds_723 (by decide) ?_
              refine G_iload dL_holds_724 rfl ?_
              refine G_iconst (v := nI 0) dL_holds_726 (by decide) ?_
              refine G_iconst (v := nI 0) dL_holds_727 (by decide) ?_
              refine G_lc (E := 6 * (n678 + 1) + 720) (u := 3) (u2 := 4) (rest := []) zN_go dL_holds_728 lL_162 ⟨Nat.le_of_ble_eq_true rfl, Nat.le_of_ble_eq_true rfl⟩ (Nat.le_of_ble_eq_true rfl) hf ⟨by omega, rfl⟩ rv34.2 (r_note (by omega) (by decide) hT rv34.1 hG hB hf) (fun v35 rv36 => ?_)
              refine G_top (y := nI (((gN S).getD k n0) 0)) rfl ?_
              refine G_if_ltN (tgt := 816) dL_holds_731 (by decide) (by omega) (fun c731 => (c731).elim) (fun c731 => ?_)
              refine G_aload_n dL_holds_734 rfl rfl ?_
              refine G_iconst (v := nI 5) dL_holds_735 (by decide) ?_
              refine G_iload dL_holds_736 rfl ?_
              refine G_iconst (v := nI 0) dL_holds_738 (by decide) ?_
              refine G_iconst (v := nI 0) dL_holds_739 (by decide) ?_
              refine G_lc (E := 6 * (n678 + 1) + 720) (u := 4) (u2 := 5) (rest := []) zN_go dL_holds_740 lL_162 ⟨Nat.le_of_ble_eq_true rfl, Nat.le_of_ble_eq_true rfl⟩ (Nat.le_of_ble_eq_true rfl) hf ⟨by omega, rfl⟩ rv36.2 (r_note (by omega) (by decide) hT rv36.1 hG hB hf) (fun v37 rv38 => ?_)
              refine G_top (y := nI (((gN S).getD k n0) 0)) rfl ?_
              refine G_iconst (v := nI 4) dL_holds_743 (by decide) ?_
              refine G_icmp_geN (tgt := 816) dL_holds_744 (by decide) (by omega) (by omega) (fun c744 => ((by omega : False)).elim) (fun c744 => ?_)
              refine G_iload dL_holds_747 rfl ?_
              refine G_if_ltN (tgt := 816) dL_holds_749 (by decide) (by omega) (fun c749 => (c749).elim) (fun c749 => ?_)
              refine G_iload dL_holds_752 rfl ?_
              refine G_iload_n dL_holds_754 rfl rfl ?_
              refine G_icmp_geN (tgt := 816) dL_holds_755 (by decide) (by omega) (by omega) (fun c755 => ((by omega : False)).elim) (fun c755 => ?_)
              refine G_iload dL_holds_758 rfl ?_
              refine G_if_ltN (tgt := 816) dL_holds_760 (by decide) (by omega) (fun c760 => (c760).elim) (fun c760 => ?_)
              refine G_iload dL_holds_763 rfl ?_
              refine G_iload_n dL_holds_765 rfl rfl ?_
              refine G_icmp_geN (tgt := 816) dL_holds_766 (by decide) (by omega) (by omega) (fun c766 => ((by omega : False)).elim) (fun c766 => ?_)
              refine G_iload dL_holds_769 rfl ?_
              refine G_iload dL_holds_771 rfl ?_
              refine G_icmp_eqN (tgt := 816) dL_holds_773 (by decide) (by omega) (by omega) (fun c773 => (g3 c773).elim) (fun c773 => ?_)
              refine G_iload dL_holds_776 rfl ?_
              refine G_iload dL_holds_778 rfl ?_
              refine G_icmp_ltN (tgt := 816) dL_holds_780 (by decide) (by omega) (by omega) (fun c780 => ((by omega : False)).elim) (fun c780 => ?_)
              refine G_iload dL_holds_783 rfl ?_
              refine G_iload dL_holds_785 rfl ?_
              refine G_icmp_leN (tgt := 816) dL_holds_787 (by decide) (by omega) (by have := hN.g (i := 1) (by decide); omega) (fun c787 => ((by omega : False)).elim) (fun c787 => ?_)
              refine G_iload dL_holds_790 rfl ?_
              refine G_iload dL_holds_792 rfl ?_
              refine G_bipush (v := nI 10) dL_holds_794 (by decide) ?_
              refine G_iaddN dL_holds_796 ?_
              refine G_icmp_gtN (tgt := 816) dL_holds_797 (by decide) (by omega) (by omega) (fun c797 => ((by omega : False)).elim) (fun c797 => ?_)
              refine G_aload_n dL_holds_800 rfl rfl ?_
              refine G_iconst (v := nI 5) dL_holds_801 (by decide) ?_
              refine G_iload dL_holds_802 rfl ?_
              refine G_iconst (v := nI 4) dL_holds_804 (by decide) ?_
              refine G_iconst (v := nI 0) dL_holds_805 (by decide) ?_
              refine G_lc (E := 6 * (n678 + 1) + 720) (u := 5) (u2 := 6) (rest := []) zN_go dL_holds_806 lL_162 ⟨Nat.le_of_ble_eq_true rfl, Nat.le_of_ble_eq_true rfl⟩ (Nat.le_of_ble_eq_true rfl) hf ⟨by omega, rfl⟩ rv38.2 (r_note (by omega) (by decide) hT rv38.1 hG hB hf) (fun v39 rv40 => ?_)
              refine G_top (y := nI (((gN S).getD k n0) 4)) rfl ?_
              refine G_if_ltN (tgt := 816) dL_holds_809 (by decide) (by omega) (fun c809 => (c809).elim) (fun c809 => ?_)
              refine G_iconst (v := nI 1) dL_holds_812 (by decide) ?_
              refine G_goto (tgt := 817) dL_holds_813 (by decide) ?_
              refine G_istore (ls2 := [some (.ref (b)), some (.int (nI (x))), some (.int (nI (c))), some (.int (nI ((gN S).length))), some (.int (nI (gG S 1))), some (.int (nI (mwho S 0 m))), some (.int (nI (mwho S 2 m))), some (.int (nI (mmost S c m))), some (.int (nI (1))), some (.int (nI (lastN S k))), some (.int (nI (k))), some (.int (nI (((gN S).getD k n0) 3))), some (.int (nI (((gN S).getD k n0) 1))), some (.int (nI (((gN S).getD k n0) 2))), none, none, none, none, none]) dL_holds_817 (by decide) rfl ?_
              refine G_iload dL_holds_819 rfl ?_
              refine G_top (y := nI (lastN S (k + 1))) (by unfold lastN; rw [if_neg (by omega), Nat.add_sub_cancel]) ?_
              refine G_istore (ls2 := [some (.ref (b)), some (.int (nI (x))), some (.int (nI (c))), some (.int (nI ((gN S).length))), some (.int (nI (gG S 1))), some (.int (nI (mwho S 0 m))), some (.int (nI (mwho S 2 m))), some (.int (nI (mmost S c m))), some (.int (nI (1))), some (.int (nI (lastN S (k + 1)))), some (.int (nI (k))), some (.int (nI (((gN S).getD k n0) 3))), some (.int (nI (((gN S).getD k n0) 1))), some (.int (nI (((gN S).getD k n0) 2))), none, none, none, none, none]) dL_holds_821 (by decide) rfl ?_
              refine G_iinc (v := nI (k + 1)) (ls2 := [some (.ref (b)), some (.int (nI (x))), some (.int (nI (c))), some (.int (nI ((gN S).length))), some (.int (nI (gG S 1))), some (.int (nI (mwho S 0 m))), some (.int (nI (mwho S 2 m))), some (.int (nI (mmost S c m))), some (.int (nI (1))), some (.int (nI (lastN S (k + 1)))), some (.int (nI (k + 1))), some (.int (nI (((gN S).getD k n0) 3))), some (.int (nI (((gN S).getD k n0) 1))), some (.int (nI (((gN S).getD k n0) 2))), none, none, none, none, none]) dL_holds_823 rfl (nI_inc _ 1) (by decide) rfl ?_
              refine G_goto (tgt := 678) dL_holds_826 (by decide) ?_
              refine G_weak (ls2 := [some (.ref (b)), some (.int (nI (x))), some (.int (nI (c))), some (.int (nI ((gN S).length))), some (.int (nI (gG S 1))), some (.int (nI (mwho S 0 m))), some (.int (nI (mwho S 2 m))), some (.int (nI (mmost S c m))), some (.int (nI (1))), some (.int (nI (lastN S (k + 1)))), some (.int (nI (k + 1))), none, none, none, none, none, none, none, none]) ⟨rfl, rfl, rfl, rfl, rfl, rfl, rfl, rfl, rfl, rfl, rfl, trivial⟩ ?_
              refine G_bud (b2 := (4 * (6 * (n678) + 720 - 0), 24 * (6 * (n678) + 720 - 0))) ⟨by show 4 * (6 * (n678) + 720 - 0) ≤ 4 * (6 * (n678 + 1) + 720 - 6); omega, by show 24 * (6 * (n678) + 720 - 0) ≤ 24 * (6 * (n678 + 1) + 720 - 6); omega⟩ ?_
              exact ih678 (k + 1) v39 rv40 (by omega) (by omega)
        refine G_bud (b2 := (4 * (6 * ((gN S).length + 1) + 720 - 0), 24 * (6 * ((gN S).length + 1) + 720 - 0))) ⟨by show 4 * (6 * ((gN S).length + 1) + 720 - 0) ≤ 4 * (110 * (n60 + 1) + 1700 - 0); omega, by show 24 * (6 * ((gN S).length + 1) + 720 - 0) ≤ 24 * (110 * (n60 + 1) + 1700 - 0); omega⟩ ?_
        exact hL678 ((gN S).length + 1) 0 w60 r60 (Nat.zero_le _) (by omega)
      · refine G_iload dL_holds_66 rfl ?_
        refine G_if_eqN (tgt := 671) dL_holds_68 (by decide) (by decide) (fun q9 => absurd q9 (by decide)) (fun _ => ?_)
        obtain ⟨f4, fb, fh, f6, fm, fa, fz, fc, fk, fs, fl, fn⟩ := fact_m hJ hN (show m < c by omega)
        refine G_aload_n dL_holds_71 rfl rfl ?_
        refine G_iconst (v := nI 3) dL_holds_72 (by decide) ?_
        refine G_iload dL_holds_73 rfl ?_
        refine G_iconst (v := nI 1) dL_holds_75 (by decide) ?_
        refine G_iconst (v := nI 0) dL_holds_76 (by decide) ?_
        refine G_lc (E := 110 * (n60 + 1) + 1700) (u := 0) (u2 := 1) (rest := []) zN_go dL_holds_77 lL_162 ⟨Nat.le_of_ble_eq_true rfl, Nat.le_of_ble_eq_true rfl⟩ (Nat.le_of_ble_eq_true rfl) hf ⟨by omega, rfl⟩ r60.2 (r_member (by omega) (by decide) hT r60.1 hG hB hf) (fun v41 rv42 => ?_)
        refine G_top (y := nI (gM S m 1)) rfl ?_
        refine G_istore (ls2 := [some (.ref (b)), some (.int (nI (x))), some (.int (nI (c))), some (.int (nI ((gN S).length))), some (.int (nI (gG S 1))), some (.int (nI (mwho S 0 m))), some (.int (nI (mwho S 2 m))), some (.int (nI (mmost S c m))), some (.int (nI (1))), some (.int (nI (m))), some (.int (nI (gM S m 1))), none, none, none, none, none, none, none, none]) dL_holds_80 (by decide) rfl ?_
        refine G_aload_n dL_holds_82 rfl rfl ?_
        refine G_iconst (v := nI 3) dL_holds_83 (by decide) ?_
        refine G_iload dL_holds_84 rfl ?_
        refine G_iconst (v := nI 4) dL_holds_86 (by decide) ?_
        refine G_iconst (v := nI 0) dL_holds_87 (by decide) ?_
        refine G_lc (E := 110 * (n60 + 1) + 1700) (u := 1) (u2 := 2) (rest := []) zN_go dL_holds_88 lL_162 ⟨Nat.le_of_ble_eq_true rfl, Nat.le_of_ble_eq_true rfl⟩ (Nat.le_of_ble_eq_true rfl) hf ⟨by omega, rfl⟩ rv42.2 (r_member (by omega) (by decide) hT rv42.1 hG hB hf) (fun v43 rv44 => ?_)
        refine G_top (y := nI (gM S m 4)) rfl ?_
        refine G_istore (ls2 := [some (.ref (b)), some (.int (nI (x))), some (.int (nI (c))), some (.int (nI ((gN S).length))), some (.int (nI (gG S 1))), some (.int (nI (mwho S 0 m))), some (.int (nI (mwho S 2 m))), some (.int (nI (mmost S c m))), some (.int (nI (1))), some (.int (nI (m))), some (.int (nI (gM S m 1))), some (.int (nI (gM S m 4))), none, none, none, none, none, none, none]) dL_holds_91 (by decide) rfl ?_
        refine G_aload_n dL_holds_93 rfl rfl ?_
        refine G_iconst (v := nI 3) dL_holds_94 (by decide) ?_
        refine G_iload dL_holds_95 rfl ?_
        refine G_iconst (v := nI 5) dL_holds_97 (by decide) ?_
        refine G_iconst (v := nI 0) dL_holds_98 (by decide) ?_
        refine G_lc (E := 110 * (n60 + 1) + 1700) (u := 2) (u2 := 3) (rest := []) zN_go dL_holds_99 lL_162 ⟨Nat.le_of_ble_eq_true rfl, Nat.le_of_ble_eq_true rfl⟩ (Nat.le_of_ble_eq_true rfl) hf ⟨by omega, rfl⟩ rv44.2 (r_member (by omega) (by decide) hT rv44.1 hG hB hf) (fun v45 rv46 => ?_)
        refine G_top (y := nI (gM S m 5)) rfl ?_
        refine G_istore (ls2 := [some (.ref (b)), some (.int (nI (x))), some (.int (nI (c))), some (.int (nI ((gN S).length))), some (.int (nI (gG S 1))), some (.int (nI (mwho S 0 m))), some (.int (nI (mwho S 2 m))), some (.int (nI (mmost S c m))), some (.int (nI (1))), some (.int (nI (m))), some (.int (nI (gM S m 1))), some (.int (nI (gM S m 4))), some (.int (nI (gM S m 5))), none, none, none, none, none, none]) dL_holds_102 (by decide) rfl ?_
        refine G_aload_n dL_holds_104 rfl rfl ?_
        refine G_iconst (v := nI 3) dL_holds_105 (by decide) ?_
        refine G_iload dL_holds_106 rfl ?_
        refine G_bipush (v := nI 7) dL_holds_108 (by decide) ?_
        refine G_iconst (v := nI 0) dL_holds_110 (by decide) ?_
        refine G_lc (E := 110 * (n60 + 1) + 1700) (u := 3) (u2 := 4) (rest := []) zN_go dL_holds_111 lL_162 ⟨Nat.le_of_ble_eq_true rfl, Nat.le_of_ble_eq_true rfl⟩ (Nat.le_of_ble_eq_true rfl) hf ⟨by omega, rfl⟩ rv46.2 (r_member (by omega) (by decide) hT rv46.1 hG hB hf) (fun v47 rv48 => ?_)
        refine G_top (y := nI (gM S m 7)) rfl ?_
        refine G_istore (ls2 := [some (.ref (b)), some (.int (nI (x))), some (.int (nI (c))), some (.int (nI ((gN S).length))), some (.int (nI (gG S 1))), some (.int (nI (mwho S 0 m))), some (.int (nI (mwho S 2 m))), some (.int (nI (mmost S c m))), some (.int (nI (1))), some (.int (nI (m))), some (.int (nI (gM S m 1))), some (.int (nI (gM S m 4))), some (.int (nI (gM S m 5))), some (.int (nI (gM S m 7))), none, none, none, none, none]) dL_holds_114 (by decide) rfl ?_
        refine G_aload_n dL_holds_116 rfl rfl ?_
        refine G_iconst (v := nI 3) dL_holds_117 (by decide) ?_
        refine G_iload dL_holds_118 rfl ?_
        refine G_bipush (v := nI 8) dL_holds_120 (by decide) ?_
        refine G_iconst (v := nI 0) dL_holds_122 (by decide) ?_
        refine G_lc (E := 110 * (n60 + 1) + 1700) (u := 4) (u2 := 5) (rest := []) zN_go dL_holds_123 lL_162 ⟨Nat.le_of_ble_eq_true rfl, Nat.le_of_ble_eq_true rfl⟩ (Nat.le_of_ble_eq_true rfl) hf ⟨by omega, rfl⟩ rv48.2 (r_member (by omega) (by decide) hT rv48.1 hG hB hf) (fun v49 rv50 => ?_)
        refine G_top (y := nI (gM S m 9)) rfl ?_
        refine G_istore (ls2 := [some (.ref (b)), some (.int (nI (x))), some (.int (nI (c))), some (.int (nI ((gN S).length))), some (.int (nI (gG S 1))), some (.int (nI (mwho S 0 m))), some (.int (nI (mwho S 2 m))), some (.int (nI (mmost S c m))), some (.int (nI (1))), some (.int (nI (m))), some (.int (nI (gM S m 1))), some (.int (nI (gM S m 4))), some (.int (nI (gM S m 5))), some (.int (nI (gM S m 7))), some (.int (nI (gM S m 9))), none, none, none, none]) dL_holds_126 (by decide) rfl ?_
        refine G_aload_n dL_holds_128 rfl rfl ?_
        refine G_iconst (v := nI 3) dL_holds_129 (by decide) ?_
        refine G_iload dL_holds_130 rfl ?_
        refine G_bipush (v := nI 9) dL_holds_132 (by decide) ?_
        refine G_iconst (v := nI 0) dL_holds_134 (by decide) ?_
        refine G_lc (E := 110 * (n60 + 1) + 1700) (u := 5) (u2 := 6) (rest := []) zN_go dL_holds_135 lL_162 ⟨Nat.le_of_ble_eq_true rfl, Nat.le_of_ble_eq_true rfl⟩ (Nat.le_of_ble_eq_true rfl) hf ⟨by omega, rfl⟩ rv50.2 (r_member (by omega) (by decide) hT rv50.1 hG hB hf) (fun v51 rv52 => ?_)
        refine G_top (y := nI (gM S m 10)) rfl ?_
        refine G_istore (ls2 := [some (.ref (b)), some (.int (nI (x))), some (.int (nI (c))), some (.int (nI ((gN S).length))), some (.int (nI (gG S 1))), some (.int (nI (mwho S 0 m))), some (.int (nI (mwho S 2 m))), some (.int (nI (mmost S c m))), some (.int (nI (1))), some (.int (nI (m))), some (.int (nI (gM S m 1))), some (.int (nI (gM S m 4))), some (.int (nI (gM S m 5))), some (.int (nI (gM S m 7))), some (.int (nI (gM S m 9))), some (.int (nI (gM S m 10))), none, none, none]) dL_holds_138 (by decide) rfl ?_
        have hJ156 : ∀ (j9 : Nat), vG (kZs zN) M_L_holds 156 [some (.ref (b)), some (.int (nI (x))), some (.int (nI (c))), some (.int (nI ((gN S).length))), some (.int (nI (gG S 1))), some (.int (nI (mwho S 0 m))), some (.int (nI (mwho S 2 m))), some (.int (nI (mmost S c m))), some (.int (nI (1))), some (.int (nI (m))), some (.int (nI (gM S m 1))), some (.int (nI (gM S m 4))), some (.int (nI (gM S m 5))), some (.int (nI (gM S m 7))), some (.int (nI (gM S m 9))), some (.int (nI (gM S m 10))), none, none, none] [.int (nI (mwho S 0 (m + 1)))] (4 * (110 * (n60 + 1) + 1700 - 6), 24 * (110 * (n60 + 1) + 1700 - 6)) (σ, v51) (vN (qC σ v b (nI 1, ((t, n), (c, S), D, sl)))) := by
          intro j9 
          refine G_istore (ls2 := [some (.ref (b)), some (.int (nI (x))), some (.int (nI (c))), some (.int (nI ((gN S).length))), some (.int (nI (gG S 1))), some (.int (nI (mwho S 0 (m + 1)))), some (.int (nI (mwho S 2 m))), some (.int (nI (mmost S c m))), some (.int (nI (1))), some (.int (nI (m))), some (.int (nI (gM S m 1))), some (.int (nI (gM S m 4))), some (.int (nI (gM S m 5))), some (.int (nI (gM S m 7))), some (.int (nI (gM S m 9))), some (.int (nI (gM S m 10))), none, none, none]) dL_holds_156 (by decide) rfl ?_
          have hJ175 : ∀ (j9 : Nat), vG (kZs zN) M_L_holds 175 [some (.ref (b)), some (.int (nI (x))), some (.int (nI (c))), some (.int (nI ((gN S).length))), some (.int (nI (gG S 1))), some (.int (nI (mwho S 0 (m + 1)))), some (.int (nI (mwho S 2 m))), some (.int (nI (mmost S c m))), some (.int (nI (1))), some (.int (nI (m))), some (.int (nI (gM S m 1))), some (.int (nI (gM S m 4))), some (.int (nI (gM S m 5))), some (.int (nI (gM S m 7))), some (.int (nI (gM S m 9))), some (.int (nI (gM S m 10))), none, none, none] [.int (nI (mwho S 2 (m + 1)))] (4 * (110 * (n60 + 1) + 1700 - 6), 24 * (110 * (n60 + 1) + 1700 - 6)) (σ, v51) (vN (qC σ v b (nI 1, ((t, n), (c, S), D, sl)))) := by
            intro j9 
            refine G_istore (ls2 := [some (.ref (b)), some (.int (nI (x))), some (.int (nI (c))), some (.int (nI ((gN S).length))), some (.int (nI (gG S 1))), some (.int (nI (mwho S 0 (m + 1)))), some (.int (nI (mwho S 2 (m + 1)))), some (.int (nI (mmost S c m))), some (.int (nI (1))), some (.int (nI (m))), some (.int (nI (gM S m 1))), some (.int (nI (gM S m 4))), some (.int (nI (gM S m 5))), some (.int (nI (gM S m 7))), some (.int (nI (gM S m 9))), some (.int (nI (gM S m 10))), none, none, none]) dL_holds_175 (by decide) rfl ?_
            refine G_iconst (v := nI 0) dL_holds_177 (by decide) ?_
            refine G_top (y := nI (mgc S m 0)) (rfl) ?_
            refine G_istore (ls2 := [some (.ref (b)), some (.int (nI (x))), some (.int (nI (c))), some (.int (nI ((gN S).length))), some (.int (nI (gG S 1))), some (.int (nI (mwho S 0 (m + 1)))), some (.int (nI (mwho S 2 (m + 1)))), some (.int (nI (mmost S c m))), some (.int (nI (1))), some (.int (nI (m))), some (.int (nI (gM S m 1))), some (.int (nI (gM S m 4))), some (.int (nI (gM S m 5))), some (.int (nI (gM S m 7))), some (.int (nI (gM S m 9))), some (.int (nI (gM S m 10))), some (.int (nI (mgc S m 0))), none, none]) dL_holds_178 (by decide) rfl ?_
            refine G_iconst (v := nI 0) dL_holds_180 (by decide) ?_
            refine G_istore (ls2 := [some (.ref (b)), some (.int (nI (x))), some (.int (nI (c))), some (.int (nI ((gN S).length))), some (.int (nI (gG S 1))), some (.int (nI (mwho S 0 (m + 1)))), some (.int (nI (mwho S 2 (m + 1)))), some (.int (nI (mmost S c m))), some (.int (nI (1))), some (.int (nI (m))), some (.int (nI (gM S m 1))), some (.int (nI (gM S m 4))), some (.int (nI (gM S m 5))), some (.int (nI (gM S m 7))), some (.int (nI (gM S m 9))), some (.int (nI (gM S m 10))), some (.int (nI (mgc S m 0))), some (.int (nI (0))), none]) dL_holds_181 (by decide) rfl ?_
            have hL183 : ∀ (n183 : Nat) (k : Nat) (w183 : vV), (RV v b ((t, n), (c, S), D, sl) w183) → (k ≤ c) → (k + n183 = c + 1) → vG (kZs zN) M_L_holds 183 [some (.ref (b)), some (.int (nI (x))), some (.int (nI (c))), some (.int (nI ((gN S).length))), some (.int (nI (gG S 1))), some (.int (nI (mwho S 0 (m + 1)))), some (.int (nI (mwho S 2 (m + 1)))), some (.int (nI (mmost S c m))), some (.int (nI (1))), some (.int (nI (m))), some (.int (nI (gM S m 1))), some (.int (nI (gM S m 4))), some (.int (nI (gM S m 5))), some (.int (nI (gM S m 7))), some (.int (nI (gM S m 9))), some (.int (nI (gM S m 10))), some (.int (nI (mgc S m k))), some (.int (nI (k))), none] [] (4 * (110 * n60 + 1700 + 6 * (n183) + 60 - 0), 24 * (110 * n60 + 1700 + 6 * (n183) + 60 - 0)) (σ, w183) (vN (qC σ v b (nI 1, ((t, n), (c, S), D, sl)))) := by
              intro n183
              induction n183 with
              | zero =>
                intro k w183 r183 h3 h4
                exact absurd h4 (by omega)
              | succ n183 ih183 =>
                intro k w183 r183 h3 h4
                refine G_iload dL_holds_183 rfl ?_
                refine G_iload_n dL_holds_185 rfl rfl ?_
                refine G_icmp_geN (tgt := 309) dL_holds_186 (by decide) (by omega) (by omega) (fun c186 => ?_) (fun c186 => ?_)
                · have ek : k = c := by omega
                  have hJ323 : ∀ (j9 : Nat), vG (kZs zN) M_L_holds 323 [some (.ref (b)), some (.int (nI (x))), some (.int (nI (c))), some (.int (nI ((gN S).length))), some (.int (nI (gG S 1))), some (.int (nI (mwho S 0 (m + 1)))), some (.int (nI (mwho S 2 (m + 1)))), some (.int (nI (mmost S c m))), some (.int (nI (1))), some (.int (nI (m))), some (.int (nI (gM S m 1))), some (.int (nI (gM S m 4))), some (.int (nI (gM S m 5))), some (.int (nI (gM S m 7))), some (.int (nI (gM S m 9))), some (.int (nI (gM S m 10))), some (.int (nI (mgc S m k))), some (.int (nI (k))), none] [.int (nI (mmost S c (m + 1)))] (4 * (110 * n60 + 1700 + 6 * (n183 + 1) + 60 - 0), 24 * (110 * n60 + 1700 + 6 * (n183 + 1) + 60 - 0)) (σ, w183) (vN (qC σ v b (nI 1, ((t, n), (c, S), D, sl)))) := by
                    intro j9 
                    refine G_istore (ls2 := [some (.ref (b)), some (.int (nI (x))), some (.int (nI (c))), some (.int (nI ((gN S).length))), some (.int (nI (gG S 1))), some (.int (nI (mwho S 0 (m + 1)))), some (.int (nI (mwho S 2 (m + 1)))), some (.int (nI (mmost S c (m + 1)))), some (.int (nI (1))), some (.int (nI (m))), some (.int (nI (gM S m 1))), some (.int (nI (gM S m 4))), some (.int (nI (gM S m 5))), some (.int (nI (gM S m 7))), some (.int (nI (gM S m 9))), some (.int (nI (gM S m 10))), some (.int (nI (mgc S m k))), some (.int (nI (k))), none]) dL_holds_323 (by decide) rfl ?_
                    refine G_iload dL_holds_325 rfl ?_
                    refine G_if_eqN (tgt := 528) dL_holds_327 (by decide) (by decide) (fun q9 => absurd q9 (by decide)) (fun _ => ?_)
                    refine G_iload dL_holds_330 rfl ?_
                    refine G_if_ltN (tgt := 528) dL_holds_332 (by decide) (by have := hN.m1 m; omega) (fun c332 => (c332).elim) (fun c332 => ?_)
                    refine G_iload dL_holds_335 rfl ?_
                    refine G_iconst (v := nI 3) dL_holds_337 (by decide) ?_
                    refine G_icmp_geN (tgt := 528) dL_holds_338 (by decide) (by have := hN.m1 m; omega) (by omega) (fun c338 => ((by have := hN.m1 m; omega : False)).elim) (fun c338 => ?_)
                    refine G_iload dL_holds_341 rfl ?_
                    refine G_iload dL_holds_343 rfl ?_
                    refine G_ishrN dL_holds_345 (by omega) (by have := hN.m4 m; omega) ?_
                    refine G_iconst (v := nI 1) dL_holds_346 (by decide) ?_
                    refine G_iandN dL_holds_347 ?_
                    refine G_iconst (v := nI 1) dL_holds_348 (by decide) ?_
                    refine G_icmp_neN (tgt := 528) dL_holds_349 (by decide) (by first | omega | exact Nat.lt_of_le_of_lt Nat.and_le_right (by decide)) (by first | omega | exact Nat.lt_of_le_of_lt Nat.and_le_right (by decide)) (fun c349 => (c349 fb).elim) (fun c349 => ?_)
                    refine G_iload dL_holds_352 rfl ?_
                    refine G_iconst (v := nI 1) dL_holds_354 (by decide) ?_
                    refine G_iload_n dL_holds_355 rfl rfl ?_
                    refine G_ishlN dL_holds_356 (by omega) ?_
                    refine G_icmp_geN (tgt := 528) dL_holds_357 (by decide) (by have := hN.m4 m; first | omega | (rw [Nat.one_shiftLeft]; have h7p := Nat.pow_le_pow_right (show 0 < 2 by decide) hc6; omega)) (by have := hN.m4 m; first | omega | (rw [Nat.one_shiftLeft]; have h7p := Nat.pow_le_pow_right (show 0 < 2 by decide) hc6; omega)) (fun c357 => ((by omega : False)).elim) (fun c357 => ?_)
                    refine G_iload dL_holds_360 rfl ?_
                    refine G_if_ltN (tgt := 528) dL_holds_362 (by decide) (by have := hN.m5 m; omega) (fun c362 => (c362).elim) (fun c362 => ?_)
                    refine G_iload dL_holds_365 rfl ?_
                    refine G_iconst (v := nI 4) dL_holds_367 (by decide) ?_
                    refine G_iload dL_holds_368 rfl ?_
                    refine G_imulN dL_holds_370 ?_
                    refine G_ishrN dL_holds_371 (by omega) (by have := hN.m5 m; omega) ?_
                    refine G_bipush (v := nI 15) dL_holds_372 (by decide) ?_
                    refine G_iandN dL_holds_374 ?_
                    refine G_iconst (v := nI 1) dL_holds_375 (by decide) ?_
                    refine G_iload dL_holds_376 rfl ?_
                    refine G_ishlN dL_holds_378 (by have := hN.m7 m; omega) ?_
                    refine G_iconst (v := nI 1) dL_holds_379 (by decide) ?_
                    refine G_isubN dL_holds_380 (by rw [Nat.one_shiftLeft]; exact Nat.pow_pos (by decide)) ?_
                    refine G_icmp_neN (tgt := 528) dL_holds_381 (by decide) (by first | exact Nat.lt_of_le_of_lt Nat.and_le_right (by decide) | (rw [Nat.one_shiftLeft]; have h7p := Nat.pow_le_pow_right (show 0 < 2 by decide) (hN.m7 m); omega)) (by first | exact Nat.lt_of_le_of_lt Nat.and_le_right (by decide) | (rw [Nat.one_shiftLeft]; have h7p := Nat.pow_le_pow_right (show 0 < 2 by decide) (hN.m7 m); omega)) (fun c381 => (c381 fh).elim) (fun c381 => ?_)
                    refine G_aload_n dL_holds_384 rfl rfl ?_
                    refine G_iconst (v := nI 3) dL_holds_385 (by decide) ?_
                    refine G_iload dL_holds_386 rfl ?_
                    refine G_bipush (v := nI 6) dL_holds_388 (by decide) ?_
                    refine G_iconst (v := nI 0) dL_holds_390 (by decide) ?_
                    refine G_lc (E := 110 * n60 + 1700 + 6 * (n183 + 1) + 60) (u := 0) (u2 := 1) (rest := []) zN_go dL_holds_391 lL_162 ⟨Nat.le_of_ble_eq_true rfl, Nat.le_of_ble_eq_true rfl⟩ (Nat.le_of_ble_eq_true rfl) hf ⟨by omega, rfl⟩ r183.2 (r_member (by omega) (by decide) hT r183.1 hG hB hf) (fun v53 rv54 => ?_)
                    refine G_top (y := nI (gM S m 6)) rfl ?_
                    refine G_aload_n dL_holds_394 rfl rfl ?_
                    refine G_iconst (v := nI 3) dL_holds_395 (by decide) ?_
                    refine G_iload dL_holds_396 rfl ?_
                    refine G_iconst (v := nI 2) dL_holds_398 (by decide) ?_
                    refine G_iconst (v := nI 0) dL_holds_399 (by decide) ?_
                    refine G_lc (E := 110 * n60 + 1700 + 6 * (n183 + 1) + 60) (u := 1) (u2 := 2) (rest := [.int (nI (gM S m 6))]) zN_go dL_holds_400 lL_162 ⟨Nat.le_of_ble_eq_true rfl, Nat.le_of_ble_eq_true rfl⟩ (Nat.le_of_ble_eq_true rfl) hf ⟨by omega, rfl⟩ rv54.2 (r_member (by omega) (by decide) hT rv54.1 hG hB hf) (fun v55 rv56 => ?_)
                    refine G_top (y := nI (gM S m 2)) rfl ?_
                    refine G_icmp_ltN (tgt := 528) dL_holds_403 (by decide) (by have := hN.m6 m; have := hN.m2 m; omega) (by have := hN.m6 m; have := hN.m2 m; omega) (fun c403 => ((by omega : False)).elim) (fun c403 => ?_)
                    refine G_iload dL_holds_406 rfl ?_
                    refine G_iload dL_holds_408 rfl ?_
                    refine G_iconst (v := -1) dL_holds_410 (by decide) ?_
                    refine G_ixor dL_holds_411 ?_
                    refine G_iand dL_holds_412 ?_
                    refine G_top (y := nI (0)) (by rw [mdif_i (by have := hN.m10 m; omega) (by have := hN.m9 m; omega), fm]) ?_
                    refine G_if_neN (tgt := 528) dL_holds_413 (by decide) (by decide) (fun q9 => absurd q9 (by decide)) (fun _ => ?_)
                    have hJ441 : ∀ (j9 : Nat), vG (kZs zN) M_L_holds 441 [some (.ref (b)), some (.int (nI (x))), some (.int (nI (c))), some (.int (nI ((gN S).length))), some (.int (nI (gG S 1))), some (.int (nI (mwho S 0 (m + 1)))), some (.int (nI (mwho S 2 (m + 1)))), some (.int (nI (mmost S c (m + 1)))), some (.int (nI (1))), some (.int (nI (m))), some (.int (nI (gM S m 1))), some (.int (nI (gM S m 4))), some (.int (nI (gM S m 5))), some (.int (nI (gM S m 7))), some (.int (nI (gM S m 9))), some (.int (nI (gM S m 10))), some (.int (nI (mgc S m k))), some (.int (nI (k))), none] [] (4 * (110 * n60 + 1700 + 6 * (n183 + 1) + 60 - 2), 24 * (110 * n60 + 1700 + 6 * (n183 + 1) + 60 - 2)) (σ, v55) (vN (qC σ v b (nI 1, ((t, n), (c, S), D, sl)))) := by
                      intro j9 
                      have hJ463 : ∀ (j9 : Nat), vG (kZs zN) M_L_holds 463 [some (.ref (b)), some (.int (nI (x))), some (.int (nI (c))), some (.int (nI ((gN S).length))), some (.int (nI (gG S 1))), some (.int (nI (mwho S 0 (m + 1)))), some (.int (nI (mwho S 2 (m + 1)))), some (.int (nI (mmost S c (m + 1)))), some (.int (nI (1))), some (.int (nI (m))), some (.int (nI (gM S m 1))), some (.int (nI (gM S m 4))), some (.int (nI (gM S m 5))), some (.int (nI (gM S m 7))), some (.int (nI (gM S m 9))), some (.int (nI (gM S m 10))), some (.int (nI (mgc S m k))), some (.int (nI (k))), none] [] (4 * (110 * n60 + 1700 + 6 * (n183 + 1) + 60 - 2), 24 * (110 * n60 + 1700 + 6 * (n183 + 1) + 60 - 2)) (σ, v55) (vN (qC σ v b (nI 1, ((t, n), (c, S), D, sl)))) := by
                        intro j9 
                        refine G_aload_n dL_holds_463 rfl rfl ?_
                        refine G_iconst (v := nI 3) dL_holds_464 (by decide) ?_
                        refine G_iload dL_holds_465 rfl ?_
                        refine G_bipush (v := nI 10) dL_holds_467 (by decide) ?_
                        refine G_iconst (v := nI 0) dL_holds_469 (by decide) ?_
                        refine G_lc (E := 110 * n60 + 1700 + 6 * (n183 + 1) + 60) (u := 2) (u2 := 3) (rest := []) zN_go dL_holds_470 lL_162 ⟨Nat.le_of_ble_eq_true rfl, Nat.le_of_ble_eq_true rfl⟩ (Nat.le_of_ble_eq_true rfl) hf ⟨by omega, rfl⟩ rv56.2 (r_member (by omega) (by decide) hT rv56.1 hG hB hf) (fun v57 rv58 => ?_)
                        refine G_top (y := nI ((gK S m).length)) rfl ?_
                        refine G_bipush (v := nI 12) dL_holds_473 (by decide) ?_
                        refine G_icmp_gtN (tgt := 528) dL_holds_475 (by decide) (by have := hl12 m; omega) (by have := hl12 m; omega) (fun c475 => ((by have := hl12 m; omega : False)).elim) (fun c475 => ?_)
                        refine G_iload dL_holds_478 rfl ?_
                        refine G_iconst (v := nI 2) dL_holds_480 (by decide) ?_
                        refine G_icmp_ltN (tgt := 497) dL_holds_481 (by decide) (by have := hN.m1 m; omega) (by omega) (fun c481 => ?_) (fun c481 => ?_)
                        · refine G_aload_n dL_holds_497 rfl rfl ?_
                          refine G_iconst (v := nI 3) dL_holds_498 (by decide) ?_
                          refine G_iload dL_holds_499 rfl ?_
                          refine G_bipush (v := nI 11) dL_holds_501 (by decide) ?_
                          refine G_iconst (v := nI 0) dL_holds_503 (by decide) ?_
                          refine G_lc (E := 110 * n60 + 1700 + 6 * (n183 + 1) + 60) (u := 3) (u2 := 4) (rest := []) zN_go dL_holds_504 lL_162 ⟨Nat.le_of_ble_eq_true rfl, Nat.le_of_ble_eq_true rfl⟩ (Nat.le_of_ble_eq_true rfl) hf ⟨by omega, rfl⟩ rv58.2 (r_member (by omega) (by decide) hT rv58.1 hG hB hf) (fun v59 rv60 => ?_)
                          refine G_top (y := nI ((gH S m).length)) rfl ?_
                          refine G_iconst (v := nI 5) dL_holds_507 (by decide) ?_
                          refine G_icmp_gtN (tgt := 528) dL_holds_508 (by decide) (by have := hl5 m; omega) (by have := hl5 m; omega) (fun c508 => ((by have := hl5 m; omega : False)).elim) (fun c508 => ?_)
                          refine G_aload_n dL_holds_511 rfl rfl ?_
                          refine G_bipush (v := nI 17) dL_holds_512 (by decide) ?_
                          refine G_iload dL_holds_514 rfl ?_
                          refine G_iconst (v := nI 0) dL_holds_516 (by decide) ?_
                          refine G_iconst (v := nI 0) dL_holds_517 (by decide) ?_
                          refine G_lc (E := 110 * n60 + 1700 + 6 * (n183 + 1) + 60) (u := 4) (u2 := 5) (rest := []) zN_go dL_holds_518 lL_162 ⟨Nat.le_of_ble_eq_true rfl, Nat.le_of_ble_eq_true rfl⟩ (Nat.le_of_ble_eq_true rfl) hf ⟨by omega, rfl⟩ rv60.2 (r_lacks (by omega) hT rv60.1 hG hB hf) (fun v61 rv62 => ?_)
                          refine G_top (y := nI (mbits (mdif (mlck S m c) (gM S m 5)) 24)) rfl ?_
                          refine G_if_ltN (tgt := 528) dL_holds_521 (by decide) (by have := mbits_le (s := mdif (mlck S m c) (gM S m 5)) 24; omega) (fun c521 => (c521).elim) (fun c521 => ?_)
                          refine G_iconst (v := nI 1) dL_holds_524 (by decide) ?_
                          refine G_goto (tgt := 529) dL_holds_525 (by decide) ?_
                          refine G_istore (ls2 := [some (.ref (b)), some (.int (nI (x))), some (.int (nI (c))), some (.int (nI ((gN S).length))), some (.int (nI (gG S 1))), some (.int (nI (mwho S 0 (m + 1)))), some (.int (nI (mwho S 2 (m + 1)))), some (.int (nI (mmost S c (m + 1)))), some (.int (nI (1))), some (.int (nI (m))), some (.int (nI (gM S m 1))), some (.int (nI (gM S m 4))), some (.int (nI (gM S m 5))), some (.int (nI (gM S m 7))), some (.int (nI (gM S m 9))), some (.int (nI (gM S m 10))), some (.int (nI (mgc S m k))), some (.int (nI (k))), none]) dL_holds_529 (by decide) rfl ?_
                          have h5m := hl5 m
                          refine G_iconst (v := nI 0) dL_holds_531 (by decide) ?_
                          refine G_istore (ls2 := [some (.ref (b)), some (.int (nI (x))), some (.int (nI (c))), some (.int (nI ((gN S).length))), some (.int (nI (gG S 1))), some (.int (nI (mwho S 0 (m + 1)))), some (.int (nI (mwho S 2 (m + 1)))), some (.int (nI (mmost S c (m + 1)))), some (.int (nI (1))), some (.int (nI (m))), some (.int (nI (gM S m 1))), some (.int (nI (gM S m 4))), some (.int (nI (gM S m 5))), some (.int (nI (gM S m 7))), some (.int (nI (gM S m 9))), some (.int (nI (gM S m 10))), some (.int (nI (mgc S m k))), some (.int (nI (0))), none]) dL_holds_532 (by decide) rfl ?_
                          have hL534 : ∀ (n534 : Nat) (k : Nat) (w534 : vV), (RV v b ((t, n), (c, S), D, sl) w534) → (k ≤ c) → (k + n534 = c + 1) → vG (kZs zN) M_L_holds 534 [some (.ref (b)), some (.int (nI (x))), some (.int (nI (c))), some (.int (nI ((gN S).length))), some (.int (nI (gG S 1))), some (.int (nI (mwho S 0 (m + 1)))), some (.int (nI (mwho S 2 (m + 1)))), some (.int (nI (mmost S c (m + 1)))), some (.int (nI (1))), some (.int (nI (m))), some (.int (nI (gM S m 1))), some (.int (nI (gM S m 4))), some (.int (nI (gM S m 5))), some (.int (nI (gM S m 7))), some (.int (nI (gM S m 9))), some (.int (nI (gM S m 10))), none, some (.int (nI (k))), none] [] (4 * (110 * n60 + 1700 + 50 - 0), 24 * (110 * n60 + 1700 + 50 - 0)) (σ, w534) (vN (qC σ v b (nI 1, ((t, n), (c, S), D, sl)))) := by
                            intro n534
                            induction n534 with
                            | zero =>
                              intro k w534 r534 h3 h4
                              exact absurd h4 (by omega)
                            | succ n534 ih534 =>
                              intro k w534 r534 h3 h4
                              refine G_iload dL_holds_534 rfl ?_
                              refine G_iload_n dL_holds_536 rfl rfl ?_
                              refine G_icmp_geN (tgt := 582) dL_holds_537 (by decide) (by omega) (by omega) (fun c537 => ?_) (fun c537 => ?_)
                              · refine G_iconst (v := nI 1) dL_holds_582 (by decide) ?_
                                refine G_istore (ls2 := [some (.ref (b)), some (.int (nI (x))), some (.int (nI (c))), some (.int (nI ((gN S).length))), some (.int (nI (gG S 1))), some (.int (nI (mwho S 0 (m + 1)))), some (.int (nI (mwho S 2 (m + 1)))), some (.int (nI (mmost S c (m + 1)))), some (.int (nI (1))), some (.int (nI (m))), some (.int (nI (gM S m 1))), some (.int (nI (gM S m 4))), some (.int (nI (gM S m 5))), some (.int (nI (gM S m 7))), some (.int (nI (gM S m 9))), some (.int (nI (gM S m 10))), none, some (.int (nI (1))), none]) dL_holds_583 (by decide) rfl ?_
                                have hL585 : ∀ (n585 : Nat) (k : Nat) (w585 : vV), (RV v b ((t, n), (c, S), D, sl) w585) → (1 ≤ k) → ((gH S m).length + 2 ≤ k + n585) → (k ≤ (gH S m).length + 1) → vG (kZs zN) M_L_holds 585 [some (.ref (b)), some (.int (nI (x))), some (.int (nI (c))), some (.int (nI ((gN S).length))), some (.int (nI (gG S 1))), some (.int (nI (mwho S 0 (m + 1)))), some (.int (nI (mwho S 2 (m + 1)))), some (.int (nI (mmost S c (m + 1)))), some (.int (nI (1))), some (.int (nI (m))), some (.int (nI (gM S m 1))), some (.int (nI (gM S m 4))), some (.int (nI (gM S m 5))), some (.int (nI (gM S m 7))), some (.int (nI (gM S m 9))), some (.int (nI (gM S m 10))), none, some (.int (nI (k))), none] [] (4 * (110 * n60 + 1700 + 5 * (n585) - 0), 24 * (110 * n60 + 1700 + 5 * (n585) - 0)) (σ, w585) (vN (qC σ v b (nI 1, ((t, n), (c, S), D, sl)))) := by
                                  intro n585
                                  induction n585 with
                                  | zero =>
                                    intro k w585 r585 h5 h6 h7
                                    exact absurd h6 (by omega)
                                  | succ n585 ih585 =>
                                    intro k w585 r585 h5 h6 h7
                                    refine G_iload dL_holds_585 rfl ?_
                                    refine G_aload_n dL_holds_587 rfl rfl ?_
                                    refine G_iconst (v := nI 3) dL_holds_588 (by decide) ?_
                                    refine G_iload dL_holds_589 rfl ?_
                                    refine G_bipush (v := nI 11) dL_holds_591 (by decide) ?_
                                    refine G_iconst (v := nI 0) dL_holds_593 (by decide) ?_
                                    refine G_lc (E := 110 * n60 + 1700 + 5 * (n585 + 1)) (u := 0) (u2 := 1) (rest := [.int (nI (k))]) zN_go dL_holds_594 lL_162 ⟨Nat.le_of_ble_eq_true rfl, Nat.le_of_ble_eq_true rfl⟩ (Nat.le_of_ble_eq_true rfl) hf ⟨by omega, rfl⟩ r585.2 (r_member (by omega) (by decide) hT r585.1 hG hB hf) (fun v63 rv64 => ?_)
                                    refine G_top (y := nI ((gH S m).length)) rfl ?_
                                    refine G_icmp_geN (tgt := 665) dL_holds_597 (by decide) (by have := hl5 m; omega) (by have := hl5 m; omega) (fun c597 => ?_) (fun c597 => ?_)
                                    · refine G_iinc (v := nI (m + 1)) (ls2 := [some (.ref (b)), some (.int (nI (x))), some (.int (nI (c))), some (.int (nI ((gN S).length))), some (.int (nI (gG S 1))), some (.int (nI (mwho S 0 (m + 1)))), some (.int (nI (mwho S 2 (m + 1)))), some (.int (nI (mmost S c (m + 1)))), some (.int (nI (1))), some (.int (nI (m + 1))), some (.int (nI (gM S m 1))), some (.int (nI (gM S m 4))), some (.int (nI (gM S m 5))), some (.int (nI (gM S m 7))), some (.int (nI (gM S m 9))), some (.int (nI (gM S m 10))), none, some (.int (nI (k))), none]) dL_holds_665 rfl (nI_inc _ 1) (by decide) rfl ?_
                                      refine G_goto (tgt := 60) dL_holds_668 (by decide) ?_
                                      refine G_weak (ls2 := [some (.ref (b)), some (.int (nI (x))), some (.int (nI (c))), some (.int (nI ((gN S).length))), some (.int (nI (gG S 1))), some (.int (nI (mwho S 0 (m + 1)))), some (.int (nI (mwho S 2 (m + 1)))), some (.int (nI (mmost S c (m + 1)))), some (.int (nI (1))), some (.int (nI (m + 1))), none, none, none, none, none, none, none, none, none]) ⟨rfl, rfl, rfl, rfl, rfl, rfl, rfl, rfl, rfl, rfl, trivial⟩ ?_
                                      refine G_bud (b2 := (4 * (110 * (n60) + 1700 - 0), 24 * (110 * (n60) + 1700 - 0))) ⟨by show 4 * (110 * (n60) + 1700 - 0) ≤ 4 * (110 * n60 + 1700 + 5 * (n585 + 1) - 1); omega, by show 24 * (110 * (n60) + 1700 - 0) ≤ 24 * (110 * n60 + 1700 + 5 * (n585 + 1) - 1); omega⟩ ?_
                                      exact ih60 (m + 1) v63 rv64 (by omega) (by omega)
                                    · refine G_iload dL_holds_600 rfl ?_
                                      refine G_if_eqN (tgt := 665) dL_holds_602 (by decide) (by decide) (fun q9 => absurd q9 (by decide)) (fun _ => ?_)
                                      refine G_aload_n dL_holds_605 rfl rfl ?_
                                      refine G_iconst (v := nI 4) dL_holds_606 (by decide) ?_
                                      refine G_iload dL_holds_607 rfl ?_
                                      refine G_iload dL_holds_609 rfl ?_
                                      refine G_iconst (v := nI 0) dL_holds_611 (by decide) ?_
                                      refine G_lc (E := 110 * n60 + 1700 + 5 * (n585 + 1)) (u := 1) (u2 := 2) (rest := []) zN_go dL_holds_612 lL_162 ⟨Nat.le_of_ble_eq_true rfl, Nat.le_of_ble_eq_true rfl⟩ (Nat.le_of_ble_eq_true rfl) hf ⟨by omega, rfl⟩ rv64.2 (r_session (by omega) (by omega) (by decide) hT rv64.1 hG hB hf) (fun v65 rv66 => ?_)
                                      refine G_top (y := nI (((gH S m).getD k t0).1)) rfl ?_
                                      refine G_aload_n dL_holds_615 rfl rfl ?_
                                      refine G_iconst (v := nI 4) dL_holds_616 (by decide) ?_
                                      refine G_iload dL_holds_617 rfl ?_
                                      refine G_iload dL_holds_619 rfl ?_
                                      refine G_iconst (v := nI 1) dL_holds_621 (by decide) ?_
                                      refine G_isubN dL_holds_622 (by omega) ?_
                                      refine G_iconst (v := nI 0) dL_holds_623 (by decide) ?_
                                      refine G_lc (E := 110 * n60 + 1700 + 5 * (n585 + 1)) (u := 2) (u2 := 3) (rest := [.int (nI (((gH S m).getD k t0).1))]) zN_go dL_holds_624 lL_162 ⟨Nat.le_of_ble_eq_true rfl, Nat.le_of_ble_eq_true rfl⟩ (Nat.le_of_ble_eq_true rfl) hf ⟨by omega, rfl⟩ rv66.2 (r_session (by omega) (by omega) (by decide) hT rv66.1 hG hB hf) (fun v67 rv68 => ?_)
                                      refine G_top (y := nI (((gH S m).getD (k - 1) t0).1)) rfl ?_
                                      refine G_icmp_leN (tgt := 656) dL_holds_627 (by decide) (by have h8 := hN.hd (m := m) (k := k) (by omega); have h9 := hN.hd (m := m) (k := k - 1) (by omega); have := hN.m2 m; omega) (by have h8 := hN.hd (m := m) (k := k) (by omega); have h9 := hN.hd (m := m) (k := k - 1) (by omega); have := hN.m2 m; omega) (fun c627 => ((by have := fl k (by omega) (by omega); omega : False)).elim) (fun c627 => ?_)
                                      refine G_aload_n dL_holds_630 rfl rfl ?_
                                      refine G_iconst (v := nI 4) dL_holds_631 (by decide) ?_
                                      refine G_iload dL_holds_632 rfl ?_
                                      refine G_iload dL_holds_634 rfl ?_
                                      refine G_iconst (v := nI 0) dL_holds_636 (by decide) ?_
                                      refine G_lc (E := 110 * n60 + 1700 + 5 * (n585 + 1)) (u := 3) (u2 := 4) (rest := []) zN_go dL_holds_637 lL_162 ⟨Nat.le_of_ble_eq_true rfl, Nat.le_of_ble_eq_true rfl⟩ (Nat.le_of_ble_eq_true rfl) hf ⟨by omega, rfl⟩ rv68.2 (r_session (by omega) (by omega) (by decide) hT rv68.1 hG hB hf) (fun v69 rv70 => ?_)
                                      refine G_top (y := nI (((gH S m).getD k t0).1)) rfl ?_
                                      refine G_aload_n dL_holds_640 rfl rfl ?_
                                      refine G_iconst (v := nI 3) dL_holds_641 (by decide) ?_
                                      refine G_iload dL_holds_642 rfl ?_
                                      refine G_iconst (v := nI 2) dL_holds_644 (by decide) ?_
                                      refine G_iconst (v := nI 0) dL_holds_645 (by decide) ?_
                                      refine G_lc (E := 110 * n60 + 1700 + 5 * (n585 + 1)) (u := 4) (u2 := 5) (rest := [.int (nI (((gH S m).getD k t0).1))]) zN_go dL_holds_646 lL_162 ⟨Nat.le_of_ble_eq_true rfl, Nat.le_of_ble_eq_true rfl⟩ (Nat.le_of_ble_eq_true rfl) hf ⟨by omega, rfl⟩ rv70.2 (r_member (by omega) (by decide) hT rv70.1 hG hB hf) (fun v71 rv72 => ?_)
                                      refine G_top (y := nI (gM S m 2)) rfl ?_
                                      refine G_icmp_geN (tgt := 656) dL_holds_649 (by decide) (by have h8 := hN.hd (m := m) (k := k) (by omega); have h9 := hN.hd (m := m) (k := k - 1) (by omega); have := hN.m2 m; omega) (by have h8 := hN.hd (m := m) (k := k) (by omega); have h9 := hN.hd (m := m) (k := k - 1) (by omega); have := hN.m2 m; omega) (fun c649 => ((by have := fn k (by omega); omega : False)).elim) (fun c649 => ?_)
                                      refine G_iconst (v := nI 1) dL_holds_652 (by decide) ?_
                                      refine G_goto (tgt := 657) dL_holds_653 (by decide) ?_
                                      refine G_istore (ls2 := [some (.ref (b)), some (.int (nI (x))), some (.int (nI (c))), some (.int (nI ((gN S).length))), some (.int (nI (gG S 1))), some (.int (nI (mwho S 0 (m + 1)))), some (.int (nI (mwho S 2 (m + 1)))), some (.int (nI (mmost S c (m + 1)))), some (.int (nI (1))), some (.int (nI (m))), some (.int (nI (gM S m 1))), some (.int (nI (gM S m 4))), some (.int (nI (gM S m 5))), some (.int (nI (gM S m 7))), some (.int (nI (gM S m 9))), some (.int (nI (gM S m 10))), none, some (.int (nI (k))), none]) dL_holds_657 (by decide) rfl ?_
                                      refine G_iinc (v := nI (k + 1)) (ls2 := [some (.ref (b)), some (.int (nI (x))), some (.int (nI (c))), some (.int (nI ((gN S).length))), some (.int (nI (gG S 1))), some (.int (nI (mwho S 0 (m + 1)))), some (.int (nI (mwho S 2 (m + 1)))), some (.int (nI (mmost S c (m + 1)))), some (.int (nI (1))), some (.int (nI (m))), some (.int (nI (gM S m 1))), some (.int (nI (gM S m 4))), some (.int (nI (gM S m 5))), some (.int (nI (gM S m 7))), some (.int (nI (gM S m 9))), some (.int (nI (gM S m 10))), none, some (.int (nI (k + 1))), none]) dL_holds_659 rfl (nI_inc _ 1) (by decide) rfl ?_
                                      refine G_goto (tgt := 585) dL_holds_662 (by decide) ?_
                                      refine G_bud (b2 := (4 * (110 * n60 + 1700 + 5 * (n585) - 0), 24 * (110 * n60 + 1700 + 5 * (n585) - 0))) ⟨by show 4 * (110 * n60 + 1700 + 5 * (n585) - 0) ≤ 4 * (110 * n60 + 1700 + 5 * (n585 + 1) - 5); omega, by show 24 * (110 * n60 + 1700 + 5 * (n585) - 0) ≤ 24 * (110 * n60 + 1700 + 5 * (n585 + 1) - 5); omega⟩ ?_
                                      exact ih585 (k + 1) v71 rv72 (by omega) (by omega) (by omega)
                                refine G_bud (b2 := (4 * (110 * n60 + 1700 + 5 * ((gH S m).length + 1) - 0), 24 * (110 * n60 + 1700 + 5 * ((gH S m).length + 1) - 0))) ⟨by show 4 * (110 * n60 + 1700 + 5 * ((gH S m).length + 1) - 0) ≤ 4 * (110 * n60 + 1700 + 50 - 0); omega, by show 24 * (110 * n60 + 1700 + 5 * ((gH S m).length + 1) - 0) ≤ 24 * (110 * n60 + 1700 + 50 - 0); omega⟩ ?_
                                exact hL585 ((gH S m).length + 1) 1 w534 r534 (Nat.le_refl _) (by omega) (by omega)
                              · refine G_iload dL_holds_540 rfl ?_
                                refine G_if_eqN (tgt := 582) dL_holds_542 (by decide) (by decide) (fun q9 => absurd q9 (by decide)) (fun _ => ?_)
                                refine G_iload dL_holds_545 rfl ?_
                                refine G_iconst (v := nI 4) dL_holds_547 (by decide) ?_
                                refine G_iload dL_holds_548 rfl ?_
                                refine G_imulN dL_holds_550 ?_
                                refine G_ishrN dL_holds_551 (by omega) (by have := hN.m5 m; omega) ?_
                                refine G_bipush (v := nI 15) dL_holds_552 (by decide) ?_
                                refine G_iandN dL_holds_554 ?_
                                refine G_if_eqN (tgt := 569) dL_holds_555 (by decide) (by first | omega | exact Nat.lt_of_le_of_lt Nat.and_le_right (by decide)) (fun c555 => ?_) (fun c555 => ?_)
                                · refine G_iconst (v := nI 1) dL_holds_569 (by decide) ?_
                                  refine G_goto (tgt := 574) dL_holds_570 (by decide) ?_
                                  refine G_istore (ls2 := [some (.ref (b)), some (.int (nI (x))), some (.int (nI (c))), some (.int (nI ((gN S).length))), some (.int (nI (gG S 1))), some (.int (nI (mwho S 0 (m + 1)))), some (.int (nI (mwho S 2 (m + 1)))), some (.int (nI (mmost S c (m + 1)))), some (.int (nI (1))), some (.int (nI (m))), some (.int (nI (gM S m 1))), some (.int (nI (gM S m 4))), some (.int (nI (gM S m 5))), some (.int (nI (gM S m 7))), some (.int (nI (gM S m 9))), some (.int (nI (gM S m 10))), none, some (.int (nI (k))), none]) dL_holds_574 (by decide) rfl ?_
                                  refine G_iinc (v := nI (k + 1)) (ls2 := [some (.ref (b)), some (.int (nI (x))), some (.int (nI (c))), some (.int (nI ((gN S).length))), some (.int (nI (gG S 1))), some (.int (nI (mwho S 0 (m + 1)))), some (.int (nI (mwho S 2 (m + 1)))), some (.int (nI (mmost S c (m + 1)))), some (.int (nI (1))), some (.int (nI (m))), some (.int (nI (gM S m 1))), some (.int (nI (gM S m 4))), some (.int (nI (gM S m 5))), some (.int (nI (gM S m 7))), some (.int (nI (gM S m 9))), some (.int (nI (gM S m 10))), none, some (.int (nI (k + 1))), none]) dL_holds_576 rfl (nI_inc _ 1) (by decide) rfl ?_
                                  refine G_goto (tgt := 534) dL_holds_579 (by decide) ?_
                                  refine G_bud (b2 := (4 * (110 * n60 + 1700 + 50 - 0), 24 * (110 * n60 + 1700 + 50 - 0))) ⟨by show 4 * (110 * n60 + 1700 + 50 - 0) ≤ 4 * (110 * n60 + 1700 + 50 - 0); omega, by show 24 * (110 * n60 + 1700 + 50 - 0) ≤ 24 * (110 * n60 + 1700 + 50 - 0); omega⟩ ?_
                                  exact ih534 (k + 1) w534 r534 (by omega) (by omega)
                                · refine G_iload dL_holds_558 rfl ?_
                                  refine G_iload dL_holds_560 rfl ?_
                                  refine G_ishrN dL_holds_562 (by omega) (by have := hN.m4 m; omega) ?_
                                  refine G_iconst (v := nI 1) dL_holds_563 (by decide) ?_
                                  refine G_iandN dL_holds_564 ?_
                                  refine G_iconst (v := nI 1) dL_holds_565 (by decide) ?_
                                  refine G_icmp_neN (tgt := 573) dL_holds_566 (by decide) (by first | omega | exact Nat.lt_of_le_of_lt Nat.and_le_right (by decide)) (by first | omega | exact Nat.lt_of_le_of_lt Nat.and_le_right (by decide)) (fun c566 => (c566 (fs k c555)).elim) (fun c566 => ?_)
                                  refine G_iconst (v := nI 1) dL_holds_569 (by decide) ?_
                                  refine G_goto (tgt := 574) dL_holds_570 (by decide) ?_
                                  refine G_istore (ls2 := [some (.ref (b)), some (.int (nI (x))), some (.int (nI (c))), some (.int (nI ((gN S).length))), some (.int (nI (gG S 1))), some (.int (nI (mwho S 0 (m + 1)))), some (.int (nI (mwho S 2 (m + 1)))), some (.int (nI (mmost S c (m + 1)))), some (.int (nI (1))), some (.int (nI (m))), some (.int (nI (gM S m 1))), some (.int (nI (gM S m 4))), some (.int (nI (gM S m 5))), some (.int (nI (gM S m 7))), some (.int (nI (gM S m 9))), some (.int (nI (gM S m 10))), none, some (.int (nI (k))), none]) dL_holds_574 (by decide) rfl ?_
                                  refine G_iinc (v := nI (k + 1)) (ls2 := [some (.ref (b)), some (.int (nI (x))), some (.int (nI (c))), some (.int (nI ((gN S).length))), some (.int (nI (gG S 1))), some (.int (nI (mwho S 0 (m + 1)))), some (.int (nI (mwho S 2 (m + 1)))), some (.int (nI (mmost S c (m + 1)))), some (.int (nI (1))), some (.int (nI (m))), some (.int (nI (gM S m 1))), some (.int (nI (gM S m 4))), some (.int (nI (gM S m 5))), some (.int (nI (gM S m 7))), some (.int (nI (gM S m 9))), some (.int (nI (gM S m 10))), none, some (.int (nI (k + 1))), none]) dL_holds_576 rfl (nI_inc _ 1) (by decide) rfl ?_
                                  refine G_goto (tgt := 534) dL_holds_579 (by decide) ?_
                                  refine G_bud (b2 := (4 * (110 * n60 + 1700 + 50 - 0), 24 * (110 * n60 + 1700 + 50 - 0))) ⟨by show 4 * (110 * n60 + 1700 + 50 - 0) ≤ 4 * (110 * n60 + 1700 + 50 - 0); omega, by show 24 * (110 * n60 + 1700 + 50 - 0) ≤ 24 * (110 * n60 + 1700 + 50 - 0); omega⟩ ?_
                                  exact ih534 (k + 1) w534 r534 (by omega) (by omega)
                          refine G_weak (ls2 := [some (.ref (b)), some (.int (nI (x))), some (.int (nI (c))), some (.int (nI ((gN S).length))), some (.int (nI (gG S 1))), some (.int (nI (mwho S 0 (m + 1)))), some (.int (nI (mwho S 2 (m + 1)))), some (.int (nI (mmost S c (m + 1)))), some (.int (nI (1))), some (.int (nI (m))), some (.int (nI (gM S m 1))), some (.int (nI (gM S m 4))), some (.int (nI (gM S m 5))), some (.int (nI (gM S m 7))), some (.int (nI (gM S m 9))), some (.int (nI (gM S m 10))), none, some (.int (nI (0))), none]) ⟨rfl, rfl, rfl, rfl, rfl, rfl, rfl, rfl, rfl, rfl, rfl, rfl, rfl, rfl, rfl, rfl, rfl, trivial⟩ ?_
                          refine G_bud (b2 := (4 * (110 * n60 + 1700 + 50 - 0), 24 * (110 * n60 + 1700 + 50 - 0))) ⟨by show 4 * (110 * n60 + 1700 + 50 - 0) ≤ 4 * (110 * n60 + 1700 + 6 * (n183 + 1) + 60 - 5); omega, by show 24 * (110 * n60 + 1700 + 50 - 0) ≤ 24 * (110 * n60 + 1700 + 6 * (n183 + 1) + 60 - 5); omega⟩ ?_
                          exact hL534 (c + 1) 0 v61 rv62 (Nat.zero_le _) (by omega)
                        · refine G_aload_n dL_holds_484 rfl rfl ?_
                          refine G_iconst (v := nI 3) dL_holds_485 (by decide) ?_
                          refine G_iload dL_holds_486 rfl ?_
                          refine G_bipush (v := nI 10) dL_holds_488 (by decide) ?_
                          refine G_iconst (v := nI 0) dL_holds_490 (by decide) ?_
                          refine G_lc (E := 110 * n60 + 1700 + 6 * (n183 + 1) + 60) (u := 3) (u2 := 4) (rest := []) zN_go dL_holds_491 lL_162 ⟨Nat.le_of_ble_eq_true rfl, Nat.le_of_ble_eq_true rfl⟩ (Nat.le_of_ble_eq_true rfl) hf ⟨by omega, rfl⟩ rv58.2 (r_member (by omega) (by decide) hT rv58.1 hG hB hf) (fun v73 rv74 => ?_)
                          refine G_top (y := nI ((gK S m).length)) rfl ?_
                          refine G_if_neN (tgt := 528) dL_holds_494 (by decide) (by have := hl12 m; omega) (fun c494 => (c494 (fk (by have := hN.m1 m; omega))).elim) (fun c494 => ?_)
                          refine G_aload_n dL_holds_497 rfl rfl ?_
                          refine G_iconst (v := nI 3) dL_holds_498 (by decide) ?_
                          refine G_iload dL_holds_499 rfl ?_
                          refine G_bipush (v := nI 11) dL_holds_501 (by decide) ?_
                          refine G_iconst (v := nI 0) dL_holds_503 (by decide) ?_
                          refine G_lc (E := 110 * n60 + 1700 + 6 * (n183 + 1) + 60) (u := 4) (u2 := 5) (rest := []) zN_go dL_holds_504 lL_162 ⟨Nat.le_of_ble_eq_true rfl, Nat.le_of_ble_eq_true rfl⟩ (Nat.le_of_ble_eq_true rfl) hf ⟨by omega, rfl⟩ rv74.2 (r_member (by omega) (by decide) hT rv74.1 hG hB hf) (fun v75 rv76 => ?_)
                          refine G_top (y := nI ((gH S m).length)) rfl ?_
                          refine G_iconst (v := nI 5) dL_holds_507 (by decide) ?_
                          refine G_icmp_gtN (tgt := 528) dL_holds_508 (by decide) (by have := hl5 m; omega) (by have := hl5 m; omega) (fun c508 => ((by have := hl5 m; omega : False)).elim) (fun c508 => ?_)
                          refine G_aload_n dL_holds_511 rfl rfl ?_
                          refine G_bipush (v := nI 17) dL_holds_512 (by decide) ?_
                          refine G_iload dL_holds_514 rfl ?_
                          refine G_iconst (v := nI 0) dL_holds_516 (by decide) ?_
                          refine G_iconst (v := nI 0) dL_holds_517 (by decide) ?_
                          refine G_lc (E := 110 * n60 + 1700 + 6 * (n183 + 1) + 60) (u := 5) (u2 := 6) (rest := []) zN_go dL_holds_518 lL_162 ⟨Nat.le_of_ble_eq_true rfl, Nat.le_of_ble_eq_true rfl⟩ (Nat.le_of_ble_eq_true rfl) hf ⟨by omega, rfl⟩ rv76.2 (r_lacks (by omega) hT rv76.1 hG hB hf) (fun v77 rv78 => ?_)
                          refine G_top (y := nI (mbits (mdif (mlck S m c) (gM S m 5)) 24)) rfl ?_
                          refine G_if_ltN (tgt := 528) dL_holds_521 (by decide) (by have := mbits_le (s := mdif (mlck S m c) (gM S m 5)) 24; omega) (fun c521 => (c521).elim) (fun c521 => ?_)
                          refine G_iconst (v := nI 1) dL_holds_524 (by decide) ?_
                          refine G_goto (tgt := 529) dL_holds_525 (by decide) ?_
                          refine G_istore (ls2 := [some (.ref (b)), some (.int (nI (x))), some (.int (nI (c))), some (.int (nI ((gN S).length))), some (.int (nI (gG S 1))), some (.int (nI (mwho S 0 (m + 1)))), some (.int (nI (mwho S 2 (m + 1)))), some (.int (nI (mmost S c (m + 1)))), some (.int (nI (1))), some (.int (nI (m))), some (.int (nI (gM S m 1))), some (.int (nI (gM S m 4))), some (.int (nI (gM S m 5))), some (.int (nI (gM S m 7))), some (.int (nI (gM S m 9))), some (.int (nI (gM S m 10))), some (.int (nI (mgc S m k))), some (.int (nI (k))), none]) dL_holds_529 (by decide) rfl ?_
                          have h5m := hl5 m
                          refine G_iconst (v := nI 0) dL_holds_531 (by decide) ?_
                          refine G_istore (ls2 := [some (.ref (b)), some (.int (nI (x))), some (.int (nI (c))), some (.int (nI ((gN S).length))), some (.int (nI (gG S 1))), some (.int (nI (mwho S 0 (m + 1)))), some (.int (nI (mwho S 2 (m + 1)))), some (.int (nI (mmost S c (m + 1)))), some (.int (nI (1))), some (.int (nI (m))), some (.int (nI (gM S m 1))), some (.int (nI (gM S m 4))), some (.int (nI (gM S m 5))), some (.int (nI (gM S m 7))), some (.int (nI (gM S m 9))), some (.int (nI (gM S m 10))), some (.int (nI (mgc S m k))), some (.int (nI (0))), none]) dL_holds_532 (by decide) rfl ?_
                          have hL534 : ∀ (n534 : Nat) (k : Nat) (w534 : vV), (RV v b ((t, n), (c, S), D, sl) w534) → (k ≤ c) → (k + n534 = c + 1) → vG (kZs zN) M_L_holds 534 [some (.ref (b)), some (.int (nI (x))), some (.int (nI (c))), some (.int (nI ((gN S).length))), some (.int (nI (gG S 1))), some (.int (nI (mwho S 0 (m + 1)))), some (.int (nI (mwho S 2 (m + 1)))), some (.int (nI (mmost S c (m + 1)))), some (.int (nI (1))), some (.int (nI (m))), some (.int (nI (gM S m 1))), some (.int (nI (gM S m 4))), some (.int (nI (gM S m 5))), some (.int (nI (gM S m 7))), some (.int (nI (gM S m 9))), some (.int (nI (gM S m 10))), none, some (.int (nI (k))), none] [] (4 * (110 * n60 + 1700 + 50 - 0), 24 * (110 * n60 + 1700 + 50 - 0)) (σ, w534) (vN (qC σ v b (nI 1, ((t, n), (c, S), D, sl)))) := by
                            intro n534
                            induction n534 with
                            | zero =>
                              intro k w534 r534 h3 h4
                              exact absurd h4 (by omega)
                            | succ n534 ih534 =>
                              intro k w534 r534 h3 h4
                              refine G_iload dL_holds_534 rfl ?_
                              refine G_iload_n dL_holds_536 rfl rfl ?_
                              refine G_icmp_geN (tgt := 582) dL_holds_537 (by decide) (by omega) (by omega) (fun c537 => ?_) (fun c537 => ?_)
                              · refine G_iconst (v := nI 1) dL_holds_582 (by decide) ?_
                                refine G_istore (ls2 := [some (.ref (b)), some (.int (nI (x))), some (.int (nI (c))), some (.int (nI ((gN S).length))), some (.int (nI (gG S 1))), some (.int (nI (mwho S 0 (m + 1)))), some (.int (nI (mwho S 2 (m + 1)))), some (.int (nI (mmost S c (m + 1)))), some (.int (nI (1))), some (.int (nI (m))), some (.int (nI (gM S m 1))), some (.int (nI (gM S m 4))), some (.int (nI (gM S m 5))), some (.int (nI (gM S m 7))), some (.int (nI (gM S m 9))), some (.int (nI (gM S m 10))), none, some (.int (nI (1))), none]) dL_holds_583 (by decide) rfl ?_
                                have hL585 : ∀ (n585 : Nat) (k : Nat) (w585 : vV), (RV v b ((t, n), (c, S), D, sl) w585) → (1 ≤ k) → ((gH S m).length + 2 ≤ k + n585) → (k ≤ (gH S m).length + 1) → vG (kZs zN) M_L_holds 585 [some (.ref (b)), some (.int (nI (x))), some (.int (nI (c))), some (.int (nI ((gN S).length))), some (.int (nI (gG S 1))), some (.int (nI (mwho S 0 (m + 1)))), some (.int (nI (mwho S 2 (m + 1)))), some (.int (nI (mmost S c (m + 1)))), some (.int (nI (1))), some (.int (nI (m))), some (.int (nI (gM S m 1))), some (.int (nI (gM S m 4))), some (.int (nI (gM S m 5))), some (.int (nI (gM S m 7))), some (.int (nI (gM S m 9))), some (.int (nI (gM S m 10))), none, some (.int (nI (k))), none] [] (4 * (110 * n60 + 1700 + 5 * (n585) - 0), 24 * (110 * n60 + 1700 + 5 * (n585) - 0)) (σ, w585) (vN (qC σ v b (nI 1, ((t, n), (c, S), D, sl)))) := by
                                  intro n585
                                  induction n585 with
                                  | zero =>
                                    intro k w585 r585 h5 h6 h7
                                    exact absurd h6 (by omega)
                                  | succ n585 ih585 =>
                                    intro k w585 r585 h5 h6 h7
                                    refine G_iload dL_holds_585 rfl ?_
                                    refine G_aload_n dL_holds_587 rfl rfl ?_
                                    refine G_iconst (v := nI 3) dL_holds_588 (by decide) ?_
                                    refine G_iload dL_holds_589 rfl ?_
                                    refine G_bipush (v := nI 11) dL_holds_591 (by decide) ?_
                                    refine G_iconst (v := nI 0) dL_holds_593 (by decide) ?_
                                    refine G_lc (E := 110 * n60 + 1700 + 5 * (n585 + 1)) (u := 0) (u2 := 1) (rest := [.int (nI (k))]) zN_go dL_holds_594 lL_162 ⟨Nat.le_of_ble_eq_true rfl, Nat.le_of_ble_eq_true rfl⟩ (Nat.le_of_ble_eq_true rfl) hf ⟨by omega, rfl⟩ r585.2 (r_member (by omega) (by decide) hT r585.1 hG hB hf) (fun v79 rv80 => ?_)
                                    refine G_top (y := nI ((gH S m).length)) rfl ?_
                                    refine G_icmp_geN (tgt := 665) dL_holds_597 (by decide) (by have := hl5 m; omega) (by have := hl5 m; omega) (fun c597 => ?_) (fun c597 => ?_)
                                    · refine G_iinc (v := nI (m + 1)) (ls2 := [some (.ref (b)), some (.int (nI (x))), some (.int (nI (c))), some (.int (nI ((gN S).length))), some (.int (nI (gG S 1))), some (.int (nI (mwho S 0 (m + 1)))), some (.int (nI (mwho S 2 (m + 1)))), some (.int (nI (mmost S c (m + 1)))), some (.int (nI (1))), some (.int (nI (m + 1))), some (.int (nI (gM S m 1))), some (.int (nI (gM S m 4))), some (.int (nI (gM S m 5))), some (.int (nI (gM S m 7))), some (.int (nI (gM S m 9))), some (.int (nI (gM S m 10))), none, some (.int (nI (k))), none]) dL_holds_665 rfl (nI_inc _ 1) (by decide) rfl ?_
                                      refine G_goto (tgt := 60) dL_holds_668 (by decide) ?_
                                      refine G_weak (ls2 := [some (.ref (b)), some (.int (nI (x))), some (.int (nI (c))), some (.int (nI ((gN S).length))), some (.int (nI (gG S 1))), some (.int (nI (mwho S 0 (m + 1)))), some (.int (nI (mwho S 2 (m + 1)))), some (.int (nI (mmost S c (m + 1)))), some (.int (nI (1))), some (.int (nI (m + 1))), none, none, none, none, none, none, none, none, none]) ⟨rfl, rfl, rfl, rfl, rfl, rfl, rfl, rfl, rfl, rfl, trivial⟩ ?_
                                      refine G_bud (b2 := (4 * (110 * (n60) + 1700 - 0), 24 * (110 * (n60) + 1700 - 0))) ⟨by show 4 * (110 * (n60) + 1700 - 0) ≤ 4 * (110 * n60 + 1700 + 5 * (n585 + 1) - 1); omega, by show 24 * (110 * (n60) + 1700 - 0) ≤ 24 * (110 * n60 + 1700 + 5 * (n585 + 1) - 1); omega⟩ ?_
                                      exact ih60 (m + 1) v79 rv80 (by omega) (by omega)
                                    · refine G_iload dL_holds_600 rfl ?_
                                      refine G_if_eqN (tgt := 665) dL_holds_602 (by decide) (by decide) (fun q9 => absurd q9 (by decide)) (fun _ => ?_)
                                      refine G_aload_n dL_holds_605 rfl rfl ?_
                                      refine G_iconst (v := nI 4) dL_holds_606 (by decide) ?_
                                      refine G_iload dL_holds_607 rfl ?_
                                      refine G_iload dL_holds_609 rfl ?_
                                      refine G_iconst (v := nI 0) dL_holds_611 (by decide) ?_
                                      refine G_lc (E := 110 * n60 + 1700 + 5 * (n585 + 1)) (u := 1) (u2 := 2) (rest := []) zN_go dL_holds_612 lL_162 ⟨Nat.le_of_ble_eq_true rfl, Nat.le_of_ble_eq_true rfl⟩ (Nat.le_of_ble_eq_true rfl) hf ⟨by omega, rfl⟩ rv80.2 (r_session (by omega) (by omega) (by decide) hT rv80.1 hG hB hf) (fun v81 rv82 => ?_)
                                      refine G_top (y := nI (((gH S m).getD k t0).1)) rfl ?_
                                      refine G_aload_n dL_holds_615 rfl rfl ?_
                                      refine G_iconst (v := nI 4) dL_holds_616 (by decide) ?_
                                      refine G_iload dL_holds_617 rfl ?_
                                      refine G_iload dL_holds_619 rfl ?_
                                      refine G_iconst (v := nI 1) dL_holds_621 (by decide) ?_
                                      refine G_isubN dL_holds_622 (by omega) ?_
                                      refine G_iconst (v := nI 0) dL_holds_623 (by decide) ?_
                                      refine G_lc (E := 110 * n60 + 1700 + 5 * (n585 + 1)) (u := 2) (u2 := 3) (rest := [.int (nI (((gH S m).getD k t0).1))]) zN_go dL_holds_624 lL_162 ⟨Nat.le_of_ble_eq_true rfl, Nat.le_of_ble_eq_true rfl⟩ (Nat.le_of_ble_eq_true rfl) hf ⟨by omega, rfl⟩ rv82.2 (r_session (by omega) (by omega) (by decide) hT rv82.1 hG hB hf) (fun v83 rv84 => ?_)
                                      refine G_top (y := nI (((gH S m).getD (k - 1) t0).1)) rfl ?_
                                      refine G_icmp_leN (tgt := 656) dL_holds_627 (by decide) (by have h8 := hN.hd (m := m) (k := k) (by omega); have h9 := hN.hd (m := m) (k := k - 1) (by omega); have := hN.m2 m; omega) (by have h8 := hN.hd (m := m) (k := k) (by omega); have h9 := hN.hd (m := m) (k := k - 1) (by omega); have := hN.m2 m; omega) (fun c627 => ((by have := fl k (by omega) (by omega); omega : False)).elim) (fun c627 => ?_)
                                      refine G_aload_n dL_holds_630 rfl rfl ?_
                                      refine G_iconst (v := nI 4) dL_holds_631 (by decide) ?_
                                      refine G_iload dL_holds_632 rfl ?_
                                      refine G_iload dL_holds_634 rfl ?_
                                      refine G_iconst (v := nI 0) dL_holds_636 (by decide) ?_
                                      refine G_lc (E := 110 * n60 + 1700 + 5 * (n585 + 1)) (u := 3) (u2 := 4) (rest := []) zN_go dL_holds_637 lL_162 ⟨Nat.le_of_ble_eq_true rfl, Nat.le_of_ble_eq_true rfl⟩ (Nat.le_of_ble_eq_true rfl) hf ⟨by omega, rfl⟩ rv84.2 (r_session (by omega) (by omega) (by decide) hT rv84.1 hG hB hf) (fun v85 rv86 => ?_)
                                      refine G_top (y := nI (((gH S m).getD k t0).1)) rfl ?_
                                      refine G_aload_n dL_holds_640 rfl rfl ?_
                                      refine G_iconst (v := nI 3) dL_holds_641 (by decide) ?_
                                      refine G_iload dL_holds_642 rfl ?_
                                      refine G_iconst (v := nI 2) dL_holds_644 (by decide) ?_
                                      refine G_iconst (v := nI 0) dL_holds_645 (by decide) ?_
                                      refine G_lc (E := 110 * n60 + 1700 + 5 * (n585 + 1)) (u := 4) (u2 := 5) (rest := [.int (nI (((gH S m).getD k t0).1))]) zN_go dL_holds_646 lL_162 ⟨Nat.le_of_ble_eq_true rfl, Nat.le_of_ble_eq_true rfl⟩ (Nat.le_of_ble_eq_true rfl) hf ⟨by omega, rfl⟩ rv86.2 (r_member (by omega) (by decide) hT rv86.1 hG hB hf) (fun v87 rv88 => ?_)
                                      refine G_top (y := nI (gM S m 2)) rfl ?_
                                      refine G_icmp_geN (tgt := 656) dL_holds_649 (by decide) (by have h8 := hN.hd (m := m) (k := k) (by omega); have h9 := hN.hd (m := m) (k := k - 1) (by omega); have := hN.m2 m; omega) (by have h8 := hN.hd (m := m) (k := k) (by omega); have h9 := hN.hd (m := m) (k := k - 1) (by omega); have := hN.m2 m; omega) (fun c649 => ((by have := fn k (by omega); omega : False)).elim) (fun c649 => ?_)
                                      refine G_iconst (v := nI 1) dL_holds_652 (by decide) ?_
                                      refine G_goto (tgt := 657) dL_holds_653 (by decide) ?_
                                      refine G_istore (ls2 := [some (.ref (b)), some (.int (nI (x))), some (.int (nI (c))), some (.int (nI ((gN S).length))), some (.int (nI (gG S 1))), some (.int (nI (mwho S 0 (m + 1)))), some (.int (nI (mwho S 2 (m + 1)))), some (.int (nI (mmost S c (m + 1)))), some (.int (nI (1))), some (.int (nI (m))), some (.int (nI (gM S m 1))), some (.int (nI (gM S m 4))), some (.int (nI (gM S m 5))), some (.int (nI (gM S m 7))), some (.int (nI (gM S m 9))), some (.int (nI (gM S m 10))), none, some (.int (nI (k))), none]) dL_holds_657 (by decide) rfl ?_
                                      refine G_iinc (v := nI (k + 1)) (ls2 := [some (.ref (b)), some (.int (nI (x))), some (.int (nI (c))), some (.int (nI ((gN S).length))), some (.int (nI (gG S 1))), some (.int (nI (mwho S 0 (m + 1)))), some (.int (nI (mwho S 2 (m + 1)))), some (.int (nI (mmost S c (m + 1)))), some (.int (nI (1))), some (.int (nI (m))), some (.int (nI (gM S m 1))), some (.int (nI (gM S m 4))), some (.int (nI (gM S m 5))), some (.int (nI (gM S m 7))), some (.int (nI (gM S m 9))), some (.int (nI (gM S m 10))), none, some (.int (nI (k + 1))), none]) dL_holds_659 rfl (nI_inc _ 1) (by decide) rfl ?_
                                      refine G_goto (tgt := 585) dL_holds_662 (by decide) ?_
                                      refine G_bud (b2 := (4 * (110 * n60 + 1700 + 5 * (n585) - 0), 24 * (110 * n60 + 1700 + 5 * (n585) - 0))) ⟨by show 4 * (110 * n60 + 1700 + 5 * (n585) - 0) ≤ 4 * (110 * n60 + 1700 + 5 * (n585 + 1) - 5); omega, by show 24 * (110 * n60 + 1700 + 5 * (n585) - 0) ≤ 24 * (110 * n60 + 1700 + 5 * (n585 + 1) - 5); omega⟩ ?_
                                      exact ih585 (k + 1) v87 rv88 (by omega) (by omega) (by omega)
                                refine G_bud (b2 := (4 * (110 * n60 + 1700 + 5 * ((gH S m).length + 1) - 0), 24 * (110 * n60 + 1700 + 5 * ((gH S m).length + 1) - 0))) ⟨by show 4 * (110 * n60 + 1700 + 5 * ((gH S m).length + 1) - 0) ≤ 4 * (110 * n60 + 1700 + 50 - 0); omega, by show 24 * (110 * n60 + 1700 + 5 * ((gH S m).length + 1) - 0) ≤ 24 * (110 * n60 + 1700 + 50 - 0); omega⟩ ?_
                                exact hL585 ((gH S m).length + 1) 1 w534 r534 (Nat.le_refl _) (by omega) (by omega)
                              · refine G_iload dL_holds_540 rfl ?_
                                refine G_if_eqN (tgt := 582) dL_holds_542 (by decide) (by decide) (fun q9 => absurd q9 (by decide)) (fun _ => ?_)
                                refine G_iload dL_holds_545 rfl ?_
                                refine G_iconst (v := nI 4) dL_holds_547 (by decide) ?_
                                refine G_iload dL_holds_548 rfl ?_
                                refine G_imulN dL_holds_550 ?_
                                refine G_ishrN dL_holds_551 (by omega) (by have := hN.m5 m; omega) ?_
                                refine G_bipush (v := nI 15) dL_holds_552 (by decide) ?_
                                refine G_iandN dL_holds_554 ?_
                                refine G_if_eqN (tgt := 569) dL_holds_555 (by decide) (by first | omega | exact Nat.lt_of_le_of_lt Nat.and_le_right (by decide)) (fun c555 => ?_) (fun c555 => ?_)
                                · refine G_iconst (v := nI 1) dL_holds_569 (by decide) ?_
                                  refine G_goto (tgt := 574) dL_holds_570 (by decide) ?_
                                  refine G_istore (ls2 := [some (.ref (b)), some (.int (nI (x))), some (.int (nI (c))), some (.int (nI ((gN S).length))), some (.int (nI (gG S 1))), some (.int (nI (mwho S 0 (m + 1)))), some (.int (nI (mwho S 2 (m + 1)))), some (.int (nI (mmost S c (m + 1)))), some (.int (nI (1))), some (.int (nI (m))), some (.int (nI (gM S m 1))), some (.int (nI (gM S m 4))), some (.int (nI (gM S m 5))), some (.int (nI (gM S m 7))), some (.int (nI (gM S m 9))), some (.int (nI (gM S m 10))), none, some (.int (nI (k))), none]) dL_holds_574 (by decide) rfl ?_
                                  refine G_iinc (v := nI (k + 1)) (ls2 := [some (.ref (b)), some (.int (nI (x))), some (.int (nI (c))), some (.int (nI ((gN S).length))), some (.int (nI (gG S 1))), some (.int (nI (mwho S 0 (m + 1)))), some (.int (nI (mwho S 2 (m + 1)))), some (.int (nI (mmost S c (m + 1)))), some (.int (nI (1))), some (.int (nI (m))), some (.int (nI (gM S m 1))), some (.int (nI (gM S m 4))), some (.int (nI (gM S m 5))), some (.int (nI (gM S m 7))), some (.int (nI (gM S m 9))), some (.int (nI (gM S m 10))), none, some (.int (nI (k + 1))), none]) dL_holds_576 rfl (nI_inc _ 1) (by decide) rfl ?_
                                  refine G_goto (tgt := 534) dL_holds_579 (by decide) ?_
                                  refine G_bud (b2 := (4 * (110 * n60 + 1700 + 50 - 0), 24 * (110 * n60 + 1700 + 50 - 0))) ⟨by show 4 * (110 * n60 + 1700 + 50 - 0) ≤ 4 * (110 * n60 + 1700 + 50 - 0); omega, by show 24 * (110 * n60 + 1700 + 50 - 0) ≤ 24 * (110 * n60 + 1700 + 50 - 0); omega⟩ ?_
                                  exact ih534 (k + 1) w534 r534 (by omega) (by omega)
                                · refine G_iload dL_holds_558 rfl ?_
                                  refine G_iload dL_holds_560 rfl ?_
                                  refine G_ishrN dL_holds_562 (by omega) (by have := hN.m4 m; omega) ?_
                                  refine G_iconst (v := nI 1) dL_holds_563 (by decide) ?_
                                  refine G_iandN dL_holds_564 ?_
                                  refine G_iconst (v := nI 1) dL_holds_565 (by decide) ?_
                                  refine G_icmp_neN (tgt := 573) dL_holds_566 (by decide) (by first | omega | exact Nat.lt_of_le_of_lt Nat.and_le_right (by decide)) (by first | omega | exact Nat.lt_of_le_of_lt Nat.and_le_right (by decide)) (fun c566 => (c566 (fs k c555)).elim) (fun c566 => ?_)
                                  refine G_iconst (v := nI 1) dL_holds_569 (by decide) ?_
                                  refine G_goto (tgt := 574) dL_holds_570 (by decide) ?_
                                  refine G_istore (ls2 := [some (.ref (b)), some (.int (nI (x))), some (.int (nI (c))), some (.int (nI ((gN S).length))), some (.int (nI (gG S 1))), some (.int (nI (mwho S 0 (m + 1)))), some (.int (nI (mwho S 2 (m + 1)))), some (.int (nI (mmost S c (m + 1)))), some (.int (nI (1))), some (.int (nI (m))), some (.int (nI (gM S m 1))), some (.int (nI (gM S m 4))), some (.int (nI (gM S m 5))), some (.int (nI (gM S m 7))), some (.int (nI (gM S m 9))), some (.int (nI (gM S m 10))), none, some (.int (nI (k))), none]) dL_holds_574 (by decide) rfl ?_
                                  refine G_iinc (v := nI (k + 1)) (ls2 := [some (.ref (b)), some (.int (nI (x))), some (.int (nI (c))), some (.int (nI ((gN S).length))), some (.int (nI (gG S 1))), some (.int (nI (mwho S 0 (m + 1)))), some (.int (nI (mwho S 2 (m + 1)))), some (.int (nI (mmost S c (m + 1)))), some (.int (nI (1))), some (.int (nI (m))), some (.int (nI (gM S m 1))), some (.int (nI (gM S m 4))), some (.int (nI (gM S m 5))), some (.int (nI (gM S m 7))), some (.int (nI (gM S m 9))), some (.int (nI (gM S m 10))), none, some (.int (nI (k + 1))), none]) dL_holds_576 rfl (nI_inc _ 1) (by decide) rfl ?_
                                  refine G_goto (tgt := 534) dL_holds_579 (by decide) ?_
                                  refine G_bud (b2 := (4 * (110 * n60 + 1700 + 50 - 0), 24 * (110 * n60 + 1700 + 50 - 0))) ⟨by show 4 * (110 * n60 + 1700 + 50 - 0) ≤ 4 * (110 * n60 + 1700 + 50 - 0); omega, by show 24 * (110 * n60 + 1700 + 50 - 0) ≤ 24 * (110 * n60 + 1700 + 50 - 0); omega⟩ ?_
                                  exact ih534 (k + 1) w534 r534 (by omega) (by omega)
                          refine G_weak (ls2 := [some (.ref (b)), some (.int (nI (x))), some (.int (nI (c))), some (.int (nI ((gN S).length))), some (.int (nI (gG S 1))), some (.int (nI (mwho S 0 (m + 1)))), some (.int (nI (mwho S 2 (m + 1)))), some (.int (nI (mmost S c (m + 1)))), some (.int (nI (1))), some (.int (nI (m))), some (.int (nI (gM S m 1))), some (.int (nI (gM S m 4))), some (.int (nI (gM S m 5))), some (.int (nI (gM S m 7))), some (.int (nI (gM S m 9))), some (.int (nI (gM S m 10))), none, some (.int (nI (0))), none]) ⟨rfl, rfl, rfl, rfl, rfl, rfl, rfl, rfl, rfl, rfl, rfl, rfl, rfl, rfl, rfl, rfl, rfl, trivial⟩ ?_
                          refine G_bud (b2 := (4 * (110 * n60 + 1700 + 50 - 0), 24 * (110 * n60 + 1700 + 50 - 0))) ⟨by show 4 * (110 * n60 + 1700 + 50 - 0) ≤ 4 * (110 * n60 + 1700 + 6 * (n183 + 1) + 60 - 6); omega, by show 24 * (110 * n60 + 1700 + 50 - 0) ≤ 24 * (110 * n60 + 1700 + 6 * (n183 + 1) + 60 - 6); omega⟩ ?_
                          exact hL534 (c + 1) 0 v77 rv78 (Nat.zero_le _) (by omega)
                      refine G_iload dL_holds_441 rfl ?_
                      refine G_if_eqN (tgt := 463) dL_holds_443 (by decide) (by have := hN.m9 m; omega) (fun c443 => ?_) (fun c443 => ?_)
                      · exact hJ463 0
                      · refine G_iload dL_holds_446 rfl ?_
                        refine G_iload dL_holds_448 rfl ?_
                        refine G_ishrN dL_holds_450 (by omega) (by have := hN.m10 m; omega) ?_
                        refine G_iconst (v := nI 1) dL_holds_451 (by decide) ?_
                        refine G_iandN dL_holds_452 ?_
                        refine G_iconst (v := nI 1) dL_holds_453 (by decide) ?_
                        refine G_icmp_neN (tgt := 528) dL_holds_454 (by decide) (by first | omega | exact Nat.lt_of_le_of_lt Nat.and_le_right (by decide)) (by first | omega | exact Nat.lt_of_le_of_lt Nat.and_le_right (by decide)) (fun c454 => (c454 (fc c443).1).elim) (fun c454 => ?_)
                        refine G_iload dL_holds_457 rfl ?_
                        refine G_iconst (v := nI 1) dL_holds_459 (by decide) ?_
                        refine G_icmp_neN (tgt := 528) dL_holds_460 (by decide) (by have := hN.m1 m; omega) (by omega) (fun c460 => (c460 (fc c443).2).elim) (fun c460 => ?_)
                        exact hJ463 0
                    refine G_iload dL_holds_416 rfl ?_
                    refine G_iload dL_holds_418 rfl ?_
                    refine G_icmp_eqN (tgt := 427) dL_holds_420 (by decide) (by have := hN.m10 m; have := hN.m9 m; omega) (by have := hN.m10 m; have := hN.m9 m; omega) (fun c420 => ?_) (fun c420 => ?_)
                    · refine G_iconst (v := nI 0) dL_holds_427 (by decide) ?_
                      refine G_iload dL_holds_428 rfl ?_
                      refine G_if_leN (tgt := 437) dL_holds_430 (by decide) (by have := hN.m9 m; omega) (fun c430 => ?_) (fun c430 => (c430 (fa c420)).elim)
                      refine G_iconst (v := nI 0) dL_holds_437 (by decide) ?_
                      refine G_icmp_neN (tgt := 528) dL_holds_438 (by decide) (by decide) (by decide) (fun c438 => absurd c438 (by decide)) (fun c438 => ?_)
                      exact hJ441 0
                    · refine G_iconst (v := nI 1) dL_holds_423 (by decide) ?_
                      refine G_goto (tgt := 428) dL_holds_424 (by decide) ?_
                      refine G_iload dL_holds_428 rfl ?_
                      refine G_if_leN (tgt := 437) dL_holds_430 (by decide) (by have := hN.m9 m; omega) (fun c430 => (c420 (fz c430)).elim) (fun c430 => ?_)
                      refine G_iconst (v := nI 1) dL_holds_433 (by decide) ?_
                      refine G_goto (tgt := 438) dL_holds_434 (by decide) ?_
                      refine G_icmp_neN (tgt := 528) dL_holds_438 (by decide) (by decide) (by decide) (fun c438 => absurd c438 (by decide)) (fun c438 => ?_)
                      exact hJ441 0
                  refine G_iload dL_holds_309 rfl ?_
                  refine G_iload dL_holds_311 rfl ?_
                  refine G_icmp_leN (tgt := 321) dL_holds_313 (by decide) (by have := mgc_le (S := S) (m := m) k; have := mmost_le (S := S) (c := c) m; omega) (by have := mgc_le (S := S) (m := m) k; have := mmost_le (S := S) (c := c) m; omega) (fun c313 => ?_) (fun c313 => ?_)
                  · refine G_iload dL_holds_321 rfl ?_
                    refine G_top (y := nI (mmost S c (m + 1))) (by rw [mmost, show mgc S m c = mgc S m k by rw [ek]]; first | rw [if_pos (by omega)] | rw [if_neg (by omega)]) ?_
                    exact hJ323 0
                  · refine G_iload dL_holds_316 rfl ?_
                    refine G_goto (tgt := 323) dL_holds_318 (by decide) ?_
                    refine G_top (y := nI (mmost S c (m + 1))) (by rw [mmost, show mgc S m c = mgc S m k by rw [ek]]; first | rw [if_pos (by omega)] | rw [if_neg (by omega)]) ?_
                    exact hJ323 0
                · refine G_aload_n dL_holds_189 rfl rfl ?_
                  refine G_iconst (v := nI 3) dL_holds_190 (by decide) ?_
                  refine G_iload dL_holds_191 rfl ?_
                  refine G_iconst (v := nI 2) dL_holds_193 (by decide) ?_
                  refine G_iconst (v := nI 0) dL_holds_194 (by decide) ?_
                  refine G_lc (E := 110 * n60 + 1700 + 6 * (n183 + 1) + 60) (u := 0) (u2 := 1) (rest := []) zN_go dL_holds_195 lL_162 ⟨Nat.le_of_ble_eq_true rfl, Nat.le_of_ble_eq_true rfl⟩ (Nat.le_of_ble_eq_true rfl) hf ⟨by omega, rfl⟩ r183.2 (r_member (by omega) (by decide) hT r183.1 hG hB hf) (fun v89 rv90 => ?_)
                  refine G_top (y := nI (gM S k 2)) rfl ?_
                  refine G_aload_n dL_holds_198 rfl rfl ?_
                  refine G_iconst (v := nI 3) dL_holds_199 (by decide) ?_
                  refine G_iload dL_holds_200 rfl ?_
                  refine G_iconst (v := nI 2) dL_holds_202 (by decide) ?_
                  refine G_iconst (v := nI 0) dL_holds_203 (by decide) ?_
                  refine G_lc (E := 110 * n60 + 1700 + 6 * (n183 + 1) + 60) (u := 1) (u2 := 2) (rest := [.int (nI (gM S k 2))]) zN_go dL_holds_204 lL_162 ⟨Nat.le_of_ble_eq_true rfl, Nat.le_of_ble_eq_true rfl⟩ (Nat.le_of_ble_eq_true rfl) hf ⟨by omega, rfl⟩ rv90.2 (r_member (by omega) (by decide) hT rv90.1 hG hB hf) (fun v91 rv92 => ?_)
                  refine G_top (y := nI (gM S m 2)) rfl ?_
                  refine G_icmp_neN (tgt := 235) dL_holds_207 (by decide) (by have := hN.m2 k; omega) (by have := hN.m2 m; omega) (fun c207 => ?_) (fun c207 => ?_)
                  · refine G_iconst (v := nI 0) dL_holds_235 (by decide) ?_
                    refine G_istore (ls2 := [some (.ref (b)), some (.int (nI (x))), some (.int (nI (c))), some (.int (nI ((gN S).length))), some (.int (nI (gG S 1))), some (.int (nI (mwho S 0 (m + 1)))), some (.int (nI (mwho S 2 (m + 1)))), some (.int (nI (mmost S c m))), some (.int (nI (1))), some (.int (nI (m))), some (.int (nI (gM S m 1))), some (.int (nI (gM S m 4))), some (.int (nI (gM S m 5))), some (.int (nI (gM S m 7))), some (.int (nI (gM S m 9))), some (.int (nI (gM S m 10))), some (.int (nI (mgc S m k))), some (.int (nI (k))), some (.int (nI (0)))]) dL_holds_236 (by decide) rfl ?_
                    refine G_iload dL_holds_238 rfl ?_
                    refine G_iload dL_holds_240 rfl ?_
                    refine G_if_eqN (tgt := 268) dL_holds_242 (by decide) (by decide) (fun _ => ?_) (fun q9 => absurd q9 (by decide))
                    refine G_iconst (v := nI 0) dL_holds_268 (by decide) ?_
                    refine G_iaddN dL_holds_269 ?_
                    refine G_istore (ls2 := [some (.ref (b)), some (.int (nI (x))), some (.int (nI (c))), some (.int (nI ((gN S).length))), some (.int (nI (gG S 1))), some (.int (nI (mwho S 0 (m + 1)))), some (.int (nI (mwho S 2 (m + 1)))), some (.int (nI (mmost S c m))), some (.int (nI (1))), some (.int (nI (m))), some (.int (nI (gM S m 1))), some (.int (nI (gM S m 4))), some (.int (nI (gM S m 5))), some (.int (nI (gM S m 7))), some (.int (nI (gM S m 9))), some (.int (nI (gM S m 10))), some (.int (nI (mgc S m k + 0))), some (.int (nI (k))), some (.int (nI (0)))]) dL_holds_270 (by decide) rfl ?_
                    refine G_iload dL_holds_272 rfl ?_
                    refine G_if_eqN (tgt := 300) dL_holds_274 (by decide) (by decide) (fun q9 => absurd q9 (by decide)) (fun _ => ?_)
                    refine G_iload dL_holds_277 rfl ?_
                    refine G_if_eqN (tgt := 296) dL_holds_279 (by decide) (by decide) (fun _ => ?_) (fun q9 => absurd q9 (by decide))
                    refine G_iconst (v := nI 1) dL_holds_296 (by decide) ?_
                    refine G_goto (tgt := 301) dL_holds_297 (by decide) ?_
                    refine G_istore (ls2 := [some (.ref (b)), some (.int (nI (x))), some (.int (nI (c))), some (.int (nI ((gN S).length))), some (.int (nI (gG S 1))), some (.int (nI (mwho S 0 (m + 1)))), some (.int (nI (mwho S 2 (m + 1)))), some (.int (nI (mmost S c m))), some (.int (nI (1))), some (.int (nI (m))), some (.int (nI (gM S m 1))), some (.int (nI (gM S m 4))), some (.int (nI (gM S m 5))), some (.int (nI (gM S m 7))), some (.int (nI (gM S m 9))), some (.int (nI (gM S m 10))), some (.int (nI (mgc S m k + 0))), some (.int (nI (k))), some (.int (nI (0)))]) dL_holds_301 (by decide) rfl ?_
                    refine G_iinc (v := nI (k + 1)) (ls2 := [some (.ref (b)), some (.int (nI (x))), some (.int (nI (c))), some (.int (nI ((gN S).length))), some (.int (nI (gG S 1))), some (.int (nI (mwho S 0 (m + 1)))), some (.int (nI (mwho S 2 (m + 1)))), some (.int (nI (mmost S c m))), some (.int (nI (1))), some (.int (nI (m))), some (.int (nI (gM S m 1))), some (.int (nI (gM S m 4))), some (.int (nI (gM S m 5))), some (.int (nI (gM S m 7))), some (.int (nI (gM S m 9))), some (.int (nI (gM S m 10))), some (.int (nI (mgc S m k + 0))), some (.int (nI (k + 1))), some (.int (nI (0)))]) dL_holds_303 rfl (nI_inc _ 1) (by decide) rfl ?_
                    refine G_goto (tgt := 183) dL_holds_306 (by decide) ?_
                    rw [show mgc S m k + 0 = mgc S m (k + 1) by rw [mgc]; first | rw [if_pos (by omega)] | rw [if_neg (by omega)]]
                    refine G_weak (ls2 := [some (.ref (b)), some (.int (nI (x))), some (.int (nI (c))), some (.int (nI ((gN S).length))), some (.int (nI (gG S 1))), some (.int (nI (mwho S 0 (m + 1)))), some (.int (nI (mwho S 2 (m + 1)))), some (.int (nI (mmost S c m))), some (.int (nI (1))), some (.int (nI (m))), some (.int (nI (gM S m 1))), some (.int (nI (gM S m 4))), some (.int (nI (gM S m 5))), some (.int (nI (gM S m 7))), some (.int (nI (gM S m 9))), some (.int (nI (gM S m 10))), some (.int (nI (mgc S m (k + 1)))), some (.int (nI (k + 1))), none]) ⟨rfl, rfl, rfl, rfl, rfl, rfl, rfl, rfl, rfl, rfl, rfl, rfl, rfl, rfl, rfl, rfl, rfl, rfl, trivial⟩ ?_
                    refine G_bud (b2 := (4 * (110 * n60 + 1700 + 6 * (n183) + 60 - 0), 24 * (110 * n60 + 1700 + 6 * (n183) + 60 - 0))) ⟨by show 4 * (110 * n60 + 1700 + 6 * (n183) + 60 - 0) ≤ 4 * (110 * n60 + 1700 + 6 * (n183 + 1) + 60 - 2); omega, by show 24 * (110 * n60 + 1700 + 6 * (n183) + 60 - 0) ≤ 24 * (110 * n60 + 1700 + 6 * (n183 + 1) + 60 - 2); omega⟩ ?_
                    exact ih183 (k + 1) v91 rv92 (by omega) (by omega)
                  · refine G_aload_n dL_holds_210 rfl rfl ?_
                    refine G_iconst (v := nI 3) dL_holds_211 (by decide) ?_
                    refine G_iload dL_holds_212 rfl ?_
                    refine G_iconst (v := nI 3) dL_holds_214 (by decide) ?_
                    refine G_iconst (v := nI 0) dL_holds_215 (by decide) ?_
                    refine G_lc (E := 110 * n60 + 1700 + 6 * (n183 + 1) + 60) (u := 2) (u2 := 3) (rest := []) zN_go dL_holds_216 lL_162 ⟨Nat.le_of_ble_eq_true rfl, Nat.le_of_ble_eq_true rfl⟩ (Nat.le_of_ble_eq_true rfl) hf ⟨by omega, rfl⟩ rv92.2 (r_member (by omega) (by decide) hT rv92.1 hG hB hf) (fun v93 rv94 => ?_)
                    refine G_top (y := nI (gM S k 3)) rfl ?_
                    refine G_aload_n dL_holds_219 rfl rfl ?_
                    refine G_iconst (v := nI 3) dL_holds_220 (by decide) ?_
                    refine G_iload dL_holds_221 rfl ?_
                    refine G_iconst (v := nI 3) dL_holds_223 (by decide) ?_
                    refine G_iconst (v := nI 0) dL_holds_224 (by decide) ?_
                    refine G_lc (E := 110 * n60 + 1700 + 6 * (n183 + 1) + 60) (u := 3) (u2 := 4) (rest := [.int (nI (gM S k 3))]) zN_go dL_holds_225 lL_162 ⟨Nat.le_of_ble_eq_true rfl, Nat.le_of_ble_eq_true rfl⟩ (Nat.le_of_ble_eq_true rfl) hf ⟨by omega, rfl⟩ rv94.2 (r_member (by omega) (by decide) hT rv94.1 hG hB hf) (fun v95 rv96 => ?_)
                    refine G_top (y := nI (gM S m 3)) rfl ?_
                    refine G_icmp_neN (tgt := 235) dL_holds_228 (by decide) (by have := hN.m3 k; omega) (by have := hN.m3 m; omega) (fun c228 => ?_) (fun c228 => ?_)
                    · refine G_iconst (v := nI 0) dL_holds_235 (by decide) ?_
                      refine G_istore (ls2 := [some (.ref (b)), some (.int (nI (x))), some (.int (nI (c))), some (.int (nI ((gN S).length))), some (.int (nI (gG S 1))), some (.int (nI (mwho S 0 (m + 1)))), some (.int (nI (mwho S 2 (m + 1)))), some (.int (nI (mmost S c m))), some (.int (nI (1))), some (.int (nI (m))), some (.int (nI (gM S m 1))), some (.int (nI (gM S m 4))), some (.int (nI (gM S m 5))), some (.int (nI (gM S m 7))), some (.int (nI (gM S m 9))), some (.int (nI (gM S m 10))), some (.int (nI (mgc S m k))), some (.int (nI (k))), some (.int (nI (0)))]) dL_holds_236 (by decide) rfl ?_
                      refine G_iload dL_holds_238 rfl ?_
                      refine G_iload dL_holds_240 rfl ?_
                      refine G_if_eqN (tgt := 268) dL_holds_242 (by decide) (by decide) (fun _ => ?_) (fun q9 => absurd q9 (by decide))
                      refine G_iconst (v := nI 0) dL_holds_268 (by decide) ?_
                      refine G_iaddN dL_holds_269 ?_
                      refine G_istore (ls2 := [some (.ref (b)), some (.int (nI (x))), some (.int (nI (c))), some (.int (nI ((gN S).length))), some (.int (nI (gG S 1))), some (.int (nI (mwho S 0 (m + 1)))), some (.int (nI (mwho S 2 (m + 1)))), some (.int (nI (mmost S c m))), some (.int (nI (1))), some (.int (nI (m))), some (.int (nI (gM S m 1))), some (.int (nI (gM S m 4))), some (.int (nI (gM S m 5))), some (.int (nI (gM S m 7))), some (.int (nI (gM S m 9))), some (.int (nI (gM S m 10))), some (.int (nI (mgc S m k + 0))), some (.int (nI (k))), some (.int (nI (0)))]) dL_holds_270 (by decide) rfl ?_
                      refine G_iload dL_holds_272 rfl ?_
                      refine G_if_eqN (tgt := 300) dL_holds_274 (by decide) (by decide) (fun q9 => absurd q9 (by decide)) (fun _ => ?_)
                      refine G_iload dL_holds_277 rfl ?_
                      refine G_if_eqN (tgt := 296) dL_holds_279 (by decide) (by decide) (fun _ => ?_) (fun q9 => absurd q9 (by decide))
                      refine G_iconst (v := nI 1) dL_holds_296 (by decide) ?_
                      refine G_goto (tgt := 301) dL_holds_297 (by decide) ?_
                      refine G_istore (ls2 := [some (.ref (b)), some (.int (nI (x))), some (.int (nI (c))), some (.int (nI ((gN S).length))), some (.int (nI (gG S 1))), some (.int (nI (mwho S 0 (m + 1)))), some (.int (nI (mwho S 2 (m + 1)))), some (.int (nI (mmost S c m))), some (.int (nI (1))), some (.int (nI (m))), some (.int (nI (gM S m 1))), some (.int (nI (gM S m 4))), some (.int (nI (gM S m 5))), some (.int (nI (gM S m 7))), some (.int (nI (gM S m 9))), some (.int (nI (gM S m 10))), some (.int (nI (mgc S m k + 0))), some (.int (nI (k))), some (.int (nI (0)))]) dL_holds_301 (by decide) rfl ?_
                      refine G_iinc (v := nI (k + 1)) (ls2 := [some (.ref (b)), some (.int (nI (x))), some (.int (nI (c))), some (.int (nI ((gN S).length))), some (.int (nI (gG S 1))), some (.int (nI (mwho S 0 (m + 1)))), some (.int (nI (mwho S 2 (m + 1)))), some (.int (nI (mmost S c m))), some (.int (nI (1))), some (.int (nI (m))), some (.int (nI (gM S m 1))), some (.int (nI (gM S m 4))), some (.int (nI (gM S m 5))), some (.int (nI (gM S m 7))), some (.int (nI (gM S m 9))), some (.int (nI (gM S m 10))), some (.int (nI (mgc S m k + 0))), some (.int (nI (k + 1))), some (.int (nI (0)))]) dL_holds_303 rfl (nI_inc _ 1) (by decide) rfl ?_
                      refine G_goto (tgt := 183) dL_holds_306 (by decide) ?_
                      rw [show mgc S m k + 0 = mgc S m (k + 1) by rw [mgc]; first | rw [if_pos (by omega)] | rw [if_neg (by omega)]]
                      refine G_weak (ls2 := [some (.ref (b)), some (.int (nI (x))), some (.int (nI (c))), some (.int (nI ((gN S).length))), some (.int (nI (gG S 1))), some (.int (nI (mwho S 0 (m + 1)))), some (.int (nI (mwho S 2 (m + 1)))), some (.int (nI (mmost S c m))), some (.int (nI (1))), some (.int (nI (m))), some (.int (nI (gM S m 1))), some (.int (nI (gM S m 4))), some (.int (nI (gM S m 5))), some (.int (nI (gM S m 7))), some (.int (nI (gM S m 9))), some (.int (nI (gM S m 10))), some (.int (nI (mgc S m (k + 1)))), some (.int (nI (k + 1))), none]) ⟨rfl, rfl, rfl, rfl, rfl, rfl, rfl, rfl, rfl, rfl, rfl, rfl, rfl, rfl, rfl, rfl, rfl, rfl, trivial⟩ ?_
                      refine G_bud (b2 := (4 * (110 * n60 + 1700 + 6 * (n183) + 60 - 0), 24 * (110 * n60 + 1700 + 6 * (n183) + 60 - 0))) ⟨by show 4 * (110 * n60 + 1700 + 6 * (n183) + 60 - 0) ≤ 4 * (110 * n60 + 1700 + 6 * (n183 + 1) + 60 - 4); omega, by show 24 * (110 * n60 + 1700 + 6 * (n183) + 60 - 0) ≤ 24 * (110 * n60 + 1700 + 6 * (n183 + 1) + 60 - 4); omega⟩ ?_
                      exact ih183 (k + 1) v95 rv96 (by omega) (by omega)
                    · refine G_iconst (v := nI 1) dL_holds_231 (by decide) ?_
                      refine G_goto (tgt := 236) dL_holds_232 (by decide) ?_
                      refine G_istore (ls2 := [some (.ref (b)), some (.int (nI (x))), some (.int (nI (c))), some (.int (nI ((gN S).length))), some (.int (nI (gG S 1))), some (.int (nI (mwho S 0 (m + 1)))), some (.int (nI (mwho S 2 (m + 1)))), some (.int (nI (mmost S c m))), some (.int (nI (1))), some (.int (nI (m))), some (.int (nI (gM S m 1))), some (.int (nI (gM S m 4))), some (.int (nI (gM S m 5))), some (.int (nI (gM S m 7))), some (.int (nI (gM S m 9))), some (.int (nI (gM S m 10))), some (.int (nI (mgc S m k))), some (.int (nI (k))), some (.int (nI (1)))]) dL_holds_236 (by decide) rfl ?_
                      refine G_iload dL_holds_238 rfl ?_
                      refine G_iload dL_holds_240 rfl ?_
                      refine G_if_eqN (tgt := 268) dL_holds_242 (by decide) (by decide) (fun q9 => absurd q9 (by decide)) (fun _ => ?_)
                      refine G_iload dL_holds_245 rfl ?_
                      refine G_iconst (v := nI 2) dL_holds_247 (by decide) ?_
                      refine G_icmp_geN (tgt := 268) dL_holds_248 (by decide) (by have := hN.m1 m; omega) (by omega) (fun c248 => ?_) (fun c248 => ?_)
                      · refine G_iconst (v := nI 0) dL_holds_268 (by decide) ?_
                        refine G_iaddN dL_holds_269 ?_
                        refine G_istore (ls2 := [some (.ref (b)), some (.int (nI (x))), some (.int (nI (c))), some (.int (nI ((gN S).length))), some (.int (nI (gG S 1))), some (.int (nI (mwho S 0 (m + 1)))), some (.int (nI (mwho S 2 (m + 1)))), some (.int (nI (mmost S c m))), some (.int (nI (1))), some (.int (nI (m))), some (.int (nI (gM S m 1))), some (.int (nI (gM S m 4))), some (.int (nI (gM S m 5))), some (.int (nI (gM S m 7))), some (.int (nI (gM S m 9))), some (.int (nI (gM S m 10))), some (.int (nI (mgc S m k + 0))), some (.int (nI (k))), some (.int (nI (1)))]) dL_holds_270 (by decide) rfl ?_
                        refine G_iload dL_holds_272 rfl ?_
                        refine G_if_eqN (tgt := 300) dL_holds_274 (by decide) (by decide) (fun q9 => absurd q9 (by decide)) (fun _ => ?_)
                        refine G_iload dL_holds_277 rfl ?_
                        refine G_if_eqN (tgt := 296) dL_holds_279 (by decide) (by decide) (fun q9 => absurd q9 (by decide)) (fun _ => ?_)
                        refine G_aload_n dL_holds_282 rfl rfl ?_
                        refine G_iconst (v := nI 3) dL_holds_283 (by decide) ?_
                        refine G_iload dL_holds_284 rfl ?_
                        refine G_iconst (v := nI 4) dL_holds_286 (by decide) ?_
                        refine G_iconst (v := nI 0) dL_holds_287 (by decide) ?_
                        refine G_lc (E := 110 * n60 + 1700 + 6 * (n183 + 1) + 60) (u := 4) (u2 := 5) (rest := []) zN_go dL_holds_288 lL_162 ⟨Nat.le_of_ble_eq_true rfl, Nat.le_of_ble_eq_true rfl⟩ (Nat.le_of_ble_eq_true rfl) hf ⟨by omega, rfl⟩ rv96.2 (r_member (by omega) (by decide) hT rv96.1 hG hB hf) (fun v97 rv98 => ?_)
                        refine G_top (y := nI (gM S k 4)) rfl ?_
                        refine G_iload dL_holds_291 rfl ?_
                        refine G_icmp_neN (tgt := 300) dL_holds_293 (by decide) (by have := hN.m4 k; omega) (by have := hN.m4 m; omega) (fun c293 => (c293 (fact_set hJ (by omega) (by omega) c207 c228)).elim) (fun c293 => ?_)
                        refine G_iconst (v := nI 1) dL_holds_296 (by decide) ?_
                        refine G_goto (tgt := 301) dL_holds_297 (by decide) ?_
                        refine G_istore (ls2 := [some (.ref (b)), some (.int (nI (x))), some (.int (nI (c))), some (.int (nI ((gN S).length))), some (.int (nI (gG S 1))), some (.int (nI (mwho S 0 (m + 1)))), some (.int (nI (mwho S 2 (m + 1)))), some (.int (nI (mmost S c m))), some (.int (nI (1))), some (.int (nI (m))), some (.int (nI (gM S m 1))), some (.int (nI (gM S m 4))), some (.int (nI (gM S m 5))), some (.int (nI (gM S m 7))), some (.int (nI (gM S m 9))), some (.int (nI (gM S m 10))), some (.int (nI (mgc S m k + 0))), some (.int (nI (k))), some (.int (nI (1)))]) dL_holds_301 (by decide) rfl ?_
                        refine G_iinc (v := nI (k + 1)) (ls2 := [some (.ref (b)), some (.int (nI (x))), some (.int (nI (c))), some (.int (nI ((gN S).length))), some (.int (nI (gG S 1))), some (.int (nI (mwho S 0 (m + 1)))), some (.int (nI (mwho S 2 (m + 1)))), some (.int (nI (mmost S c m))), some (.int (nI (1))), some (.int (nI (m))), some (.int (nI (gM S m 1))), some (.int (nI (gM S m 4))), some (.int (nI (gM S m 5))), some (.int (nI (gM S m 7))), some (.int (nI (gM S m 9))), some (.int (nI (gM S m 10))), some (.int (nI (mgc S m k + 0))), some (.int (nI (k + 1))), some (.int (nI (1)))]) dL_holds_303 rfl (nI_inc _ 1) (by decide) rfl ?_
                        refine G_goto (tgt := 183) dL_holds_306 (by decide) ?_
                        rw [show mgc S m k + 0 = mgc S m (k + 1) by rw [mgc]; first | rw [if_pos (by omega)] | rw [if_neg (by omega)]]
                        refine G_weak (ls2 := [some (.ref (b)), some (.int (nI (x))), some (.int (nI (c))), some (.int (nI ((gN S).length))), some (.int (nI (gG S 1))), some (.int (nI (mwho S 0 (m + 1)))), some (.int (nI (mwho S 2 (m + 1)))), some (.int (nI (mmost S c m))), some (.int (nI (1))), some (.int (nI (m))), some (.int (nI (gM S m 1))), some (.int (nI (gM S m 4))), some (.int (nI (gM S m 5))), some (.int (nI (gM S m 7))), some (.int (nI (gM S m 9))), some (.int (nI (gM S m 10))), some (.int (nI (mgc S m (k + 1)))), some (.int (nI (k + 1))), none]) ⟨rfl, rfl, rfl, rfl, rfl, rfl, rfl, rfl, rfl, rfl, rfl, rfl, rfl, rfl, rfl, rfl, rfl, rfl, trivial⟩ ?_
                        refine G_bud (b2 := (4 * (110 * n60 + 1700 + 6 * (n183) + 60 - 0), 24 * (110 * n60 + 1700 + 6 * (n183) + 60 - 0))) ⟨by show 4 * (110 * n60 + 1700 + 6 * (n183) + 60 - 0) ≤ 4 * (110 * n60 + 1700 + 6 * (n183 + 1) + 60 - 5); omega, by show 24 * (110 * n60 + 1700 + 6 * (n183) + 60 - 0) ≤ 24 * (110 * n60 + 1700 + 6 * (n183 + 1) + 60 - 5); omega⟩ ?_
                        exact ih183 (k + 1) v97 rv98 (by omega) (by omega)
                      · refine G_aload_n dL_holds_251 rfl rfl ?_
                        refine G_iconst (v := nI 3) dL_holds_252 (by decide) ?_
                        refine G_iload dL_holds_253 rfl ?_
                        refine G_iconst (v := nI 1) dL_holds_255 (by decide) ?_
                        refine G_iconst (v := nI 0) dL_holds_256 (by decide) ?_
                        refine G_lc (E := 110 * n60 + 1700 + 6 * (n183 + 1) + 60) (u := 4) (u2 := 5) (rest := [.int (nI (mgc S m k))]) zN_go dL_holds_257 lL_162 ⟨Nat.le_of_ble_eq_true rfl, Nat.le_of_ble_eq_true rfl⟩ (Nat.le_of_ble_eq_true rfl) hf ⟨by omega, rfl⟩ rv96.2 (r_member (by omega) (by decide) hT rv96.1 hG hB hf) (fun v99 rv100 => ?_)
                        refine G_top (y := nI (gM S k 1)) rfl ?_
                        refine G_iconst (v := nI 2) dL_holds_260 (by decide) ?_
                        refine G_icmp_geN (tgt := 268) dL_holds_261 (by decide) (by have := hN.m1 k; omega) (by omega) (fun c261 => ?_) (fun c261 => ?_)
                        · refine G_iconst (v := nI 0) dL_holds_268 (by decide) ?_
                          refine G_iaddN dL_holds_269 ?_
                          refine G_istore (ls2 := [some (.ref (b)), some (.int (nI (x))), some (.int (nI (c))), some (.int (nI ((gN S).length))), some (.int (nI (gG S 1))), some (.int (nI (mwho S 0 (m + 1)))), some (.int (nI (mwho S 2 (m + 1)))), some (.int (nI (mmost S c m))), some (.int (nI (1))), some (.int (nI (m))), some (.int (nI (gM S m 1))), some (.int (nI (gM S m 4))), some (.int (nI (gM S m 5))), some (.int (nI (gM S m 7))), some (.int (nI (gM S m 9))), some (.int (nI (gM S m 10))), some (.int (nI (mgc S m k + 0))), some (.int (nI (k))), some (.int (nI (1)))]) dL_holds_270 (by decide) rfl ?_
                          refine G_iload dL_holds_272 rfl ?_
                          refine G_if_eqN (tgt := 300) dL_holds_274 (by decide) (by decide) (fun q9 => absurd q9 (by decide)) (fun _ => ?_)
                          refine G_iload dL_holds_277 rfl ?_
                          refine G_if_eqN (tgt := 296) dL_holds_279 (by decide) (by decide) (fun q9 => absurd q9 (by decide)) (fun _ => ?_)
                          refine G_aload_n dL_holds_282 rfl rfl ?_
                          refine G_iconst (v := nI 3) dL_holds_283 (by decide) ?_
                          refine G_iload dL_holds_284 rfl ?_
                          refine G_iconst (v := nI 4) dL_holds_286 (by decide) ?_
                          refine G_iconst (v := nI 0) dL_holds_287 (by decide) ?_
                          refine G_lc (E := 110 * n60 + 1700 + 6 * (n183 + 1) + 60) (u := 5) (u2 := 6) (rest := []) zN_go dL_holds_288 lL_162 ⟨Nat.le_of_ble_eq_true rfl, Nat.le_of_ble_eq_true rfl⟩ (Nat.le_of_ble_eq_true rfl) hf ⟨by omega, rfl⟩ rv100.2 (r_member (by omega) (by decide) hT rv100.1 hG hB hf) (fun v101 rv102 => ?_)
                          refine G_top (y := nI (gM S k 4)) rfl ?_
                          refine G_iload dL_holds_291 rfl ?_
                          refine G_icmp_neN (tgt := 300) dL_holds_293 (by decide) (by have := hN.m4 k; omega) (by have := hN.m4 m; omega) (fun c293 => (c293 (fact_set hJ (by omega) (by omega) c207 c228)).elim) (fun c293 => ?_)
                          refine G_iconst (v := nI 1) dL_holds_296 (by decide) ?_
                          refine G_goto (tgt := 301) dL_holds_297 (by decide) ?_
                          refine G_istore (ls2 := [some (.ref (b)), some (.int (nI (x))), some (.int (nI (c))), some (.int (nI ((gN S).length))), some (.int (nI (gG S 1))), some (.int (nI (mwho S 0 (m + 1)))), some (.int (nI (mwho S 2 (m + 1)))), some (.int (nI (mmost S c m))), some (.int (nI (1))), some (.int (nI (m))), some (.int (nI (gM S m 1))), some (.int (nI (gM S m 4))), some (.int (nI (gM S m 5))), some (.int (nI (gM S m 7))), some (.int (nI (gM S m 9))), some (.int (nI (gM S m 10))), some (.int (nI (mgc S m k + 0))), some (.int (nI (k))), some (.int (nI (1)))]) dL_holds_301 (by decide) rfl ?_
                          refine G_iinc (v := nI (k + 1)) (ls2 := [some (.ref (b)), some (.int (nI (x))), some (.int (nI (c))), some (.int (nI ((gN S).length))), some (.int (nI (gG S 1))), some (.int (nI (mwho S 0 (m + 1)))), some (.int (nI (mwho S 2 (m + 1)))), some (.int (nI (mmost S c m))), some (.int (nI (1))), some (.int (nI (m))), some (.int (nI (gM S m 1))), some (.int (nI (gM S m 4))), some (.int (nI (gM S m 5))), some (.int (nI (gM S m 7))), some (.int (nI (gM S m 9))), some (.int (nI (gM S m 10))), some (.int (nI (mgc S m k + 0))), some (.int (nI (k + 1))), some (.int (nI (1)))]) dL_holds_303 rfl (nI_inc _ 1) (by decide) rfl ?_
                          refine G_goto (tgt := 183) dL_holds_306 (by decide) ?_
                          rw [show mgc S m k + 0 = mgc S m (k + 1) by rw [mgc]; first | rw [if_pos (by omega)] | rw [if_neg (by omega)]]
                          refine G_weak (ls2 := [some (.ref (b)), some (.int (nI (x))), some (.int (nI (c))), some (.int (nI ((gN S).length))), some (.int (nI (gG S 1))), some (.int (nI (mwho S 0 (m + 1)))), some (.int (nI (mwho S 2 (m + 1)))), some (.int (nI (mmost S c m))), some (.int (nI (1))), some (.int (nI (m))), some (.int (nI (gM S m 1))), some (.int (nI (gM S m 4))), some (.int (nI (gM S m 5))), some (.int (nI (gM S m 7))), some (.int (nI (gM S m 9))), some (.int (nI (gM S m 10))), some (.int (nI (mgc S m (k + 1)))), some (.int (nI (k + 1))), none]) ⟨rfl, rfl, rfl, rfl, rfl, rfl, rfl, rfl, rfl, rfl, rfl, rfl, rfl, rfl, rfl, rfl, rfl, rfl, trivial⟩ ?_
                          refine G_bud (b2 := (4 * (110 * n60 + 1700 + 6 * (n183) + 60 - 0), 24 * (110 * n60 + 1700 + 6 * (n183) + 60 - 0))) ⟨by show 4 * (110 * n60 + 1700 + 6 * (n183) + 60 - 0) ≤ 4 * (110 * n60 + 1700 + 6 * (n183 + 1) + 60 - 6); omega, by show 24 * (110 * n60 + 1700 + 6 * (n183) + 60 - 0) ≤ 24 * (110 * n60 + 1700 + 6 * (n183 + 1) + 60 - 6); omega⟩ ?_
                          exact ih183 (k + 1) v101 rv102 (by omega) (by omega)
                        · refine G_iconst (v := nI 1) dL_holds_264 (by decide) ?_
                          refine G_goto (tgt := 269) dL_holds_265 (by decide) ?_
                          refine G_iaddN dL_holds_269 ?_
                          refine G_istore (ls2 := [some (.ref (b)), some (.int (nI (x))), some (.int (nI (c))), some (.int (nI ((gN S).length))), some (.int (nI (gG S 1))), some (.int (nI (mwho S 0 (m + 1)))), some (.int (nI (mwho S 2 (m + 1)))), some (.int (nI (mmost S c m))), some (.int (nI (1))), some (.int (nI (m))), some (.int (nI (gM S m 1))), some (.int (nI (gM S m 4))), some (.int (nI (gM S m 5))), some (.int (nI (gM S m 7))), some (.int (nI (gM S m 9))), some (.int (nI (gM S m 10))), some (.int (nI (mgc S m k + 1))), some (.int (nI (k))), some (.int (nI (1)))]) dL_holds_270 (by decide) rfl ?_
                          refine G_iload dL_holds_272 rfl ?_
                          refine G_if_eqN (tgt := 300) dL_holds_274 (by decide) (by decide) (fun q9 => absurd q9 (by decide)) (fun _ => ?_)
                          refine G_iload dL_holds_277 rfl ?_
                          refine G_if_eqN (tgt := 296) dL_holds_279 (by decide) (by decide) (fun q9 => absurd q9 (by decide)) (fun _ => ?_)
                          refine G_aload_n dL_holds_282 rfl rfl ?_
                          refine G_iconst (v := nI 3) dL_holds_283 (by decide) ?_
                          refine G_iload dL_holds_284 rfl ?_
                          refine G_iconst (v := nI 4) dL_holds_286 (by decide) ?_
                          refine G_iconst (v := nI 0) dL_holds_287 (by decide) ?_
                          refine G_lc (E := 110 * n60 + 1700 + 6 * (n183 + 1) + 60) (u := 5) (u2 := 6) (rest := []) zN_go dL_holds_288 lL_162 ⟨Nat.le_of_ble_eq_true rfl, Nat.le_of_ble_eq_true rfl⟩ (Nat.le_of_ble_eq_true rfl) hf ⟨by omega, rfl⟩ rv100.2 (r_member (by omega) (by decide) hT rv100.1 hG hB hf) (fun v103 rv104 => ?_)
                          refine G_top (y := nI (gM S k 4)) rfl ?_
                          refine G_iload dL_holds_291 rfl ?_
                          refine G_icmp_neN (tgt := 300) dL_holds_293 (by decide) (by have := hN.m4 k; omega) (by have := hN.m4 m; omega) (fun c293 => (c293 (fact_set hJ (by omega) (by omega) c207 c228)).elim) (fun c293 => ?_)
                          refine G_iconst (v := nI 1) dL_holds_296 (by decide) ?_
                          refine G_goto (tgt := 301) dL_holds_297 (by decide) ?_
                          refine G_istore (ls2 := [some (.ref (b)), some (.int (nI (x))), some (.int (nI (c))), some (.int (nI ((gN S).length))), some (.int (nI (gG S 1))), some (.int (nI (mwho S 0 (m + 1)))), some (.int (nI (mwho S 2 (m + 1)))), some (.int (nI (mmost S c m))), some (.int (nI (1))), some (.int (nI (m))), some (.int (nI (gM S m 1))), some (.int (nI (gM S m 4))), some (.int (nI (gM S m 5))), some (.int (nI (gM S m 7))), some (.int (nI (gM S m 9))), some (.int (nI (gM S m 10))), some (.int (nI (mgc S m k + 1))), some (.int (nI (k))), some (.int (nI (1)))]) dL_holds_301 (by decide) rfl ?_
                          refine G_iinc (v := nI (k + 1)) (ls2 := [some (.ref (b)), some (.int (nI (x))), some (.int (nI (c))), some (.int (nI ((gN S).length))), some (.int (nI (gG S 1))), some (.int (nI (mwho S 0 (m + 1)))), some (.int (nI (mwho S 2 (m + 1)))), some (.int (nI (mmost S c m))), some (.int (nI (1))), some (.int (nI (m))), some (.int (nI (gM S m 1))), some (.int (nI (gM S m 4))), some (.int (nI (gM S m 5))), some (.int (nI (gM S m 7))), some (.int (nI (gM S m 9))), some (.int (nI (gM S m 10))), some (.int (nI (mgc S m k + 1))), some (.int (nI (k + 1))), some (.int (nI (1)))]) dL_holds_303 rfl (nI_inc _ 1) (by decide) rfl ?_
                          refine G_goto (tgt := 183) dL_holds_306 (by decide) ?_
                          rw [show mgc S m k + 1 = mgc S m (k + 1) by rw [mgc]; first | rw [if_pos (by omega)] | rw [if_neg (by omega)]]
                          refine G_weak (ls2 := [some (.ref (b)), some (.int (nI (x))), some (.int (nI (c))), some (.int (nI ((gN S).length))), some (.int (nI (gG S 1))), some (.int (nI (mwho S 0 (m + 1)))), some (.int (nI (mwho S 2 (m + 1)))), some (.int (nI (mmost S c m))), some (.int (nI (1))), some (.int (nI (m))), some (.int (nI (gM S m 1))), some (.int (nI (gM S m 4))), some (.int (nI (gM S m 5))), some (.int (nI (gM S m 7))), some (.int (nI (gM S m 9))), some (.int (nI (gM S m 10))), some (.int (nI (mgc S m (k + 1)))), some (.int (nI (k + 1))), none]) ⟨rfl, rfl, rfl, rfl, rfl, rfl, rfl, rfl, rfl, rfl, rfl, rfl, rfl, rfl, rfl, rfl, rfl, rfl, trivial⟩ ?_
                          refine G_bud (b2 := (4 * (110 * n60 + 1700 + 6 * (n183) + 60 - 0), 24 * (110 * n60 + 1700 + 6 * (n183) + 60 - 0))) ⟨by show 4 * (110 * n60 + 1700 + 6 * (n183) + 60 - 0) ≤ 4 * (110 * n60 + 1700 + 6 * (n183 + 1) + 60 - 6); omega, by show 24 * (110 * n60 + 1700 + 6 * (n183) + 60 - 0) ≤ 24 * (110 * n60 + 1700 + 6 * (n183 + 1) + 60 - 6); omega⟩ ?_
                          exact ih183 (k + 1) v103 rv104 (by omega) (by omega)
            refine G_bud (b2 := (4 * (110 * n60 + 1700 + 6 * (c + 1) + 60 - 0), 24 * (110 * n60 + 1700 + 6 * (c + 1) + 60 - 0))) ⟨by show 4 * (110 * n60 + 1700 + 6 * (c + 1) + 60 - 0) ≤ 4 * (110 * (n60 + 1) + 1700 - 6); omega, by show 24 * (110 * n60 + 1700 + 6 * (c + 1) + 60 - 0) ≤ 24 * (110 * (n60 + 1) + 1700 - 6); omega⟩ ?_
            exact hL183 (c + 1) 0 v51 rv52 (Nat.zero_le _) (by omega)
          refine G_iload dL_holds_158 rfl ?_
          refine G_iload dL_holds_160 rfl ?_
          refine G_iconst (v := nI 2) dL_holds_162 (by decide) ?_
          refine G_icmp_neN (tgt := 173) dL_holds_163 (by decide) (by have := hN.m1 m; omega) (by omega) (fun c163 => ?_) (fun c163 => ?_)
          · refine G_iconst (v := nI 0) dL_holds_173 (by decide) ?_
            refine G_iorN dL_holds_174 ?_
            refine G_top (y := nI (mwho S 2 (m + 1))) (by rw [mwho]; first | rw [if_pos (by omega)] | rw [if_neg (by omega)]) ?_
            exact hJ175 0
          · refine G_iconst (v := nI 1) dL_holds_166 (by decide) ?_
            refine G_iload dL_holds_167 rfl ?_
            refine G_ishlN dL_holds_169 (by omega) ?_
            refine G_goto (tgt := 174) dL_holds_170 (by decide) ?_
            refine G_iorN dL_holds_174 ?_
            refine G_top (y := nI (mwho S 2 (m + 1))) (by rw [mwho]; first | rw [if_pos (by omega)] | rw [if_neg (by omega)]) ?_
            exact hJ175 0
        refine G_iload dL_holds_140 rfl ?_
        refine G_iload dL_holds_142 rfl ?_
        refine G_if_neN (tgt := 154) dL_holds_144 (by decide) (by have := hN.m1 m; omega) (fun c144 => ?_) (fun c144 => ?_)
        · refine G_iconst (v := nI 0) dL_holds_154 (by decide) ?_
          refine G_iorN dL_holds_155 ?_
          refine G_top (y := nI (mwho S 0 (m + 1))) (by rw [mwho]; first | rw [if_pos (by omega)] | rw [if_neg (by omega)]) ?_
          exact hJ156 0
        · refine G_iconst (v := nI 1) dL_holds_147 (by decide) ?_
          refine G_iload dL_holds_148 rfl ?_
          refine G_ishlN dL_holds_150 (by omega) ?_
          refine G_goto (tgt := 155) dL_holds_151 (by decide) ?_
          refine G_iorN dL_holds_155 ?_
          refine G_top (y := nI (mwho S 0 (m + 1))) (by rw [mwho]; first | rw [if_pos (by omega)] | rw [if_neg (by omega)]) ?_
          exact hJ156 0
  refine G_bud (b2 := (4 * (110 * (c + 1) + 1700 - 0), 24 * (110 * (c + 1) + 1700 - 0))) ⟨by show 4 * (110 * (c + 1) + 1700 - 0) ≤ 4 * (2700 - 3); omega, by show 24 * (110 * (c + 1) + 1700 - 0) ≤ 24 * (2700 - 3); omega⟩ ?_
  exact hL60 (c + 1) 0 v5 rv6 (Nat.zero_le _) (by omega)
