
theorem CR.G0 {c : Nat} {v : vV} {b x : Nat} {S : mS} (h : CR c v b S) (hx : x ≤ 6) : CR x (vU v b 3 (nI x)) b (sG S 0 x) := by
  refine h.rest ⟨rfl, hx⟩ ⟨vU_s, ?_, ?_, ?_, ?_, ?_⟩ ⟨?_, ?_, ?_⟩ (fun a ha => ?_) (fun j y hy q hq => ?_) (fun n g1 g2 => vU_ne (by omega)) rfl rfl rfl h.b.2.2
  · rw [vU_o (by omega), sG_at, if_neg (by omega)]; exact h.g4
  · rw [vU_o (by omega), sG_at, if_neg (by omega)]; exact h.g5
  · rw [vU_o (by omega), sG_at, if_neg (by omega)]; exact h.g6
  · rw [vU_o (by omega), sG_at, if_neg (by omega)]; exact h.g7
  · rw [vU_o (by omega), sG_at, if_neg (by omega)]; exact h.g8
  · rw [vU_ne (by omega), mways_G (S := S) (S' := sG S 0 x) (fun a => by rw [sG_at, if_neg (by omega)])]; exact h.p2
  · rw [vU_ne (by omega)]; exact h.p3
  · rw [vU_ne (by omega), sG_at, if_neg (by omega)]; exact h.p4
  · rw [vU_ne (by omega), sG_at, if_neg (by omega)]; exact h.cu ha
  · rw [vU_ne (by omega)]; exact h.x hy hq
theorem mhl_b {S T : mS} {m row rows : Nat} (h10 : gM S m 10 = rows) (h : ∀ w, 12 ≤ w → gM T m w = gM S m w) : ∀ n, mhl (fun k => gM T m (12 + 3 * k)) (fun k => gM T m (13 + 3 * k)) (fun k => gM T m (14 + 3 * k)) row rows n = mhb S m row n := by
  intro n
  induction n with
  | zero => rfl
  | succ n ih =>
    rw [mhl, mhb, ih, h10, h _ (by omega), h _ (by omega), h _ (by omega), h _ (by omega), h _ (by omega)]
/-- a sending does not look at what a member calls -/
theorem send_of {X Y : mS} {kd frm to num by9 data : Nat} (f : mS → mS) (hY : Y = f X) (hg : gG Y = gG X) (hn : gN Y = gN X) (hm : ∀ a w, w < 5 → w ≠ 1 → gM Y a w = gM X a w) (h3 : ∀ x, sG Y 3 x = f (sG X 3 x)) (hN : ∀ l, sN Y l = f (sN X l)) : msend Y kd frm to num by9 data = f (msend X kd frm to num by9 data) := by
  unfold msend mfar
  rw [hg, hn, hm _ 0 (by decide) (by decide), hm _ 0 (by decide) (by decide), hm _ 2 (by decide) (by decide), hm _ 3 (by decide) (by decide), hm _ 4 (by decide) (by decide), h3, hN]
  split <;> rfl
theorem send_none {X : mS} {m kd frm to num by9 data : Nat} : msend (mnone X m) kd frm to num by9 data = mnone (msend X kd frm to num by9 data) m :=
  send_of (fun Z => mnone Z m) rfl rfl rfl (fun a w hw h1 => none_o (Or.inr (by omega))) (fun _ => rfl) (fun _ => rfl)
theorem send_put {X : mS} {m f n b h kd frm to num by9 data : Nat} : msend (mputA X m f n b h) kd frm to num by9 data = mputA (msend X kd frm to num by9 data) m f n b h := by
  refine send_of (fun Z => mputA Z m f n b h) rfl rfl rfl (fun a w hw h1 => put_o (Or.inr (by omega))) (fun _ => rfl) (fun _ => rfl)
/-- what the class does for a roll that stands, step by step -/
def fsF (S0 : mS) (m num set : Nat) (k : Nat) (S : mS) : mS := if k ≠ m ∧ set.testBit k = true then msend S 3 m k num m (mheard S0 m k) else S
theorem fsF_e {S0 X : mS} {m num set : Nat} (h : ∀ w, w = 10 ∨ 12 ≤ w → gM X m w = gM S0 m w) : ∀ n, mup (fsF S0 m num set) n (mnone X m) = mnone (mup (mstandsF m num set) n X) m := by
  intro n
  induction n with
  | zero => rfl
  | succ n ih =>
    show fsF S0 m num set n (mup (fsF S0 m num set) n (mnone X m)) = mnone (mstandsF m num set n (mup (mstandsF m num set) n X)) m
    rw [ih]
    have e : mheard (mup (mstandsF m num set) n X) m n = mheard S0 m n := by
      have e2 : gM (mup (mstandsF m num set) n X) = gM X := mup_M (fun k S => standsF_same.1) n X
      have : ∀ j, mhb (mup (mstandsF m num set) n X) m n j = mhb S0 m n j := by
        intro j
        induction j with
        | zero => rfl
        | succ j ihj => rw [mhb, mhb, ihj, e2, h 10 (by omega), h _ (by omega), h _ (by omega), h _ (by omega), h _ (by omega), h _ (by omega)]
      exact this 6
    generalize mup (mstandsF m num set) n X = Z at e ⊢
    unfold fsF mstandsF
    rw [e]
    split
    · exact send_none
    · rfl
theorem callF_put {X : mS} {m num set f n9 b h : Nat} : ∀ n, mup (mcallF m num set) n (mputA X m f n9 b h) = mputA (mup (mcallF m num set) n X) m f n9 b h := by
  intro n
  induction n with
  | zero => rfl
  | succ n ih =>
    show mcallF m num set n (mup (mcallF m num set) n (mputA X m f n9 b h)) = mputA (mcallF m num set n (mup (mcallF m num set) n X)) m f n9 b h
    rw [ih]
    unfold mcallF
    split
    · exact send_put
    · rfl
theorem told_w {S : mS} {m num by9 set heard w : Nat} (hw : w = 10 ∨ 12 ≤ w) : gM (mtold S m num by9 set heard) m w = gM S m w := by
  unfold mtold
  split
  · rfl
  · unfold menter
    have hk : ∀ (T : mS) (l : List mT) (a w : Nat), gM (sK T m l) a w = gM T a w := fun _ _ _ _ => rfl
    have hh : ∀ (T : mS) (x a w : Nat), gM (mover T m x) a w = gM T a w := fun _ _ _ _ => rfl
    rw [hk, sM_at, if_neg (by omega), sM_at, if_neg (by omega), sM_at, if_neg (by omega), sM_at, if_neg (by omega), sM_at, if_neg (by omega), sM_at, if_neg (by omega), sM_at, if_neg (by omega), hh]
theorem NB.entC {c B : Nat} {S : mS} (h : NB c S B) {m num by9 set heard : Nat} (h1 : num ≤ B) (h2 : by9 < 6) (h3 : set < 64) (h4 : heard < 16777216) : NB c (menterC S m num by9 set heard) B := (h.told h1 h2 h3 h4).none9
theorem NB.stC {c B : Nat} {S0 X : mS} (h0 : NB c S0 B) (h : NB c X (B + 1)) {m num set : Nat} (hm : m < c) (hn : num ≤ B) (n : Nat) (hn9 : n ≤ c) : NB c (mup (fsF S0 m num set) n X) (B + 7) := by
  have hc := h.c6
  refine NB.up (NB.ups (B := B + 1) (d := 1) n (fun k S' D hk hD h' => ?_) h) (by omega)
  unfold fsF
  split
  · exact h'.send (by decide) hm (by omega) (by omega) (by omega) (mhb_lt h0 m k 6 (Nat.le_refl _)) (fun q => absurd q (by decide))
  · exact h'.up (by omega)
theorem mhl_lt {A D H : Nat → Nat} {row rows : Nat} (h : ∀ k, k < 6 → H k < 16777216) : ∀ n, n ≤ 6 → mhl A D H row rows n < 16777216 := by
  intro n
  induction n with
  | zero => intro _; show 0 < 16777216; decide
  | succ n ih =>
    intro hn
    refine or24 (ih (by omega)) ?_
    split
    · exact h n (by omega)
    · decide
def mansc (S : mS) (m f num : Nat) : mS := if gM S m 6 < num then msend (mnone (sM (sM S m 6 num) m 1 1) m) 2 m f num f (gM S m 5) else S
set_option maxHeartbeats 4000000 in
set_option maxRecDepth 100000 in
theorem c_X0_addMember {σ : vS} {v : vV} {c b : Nat} {S : mS} {p : Nat} (hq : kLC σ b) (hC : CR c v b S) (hc : c < 6) : vC M_X0_addMember yX0_addMember [.ref (b), .int (nI (p))] (σ, v) (qS σ (some (.int (nI c))) (kPo (c + 1) v b (madd S p))) := by
  have hO : vOw v v b 84 := vOw.rf
  refine vC_of (ls := [some (.ref (b)), some (.int (nI (p)))]) pn_X0 rfl rfl (Nat.le_of_ble_eq_true rfl) rfl ?_
  refine P_aload_n dX0_addMember_0 rfl rfl ?_
  refine P_getr (t := b + 1) dX0_addMember_1 kX0 fX0_11 rfl (by decide) hq.o hq.r0 hq.k1.1.2 ?_
  refine P_aload_n dX0_addMember_4 rfl rfl ?_
  refine P_getiN (x := nI (c)) dX0_addMember_5 kX0 fX0_38 rfl (by decide) hq.o hC.g3 ?_
  refine P_aaldM (t := b + 6 + 13 * c) (c) dX0_addMember_8 hq.k1 rfl (by omega) (by decide) (hq.e (by omega)) (hq.m (by omega)).o.1.2 ?_
  refine P_iload_n dX0_addMember_9 rfl rfl ?_
  refine P_puti dX0_addMember_10 kX2 fX0_149 rfl (by decide) rfl (hq.m (by omega)).o ?_
  have hC1 : CR c (vU v (b + 6 + 13 * c) 1 (nI (p))) b (sM S c 0 p) := (hC.M (w := 0) (x := p) (by omega) (by decide))
  have hO2 : vOw v (vU v (b + 6 + 13 * c) 1 (nI (p))) b 84 := hO.u (by omega) (by omega)
  generalize vU v (b + 6 + 13 * c) 1 (nI (p)) = v3 at hC1 hO2 ⊢
  refine P_aload_n dX0_addMember_13 rfl rfl ?_
  refine P_dup dX0_addMember_14 rfl ?_
  refine P_getiN (x := nI (c)) dX0_addMember_15 kX0 fX0_38 rfl (by decide) hq.o hC1.g3 ?_
  refine P_iconst (v := nI 1) dX0_addMember_18 (by decide) ?_
  refine P_iaddN dX0_addMember_19 ?_
  refine P_puti dX0_addMember_20 kX0 fX0_38 rfl (by decide) rfl hq.o ?_
  have hC4 : CR (c + 1) (vU v3 b 3 (nI (c + 1))) b (sG (sM S c 0 p) 0 (c + 1)) := hC1.G0 (by omega)
  have hO5 : vOw v (vU v3 b 3 (nI (c + 1))) b 84 := hO2.u (by omega) (by omega)
  generalize vU v3 b 3 (nI (c + 1)) = v6 at hC4 hO5 ⊢
  refine P_aload_n dX0_addMember_23 rfl rfl ?_
  refine P_getiN (x := nI (c + 1)) dX0_addMember_24 kX0 fX0_38 rfl (by decide) hq.o hC4.g3 ?_
  refine P_iconst (v := nI 1) dX0_addMember_27 (by decide) ?_
  refine P_isubN dX0_addMember_28 (by omega) ?_
  refine P_iret dX0_addMember_29 rfl ?_
  refine q_s (by rw [Nat.add_sub_cancel]) ⟨?_, hO5⟩
  unfold madd
  rw [hC.c0]
  exact hC4
set_option maxHeartbeats 4000000 in
set_option maxRecDepth 100000 in
theorem c_X0_speak {σ : vS} {v : vV} {c b : Nat} {S : mS} {m : Nat} (hq : kLC σ b) (hC : CR c v b S) {B : Nat} (hN : NB c S B) (hB : B + 200 < 1000000000) (hm : m < c) (h7 : gM S m 7 < 4) : vC M_X0_speak yX0_speak [.ref (b), .int (nI (m))] (σ, v) (qS σ (some (.int (nI (4 * m + gM S m 7)))) (kPo c v b (msay S m))) := by
  have hc6 := hC.c6
  have hO : vOw v v b 84 := vOw.rf
  refine vC_of (ls := [some (.ref (b)), some (.int (nI (m))), none, none, none]) pn_X0 rfl rfl (Nat.le_of_ble_eq_true rfl) rfl ?_
  refine P_aload_n dX0_speak_0 rfl rfl ?_
  refine P_getr (t := b + 1) dX0_speak_1 kX0 fX0_11 rfl (by decide) hq.o hq.r0 hq.k1.1.2 ?_
  refine P_iload_n dX0_speak_4 rfl rfl ?_
  refine P_aaldM (t := b + 6 + 13 * m) (m) dX0_speak_5 hq.k1 rfl (by omega) (by decide) (hq.e (by omega)) (hq.m (by omega)).o.1.2 ?_
  refine P_astore_n (ls2 := [some (.ref (b)), some (.int (nI (m))), some (.ref (b + 6 + 13 * m)), none, none]) dX0_speak_6 rfl (by decide) rfl ?_
  refine P_iconst (v := nI 4) dX0_speak_7 (by decide) ?_
  refine P_iload_n dX0_speak_8 rfl rfl ?_
  refine P_imulN dX0_speak_9 ?_
  refine P_aload_n dX0_speak_10 rfl rfl ?_
  refine P_getiN (x := nI (gM S m 7)) dX0_speak_11 kX2 fX0_152 rfl (by decide) (hq.m (by omega)).o ((hC.m (by omega)).w (by decide)) ?_
  refine P_iaddN dX0_speak_14 ?_
  refine P_istore_n (ls2 := [some (.ref (b)), some (.int (nI (m))), some (.ref (b + 6 + 13 * m)), some (.int (nI (4 * m + (gM S m 7)))), none]) dX0_speak_15 rfl (by decide) rfl ?_
  refine P_aload_n dX0_speak_16 rfl rfl ?_
  refine P_dup dX0_speak_17 rfl ?_
  refine P_getiN (x := nI (gM S m 7)) dX0_speak_18 kX2 fX0_152 rfl (by decide) (hq.m (by omega)).o ((hC.m (by omega)).w (by decide)) ?_
  refine P_iconst (v := nI 1) dX0_speak_21 (by decide) ?_
  refine P_iaddN dX0_speak_22 ?_
  refine P_puti dX0_speak_23 kX2 fX0_152 rfl (by decide) rfl (hq.m (by omega)).o ?_
  have hC1 : CR c (vU v (b + 6 + 13 * m) 8 (nI (gM S m 7 + 1))) b (sM S m 7 (gM S m 7 + 1)) := (hC.M (w := 7) (x := gM S m 7 + 1) (by omega) (by decide))
  have hO2 : vOw v (vU v (b + 6 + 13 * m) 8 (nI (gM S m 7 + 1))) b 84 := hO.u (by omega) (by omega)
  generalize vU v (b + 6 + 13 * m) 8 (nI (gM S m 7 + 1)) = v3 at hC1 hO2 ⊢
  refine P_aload_n dX0_speak_26 rfl rfl ?_
  refine P_dup dX0_speak_27 rfl ?_
  refine P_getiN (x := nI (gM S m 5)) dX0_speak_28 kX2 fX0_80 rfl (by decide) (hq.m (by omega)).o (((hC1.m (by omega)).w (w := 5) (by decide)).trans (congrArg nI (by simp [sM, gM, sG]))) ?_
  refine P_iconst (v := nI 1) dX0_speak_31 (by decide) ?_
  refine P_iload_n dX0_speak_32 rfl rfl ?_
  refine P_ishlN dX0_speak_33 (by omega) ?_
  refine P_iorN dX0_speak_34 ?_
  refine P_puti dX0_speak_35 kX2 fX0_80 rfl (by decide) rfl (hq.m (by omega)).o ?_
  have hC4 : CR c (vU v3 (b + 6 + 13 * m) 6 (nI ((gM S m 5) ||| (1 <<< (4 * m + (gM S m 7)))))) b (sM (sM S m 7 (gM S m 7 + 1)) m 5 ((gM S m 5) ||| (1 <<< (4 * m + (gM S m 7))))) := (hC1.M (w := 5) (x := (gM S m 5) ||| (1 <<< (4 * m + (gM S m 7)))) (by omega) (by decide))
  have hO5 : vOw v (vU v3 (b + 6 + 13 * m) 6 (nI ((gM S m 5) ||| (1 <<< (4 * m + (gM S m 7)))))) b 84 := hO2.u (by omega) (by omega)
  generalize vU v3 (b + 6 + 13 * m) 6 (nI ((gM S m 5) ||| (1 <<< (4 * m + (gM S m 7))))) = v6 at hC4 hO5 ⊢
  refine P_aload_n dX0_speak_38 rfl rfl ?_
  refine P_dup dX0_speak_39 rfl ?_
  refine P_getiN (x := nI (gG (sM (sM S m 7 (gM S m 7 + 1)) m 5 ((gM S m 5) ||| (1 <<< (4 * m + (gM S m 7))))) 4)) dX0_speak_40 kX0 fX0_48 rfl (by decide) hq.o hC4.g6 ?_
  refine P_iconst (v := nI 1) dX0_speak_43 (by decide) ?_
  refine P_iaddN dX0_speak_44 ?_
  refine P_puti dX0_speak_45 kX0 fX0_48 rfl (by decide) rfl hq.o ?_
  have hC7 : CR c (vU v6 b 6 (nI (gG (sM (sM S m 7 (gM S m 7 + 1)) m 5 ((gM S m 5) ||| (1 <<< (4 * m + (gM S m 7))))) 4 + 1))) b (sG (sM (sM S m 7 (gM S m 7 + 1)) m 5 ((gM S m 5) ||| (1 <<< (4 * m + (gM S m 7))))) 4 (gG (sM (sM S m 7 (gM S m 7 + 1)) m 5 ((gM S m 5) ||| (1 <<< (4 * m + (gM S m 7))))) 4 + 1)) := (hC4.G (k := 6) (x := gG (sM (sM S m 7 (gM S m 7 + 1)) m 5 ((gM S m 5) ||| (1 <<< (4 * m + (gM S m 7))))) 4 + 1) (by decide))
  have hO8 : vOw v (vU v6 b 6 (nI (gG (sM (sM S m 7 (gM S m 7 + 1)) m 5 ((gM S m 5) ||| (1 <<< (4 * m + (gM S m 7))))) 4 + 1))) b 84 := hO5.u (by omega) (by omega)
  generalize vU v6 b 6 (nI (gG (sM (sM S m 7 (gM S m 7 + 1)) m 5 ((gM S m 5) ||| (1 <<< (4 * m + (gM S m 7))))) 4 + 1)) = v9 at hC7 hO8 ⊢
  have hCs : CR c v9 b (msay0 S m) := hC7
  refine P_iconst (v := nI 0) dX0_speak_48 (by decide) ?_
  refine P_istore (ls2 := [some (.ref (b)), some (.int (nI (m))), some (.ref (b + 6 + 13 * m)), some (.int (nI (4 * m + (gM S m 7)))), some (.int (nI (0)))]) dX0_speak_49 (by decide) rfl ?_
  have hL51 : ∀ (n51 : Nat) (k : Nat) (v1 : vV), (k ≤ c) → (k + n51 = c + 1) → (CR c v1 b (mup (msayF m (4 * m + gM S m 7)) k (msay0 S m))) → (vOw v v1 b 84) → vP M_X0_speak 51 [some (.ref (b)), some (.int (nI (m))), some (.ref (b + 6 + 13 * m)), some (.int (nI (4 * m + gM S m 7))), some (.int (nI (k)))] [] ((vRm M_X0_speak).cells, (vRm M_X0_speak).slots) (σ, v1) (vN (qS σ (some (.int (nI (4 * m + gM S m 7)))) (kPo c v b (msay S m)))) := by
    intro n51
    induction n51 with
    | zero =>
      intro k v1 h1 h2 hCk hOk
      exact absurd h2 (by omega)
    | succ n51 ih51 =>
      intro k v1 h1 h2 hCk hOk
      have hNk : NB c (mup (msayF m (4 * m + gM S m 7)) k (msay0 S m)) (B + 7) := hN.say hm h7 k h1
      refine P_iload dX0_speak_51 rfl ?_
      refine P_aload_n dX0_speak_53 rfl rfl ?_
      refine P_getiN (x := nI (c)) dX0_speak_54 kX0 fX0_38 rfl (by decide) hq.o hCk.g3 ?_
      refine P_icmp_geN (tgt := 109) dX0_speak_57 (by decide) (by omega) (by omega) (fun c57 => ?_) (fun c57 => ?_)
      · refine P_iload_n dX0_speak_109 rfl rfl ?_
        refine P_iret dX0_speak_110 rfl ?_
        refine q_s rfl ⟨?_, hOk⟩
        unfold msay
        rw [hC.c0]
        have ek : k = c := by omega
        rw [ek] at hCk
        exact hCk
      · refine P_iload dX0_speak_60 rfl ?_
        refine P_iload_n dX0_speak_62 rfl rfl ?_
        refine P_icmp_eqN (tgt := 103) dX0_speak_63 (by decide) (by omega) (by omega) (fun c63 => ?_) (fun c63 => ?_)
        · refine P_iinc (v := nI (k + 1)) (ls2 := [some (.ref (b)), some (.int (nI (m))), some (.ref (b + 6 + 13 * m)), some (.int (nI (4 * m + gM S m 7))), some (.int (nI (k + 1)))]) dX0_speak_103 rfl (nI_inc _ 1) (by decide) rfl ?_
          refine P_goto (tgt := 51) dX0_speak_106 (by decide) ?_
          refine ih51 (k + 1) v1 (by omega) (by omega) ?_ hOk
          show CR c v1 b (msayF m (4 * m + gM S m 7) k (mup (msayF m (4 * m + gM S m 7)) k (msay0 S m)))
          rw [msayF_m c63]
          exact hCk
        · refine P_aload_n dX0_speak_66 rfl rfl ?_
          refine P_getiN (x := nI (gM (mup (msayF m (4 * m + gM S m 7)) k (msay0 S m)) m 4)) dX0_speak_67 kX2 fX0_77 rfl (by decide) (hq.m (by omega)).o ((hCk.m (by omega)).w (by decide)) ?_
          refine P_iload dX0_speak_70 rfl ?_
          refine P_cSNp (rest := []) (As := [.int (nI (gM (mup (msayF m (4 * m + gM S m 7)) k (msay0 S m)) m 4)), .int (nI (k))]) dX0_speak_72 lnX0_64 yk_X6_hasBit ys_X6_hasBit (by decide) rfl rfl (Nat.le_of_ble_eq_true rfl) rfl (c_X6_hasBit (by have := hNk.m4 m; omega) (by omega)) ?_
          refine P_bif_eq (tgt := 103) dX0_speak_75 (by decide) (fun c75 => ?_) (fun c75 => ?_)
          · refine P_iinc (v := nI (k + 1)) (ls2 := [some (.ref (b)), some (.int (nI (m))), some (.ref (b + 6 + 13 * m)), some (.int (nI (4 * m + gM S m 7))), some (.int (nI (k + 1)))]) dX0_speak_103 rfl (nI_inc _ 1) (by decide) rfl ?_
            refine P_goto (tgt := 51) dX0_speak_106 (by decide) ?_
            refine ih51 (k + 1) v1 (by omega) (by omega) ?_ hOk
            show CR c v1 b (msayF m (4 * m + gM S m 7) k (mup (msayF m (4 * m + gM S m 7)) k (msay0 S m)))
            rw [msayF_b c75]
            exact hCk
          · refine P_aload_n dX0_speak_78 rfl rfl ?_
            refine P_getr (t := b + 2) dX0_speak_79 kX0 fX0_20 rfl (by decide) hq.o hq.r1 hq.k2.1.2 ?_
            refine P_iconst (v := nI 0) dX0_speak_82 (by decide) ?_
            refine P_aload_n dX0_speak_83 rfl rfl ?_
            refine P_aload_n dX0_speak_84 rfl rfl ?_
            refine P_getr (t := b + 1) dX0_speak_85 kX0 fX0_11 rfl (by decide) hq.o hq.r0 hq.k1.1.2 ?_
            refine P_iload dX0_speak_88 rfl ?_
            refine P_aaldM (t := b + 6 + 13 * k) (k) dX0_speak_90 hq.k1 rfl (by omega) (by decide) (hq.e (by omega)) (hq.m (by omega)).o.1.2 ?_
            refine P_aload_n dX0_speak_91 rfl rfl ?_
            refine P_getiN (x := nI (gG (mup (msayF m (4 * m + gM S m 7)) k (msay0 S m)) 1)) dX0_speak_92 kX0 fX0_42 rfl (by decide) hq.o hCk.g4 ?_
            refine P_aload_n dX0_speak_95 rfl rfl ?_
            refine P_getiN (x := nI (gM (mup (msayF m (4 * m + gM S m 7)) k (msay0 S m)) m 2)) dX0_speak_96 kX2 fX0_71 rfl (by decide) (hq.m (by omega)).o ((hCk.m (by omega)).w (by decide)) ?_
            refine P_iload_n dX0_speak_99 rfl rfl ?_
            refine P_cVs (rest := []) (As := [.int (nI (0)), .ref (b + 6 + 13 * m), .ref (b + 6 + 13 * k), .int (nI (gG (mup (msayF m (4 * m + gM S m 7)) k (msay0 S m)) 1)), .int (nI (gM (mup (msayF m (4 * m + gM S m 7)) k (msay0 S m)) m 2)), .int (nI (4 * m + gM S m 7))]) dX0_speak_100 lX0_153 yk_X3_send yv_X3_send kX3 rfl (by decide) hq.k2 rfl rfl (Nat.le_of_ble_eq_true rfl) rfl (c_X3_send (gM (mup (msayF m (4 * m + gM S m 7)) k (msay0 S m)) m 3) hq hCk hNk (by omega) (by omega) (by omega)) (fun v12 ⟨hC10, hO11⟩ => ?_)
            replace hO11 := hOk.tr hO11
            refine P_iinc (v := nI (k + 1)) (ls2 := [some (.ref (b)), some (.int (nI (m))), some (.ref (b + 6 + 13 * m)), some (.int (nI (4 * m + gM S m 7))), some (.int (nI (k + 1)))]) dX0_speak_103 rfl (nI_inc _ 1) (by decide) rfl ?_
            refine P_goto (tgt := 51) dX0_speak_106 (by decide) ?_
            refine ih51 (k + 1) v12 (by omega) (by omega) ?_ hO11
            show CR c v12 b (msayF m (4 * m + gM S m 7) k (mup (msayF m (4 * m + gM S m 7)) k (msay0 S m)))
            rw [msayF_s c63 c75]
            exact hC10
  exact hL51 (c + 1) 0 v9 (by omega) (by omega) hCs hO8
set_option maxHeartbeats 4000000 in
set_option maxRecDepth 100000 in
theorem c_X0_rollStands {σ : vS} {v : vV} {c b : Nat} {S : mS} {m : Nat} (hq : kLC σ b) (hC : CR c v b S) {B : Nat} (hN : NB c S B) (hB : B + 200 < 1000000000) (hm : m < c) (h9 : gM S m 9 ≠ 0) (hA : gM S m 10 = gM S m 9) (h8 : gM S m 8 = gM S m 6) (h2 : gM S m 2 < gM S m 6) : vC M_X0_rollStands yX0_rollStands [.ref (b), .ref (b + 6 + 13 * m)] (σ, v) (qS σ none (kPo c v b (mstands S m))) := by
  have hc6 := hC.c6
  have hO : vOw v v b 84 := vOw.rf
  refine vC_of (ls := [some (.ref (b)), some (.ref (b + 6 + 13 * m)), none, none, none, none]) pn_X0 rfl rfl (Nat.le_of_ble_eq_true rfl) rfl ?_
  refine P_aload_n dX0_rollStands_0 rfl rfl ?_
  refine P_getiN (x := nI (gM S m 8)) dX0_rollStands_1 kX2 fX0_161 rfl (by decide) (hq.m (by omega)).o ((hC.m (by omega)).n9 h9) ?_
  refine P_istore_n (ls2 := [some (.ref (b)), some (.ref (b + 6 + 13 * m)), some (.int (nI (gM S m 8))), none, none, none]) dX0_rollStands_4 rfl (by decide) rfl ?_
  refine P_aload_n dX0_rollStands_5 rfl rfl ?_
  refine P_getiN (x := nI (gM S m 9)) dX0_rollStands_6 kX2 fX0_211 rfl (by decide) (hq.m (by omega)).o (hC.m (by omega)).n10 ?_
  refine P_istore_n (ls2 := [some (.ref (b)), some (.ref (b + 6 + 13 * m)), some (.int (nI (gM S m 8))), some (.int (nI (gM S m 9))), none, none]) dX0_rollStands_9 rfl (by decide) rfl ?_
  refine P_aload_n dX0_rollStands_10 rfl rfl ?_
  refine P_dup dX0_rollStands_11 rfl ?_
  refine P_getiN (x := nI (gG S 6)) dX0_rollStands_12 kX0 fX0_54 rfl (by decide) hq.o hC.g8 ?_
  refine P_iconst (v := nI 1) dX0_rollStands_15 (by decide) ?_
  refine P_iaddN dX0_rollStands_16 ?_
  refine P_puti dX0_rollStands_17 kX0 fX0_54 rfl (by decide) rfl hq.o ?_
  have hC1 : CR c (vU v b 8 (nI (gG S 6 + 1))) b (sG S 6 (gG S 6 + 1)) := (hC.G (k := 8) (x := gG S 6 + 1) (by decide))
  have hO2 : vOw v (vU v b 8 (nI (gG S 6 + 1))) b 84 := hO.u (by omega) (by omega)
  generalize vU v b 8 (nI (gG S 6 + 1)) = v3 at hC1 hO2 ⊢
  have hN1 : NB c (sG S 6 (gG S 6 + 1)) (B + 1) := (hN.up (Nat.le_succ B)).G (by decide) (by have := hN.g (i := 6) (by decide); show gG S 6 + 1 ≤ B + 1; omega)
  have hb8 := hN.m8 m
  have hb9 := hN.m9 m
  refine P_aload_n dX0_rollStands_20 rfl rfl ?_
  refine P_iload_n dX0_rollStands_21 rfl rfl ?_
  refine P_aload_n dX0_rollStands_22 rfl rfl ?_
  refine P_getiN (x := nI (m)) dX0_rollStands_23 kX2 fX0_214 rfl (by decide) (hq.m (by omega)).o (hC1.m (by omega)).s ?_
  refine P_iload_n dX0_rollStands_26 rfl rfl ?_
  refine P_aload_n dX0_rollStands_27 rfl rfl ?_
  refine P_getr (t := b + 6 + 13 * m + 1) dX0_rollStands_28 kX2 fX0_217 rfl (by decide) (hq.m (by omega)).o (hq.m (by omega)).c13 (hq.m (by omega)).pa.o.1.2 ?_
  refine P_aload_n dX0_rollStands_31 rfl rfl ?_
  refine P_getiN (x := nI (m)) dX0_rollStands_32 kX2 fX0_214 rfl (by decide) (hq.m (by omega)).o (hC1.m (by omega)).s ?_
  refine P_iload_n dX0_rollStands_35 rfl rfl ?_
  refine P_cVp (rest := [.int (nI (gM S m 9)), .int (nI (m)), .int (nI (gM S m 8)), .ref (b + 6 + 13 * m)]) (As := [.int (nI (m)), .int (nI (gM S m 9))]) dX0_rollStands_36 lX0_220 yk_X4_heardLike yv_X4_heardLike kX4 rfl (by decide) (hq.m (by omega)).pa.o rfl rfl (Nat.le_of_ble_eq_true rfl) rfl (c_X4_heardLike (A := fun k9 => gM (sG S 6 (gG S 6 + 1)) m (12 + 3 * k9)) (D := fun k9 => gM (sG S 6 (gG S 6 + 1)) m (13 + 3 * k9)) (H := fun k9 => gM (sG S 6 (gG S 6 + 1)) m (14 + 3 * k9)) (hq.m (by omega)).pa (by omega) (by omega) (fun k9 hk => (hC1.m (by omega)).a hk) (fun k9 hk => ⟨Nat.lt_of_le_of_lt (hN1.a1 m hk) (by omega), Nat.lt_trans (hN1.a2 m hk) (by omega)⟩)) ?_
  refine P_top (y := nI (mheard S m m)) (congrArg nI (mhl_b hA (fun w hw => rfl) 6)) ?_
  refine P_cVs (rest := []) (As := [.int (nI (gM S m 8)), .int (nI (m)), .int (nI (gM S m 9)), .int (nI (mheard S m m))]) dX0_rollStands_39 lX0_201 yk_X2_enterRoll yv_X2_enterRoll kX2 rfl (by decide) (hq.m (by omega)).o rfl rfl (Nat.le_of_ble_eq_true rfl) rfl (c_X2_enterYes hq hC1 hN1 (by omega) (by omega) (by omega) (by omega) (by show ¬ (gM S m 8 < gM S m 6 ∨ gM S m 8 ≤ gM S m 2); omega)) (fun v6 ⟨hC4, hO5⟩ => ?_)
  replace hO5 := hO2.tr hO5
  refine P_iconst (v := nI 0) dX0_rollStands_42 (by decide) ?_
  refine P_istore (ls2 := [some (.ref (b)), some (.ref (b + 6 + 13 * m)), some (.int (nI (gM S m 8))), some (.int (nI (gM S m 9))), some (.int (nI (0))), none]) dX0_rollStands_43 (by decide) rfl ?_
  have hL45 : ∀ (n45 : Nat) (k : Nat) (v1 : vV), (k ≤ c) → (k + n45 = c + 1) → (CR c v1 b (mup (fsF S m (gM S m 8) (gM S m 9)) k (menterC (sG S 6 (gG S 6 + 1)) m (gM S m 8) m (gM S m 9) (mheard S m m)))) → (vOw v v1 b 84) → vP M_X0_rollStands 45 [some (.ref (b)), some (.ref (b + 6 + 13 * m)), some (.int (nI (gM S m 8))), some (.int (nI (gM S m 9))), some (.int (nI (k))), none] [] ((vRm M_X0_rollStands).cells, (vRm M_X0_rollStands).slots) (σ, v1) (vN (qS σ none (kPo c v b (mstands S m)))) := by
    intro n45
    induction n45 with
    | zero =>
      intro k v1 h1 h2 hCk hOk
      exact absurd h2 (by omega)
    | succ n45 ih45 =>
      intro k v1 h1 h2 hCk hOk
      have hNk : NB c (mup (fsF S m (gM S m 8) (gM S m 9)) k (menterC (sG S 6 (gG S 6 + 1)) m (gM S m 8) m (gM S m 9) (mheard S m m))) (B + 7) := hN.stC (hN1.entC (by omega) (by omega) hb9 (mhb_lt hN m m 6 (Nat.le_refl _))) hm hb8 k h1
      have hMk : ∀ w, 12 ≤ w → gM (mup (fsF S m (gM S m 8) (gM S m 9)) k (menterC (sG S 6 (gG S 6 + 1)) m (gM S m 8) m (gM S m 9) (mheard S m m))) m w = gM S m w := fun w hw => by
        rw [mup_M (fun k9 S9 => by unfold fsF; split; exact msend_M; rfl)]
        unfold menterC
        rw [none_o (Or.inr (by omega)), told_w (Or.inr hw)]
        rfl
      refine P_iload dX0_rollStands_45 rfl ?_
      refine P_aload_n dX0_rollStands_47 rfl rfl ?_
      refine P_getiN (x := nI (c)) dX0_rollStands_48 kX0 fX0_38 rfl (by decide) hq.o hCk.g3 ?_
      refine P_icmp_geN (tgt := 113) dX0_rollStands_51 (by decide) (by omega) (by omega) (fun c51 => ?_) (fun c51 => ?_)
      · refine P_vret dX0_rollStands_113 rfl ?_
        refine q_s rfl ⟨?_, hOk⟩
        have ek : k = c := by omega
        rw [ek] at hCk
        refine hCk.cg ?_
        unfold mstands menterC
        rw [hC.c0]
        have he : ∀ w, w = 10 ∨ 12 ≤ w → gM (mtold (sG S 6 (gG S 6 + 1)) m (gM S m 8) m (gM S m 9) (mheard S m m)) m w = gM S m w := fun w hw => told_w hw
        exact fsF_e he c
      · refine P_iload dX0_rollStands_54 rfl ?_
        refine P_aload_n dX0_rollStands_56 rfl rfl ?_
        refine P_getiN (x := nI (m)) dX0_rollStands_57 kX2 fX0_214 rfl (by decide) (hq.m (by omega)).o (hCk.m (by omega)).s ?_
        refine P_icmp_eqN (tgt := 107) dX0_rollStands_60 (by decide) (by omega) (by omega) (fun c60 => ?_) (fun c60 => ?_)
        · refine P_iinc (v := nI (k + 1)) (ls2 := [some (.ref (b)), some (.ref (b + 6 + 13 * m)), some (.int (nI (gM S m 8))), some (.int (nI (gM S m 9))), some (.int (nI (k + 1))), none]) dX0_rollStands_107 rfl (nI_inc _ 1) (by decide) rfl ?_
          refine P_goto (tgt := 45) dX0_rollStands_110 (by decide) ?_
          refine ih45 (k + 1) v1 (by omega) (by omega) ?_ hOk
          show CR c v1 b (fsF S m (gM S m 8) (gM S m 9) k (mup (fsF S m (gM S m 8) (gM S m 9)) k (menterC (sG S 6 (gG S 6 + 1)) m (gM S m 8) m (gM S m 9) (mheard S m m))))
          unfold fsF
          rw [if_neg (fun q => q.1 c60)]
          exact hCk
        · refine P_iload_n dX0_rollStands_63 rfl rfl ?_
          refine P_iload dX0_rollStands_64 rfl ?_
          refine P_cSNp (rest := []) (As := [.int (nI (gM S m 9)), .int (nI (k))]) dX0_rollStands_66 lnX0_64 yk_X6_hasBit ys_X6_hasBit (by decide) rfl rfl (Nat.le_of_ble_eq_true rfl) rfl (c_X6_hasBit (by omega) (by omega)) ?_
          refine P_bif_eq (tgt := 107) dX0_rollStands_69 (by decide) (fun c69 => ?_) (fun c69 => ?_)
          · refine P_iinc (v := nI (k + 1)) (ls2 := [some (.ref (b)), some (.ref (b + 6 + 13 * m)), some (.int (nI (gM S m 8))), some (.int (nI (gM S m 9))), some (.int (nI (k + 1))), none]) dX0_rollStands_107 rfl (nI_inc _ 1) (by decide) rfl ?_
            refine P_goto (tgt := 45) dX0_rollStands_110 (by decide) ?_
            refine ih45 (k + 1) v1 (by omega) (by omega) ?_ hOk
            show CR c v1 b (fsF S m (gM S m 8) (gM S m 9) k (mup (fsF S m (gM S m 8) (gM S m 9)) k (menterC (sG S 6 (gG S 6 + 1)) m (gM S m 8) m (gM S m 9) (mheard S m m))))
            unfold fsF
            rw [if_neg (fun q => by rw [c69] at q; exact Bool.false_ne_true q.2)]
            exact hCk
          · refine P_aload_n dX0_rollStands_72 rfl rfl ?_
            refine P_getr (t := b + 6 + 13 * m + 1) dX0_rollStands_73 kX2 fX0_217 rfl (by decide) (hq.m (by omega)).o (hq.m (by omega)).c13 (hq.m (by omega)).pa.o.1.2 ?_
            refine P_iload dX0_rollStands_76 rfl ?_
            refine P_iload_n dX0_rollStands_78 rfl rfl ?_
            refine P_cVp (rest := []) (As := [.int (nI (k)), .int (nI (gM S m 9))]) dX0_rollStands_79 lX0_220 yk_X4_heardLike yv_X4_heardLike kX4 rfl (by decide) (hq.m (by omega)).pa.o rfl rfl (Nat.le_of_ble_eq_true rfl) rfl (c_X4_heardLike (A := fun k9 => gM (mup (fsF S m (gM S m 8) (gM S m 9)) k (menterC (sG S 6 (gG S 6 + 1)) m (gM S m 8) m (gM S m 9) (mheard S m m))) m (12 + 3 * k9)) (D := fun k9 => gM (mup (fsF S m (gM S m 8) (gM S m 9)) k (menterC (sG S 6 (gG S 6 + 1)) m (gM S m 8) m (gM S m 9) (mheard S m m))) m (13 + 3 * k9)) (H := fun k9 => gM (mup (fsF S m (gM S m 8) (gM S m 9)) k (menterC (sG S 6 (gG S 6 + 1)) m (gM S m 8) m (gM S m 9) (mheard S m m))) m (14 + 3 * k9)) (hq.m (by omega)).pa (by omega) (by omega) (fun k9 hk => (hCk.m (by omega)).a hk) (fun k9 hk => ⟨Nat.lt_of_le_of_lt (hNk.a1 m hk) (by omega), Nat.lt_trans (hNk.a2 m hk) (by omega)⟩)) ?_
            refine P_top (y := nI (mheard S m k)) (congrArg nI (mhl_b hA (fun w hw => hMk w hw) 6)) ?_
            refine P_istore (ls2 := [some (.ref (b)), some (.ref (b + 6 + 13 * m)), some (.int (nI (gM S m 8))), some (.int (nI (gM S m 9))), some (.int (nI (k))), some (.int (nI (mheard S m k)))]) dX0_rollStands_82 (by decide) rfl ?_
            refine P_aload_n dX0_rollStands_84 rfl rfl ?_
            refine P_getr (t := b + 2) dX0_rollStands_85 kX0 fX0_20 rfl (by decide) hq.o hq.r1 hq.k2.1.2 ?_
            refine P_iconst (v := nI 3) dX0_rollStands_88 (by decide) ?_
            refine P_aload_n dX0_rollStands_89 rfl rfl ?_
            refine P_aload_n dX0_rollStands_90 rfl rfl ?_
            refine P_getr (t := b + 1) dX0_rollStands_91 kX0 fX0_11 rfl (by decide) hq.o hq.r0 hq.k1.1.2 ?_
            refine P_iload dX0_rollStands_94 rfl ?_
            refine P_aaldM (t := b + 6 + 13 * k) (k) dX0_rollStands_96 hq.k1 rfl (by omega) (by decide) (hq.e (by omega)) (hq.m (by omega)).o.1.2 ?_
            refine P_aload_n dX0_rollStands_97 rfl rfl ?_
            refine P_getiN (x := nI (gG (mup (fsF S m (gM S m 8) (gM S m 9)) k (menterC (sG S 6 (gG S 6 + 1)) m (gM S m 8) m (gM S m 9) (mheard S m m))) 1)) dX0_rollStands_98 kX0 fX0_42 rfl (by decide) hq.o hCk.g4 ?_
            refine P_iload_n dX0_rollStands_101 rfl rfl ?_
            refine P_iload dX0_rollStands_102 rfl ?_
            refine P_cVs (rest := []) (As := [.int (nI (3)), .ref (b + 6 + 13 * m), .ref (b + 6 + 13 * k), .int (nI (gG (mup (fsF S m (gM S m 8) (gM S m 9)) k (menterC (sG S 6 (gG S 6 + 1)) m (gM S m 8) m (gM S m 9) (mheard S m m))) 1)), .int (nI (gM S m 8)), .int (nI (mheard S m k))]) dX0_rollStands_104 lX0_153 yk_X3_send yv_X3_send kX3 rfl (by decide) hq.k2 rfl rfl (Nat.le_of_ble_eq_true rfl) rfl (c_X3_send m hq hCk hNk (by omega) (by omega) (by omega)) (fun v9 ⟨hC7, hO8⟩ => ?_)
            replace hO8 := hOk.tr hO8
            refine P_iinc (v := nI (k + 1)) (ls2 := [some (.ref (b)), some (.ref (b + 6 + 13 * m)), some (.int (nI (gM S m 8))), some (.int (nI (gM S m 9))), some (.int (nI (k + 1))), some (.int (nI (mheard S m k)))]) dX0_rollStands_107 rfl (nI_inc _ 1) (by decide) rfl ?_
            refine P_goto (tgt := 45) dX0_rollStands_110 (by decide) ?_
            refine P_weak (ls2 := [some (.ref (b)), some (.ref (b + 6 + 13 * m)), some (.int (nI (gM S m 8))), some (.int (nI (gM S m 9))), some (.int (nI (k + 1))), none]) ⟨rfl, rfl, rfl, rfl, rfl, trivial⟩ ?_
            refine ih45 (k + 1) v9 (by omega) (by omega) ?_ hO8
            show CR c v9 b (fsF S m (gM S m 8) (gM S m 9) k (mup (fsF S m (gM S m 8) (gM S m 9)) k (menterC (sG S 6 (gG S 6 + 1)) m (gM S m 8) m (gM S m 9) (mheard S m m))))
            unfold fsF
            rw [if_pos ⟨c60, c69⟩]
            exact hC7
  exact hL45 (c + 1) 0 v6 (by omega) (by omega) hC4 hO5
set_option maxHeartbeats 4000000 in
set_option maxRecDepth 100000 in
theorem c_X0_callRoll {σ : vS} {v : vV} {c b : Nat} {S : mS} {m set : Nat} (hq : kLC σ b) (hC : CR c v b S) {B : Nat} (hN : NB c S B) (hB : B + 400 < 1000000000) (hm : m < c) (hset : set < 64) (hs : set.testBit m = true) (h2 : gM S m 2 ≤ gM S m 6) : vC M_X0_callRoll yX0_callRoll [.ref (b), .int (nI (m)), .int (nI (set))] (σ, v) (qS σ (some (.int (nI (gM S m 6 + 1)))) (kPo c v b (mcall S m set))) := by
  have hc6 := hC.c6
  have hO : vOw v v b 84 := vOw.rf
  refine vC_of (ls := [some (.ref (b)), some (.int (nI (m))), some (.int (nI (set))), none, none, none]) pn_X0 rfl rfl (Nat.le_of_ble_eq_true rfl) rfl ?_
  refine P_aload_n dX0_callRoll_0 rfl rfl ?_
  refine P_getr (t := b + 1) dX0_callRoll_1 kX0 fX0_11 rfl (by decide) hq.o hq.r0 hq.k1.1.2 ?_
  refine P_iload_n dX0_callRoll_4 rfl rfl ?_
  refine P_aaldM (t := b + 6 + 13 * m) (m) dX0_callRoll_5 hq.k1 rfl (by omega) (by decide) (hq.e (by omega)) (hq.m (by omega)).o.1.2 ?_
  refine P_astore_n (ls2 := [some (.ref (b)), some (.int (nI (m))), some (.int (nI (set))), some (.ref (b + 6 + 13 * m)), none, none]) dX0_callRoll_6 rfl (by decide) rfl ?_
  refine P_aload_n dX0_callRoll_7 rfl rfl ?_
  refine P_iload_n dX0_callRoll_8 rfl rfl ?_
  refine P_aload_n dX0_callRoll_9 rfl rfl ?_
  refine P_getiN (x := nI (gG S 1)) dX0_callRoll_10 kX0 fX0_42 rfl (by decide) hq.o hC.g4 ?_
  refine P_cVs (rest := []) (As := [.int (nI (set)), .int (nI (gG S 1))]) dX0_callRoll_13 lX0_157 yk_X2_startCall yv_X2_startCall kX2 rfl (by decide) (hq.m (by omega)).o rfl rfl (Nat.le_of_ble_eq_true rfl) rfl (c_X2_startCall hq hC (by omega)) (fun v3 ⟨hC1, hO2⟩ => ?_)
  replace hO2 := hO.tr hO2
  have h90 : gM (mputA (mstart S m set) m m (gM S m 2) (gM S m 3) (gM S m 5)) m 9 ≠ 0 := by rw [put_o (Or.inr (by decide)), start_v.2.2.2.1]; exact tb0 hs
  refine P_aload_n dX0_callRoll_16 rfl rfl ?_
  refine P_getiN (x := nI (gM S m 6 + 1)) dX0_callRoll_17 kX2 fX0_161 rfl (by decide) (hq.m (by omega)).o (((hC1.m (by omega)).n9 h90).trans (congrArg nI (by rw [put_o (Or.inr (by decide)), start_v.2.2.1]))) ?_
  refine P_istore (ls2 := [some (.ref (b)), some (.int (nI (m))), some (.int (nI (set))), some (.ref (b + 6 + 13 * m)), some (.int (nI (gM S m 6 + 1))), none]) dX0_callRoll_20 (by decide) rfl ?_
  refine P_iconst (v := nI 0) dX0_callRoll_22 (by decide) ?_
  refine P_istore (ls2 := [some (.ref (b)), some (.int (nI (m))), some (.int (nI (set))), some (.ref (b + 6 + 13 * m)), some (.int (nI (gM S m 6 + 1))), some (.int (nI (0)))]) dX0_callRoll_23 (by decide) rfl ?_
  have hL25 : ∀ (n25 : Nat) (k : Nat) (v1 : vV), (k ≤ c) → (k + n25 = c + 1) → (CR c v1 b (mup (mcallF m (gM S m 6 + 1) set) k (mputA (mstart S m set) m m (gM S m 2) (gM S m 3) (gM S m 5)))) → (vOw v v1 b 84) → vP M_X0_callRoll 25 [some (.ref (b)), some (.int (nI (m))), some (.int (nI (set))), some (.ref (b + 6 + 13 * m)), some (.int (nI (gM S m 6 + 1))), some (.int (nI (k)))] [] ((vRm M_X0_callRoll).cells, (vRm M_X0_callRoll).slots) (σ, v1) (vN (qS σ (some (.int (nI (gM S m 6 + 1)))) (kPo c v b (mcall S m set)))) := by
    intro n25
    induction n25 with
    | zero =>
      intro k v1 h1 h2 hCk hOk
      exact absurd h2 (by omega)
    | succ n25 ih25 =>
      intro k v1 h1 h2 hCk hOk
      have hNk : NB c (mup (mcallF m (gM S m 6 + 1) set) k (mputA (mstart S m set) m m (gM S m 2) (gM S m 3) (gM S m 5))) (B + 7) := by rw [callF_put]; exact (hN.sends hm hset k h1).putA (by omega) (by have := hN.m2 m; omega) (hN.m3 m) (hN.m5 m)
      refine P_iload dX0_callRoll_25 rfl ?_
      refine P_aload_n dX0_callRoll_27 rfl rfl ?_
      refine P_getiN (x := nI (c)) dX0_callRoll_28 kX0 fX0_38 rfl (by decide) hq.o hCk.g3 ?_
      refine P_icmp_geN (tgt := 78) dX0_callRoll_31 (by decide) (by omega) (by omega) (fun c31 => ?_) (fun c31 => ?_)
      · have ek : k = c := by omega
        rw [ek, callF_put] at hCk hNk
        have hCv : CR c v1 b (mputA (msends S m set) m m (gM S m 2) (gM S m 3) (gM S m 5)) := by unfold msends; rw [hC.c0]; exact hCk
        have hNv : NB c (mputA (msends S m set) m m (gM S m 2) (gM S m 3) (gM S m 5)) (B + 7) := by unfold msends; rw [hC.c0]; exact hNk
        have eM : ∀ w, w < 12 → w ≠ 10 → gM (mputA (msends S m set) m m (gM S m 2) (gM S m 3) (gM S m 5)) m w = gM (mstart S m set) m w := fun w h1 h2 => by rw [put_o (Or.inr ⟨h1, h2⟩)]; unfold msends; rw [msends_M]
        refine P_aload_n dX0_callRoll_78 rfl rfl ?_
        refine P_cVp (rest := []) (As := []) dX0_callRoll_79 lX0_164 yk_X2_isAnsweredByAll yv_X2_isAnsweredByAll kX2 rfl (by decide) (hq.m (by omega)).o rfl rfl (Nat.le_of_ble_eq_true rfl) rfl (c_X2_isAnsweredByAll hq hCv hNv (by omega) (by omega)) ?_
        refine P_bif_eq (tgt := 90) dX0_callRoll_82 (by decide) (fun c82 => ?_) (fun c82 => ?_)
        · refine P_iload dX0_callRoll_90 rfl ?_
          refine P_iret dX0_callRoll_92 rfl ?_
          refine q_s rfl ⟨?_, hOk⟩
          unfold mcall mans
          rw [if_neg (of_decide_eq_false c82)]
          exact hCv
        · refine P_aload_n dX0_callRoll_85 rfl rfl ?_
          refine P_aload_n dX0_callRoll_86 rfl rfl ?_
          refine P_cVs (rest := []) (As := [.ref (b + 6 + 13 * m)]) dX0_callRoll_87 lX0_167 yk_X0_rollStands yv_X0_rollStands kX0 rfl (by decide) hq.o rfl rfl (Nat.le_of_ble_eq_true rfl) rfl (c_X0_rollStands hq hCv hNv (by omega) hm (by rw [eM 9 (by decide) (by decide), start_v.2.2.2.1]; exact tb0 hs) (of_decide_eq_true c82) (by rw [eM 8 (by decide) (by decide), eM 6 (by decide) (by decide), start_v.2.2.1, start_v.1]) (by rw [eM 2 (by decide) (by decide), eM 6 (by decide) (by decide), start_v.1, start_o (Or.inr (by decide))]; omega)) (fun v6 ⟨hC4, hO5⟩ => ?_)
          replace hO5 := hOk.tr hO5
          refine P_iload dX0_callRoll_90 rfl ?_
          refine P_iret dX0_callRoll_92 rfl ?_
          refine q_s rfl ⟨?_, hO5⟩
          unfold mcall mans
          rw [if_pos (of_decide_eq_true c82)]
          exact hC4
      · refine P_iload dX0_callRoll_34 rfl ?_
        refine P_iload_n dX0_callRoll_36 rfl rfl ?_
        refine P_icmp_eqN (tgt := 72) dX0_callRoll_37 (by decide) (by omega) (by omega) (fun c37 => ?_) (fun c37 => ?_)
        · refine P_iinc (v := nI (k + 1)) (ls2 := [some (.ref (b)), some (.int (nI (m))), some (.int (nI (set))), some (.ref (b + 6 + 13 * m)), some (.int (nI (gM S m 6 + 1))), some (.int (nI (k + 1)))]) dX0_callRoll_72 rfl (nI_inc _ 1) (by decide) rfl ?_
          refine P_goto (tgt := 25) dX0_callRoll_75 (by decide) ?_
          refine ih25 (k + 1) v1 (by omega) (by omega) ?_ hOk
          show CR c v1 b (mcallF m (gM S m 6 + 1) set k (mup (mcallF m (gM S m 6 + 1) set) k (mputA (mstart S m set) m m (gM S m 2) (gM S m 3) (gM S m 5))))
          unfold mcallF
          rw [if_neg (fun q => q.1 c37)]
          exact hCk
        · refine P_iload_n dX0_callRoll_40 rfl rfl ?_
          refine P_iload dX0_callRoll_41 rfl ?_
          refine P_cSNp (rest := []) (As := [.int (nI (set)), .int (nI (k))]) dX0_callRoll_43 lnX0_64 yk_X6_hasBit ys_X6_hasBit (by decide) rfl rfl (Nat.le_of_ble_eq_true rfl) rfl (c_X6_hasBit (by omega) (by omega)) ?_
          refine P_bif_eq (tgt := 72) dX0_callRoll_46 (by decide) (fun c46 => ?_) (fun c46 => ?_)
          · refine P_iinc (v := nI (k + 1)) (ls2 := [some (.ref (b)), some (.int (nI (m))), some (.int (nI (set))), some (.ref (b + 6 + 13 * m)), some (.int (nI (gM S m 6 + 1))), some (.int (nI (k + 1)))]) dX0_callRoll_72 rfl (nI_inc _ 1) (by decide) rfl ?_
            refine P_goto (tgt := 25) dX0_callRoll_75 (by decide) ?_
            refine ih25 (k + 1) v1 (by omega) (by omega) ?_ hOk
            show CR c v1 b (mcallF m (gM S m 6 + 1) set k (mup (mcallF m (gM S m 6 + 1) set) k (mputA (mstart S m set) m m (gM S m 2) (gM S m 3) (gM S m 5))))
            unfold mcallF
            rw [if_neg (fun q => by rw [c46] at q; exact Bool.false_ne_true q.2)]
            exact hCk
          · refine P_aload_n dX0_callRoll_49 rfl rfl ?_
            refine P_getr (t := b + 2) dX0_callRoll_50 kX0 fX0_20 rfl (by decide) hq.o hq.r1 hq.k2.1.2 ?_
            refine P_iconst (v := nI 1) dX0_callRoll_53 (by decide) ?_
            refine P_aload_n dX0_callRoll_54 rfl rfl ?_
            refine P_aload_n dX0_callRoll_55 rfl rfl ?_
            refine P_getr (t := b + 1) dX0_callRoll_56 kX0 fX0_11 rfl (by decide) hq.o hq.r0 hq.k1.1.2 ?_
            refine P_iload dX0_callRoll_59 rfl ?_
            refine P_aaldM (t := b + 6 + 13 * k) (k) dX0_callRoll_61 hq.k1 rfl (by omega) (by decide) (hq.e (by omega)) (hq.m (by omega)).o.1.2 ?_
            refine P_aload_n dX0_callRoll_62 rfl rfl ?_
            refine P_getiN (x := nI (gG (mup (mcallF m (gM S m 6 + 1) set) k (mputA (mstart S m set) m m (gM S m 2) (gM S m 3) (gM S m 5))) 1)) dX0_callRoll_63 kX0 fX0_42 rfl (by decide) hq.o hCk.g4 ?_
            refine P_iload dX0_callRoll_66 rfl ?_
            refine P_iload_n dX0_callRoll_68 rfl rfl ?_
            refine P_cVs (rest := []) (As := [.int (nI (1)), .ref (b + 6 + 13 * m), .ref (b + 6 + 13 * k), .int (nI (gG (mup (mcallF m (gM S m 6 + 1) set) k (mputA (mstart S m set) m m (gM S m 2) (gM S m 3) (gM S m 5))) 1)), .int (nI (gM S m 6 + 1)), .int (nI (set))]) dX0_callRoll_69 lX0_153 yk_X3_send yv_X3_send kX3 rfl (by decide) hq.k2 rfl rfl (Nat.le_of_ble_eq_true rfl) rfl (c_X3_send m hq hCk hNk (by omega) (by omega) (by omega)) (fun v9 ⟨hC7, hO8⟩ => ?_)
            replace hO8 := hOk.tr hO8
            refine P_iinc (v := nI (k + 1)) (ls2 := [some (.ref (b)), some (.int (nI (m))), some (.int (nI (set))), some (.ref (b + 6 + 13 * m)), some (.int (nI (gM S m 6 + 1))), some (.int (nI (k + 1)))]) dX0_callRoll_72 rfl (nI_inc _ 1) (by decide) rfl ?_
            refine P_goto (tgt := 25) dX0_callRoll_75 (by decide) ?_
            refine ih25 (k + 1) v9 (by omega) (by omega) ?_ hO8
            show CR c v9 b (mcallF m (gM S m 6 + 1) set k (mup (mcallF m (gM S m 6 + 1) set) k (mputA (mstart S m set) m m (gM S m 2) (gM S m 3) (gM S m 5))))
            unfold mcallF
            rw [if_pos ⟨c37, c46⟩]
            exact hC7
  exact hL25 (c + 1) 0 v3 (by omega) (by omega) hC1 hO2
set_option maxHeartbeats 4000000 in
set_option maxRecDepth 100000 in
theorem c_X0_answerCall {σ : vS} {v : vV} {c b : Nat} {S : mS} {m f num : Nat} (hq : kLC σ b) (hC : CR c v b S) {B : Nat} (hN : NB c S B) (hB : B + 200 < 1000000000) (hm : m < 6) (hf : f < 6) (hn : num ≤ B) : vC M_X0_answerCall yX0_answerCall [.ref (b), .ref (b + 6 + 13 * m), .ref (b + 6 + 13 * f), .int (nI (num))] (σ, v) (qS σ none (kPo c v b (mansc S m f num))) := by
  have hO : vOw v v b 84 := vOw.rf
  refine vC_of (ls := [some (.ref (b)), some (.ref (b + 6 + 13 * m)), some (.ref (b + 6 + 13 * f)), some (.int (nI (num)))]) pn_X0 rfl rfl (Nat.le_of_ble_eq_true rfl) rfl ?_
  refine P_iload_n dX0_answerCall_0 rfl rfl ?_
  refine P_aload_n dX0_answerCall_1 rfl rfl ?_
  refine P_getiN (x := nI (gM S m 6)) dX0_answerCall_2 kX2 fX0_205 rfl (by decide) (hq.m (by omega)).o ((hC.m (by omega)).w (by decide)) ?_
  refine P_icmp_leN (tgt := 32) dX0_answerCall_5 (by decide) (by first | omega | (have := hN.m6 m; omega)) (by first | omega | (have := hN.m6 m; omega)) (fun c5 => ?_) (fun c5 => ?_)
  · refine P_vret dX0_answerCall_32 rfl ?_
    refine q_s rfl ⟨?_, hO⟩
    unfold mansc
    rw [if_neg (by omega)]
    exact hC
  · refine P_aload_n dX0_answerCall_8 rfl rfl ?_
    refine P_iload_n dX0_answerCall_9 rfl rfl ?_
    refine P_cVs (rest := []) (As := [.int (nI (num))]) dX0_answerCall_10 lX0_208 yk_X2_hushFor yv_X2_hushFor kX2 rfl (by decide) (hq.m (by omega)).o rfl rfl (Nat.le_of_ble_eq_true rfl) rfl (c_X2_hushFor hq hC (by omega)) (fun v3 ⟨hC1, hO2⟩ => ?_)
    replace hO2 := hO.tr hO2
    refine P_aload_n dX0_answerCall_13 rfl rfl ?_
    refine P_getr (t := b + 2) dX0_answerCall_14 kX0 fX0_20 rfl (by decide) hq.o hq.r1 hq.k2.1.2 ?_
    refine P_iconst (v := nI 2) dX0_answerCall_17 (by decide) ?_
    refine P_aload_n dX0_answerCall_18 rfl rfl ?_
    refine P_aload_n dX0_answerCall_19 rfl rfl ?_
    refine P_aload_n dX0_answerCall_20 rfl rfl ?_
    refine P_getiN (x := nI (gG (mnone (sM (sM S m 6 num) m 1 1) m) 1)) dX0_answerCall_21 kX0 fX0_42 rfl (by decide) hq.o hC1.g4 ?_
    refine P_iload_n dX0_answerCall_24 rfl rfl ?_
    refine P_aload_n dX0_answerCall_25 rfl rfl ?_
    refine P_getiN (x := nI (gM S m 5)) dX0_answerCall_26 kX2 fX0_80 rfl (by decide) (hq.m (by omega)).o (((hC1.m (by omega)).w (w := 5) (by decide)).trans (congrArg nI mcalled5)) ?_
    refine P_cVs (rest := []) (As := [.int (nI (2)), .ref (b + 6 + 13 * m), .ref (b + 6 + 13 * f), .int (nI (gG (mnone (sM (sM S m 6 num) m 1 1) m) 1)), .int (nI (num)), .int (nI (gM S m 5))]) dX0_answerCall_29 lX0_153 yk_X3_send yv_X3_send kX3 rfl (by decide) hq.k2 rfl rfl (Nat.le_of_ble_eq_true rfl) rfl (c_X3_send f hq hC1 (B := B + 1) (NB.none9 (NB.M (NB.M (hN.up (Nat.le_succ B)) (fun _ => by show num ≤ B + 1; omega)) (fun _ => by show 1 ≤ 2; decide))) (by omega) (by omega) (by omega)) (fun v6 ⟨hC4, hO5⟩ => ?_)
    replace hO5 := hO2.tr hO5
    refine P_vret dX0_answerCall_32 rfl ?_
    refine q_s rfl ⟨?_, hO5⟩
    unfold mansc
    rw [if_pos (by omega)]
    exact hC4
