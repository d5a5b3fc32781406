
/-! WHAT A MEMBER'S ROLL IS AS LONG AS NO ROLL STANDS -/
def kSt (m : Nat) (S S' : mS) : Prop := gG S 6 ≤ gG S' 6 ∧ (gG S' 6 = gG S 6 → (gM S' m 2 = gM S m 2 ∧ gM S' m 3 = gM S m 3) ∨ gM S' m 3 ≠ m)
theorem kSt.rf {m : Nat} {S : mS} : kSt m S S := ⟨Nat.le_refl _, fun _ => Or.inl ⟨rfl, rfl⟩⟩
theorem kSt.tr {m : Nat} {S S' S'' : mS} (h : kSt m S S') (g : kSt m S' S'') : kSt m S S'' := by
  obtain ⟨h1, h2⟩ := h
  obtain ⟨g1, g2⟩ := g
  refine ⟨Nat.le_trans h1 g1, fun e => ?_⟩
  rcases g2 (by omega) with ⟨a, b⟩ | a
  · rcases h2 (by omega) with ⟨d, e⟩ | d
    · exact Or.inl ⟨a.trans d, b.trans e⟩
    · exact Or.inr (by rw [b]; exact d)
  · exact Or.inr a
theorem kSt.eq {m : Nat} {S S' : mS} (e6 : gG S' 6 = gG S 6) (e : gM S' m 2 = gM S m 2 ∧ gM S' m 3 = gM S m 3) : kSt m S S' := ⟨Nat.le_of_eq e6.symm, fun _ => Or.inl e⟩
theorem kSt.up {m : Nat} {S S' : mS} (h : gG S 6 < gG S' 6) : kSt m S S' := ⟨Nat.le_of_lt h, fun e => absurd e (by omega)⟩
theorem kSt.M {m k w x : Nat} {S : mS} (h2 : w ≠ 2) (h3 : w ≠ 3) : kSt m S (sM S k w x) := by
  refine .eq rfl ?_
  by_cases e : m = k
  · subst e
    rw [sM_at, if_neg (fun q => h2 q.symm), sM_at, if_neg (fun q => h3 q.symm)]
    exact ⟨rfl, rfl⟩
  · rw [sM_ne e]; exact ⟨rfl, rfl⟩
theorem kSt.G {m i x : Nat} {S : mS} (hi : i ≠ 6) : kSt m S (sG S i x) := .eq (if_neg (fun q => hi q.symm)) ⟨rfl, rfl⟩
theorem kSt.K {m k : Nat} {S : mS} {l : List mT} : kSt m S (sK S k l) := .eq rfl ⟨rfl, rfl⟩
theorem kSt.H {m k : Nat} {S : mS} {l : List mT} : kSt m S (sH S k l) := .eq rfl ⟨rfl, rfl⟩
theorem kSt.N {m : Nat} {S : mS} {l : List mN} : kSt m S (sN S l) := .eq rfl ⟨rfl, rfl⟩
theorem kSt.send {m : Nat} {S : mS} {kd frm to num by9 data : Nat} : kSt m S (msend S kd frm to num by9 data) := by
  unfold msend
  split
  · exact .G (by decide)
  · exact .N
theorem kSt.none9 {m k : Nat} {S : mS} : kSt m S (mnone S k) := ((kSt.M (w := 8) (by decide) (by decide)).tr (.M (w := 9) (by decide) (by decide))).tr (.M (w := 10) (by decide) (by decide))
theorem kSt.ups {m : Nat} {f : Nat → mS → mS} (hf : ∀ k S, kSt m S (f k S)) (n : Nat) (S : mS) : kSt m S (mup f n S) := by
  induction n with
  | zero => exact .rf
  | succ n ih => exact ih.tr (hf n _)
theorem stands_6 {S : mS} {m : Nat} : gG S 6 < gG (mstands S m) 6 := by
  have h : mSt (sG S 6 (gG S 6 + 1)) (mstands S m) := by
    unfold mstands
    refine mSt.tr (mSt.tr .told (.ups (fun k S => ?_) _ _)) .none9
    unfold mstandsF
    split
    · exact .send .rf
    · exact .rf
  have := h.g6
  exact this
theorem kSt.ans {m k frm num by9 heard : Nat} {S : mS} : kSt m S (mans S k frm num by9 heard) := by
  have hp : kSt m S (mputA S k frm num by9 heard) := (((kSt.M (w := 12 + 3 * frm) (by omega) (by omega)).tr (.M (w := 13 + 3 * frm) (by omega) (by omega))).tr (.M (w := 14 + 3 * frm) (by omega) (by omega))).tr (.M (w := 10) (by decide) (by decide))
  unfold mans
  split
  · exact hp.tr (.up stands_6)
  · exact hp
theorem kSt.call {m k set : Nat} {S : mS} : kSt m S (mcall S k set) := by
  refine kSt.tr (kSt.tr ?_ (.ups (fun j S => ?_) _ _)) .ans
  · exact (((((kSt.M (w := 6) (by decide) (by decide)).tr (.M (w := 1) (by decide) (by decide))).tr (.M (w := 8) (by decide) (by decide))).tr (.M (w := 9) (by decide) (by decide))).tr (.M (w := 10) (by decide) (by decide))).tr (.M (w := 11) (by decide) (by decide))
  · unfold mcallF
    split
    · exact .send
    · exact .rf
theorem told_3 {S : mS} {m k num by9 set heard : Nat} (h : by9 ≠ k) : kSt m S (mtold S k num by9 set heard) := by
  unfold mtold
  split
  · exact .rf
  · refine kSt.tr ?_ .K
    refine kSt.tr ?_ (.M (by decide) (by decide))
    unfold menter mover
    by_cases e : m = k
    · subst e
      refine ⟨Nat.le_refl _, fun _ => Or.inr ?_⟩
      rw [sM_at, if_neg (by decide), sM_at, if_neg (by decide), sM_at, if_neg (by decide), sM_at, if_pos rfl]
      exact h
    · refine .eq rfl ?_
      rw [sM_ne e, sM_ne e, sM_ne e, sM_ne e, sM_ne e, sM_ne e]
      exact ⟨rfl, rfl⟩
theorem kSt.read {m : Nat} {S : mS} {x : mN} (h0 : x 0 ≤ 3) (hx : x 0 = 3 → x 5 ≠ x 2) : kSt m S (mread S x) := by
  unfold mread
  split
  · exact .G (by decide)
  split
  · unfold mspeech
    split
    · exact .M (by decide) (by decide)
    split
    · exact .K
    · exact .G (by decide)
  split
  · unfold mcalled
    split
    · exact (((kSt.M (w := 6) (by decide) (by decide)).tr (.M (w := 1) (by decide) (by decide))).tr .none9).tr .send
    · exact .rf
  split
  · unfold mreplied
    split
    · exact .ans
    · exact .rf
  · exact told_3 (hx (by omega))
theorem kSt.wait {m k : Nat} {S : mS} : kSt m S (mwaitF k S) := by
  unfold mwaitF
  split
  · exact .call
  · exact .rf
theorem kSt.comes {m c B : Nat} {S : mS} (h : Iv c 0 S) (hB : NB c S B) (hl : 0 < (gN S).length) : kSt m S (mcomes S) := by
  obtain ⟨F, -, hNP⟩ := h.2
  have hm := head_mem hl
  have hx := hB.n hm
  have hn := hNP _ hm
  exact kSt.N.tr (.read hx.1 (fun q => by rw [(hn.2.2.2 q).2.1]; exact hn.1))
theorem kSt.drain {m c : Nat} : ∀ (n : Nat) {B : Nat} {S : mS}, Iv c 0 S → NB c S B → kSt m S (mdrain n S) := by
  intro n
  induction n with
  | zero => intro B S h hB; exact .rf
  | succ n ih =>
    intro B S h hB
    by_cases q : mdue S
    · rw [drain_step q]
      exact (kSt.comes h hB q.1).tr (ih (h.comes hB q.1) (hB.comes q.1))
    · rw [drain_stop q]; exact .rf
theorem kSt.tick {m c B : Nat} {S : mS} (h : Iv c 1 S) (hB : NB c S B) : kSt m S (mtick S) := by
  have h1 : kSt m S (mdrain (gN S).length (sG S 1 (gG S 1 + 1))) := (kSt.G (by decide)).tr (.drain _ h.time hB.time)
  unfold mtick
  split
  · exact h1.tr (.ups (fun _ _ => .wait) _ _)
  · exact h1
theorem kSt.ticks {m c B : Nat} {S : mS} (h : Iv c 1 S) (hB : NB c S B) : ∀ n, kSt m S (mticks n S) := by
  intro n
  induction n with
  | zero => exact .rf
  | succ n ih => exact ih.tr (.tick (h.ticks hB n) (hB.ticks n))
theorem stands_grow {m c B set k : Nat} {S : mS} (h : Iv c 1 (mcall S m set)) (hB : NB c (mcall S m set) B) (h2 : gM S m 2 ≤ gM S m 6) (hs : gM (mticks k (mcall S m set)) m 2 = gM S m 6 + 1 ∧ gM (mticks k (mcall S m set)) m 3 = m) : gG S 6 < gG (mticks k (mcall S m set)) 6 := by
  obtain ⟨g1, g2⟩ := (kSt.call (m := m) (k := m) (set := set) (S := S)).tr (kSt.ticks h hB k)
  by_cases e : gG (mticks k (mcall S m set)) 6 = gG S 6
  · rcases g2 e with ⟨a, b⟩ | a
    · omega
    · exact absurd hs.2 a
  · omega
theorem mthere_m {S : mS} {m num set : Nat} (hs : set.testBit m = true) : ∀ n, m < n → mthere S m num set n = true → gM S m 2 = num ∧ gM S m 3 = m := by
  intro n
  induction n with
  | zero => intro h; exact absurd h (Nat.not_lt_zero m)
  | succ n ih =>
    intro hm h
    rw [mthere, Bool.and_eq_true] at h
    by_cases e : m = n
    · subst e
      rw [hs] at h
      exact (of_decide_eq_true h.2).2
    · exact ih (by omega) h.1
theorem kc3_f {X : mC} {a d r : Nat} (h : ¬ ((r = 10 ∨ r = 0) ∧ (a < X.1 ∧ d < X.1) ∧ a ≠ d)) : (if r = 10 then kCut X a d true else if r = 0 then kCut X a d false else (false, X)) = (false, X) := by
  by_cases e : r = 10
  · rw [if_pos e]; exact if_neg (fun q => h ⟨Or.inl e, q⟩)
  · rw [if_neg e]
    by_cases e2 : r = 0
    · rw [if_pos e2]; exact if_neg (fun q => h ⟨Or.inr e2, q⟩)
    · rw [if_neg e2]
theorem cm_t {σ : vS} {v v9 : vV} {q : Nat} {X : mC} {R : Bool × mC} (e : R = (true, X)) (hR : RR X.1 v9 (q + 3) X.2) (hO : vO2 v v9 (q + 3) (q + 7)) : vN (qS σ (some (.int (vb R.1))) (fun v9 => RR R.2.1 v9 (q + 3) R.2.2 ∧ vO2 v v9 (q + 3) (q + 7))) (.inl (some (.int (nI 1)))) (σ, v9) := by
  subst e
  exact q_s rfl ⟨hR, hO⟩
theorem cm_f {σ : vS} {v v9 : vV} {q : Nat} {X : mC} {R : Bool × mC} (e : R = (false, X)) (hR : RR X.1 v9 (q + 3) X.2) (hO : vO2 v v9 (q + 3) (q + 7)) : vN (qS σ (some (.int (vb R.1))) (fun v9 => RR R.2.1 v9 (q + 3) R.2.2 ∧ vO2 v v9 (q + 3) (q + 7))) (.inl (some (.int (nI 0)))) (σ, v9) := by
  subst e
  exact q_s rfl ⟨hR, hO⟩
theorem in_scr {x : Int64} {L n : Nat} (e : 100000 ^ n = L) (hL : 0 < L ∧ L ≤ 1000000000000000) : decide ((0 : Int64) ≤ x ∧ x ≤ nL L - 1) = decide (0 ≤ x.toInt ∧ x.toInt < ((100000 ^ n : Nat) : Int)) := by
  apply decide_eq_decide.mpr
  have h1 : nL L - 1 = nL (L - 1) := nL_sub (a := L) (d := 1) (by omega)
  rw [h1, Int64.le_iff_toInt_le, Int64.le_iff_toInt_le, nL_toInt (by omega), l_0, e]
  omega
theorem scr_n {x : Int64} {n : Nat} (h : decide (0 ≤ x.toInt ∧ x.toInt < ((100000 ^ n : Nat) : Int)) = true) (hn : 100000 ^ n ≤ 1000000000000000) : ∃ k, k < 100000 ^ n ∧ x = nL k := by
  have := of_decide_eq_true h
  exact ⟨x.toInt.toNat, by omega, nL_of (by omega) (by omega)⟩

theorem mcnd_ok {c m num set w : Nat} {U : mS} (h : w = 0) (g : gM U m 2 = num ∧ gM U m 3 = m) : mcnd c U m num set w = true := by subst h; exact decide_eq_true g
theorem mcnd_no {c m num set w : Nat} {U : mS} (g : ¬ (gM U m 2 = num ∧ gM U m 3 = m)) (hm : m < c) (hs : set.testBit m = true) : mcnd c U m num set w = false := by
  by_cases h : w = 0
  · subst h; exact decide_eq_false g
  · rw [mcnd_1 h, ← Bool.not_eq_true]
    exact fun h9 => g (mthere_m hs c hm h9)
set_option maxHeartbeats 4000000 in
set_option maxRecDepth 100000 in
theorem c_X7_command {σ : vS} {v : vV} {c q : Nat} {S : mS} (hq : LR σ q) (hR : RR c v (q + 3) S) {B : Nat} (hN : NB c S B) (hB : B + 100000 < 1000000000) (hI : Iv c 1 S) {h a d r : Nat} (hh : h < 2147483648) (ha : a < 10) (hd : d < 10) (hr9 : r < 100) : vC M_X7_command yX7_command [.ref (q), .int (nI (h)), .int (nI (1000 * a + 100 * d + r))] (σ, v) (qS σ (some (.int (vb (kcm h a d r (c, S)).1))) (fun v9 => RR (kcm h a d r (c, S)).2.1 v9 (q + 3) (kcm h a d r (c, S)).2.2 ∧ vO2 v v9 (q + 3) (q + 7))) := by
  have hc6 := hR.c6
  refine vC_of (ls := [some (.ref (q)), some (.int (nI (h))), some (.int (nI (1000 * a + 100 * d + r))), none, none, none, none, none, none]) pn_X7 rfl rfl (Nat.le_of_ble_eq_true rfl) rfl ?_
  refine P_iload_n dX7_command_0 rfl rfl ?_
  refine P_sipush (v := nI 1000) dX7_command_1 (by decide) ?_
  refine P_idivN dX7_command_4 (by omega) (by decide) (by decide) ?_
  refine P_top (y := nI (a)) (congrArg nI (by omega)) ?_
  refine P_istore_n (ls2 := [some (.ref (q)), some (.int (nI (h))), some (.int (nI (1000 * a + 100 * d + r))), some (.int (nI (a))), none, none, none, none, none]) dX7_command_5 rfl (by decide) rfl ?_
  refine P_iload_n dX7_command_6 rfl rfl ?_
  refine P_sipush (v := nI 1000) dX7_command_7 (by decide) ?_
  refine P_iremN dX7_command_10 (by omega) (by decide) (by decide) ?_
  refine P_top (y := nI (100 * d + r)) (congrArg nI (by omega)) ?_
  refine P_istore (ls2 := [some (.ref (q)), some (.int (nI (h))), some (.int (nI (1000 * a + 100 * d + r))), some (.int (nI (a))), some (.int (nI (100 * d + r))), none, none, none, none]) dX7_command_11 (by decide) rfl ?_
  refine P_iload dX7_command_13 rfl ?_
  refine P_bipush (v := nI 100) dX7_command_15 (by decide) ?_
  refine P_idivN dX7_command_17 (by omega) (by decide) (by decide) ?_
  refine P_top (y := nI (d)) (congrArg nI (by omega)) ?_
  refine P_istore (ls2 := [some (.ref (q)), some (.int (nI (h))), some (.int (nI (1000 * a + 100 * d + r))), some (.int (nI (a))), some (.int (nI (100 * d + r))), some (.int (nI (d))), none, none, none]) dX7_command_18 (by decide) rfl ?_
  refine P_iload_n dX7_command_20 rfl rfl ?_
  refine P_bipush (v := nI 10) dX7_command_21 (by decide) ?_
  refine P_idivN dX7_command_23 (by omega) (by decide) (by decide) ?_
  refine P_bipush (v := nI 10) dX7_command_24 (by decide) ?_
  refine P_iremN dX7_command_26 (by omega) (by decide) (by decide) ?_
  refine P_top (y := nI (r / 10)) (congrArg nI (by omega)) ?_
  refine P_istore (ls2 := [some (.ref (q)), some (.int (nI (h))), some (.int (nI (1000 * a + 100 * d + r))), some (.int (nI (a))), some (.int (nI (100 * d + r))), some (.int (nI (d))), some (.int (nI (r / 10))), none, none]) dX7_command_27 (by decide) rfl ?_
  refine P_iload_n dX7_command_29 rfl rfl ?_
  refine P_bipush (v := nI 10) dX7_command_30 (by decide) ?_
  refine P_iremN dX7_command_32 (by omega) (by decide) (by decide) ?_
  refine P_top (y := nI (r % 10)) (congrArg nI (by omega)) ?_
  refine P_istore (ls2 := [some (.ref (q)), some (.int (nI (h))), some (.int (nI (1000 * a + 100 * d + r))), some (.int (nI (a))), some (.int (nI (100 * d + r))), some (.int (nI (d))), some (.int (nI (r / 10))), some (.int (nI (r % 10))), none]) dX7_command_33 (by decide) rfl ?_
  refine P_iload_n dX7_command_35 rfl rfl ?_
  refine P_bipush (v := nI 100) dX7_command_36 (by decide) ?_
  refine P_iremN dX7_command_38 (by omega) (by decide) (by decide) ?_
  refine P_top (y := nI (r)) (congrArg nI (by omega)) ?_
  refine P_istore (ls2 := [some (.ref (q)), some (.int (nI (h))), some (.int (nI (1000 * a + 100 * d + r))), some (.int (nI (a))), some (.int (nI (100 * d + r))), some (.int (nI (d))), some (.int (nI (r / 10))), some (.int (nI (r % 10))), some (.int (nI (r)))]) dX7_command_39 (by decide) rfl ?_
  refine P_iload_n dX7_command_41 rfl rfl ?_
  rcases vsw (h) 1 9 (by omega) (by decide) with c42 | ⟨c42_j, c42_b, c42⟩
  · refine P_tswOut (tgt := 504) dX7_command_42 (vsw_out (by omega) c42) (by decide) ?_
    refine P_iconst (v := nI 0) dX7_command_504 (by decide) ?_
    refine P_zret dX7_command_505 rfl (by decide) ?_
    exact cm_f (by unfold kcm; rw [if_neg (by omega), if_neg (by omega), if_neg (by omega), if_neg (by omega), if_neg (by omega), if_neg (by omega), if_neg (by omega), if_neg (by omega), if_neg (by omega)]) hR vO2.rf
  · rcases (by omega : c42_j = 0 ∨ c42_j = 1 ∨ c42_j = 2 ∨ c42_j = 3 ∨ c42_j = 4 ∨ c42_j = 5 ∨ c42_j = 6 ∨ c42_j = 7 ∨ c42_j = 8) with q42 | q42 | q42 | q42 | q42 | q42 | q42 | q42 | q42
    · replace c42 : h = 1 := by omega
      refine P_tswIn (off := 50) (tgt := 92) dX7_command_42 (by rw [vsw_int c42 (by decide)]; decide) (by rw [vsw_int c42 (by decide)]; decide) (by rw [vsw_int c42 (by decide)]; rfl) (by decide) ?_
      refine P_iload dX7_command_92 rfl ?_
      refine P_if_neN (tgt := 123) dX7_command_94 (by decide) (by omega) (fun c94 => ?_) (fun c94 => ?_)
      · refine P_iconst (v := nI 0) dX7_command_123 (by decide) ?_
        refine P_zret dX7_command_124 rfl (by decide) ?_
        exact cm_f (X := (c, S)) (by
          unfold kcm
          rw [if_pos c42]
          exact (by first | exact if_neg (by omega) | exact (if_pos ⟨by omega, by omega⟩).trans (if_neg (of_decide_eq_false c105)))) hR vO2.rf
      · refine P_aload_n dX7_command_97 rfl rfl ?_
        refine P_getr (t := q + 3) dX7_command_98 kX7 fX7_16 rfl (by decide) hq.o hq.r3 hq.k3.1.2 ?_
        refine P_iload_n dX7_command_101 rfl rfl ?_
        refine P_cSp (rest := []) (As := [.ref (q + 3), .int (nI (a))]) dX7_command_102 lX7_156 yk_X7_canSay ys_X7_canSay (by decide) rfl rfl (Nat.le_of_ble_eq_true rfl) rfl (c_X7_canSay hq.k3 hR hN) ?_
        refine P_top (y := vb (decide (a < c ∧ gM S a 1 = 0 ∧ gM S a 7 < 4))) (by rw [mcsay_K hc6 (by omega)]) ?_
        refine P_bif_eq (tgt := 123) dX7_command_105 (by decide) (fun c105 => ?_) (fun c105 => ?_)
        · refine P_iconst (v := nI 0) dX7_command_123 (by decide) ?_
          refine P_zret dX7_command_124 rfl (by decide) ?_
          exact cm_f (X := (c, S)) (by
            unfold kcm
            rw [if_pos c42]
            exact (by first | exact if_neg (by omega) | exact (if_pos ⟨by omega, by omega⟩).trans (if_neg (of_decide_eq_false c105)))) hR vO2.rf
        · obtain ⟨z1, z2, z3⟩ := of_decide_eq_true c105
          refine P_aload_n dX7_command_108 rfl rfl ?_
          refine P_getr (t := q + 3) dX7_command_109 kX7 fX7_16 rfl (by decide) hq.o hq.r3 hq.k3.1.2 ?_
          refine P_iload_n dX7_command_112 rfl rfl ?_
          refine P_cSs (rest := []) (As := [.ref (q + 3), .int (nI (a))]) dX7_command_113 lX7_159 yk_X7_sayOn ys_X7_sayOn (by decide) rfl rfl (Nat.le_of_ble_eq_true rfl) rfl (c_X7_sayOn hq.k3 hR hN (by omega) z1 z3) (fun v3 ⟨hR3, hO3⟩ => ?_)
          refine P_if_ltN (tgt := 123) dX7_command_116 (by decide) (by have := hN.m7 a; omega) (fun c116 => ?_) (fun c116 => ?_)
          · exact c116.elim
          · refine P_iconst (v := nI 1) dX7_command_119 (by decide) ?_
            refine P_goto (tgt := 124) dX7_command_120 (by decide) ?_
            refine P_zret dX7_command_124 rfl (by decide) ?_
            exact cm_t (X := (c, msay S (a))) (by unfold kcm; rw [if_pos c42]; rw [if_pos ⟨by omega, by omega⟩]; exact if_pos ⟨z1, z2, z3⟩) hR3 (hO3.to2)
    · replace c42 : h = 2 := by omega
      refine P_tswIn (off := 83) (tgt := 125) dX7_command_42 (by rw [vsw_int c42 (by decide)]; decide) (by rw [vsw_int c42 (by decide)]; decide) (by rw [vsw_int c42 (by decide)]; rfl) (by decide) ?_
      refine P_iload dX7_command_125 rfl ?_
      refine P_bipush (v := nI 100) dX7_command_127 (by decide) ?_
      refine P_icmp_geN (tgt := 162) dX7_command_129 (by decide) (by omega) (by omega) (fun c129 => ?_) (fun c129 => ?_)
      · refine P_iconst (v := nI 0) dX7_command_162 (by decide) ?_
        refine P_zret dX7_command_163 rfl (by decide) ?_
        exact cm_f (X := (c, S)) (by
          unfold kcm
          rw [if_neg (by omega), if_pos c42]
          exact (by first | exact if_neg (by omega) | exact (if_pos (by omega)).trans (if_neg (of_decide_eq_false c142)))) hR vO2.rf
      · refine P_aload_n dX7_command_132 rfl rfl ?_
        refine P_getr (t := q + 3) dX7_command_133 kX7 fX7_16 rfl (by decide) hq.o hq.r3 hq.k3.1.2 ?_
        refine P_iload_n dX7_command_136 rfl rfl ?_
        refine P_iload dX7_command_137 rfl ?_
        refine P_cSp (rest := []) (As := [.ref (q + 3), .int (nI (a)), .int (nI (r))]) dX7_command_139 lX7_162 yk_X7_canCall ys_X7_canCall (by decide) rfl rfl (Nat.le_of_ble_eq_true rfl) rfl (c_X7_canCall hq.k3 hR hN) ?_
        refine P_top (y := vb (decide (a < c ∧ (r < 2 ^ c ∧ (r).testBit a = true) ∧ gM S a 1 ≠ 2))) (by rw [mccall_K hc6 (by omega) (by omega)]) ?_
        refine P_bif_eq (tgt := 162) dX7_command_142 (by decide) (fun c142 => ?_) (fun c142 => ?_)
        · refine P_iconst (v := nI 0) dX7_command_162 (by decide) ?_
          refine P_zret dX7_command_163 rfl (by decide) ?_
          exact cm_f (X := (c, S)) (by
            unfold kcm
            rw [if_neg (by omega), if_pos c42]
            exact (by first | exact if_neg (by omega) | exact (if_pos (by omega)).trans (if_neg (of_decide_eq_false c142)))) hR vO2.rf
        · obtain ⟨z1, z2, z3⟩ := of_decide_eq_true c142
          refine P_aload_n dX7_command_145 rfl rfl ?_
          refine P_getr (t := q + 3) dX7_command_146 kX7 fX7_16 rfl (by decide) hq.o hq.r3 hq.k3.1.2 ?_
          refine P_iload_n dX7_command_149 rfl rfl ?_
          refine P_iload dX7_command_150 rfl ?_
          refine P_cSs (rest := []) (As := [.ref (q + 3), .int (nI (a)), .int (nI (r))]) dX7_command_152 lX7_106 yk_X7_callOn ys_X7_callOn (by decide) rfl rfl (Nat.le_of_ble_eq_true rfl) rfl (c_X7_callOn hq.k3 hR hN (by omega) z1 (by have := two_c hc6; omega)) (fun v3 ⟨hR3, hO3⟩ => ?_)
          refine P_if_leN (tgt := 162) dX7_command_155 (by decide) (by have := hN.m6 a; omega) (fun c155 => ?_) (fun c155 => ?_)
          · exact absurd c155 (by omega)
          · refine P_iconst (v := nI 1) dX7_command_158 (by decide) ?_
            refine P_goto (tgt := 163) dX7_command_159 (by decide) ?_
            refine P_zret dX7_command_163 rfl (by decide) ?_
            exact cm_t (X := (c, mcall S (a) (r))) (by unfold kcm; rw [if_neg (by omega), if_pos c42]; rw [if_pos (by omega)]; exact if_pos ⟨z1, z2, z3⟩) hR3 (hO3.to2)
    · replace c42 : h = 3 := by omega
      refine P_tswIn (off := 122) (tgt := 164) dX7_command_42 (by rw [vsw_int c42 (by decide)]; decide) (by rw [vsw_int c42 (by decide)]; decide) (by rw [vsw_int c42 (by decide)]; rfl) (by decide) ?_
      refine P_iload dX7_command_164 rfl ?_
      refine P_if_neN (tgt := 232) dX7_command_166 (by decide) (by omega) (fun c166 => ?_) (fun c166 => ?_)
      · refine P_iconst (v := nI 0) dX7_command_232 (by decide) ?_
        refine P_zret dX7_command_233 rfl (by decide) ?_
        exact cm_f (X := (c, S)) (by
          unfold kcm
          rw [if_neg (by omega), if_neg (by omega), if_pos c42]
          exact kc3_f (fun q9 => by first | exact absurd q9.1 (by omega) | exact q9.2.2 (by omega) | exact of_decide_eq_false c189 q9.2.1.1 | exact of_decide_eq_false c201 q9.2.1.2)) hR vO2.rf
      · refine P_iload dX7_command_169 rfl ?_
        refine P_iconst (v := nI 2) dX7_command_171 (by decide) ?_
        refine P_icmp_geN (tgt := 232) dX7_command_172 (by decide) (by omega) (by omega) (fun c172 => ?_) (fun c172 => ?_)
        · refine P_iconst (v := nI 0) dX7_command_232 (by decide) ?_
          refine P_zret dX7_command_233 rfl (by decide) ?_
          exact cm_f (X := (c, S)) (by
            unfold kcm
            rw [if_neg (by omega), if_neg (by omega), if_pos c42]
            exact kc3_f (fun q9 => by first | exact absurd q9.1 (by omega) | exact q9.2.2 (by omega) | exact of_decide_eq_false c189 q9.2.1.1 | exact of_decide_eq_false c201 q9.2.1.2)) hR vO2.rf
        · refine P_iload_n dX7_command_175 rfl rfl ?_
          refine P_iload dX7_command_176 rfl ?_
          refine P_icmp_eqN (tgt := 232) dX7_command_178 (by decide) (by omega) (by omega) (fun c178 => ?_) (fun c178 => ?_)
          · refine P_iconst (v := nI 0) dX7_command_232 (by decide) ?_
            refine P_zret dX7_command_233 rfl (by decide) ?_
            exact cm_f (X := (c, S)) (by
              unfold kcm
              rw [if_neg (by omega), if_neg (by omega), if_pos c42]
              exact kc3_f (fun q9 => by first | exact absurd q9.1 (by omega) | exact q9.2.2 (by omega) | exact of_decide_eq_false c189 q9.2.1.1 | exact of_decide_eq_false c201 q9.2.1.2)) hR vO2.rf
          · have z4 : a ≠ d := by omega
            refine P_aload_n dX7_command_181 rfl rfl ?_
            refine P_getr (t := q + 3) dX7_command_182 kX7 fX7_16 rfl (by decide) hq.o hq.r3 hq.k3.1.2 ?_
            refine P_iload_n dX7_command_185 rfl rfl ?_
            refine P_cSp (rest := []) (As := [.ref (q + 3), .int (nI (a))]) dX7_command_186 lX7_112 yk_X7_isMember ys_X7_isMember (by decide) rfl rfl (Nat.le_of_ble_eq_true rfl) rfl (c_X7_isMember hq.k3 hR) ?_
            refine P_top (y := vb (decide (a < c))) (by rw [mb_n (by omega)]) ?_
            refine P_bif_eq (tgt := 232) dX7_command_189 (by decide) (fun c189 => ?_) (fun c189 => ?_)
            · refine P_iconst (v := nI 0) dX7_command_232 (by decide) ?_
              refine P_zret dX7_command_233 rfl (by decide) ?_
              exact cm_f (X := (c, S)) (by
                unfold kcm
                rw [if_neg (by omega), if_neg (by omega), if_pos c42]
                exact kc3_f (fun q9 => by first | exact absurd q9.1 (by omega) | exact q9.2.2 (by omega) | exact of_decide_eq_false c189 q9.2.1.1 | exact of_decide_eq_false c201 q9.2.1.2)) hR vO2.rf
            · have z1 := of_decide_eq_true c189
              refine P_aload_n dX7_command_192 rfl rfl ?_
              refine P_getr (t := q + 3) dX7_command_193 kX7 fX7_16 rfl (by decide) hq.o hq.r3 hq.k3.1.2 ?_
              refine P_iload dX7_command_196 rfl ?_
              refine P_cSp (rest := []) (As := [.ref (q + 3), .int (nI (d))]) dX7_command_198 lX7_112 yk_X7_isMember ys_X7_isMember (by decide) rfl rfl (Nat.le_of_ble_eq_true rfl) rfl (c_X7_isMember hq.k3 hR) ?_
              refine P_top (y := vb (decide (d < c))) (by rw [mb_n (by omega)]) ?_
              refine P_bif_eq (tgt := 232) dX7_command_201 (by decide) (fun c201 => ?_) (fun c201 => ?_)
              · refine P_iconst (v := nI 0) dX7_command_232 (by decide) ?_
                refine P_zret dX7_command_233 rfl (by decide) ?_
                exact cm_f (X := (c, S)) (by
                  unfold kcm
                  rw [if_neg (by omega), if_neg (by omega), if_pos c42]
                  exact kc3_f (fun q9 => by first | exact absurd q9.1 (by omega) | exact q9.2.2 (by omega) | exact of_decide_eq_false c189 q9.2.1.1 | exact of_decide_eq_false c201 q9.2.1.2)) hR vO2.rf
              · have z2 := of_decide_eq_true c201
                refine P_aload_n dX7_command_204 rfl rfl ?_
                refine P_getr (t := q + 3) dX7_command_205 kX7 fX7_16 rfl (by decide) hq.o hq.r3 hq.k3.1.2 ?_
                refine P_iload_n dX7_command_208 rfl rfl ?_
                refine P_iload dX7_command_209 rfl ?_
                refine P_iload dX7_command_211 rfl ?_
                refine P_iconst (v := nI 1) dX7_command_213 (by decide) ?_
                refine P_icmp_neN (tgt := 221) dX7_command_214 (by decide) (by omega) (by omega) (fun c214 => ?_) (fun c214 => ?_)
                · refine P_iconst (v := nI 0) dX7_command_221 (by decide) ?_
                  refine P_top (y := vb false) rfl ?_
                  refine P_cSs (rest := []) (As := [.ref (q + 3), .int (nI (a)), .int (nI (d)), .int (vb (false))]) dX7_command_222 lX7_165 yk_X7_cutOn ys_X7_cutOn (by decide) rfl rfl (Nat.le_of_ble_eq_true rfl) rfl (c_X7_cutOn (cut := false) hq.k3 hR hN z1 z2 z4) (fun v3 ⟨hR3, hO3⟩ => ?_)
                  refine P_if_ltN (tgt := 232) dX7_command_225 (by decide) (by have := mways_le (S := mcut S a d true); have := mways_le (S := mcut S a d false); omega) (fun c225 => ?_) (fun c225 => ?_)
                  · exact c225.elim
                  · refine P_iconst (v := nI 1) dX7_command_228 (by decide) ?_
                    refine P_goto (tgt := 233) dX7_command_229 (by decide) ?_
                    refine P_zret dX7_command_233 rfl (by decide) ?_
                    exact cm_t (X := (c, mcut S (a) (d) false)) (by unfold kcm; rw [if_neg (by omega), if_neg (by omega), if_pos c42]; rw [if_neg (by omega), if_pos (by omega)]; exact if_pos ⟨⟨z1, z2⟩, z4⟩) hR3 (hO3.to2)
                · refine P_iconst (v := nI 1) dX7_command_217 (by decide) ?_
                  refine P_goto (tgt := 222) dX7_command_218 (by decide) ?_
                  refine P_top (y := vb true) rfl ?_
                  refine P_cSs (rest := []) (As := [.ref (q + 3), .int (nI (a)), .int (nI (d)), .int (vb (true))]) dX7_command_222 lX7_165 yk_X7_cutOn ys_X7_cutOn (by decide) rfl rfl (Nat.le_of_ble_eq_true rfl) rfl (c_X7_cutOn (cut := true) hq.k3 hR hN z1 z2 z4) (fun v3 ⟨hR3, hO3⟩ => ?_)
                  refine P_if_ltN (tgt := 232) dX7_command_225 (by decide) (by have := mways_le (S := mcut S a d true); have := mways_le (S := mcut S a d false); omega) (fun c225 => ?_) (fun c225 => ?_)
                  · exact c225.elim
                  · refine P_iconst (v := nI 1) dX7_command_228 (by decide) ?_
                    refine P_goto (tgt := 233) dX7_command_229 (by decide) ?_
                    refine P_zret dX7_command_233 rfl (by decide) ?_
                    exact cm_t (X := (c, mcut S (a) (d) true)) (by unfold kcm; rw [if_neg (by omega), if_neg (by omega), if_pos c42]; rw [if_pos (by omega)]; exact if_pos ⟨⟨z1, z2⟩, z4⟩) hR3 (hO3.to2)
    · replace c42 : h = 4 := by omega
      refine P_tswIn (off := 192) (tgt := 234) dX7_command_42 (by rw [vsw_int c42 (by decide)]; decide) (by rw [vsw_int c42 (by decide)]; decide) (by rw [vsw_int c42 (by decide)]; rfl) (by decide) ?_
      refine P_iload dX7_command_234 rfl ?_
      refine P_iconst (v := nI 2) dX7_command_236 (by decide) ?_
      refine P_icmp_geN (tgt := 305) dX7_command_237 (by decide) (by omega) (by omega) (fun c237 => ?_) (fun c237 => ?_)
      · refine P_iconst (v := nI 0) dX7_command_305 (by decide) ?_
        refine P_zret dX7_command_306 rfl (by decide) ?_
        exact cm_f (X := (c, S)) (by
          unfold kcm
          rw [if_neg (by omega), if_neg (by omega), if_neg (by omega), if_pos c42]
          exact (by
            by_cases y1 : d = 0
            · rw [if_pos y1]
              by_cases y2 : r = 0
              · rw [if_pos y2]
                exact if_neg (fun q9 => by first | exact of_decide_eq_false c248 q9.1 | exact q9.2 z6 | omega)
              · rw [if_neg y2]
                by_cases y3 : r = 1
                · rw [if_pos y3]
                  exact if_neg (fun q9 => by first | exact of_decide_eq_false c248 q9.1 | exact of_decide_eq_false hz q9 | omega)
                · rw [if_neg y3]
            · rw [if_neg y1])) hR vO2.rf
      · refine P_aload_n dX7_command_240 rfl rfl ?_
        refine P_getr (t := q + 3) dX7_command_241 kX7 fX7_16 rfl (by decide) hq.o hq.r3 hq.k3.1.2 ?_
        refine P_iload_n dX7_command_244 rfl rfl ?_
        refine P_cSp (rest := []) (As := [.ref (q + 3), .int (nI (a))]) dX7_command_245 lX7_112 yk_X7_isMember ys_X7_isMember (by decide) rfl rfl (Nat.le_of_ble_eq_true rfl) rfl (c_X7_isMember hq.k3 hR) ?_
        refine P_top (y := vb (decide (a < c))) (by rw [mb_n (by omega)]) ?_
        refine P_bif_eq (tgt := 305) dX7_command_248 (by decide) (fun c248 => ?_) (fun c248 => ?_)
        · refine P_iconst (v := nI 0) dX7_command_305 (by decide) ?_
          refine P_zret dX7_command_306 rfl (by decide) ?_
          exact cm_f (X := (c, S)) (by
            unfold kcm
            rw [if_neg (by omega), if_neg (by omega), if_neg (by omega), if_pos c42]
            exact (by
              by_cases y1 : d = 0
              · rw [if_pos y1]
                by_cases y2 : r = 0
                · rw [if_pos y2]
                  exact if_neg (fun q9 => by first | exact of_decide_eq_false c248 q9.1 | exact q9.2 z6 | omega)
                · rw [if_neg y2]
                  by_cases y3 : r = 1
                  · rw [if_pos y3]
                    exact if_neg (fun q9 => by first | exact of_decide_eq_false c248 q9.1 | exact of_decide_eq_false hz q9 | omega)
                  · rw [if_neg y3]
              · rw [if_neg y1])) hR vO2.rf
        · have z1 := of_decide_eq_true c248
          refine P_aload_n dX7_command_251 rfl rfl ?_
          refine P_getr (t := q + 3) dX7_command_252 kX7 fX7_16 rfl (by decide) hq.o hq.r3 hq.k3.1.2 ?_
          refine P_iload_n dX7_command_255 rfl rfl ?_
          refine P_cSp (rest := []) (As := [.ref (q + 3), .int (nI (a))]) dX7_command_256 lX7_169 yk_X7_isGone ys_X7_isGone (by decide) rfl rfl (Nat.le_of_ble_eq_true rfl) rfl (c_X7_isGone hq.k3 hR hN) ?_
          refine P_top (y := vb (decide (a < c ∧ gM S a 1 = 2))) (by rw [mgone_K hc6 (by omega)]) ?_
          rcases hz : decide (a < c ∧ gM S a 1 = 2) with _ | _
          · refine P_top (y := nI 0) rfl ?_
            refine P_iload dX7_command_259 rfl ?_
            refine P_iconst (v := nI 1) dX7_command_261 (by decide) ?_
            refine P_icmp_neN (tgt := 269) dX7_command_262 (by decide) (by omega) (by omega) (fun c262 => ?_) (fun c262 => ?_)
            · refine P_iconst (v := nI 0) dX7_command_269 (by decide) ?_
              refine P_icmp_neN (tgt := 305) dX7_command_270 (by decide) (by decide) (by decide) (fun c270 => absurd c270 (by decide)) (fun c270 => ?_)
              refine P_iload dX7_command_273 rfl ?_
              refine P_iconst (v := nI 1) dX7_command_275 (by decide) ?_
              refine P_icmp_neN (tgt := 290) dX7_command_276 (by decide) (by omega) (by omega) (fun c276 => ?_) (fun c276 => ?_)
              · refine P_aload_n dX7_command_290 rfl rfl ?_
                refine P_getr (t := q + 3) dX7_command_291 kX7 fX7_16 rfl (by decide) hq.o hq.r3 hq.k3.1.2 ?_
                refine P_iload_n dX7_command_294 rfl rfl ?_
                refine P_cSs (rest := []) (As := [.ref (q + 3), .int (nI (a))]) dX7_command_295 lX7_172 yk_X7_leaveOn ys_X7_leaveOn (by decide) rfl rfl (Nat.le_of_ble_eq_true rfl) rfl (c_X7_leaveOn hq.k3 hR z1) (fun v3 ⟨hR3, hO3⟩ => ?_)
                refine P_if_ltN (tgt := 305) dX7_command_298 (by decide) (by first | (have := hN.m6 a; omega) | (have := hN.m2 a; omega)) (fun c298 => ?_) (fun c298 => ?_)
                · exact c298.elim
                · refine P_iconst (v := nI 1) dX7_command_301 (by decide) ?_
                  refine P_goto (tgt := 306) dX7_command_302 (by decide) ?_
                  refine P_zret dX7_command_306 rfl (by decide) ?_
                  exact cm_t (X := (c, mleave S (a))) (by unfold kcm; rw [if_neg (by omega), if_neg (by omega), if_neg (by omega), if_pos c42]; rw [if_pos (by omega), if_pos (by omega)]; exact if_pos ⟨z1, fun q9 => of_decide_eq_false hz ⟨z1, q9⟩⟩) hR3 (hO3.to2)
              · omega
            · refine P_iconst (v := nI 1) dX7_command_265 (by decide) ?_
              refine P_goto (tgt := 270) dX7_command_266 (by decide) ?_
              refine P_icmp_neN (tgt := 305) dX7_command_270 (by decide) (by decide) (by decide) (fun c270 => ?_) (fun c270 => absurd c270 (by decide))
              refine P_iconst (v := nI 0) dX7_command_305 (by decide) ?_
              refine P_zret dX7_command_306 rfl (by decide) ?_
              exact cm_f (X := (c, S)) (by
                unfold kcm
                rw [if_neg (by omega), if_neg (by omega), if_neg (by omega), if_pos c42]
                exact (by
                  by_cases y1 : d = 0
                  · rw [if_pos y1]
                    by_cases y2 : r = 0
                    · rw [if_pos y2]
                      exact if_neg (fun q9 => by first | exact of_decide_eq_false c248 q9.1 | exact q9.2 z6 | omega)
                    · rw [if_neg y2]
                      by_cases y3 : r = 1
                      · rw [if_pos y3]
                        exact if_neg (fun q9 => by first | exact of_decide_eq_false c248 q9.1 | exact of_decide_eq_false hz q9 | omega)
                      · rw [if_neg y3]
                  · rw [if_neg y1])) hR vO2.rf
          · refine P_top (y := nI 1) rfl ?_
            obtain ⟨-, z6⟩ := of_decide_eq_true hz
            refine P_iload dX7_command_259 rfl ?_
            refine P_iconst (v := nI 1) dX7_command_261 (by decide) ?_
            refine P_icmp_neN (tgt := 269) dX7_command_262 (by decide) (by omega) (by omega) (fun c262 => ?_) (fun c262 => ?_)
            · refine P_iconst (v := nI 0) dX7_command_269 (by decide) ?_
              refine P_icmp_neN (tgt := 305) dX7_command_270 (by decide) (by decide) (by decide) (fun c270 => ?_) (fun c270 => absurd c270 (by decide))
              refine P_iconst (v := nI 0) dX7_command_305 (by decide) ?_
              refine P_zret dX7_command_306 rfl (by decide) ?_
              exact cm_f (X := (c, S)) (by
                unfold kcm
                rw [if_neg (by omega), if_neg (by omega), if_neg (by omega), if_pos c42]
                exact (by
                  by_cases y1 : d = 0
                  · rw [if_pos y1]
                    by_cases y2 : r = 0
                    · rw [if_pos y2]
                      exact if_neg (fun q9 => by first | exact of_decide_eq_false c248 q9.1 | exact q9.2 z6 | omega)
                    · rw [if_neg y2]
                      by_cases y3 : r = 1
                      · rw [if_pos y3]
                        exact if_neg (fun q9 => by first | exact of_decide_eq_false c248 q9.1 | exact of_decide_eq_false hz q9 | omega)
                      · rw [if_neg y3]
                  · rw [if_neg y1])) hR vO2.rf
            · refine P_iconst (v := nI 1) dX7_command_265 (by decide) ?_
              refine P_goto (tgt := 270) dX7_command_266 (by decide) ?_
              refine P_icmp_neN (tgt := 305) dX7_command_270 (by decide) (by decide) (by decide) (fun c270 => absurd c270 (by decide)) (fun c270 => ?_)
              refine P_iload dX7_command_273 rfl ?_
              refine P_iconst (v := nI 1) dX7_command_275 (by decide) ?_
              refine P_icmp_neN (tgt := 290) dX7_command_276 (by decide) (by omega) (by omega) (fun c276 => ?_) (fun c276 => ?_)
              · omega
              · refine P_aload_n dX7_command_279 rfl rfl ?_
                refine P_getr (t := q + 3) dX7_command_280 kX7 fX7_16 rfl (by decide) hq.o hq.r3 hq.k3.1.2 ?_
                refine P_iload_n dX7_command_283 rfl rfl ?_
                refine P_cSs (rest := []) (As := [.ref (q + 3), .int (nI (a))]) dX7_command_284 lX7_175 yk_X7_backOn ys_X7_backOn (by decide) rfl rfl (Nat.le_of_ble_eq_true rfl) rfl (c_X7_backOn hq.k3 hR z1) (fun v3 ⟨hR3, hO3⟩ => ?_)
                refine P_goto (tgt := 298) dX7_command_287 (by decide) ?_
                refine P_if_ltN (tgt := 305) dX7_command_298 (by decide) (by first | (have := hN.m6 a; omega) | (have := hN.m2 a; omega)) (fun c298 => ?_) (fun c298 => ?_)
                · exact c298.elim
                · refine P_iconst (v := nI 1) dX7_command_301 (by decide) ?_
                  refine P_goto (tgt := 306) dX7_command_302 (by decide) ?_
                  refine P_zret dX7_command_306 rfl (by decide) ?_
                  exact cm_t (X := (c, mback S (a))) (by unfold kcm; rw [if_neg (by omega), if_neg (by omega), if_neg (by omega), if_pos c42]; rw [if_pos (by omega), if_neg (by omega), if_pos (by omega)]; exact if_pos ⟨z1, z6⟩) hR3 (hO3.to2)
    · replace c42 : h = 5 := by omega
      refine P_tswIn (off := 265) (tgt := 307) dX7_command_42 (by rw [vsw_int c42 (by decide)]; decide) (by rw [vsw_int c42 (by decide)]; decide) (by rw [vsw_int c42 (by decide)]; rfl) (by decide) ?_
      refine P_iload_n dX7_command_307 rfl rfl ?_
      refine P_i2l dX7_command_308 ?_
      refine P_lconst (v := 1) dX7_command_309 (by decide) ?_
      refine P_ldc2_w dX7_command_310 cX7_210 ?_
      refine P_cSp (rest := []) (As := [.long ((nI (1000 * a + 100 * d + r)).toInt64), .long ((1)), .long ((60))]) dX7_command_313 lX7_40 yk_X7_in ys_X7_in (by decide) rfl rfl (Nat.le_of_ble_eq_true rfl) rfl (c_X7_in _ _ _) ?_
      refine P_top (y := vb (decide (1 ≤ 1000 * a + 100 * d + r ∧ 1000 * a + 100 * d + r ≤ 60))) (congrArg vb ((in_gin (by decide) (by decide)).trans (gin_k (by omega)))) ?_
      refine P_bif_eq (tgt := 335) dX7_command_316 (by decide) (fun c316 => ?_) (fun c316 => ?_)
      · refine P_iconst (v := nI 0) dX7_command_335 (by decide) ?_
        refine P_zret dX7_command_336 rfl (by decide) ?_
        exact cm_f (X := (c, S)) (by
          unfold kcm
          rw [if_neg (by omega), if_neg (by omega), if_neg (by omega), if_neg (by omega), if_pos c42]
          exact (by
            by_cases y1 : a = 0 ∧ d = 0
            · rw [if_pos y1]
              exact if_neg (fun q9 => of_decide_eq_false c316 (by omega))
            · rw [if_neg y1])) hR vO2.rf
      · have z7 := of_decide_eq_true c316
        refine P_aload_n dX7_command_319 rfl rfl ?_
        refine P_aload_n dX7_command_320 rfl rfl ?_
        refine P_getr (t := q + 3) dX7_command_321 kX7 fX7_16 rfl (by decide) hq.o hq.r3 hq.k3.1.2 ?_
        refine P_iload_n dX7_command_324 rfl rfl ?_
        refine P_top (y := nI (r)) (congrArg nI (by omega)) ?_
        refine P_cVs (rest := []) (As := [.ref (q + 3), .int (nI (r))]) dX7_command_325 lX7_178 yk_X7_ticksOn yv_X7_ticksOn kX7 rfl (by decide) hq.o rfl rfl (Nat.le_of_ble_eq_true rfl) rfl (c_X7_ticksOn hq hq.k3 hR (by omega) hN (by omega) hI (by omega)) (fun v3 ⟨hR3, hO3⟩ => ?_)
        refine P_if_ltN (tgt := 335) dX7_command_328 (by decide) (by have := (hN.ticks r).g (i := 6) (by decide); omega) (fun c328 => ?_) (fun c328 => ?_)
        · exact c328.elim
        · refine P_iconst (v := nI 1) dX7_command_331 (by decide) ?_
          refine P_goto (tgt := 336) dX7_command_332 (by decide) ?_
          refine P_zret dX7_command_336 rfl (by decide) ?_
          exact cm_t (X := (c, mticks (r) S)) (by unfold kcm; rw [if_neg (by omega), if_neg (by omega), if_neg (by omega), if_neg (by omega), if_pos c42]; rw [if_pos ⟨by omega, by omega⟩]; exact if_pos ⟨by omega, by omega⟩) hR3 (hO3)
    · replace c42 : h = 6 := by omega
      refine P_tswIn (off := 295) (tgt := 337) dX7_command_42 (by rw [vsw_int c42 (by decide)]; decide) (by rw [vsw_int c42 (by decide)]; decide) (by rw [vsw_int c42 (by decide)]; rfl) (by decide) ?_
      refine P_iload dX7_command_337 rfl ?_
      refine P_bipush (v := nI 100) dX7_command_339 (by decide) ?_
      refine P_icmp_geN (tgt := 373) dX7_command_341 (by decide) (by omega) (by omega) (fun c341 => ?_) (fun c341 => ?_)
      · refine P_iconst (v := nI 0) dX7_command_373 (by decide) ?_
        refine P_zret dX7_command_374 rfl (by decide) ?_
        exact cm_f (by unfold kcm; rw [if_neg (by omega), if_neg (by omega), if_neg (by omega), if_neg (by omega), if_neg (by omega), if_pos c42]; exact congrArg (fun z => (z, (c, S))) (decide_eq_false (fun q9 => by first | omega | exact absurd q9.1 (by omega) | exact absurd q9.2.1 (of_decide_eq_false c352) | exact absurd (show r ≤ gM S a 2 from q9.2.2) (by omega)))) hR vO2.rf
      · refine P_aload_n dX7_command_344 rfl rfl ?_
        refine P_getr (t := q + 3) dX7_command_345 kX7 fX7_16 rfl (by decide) hq.o hq.r3 hq.k3.1.2 ?_
        refine P_iload_n dX7_command_348 rfl rfl ?_
        refine P_cSp (rest := []) (As := [.ref (q + 3), .int (nI (a))]) dX7_command_349 lX7_112 yk_X7_isMember ys_X7_isMember (by decide) rfl rfl (Nat.le_of_ble_eq_true rfl) rfl (c_X7_isMember hq.k3 hR) ?_
        refine P_top (y := vb (decide (a < c))) (by rw [mb_n (by omega)]) ?_
        refine P_bif_eq (tgt := 373) dX7_command_352 (by decide) (fun c352 => ?_) (fun c352 => ?_)
        · refine P_iconst (v := nI 0) dX7_command_373 (by decide) ?_
          refine P_zret dX7_command_374 rfl (by decide) ?_
          exact cm_f (by unfold kcm; rw [if_neg (by omega), if_neg (by omega), if_neg (by omega), if_neg (by omega), if_neg (by omega), if_pos c42]; exact congrArg (fun z => (z, (c, S))) (decide_eq_false (fun q9 => by first | omega | exact absurd q9.1 (by omega) | exact absurd q9.2.1 (of_decide_eq_false c352) | exact absurd (show r ≤ gM S a 2 from q9.2.2) (by omega)))) hR vO2.rf
        · have z1 := of_decide_eq_true c352
          refine P_aload_n dX7_command_355 rfl rfl ?_
          refine P_getr (t := q + 3) dX7_command_356 kX7 fX7_16 rfl (by decide) hq.o hq.r3 hq.k3.1.2 ?_
          refine P_iload_n dX7_command_359 rfl rfl ?_
          refine P_iconst (v := nI 2) dX7_command_360 (by decide) ?_
          refine P_cSp (rest := []) (As := [.ref (q + 3), .int (nI (a)), .int (nI (2))]) dX7_command_361 lX7_44 yk_X7_of ys_X7_of (by decide) rfl rfl (Nat.le_of_ble_eq_true rfl) rfl (c_X7_of hq.k3 (by omega) (by decide)) ?_
          refine P_top (y := (nI (gM S a 2))) (hR.m (by omega) (by decide)) ?_
          refine P_iload dX7_command_364 rfl ?_
          refine P_icmp_ltN (tgt := 373) dX7_command_366 (by decide) (by first | omega | (have := hN.m2 a; omega)) (by first | omega | (have := hN.m2 a; omega)) (fun c366 => ?_) (fun c366 => ?_)
          · refine P_iconst (v := nI 0) dX7_command_373 (by decide) ?_
            refine P_zret dX7_command_374 rfl (by decide) ?_
            exact cm_f (by unfold kcm; rw [if_neg (by omega), if_neg (by omega), if_neg (by omega), if_neg (by omega), if_neg (by omega), if_pos c42]; exact congrArg (fun z => (z, (c, S))) (decide_eq_false (fun q9 => by first | omega | exact absurd q9.1 (by omega) | exact absurd q9.2.1 (of_decide_eq_false c352) | exact absurd (show r ≤ gM S a 2 from q9.2.2) (by omega)))) hR vO2.rf
          · refine P_iconst (v := nI 1) dX7_command_369 (by decide) ?_
            refine P_goto (tgt := 374) dX7_command_370 (by decide) ?_
            refine P_zret dX7_command_374 rfl (by decide) ?_
            exact cm_t (by unfold kcm; rw [if_neg (by omega), if_neg (by omega), if_neg (by omega), if_neg (by omega), if_neg (by omega), if_pos c42]; exact congrArg (fun z => (z, (c, S))) (decide_eq_true ⟨by omega, z1, show r ≤ gM S a 2 by omega⟩)) hR vO2.rf
    · replace c42 : h = 7 := by omega
      refine P_tswIn (off := 333) (tgt := 375) dX7_command_42 (by rw [vsw_int c42 (by decide)]; decide) (by rw [vsw_int c42 (by decide)]; decide) (by rw [vsw_int c42 (by decide)]; rfl) (by decide) ?_
      refine P_iload dX7_command_375 rfl ?_
      refine P_bipush (v := nI 10) dX7_command_377 (by decide) ?_
      refine P_icmp_geN (tgt := 411) dX7_command_379 (by decide) (by omega) (by omega) (fun c379 => ?_) (fun c379 => ?_)
      · refine P_iconst (v := nI 0) dX7_command_411 (by decide) ?_
        refine P_zret dX7_command_412 rfl (by decide) ?_
        exact cm_f (by unfold kcm; rw [if_neg (by omega), if_neg (by omega), if_neg (by omega), if_neg (by omega), if_neg (by omega), if_neg (by omega), if_pos c42]; exact congrArg (fun z => (z, (c, S))) (decide_eq_false (fun q9 => by have h71 := hN.m1 a; first | exact absurd q9.1 (by omega) | exact absurd q9.2.1 (of_decide_eq_false c390) | exact absurd (show gM S a 1 = r from q9.2.2) (by omega)))) hR vO2.rf
      · refine P_aload_n dX7_command_382 rfl rfl ?_
        refine P_getr (t := q + 3) dX7_command_383 kX7 fX7_16 rfl (by decide) hq.o hq.r3 hq.k3.1.2 ?_
        refine P_iload_n dX7_command_386 rfl rfl ?_
        refine P_cSp (rest := []) (As := [.ref (q + 3), .int (nI (a))]) dX7_command_387 lX7_112 yk_X7_isMember ys_X7_isMember (by decide) rfl rfl (Nat.le_of_ble_eq_true rfl) rfl (c_X7_isMember hq.k3 hR) ?_
        refine P_top (y := vb (decide (a < c))) (by rw [mb_n (by omega)]) ?_
        refine P_bif_eq (tgt := 411) dX7_command_390 (by decide) (fun c390 => ?_) (fun c390 => ?_)
        · refine P_iconst (v := nI 0) dX7_command_411 (by decide) ?_
          refine P_zret dX7_command_412 rfl (by decide) ?_
          exact cm_f (by unfold kcm; rw [if_neg (by omega), if_neg (by omega), if_neg (by omega), if_neg (by omega), if_neg (by omega), if_neg (by omega), if_pos c42]; exact congrArg (fun z => (z, (c, S))) (decide_eq_false (fun q9 => by have h71 := hN.m1 a; first | exact absurd q9.1 (by omega) | exact absurd q9.2.1 (of_decide_eq_false c390) | exact absurd (show gM S a 1 = r from q9.2.2) (by omega)))) hR vO2.rf
        · have z1 := of_decide_eq_true c390
          refine P_aload_n dX7_command_393 rfl rfl ?_
          refine P_getr (t := q + 3) dX7_command_394 kX7 fX7_16 rfl (by decide) hq.o hq.r3 hq.k3.1.2 ?_
          refine P_iload_n dX7_command_397 rfl rfl ?_
          refine P_iconst (v := nI 1) dX7_command_398 (by decide) ?_
          refine P_cSp (rest := []) (As := [.ref (q + 3), .int (nI (a)), .int (nI (1))]) dX7_command_399 lX7_44 yk_X7_of ys_X7_of (by decide) rfl rfl (Nat.le_of_ble_eq_true rfl) rfl (c_X7_of hq.k3 (by omega) (by decide)) ?_
          refine P_top (y := (nI (gM S a 1))) (hR.m (by omega) (by decide)) ?_
          refine P_iload dX7_command_402 rfl ?_
          refine P_icmp_neN (tgt := 411) dX7_command_404 (by decide) (by first | omega | (have := hN.m1 a; omega)) (by first | omega | (have := hN.m1 a; omega)) (fun c404 => ?_) (fun c404 => ?_)
          · refine P_iconst (v := nI 0) dX7_command_411 (by decide) ?_
            refine P_zret dX7_command_412 rfl (by decide) ?_
            exact cm_f (by unfold kcm; rw [if_neg (by omega), if_neg (by omega), if_neg (by omega), if_neg (by omega), if_neg (by omega), if_neg (by omega), if_pos c42]; exact congrArg (fun z => (z, (c, S))) (decide_eq_false (fun q9 => by have h71 := hN.m1 a; first | exact absurd q9.1 (by omega) | exact absurd q9.2.1 (of_decide_eq_false c390) | exact absurd (show gM S a 1 = r from q9.2.2) (by omega)))) hR vO2.rf
          · refine P_iconst (v := nI 1) dX7_command_407 (by decide) ?_
            refine P_goto (tgt := 412) dX7_command_408 (by decide) ?_
            refine P_zret dX7_command_412 rfl (by decide) ?_
            exact cm_t (by unfold kcm; rw [if_neg (by omega), if_neg (by omega), if_neg (by omega), if_neg (by omega), if_neg (by omega), if_neg (by omega), if_pos c42]; exact congrArg (fun z => (z, (c, S))) (decide_eq_true ⟨by omega, z1, show gM S a 1 = r by omega⟩)) hR vO2.rf
    · replace c42 : h = 8 := by omega
      refine P_tswIn (off := 371) (tgt := 413) dX7_command_42 (by rw [vsw_int c42 (by decide)]; decide) (by rw [vsw_int c42 (by decide)]; decide) (by rw [vsw_int c42 (by decide)]; rfl) (by decide) ?_
      refine P_iload dX7_command_413 rfl ?_
      refine P_bipush (v := nI 100) dX7_command_415 (by decide) ?_
      refine P_icmp_geN (tgt := 452) dX7_command_417 (by decide) (by omega) (by omega) (fun c417 => ?_) (fun c417 => ?_)
      · refine P_iconst (v := nI 0) dX7_command_452 (by decide) ?_
        refine P_zret dX7_command_453 rfl (by decide) ?_
        exact cm_f (by unfold kcm; rw [if_neg (by omega), if_neg (by omega), if_neg (by omega), if_neg (by omega), if_neg (by omega), if_neg (by omega), if_neg (by omega), if_pos c42]; exact congrArg (fun z => (z, (c, S))) (decide_eq_false (fun q9 => by first | exact absurd q9.1 (by omega) | exact absurd q9.2.1 (of_decide_eq_false c428) | exact absurd (show r ≤ mbits (gM S a 5) 24 from q9.2.2) (by omega)))) hR vO2.rf
      · refine P_aload_n dX7_command_420 rfl rfl ?_
        refine P_getr (t := q + 3) dX7_command_421 kX7 fX7_16 rfl (by decide) hq.o hq.r3 hq.k3.1.2 ?_
        refine P_iload_n dX7_command_424 rfl rfl ?_
        refine P_cSp (rest := []) (As := [.ref (q + 3), .int (nI (a))]) dX7_command_425 lX7_112 yk_X7_isMember ys_X7_isMember (by decide) rfl rfl (Nat.le_of_ble_eq_true rfl) rfl (c_X7_isMember hq.k3 hR) ?_
        refine P_top (y := vb (decide (a < c))) (by rw [mb_n (by omega)]) ?_
        refine P_bif_eq (tgt := 452) dX7_command_428 (by decide) (fun c428 => ?_) (fun c428 => ?_)
        · refine P_iconst (v := nI 0) dX7_command_452 (by decide) ?_
          refine P_zret dX7_command_453 rfl (by decide) ?_
          exact cm_f (by unfold kcm; rw [if_neg (by omega), if_neg (by omega), if_neg (by omega), if_neg (by omega), if_neg (by omega), if_neg (by omega), if_neg (by omega), if_pos c42]; exact congrArg (fun z => (z, (c, S))) (decide_eq_false (fun q9 => by first | exact absurd q9.1 (by omega) | exact absurd q9.2.1 (of_decide_eq_false c428) | exact absurd (show r ≤ mbits (gM S a 5) 24 from q9.2.2) (by omega)))) hR vO2.rf
        · have z1 := of_decide_eq_true c428
          refine P_aload_n dX7_command_431 rfl rfl ?_
          refine P_getr (t := q + 3) dX7_command_432 kX7 fX7_16 rfl (by decide) hq.o hq.r3 hq.k3.1.2 ?_
          refine P_iload_n dX7_command_435 rfl rfl ?_
          refine P_iconst (v := nI 5) dX7_command_436 (by decide) ?_
          refine P_cSp (rest := []) (As := [.ref (q + 3), .int (nI (a)), .int (nI (5))]) dX7_command_437 lX7_44 yk_X7_of ys_X7_of (by decide) rfl rfl (Nat.le_of_ble_eq_true rfl) rfl (c_X7_of hq.k3 (by omega) (by decide)) ?_
          refine P_top (y := (nI (gM S a 5))) (hR.m (by omega) (by decide)) ?_
          refine P_cSp (rest := []) (As := [.int (nI (gM S a 5))]) dX7_command_440 lX7_120 yk_X7_bits ys_X7_bits (by decide) rfl rfl (Nat.le_of_ble_eq_true rfl) rfl (c_X7_bits (by have := hN.m5 a; omega)) ?_
          refine P_iload dX7_command_443 rfl ?_
          refine P_icmp_ltN (tgt := 452) dX7_command_445 (by decide) (by first | omega | (have := mbits_le (s := gM S a 5) 24; omega)) (by first | omega | (have := mbits_le (s := gM S a 5) 24; omega)) (fun c445 => ?_) (fun c445 => ?_)
          · refine P_iconst (v := nI 0) dX7_command_452 (by decide) ?_
            refine P_zret dX7_command_453 rfl (by decide) ?_
            exact cm_f (by unfold kcm; rw [if_neg (by omega), if_neg (by omega), if_neg (by omega), if_neg (by omega), if_neg (by omega), if_neg (by omega), if_neg (by omega), if_pos c42]; exact congrArg (fun z => (z, (c, S))) (decide_eq_false (fun q9 => by first | exact absurd q9.1 (by omega) | exact absurd q9.2.1 (of_decide_eq_false c428) | exact absurd (show r ≤ mbits (gM S a 5) 24 from q9.2.2) (by omega)))) hR vO2.rf
          · refine P_iconst (v := nI 1) dX7_command_448 (by decide) ?_
            refine P_goto (tgt := 453) dX7_command_449 (by decide) ?_
            refine P_zret dX7_command_453 rfl (by decide) ?_
            exact cm_t (by unfold kcm; rw [if_neg (by omega), if_neg (by omega), if_neg (by omega), if_neg (by omega), if_neg (by omega), if_neg (by omega), if_neg (by omega), if_pos c42]; exact congrArg (fun z => (z, (c, S))) (decide_eq_true ⟨by omega, z1, show r ≤ mbits (gM S a 5) 24 by omega⟩)) hR vO2.rf
    · replace c42 : h = 9 := by omega
      refine P_tswIn (off := 412) (tgt := 454) dX7_command_42 (by rw [vsw_int c42 (by decide)]; decide) (by rw [vsw_int c42 (by decide)]; decide) (by rw [vsw_int c42 (by decide)]; rfl) (by decide) ?_
      refine P_iload dX7_command_454 rfl ?_
      refine P_if_neN (tgt := 502) dX7_command_456 (by decide) (by omega) (fun c456 => ?_) (fun c456 => ?_)
      · refine P_iconst (v := nI 0) dX7_command_502 (by decide) ?_
        refine P_zret dX7_command_503 rfl (by decide) ?_
        exact cm_f (by unfold kcm; rw [if_neg (by omega), if_neg (by omega), if_neg (by omega), if_neg (by omega), if_neg (by omega), if_neg (by omega), if_neg (by omega), if_neg (by omega), if_pos c42]; exact congrArg (fun z => (z, (c, S))) (decide_eq_false (fun q9 => by first | exact absurd q9.1 (by omega) | exact absurd q9.2.1 (of_decide_eq_false c467) | exact absurd q9.2.2.1 (of_decide_eq_false c479) | exact absurd (show mcmp S a d 1 ≤ r from q9.2.2.2) (by omega)))) hR vO2.rf
      · refine P_aload_n dX7_command_459 rfl rfl ?_
        refine P_getr (t := q + 3) dX7_command_460 kX7 fX7_16 rfl (by decide) hq.o hq.r3 hq.k3.1.2 ?_
        refine P_iload_n dX7_command_463 rfl rfl ?_
        refine P_cSp (rest := []) (As := [.ref (q + 3), .int (nI (a))]) dX7_command_464 lX7_112 yk_X7_isMember ys_X7_isMember (by decide) rfl rfl (Nat.le_of_ble_eq_true rfl) rfl (c_X7_isMember hq.k3 hR) ?_
        refine P_top (y := vb (decide (a < c))) (by rw [mb_n (by omega)]) ?_
        refine P_bif_eq (tgt := 502) dX7_command_467 (by decide) (fun c467 => ?_) (fun c467 => ?_)
        · refine P_iconst (v := nI 0) dX7_command_502 (by decide) ?_
          refine P_zret dX7_command_503 rfl (by decide) ?_
          exact cm_f (by unfold kcm; rw [if_neg (by omega), if_neg (by omega), if_neg (by omega), if_neg (by omega), if_neg (by omega), if_neg (by omega), if_neg (by omega), if_neg (by omega), if_pos c42]; exact congrArg (fun z => (z, (c, S))) (decide_eq_false (fun q9 => by first | exact absurd q9.1 (by omega) | exact absurd q9.2.1 (of_decide_eq_false c467) | exact absurd q9.2.2.1 (of_decide_eq_false c479) | exact absurd (show mcmp S a d 1 ≤ r from q9.2.2.2) (by omega)))) hR vO2.rf
        · have z1 := of_decide_eq_true c467
          refine P_aload_n dX7_command_470 rfl rfl ?_
          refine P_getr (t := q + 3) dX7_command_471 kX7 fX7_16 rfl (by decide) hq.o hq.r3 hq.k3.1.2 ?_
          refine P_iload dX7_command_474 rfl ?_
          refine P_cSp (rest := []) (As := [.ref (q + 3), .int (nI (d))]) dX7_command_476 lX7_112 yk_X7_isMember ys_X7_isMember (by decide) rfl rfl (Nat.le_of_ble_eq_true rfl) rfl (c_X7_isMember hq.k3 hR) ?_
          refine P_top (y := vb (decide (d < c))) (by rw [mb_n (by omega)]) ?_
          refine P_bif_eq (tgt := 502) dX7_command_479 (by decide) (fun c479 => ?_) (fun c479 => ?_)
          · refine P_iconst (v := nI 0) dX7_command_502 (by decide) ?_
            refine P_zret dX7_command_503 rfl (by decide) ?_
            exact cm_f (by unfold kcm; rw [if_neg (by omega), if_neg (by omega), if_neg (by omega), if_neg (by omega), if_neg (by omega), if_neg (by omega), if_neg (by omega), if_neg (by omega), if_pos c42]; exact congrArg (fun z => (z, (c, S))) (decide_eq_false (fun q9 => by first | exact absurd q9.1 (by omega) | exact absurd q9.2.1 (of_decide_eq_false c467) | exact absurd q9.2.2.1 (of_decide_eq_false c479) | exact absurd (show mcmp S a d 1 ≤ r from q9.2.2.2) (by omega)))) hR vO2.rf
          · have z2 := of_decide_eq_true c479
            refine P_aload_n dX7_command_482 rfl rfl ?_
            refine P_getr (t := q + 3) dX7_command_483 kX7 fX7_16 rfl (by decide) hq.o hq.r3 hq.k3.1.2 ?_
            refine P_iload_n dX7_command_486 rfl rfl ?_
            refine P_iload dX7_command_487 rfl ?_
            refine P_iconst (v := nI 1) dX7_command_489 (by decide) ?_
            refine P_cSp (rest := []) (As := [.ref (q + 3), .int (nI (a)), .int (nI (d)), .int (nI (1))]) dX7_command_490 lX7_219 yk_X7_compared ys_X7_compared (by decide) rfl rfl (Nat.le_of_ble_eq_true rfl) rfl (c_X7_compared hq.k3 hR hN (by omega) z1 z2 (by omega)) ?_
            refine P_iload dX7_command_493 rfl ?_
            refine P_icmp_gtN (tgt := 502) dX7_command_495 (by decide) (by first | omega | (have := mcmpK_le (S := S) (a := a) (d := d) (w := 1) (gH S a).length; have h5a := hN.b.2.1 a; have h5d := hN.b.2.1 d; have : (gH S a).length * (gH S d).length ≤ 5 * 5 := Nat.mul_le_mul h5a h5d; unfold mcmp; omega)) (by first | omega | (have := mcmpK_le (S := S) (a := a) (d := d) (w := 1) (gH S a).length; have h5a := hN.b.2.1 a; have h5d := hN.b.2.1 d; have : (gH S a).length * (gH S d).length ≤ 5 * 5 := Nat.mul_le_mul h5a h5d; unfold mcmp; omega)) (fun c495 => ?_) (fun c495 => ?_)
            · refine P_iconst (v := nI 0) dX7_command_502 (by decide) ?_
              refine P_zret dX7_command_503 rfl (by decide) ?_
              exact cm_f (by unfold kcm; rw [if_neg (by omega), if_neg (by omega), if_neg (by omega), if_neg (by omega), if_neg (by omega), if_neg (by omega), if_neg (by omega), if_neg (by omega), if_pos c42]; exact congrArg (fun z => (z, (c, S))) (decide_eq_false (fun q9 => by first | exact absurd q9.1 (by omega) | exact absurd q9.2.1 (of_decide_eq_false c467) | exact absurd q9.2.2.1 (of_decide_eq_false c479) | exact absurd (show mcmp S a d 1 ≤ r from q9.2.2.2) (by omega)))) hR vO2.rf
            · refine P_iconst (v := nI 1) dX7_command_498 (by decide) ?_
              refine P_goto (tgt := 503) dX7_command_499 (by decide) ?_
              refine P_zret dX7_command_503 rfl (by decide) ?_
              exact cm_t (by unfold kcm; rw [if_neg (by omega), if_neg (by omega), if_neg (by omega), if_neg (by omega), if_neg (by omega), if_neg (by omega), if_neg (by omega), if_neg (by omega), if_pos c42]; exact congrArg (fun z => (z, (c, S))) (decide_eq_true ⟨by omega, z1, z2, show mcmp S a d 1 ≤ r by omega⟩)) hR vO2.rf
