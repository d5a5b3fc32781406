
def kLM (σ : vS) (p : Nat) : Prop := vK σ p 2 0 ∧ kLP σ (p + 1) 6 ∧ kLP σ (p + 5) 12 ∧ kLP σ (p + 9) 5 ∧ σ.2.2.1 p 13 = some (p + 1) ∧ σ.2.2.1 p 14 = some (p + 5) ∧ σ.2.2.1 p 15 = some (p + 9)
theorem kLM.o {σ : vS} {p : Nat} (h : kLM σ p) : vK σ p 2 0 := h.1
theorem kLM.pa {σ : vS} {p : Nat} (h : kLM σ p) : kLP σ (p + 1) 6 := h.2.1
theorem kLM.pk {σ : vS} {p : Nat} (h : kLM σ p) : kLP σ (p + 5) 12 := h.2.2.1
theorem kLM.ps {σ : vS} {p : Nat} (h : kLM σ p) : kLP σ (p + 9) 5 := h.2.2.2.1
theorem kLM.c13 {σ : vS} {p : Nat} (h : kLM σ p) : σ.2.2.1 p 13 = some (p + 1) := h.2.2.2.2.1
theorem kLM.c14 {σ : vS} {p : Nat} (h : kLM σ p) : σ.2.2.1 p 14 = some (p + 5) := h.2.2.2.2.2.1
theorem kLM.c15 {σ : vS} {p : Nat} (h : kLM σ p) : σ.2.2.1 p 15 = some (p + 9) := h.2.2.2.2.2.2
/-- a club's nodes -/
def kLC (σ : vS) (b : Nat) : Prop := vK σ b 0 0 ∧ vK σ (b + 1) 11 6 ∧ vK σ (b + 2) 3 0 ∧ vK σ (b + 3) 8 6 ∧ vK σ (b + 4) 8 1350 ∧ vK σ (b + 5) 8 9 ∧ σ.2.2.1 b 0 = some (b + 1) ∧ σ.2.2.1 b 1 = some (b + 2) ∧ σ.2.2.1 b 2 = some (b + 5) ∧ σ.2.2.1 (b + 2) 0 = some (b + 3) ∧ σ.2.2.1 (b + 2) 1 = some (b + 4) ∧ ∀ m, m < 6 → σ.2.2.1 (b + 1) m = some (b + 6 + 13 * m) ∧ kLM σ (b + 6 + 13 * m)
theorem kLC.o {σ : vS} {b : Nat} (h : kLC σ b) : vK σ b 0 0 := h.1
theorem kLC.k1 {σ : vS} {b : Nat} (h : kLC σ b) : vK σ (b + 1) 11 6 := h.2.1
theorem kLC.k2 {σ : vS} {b : Nat} (h : kLC σ b) : vK σ (b + 2) 3 0 := h.2.2.1
theorem kLC.k3 {σ : vS} {b : Nat} (h : kLC σ b) : vK σ (b + 3) 8 6 := h.2.2.2.1
theorem kLC.k4 {σ : vS} {b : Nat} (h : kLC σ b) : vK σ (b + 4) 8 1350 := h.2.2.2.2.1
theorem kLC.k5 {σ : vS} {b : Nat} (h : kLC σ b) : vK σ (b + 5) 8 9 := h.2.2.2.2.2.1
theorem kLC.r0 {σ : vS} {b : Nat} (h : kLC σ b) : σ.2.2.1 b 0 = some (b + 1) := h.2.2.2.2.2.2.1
theorem kLC.r1 {σ : vS} {b : Nat} (h : kLC σ b) : σ.2.2.1 b 1 = some (b + 2) := h.2.2.2.2.2.2.2.1
theorem kLC.r2 {σ : vS} {b : Nat} (h : kLC σ b) : σ.2.2.1 b 2 = some (b + 5) := h.2.2.2.2.2.2.2.2.1
theorem kLC.p0 {σ : vS} {b : Nat} (h : kLC σ b) : σ.2.2.1 (b + 2) 0 = some (b + 3) := h.2.2.2.2.2.2.2.2.2.1
theorem kLC.p1 {σ : vS} {b : Nat} (h : kLC σ b) : σ.2.2.1 (b + 2) 1 = some (b + 4) := h.2.2.2.2.2.2.2.2.2.2.1
theorem kLC.e {σ : vS} {b m : Nat} (h : kLC σ b) (hm : m < 6) : σ.2.2.1 (b + 1) m = some (b + 6 + 13 * m) := (h.2.2.2.2.2.2.2.2.2.2.2 m hm).1
theorem kLC.m {σ : vS} {b m : Nat} (h : kLC σ b) (hm : m < 6) : kLM σ (b + 6 + 13 * m) := (h.2.2.2.2.2.2.2.2.2.2.2 m hm).2
/-- a note's columns in the class -/
def xc (x : mN) (j : Nat) : Nat := if j < 5 then x j else x (j + 1)
def kq (t : mT) : mT := (t.1, t.2.1, 1 <<< t.2.2)
/-- a member's cells tell what the model tells of it -/
def MR (v : vV) (p m : Nat) (S : mS) : Prop := v p 0 = nI m ∧ (∀ w, w < 8 → v p (w + 1) = nI (gM S m w)) ∧ (gM S m 9 ≠ 0 → v p 9 = nI (gM S m 8)) ∧ v p 10 = nI (gM S m 9) ∧ v p 11 = nI (gM S m 11) ∧ v p 12 = nI (gM S m 10) ∧
  (∀ k, k < 6 → v (p + 1 + 1) k = nI (gM S m (12 + 3 * k)) ∧ v (p + 1 + 2) k = nI (gM S m (13 + 3 * k)) ∧ v (p + 1 + 3) k = nI (gM S m (14 + 3 * k))) ∧ RP v (p + 5) ((gK S m).map kq) ∧ RP v (p + 9) (gH S m)
def CR (c : Nat) (v : vV) (b : Nat) (S : mS) : Prop :=
  (gG S 0 = c ∧ c ≤ 6) ∧ (v b 3 = nI c ∧ v b 4 = nI (gG S 1) ∧ v b 5 = nI (gG S 7) ∧ v b 6 = nI (gG S 4) ∧ v b 7 = nI (gG S 5) ∧ v b 8 = nI (gG S 6)) ∧
  (v (b + 2) 2 = nI (mways S) ∧ v (b + 2) 3 = nI (gN S).length ∧ v (b + 2) 4 = nI (gG S 3)) ∧ (∀ a, a < 6 → v (b + 3) a = nI (gG S (8 + a))) ∧
  (∀ (k : Nat) (x : mN), (gN S)[k]? = some x → ∀ j, j < 9 → v (b + 4) (9 * k + j) = nI (xc x j)) ∧ (∀ m, m < 6 → MR v (b + 6 + 13 * m) m S) ∧ RB S
theorem CR.c0 {c : Nat} {v : vV} {b : Nat} {S : mS} (h : CR c v b S) : gG S 0 = c := h.1.1
theorem CR.c6 {c : Nat} {v : vV} {b : Nat} {S : mS} (h : CR c v b S) : c ≤ 6 := h.1.2
theorem CR.g3 {c : Nat} {v : vV} {b : Nat} {S : mS} (h : CR c v b S) : v b 3 = nI c := h.2.1.1
theorem CR.g4 {c : Nat} {v : vV} {b : Nat} {S : mS} (h : CR c v b S) : v b 4 = nI (gG S 1) := h.2.1.2.1
theorem CR.g5 {c : Nat} {v : vV} {b : Nat} {S : mS} (h : CR c v b S) : v b 5 = nI (gG S 7) := h.2.1.2.2.1
theorem CR.g6 {c : Nat} {v : vV} {b : Nat} {S : mS} (h : CR c v b S) : v b 6 = nI (gG S 4) := h.2.1.2.2.2.1
theorem CR.g7 {c : Nat} {v : vV} {b : Nat} {S : mS} (h : CR c v b S) : v b 7 = nI (gG S 5) := h.2.1.2.2.2.2.1
theorem CR.g8 {c : Nat} {v : vV} {b : Nat} {S : mS} (h : CR c v b S) : v b 8 = nI (gG S 6) := h.2.1.2.2.2.2.2
theorem CR.p2 {c : Nat} {v : vV} {b : Nat} {S : mS} (h : CR c v b S) : v (b + 2) 2 = nI (mways S) := h.2.2.1.1
theorem CR.p3 {c : Nat} {v : vV} {b : Nat} {S : mS} (h : CR c v b S) : v (b + 2) 3 = nI (gN S).length := h.2.2.1.2.1
theorem CR.p4 {c : Nat} {v : vV} {b : Nat} {S : mS} (h : CR c v b S) : v (b + 2) 4 = nI (gG S 3) := h.2.2.1.2.2
theorem CR.cu {c : Nat} {v : vV} {b : Nat} {S : mS} (h : CR c v b S) {a : Nat} (ha : a < 6) : v (b + 3) a = nI (gG S (8 + a)) := h.2.2.2.1 a ha
theorem CR.x {c : Nat} {v : vV} {b : Nat} {S : mS} (h : CR c v b S) {k j : Nat} {x : mN} (hk : (gN S)[k]? = some x) (hj : j < 9) : v (b + 4) (9 * k + j) = nI (xc x j) := h.2.2.2.2.1 k x hk j hj
theorem CR.m {c : Nat} {v : vV} {b : Nat} {S : mS} (h : CR c v b S) {m : Nat} (hm : m < 6) : MR v (b + 6 + 13 * m) m S := h.2.2.2.2.2.1 m hm
theorem CR.b {c : Nat} {v : vV} {b : Nat} {S : mS} (h : CR c v b S) : RB S := h.2.2.2.2.2.2
theorem MR.s {v : vV} {p m : Nat} {S : mS} (h : MR v p m S) : v p 0 = nI m := h.1
theorem MR.w {v : vV} {p m : Nat} {S : mS} (h : MR v p m S) {w : Nat} (hw : w < 8) : v p (w + 1) = nI (gM S m w) := h.2.1 w hw
theorem MR.n9 {v : vV} {p m : Nat} {S : mS} (h : MR v p m S) (h9 : gM S m 9 ≠ 0) : v p 9 = nI (gM S m 8) := h.2.2.1 h9
theorem MR.n10 {v : vV} {p m : Nat} {S : mS} (h : MR v p m S) : v p 10 = nI (gM S m 9) := h.2.2.2.1
theorem MR.n11 {v : vV} {p m : Nat} {S : mS} (h : MR v p m S) : v p 11 = nI (gM S m 11) := h.2.2.2.2.1
theorem MR.n12 {v : vV} {p m : Nat} {S : mS} (h : MR v p m S) : v p 12 = nI (gM S m 10) := h.2.2.2.2.2.1
theorem MR.a {v : vV} {p m : Nat} {S : mS} (h : MR v p m S) {k : Nat} (hk : k < 6) : v (p + 1 + 1) k = nI (gM S m (12 + 3 * k)) ∧ v (p + 1 + 2) k = nI (gM S m (13 + 3 * k)) ∧ v (p + 1 + 3) k = nI (gM S m (14 + 3 * k)) := h.2.2.2.2.2.2.1 k hk
theorem MR.k {v : vV} {p m : Nat} {S : mS} (h : MR v p m S) : RP v (p + 5) ((gK S m).map kq) := h.2.2.2.2.2.2.2.1
theorem MR.h {v : vV} {p m : Nat} {S : mS} (h : MR v p m S) : RP v (p + 9) (gH S m) := h.2.2.2.2.2.2.2.2
theorem MR.kl {v : vV} {p m : Nat} {S : mS} (h : MR v p m S) : v (p + 5) 3 = nI (gK S m).length := by rw [h.k.1, List.length_map]
theorem MR.of {v v' : vV} {p m : Nat} {S S' : mS} (h : MR v p m S) (e : ∀ n, p ≤ n → n < p + 13 → v' n = v n) (eM : gM S' m = gM S m) (eK : gK S' m = gK S m) (eH : gH S' m = gH S m) : MR v' p m S' := by
  obtain ⟨h0, h1, h2, h3, h4, h5, h6, h7, h8⟩ := h
  unfold MR
  rw [e p (by omega) (by omega), e (p + 1 + 1) (by omega) (by omega), e (p + 1 + 2) (by omega) (by omega), e (p + 1 + 3) (by omega) (by omega), eM, eK, eH]
  exact ⟨h0, h1, h2, h3, h4, h5, h6, h7.of (e _ (by omega) (by omega)) (e _ (by omega) (by omega)) (e _ (by omega) (by omega)) (e _ (by omega) (by omega)), h8.of (e _ (by omega) (by omega)) (e _ (by omega) (by omega)) (e _ (by omega) (by omega)) (e _ (by omega) (by omega))⟩
theorem msb_G {S S' : mS} (e : ∀ a, gG S' (8 + a) = gG S (8 + a)) : ∀ n, msb S' n = msb S n := by
  intro n
  induction n with
  | zero => rfl
  | succ n ih => rw [msb, msb, ih, e]
theorem mways_G {S S' : mS} (e : ∀ a, gG S' (8 + a) = gG S (8 + a)) : mways S' = mways S := by unfold mways; rw [msb_G e]
/-- other cells may change -/
theorem CR.of {c : Nat} {v v' : vV} {b : Nat} {S : mS} (h : CR c v b S) (e : ∀ n, b ≤ n → n < b + 84 → n ≠ b + 5 → v' n = v n) : CR c v' b S := by
  obtain ⟨h1, h2, h3, h4, h5, h6, h7⟩ := h
  unfold CR
  rw [e b (by omega) (by omega) (by omega), e (b + 2) (by omega) (by omega) (by omega), e (b + 3) (by omega) (by omega) (by omega), e (b + 4) (by omega) (by omega) (by omega)]
  exact ⟨h1, h2, h3, h4, h5, fun m hm => (h6 m hm).of (fun n g1 g2 => e n (by omega) (by omega) (by omega)) rfl rfl rfl, h7⟩
theorem CR.ow {c : Nat} {v v' : vV} {b r w : Nat} {S : mS} (h : CR c v b S) (e : vOw v v' r w) (hb : b + 84 ≤ r ∨ r + w ≤ b) : CR c v' b S := h.of (fun n g1 g2 _ => e n (by omega))
/-- a member's cells change -/
theorem CR.mem {c : Nat} {v v' : vV} {b m : Nat} {S S' : mS} (h : CR c v b S) (hm : m < 6) (ho : vOw v v' (b + 6 + 13 * m) 13) (hM : MR v' (b + 6 + 13 * m) m S') (eG : gG S' = gG S) (eN : gN S' = gN S) (eo : ∀ k, k ≠ m → gM S' k = gM S k ∧ gK S' k = gK S k ∧ gH S' k = gH S k) (hB : RB S') : CR c v' b S' := by
  obtain ⟨h1, h2, h3, h4, h5, h6, h7⟩ := h
  unfold CR
  rw [ho b (by omega), ho (b + 2) (by omega), ho (b + 3) (by omega), ho (b + 4) (by omega), eG, eN, mways_G (S := S) (S' := S') (fun a => by rw [eG])]
  refine ⟨h1, h2, h3, h4, h5, fun k hk => ?_, hB⟩
  by_cases e : k = m
  · subst e; exact hM
  · exact (h6 k hk).of (fun n g1 g2 => ho n (by omega)) (eo k e).1 (eo k e).2.1 (eo k e).2.2
theorem sM_ne {S : mS} {m w x k : Nat} (h : k ≠ m) : gM (sM S m w x) k = gM S k := by
  funext j
  show (if k = m then _ else S.2.1 k j) = _
  rw [if_neg h]
theorem sM_at {S : mS} {m w x j : Nat} : gM (sM S m w x) m j = if j = w then x else gM S m j := by
  show (if m = m then _ else _) = _
  rw [if_pos rfl]
theorem CR.M {c : Nat} {v : vV} {b m w x : Nat} {S : mS} (h : CR c v b S) (hm : m < 6) (hw : w < 8) : CR c (vU v (b + 6 + 13 * m) (w + 1) (nI x)) b (sM S m w x) := by
  have g := h.m hm
  refine h.mem hm (vOw.rf.u (by omega) (by omega)) ⟨?_, fun j hj => ?_, fun q => ?_, ?_, ?_, ?_, fun k hk => ?_, ?_, ?_⟩ rfl rfl (fun k hk => ⟨sM_ne hk, rfl, rfl⟩) h.b
  · rw [vU_o (by omega)]; exact g.s
  · rw [sM_at]
    by_cases e : j = w
    · subst e; rw [vU_s, if_pos rfl]
    · rw [vU_o (by omega), if_neg e]; exact g.w hj
  · rw [sM_at, if_neg (by omega)] at q ⊢
    rw [vU_o (by omega)]; exact g.n9 q
  · rw [vU_o (by omega), sM_at, if_neg (by omega)]; exact g.n10
  · rw [vU_o (by omega), sM_at, if_neg (by omega)]; exact g.n11
  · rw [vU_o (by omega), sM_at, if_neg (by omega)]; exact g.n12
  · rw [vU_o (by omega), vU_o (by omega), vU_o (by omega), sM_at, sM_at, sM_at, if_neg (by omega), if_neg (by omega), if_neg (by omega)]; exact g.a hk
  · exact g.k.of (vU_ne (by omega)) (vU_ne (by omega)) (vU_ne (by omega)) (vU_ne (by omega))
  · exact g.h.of (vU_ne (by omega)) (vU_ne (by omega)) (vU_ne (by omega)) (vU_ne (by omega))
theorem CR.M9 {c : Nat} {v : vV} {b m x : Nat} {S : mS} (h : CR c v b S) (hm : m < 6) (hx : x ≠ 0 → v (b + 6 + 13 * m) 9 = nI (gM S m 8)) : CR c (vU v (b + 6 + 13 * m) 10 (nI x)) b (sM S m 9 x) := by
  have g := h.m hm
  refine h.mem hm (vOw.rf.u (by omega) (by omega)) ⟨?_, fun j hj => ?_, fun q => ?_, ?_, ?_, ?_, fun k hk => ?_, ?_, ?_⟩ rfl rfl (fun k hk => ⟨sM_ne hk, rfl, rfl⟩) h.b
  · rw [vU_o (by omega)]; exact g.s
  · rw [vU_o (by omega), sM_at, if_neg (by omega)]; exact g.w hj
  · rw [sM_at, if_pos rfl] at q
    rw [vU_o (by omega), sM_at, if_neg (by omega)]; exact hx q
  · rw [vU_s, sM_at, if_pos rfl]
  · rw [vU_o (by omega), sM_at, if_neg (by omega)]; exact g.n11
  · rw [vU_o (by omega), sM_at, if_neg (by omega)]; exact g.n12
  · rw [vU_o (by omega), vU_o (by omega), vU_o (by omega), sM_at, sM_at, sM_at, if_neg (by omega), if_neg (by omega), if_neg (by omega)]; exact g.a hk
  · exact g.k.of (vU_ne (by omega)) (vU_ne (by omega)) (vU_ne (by omega)) (vU_ne (by omega))
  · exact g.h.of (vU_ne (by omega)) (vU_ne (by omega)) (vU_ne (by omega)) (vU_ne (by omega))
theorem CR.M11 {c : Nat} {v : vV} {b m x : Nat} {S : mS} (h : CR c v b S) (hm : m < 6) : CR c (vU v (b + 6 + 13 * m) 11 (nI x)) b (sM S m 11 x) := by
  have g := h.m hm
  refine h.mem hm (vOw.rf.u (by omega) (by omega)) ⟨?_, fun j hj => ?_, fun q => ?_, ?_, ?_, ?_, fun k hk => ?_, ?_, ?_⟩ rfl rfl (fun k hk => ⟨sM_ne hk, rfl, rfl⟩) h.b
  · rw [vU_o (by omega)]; exact g.s
  · rw [vU_o (by omega), sM_at, if_neg (by omega)]; exact g.w hj
  · rw [sM_at, if_neg (by omega)] at q ⊢
    rw [vU_o (by omega)]; exact g.n9 q
  · rw [vU_o (by omega), sM_at, if_neg (by omega)]; exact g.n10
  · rw [vU_s, sM_at, if_pos rfl]
  · rw [vU_o (by omega), sM_at, if_neg (by omega)]; exact g.n12
  · rw [vU_o (by omega), vU_o (by omega), vU_o (by omega), sM_at, sM_at, sM_at, if_neg (by omega), if_neg (by omega), if_neg (by omega)]; exact g.a hk
  · exact g.k.of (vU_ne (by omega)) (vU_ne (by omega)) (vU_ne (by omega)) (vU_ne (by omega))
  · exact g.h.of (vU_ne (by omega)) (vU_ne (by omega)) (vU_ne (by omega)) (vU_ne (by omega))
theorem CR.M10 {c : Nat} {v : vV} {b m x : Nat} {S : mS} (h : CR c v b S) (hm : m < 6) : CR c (vU v (b + 6 + 13 * m) 12 (nI x)) b (sM S m 10 x) := by
  have g := h.m hm
  refine h.mem hm (vOw.rf.u (by omega) (by omega)) ⟨?_, fun j hj => ?_, fun q => ?_, ?_, ?_, ?_, fun k hk => ?_, ?_, ?_⟩ rfl rfl (fun k hk => ⟨sM_ne hk, rfl, rfl⟩) h.b
  · rw [vU_o (by omega)]; exact g.s
  · rw [vU_o (by omega), sM_at, if_neg (by omega)]; exact g.w hj
  · rw [sM_at, if_neg (by omega)] at q ⊢
    rw [vU_o (by omega)]; exact g.n9 q
  · rw [vU_o (by omega), sM_at, if_neg (by omega)]; exact g.n10
  · rw [vU_o (by omega), sM_at, if_neg (by omega)]; exact g.n11
  · rw [vU_s, sM_at, if_pos rfl]
  · rw [vU_o (by omega), vU_o (by omega), vU_o (by omega), sM_at, sM_at, sM_at, if_neg (by omega), if_neg (by omega), if_neg (by omega)]; exact g.a hk
  · exact g.k.of (vU_ne (by omega)) (vU_ne (by omega)) (vU_ne (by omega)) (vU_ne (by omega))
  · exact g.h.of (vU_ne (by omega)) (vU_ne (by omega)) (vU_ne (by omega)) (vU_ne (by omega))
/-- the number of the roll that it calls is of no account while it calls none -/
theorem CR.M8 {c : Nat} {v : vV} {b m x : Nat} {S : mS} (h : CR c v b S) (hm : m < 6) (h9 : gM S m 9 = 0) : CR c (vU v (b + 6 + 13 * m) 9 (nI x)) b (sM S m 8 x) := by
  have g := h.m hm
  refine h.mem hm (vOw.rf.u (by omega) (by omega)) ⟨?_, fun j hj => ?_, fun q => ?_, ?_, ?_, ?_, fun k hk => ?_, ?_, ?_⟩ rfl rfl (fun k hk => ⟨sM_ne hk, rfl, rfl⟩) h.b
  · rw [vU_o (by omega)]; exact g.s
  · rw [vU_o (by omega), sM_at, if_neg (by omega)]; exact g.w hj
  · rw [sM_at, if_pos rfl, vU_s]
  · rw [vU_o (by omega), sM_at, if_neg (by omega)]; exact g.n10
  · rw [vU_o (by omega), sM_at, if_neg (by omega)]; exact g.n11
  · rw [vU_o (by omega), sM_at, if_neg (by omega)]; exact g.n12
  · rw [vU_o (by omega), vU_o (by omega), vU_o (by omega), sM_at, sM_at, sM_at, if_neg (by omega), if_neg (by omega), if_neg (by omega)]; exact g.a hk
  · exact g.k.of (vU_ne (by omega)) (vU_ne (by omega)) (vU_ne (by omega)) (vU_ne (by omega))
  · exact g.h.of (vU_ne (by omega)) (vU_ne (by omega)) (vU_ne (by omega)) (vU_ne (by omega))
theorem CR.M8z {c : Nat} {v : vV} {b m x : Nat} {S : mS} (h : CR c v b S) (hm : m < 6) (h9 : gM S m 9 = 0) : CR c v b (sM S m 8 x) := by
  have g := h.m hm
  refine h.mem hm vOw.rf ⟨g.s, fun j hj => ?_, fun q => ?_, ?_, ?_, ?_, fun k hk => ?_, g.k, g.h⟩ rfl rfl (fun k hk => ⟨sM_ne hk, rfl, rfl⟩) h.b
  · rw [sM_at, if_neg (by omega)]; exact g.w hj
  · rw [sM_at, if_neg (by omega)] at q; exact absurd h9 q
  · rw [sM_at, if_neg (by omega)]; exact g.n10
  · rw [sM_at, if_neg (by omega)]; exact g.n11
  · rw [sM_at, if_neg (by omega)]; exact g.n12
  · rw [sM_at, sM_at, sM_at, if_neg (by omega), if_neg (by omega), if_neg (by omega)]; exact g.a hk
theorem CR.A {c : Nat} {v : vV} {b m k x y z : Nat} {S : mS} (h : CR c v b S) (hm : m < 6) (hk : k < 6) : CR c (vU (vU (vU v (b + 6 + 13 * m + 1 + 1) k (nI x)) (b + 6 + 13 * m + 1 + 2) k (nI y)) (b + 6 + 13 * m + 1 + 3) k (nI z)) b (sM (sM (sM S m (12 + 3 * k) x) m (13 + 3 * k) y) m (14 + 3 * k) z) := by
  have g := h.m hm
  have e9 : ∀ j, j < 12 → gM (sM (sM (sM S m (12 + 3 * k) x) m (13 + 3 * k) y) m (14 + 3 * k) z) m j = gM S m j := fun j hj => by
    rw [sM_at, if_neg (by omega), sM_at, if_neg (by omega), sM_at, if_neg (by omega)]
  refine h.mem hm (((vOw.rf.u (by omega) (by omega)).u (by omega) (by omega)).u (by omega) (by omega)) ⟨?_, fun j hj => ?_, fun q => ?_, ?_, ?_, ?_, fun j hj => ⟨?_, ?_, ?_⟩, ?_, ?_⟩ rfl rfl (fun k hk => ⟨by rw [sM_ne hk, sM_ne hk, sM_ne hk], rfl, rfl⟩) h.b
  · rw [vU_o (by omega), vU_o (by omega), vU_o (by omega)]; exact g.s
  · rw [vU_o (by omega), vU_o (by omega), vU_o (by omega), e9 j (by omega)]; exact g.w hj
  · rw [vU_o (by omega), vU_o (by omega), vU_o (by omega), e9 8 (by omega)]
    rw [e9 9 (by omega)] at q
    exact g.n9 q
  · rw [vU_o (by omega), vU_o (by omega), vU_o (by omega), e9 9 (by omega)]; exact g.n10
  · rw [vU_o (by omega), vU_o (by omega), vU_o (by omega), e9 11 (by omega)]; exact g.n11
  · rw [vU_o (by omega), vU_o (by omega), vU_o (by omega), e9 10 (by omega)]; exact g.n12
  · rw [vU_o (by omega), vU_o (by omega), sM_at, if_neg (by omega), sM_at, if_neg (by omega), sM_at]
    by_cases e : j = k
    · subst e; rw [vU_s, if_pos rfl]
    · rw [vU_o (by omega), if_neg (by omega)]; exact (g.a hj).1
  · rw [vU_o (by omega), sM_at, if_neg (by omega), sM_at]
    by_cases e : j = k
    · subst e; rw [vU_s, if_pos rfl]
    · rw [vU_o (by omega), vU_o (by omega), if_neg (by omega), sM_at, if_neg (by omega)]; exact (g.a hj).2.1
  · rw [sM_at]
    by_cases e : j = k
    · subst e; rw [vU_s, if_pos rfl]
    · rw [vU_o (by omega), vU_o (by omega), vU_o (by omega), if_neg (by omega), sM_at, if_neg (by omega), sM_at, if_neg (by omega)]; exact (g.a hj).2.2
  · exact g.k.of (by rw [vU_ne (by omega), vU_ne (by omega), vU_ne (by omega)]) (by rw [vU_ne (by omega), vU_ne (by omega), vU_ne (by omega)]) (by rw [vU_ne (by omega), vU_ne (by omega), vU_ne (by omega)]) (by rw [vU_ne (by omega), vU_ne (by omega), vU_ne (by omega)])
  · exact g.h.of (by rw [vU_ne (by omega), vU_ne (by omega), vU_ne (by omega)]) (by rw [vU_ne (by omega), vU_ne (by omega), vU_ne (by omega)]) (by rw [vU_ne (by omega), vU_ne (by omega), vU_ne (by omega)]) (by rw [vU_ne (by omega), vU_ne (by omega), vU_ne (by omega)])
theorem CR.K {c : Nat} {v v' : vV} {b m : Nat} {S : mS} {l : List mT} (h : CR c v b S) (hm : m < 6) (ho : vOw v v' (b + 6 + 13 * m + 5) 4) (hR : RP v' (b + 6 + 13 * m + 5) (l.map kq)) (hl : l.length ≤ 12) : CR c v' b (sK S m l) := by
  have g := h.m hm
  have e1 : ∀ n, n = 0 ∨ n = 2 ∨ n = 3 ∨ n = 4 ∨ n = 9 ∨ n = 10 ∨ n = 11 ∨ n = 12 → v' (b + 6 + 13 * m + n) = v (b + 6 + 13 * m + n) := fun n hn => ho _ (by omega)
  have e0 := e1 0 (by omega)
  rw [Nat.add_zero] at e0
  refine h.mem hm (ho.mono (by omega) (by omega)) ⟨?_, fun j hj => ?_, fun q => ?_, ?_, ?_, ?_, fun j hj => ?_, ?_, ?_⟩ rfl rfl (fun k hk => ⟨rfl, ?_, rfl⟩) ⟨fun k => ?_, h.b.2⟩
  · rw [e0]; exact g.s
  · rw [e0]; exact g.w hj
  · rw [e0]; exact g.n9 q
  · rw [e0]; exact g.n10
  · rw [e0]; exact g.n11
  · rw [e0]; exact g.n12
  · rw [ho _ (by omega), ho _ (by omega), ho _ (by omega)]; exact g.a hj
  · show RP v' _ ((if m = m then l else S.2.2.1 m).map kq); rw [if_pos rfl]; exact hR
  · exact g.h.of (ho _ (by omega)) (ho _ (by omega)) (ho _ (by omega)) (ho _ (by omega))
  · show (if k = m then l else S.2.2.1 k) = S.2.2.1 k; rw [if_neg hk]
  · show (if k = m then l else S.2.2.1 k).length ≤ 12
    split
    · exact hl
    · exact h.b.1 k
theorem CR.H {c : Nat} {v v' : vV} {b m : Nat} {S : mS} {l : List mT} (h : CR c v b S) (hm : m < 6) (ho : vOw v v' (b + 6 + 13 * m + 9) 4) (hR : RP v' (b + 6 + 13 * m + 9) l) (hl : l.length ≤ 5) : CR c v' b (sH S m l) := by
  have g := h.m hm
  have e0 : v' (b + 6 + 13 * m) = v (b + 6 + 13 * m) := ho _ (by omega)
  refine h.mem hm (ho.mono (by omega) (by omega)) ⟨?_, fun j hj => ?_, fun q => ?_, ?_, ?_, ?_, fun j hj => ?_, ?_, ?_⟩ rfl rfl (fun k hk => ⟨rfl, rfl, ?_⟩) ⟨h.b.1, fun k => ?_, h.b.2.2⟩
  · rw [e0]; exact g.s
  · rw [e0]; exact g.w hj
  · rw [e0]; exact g.n9 q
  · rw [e0]; exact g.n10
  · rw [e0]; exact g.n11
  · rw [e0]; exact g.n12
  · rw [ho _ (by omega), ho _ (by omega), ho _ (by omega)]; exact g.a hj
  · exact g.k.of (ho _ (by omega)) (ho _ (by omega)) (ho _ (by omega)) (ho _ (by omega))
  · show RP v' _ (if m = m then l else S.2.2.2.1 m); rw [if_pos rfl]; exact hR
  · show (if k = m then l else S.2.2.2.1 k) = S.2.2.2.1 k; rw [if_neg hk]
  · show (if k = m then l else S.2.2.2.1 k).length ≤ 5
    split
    · exact hl
    · exact h.b.2.1 k
/-- the members stay, the model's too -/
theorem CR.rest {c c' : Nat} {v v' : vV} {b : Nat} {S S' : mS} (h : CR c v b S) (h1 : gG S' 0 = c' ∧ c' ≤ 6) (h2 : v' b 3 = nI c' ∧ v' b 4 = nI (gG S' 1) ∧ v' b 5 = nI (gG S' 7) ∧ v' b 6 = nI (gG S' 4) ∧ v' b 7 = nI (gG S' 5) ∧ v' b 8 = nI (gG S' 6)) (h3 : v' (b + 2) 2 = nI (mways S') ∧ v' (b + 2) 3 = nI (gN S').length ∧ v' (b + 2) 4 = nI (gG S' 3)) (h4 : ∀ a, a < 6 → v' (b + 3) a = nI (gG S' (8 + a))) (h5 : ∀ (k : Nat) (x : mN), (gN S')[k]? = some x → ∀ j, j < 9 → v' (b + 4) (9 * k + j) = nI (xc x j)) (ho : ∀ n, b + 6 ≤ n → n < b + 84 → v' n = v n) (eM : gM S' = gM S) (eK : gK S' = gK S) (eH : gH S' = gH S) (hl : (gN S').length ≤ 150) : CR c' v' b S' :=
  ⟨h1, h2, h3, h4, h5, fun m hm => (h.m hm).of (fun n g1 g2 => ho n (by omega) (by omega)) (by rw [eM]) (by rw [eK]) (by rw [eH]), by unfold RB; rw [eK, eH]; exact ⟨h.b.1, h.b.2.1, hl⟩⟩
theorem sG_at {S : mS} {i x j : Nat} : gG (sG S i x) j = if j = i then x else gG S j := rfl
theorem CR.G {c : Nat} {v : vV} {b k i x : Nat} {S : mS} (h : CR c v b S) (hk : (k = 4 ∧ i = 1) ∨ (k = 5 ∧ i = 7) ∨ (k = 6 ∧ i = 4) ∨ (k = 7 ∧ i = 5) ∨ (k = 8 ∧ i = 6)) : CR c (vU v b k (nI x)) b (sG S i x) := by
  have ei : i < 8 ∧ i ≠ 0 ∧ i ≠ 3 := by omega
  refine h.rest ⟨?_, h.c6⟩ ⟨?_, ?_, ?_, ?_, ?_, ?_⟩ ⟨?_, ?_, ?_⟩ (fun a ha => ?_) (fun j y hy q hq => ?_) (fun n g1 g2 => vU_ne (by omega)) rfl rfl rfl h.b.2.2
  · rw [sG_at, if_neg (by omega)]; exact h.c0
  · rw [vU_o (by omega)]; exact h.g3
  · rw [sG_at]; rcases hk with ⟨rfl, rfl⟩ | ⟨rfl, rfl⟩ | ⟨rfl, rfl⟩ | ⟨rfl, rfl⟩ | ⟨rfl, rfl⟩ <;> first | exact vU_s | (rw [vU_o (by omega), if_neg (by omega)]; exact h.g4)
  · rw [sG_at]; rcases hk with ⟨rfl, rfl⟩ | ⟨rfl, rfl⟩ | ⟨rfl, rfl⟩ | ⟨rfl, rfl⟩ | ⟨rfl, rfl⟩ <;> first | exact vU_s | (rw [vU_o (by omega), if_neg (by omega)]; exact h.g5)
  · rw [sG_at]; rcases hk with ⟨rfl, rfl⟩ | ⟨rfl, rfl⟩ | ⟨rfl, rfl⟩ | ⟨rfl, rfl⟩ | ⟨rfl, rfl⟩ <;> first | exact vU_s | (rw [vU_o (by omega), if_neg (by omega)]; exact h.g6)
  · rw [sG_at]; rcases hk with ⟨rfl, rfl⟩ | ⟨rfl, rfl⟩ | ⟨rfl, rfl⟩ | ⟨rfl, rfl⟩ | ⟨rfl, rfl⟩ <;> first | exact vU_s | (rw [vU_o (by omega), if_neg (by omega)]; exact h.g7)
  · rw [sG_at]; rcases hk with ⟨rfl, rfl⟩ | ⟨rfl, rfl⟩ | ⟨rfl, rfl⟩ | ⟨rfl, rfl⟩ | ⟨rfl, rfl⟩ <;> first | exact vU_s | (rw [vU_o (by omega), if_neg (by omega)]; exact h.g8)
  · rw [vU_ne (by omega), mways_G (S := S) (S' := sG S i x) (fun a => by rw [sG_at, if_neg (by omega)])]; exact h.p2
  · rw [vU_ne (by omega)]; exact h.p3
  · rw [vU_ne (by omega), sG_at, if_neg (by omega)]; exact h.p4
  · rw [vU_ne (by omega), sG_at, if_neg (by omega)]; exact h.cu ha
  · rw [vU_ne (by omega)]; exact h.x hy hq
theorem CR.G3 {c : Nat} {v : vV} {b x : Nat} {S : mS} (h : CR c v b S) : CR c (vU v (b + 2) 4 (nI x)) b (sG S 3 x) := by
  refine h.rest ⟨?_, h.c6⟩ ⟨?_, ?_, ?_, ?_, ?_, ?_⟩ ⟨?_, ?_, ?_⟩ (fun a ha => ?_) (fun j y hy q hq => ?_) (fun n g1 g2 => vU_ne (by omega)) rfl rfl rfl h.b.2.2
  · rw [sG_at, if_neg (by omega)]; exact h.c0
  · rw [vU_ne (by omega)]; exact h.g3
  · rw [vU_ne (by omega), sG_at, if_neg (by omega)]; exact h.g4
  · rw [vU_ne (by omega), sG_at, if_neg (by omega)]; exact h.g5
  · rw [vU_ne (by omega), sG_at, if_neg (by omega)]; exact h.g6
  · rw [vU_ne (by omega), sG_at, if_neg (by omega)]; exact h.g7
  · rw [vU_ne (by omega), sG_at, if_neg (by omega)]; exact h.g8
  · rw [vU_o (by omega), mways_G (S := S) (S' := sG S 3 x) (fun a => by rw [sG_at, if_neg (by omega)])]; exact h.p2
  · rw [vU_o (by omega)]; exact h.p3
  · rw [vU_s, sG_at, if_pos rfl]
  · rw [vU_ne (by omega), sG_at, if_neg (by omega)]; exact h.cu ha
  · rw [vU_ne (by omega)]; exact h.x hy hq
theorem CR.none {c : Nat} {v : vV} {b m : Nat} {S : mS} (h : CR c v b (sM (sM S m 9 0) m 10 0)) (hm : m < 6) : CR c v b (mnone S m) := by
  have e : sM (sM (sM S m 9 0) m 10 0) m 8 0 = mnone S m := by
    unfold mnone sM
    refine Prod.ext rfl (Prod.ext (funext fun a => funext fun w => ?_) rfl)
    show (if a = m then (if w = 8 then 0 else if a = m then (if w = 10 then 0 else if a = m then (if w = 9 then 0 else S.2.1 a w) else S.2.1 a w) else if a = m then (if w = 9 then 0 else S.2.1 a w) else S.2.1 a w) else if a = m then (if w = 10 then 0 else if a = m then (if w = 9 then 0 else S.2.1 a w) else S.2.1 a w) else if a = m then (if w = 9 then 0 else S.2.1 a w) else S.2.1 a w) = (if a = m then (if w = 10 then 0 else if a = m then (if w = 9 then 0 else if a = m then (if w = 8 then 0 else S.2.1 a w) else S.2.1 a w) else if a = m then (if w = 8 then 0 else S.2.1 a w) else S.2.1 a w) else if a = m then (if w = 9 then 0 else if a = m then (if w = 8 then 0 else S.2.1 a w) else S.2.1 a w) else if a = m then (if w = 8 then 0 else S.2.1 a w) else S.2.1 a w)
    by_cases ha : a = m
    · simp only [if_pos ha]
      by_cases h1 : w = 8
      · subst h1; rfl
      · by_cases h2 : w = 9
        · subst h2; rfl
        · by_cases h3 : w = 10
          · subst h3; rfl
          · rw [if_neg h1, if_neg h3, if_neg h2, if_neg h3, if_neg h2, if_neg h1]
    · simp only [if_neg ha]
  rw [← e]
  exact h.M8z hm (by rw [sM_at, if_neg (by omega), sM_at, if_pos rfl])
/-- models are the same if all parts are -/
theorem mS_ext {S S' : mS} (h1 : ∀ i, gG S i = gG S' i) (h2 : ∀ m w, gM S m w = gM S' m w) (h3 : ∀ m, gK S m = gK S' m) (h4 : ∀ m, gH S m = gH S' m) (h5 : gN S = gN S') : S = S' :=
  Prod.ext (funext h1) (Prod.ext (funext fun m => funext fun w => h2 m w) (Prod.ext (funext h3) (Prod.ext (funext h4) h5)))
theorem sM_g {S : mS} {m w x a j : Nat} : gM (sM S m w x) a j = if a = m then (if j = w then x else gM S a j) else gM S a j := rfl
/-- the club is that, the other nodes as before -/
def kPo (c : Nat) (v : vV) (b : Nat) (S : mS) : vV → Prop := fun v9 => CR c v9 b S ∧ vOw v v9 b 84

