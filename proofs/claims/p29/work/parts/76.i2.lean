
theorem mS0_w {m w : Nat} (hm : m < 6) : gM mS0 m w = if w = 3 then m else if w = 4 then 1 <<< m else 0 := by
  show (if w = 3 then (if m < 6 then m else 0) else if w = 4 then (if m < 6 then 1 <<< m else 0) else 0) = _
  rw [if_pos hm, if_pos hm]
theorem mS0_0 {m w : Nat} (h3 : w ≠ 3) (h4 : w ≠ 4) : gM mS0 m w = 0 := by
  show (if w = 3 then (if m < 6 then m else 0) else if w = 4 then (if m < 6 then 1 <<< m else 0) else 0) = _
  rw [if_neg h3, if_neg h4]
theorem MR_made {v : vV} {p m : Nat} (hm : m < 6) (h0 : v p 0 = nI m) (h4 : v p 4 = nI m) (h5 : v p 5 = nI (1 <<< m)) (hz : ∀ k, k ≠ 0 → k ≠ 4 → k ≠ 5 → v p k = nI 0) (ha : ∀ k, v (p + 1 + 1) k = nI 0 ∧ v (p + 1 + 2) k = nI 0 ∧ v (p + 1 + 3) k = nI 0) (hk : RP v (p + 5) []) (hh : RP v (p + 9) []) : MR v p m mS0 := by
  refine ⟨h0, fun w hw => ?_, fun h9 => absurd (mS0_0 (by decide) (by decide)) h9, ?_, ?_, ?_, fun k hk9 => ?_, hk, hh⟩
  · rw [mS0_w hm]
    by_cases e3 : w = 3
    · rw [if_pos e3, e3]; exact h4
    · by_cases e4 : w = 4
      · rw [if_neg e3, if_pos e4, e4]; exact h5
      · rw [if_neg e3, if_neg e4]; exact hz _ (by omega) (by omega) (by omega)
  · rw [mS0_0 (by decide) (by decide)]; exact hz _ (by decide) (by decide) (by decide)
  · rw [mS0_0 (by decide) (by decide)]; exact hz _ (by decide) (by decide) (by decide)
  · rw [mS0_0 (by decide) (by decide)]; exact hz _ (by decide) (by decide) (by decide)
  · rw [mS0_0 (by omega) (by omega), mS0_0 (by omega) (by omega), mS0_0 (by omega) (by omega)]; exact ha k
theorem mways0 : mways mS0 = 0 := by decide
theorem CR_made {v : vV} {b : Nat} (hb : ∀ k, v b k = nI 0) (h2 : ∀ k, v (b + 2) k = nI 0) (h3 : ∀ k, v (b + 3) k = nI 0) (hm : ∀ m, m < 6 → MR v (b + 6 + 13 * m) m mS0) : CR 0 v b mS0 :=
  ⟨⟨rfl, by decide⟩, ⟨hb 3, hb 4, hb 5, hb 6, hb 7, hb 8⟩, ⟨by rw [mways0]; exact h2 2, h2 3, h2 4⟩, fun a ha => h3 a, fun k x hk => by replace hk : ([] : List mN)[k]? = some x := hk; simp at hk, hm, NB0.b⟩
theorem HR_made {v : vV} {h : Nat} (h0 : ∀ k, v h k = nI 0) (hC : ∀ i, i < 14 → CR 0 v (h + 2 + 84 * i) mS0) : HR v h [] :=
  ⟨0, by decide, h0 1, h0 2, by decide, fun i hi => (hC i hi).cs, fun j Y hj => by simp at hj⟩
abbrev gT0 : gT := (((fun _ => 0), 0), (0, mS0), [], fun _ => none)
theorem GI0 : GI 100 gT0 := ⟨KC0, fun Y h => absurd h List.not_mem_nil, fun i Y h => absurd (show (none : Option mC) = some Y from h) (fun q => nomatch q)⟩
set_option maxHeartbeats 4000000 in
set_option maxRecDepth 100000 in
theorem c_X2_init {σ : vS} {v : vV} {p : Nat} {m : Nat} (hm : m < 6) (hc0 : σ.1 = p + 1) (hf0 : σ.2.2.2 = true) (hk0 : σ.2.1 (p) = (2, 0)) (hz0 : ∀ k, v (p) k = nI 0) (hp0 : p + 13 < 1000000) : vC M_X2_init yX2_init [.ref (p), .int (nI (m))] (σ, v) (kIn σ v p 13 (fun σ1 v1 => kLM σ1 p ∧ MR v1 p m mS0)) := by
  have hO0 : ∀ n, n < p → kAg σ v σ v n := fun _ _ => kAg.rf
  refine vC_of (ls := [some (.ref (p)), some (.int (nI (m)))]) pn_X2 rfl rfl (Nat.le_of_ble_eq_true rfl) rfl ?_
  refine A_bud (b2 := (12, 120)) (by decide) ?_
  refine P_aload_n dX2_init_0 rfl rfl ?_
  refine P_oinit dX2_init_1 lX2_3 (by decide) (by omega) ?_
  refine P_aload_n dX2_init_4 rfl rfl ?_
  refine A_newO (N := p + 1) hc0 hf0 (by omega) dX2_init_5 kX4 nX2_9 nnX4 niX4 ⟨by show 1 ≤ 12; omega, by show 4 ≤ 120; omega⟩ (fun σ1 v1 hc1 hf1 ha1 hk1 hz1 => ?_)
  replace hc1 : σ1.1 = p + 2 := by omega
  have f1 : σ1.2.1 (p) = (2, 0) := (ha1 (p) (by omega)).1.trans hk0
  have f2 : ∀ k, v1 (p) k = nI 0 := fun k => (congrFun (ha1 (p) (by omega)).2.2 k).trans (hz0 k)
  have f3 : ∀ n, n < p → kAg σ v σ1 v1 n := fun n h9 => (hO0 n h9).tr (ha1 (n) (by omega))
  refine A_bud (b2 := (11, 116)) ⟨by show 11 ≤ 12 - 1; omega, by show 116 ≤ 120 - 4; omega⟩ ?_
  refine P_dup dX2_init_8 rfl ?_
  refine P_bipush (v := nI 6) dX2_init_9 (by decide) ?_
  refine A_callI (p := p + 1) (w := 4) (rest := [.ref (p + 1), .ref (p)]) (As := [.int (nI (6))]) dX2_init_11 lX2_11 yk_X4_init yi_X4_init rfl rfl (by decide) rfl rfl (Nat.le_of_ble_eq_true rfl) ⟨by show 3 ≤ 11; omega, by show 36 ≤ 116; omega⟩ (by omega) hf1 (by omega) rfl (c_X4_init (l := 6) (by decide) (by omega) hf1 hk1 hz1 (by omega)) (fun σ2 v2 hc2 hf2 ha2 hk2 hy2 => ?_)
  replace hc2 : σ2.1 = p + 5 := by omega
  have f4 : σ2.2.1 (p) = (2, 0) := (ha2 (p) (by omega)).1.trans f1
  have f5 : ∀ k, v2 (p) k = nI 0 := fun k => (congrFun (ha2 (p) (by omega)).2.2 k).trans (f2 k)
  have f6 : ∀ n, n < p → kAg σ v σ2 v2 n := fun n h9 => (f3 n h9).tr (ha2 (n) (by omega))
  have f7 := hk2.trans hk1
  refine A_bud (b2 := (8, 80)) ⟨by show 8 ≤ 11 - 3; omega, by show 80 ≤ 116 - 36; omega⟩ ?_
  refine A_putr dX2_init_14 kX2 fX2_14 rfl (by decide) rfl rfl rfl ⟨⟨(by show p < σ2.1; omega), by omega⟩, f4⟩ (by omega) (fun σ3 hc3 hf3 hp3 hq3 hr3 hs3 => ?_)
  replace hc3 : σ3.1 = p + 5 := hc3.trans hc2
  replace hf3 : σ3.2.2.2 = true := hf3.trans hf2
  have f8 : σ3.2.1 (p) = (2, 0) := (congrFun hp3 _).trans f4
  have f9 : ∀ k, v2 (p) k = nI 0 := f5
  have f10 : ∀ n, n < p → kAg σ v σ3 v2 n := fun n h9 => (f6 n h9).tr (⟨congrFun hp3 (n), hq3 (n) (by omega), rfl⟩ : kAg σ2 v2 σ3 v2 (n))
  have f11 : σ3.2.1 (p + 1) = (4, 0) := (congrFun hp3 _).trans f7
  have f12 : kLP σ3 (p + 1) 6 := hy2.1.up (by omega) (fun n g1 g2 => (⟨congrFun hp3 (n), hq3 (n) (by omega), rfl⟩ : kAg σ2 v2 σ3 v2 (n)))
  have f13 : RP v2 (p + 1) [] := hy2.2.1.of ((⟨congrFun hp3 (p + 1), hq3 (p + 1) (by omega), rfl⟩ : kAg σ2 v2 σ3 v2 (p + 1))).2.2 ((⟨congrFun hp3 (p + 1 + 1), hq3 (p + 1 + 1) (by omega), rfl⟩ : kAg σ2 v2 σ3 v2 (p + 1 + 1))).2.2 ((⟨congrFun hp3 (p + 1 + 2), hq3 (p + 1 + 2) (by omega), rfl⟩ : kAg σ2 v2 σ3 v2 (p + 1 + 2))).2.2 ((⟨congrFun hp3 (p + 1 + 3), hq3 (p + 1 + 3) (by omega), rfl⟩ : kAg σ2 v2 σ3 v2 (p + 1 + 3))).2.2
  have f14 : ∀ k, v2 (p + 1 + 1) k = nI 0 := hy2.2.2.1
  have f15 : ∀ k, v2 (p + 1 + 2) k = nI 0 := hy2.2.2.2.1
  have f16 : ∀ k, v2 (p + 1 + 3) k = nI 0 := hy2.2.2.2.2
  refine P_aload_n dX2_init_17 rfl rfl ?_
  refine A_newO (N := p + 5) hc3 hf3 (by omega) dX2_init_18 kX4 nX2_9 nnX4 niX4 ⟨by show 1 ≤ 8; omega, by show 4 ≤ 80; omega⟩ (fun σ4 v4 hc4 hf4 ha4 hk4 hz4 => ?_)
  replace hc4 : σ4.1 = p + 6 := by omega
  have f17 : σ4.2.1 (p) = (2, 0) := (ha4 (p) (by omega)).1.trans f8
  have f18 : ∀ k, v4 (p) k = nI 0 := fun k => (congrFun (ha4 (p) (by omega)).2.2 k).trans (f9 k)
  have f19 : ∀ n, n < p → kAg σ v σ4 v4 n := fun n h9 => (f10 n h9).tr (ha4 (n) (by omega))
  have f20 : σ4.2.1 (p + 1) = (4, 0) := (ha4 (p + 1) (by omega)).1.trans f11
  have f21 : kLP σ4 (p + 1) 6 := f12.up (by omega) (fun n g1 g2 => ha4 (n) (by omega))
  have f22 : RP v4 (p + 1) [] := f13.of (ha4 (p + 1) (by omega)).2.2 (ha4 (p + 1 + 1) (by omega)).2.2 (ha4 (p + 1 + 2) (by omega)).2.2 (ha4 (p + 1 + 3) (by omega)).2.2
  have f23 : ∀ k, v4 (p + 1 + 1) k = nI 0 := fun k => (congrFun (ha4 (p + 1 + 1) (by omega)).2.2 k).trans (f14 k)
  have f24 : ∀ k, v4 (p + 1 + 2) k = nI 0 := fun k => (congrFun (ha4 (p + 1 + 2) (by omega)).2.2 k).trans (f15 k)
  have f25 : ∀ k, v4 (p + 1 + 3) k = nI 0 := fun k => (congrFun (ha4 (p + 1 + 3) (by omega)).2.2 k).trans (f16 k)
  have f26 : σ4.2.2.1 (p) 13 = some (p + 1) := (congrFun (ha4 (p) (by omega)).2.1 _).trans hs3
  refine A_bud (b2 := (7, 76)) ⟨by show 7 ≤ 8 - 1; omega, by show 76 ≤ 80 - 4; omega⟩ ?_
  refine P_dup dX2_init_21 rfl ?_
  refine P_bipush (v := nI 12) dX2_init_22 (by decide) ?_
  refine A_callI (p := p + 5) (w := 4) (rest := [.ref (p + 5), .ref (p)]) (As := [.int (nI (12))]) dX2_init_24 lX2_11 yk_X4_init yi_X4_init rfl rfl (by decide) rfl rfl (Nat.le_of_ble_eq_true rfl) ⟨by show 3 ≤ 7; omega, by show 36 ≤ 76; omega⟩ (by omega) hf4 (by omega) rfl (c_X4_init (l := 12) (by decide) (by omega) hf4 hk4 hz4 (by omega)) (fun σ5 v5 hc5 hf5 ha5 hk5 hy5 => ?_)
  replace hc5 : σ5.1 = p + 9 := by omega
  have f27 : σ5.2.1 (p) = (2, 0) := (ha5 (p) (by omega)).1.trans f17
  have f28 : ∀ k, v5 (p) k = nI 0 := fun k => (congrFun (ha5 (p) (by omega)).2.2 k).trans (f18 k)
  have f29 : ∀ n, n < p → kAg σ v σ5 v5 n := fun n h9 => (f19 n h9).tr (ha5 (n) (by omega))
  have f30 : σ5.2.1 (p + 1) = (4, 0) := (ha5 (p + 1) (by omega)).1.trans f20
  have f31 : kLP σ5 (p + 1) 6 := f21.up (by omega) (fun n g1 g2 => ha5 (n) (by omega))
  have f32 : RP v5 (p + 1) [] := f22.of (ha5 (p + 1) (by omega)).2.2 (ha5 (p + 1 + 1) (by omega)).2.2 (ha5 (p + 1 + 2) (by omega)).2.2 (ha5 (p + 1 + 3) (by omega)).2.2
  have f33 : ∀ k, v5 (p + 1 + 1) k = nI 0 := fun k => (congrFun (ha5 (p + 1 + 1) (by omega)).2.2 k).trans (f23 k)
  have f34 : ∀ k, v5 (p + 1 + 2) k = nI 0 := fun k => (congrFun (ha5 (p + 1 + 2) (by omega)).2.2 k).trans (f24 k)
  have f35 : ∀ k, v5 (p + 1 + 3) k = nI 0 := fun k => (congrFun (ha5 (p + 1 + 3) (by omega)).2.2 k).trans (f25 k)
  have f36 : σ5.2.2.1 (p) 13 = some (p + 1) := (congrFun (ha5 (p) (by omega)).2.1 _).trans f26
  have f37 := hk5.trans hk4
  refine A_bud (b2 := (4, 40)) ⟨by show 4 ≤ 7 - 3; omega, by show 40 ≤ 76 - 36; omega⟩ ?_
  refine A_putr dX2_init_27 kX2 fX2_20 rfl (by decide) rfl rfl rfl ⟨⟨(by show p < σ5.1; omega), by omega⟩, f27⟩ (by omega) (fun σ6 hc6 hf6 hp6 hq6 hr6 hs6 => ?_)
  replace hc6 : σ6.1 = p + 9 := hc6.trans hc5
  replace hf6 : σ6.2.2.2 = true := hf6.trans hf5
  have f38 : σ6.2.1 (p) = (2, 0) := (congrFun hp6 _).trans f27
  have f39 : ∀ k, v5 (p) k = nI 0 := f28
  have f40 : ∀ n, n < p → kAg σ v σ6 v5 n := fun n h9 => (f29 n h9).tr (⟨congrFun hp6 (n), hq6 (n) (by omega), rfl⟩ : kAg σ5 v5 σ6 v5 (n))
  have f41 : σ6.2.1 (p + 1) = (4, 0) := (congrFun hp6 _).trans f30
  have f42 : kLP σ6 (p + 1) 6 := f31.up (by omega) (fun n g1 g2 => (⟨congrFun hp6 (n), hq6 (n) (by omega), rfl⟩ : kAg σ5 v5 σ6 v5 (n)))
  have f43 : RP v5 (p + 1) [] := f32.of ((⟨congrFun hp6 (p + 1), hq6 (p + 1) (by omega), rfl⟩ : kAg σ5 v5 σ6 v5 (p + 1))).2.2 ((⟨congrFun hp6 (p + 1 + 1), hq6 (p + 1 + 1) (by omega), rfl⟩ : kAg σ5 v5 σ6 v5 (p + 1 + 1))).2.2 ((⟨congrFun hp6 (p + 1 + 2), hq6 (p + 1 + 2) (by omega), rfl⟩ : kAg σ5 v5 σ6 v5 (p + 1 + 2))).2.2 ((⟨congrFun hp6 (p + 1 + 3), hq6 (p + 1 + 3) (by omega), rfl⟩ : kAg σ5 v5 σ6 v5 (p + 1 + 3))).2.2
  have f44 : ∀ k, v5 (p + 1 + 1) k = nI 0 := f33
  have f45 : ∀ k, v5 (p + 1 + 2) k = nI 0 := f34
  have f46 : ∀ k, v5 (p + 1 + 3) k = nI 0 := f35
  have f47 : σ6.2.2.1 (p) 13 = some (p + 1) := (hr6 _ (by decide)).trans f36
  have f48 : σ6.2.1 (p + 5) = (4, 0) := (congrFun hp6 _).trans f37
  have f49 : kLP σ6 (p + 5) 12 := hy5.1.up (by omega) (fun n g1 g2 => (⟨congrFun hp6 (n), hq6 (n) (by omega), rfl⟩ : kAg σ5 v5 σ6 v5 (n)))
  have f50 : RP v5 (p + 5) [] := hy5.2.1.of ((⟨congrFun hp6 (p + 5), hq6 (p + 5) (by omega), rfl⟩ : kAg σ5 v5 σ6 v5 (p + 5))).2.2 ((⟨congrFun hp6 (p + 5 + 1), hq6 (p + 5 + 1) (by omega), rfl⟩ : kAg σ5 v5 σ6 v5 (p + 5 + 1))).2.2 ((⟨congrFun hp6 (p + 5 + 2), hq6 (p + 5 + 2) (by omega), rfl⟩ : kAg σ5 v5 σ6 v5 (p + 5 + 2))).2.2 ((⟨congrFun hp6 (p + 5 + 3), hq6 (p + 5 + 3) (by omega), rfl⟩ : kAg σ5 v5 σ6 v5 (p + 5 + 3))).2.2
  have f51 : ∀ k, v5 (p + 5 + 1) k = nI 0 := hy5.2.2.1
  have f52 : ∀ k, v5 (p + 5 + 2) k = nI 0 := hy5.2.2.2.1
  have f53 : ∀ k, v5 (p + 5 + 3) k = nI 0 := hy5.2.2.2.2
  refine P_aload_n dX2_init_30 rfl rfl ?_
  refine A_newO (N := p + 9) hc6 hf6 (by omega) dX2_init_31 kX4 nX2_9 nnX4 niX4 ⟨by show 1 ≤ 4; omega, by show 4 ≤ 40; omega⟩ (fun σ7 v7 hc7 hf7 ha7 hk7 hz7 => ?_)
  replace hc7 : σ7.1 = p + 10 := by omega
  have f54 : σ7.2.1 (p) = (2, 0) := (ha7 (p) (by omega)).1.trans f38
  have f55 : ∀ k, v7 (p) k = nI 0 := fun k => (congrFun (ha7 (p) (by omega)).2.2 k).trans (f39 k)
  have f56 : ∀ n, n < p → kAg σ v σ7 v7 n := fun n h9 => (f40 n h9).tr (ha7 (n) (by omega))
  have f57 : σ7.2.1 (p + 1) = (4, 0) := (ha7 (p + 1) (by omega)).1.trans f41
  have f58 : kLP σ7 (p + 1) 6 := f42.up (by omega) (fun n g1 g2 => ha7 (n) (by omega))
  have f59 : RP v7 (p + 1) [] := f43.of (ha7 (p + 1) (by omega)).2.2 (ha7 (p + 1 + 1) (by omega)).2.2 (ha7 (p + 1 + 2) (by omega)).2.2 (ha7 (p + 1 + 3) (by omega)).2.2
  have f60 : ∀ k, v7 (p + 1 + 1) k = nI 0 := fun k => (congrFun (ha7 (p + 1 + 1) (by omega)).2.2 k).trans (f44 k)
  have f61 : ∀ k, v7 (p + 1 + 2) k = nI 0 := fun k => (congrFun (ha7 (p + 1 + 2) (by omega)).2.2 k).trans (f45 k)
  have f62 : ∀ k, v7 (p + 1 + 3) k = nI 0 := fun k => (congrFun (ha7 (p + 1 + 3) (by omega)).2.2 k).trans (f46 k)
  have f63 : σ7.2.2.1 (p) 13 = some (p + 1) := (congrFun (ha7 (p) (by omega)).2.1 _).trans f47
  have f64 : σ7.2.1 (p + 5) = (4, 0) := (ha7 (p + 5) (by omega)).1.trans f48
  have f65 : kLP σ7 (p + 5) 12 := f49.up (by omega) (fun n g1 g2 => ha7 (n) (by omega))
  have f66 : RP v7 (p + 5) [] := f50.of (ha7 (p + 5) (by omega)).2.2 (ha7 (p + 5 + 1) (by omega)).2.2 (ha7 (p + 5 + 2) (by omega)).2.2 (ha7 (p + 5 + 3) (by omega)).2.2
  have f67 : ∀ k, v7 (p + 5 + 1) k = nI 0 := fun k => (congrFun (ha7 (p + 5 + 1) (by omega)).2.2 k).trans (f51 k)
  have f68 : ∀ k, v7 (p + 5 + 2) k = nI 0 := fun k => (congrFun (ha7 (p + 5 + 2) (by omega)).2.2 k).trans (f52 k)
  have f69 : ∀ k, v7 (p + 5 + 3) k = nI 0 := fun k => (congrFun (ha7 (p + 5 + 3) (by omega)).2.2 k).trans (f53 k)
  have f70 : σ7.2.2.1 (p) 14 = some (p + 5) := (congrFun (ha7 (p) (by omega)).2.1 _).trans hs6
  refine A_bud (b2 := (3, 36)) ⟨by show 3 ≤ 4 - 1; omega, by show 36 ≤ 40 - 4; omega⟩ ?_
  refine P_dup dX2_init_34 rfl ?_
  refine P_iconst (v := nI 5) dX2_init_35 (by decide) ?_
  refine A_callI (p := p + 9) (w := 4) (rest := [.ref (p + 9), .ref (p)]) (As := [.int (nI (5))]) dX2_init_36 lX2_11 yk_X4_init yi_X4_init rfl rfl (by decide) rfl rfl (Nat.le_of_ble_eq_true rfl) ⟨by show 3 ≤ 3; omega, by show 36 ≤ 36; omega⟩ (by omega) hf7 (by omega) rfl (c_X4_init (l := 5) (by decide) (by omega) hf7 hk7 hz7 (by omega)) (fun σ8 v8 hc8 hf8 ha8 hk8 hy8 => ?_)
  replace hc8 : σ8.1 = p + 13 := by omega
  have f71 : σ8.2.1 (p) = (2, 0) := (ha8 (p) (by omega)).1.trans f54
  have f72 : ∀ k, v8 (p) k = nI 0 := fun k => (congrFun (ha8 (p) (by omega)).2.2 k).trans (f55 k)
  have f73 : ∀ n, n < p → kAg σ v σ8 v8 n := fun n h9 => (f56 n h9).tr (ha8 (n) (by omega))
  have f74 : σ8.2.1 (p + 1) = (4, 0) := (ha8 (p + 1) (by omega)).1.trans f57
  have f75 : kLP σ8 (p + 1) 6 := f58.up (by omega) (fun n g1 g2 => ha8 (n) (by omega))
  have f76 : RP v8 (p + 1) [] := f59.of (ha8 (p + 1) (by omega)).2.2 (ha8 (p + 1 + 1) (by omega)).2.2 (ha8 (p + 1 + 2) (by omega)).2.2 (ha8 (p + 1 + 3) (by omega)).2.2
  have f77 : ∀ k, v8 (p + 1 + 1) k = nI 0 := fun k => (congrFun (ha8 (p + 1 + 1) (by omega)).2.2 k).trans (f60 k)
  have f78 : ∀ k, v8 (p + 1 + 2) k = nI 0 := fun k => (congrFun (ha8 (p + 1 + 2) (by omega)).2.2 k).trans (f61 k)
  have f79 : ∀ k, v8 (p + 1 + 3) k = nI 0 := fun k => (congrFun (ha8 (p + 1 + 3) (by omega)).2.2 k).trans (f62 k)
  have f80 : σ8.2.2.1 (p) 13 = some (p + 1) := (congrFun (ha8 (p) (by omega)).2.1 _).trans f63
  have f81 : σ8.2.1 (p + 5) = (4, 0) := (ha8 (p + 5) (by omega)).1.trans f64
  have f82 : kLP σ8 (p + 5) 12 := f65.up (by omega) (fun n g1 g2 => ha8 (n) (by omega))
  have f83 : RP v8 (p + 5) [] := f66.of (ha8 (p + 5) (by omega)).2.2 (ha8 (p + 5 + 1) (by omega)).2.2 (ha8 (p + 5 + 2) (by omega)).2.2 (ha8 (p + 5 + 3) (by omega)).2.2
  have f84 : ∀ k, v8 (p + 5 + 1) k = nI 0 := fun k => (congrFun (ha8 (p + 5 + 1) (by omega)).2.2 k).trans (f67 k)
  have f85 : ∀ k, v8 (p + 5 + 2) k = nI 0 := fun k => (congrFun (ha8 (p + 5 + 2) (by omega)).2.2 k).trans (f68 k)
  have f86 : ∀ k, v8 (p + 5 + 3) k = nI 0 := fun k => (congrFun (ha8 (p + 5 + 3) (by omega)).2.2 k).trans (f69 k)
  have f87 : σ8.2.2.1 (p) 14 = some (p + 5) := (congrFun (ha8 (p) (by omega)).2.1 _).trans f70
  have f88 := hk8.trans hk7
  refine A_bud (b2 := (0, 0)) ⟨by show 0 ≤ 3 - 3; omega, by show 0 ≤ 36 - 36; omega⟩ ?_
  refine A_putr dX2_init_39 kX2 fX2_23 rfl (by decide) rfl rfl rfl ⟨⟨(by show p < σ8.1; omega), by omega⟩, f71⟩ (by omega) (fun σ9 hc9 hf9 hp9 hq9 hr9 hs9 => ?_)
  replace hc9 : σ9.1 = p + 13 := hc9.trans hc8
  replace hf9 : σ9.2.2.2 = true := hf9.trans hf8
  have f89 : σ9.2.1 (p) = (2, 0) := (congrFun hp9 _).trans f71
  have f90 : ∀ k, v8 (p) k = nI 0 := f72
  have f91 : ∀ n, n < p → kAg σ v σ9 v8 n := fun n h9 => (f73 n h9).tr (⟨congrFun hp9 (n), hq9 (n) (by omega), rfl⟩ : kAg σ8 v8 σ9 v8 (n))
  have f92 : σ9.2.1 (p + 1) = (4, 0) := (congrFun hp9 _).trans f74
  have f93 : kLP σ9 (p + 1) 6 := f75.up (by omega) (fun n g1 g2 => (⟨congrFun hp9 (n), hq9 (n) (by omega), rfl⟩ : kAg σ8 v8 σ9 v8 (n)))
  have f94 : RP v8 (p + 1) [] := f76.of ((⟨congrFun hp9 (p + 1), hq9 (p + 1) (by omega), rfl⟩ : kAg σ8 v8 σ9 v8 (p + 1))).2.2 ((⟨congrFun hp9 (p + 1 + 1), hq9 (p + 1 + 1) (by omega), rfl⟩ : kAg σ8 v8 σ9 v8 (p + 1 + 1))).2.2 ((⟨congrFun hp9 (p + 1 + 2), hq9 (p + 1 + 2) (by omega), rfl⟩ : kAg σ8 v8 σ9 v8 (p + 1 + 2))).2.2 ((⟨congrFun hp9 (p + 1 + 3), hq9 (p + 1 + 3) (by omega), rfl⟩ : kAg σ8 v8 σ9 v8 (p + 1 + 3))).2.2
  have f95 : ∀ k, v8 (p + 1 + 1) k = nI 0 := f77
  have f96 : ∀ k, v8 (p + 1 + 2) k = nI 0 := f78
  have f97 : ∀ k, v8 (p + 1 + 3) k = nI 0 := f79
  have f98 : σ9.2.2.1 (p) 13 = some (p + 1) := (hr9 _ (by decide)).trans f80
  have f99 : σ9.2.1 (p + 5) = (4, 0) := (congrFun hp9 _).trans f81
  have f100 : kLP σ9 (p + 5) 12 := f82.up (by omega) (fun n g1 g2 => (⟨congrFun hp9 (n), hq9 (n) (by omega), rfl⟩ : kAg σ8 v8 σ9 v8 (n)))
  have f101 : RP v8 (p + 5) [] := f83.of ((⟨congrFun hp9 (p + 5), hq9 (p + 5) (by omega), rfl⟩ : kAg σ8 v8 σ9 v8 (p + 5))).2.2 ((⟨congrFun hp9 (p + 5 + 1), hq9 (p + 5 + 1) (by omega), rfl⟩ : kAg σ8 v8 σ9 v8 (p + 5 + 1))).2.2 ((⟨congrFun hp9 (p + 5 + 2), hq9 (p + 5 + 2) (by omega), rfl⟩ : kAg σ8 v8 σ9 v8 (p + 5 + 2))).2.2 ((⟨congrFun hp9 (p + 5 + 3), hq9 (p + 5 + 3) (by omega), rfl⟩ : kAg σ8 v8 σ9 v8 (p + 5 + 3))).2.2
  have f102 : ∀ k, v8 (p + 5 + 1) k = nI 0 := f84
  have f103 : ∀ k, v8 (p + 5 + 2) k = nI 0 := f85
  have f104 : ∀ k, v8 (p + 5 + 3) k = nI 0 := f86
  have f105 : σ9.2.2.1 (p) 14 = some (p + 5) := (hr9 _ (by decide)).trans f87
  have f106 : σ9.2.1 (p + 9) = (4, 0) := (congrFun hp9 _).trans f88
  have f107 : kLP σ9 (p + 9) 5 := hy8.1.up (by omega) (fun n g1 g2 => (⟨congrFun hp9 (n), hq9 (n) (by omega), rfl⟩ : kAg σ8 v8 σ9 v8 (n)))
  have f108 : RP v8 (p + 9) [] := hy8.2.1.of ((⟨congrFun hp9 (p + 9), hq9 (p + 9) (by omega), rfl⟩ : kAg σ8 v8 σ9 v8 (p + 9))).2.2 ((⟨congrFun hp9 (p + 9 + 1), hq9 (p + 9 + 1) (by omega), rfl⟩ : kAg σ8 v8 σ9 v8 (p + 9 + 1))).2.2 ((⟨congrFun hp9 (p + 9 + 2), hq9 (p + 9 + 2) (by omega), rfl⟩ : kAg σ8 v8 σ9 v8 (p + 9 + 2))).2.2 ((⟨congrFun hp9 (p + 9 + 3), hq9 (p + 9 + 3) (by omega), rfl⟩ : kAg σ8 v8 σ9 v8 (p + 9 + 3))).2.2
  have f109 : ∀ k, v8 (p + 9 + 1) k = nI 0 := hy8.2.2.1
  have f110 : ∀ k, v8 (p + 9 + 2) k = nI 0 := hy8.2.2.2.1
  have f111 : ∀ k, v8 (p + 9 + 3) k = nI 0 := hy8.2.2.2.2
  refine P_aload_n dX2_init_42 rfl rfl ?_
  refine P_iload_n dX2_init_43 rfl rfl ?_
  refine P_putiF dX2_init_44 kX2 fX2_26 rfl (by decide) rfl rfl rfl ⟨⟨(by show p < σ9.1; omega), by omega⟩, f89⟩ ?_
  refine P_aload_n dX2_init_47 rfl rfl ?_
  refine P_iload_n dX2_init_48 rfl rfl ?_
  refine P_puti dX2_init_49 kX2 fX2_30 rfl (by decide) rfl ⟨⟨(by show p < σ9.1; omega), by omega⟩, f89⟩ ?_
  refine P_aload_n dX2_init_52 rfl rfl ?_
  refine P_iconst (v := nI 1) dX2_init_53 (by decide) ?_
  refine P_iload_n dX2_init_54 rfl rfl ?_
  refine P_ishlN dX2_init_55 (by omega) ?_
  refine P_puti dX2_init_56 kX2 fX2_33 rfl (by decide) rfl ⟨⟨(by show p < σ9.1; omega), by omega⟩, f89⟩ ?_
  refine P_vret dX2_init_59 rfl ?_
  have hu : ∀ n, n ≠ p → (vU (vU (vU v8 p 0 (nI (m))) p 4 (nI (m))) p 5 (nI (1 <<< m))) n = v8 n := fun n h9 => by rw [vU_ne h9, vU_ne h9, vU_ne h9]
  refine ⟨rfl, σ9, (vU (vU (vU v8 p 0 (nI (m))) p 4 (nI (m))) p 5 (nI (1 <<< m))), rfl, hc9, hf9, fun n h9 => (f91 n h9).tr ⟨rfl, rfl, hu n (by omega)⟩, f89.trans hk0.symm, ⟨⟨⟨by omega, by omega⟩, f89⟩, f93, f100, f107, f98, f105, hs9⟩, MR_made hm ?_ ?_ ?_ (fun k g1 g2 g3 => ?_) (fun k => ?_) ?_ ?_⟩
  · rw [vU_o (by omega), vU_o (by omega), vU_s]
  · rw [vU_o (by omega), vU_s]
  · rw [vU_s]
  · rw [vU_o (by omega), vU_o (by omega), vU_o (by omega)]; exact f90 k
  · rw [hu _ (by omega), hu _ (by omega), hu _ (by omega)]; exact ⟨f95 k, f96 k, f97 k⟩
  · exact f101.of (hu _ (by omega)) (hu _ (by omega)) (hu _ (by omega)) (hu _ (by omega))
  · exact f108.of (hu _ (by omega)) (hu _ (by omega)) (hu _ (by omega)) (hu _ (by omega))
set_option maxHeartbeats 4000000 in
set_option maxRecDepth 100000 in
theorem c_X0_init {σ : vS} {v : vV} {b : Nat} (hc0 : σ.1 = b + 1) (hf0 : σ.2.2.2 = true) (hk0 : σ.2.1 (b) = (0, 0)) (hz0 : ∀ k, v (b) k = nI 0) (hp0 : b + 84 < 1000000) : vC M_X0_init yX0_init [.ref (b)] (σ, v) (kIn σ v b 84 (fun σ1 v1 => kLC σ1 b ∧ CR 0 v1 b mS0)) := by
  have hO0 : ∀ n, n < b → kAg σ v σ v n := fun _ _ => kAg.rf
  refine vC_of (ls := [some (.ref (b)), none]) pn_X0 rfl rfl (Nat.le_of_ble_eq_true rfl) rfl ?_
  refine A_bud (b2 := (83, 2192)) (by decide) ?_
  refine P_aload_n dX0_init_0 rfl rfl ?_
  refine P_oinit dX0_init_1 lX0_3 (by decide) (by omega) ?_
  refine P_aload_n dX0_init_4 rfl rfl ?_
  refine P_bipush (v := nI 6) dX0_init_5 (by decide) ?_
  refine A_newQ (N := b + 1) (6) 11 hc0 hf0 (by omega) dX0_init_7 (Or.inr ⟨rfl, rfl⟩) nX0_9 wo_X2 rfl (by omega) ⟨by show 1 ≤ 83; omega, by show 6 ≤ 2192; omega⟩ (fun σ1 v1 hc1 hf1 ha1 hk1 hz1 => ?_)
  replace hc1 : σ1.1 = b + 2 := by omega
  have f1 : σ1.2.1 (b) = (0, 0) := (ha1 (b) (by omega)).1.trans hk0
  have f2 : ∀ k, v1 (b) k = nI 0 := fun k => (congrFun (ha1 (b) (by omega)).2.2 k).trans (hz0 k)
  have f3 : ∀ n, n < b → kAg σ v σ1 v1 n := fun n h9 => (hO0 n h9).tr (ha1 (n) (by omega))
  refine A_bud (b2 := (82, 2186)) ⟨by show 82 ≤ 83 - 1; omega, by show 2186 ≤ 2192 - 6; omega⟩ ?_
  refine A_putr dX0_init_10 kX0 fX0_11 rfl (by decide) rfl rfl rfl ⟨⟨(by show b < σ1.1; omega), by omega⟩, f1⟩ (by omega) (fun σ2 hc2 hf2 hp2 hq2 hr2 hs2 => ?_)
  replace hc2 : σ2.1 = b + 2 := hc2.trans hc1
  replace hf2 : σ2.2.2.2 = true := hf2.trans hf1
  have f4 : σ2.2.1 (b) = (0, 0) := (congrFun hp2 _).trans f1
  have f5 : ∀ k, v1 (b) k = nI 0 := f2
  have f6 : ∀ n, n < b → kAg σ v σ2 v1 n := fun n h9 => (f3 n h9).tr (⟨congrFun hp2 (n), hq2 (n) (by omega), rfl⟩ : kAg σ1 v1 σ2 v1 (n))
  have f7 : σ2.2.1 (b + 1) = (11, 6) := (congrFun hp2 _).trans hk1
  have f8 : ∀ k, v1 (b + 1) k = nI 0 := hz1
  refine P_aload_n dX0_init_13 rfl rfl ?_
  refine A_newO (N := b + 2) hc2 hf2 (by omega) dX0_init_14 kX3 nX0_17 nnX3 niX3 ⟨by show 1 ≤ 82; omega, by show 5 ≤ 2186; omega⟩ (fun σ3 v3 hc3 hf3 ha3 hk3 hz3 => ?_)
  replace hc3 : σ3.1 = b + 3 := by omega
  have f9 : σ3.2.1 (b) = (0, 0) := (ha3 (b) (by omega)).1.trans f4
  have f10 : ∀ k, v3 (b) k = nI 0 := fun k => (congrFun (ha3 (b) (by omega)).2.2 k).trans (f5 k)
  have f11 : ∀ n, n < b → kAg σ v σ3 v3 n := fun n h9 => (f6 n h9).tr (ha3 (n) (by omega))
  have f12 : σ3.2.1 (b + 1) = (11, 6) := (ha3 (b + 1) (by omega)).1.trans f7
  have f13 : ∀ k, v3 (b + 1) k = nI 0 := fun k => (congrFun (ha3 (b + 1) (by omega)).2.2 k).trans (f8 k)
  have f14 : σ3.2.2.1 (b) 0 = some (b + 1) := (congrFun (ha3 (b) (by omega)).2.1 _).trans hs2
  refine A_bud (b2 := (81, 2181)) ⟨by show 81 ≤ 82 - 1; omega, by show 2181 ≤ 2186 - 5; omega⟩ ?_
  refine P_dup dX0_init_17 rfl ?_
  refine A_callIN (p := b + 2) (w := 3) (rest := [.ref (b + 2), .ref (b)]) (As := []) dX0_init_18 lnX0_19 yk_X3_init yi_X3_init rfl rfl (by decide) rfl rfl (Nat.le_of_ble_eq_true rfl) ⟨by show 2 ≤ 81; omega, by show 1356 ≤ 2181; omega⟩ (by omega) hf3 (by omega) rfl (c_X3_init (by omega) hf3 hk3 hz3 (by omega)) (fun σ4 v4 hc4 hf4 ha4 hk4 hy4 => ?_)
  replace hc4 : σ4.1 = b + 5 := by omega
  have f15 : σ4.2.1 (b) = (0, 0) := (ha4 (b) (by omega)).1.trans f9
  have f16 : ∀ k, v4 (b) k = nI 0 := fun k => (congrFun (ha4 (b) (by omega)).2.2 k).trans (f10 k)
  have f17 : ∀ n, n < b → kAg σ v σ4 v4 n := fun n h9 => (f11 n h9).tr (ha4 (n) (by omega))
  have f18 : σ4.2.1 (b + 1) = (11, 6) := (ha4 (b + 1) (by omega)).1.trans f12
  have f19 : ∀ k, v4 (b + 1) k = nI 0 := fun k => (congrFun (ha4 (b + 1) (by omega)).2.2 k).trans (f13 k)
  have f20 : σ4.2.2.1 (b) 0 = some (b + 1) := (congrFun (ha4 (b) (by omega)).2.1 _).trans f14
  have f21 := hk4.trans hk3
  refine A_bud (b2 := (79, 825)) ⟨by show 79 ≤ 81 - 2; omega, by show 825 ≤ 2181 - 1356; omega⟩ ?_
  refine A_putr dX0_init_21 kX0 fX0_20 rfl (by decide) rfl rfl rfl ⟨⟨(by show b < σ4.1; omega), by omega⟩, f15⟩ (by omega) (fun σ5 hc5 hf5 hp5 hq5 hr5 hs5 => ?_)
  replace hc5 : σ5.1 = b + 5 := hc5.trans hc4
  replace hf5 : σ5.2.2.2 = true := hf5.trans hf4
  have f22 : σ5.2.1 (b) = (0, 0) := (congrFun hp5 _).trans f15
  have f23 : ∀ k, v4 (b) k = nI 0 := f16
  have f24 : ∀ n, n < b → kAg σ v σ5 v4 n := fun n h9 => (f17 n h9).tr (⟨congrFun hp5 (n), hq5 (n) (by omega), rfl⟩ : kAg σ4 v4 σ5 v4 (n))
  have f25 : σ5.2.1 (b + 1) = (11, 6) := (congrFun hp5 _).trans f18
  have f26 : ∀ k, v4 (b + 1) k = nI 0 := f19
  have f27 : σ5.2.2.1 (b) 0 = some (b + 1) := (hr5 _ (by decide)).trans f20
  have f28 : σ5.2.1 (b + 2) = (3, 0) := (congrFun hp5 _).trans f21
  have f29 : σ5.2.1 (b + 2 + 1) = (8, 6) := (congrFun hp5 _).trans hy4.1.2.1.2
  have f30 : σ5.2.1 (b + 2 + 2) = (8, 1350) := (congrFun hp5 _).trans hy4.1.2.2.1.2
  have f31 : σ5.2.2.1 (b + 2) 0 = some (b + 2 + 1) := (congrFun (hq5 _ (by omega)) _).trans hy4.1.2.2.2.1
  have f32 : σ5.2.2.1 (b + 2) 1 = some (b + 2 + 2) := (congrFun (hq5 _ (by omega)) _).trans hy4.1.2.2.2.2
  have f33 : ∀ k, v4 (b + 2) k = nI 0 := hy4.2.1
  have f34 : ∀ k, v4 (b + 2 + 1) k = nI 0 := hy4.2.2
  refine P_aload_n dX0_init_24 rfl rfl ?_
  refine P_bipush (v := nI 9) dX0_init_25 (by decide) ?_
  refine A_newA (N := b + 5) (9) 8 hc5 hf5 (by omega) dX0_init_27 (Or.inl ⟨rfl, rfl⟩) wa_int rfl (by omega) ⟨by show 1 ≤ 79; omega, by show 9 ≤ 825; omega⟩ (fun σ6 v6 hc6 hf6 ha6 hk6 hz6 => ?_)
  replace hc6 : σ6.1 = b + 6 := by omega
  have f35 : σ6.2.1 (b) = (0, 0) := (ha6 (b) (by omega)).1.trans f22
  have f36 : ∀ k, v6 (b) k = nI 0 := fun k => (congrFun (ha6 (b) (by omega)).2.2 k).trans (f23 k)
  have f37 : ∀ n, n < b → kAg σ v σ6 v6 n := fun n h9 => (f24 n h9).tr (ha6 (n) (by omega))
  have f38 : σ6.2.1 (b + 1) = (11, 6) := (ha6 (b + 1) (by omega)).1.trans f25
  have f39 : ∀ k, v6 (b + 1) k = nI 0 := fun k => (congrFun (ha6 (b + 1) (by omega)).2.2 k).trans (f26 k)
  have f40 : σ6.2.2.1 (b) 0 = some (b + 1) := (congrFun (ha6 (b) (by omega)).2.1 _).trans f27
  have f41 : σ6.2.1 (b + 2) = (3, 0) := (ha6 (b + 2) (by omega)).1.trans f28
  have f42 : σ6.2.1 (b + 2 + 1) = (8, 6) := (ha6 (b + 2 + 1) (by omega)).1.trans f29
  have f43 : σ6.2.1 (b + 2 + 2) = (8, 1350) := (ha6 (b + 2 + 2) (by omega)).1.trans f30
  have f44 : σ6.2.2.1 (b + 2) 0 = some (b + 2 + 1) := (congrFun (ha6 (b + 2) (by omega)).2.1 _).trans f31
  have f45 : σ6.2.2.1 (b + 2) 1 = some (b + 2 + 2) := (congrFun (ha6 (b + 2) (by omega)).2.1 _).trans f32
  have f46 : ∀ k, v6 (b + 2) k = nI 0 := fun k => (congrFun (ha6 (b + 2) (by omega)).2.2 k).trans (f33 k)
  have f47 : ∀ k, v6 (b + 2 + 1) k = nI 0 := fun k => (congrFun (ha6 (b + 2 + 1) (by omega)).2.2 k).trans (f34 k)
  have f48 : σ6.2.2.1 (b) 1 = some (b + 2) := (congrFun (ha6 (b) (by omega)).2.1 _).trans hs5
  refine A_bud (b2 := (78, 816)) ⟨by show 78 ≤ 79 - 1; omega, by show 816 ≤ 825 - 9; omega⟩ ?_
  refine A_putr dX0_init_29 kX0 fX0_24 rfl (by decide) rfl rfl rfl ⟨⟨(by show b < σ6.1; omega), by omega⟩, f35⟩ (by omega) (fun σ7 hc7 hf7 hp7 hq7 hr7 hs7 => ?_)
  replace hc7 : σ7.1 = b + 6 := hc7.trans hc6
  replace hf7 : σ7.2.2.2 = true := hf7.trans hf6
  have f49 : σ7.2.1 (b) = (0, 0) := (congrFun hp7 _).trans f35
  have f50 : ∀ k, v6 (b) k = nI 0 := f36
  have f51 : ∀ n, n < b → kAg σ v σ7 v6 n := fun n h9 => (f37 n h9).tr (⟨congrFun hp7 (n), hq7 (n) (by omega), rfl⟩ : kAg σ6 v6 σ7 v6 (n))
  have f52 : σ7.2.1 (b + 1) = (11, 6) := (congrFun hp7 _).trans f38
  have f53 : ∀ k, v6 (b + 1) k = nI 0 := f39
  have f54 : σ7.2.2.1 (b) 0 = some (b + 1) := (hr7 _ (by decide)).trans f40
  have f55 : σ7.2.1 (b + 2) = (3, 0) := (congrFun hp7 _).trans f41
  have f56 : σ7.2.1 (b + 2 + 1) = (8, 6) := (congrFun hp7 _).trans f42
  have f57 : σ7.2.1 (b + 2 + 2) = (8, 1350) := (congrFun hp7 _).trans f43
  have f58 : σ7.2.2.1 (b + 2) 0 = some (b + 2 + 1) := (congrFun (hq7 _ (by omega)) _).trans f44
  have f59 : σ7.2.2.1 (b + 2) 1 = some (b + 2 + 2) := (congrFun (hq7 _ (by omega)) _).trans f45
  have f60 : ∀ k, v6 (b + 2) k = nI 0 := f46
  have f61 : ∀ k, v6 (b + 2 + 1) k = nI 0 := f47
  have f62 : σ7.2.2.1 (b) 1 = some (b + 2) := (hr7 _ (by decide)).trans f48
  have f63 : σ7.2.1 (b + 5) = (8, 9) := (congrFun hp7 _).trans hk6
  have f64 : ∀ k, v6 (b + 5) k = nI 0 := hz6
  refine P_iconst (v := nI 0) dX0_init_32 (by decide) ?_
  refine P_istore_n (ls2 := [some (.ref (b)), some (.int (nI (0)))]) dX0_init_33 rfl (by decide) rfl ?_
  have hL34 : ∀ (n34 : Nat) (k : Nat) (σ34h : vS) (v34h : vV), (k ≤ 6) → (k + n34 = 7) → (σ34h.1 = b + 6 + 13 * k) → (σ34h.2.2.2 = true) → (σ34h.2.1 (b) = (0, 0)) → (∀ k, v34h (b) k = nI 0) → (∀ n, n < b → kAg σ v σ34h v34h n) → (σ34h.2.1 (b + 1) = (11, 6)) → (∀ k, v34h (b + 1) k = nI 0) → (σ34h.2.2.1 (b) 0 = some (b + 1)) → (σ34h.2.1 (b + 2) = (3, 0)) → (σ34h.2.1 (b + 2 + 1) = (8, 6)) → (σ34h.2.1 (b + 2 + 2) = (8, 1350)) → (σ34h.2.2.1 (b + 2) 0 = some (b + 2 + 1)) → (σ34h.2.2.1 (b + 2) 1 = some (b + 2 + 2)) → (∀ k, v34h (b + 2) k = nI 0) → (∀ k, v34h (b + 2 + 1) k = nI 0) → (σ34h.2.2.1 (b) 1 = some (b + 2)) → (σ34h.2.1 (b + 5) = (8, 9)) → (∀ k, v34h (b + 5) k = nI 0) → (σ34h.2.2.1 (b) 2 = some (b + 5)) → (∀ m, m < k → σ34h.2.2.1 (b + 1) m = some (b + 6 + 13 * m) ∧ kLM σ34h (b + 6 + 13 * m) ∧ MR v34h (b + 6 + 13 * m) m mS0) → vP M_X0_init 34 [some (.ref (b)), some (.int (nI (k)))] [] (78 - 13 * k, 816 - 136 * k) (σ34h, v34h) (vN (kIn σ v b 84 (fun σ1 v1 => kLC σ1 b ∧ CR 0 v1 b mS0))) := by
    intro n34
    induction n34 with
    | zero =>
      intro k σ34h v34h h1 h2 hc34h hf34h hi34_0 hi34_1 hi34_2 hi34_3 hi34_4 hi34_5 hi34_6 hi34_7 hi34_8 hi34_9 hi34_10 hi34_11 hi34_12 hi34_13 hi34_14 hi34_15 hi34_16 hE34
      exact absurd h2 (by omega)
    | succ n34 ih34 =>
      intro k σ34h v34h h1 h2 hc34h hf34h hi34_0 hi34_1 hi34_2 hi34_3 hi34_4 hi34_5 hi34_6 hi34_7 hi34_8 hi34_9 hi34_10 hi34_11 hi34_12 hi34_13 hi34_14 hi34_15 hi34_16 hE34
      refine P_iload_n dX0_init_34 rfl rfl ?_
      refine P_bipush (v := nI 6) dX0_init_35 (by decide) ?_
      refine P_icmp_geN (tgt := 60) dX0_init_37 (by decide) (by omega) (by omega) (fun c37 => ?_) (fun c37 => ?_)
      · refine P_vret dX0_init_60 rfl ?_
        have hcz : σ34h.1 = b + 84 := by omega
        exact ⟨rfl, σ34h, v34h, rfl, hcz, hf34h, hi34_2, hi34_0.trans hk0.symm, ⟨⟨⟨by omega, by omega⟩, hi34_0⟩, ⟨⟨by omega, by omega⟩, hi34_3⟩, ⟨⟨by omega, by omega⟩, hi34_6⟩, ⟨⟨by omega, by omega⟩, hi34_7⟩, ⟨⟨by omega, by omega⟩, hi34_8⟩, ⟨⟨by omega, by omega⟩, hi34_14⟩, hi34_5, hi34_13, hi34_16, hi34_9, hi34_10, fun m h9 => ⟨(hE34 m (by omega)).1, (hE34 m (by omega)).2.1⟩⟩, CR_made hi34_1 hi34_11 hi34_12 (fun m h9 => (hE34 m (by omega)).2.2)⟩
      · refine P_aload_n dX0_init_40 rfl rfl ?_
        refine P_getr (t := b + 1) dX0_init_41 kX0 fX0_11 rfl (by decide) ⟨⟨(by show b < σ34h.1; omega), by omega⟩, hi34_0⟩ hi34_5 (by omega) ?_
        refine P_iload_n dX0_init_44 rfl rfl ?_
        refine A_newO (N := b + 6 + 13 * k) hc34h hf34h (by omega) dX0_init_45 kX2 nX0_9 nnX2 niX2 ⟨by show 1 ≤ 78 - 13 * k; omega, by show 16 ≤ 816 - 136 * k; omega⟩ (fun σ8 v8 hc8 hf8 ha8 hk8 hz8 => ?_)
        replace hc8 : σ8.1 = b + 7 + 13 * k := by omega
        have f65 : σ8.2.1 (b) = (0, 0) := (ha8 (b) (by omega)).1.trans hi34_0
        have f66 : ∀ k, v8 (b) k = nI 0 := fun k => (congrFun (ha8 (b) (by omega)).2.2 k).trans (hi34_1 k)
        have f67 : ∀ n, n < b → kAg σ v σ8 v8 n := fun n h9 => (hi34_2 n h9).tr (ha8 (n) (by omega))
        have f68 : σ8.2.1 (b + 1) = (11, 6) := (ha8 (b + 1) (by omega)).1.trans hi34_3
        have f69 : ∀ k, v8 (b + 1) k = nI 0 := fun k => (congrFun (ha8 (b + 1) (by omega)).2.2 k).trans (hi34_4 k)
        have f70 : σ8.2.2.1 (b) 0 = some (b + 1) := (congrFun (ha8 (b) (by omega)).2.1 _).trans hi34_5
        have f71 : σ8.2.1 (b + 2) = (3, 0) := (ha8 (b + 2) (by omega)).1.trans hi34_6
        have f72 : σ8.2.1 (b + 2 + 1) = (8, 6) := (ha8 (b + 2 + 1) (by omega)).1.trans hi34_7
        have f73 : σ8.2.1 (b + 2 + 2) = (8, 1350) := (ha8 (b + 2 + 2) (by omega)).1.trans hi34_8
        have f74 : σ8.2.2.1 (b + 2) 0 = some (b + 2 + 1) := (congrFun (ha8 (b + 2) (by omega)).2.1 _).trans hi34_9
        have f75 : σ8.2.2.1 (b + 2) 1 = some (b + 2 + 2) := (congrFun (ha8 (b + 2) (by omega)).2.1 _).trans hi34_10
        have f76 : ∀ k, v8 (b + 2) k = nI 0 := fun k => (congrFun (ha8 (b + 2) (by omega)).2.2 k).trans (hi34_11 k)
        have f77 : ∀ k, v8 (b + 2 + 1) k = nI 0 := fun k => (congrFun (ha8 (b + 2 + 1) (by omega)).2.2 k).trans (hi34_12 k)
        have f78 : σ8.2.2.1 (b) 1 = some (b + 2) := (congrFun (ha8 (b) (by omega)).2.1 _).trans hi34_13
        have f79 : σ8.2.1 (b + 5) = (8, 9) := (ha8 (b + 5) (by omega)).1.trans hi34_14
        have f80 : ∀ k, v8 (b + 5) k = nI 0 := fun k => (congrFun (ha8 (b + 5) (by omega)).2.2 k).trans (hi34_15 k)
        have f81 : σ8.2.2.1 (b) 2 = some (b + 5) := (congrFun (ha8 (b) (by omega)).2.1 _).trans hi34_16
        have f82 : ∀ m, m < k → σ8.2.2.1 (b + 1) m = some (b + 6 + 13 * m) ∧ kLM σ8 (b + 6 + 13 * m) ∧ MR v8 (b + 6 + 13 * m) m mS0 := fun m h9 => ⟨(congrFun (ha8 (b + 1) (by omega)).2.1 m).trans (hE34 m h9).1, (hE34 m h9).2.1.up (by omega) (fun n g1 g2 => ha8 (n) (by omega)), (hE34 m h9).2.2.up (fun n g1 g2 => ha8 (n) (by omega))⟩
        refine A_bud (b2 := (78 - 13 * k - 1, 816 - 136 * k - 16)) ⟨by show 78 - 13 * k - 1 ≤ (78 - 13 * k) - 1; omega, by show 816 - 136 * k - 16 ≤ (816 - 136 * k) - 16; omega⟩ ?_
        refine P_dup dX0_init_48 rfl ?_
        refine P_iload_n dX0_init_49 rfl rfl ?_
        refine A_callI (p := b + 6 + 13 * k) (w := 13) (rest := [.ref (b + 6 + 13 * k), .int (nI (k)), .ref (b + 1)]) (As := [.int (nI (k))]) dX0_init_50 lX0_28 yk_X2_init yi_X2_init rfl rfl (by decide) rfl rfl (Nat.le_of_ble_eq_true rfl) ⟨by show 12 ≤ 78 - 13 * k - 1; omega, by show 120 ≤ 816 - 136 * k - 16; omega⟩ (by omega) hf8 (by omega) rfl (c_X2_init (m := k) (by omega) (by omega) hf8 hk8 hz8 (by omega)) (fun σ9 v9 hc9 hf9 ha9 hk9 hy9 => ?_)
        replace hc9 : σ9.1 = b + 19 + 13 * k := by omega
        have f83 : σ9.2.1 (b) = (0, 0) := (ha9 (b) (by omega)).1.trans f65
        have f84 : ∀ k, v9 (b) k = nI 0 := fun k => (congrFun (ha9 (b) (by omega)).2.2 k).trans (f66 k)
        have f85 : ∀ n, n < b → kAg σ v σ9 v9 n := fun n h9 => (f67 n h9).tr (ha9 (n) (by omega))
        have f86 : σ9.2.1 (b + 1) = (11, 6) := (ha9 (b + 1) (by omega)).1.trans f68
        have f87 : ∀ k, v9 (b + 1) k = nI 0 := fun k => (congrFun (ha9 (b + 1) (by omega)).2.2 k).trans (f69 k)
        have f88 : σ9.2.2.1 (b) 0 = some (b + 1) := (congrFun (ha9 (b) (by omega)).2.1 _).trans f70
        have f89 : σ9.2.1 (b + 2) = (3, 0) := (ha9 (b + 2) (by omega)).1.trans f71
        have f90 : σ9.2.1 (b + 2 + 1) = (8, 6) := (ha9 (b + 2 + 1) (by omega)).1.trans f72
        have f91 : σ9.2.1 (b + 2 + 2) = (8, 1350) := (ha9 (b + 2 + 2) (by omega)).1.trans f73
        have f92 : σ9.2.2.1 (b + 2) 0 = some (b + 2 + 1) := (congrFun (ha9 (b + 2) (by omega)).2.1 _).trans f74
        have f93 : σ9.2.2.1 (b + 2) 1 = some (b + 2 + 2) := (congrFun (ha9 (b + 2) (by omega)).2.1 _).trans f75
        have f94 : ∀ k, v9 (b + 2) k = nI 0 := fun k => (congrFun (ha9 (b + 2) (by omega)).2.2 k).trans (f76 k)
        have f95 : ∀ k, v9 (b + 2 + 1) k = nI 0 := fun k => (congrFun (ha9 (b + 2 + 1) (by omega)).2.2 k).trans (f77 k)
        have f96 : σ9.2.2.1 (b) 1 = some (b + 2) := (congrFun (ha9 (b) (by omega)).2.1 _).trans f78
        have f97 : σ9.2.1 (b + 5) = (8, 9) := (ha9 (b + 5) (by omega)).1.trans f79
        have f98 : ∀ k, v9 (b + 5) k = nI 0 := fun k => (congrFun (ha9 (b + 5) (by omega)).2.2 k).trans (f80 k)
        have f99 : σ9.2.2.1 (b) 2 = some (b + 5) := (congrFun (ha9 (b) (by omega)).2.1 _).trans f81
        have f100 : ∀ m, m < k → σ9.2.2.1 (b + 1) m = some (b + 6 + 13 * m) ∧ kLM σ9 (b + 6 + 13 * m) ∧ MR v9 (b + 6 + 13 * m) m mS0 := fun m h9 => ⟨(congrFun (ha9 (b + 1) (by omega)).2.1 m).trans (f82 m h9).1, (f82 m h9).2.1.up (by omega) (fun n g1 g2 => ha9 (n) (by omega)), (f82 m h9).2.2.up (fun n g1 g2 => ha9 (n) (by omega))⟩
        have f101 := hk9.trans hk8
        refine A_bud (b2 := (78 - 13 * k - 1 - 12, 816 - 136 * k - 16 - 120)) ⟨by show 78 - 13 * k - 1 - 12 ≤ (78 - 13 * k - 1) - 12; omega, by show 816 - 136 * k - 16 - 120 ≤ (816 - 136 * k - 16) - 120; omega⟩ ?_
        refine A_aastM (k) dX0_init_53 ⟨⟨(by show b + 1 < σ9.1; omega), by omega⟩, f86⟩ rfl (by omega) (by decide) ⟨⟨(by show b + 6 + 13 * k < σ9.1; omega), by omega⟩, f101⟩ (fun σ10 hc10 hf10 hp10 hq10 hr10 hs10 => ?_)
        replace hc10 : σ10.1 = b + 19 + 13 * k := hc10.trans hc9
        replace hf10 : σ10.2.2.2 = true := hf10.trans hf9
        have f102 : σ10.2.1 (b) = (0, 0) := (congrFun hp10 _).trans f83
        have f103 : ∀ k, v9 (b) k = nI 0 := f84
        have f104 : ∀ n, n < b → kAg σ v σ10 v9 n := fun n h9 => (f85 n h9).tr (⟨congrFun hp10 (n), hq10 (n) (by omega), rfl⟩ : kAg σ9 v9 σ10 v9 (n))
        have f105 : σ10.2.1 (b + 1) = (11, 6) := (congrFun hp10 _).trans f86
        have f106 : ∀ k, v9 (b + 1) k = nI 0 := f87
        have f107 : σ10.2.2.1 (b) 0 = some (b + 1) := (congrFun (hq10 _ (by omega)) _).trans f88
        have f108 : σ10.2.1 (b + 2) = (3, 0) := (congrFun hp10 _).trans f89
        have f109 : σ10.2.1 (b + 2 + 1) = (8, 6) := (congrFun hp10 _).trans f90
        have f110 : σ10.2.1 (b + 2 + 2) = (8, 1350) := (congrFun hp10 _).trans f91
        have f111 : σ10.2.2.1 (b + 2) 0 = some (b + 2 + 1) := (congrFun (hq10 _ (by omega)) _).trans f92
        have f112 : σ10.2.2.1 (b + 2) 1 = some (b + 2 + 2) := (congrFun (hq10 _ (by omega)) _).trans f93
        have f113 : ∀ k, v9 (b + 2) k = nI 0 := f94
        have f114 : ∀ k, v9 (b + 2 + 1) k = nI 0 := f95
        have f115 : σ10.2.2.1 (b) 1 = some (b + 2) := (congrFun (hq10 _ (by omega)) _).trans f96
        have f116 : σ10.2.1 (b + 5) = (8, 9) := (congrFun hp10 _).trans f97
        have f117 : ∀ k, v9 (b + 5) k = nI 0 := f98
        have f118 : σ10.2.2.1 (b) 2 = some (b + 5) := (congrFun (hq10 _ (by omega)) _).trans f99
        have f119 : ∀ m, m < k → σ10.2.2.1 (b + 1) m = some (b + 6 + 13 * m) ∧ kLM σ10 (b + 6 + 13 * m) ∧ MR v9 (b + 6 + 13 * m) m mS0 := fun m h9 => ⟨(hr10 m (by omega)).trans (f100 m h9).1, (f100 m h9).2.1.up (by omega) (fun n g1 g2 => (⟨congrFun hp10 (n), hq10 (n) (by omega), rfl⟩ : kAg σ9 v9 σ10 v9 (n))), (f100 m h9).2.2.up (fun n g1 g2 => (⟨congrFun hp10 (n), hq10 (n) (by omega), rfl⟩ : kAg σ9 v9 σ10 v9 (n)))⟩
        have f120 : σ10.2.1 (b + 6 + 13 * k) = (2, 0) := (congrFun hp10 _).trans f101
        have f121 : kLM σ10 (b + 6 + 13 * k) := hy9.1.up (by omega) (fun n g1 g2 => (⟨congrFun hp10 (n), hq10 (n) (by omega), rfl⟩ : kAg σ9 v9 σ10 v9 (n)))
        have f122 : MR v9 (b + 6 + 13 * k) k mS0 := hy9.2.up (fun n g1 g2 => (⟨congrFun hp10 (n), hq10 (n) (by omega), rfl⟩ : kAg σ9 v9 σ10 v9 (n)))
        refine P_iinc (v := nI (k + 1)) (ls2 := [some (.ref (b)), some (.int (nI (k + 1)))]) dX0_init_54 rfl (nI_inc _ 1) (by decide) rfl ?_
        refine P_goto (tgt := 34) dX0_init_57 (by decide) ?_
        refine A_bud (b2 := (78 - 13 * (k + 1), 816 - 136 * (k + 1))) ⟨by show 78 - 13 * (k + 1) ≤ 78 - 13 * k - 1 - 12; omega, by show 816 - 136 * (k + 1) ≤ 816 - 136 * k - 16 - 120; omega⟩ ?_
        exact ih34 (k + 1) _ _ (by omega) (by omega) (by omega) hf10 f102 f103 f104 f105 f106 f107 f108 f109 f110 f111 f112 f113 f114 f115 f116 f117 f118 (fun m h9 => by
          by_cases e9 : m = k
          · subst e9; exact ⟨hs10, f121, f122⟩
          · exact f119 m (by omega))
  exact hL34 7 0 _ _ (by omega) (by omega) hc7 hf7 f49 f50 f51 f52 f53 f54 f55 f56 f57 f58 f59 f60 f61 f62 f63 f64 hs7 (fun m h9 => absurd h9 (Nat.not_lt_zero m))
set_option maxHeartbeats 4000000 in
set_option maxRecDepth 100000 in
theorem c_X1_init {σ : vS} {v : vV} {h : Nat} (hc0 : σ.1 = h + 1) (hf0 : σ.2.2.2 = true) (hk0 : σ.2.1 (h) = (1, 0)) (hz0 : ∀ k, v (h) k = nI 0) (hp0 : h + 1178 < 1000000) : vC M_X1_init yX1_init [.ref (h)] (σ, v) (kIn σ v h 1178 (fun σ1 v1 => kLH σ1 h ∧ HR v1 h [])) := by
  have hO0 : ∀ n, n < h → kAg σ v σ v n := fun _ _ => kAg.rf
  refine vC_of (ls := [some (.ref (h)), none]) pn_X1 rfl rfl (Nat.le_of_ble_eq_true rfl) rfl ?_
  refine A_bud (b2 := (1177, 30828)) (by decide) ?_
  refine P_aload_n dX1_init_0 rfl rfl ?_
  refine P_oinit dX1_init_1 lX1_3 (by decide) (by omega) ?_
  refine P_aload_n dX1_init_4 rfl rfl ?_
  refine P_bipush (v := nI 14) dX1_init_5 (by decide) ?_
  refine A_newQ (N := h + 1) (14) 10 hc0 hf0 (by omega) dX1_init_7 (Or.inl ⟨rfl, rfl⟩) nX1_9 wo_X0 rfl (by omega) ⟨by show 1 ≤ 1177; omega, by show 14 ≤ 30828; omega⟩ (fun σ1 v1 hc1 hf1 ha1 hk1 hz1 => ?_)
  replace hc1 : σ1.1 = h + 2 := by omega
  have f1 : σ1.2.1 (h) = (1, 0) := (ha1 (h) (by omega)).1.trans hk0
  have f2 : ∀ k, v1 (h) k = nI 0 := fun k => (congrFun (ha1 (h) (by omega)).2.2 k).trans (hz0 k)
  have f3 : ∀ n, n < h → kAg σ v σ1 v1 n := fun n h9 => (hO0 n h9).tr (ha1 (n) (by omega))
  refine A_bud (b2 := (1176, 30814)) ⟨by show 1176 ≤ 1177 - 1; omega, by show 30814 ≤ 30828 - 14; omega⟩ ?_
  refine A_putr dX1_init_10 kX1 fX1_11 rfl (by decide) rfl rfl rfl ⟨⟨(by show h < σ1.1; omega), by omega⟩, f1⟩ (by omega) (fun σ2 hc2 hf2 hp2 hq2 hr2 hs2 => ?_)
  replace hc2 : σ2.1 = h + 2 := hc2.trans hc1
  replace hf2 : σ2.2.2.2 = true := hf2.trans hf1
  have f4 : σ2.2.1 (h) = (1, 0) := (congrFun hp2 _).trans f1
  have f5 : ∀ k, v1 (h) k = nI 0 := f2
  have f6 : ∀ n, n < h → kAg σ v σ2 v1 n := fun n h9 => (f3 n h9).tr (⟨congrFun hp2 (n), hq2 (n) (by omega), rfl⟩ : kAg σ1 v1 σ2 v1 (n))
  have f7 : σ2.2.1 (h + 1) = (10, 14) := (congrFun hp2 _).trans hk1
  have f8 : ∀ k, v1 (h + 1) k = nI 0 := hz1
  refine P_iconst (v := nI 0) dX1_init_13 (by decide) ?_
  refine P_istore_n (ls2 := [some (.ref (h)), some (.int (nI (0)))]) dX1_init_14 rfl (by decide) rfl ?_
  have hL15 : ∀ (n15 : Nat) (k : Nat) (σ15h : vS) (v15h : vV), (k ≤ 14) → (k + n15 = 15) → (σ15h.1 = h + 2 + 84 * k) → (σ15h.2.2.2 = true) → (σ15h.2.1 (h) = (1, 0)) → (∀ k, v15h (h) k = nI 0) → (∀ n, n < h → kAg σ v σ15h v15h n) → (σ15h.2.1 (h + 1) = (10, 14)) → (∀ k, v15h (h + 1) k = nI 0) → (σ15h.2.2.1 (h) 0 = some (h + 1)) → (∀ m, m < k → σ15h.2.2.1 (h + 1) m = some (h + 2 + 84 * m) ∧ kLC σ15h (h + 2 + 84 * m) ∧ CR 0 v15h (h + 2 + 84 * m) mS0) → vP M_X1_init 15 [some (.ref (h)), some (.int (nI (k)))] [] (1176 - 84 * k, 30814 - 2201 * k) (σ15h, v15h) (vN (kIn σ v h 1178 (fun σ1 v1 => kLH σ1 h ∧ HR v1 h []))) := by
    intro n15
    induction n15 with
    | zero =>
      intro k σ15h v15h h1 h2 hc15h hf15h hi15_0 hi15_1 hi15_2 hi15_3 hi15_4 hi15_5 hE15
      exact absurd h2 (by omega)
    | succ n15 ih15 =>
      intro k σ15h v15h h1 h2 hc15h hf15h hi15_0 hi15_1 hi15_2 hi15_3 hi15_4 hi15_5 hE15
      refine P_iload_n dX1_init_15 rfl rfl ?_
      refine P_bipush (v := nI 14) dX1_init_16 (by decide) ?_
      refine P_icmp_geN (tgt := 40) dX1_init_18 (by decide) (by omega) (by omega) (fun c18 => ?_) (fun c18 => ?_)
      · refine P_vret dX1_init_40 rfl ?_
        have hcz : σ15h.1 = h + 1178 := by omega
        exact ⟨rfl, σ15h, v15h, rfl, hcz, hf15h, hi15_2, hi15_0.trans hk0.symm, ⟨⟨⟨by omega, by omega⟩, hi15_0⟩, ⟨⟨by omega, by omega⟩, hi15_3⟩, hi15_5, fun m h9 => ⟨(hE15 m (by omega)).1, (hE15 m (by omega)).2.1⟩⟩, HR_made hi15_1 (fun m h9 => (hE15 m (by omega)).2.2)⟩
      · refine P_aload_n dX1_init_21 rfl rfl ?_
        refine P_getr (t := h + 1) dX1_init_22 kX1 fX1_11 rfl (by decide) ⟨⟨(by show h < σ15h.1; omega), by omega⟩, hi15_0⟩ hi15_5 (by omega) ?_
        refine P_iload_n dX1_init_25 rfl rfl ?_
        refine A_newO (N := h + 2 + 84 * k) hc15h hf15h (by omega) dX1_init_26 kX0 nX1_9 nnX0 niX0 ⟨by show 1 ≤ 1176 - 84 * k; omega, by show 9 ≤ 30814 - 2201 * k; omega⟩ (fun σ3 v3 hc3 hf3 ha3 hk3 hz3 => ?_)
        replace hc3 : σ3.1 = h + 3 + 84 * k := by omega
        have f9 : σ3.2.1 (h) = (1, 0) := (ha3 (h) (by omega)).1.trans hi15_0
        have f10 : ∀ k, v3 (h) k = nI 0 := fun k => (congrFun (ha3 (h) (by omega)).2.2 k).trans (hi15_1 k)
        have f11 : ∀ n, n < h → kAg σ v σ3 v3 n := fun n h9 => (hi15_2 n h9).tr (ha3 (n) (by omega))
        have f12 : σ3.2.1 (h + 1) = (10, 14) := (ha3 (h + 1) (by omega)).1.trans hi15_3
        have f13 : ∀ k, v3 (h + 1) k = nI 0 := fun k => (congrFun (ha3 (h + 1) (by omega)).2.2 k).trans (hi15_4 k)
        have f14 : σ3.2.2.1 (h) 0 = some (h + 1) := (congrFun (ha3 (h) (by omega)).2.1 _).trans hi15_5
        have f15 : ∀ m, m < k → σ3.2.2.1 (h + 1) m = some (h + 2 + 84 * m) ∧ kLC σ3 (h + 2 + 84 * m) ∧ CR 0 v3 (h + 2 + 84 * m) mS0 := fun m h9 => ⟨(congrFun (ha3 (h + 1) (by omega)).2.1 m).trans (hE15 m h9).1, (hE15 m h9).2.1.up (by omega) (fun n g1 g2 => ha3 (n) (by omega)), (hE15 m h9).2.2.up (fun n g1 g2 => ha3 (n) (by omega))⟩
        refine A_bud (b2 := (1176 - 84 * k - 1, 30814 - 2201 * k - 9)) ⟨by show 1176 - 84 * k - 1 ≤ (1176 - 84 * k) - 1; omega, by show 30814 - 2201 * k - 9 ≤ (30814 - 2201 * k) - 9; omega⟩ ?_
        refine P_dup dX1_init_29 rfl ?_
        refine A_callI (p := h + 2 + 84 * k) (w := 84) (rest := [.ref (h + 2 + 84 * k), .int (nI (k)), .ref (h + 1)]) (As := []) dX1_init_30 lX1_17 yk_X0_init yi_X0_init rfl rfl (by decide) rfl rfl (Nat.le_of_ble_eq_true rfl) ⟨by show 83 ≤ 1176 - 84 * k - 1; omega, by show 2192 ≤ 30814 - 2201 * k - 9; omega⟩ (by omega) hf3 (by omega) rfl (c_X0_init (by omega) hf3 hk3 hz3 (by omega)) (fun σ4 v4 hc4 hf4 ha4 hk4 hy4 => ?_)
        replace hc4 : σ4.1 = h + 86 + 84 * k := by omega
        have f16 : σ4.2.1 (h) = (1, 0) := (ha4 (h) (by omega)).1.trans f9
        have f17 : ∀ k, v4 (h) k = nI 0 := fun k => (congrFun (ha4 (h) (by omega)).2.2 k).trans (f10 k)
        have f18 : ∀ n, n < h → kAg σ v σ4 v4 n := fun n h9 => (f11 n h9).tr (ha4 (n) (by omega))
        have f19 : σ4.2.1 (h + 1) = (10, 14) := (ha4 (h + 1) (by omega)).1.trans f12
        have f20 : ∀ k, v4 (h + 1) k = nI 0 := fun k => (congrFun (ha4 (h + 1) (by omega)).2.2 k).trans (f13 k)
        have f21 : σ4.2.2.1 (h) 0 = some (h + 1) := (congrFun (ha4 (h) (by omega)).2.1 _).trans f14
        have f22 : ∀ m, m < k → σ4.2.2.1 (h + 1) m = some (h + 2 + 84 * m) ∧ kLC σ4 (h + 2 + 84 * m) ∧ CR 0 v4 (h + 2 + 84 * m) mS0 := fun m h9 => ⟨(congrFun (ha4 (h + 1) (by omega)).2.1 m).trans (f15 m h9).1, (f15 m h9).2.1.up (by omega) (fun n g1 g2 => ha4 (n) (by omega)), (f15 m h9).2.2.up (fun n g1 g2 => ha4 (n) (by omega))⟩
        have f23 := hk4.trans hk3
        refine A_bud (b2 := (1176 - 84 * k - 1 - 83, 30814 - 2201 * k - 9 - 2192)) ⟨by show 1176 - 84 * k - 1 - 83 ≤ (1176 - 84 * k - 1) - 83; omega, by show 30814 - 2201 * k - 9 - 2192 ≤ (30814 - 2201 * k - 9) - 2192; omega⟩ ?_
        refine A_aastC (k) dX1_init_33 ⟨⟨(by show h + 1 < σ4.1; omega), by omega⟩, f19⟩ rfl (by omega) (by decide) ⟨⟨(by show h + 2 + 84 * k < σ4.1; omega), by omega⟩, f23⟩ (fun σ5 hc5 hf5 hp5 hq5 hr5 hs5 => ?_)
        replace hc5 : σ5.1 = h + 86 + 84 * k := hc5.trans hc4
        replace hf5 : σ5.2.2.2 = true := hf5.trans hf4
        have f24 : σ5.2.1 (h) = (1, 0) := (congrFun hp5 _).trans f16
        have f25 : ∀ k, v4 (h) k = nI 0 := f17
        have f26 : ∀ n, n < h → kAg σ v σ5 v4 n := fun n h9 => (f18 n h9).tr (⟨congrFun hp5 (n), hq5 (n) (by omega), rfl⟩ : kAg σ4 v4 σ5 v4 (n))
        have f27 : σ5.2.1 (h + 1) = (10, 14) := (congrFun hp5 _).trans f19
        have f28 : ∀ k, v4 (h + 1) k = nI 0 := f20
        have f29 : σ5.2.2.1 (h) 0 = some (h + 1) := (congrFun (hq5 _ (by omega)) _).trans f21
        have f30 : ∀ m, m < k → σ5.2.2.1 (h + 1) m = some (h + 2 + 84 * m) ∧ kLC σ5 (h + 2 + 84 * m) ∧ CR 0 v4 (h + 2 + 84 * m) mS0 := fun m h9 => ⟨(hr5 m (by omega)).trans (f22 m h9).1, (f22 m h9).2.1.up (by omega) (fun n g1 g2 => (⟨congrFun hp5 (n), hq5 (n) (by omega), rfl⟩ : kAg σ4 v4 σ5 v4 (n))), (f22 m h9).2.2.up (fun n g1 g2 => (⟨congrFun hp5 (n), hq5 (n) (by omega), rfl⟩ : kAg σ4 v4 σ5 v4 (n)))⟩
        have f31 : σ5.2.1 (h + 2 + 84 * k) = (0, 0) := (congrFun hp5 _).trans f23
        have f32 : kLC σ5 (h + 2 + 84 * k) := hy4.1.up (by omega) (fun n g1 g2 => (⟨congrFun hp5 (n), hq5 (n) (by omega), rfl⟩ : kAg σ4 v4 σ5 v4 (n)))
        have f33 : CR 0 v4 (h + 2 + 84 * k) mS0 := hy4.2.up (fun n g1 g2 => (⟨congrFun hp5 (n), hq5 (n) (by omega), rfl⟩ : kAg σ4 v4 σ5 v4 (n)))
        refine P_iinc (v := nI (k + 1)) (ls2 := [some (.ref (h)), some (.int (nI (k + 1)))]) dX1_init_34 rfl (nI_inc _ 1) (by decide) rfl ?_
        refine P_goto (tgt := 15) dX1_init_37 (by decide) ?_
        refine A_bud (b2 := (1176 - 84 * (k + 1), 30814 - 2201 * (k + 1))) ⟨by show 1176 - 84 * (k + 1) ≤ 1176 - 84 * k - 1 - 83; omega, by show 30814 - 2201 * (k + 1) ≤ 30814 - 2201 * k - 9 - 2192; omega⟩ ?_
        exact ih15 (k + 1) _ _ (by omega) (by omega) (by omega) hf5 f24 f25 f26 f27 f28 f29 (fun m h9 => by
          by_cases e9 : m = k
          · subst e9; exact ⟨hs5, f32, f33⟩
          · exact f30 m (by omega))
  exact hL15 15 0 _ _ (by omega) (by omega) hc2 hf2 f4 f5 f6 f7 f8 hs2 (fun m h9 => absurd h9 (Nat.not_lt_zero m))
