
theorem HR.up {σ σ' : vS} {v v' : vV} {h : Nat} {D : List mC} (H : HR v h D) (e : ∀ n, h ≤ n → n < h + 1178 → kAg σ v σ' v' n) : HR v' h D := by
  obtain ⟨nx, h1, h2, h3, h4, h5, h6⟩ := H
  refine ⟨nx, h1, by rw [(e h (by omega) (by omega)).2.2]; exact h2, by rw [(e h (by omega) (by omega)).2.2]; exact h3, h4, fun i hi m hm => by rw [(e _ (by omega) (by omega)).2.2]; exact h5 i hi m hm, fun j Y hj => (h6 j Y hj).of (fun n g1 g2 _ => (e n (by omega) (by omega)).2.2)⟩
theorem none_no {α : Type} {P : Prop} {Y : α} (h : (none : Option α) = some Y) : P := nomatch h
set_option maxHeartbeats 4000000 in
set_option maxRecDepth 100000 in
theorem c_X6_init_s67 {σ : vS} {v : vV} {b : Nat} {σc : vS} {vc : vV} (hk0 : σ.2.1 (b) = (6, 0)) (hp0 : b + 1603 < 1000000) (hcc : σc.1 = b + 1434) (hfc : σc.2.2.2 = true) (e67_0 : σc.2.1 (b) = (6, 0)) (e67_1 : ∀ k, vc (b) k = nI 0) (e67_2 : ∀ n, n < b → kAg σ v σc vc n) (e67_3 : σc.2.1 (b + 1) = (5, 0)) (e67_4 : kTX σc (b + 1)) (e67_5 : mTC vc (b + 1) (fun _ => 0) 0) (e67_6 : σc.2.2.1 (b) 0 = some (b + 1)) (e67_7 : σc.2.1 (b + 3) = (0, 0)) (e67_8 : kLC σc (b + 3)) (e67_9 : CR 0 vc (b + 3) mS0) (e67_10 : σc.2.2.1 (b) 1 = some (b + 3)) (e67_11 : σc.2.1 (b + 87) = (0, 0)) (e67_12 : kLC σc (b + 87)) (e67_13 : CR 0 vc (b + 87) mS0) (e67_14 : σc.2.2.1 (b) 2 = some (b + 87)) (e67_15 : σc.2.1 (b + 171) = (0, 0)) (e67_16 : kLC σc (b + 171)) (e67_17 : CR 0 vc (b + 171) mS0) (e67_18 : σc.2.2.1 (b) 3 = some (b + 171)) (e67_19 : σc.2.1 (b + 255) = (1, 0)) (e67_20 : kLH σc (b + 255)) (e67_21 : HR vc (b + 255) []) (e67_22 : σc.2.2.1 (b) 4 = some (b + 255)) (e67_23 : σc.2.1 (b + 1433) = (10, 2)) (e67_24 : ∀ k, vc (b + 1433) k = nI 0) (e67_25 : σc.2.2.1 (b) 5 = some (b + 1433)) : vP M_X6_init 67 [some (.ref (b)), none] [] (169, 4404) (σc, vc) (vN (kIn σ v b 1603 (fun σ1 v1 => kLT σ1 b ∧ KT v1 b gT0))) := by
  refine P_iconst (v := nI 0) dX6_init_67 (by decide) ?_
  refine P_istore_n (ls2 := [some (.ref (b)), some (.int (nI (0)))]) dX6_init_68 rfl (by decide) rfl ?_
  have hL69 : ∀ (n69 : Nat) (k : Nat) (σ69h : vS) (v69h : vV), (k ≤ 2) → (k + n69 = 3) → (σ69h.1 = b + 1434 + 84 * k) → (σ69h.2.2.2 = true) → (σ69h.2.1 (b) = (6, 0)) → (∀ k, v69h (b) k = nI 0) → (∀ n, n < b → kAg σ v σ69h v69h n) → (σ69h.2.1 (b + 1) = (5, 0)) → (kTX σ69h (b + 1)) → (mTC v69h (b + 1) (fun _ => 0) 0) → (σ69h.2.2.1 (b) 0 = some (b + 1)) → (σ69h.2.1 (b + 3) = (0, 0)) → (kLC σ69h (b + 3)) → (CR 0 v69h (b + 3) mS0) → (σ69h.2.2.1 (b) 1 = some (b + 3)) → (σ69h.2.1 (b + 87) = (0, 0)) → (kLC σ69h (b + 87)) → (CR 0 v69h (b + 87) mS0) → (σ69h.2.2.1 (b) 2 = some (b + 87)) → (σ69h.2.1 (b + 171) = (0, 0)) → (kLC σ69h (b + 171)) → (CR 0 v69h (b + 171) mS0) → (σ69h.2.2.1 (b) 3 = some (b + 171)) → (σ69h.2.1 (b + 255) = (1, 0)) → (kLH σ69h (b + 255)) → (HR v69h (b + 255) []) → (σ69h.2.2.1 (b) 4 = some (b + 255)) → (σ69h.2.1 (b + 1433) = (10, 2)) → (∀ k, v69h (b + 1433) k = nI 0) → (σ69h.2.2.1 (b) 5 = some (b + 1433)) → (∀ m, m < k → σ69h.2.2.1 (b + 1433) m = some (b + 1434 + 84 * m) ∧ kLC σ69h (b + 1434 + 84 * m) ∧ CR 0 v69h (b + 1434 + 84 * m) mS0) → vP M_X6_init 69 [some (.ref (b)), some (.int (nI (k)))] [] (169 - 84 * k, 4404 - 2201 * k) (σ69h, v69h) (vN (kIn σ v b 1603 (fun σ1 v1 => kLT σ1 b ∧ KT v1 b gT0))) := by
    intro n69
    induction n69 with
    | zero =>
      intro k σ69h v69h h1 h2 hc69h hf69h hi69_0 hi69_1 hi69_2 hi69_3 hi69_4 hi69_5 hi69_6 hi69_7 hi69_8 hi69_9 hi69_10 hi69_11 hi69_12 hi69_13 hi69_14 hi69_15 hi69_16 hi69_17 hi69_18 hi69_19 hi69_20 hi69_21 hi69_22 hi69_23 hi69_24 hi69_25 hE69
      exact absurd h2 (by omega)
    | succ n69 ih69 =>
      intro k σ69h v69h h1 h2 hc69h hf69h hi69_0 hi69_1 hi69_2 hi69_3 hi69_4 hi69_5 hi69_6 hi69_7 hi69_8 hi69_9 hi69_10 hi69_11 hi69_12 hi69_13 hi69_14 hi69_15 hi69_16 hi69_17 hi69_18 hi69_19 hi69_20 hi69_21 hi69_22 hi69_23 hi69_24 hi69_25 hE69
      refine P_iload_n dX6_init_69 rfl rfl ?_
      refine P_iconst (v := nI 2) dX6_init_70 (by decide) ?_
      refine P_icmp_geN (tgt := 93) dX6_init_71 (by decide) (by omega) (by omega) (fun c71 => ?_) (fun c71 => ?_)
      · obtain rfl : k = 2 := by omega
        have hcz : σ69h.1 = b + 1602 := by omega
        refine A_bud (b2 := (1, 2)) (by decide) ?_
        refine P_aload_n dX6_init_93 rfl rfl ?_
        refine P_iconst (v := nI 2) dX6_init_94 (by decide) ?_
        refine A_newA (N := b + 1602) (2) 9 hcz hf69h (by omega) dX6_init_95 (Or.inr (Or.inl ⟨rfl, rfl⟩)) wa_boolean rfl (by omega) ⟨by show 1 ≤ 1; omega, by show 2 ≤ 2; omega⟩ (fun σ18 v18 hc18 hf18 ha18 hk18 hz18 => ?_)
        replace hc18 : σ18.1 = b + 1603 := by omega
        have f234 : σ18.2.1 (b) = (6, 0) := (ha18 (b) (by omega)).1.trans hi69_0
        have f235 : ∀ k, v18 (b) k = nI 0 := fun k => (congrFun (ha18 (b) (by omega)).2.2 k).trans (hi69_1 k)
        have f236 : ∀ n, n < b → kAg σ v σ18 v18 n := fun n h9 => (hi69_2 n h9).tr (ha18 (n) (by omega))
        have f237 : σ18.2.1 (b + 1) = (5, 0) := (ha18 (b + 1) (by omega)).1.trans hi69_3
        have f238 : kTX σ18 (b + 1) := hi69_4.up (by omega) (fun n g1 g2 => ha18 (n) (by omega))
        have f239 : mTC v18 (b + 1) (fun _ => 0) 0 := hi69_5.of (ha18 (b + 1) (by omega)).2.2 (ha18 (b + 1 + 1) (by omega)).2.2
        have f240 : σ18.2.2.1 (b) 0 = some (b + 1) := (congrFun (ha18 (b) (by omega)).2.1 _).trans hi69_6
        have f241 : σ18.2.1 (b + 3) = (0, 0) := (ha18 (b + 3) (by omega)).1.trans hi69_7
        have f242 : kLC σ18 (b + 3) := hi69_8.up (by omega) (fun n g1 g2 => ha18 (n) (by omega))
        have f243 : CR 0 v18 (b + 3) mS0 := hi69_9.up (fun n g1 g2 => ha18 (n) (by omega))
        have f244 : σ18.2.2.1 (b) 1 = some (b + 3) := (congrFun (ha18 (b) (by omega)).2.1 _).trans hi69_10
        have f245 : σ18.2.1 (b + 87) = (0, 0) := (ha18 (b + 87) (by omega)).1.trans hi69_11
        have f246 : kLC σ18 (b + 87) := hi69_12.up (by omega) (fun n g1 g2 => ha18 (n) (by omega))
        have f247 : CR 0 v18 (b + 87) mS0 := hi69_13.up (fun n g1 g2 => ha18 (n) (by omega))
        have f248 : σ18.2.2.1 (b) 2 = some (b + 87) := (congrFun (ha18 (b) (by omega)).2.1 _).trans hi69_14
        have f249 : σ18.2.1 (b + 171) = (0, 0) := (ha18 (b + 171) (by omega)).1.trans hi69_15
        have f250 : kLC σ18 (b + 171) := hi69_16.up (by omega) (fun n g1 g2 => ha18 (n) (by omega))
        have f251 : CR 0 v18 (b + 171) mS0 := hi69_17.up (fun n g1 g2 => ha18 (n) (by omega))
        have f252 : σ18.2.2.1 (b) 3 = some (b + 171) := (congrFun (ha18 (b) (by omega)).2.1 _).trans hi69_18
        have f253 : σ18.2.1 (b + 255) = (1, 0) := (ha18 (b + 255) (by omega)).1.trans hi69_19
        have f254 : kLH σ18 (b + 255) := hi69_20.up (by omega) (fun n g1 g2 => ha18 (n) (by omega))
        have f255 : HR v18 (b + 255) [] := hi69_21.up (fun n g1 g2 => ha18 (n) (by omega))
        have f256 : σ18.2.2.1 (b) 4 = some (b + 255) := (congrFun (ha18 (b) (by omega)).2.1 _).trans hi69_22
        have f257 : σ18.2.1 (b + 1433) = (10, 2) := (ha18 (b + 1433) (by omega)).1.trans hi69_23
        have f258 : ∀ k, v18 (b + 1433) k = nI 0 := fun k => (congrFun (ha18 (b + 1433) (by omega)).2.2 k).trans (hi69_24 k)
        have f259 : σ18.2.2.1 (b) 5 = some (b + 1433) := (congrFun (ha18 (b) (by omega)).2.1 _).trans hi69_25
        have f260 : ∀ m, m < 2 → σ18.2.2.1 (b + 1433) m = some (b + 1434 + 84 * m) ∧ kLC σ18 (b + 1434 + 84 * m) ∧ CR 0 v18 (b + 1434 + 84 * m) mS0 := fun m h9 => ⟨(congrFun (ha18 (b + 1433) (by omega)).2.1 m).trans (hE69 m h9).1, (hE69 m h9).2.1.up (by omega) (fun n g1 g2 => ha18 (n) (by omega)), (hE69 m h9).2.2.up (fun n g1 g2 => ha18 (n) (by omega))⟩
        clear hE69
        refine A_bud (b2 := (0, 0)) ⟨by show 0 ≤ 1 - 1; omega, by show 0 ≤ 2 - 2; omega⟩ ?_
        refine A_putr dX6_init_97 kX6 fX6_40 rfl (by decide) rfl rfl rfl ⟨⟨(by show b < σ18.1; omega), by omega⟩, f234⟩ (by omega) (fun σ19 hc19 hf19 hp19 hq19 hr19 hs19 => ?_)
        replace hc19 : σ19.1 = b + 1603 := hc19.trans hc18
        replace hf19 : σ19.2.2.2 = true := hf19.trans hf18
        have f261 : σ19.2.1 (b) = (6, 0) := (congrFun hp19 _).trans f234
        have f262 : ∀ k, v18 (b) k = nI 0 := f235
        have f263 : ∀ n, n < b → kAg σ v σ19 v18 n := fun n h9 => (f236 n h9).tr (⟨congrFun hp19 (n), hq19 (n) (by omega), rfl⟩ : kAg σ18 v18 σ19 v18 (n))
        have f264 : σ19.2.1 (b + 1) = (5, 0) := (congrFun hp19 _).trans f237
        have f265 : kTX σ19 (b + 1) := f238.up (by omega) (fun n g1 g2 => (⟨congrFun hp19 (n), hq19 (n) (by omega), rfl⟩ : kAg σ18 v18 σ19 v18 (n)))
        have f266 : mTC v18 (b + 1) (fun _ => 0) 0 := f239.of ((⟨congrFun hp19 (b + 1), hq19 (b + 1) (by omega), rfl⟩ : kAg σ18 v18 σ19 v18 (b + 1))).2.2 ((⟨congrFun hp19 (b + 1 + 1), hq19 (b + 1 + 1) (by omega), rfl⟩ : kAg σ18 v18 σ19 v18 (b + 1 + 1))).2.2
        have f267 : σ19.2.2.1 (b) 0 = some (b + 1) := (hr19 _ (by decide)).trans f240
        have f268 : σ19.2.1 (b + 3) = (0, 0) := (congrFun hp19 _).trans f241
        have f269 : kLC σ19 (b + 3) := f242.up (by omega) (fun n g1 g2 => (⟨congrFun hp19 (n), hq19 (n) (by omega), rfl⟩ : kAg σ18 v18 σ19 v18 (n)))
        have f270 : CR 0 v18 (b + 3) mS0 := f243.up (fun n g1 g2 => (⟨congrFun hp19 (n), hq19 (n) (by omega), rfl⟩ : kAg σ18 v18 σ19 v18 (n)))
        have f271 : σ19.2.2.1 (b) 1 = some (b + 3) := (hr19 _ (by decide)).trans f244
        have f272 : σ19.2.1 (b + 87) = (0, 0) := (congrFun hp19 _).trans f245
        have f273 : kLC σ19 (b + 87) := f246.up (by omega) (fun n g1 g2 => (⟨congrFun hp19 (n), hq19 (n) (by omega), rfl⟩ : kAg σ18 v18 σ19 v18 (n)))
        have f274 : CR 0 v18 (b + 87) mS0 := f247.up (fun n g1 g2 => (⟨congrFun hp19 (n), hq19 (n) (by omega), rfl⟩ : kAg σ18 v18 σ19 v18 (n)))
        have f275 : σ19.2.2.1 (b) 2 = some (b + 87) := (hr19 _ (by decide)).trans f248
        have f276 : σ19.2.1 (b + 171) = (0, 0) := (congrFun hp19 _).trans f249
        have f277 : kLC σ19 (b + 171) := f250.up (by omega) (fun n g1 g2 => (⟨congrFun hp19 (n), hq19 (n) (by omega), rfl⟩ : kAg σ18 v18 σ19 v18 (n)))
        have f278 : CR 0 v18 (b + 171) mS0 := f251.up (fun n g1 g2 => (⟨congrFun hp19 (n), hq19 (n) (by omega), rfl⟩ : kAg σ18 v18 σ19 v18 (n)))
        have f279 : σ19.2.2.1 (b) 3 = some (b + 171) := (hr19 _ (by decide)).trans f252
        have f280 : σ19.2.1 (b + 255) = (1, 0) := (congrFun hp19 _).trans f253
        have f281 : kLH σ19 (b + 255) := f254.up (by omega) (fun n g1 g2 => (⟨congrFun hp19 (n), hq19 (n) (by omega), rfl⟩ : kAg σ18 v18 σ19 v18 (n)))
        have f282 : HR v18 (b + 255) [] := f255.up (fun n g1 g2 => (⟨congrFun hp19 (n), hq19 (n) (by omega), rfl⟩ : kAg σ18 v18 σ19 v18 (n)))
        have f283 : σ19.2.2.1 (b) 4 = some (b + 255) := (hr19 _ (by decide)).trans f256
        have f284 : σ19.2.1 (b + 1433) = (10, 2) := (congrFun hp19 _).trans f257
        have f285 : ∀ k, v18 (b + 1433) k = nI 0 := f258
        have f286 : σ19.2.2.1 (b) 5 = some (b + 1433) := (hr19 _ (by decide)).trans f259
        have f287 : ∀ m, m < 2 → σ19.2.2.1 (b + 1433) m = some (b + 1434 + 84 * m) ∧ kLC σ19 (b + 1434 + 84 * m) ∧ CR 0 v18 (b + 1434 + 84 * m) mS0 := fun m h9 => ⟨(congrFun ((⟨congrFun hp19 (b + 1433), hq19 (b + 1433) (by omega), rfl⟩ : kAg σ18 v18 σ19 v18 (b + 1433))).2.1 m).trans (f260 m h9).1, (f260 m h9).2.1.up (by omega) (fun n g1 g2 => (⟨congrFun hp19 (n), hq19 (n) (by omega), rfl⟩ : kAg σ18 v18 σ19 v18 (n))), (f260 m h9).2.2.up (fun n g1 g2 => (⟨congrFun hp19 (n), hq19 (n) (by omega), rfl⟩ : kAg σ18 v18 σ19 v18 (n)))⟩
        have f288 : σ19.2.1 (b + 1602) = (9, 2) := (congrFun hp19 _).trans hk18
        have f289 : ∀ k, v18 (b + 1602) k = nI 0 := hz18
        clear f234 f235 f236 f237 f238 f239 f240 f241 f242 f243 f244 f245 f246 f247 f248 f249 f250 f251 f252 f253 f254 f255 f256 f257 f258 f259 f260 hk18 hz18
        refine P_vret dX6_init_100 rfl ?_
        exact ⟨rfl, σ19, v18, rfl, hc19, hf19, f263, f261.trans hk0.symm, ⟨⟨⟨by omega, by omega⟩, f261⟩, f265, f269, f273, f277, f281, ⟨⟨by omega, by omega⟩, f284⟩, fun m h9 => ⟨(f287 m h9).1, (f287 m h9).2.1⟩, ⟨⟨by omega, by omega⟩, f288⟩, f267, f271, f275, f279, f283, f286, hs19⟩, ⟨f266, f270, f274, CR.cs f278, f282, fun i hi => ⟨CR.cs (f287 i hi).2.2, f289 i, fun Y hY => none_no hY⟩⟩⟩
      · refine P_aload_n dX6_init_74 rfl rfl ?_
        refine P_getr (t := b + 1433) dX6_init_75 kX6 fX6_36 rfl (by decide) ⟨⟨(by show b < σ69h.1; omega), by omega⟩, hi69_0⟩ hi69_25 (by omega) ?_
        refine P_iload_n dX6_init_78 rfl rfl ?_
        refine A_newO (N := b + 1434 + 84 * k) hc69h hf69h (by omega) dX6_init_79 kX0 nX6_16 nnX0 niX0 ⟨by show 1 ≤ 169 - 84 * k; omega, by show 9 ≤ 4404 - 2201 * k; omega⟩ (fun σ20 v20 hc20 hf20 ha20 hk20 hz20 => ?_)
        replace hc20 : σ20.1 = b + 1435 + 84 * k := by omega
        have f290 : σ20.2.1 (b) = (6, 0) := (ha20 (b) (by omega)).1.trans hi69_0
        have f291 : ∀ k, v20 (b) k = nI 0 := fun k => (congrFun (ha20 (b) (by omega)).2.2 k).trans (hi69_1 k)
        have f292 : ∀ n, n < b → kAg σ v σ20 v20 n := fun n h9 => (hi69_2 n h9).tr (ha20 (n) (by omega))
        have f293 : σ20.2.1 (b + 1) = (5, 0) := (ha20 (b + 1) (by omega)).1.trans hi69_3
        have f294 : kTX σ20 (b + 1) := hi69_4.up (by omega) (fun n g1 g2 => ha20 (n) (by omega))
        have f295 : mTC v20 (b + 1) (fun _ => 0) 0 := hi69_5.of (ha20 (b + 1) (by omega)).2.2 (ha20 (b + 1 + 1) (by omega)).2.2
        have f296 : σ20.2.2.1 (b) 0 = some (b + 1) := (congrFun (ha20 (b) (by omega)).2.1 _).trans hi69_6
        have f297 : σ20.2.1 (b + 3) = (0, 0) := (ha20 (b + 3) (by omega)).1.trans hi69_7
        have f298 : kLC σ20 (b + 3) := hi69_8.up (by omega) (fun n g1 g2 => ha20 (n) (by omega))
        have f299 : CR 0 v20 (b + 3) mS0 := hi69_9.up (fun n g1 g2 => ha20 (n) (by omega))
        have f300 : σ20.2.2.1 (b) 1 = some (b + 3) := (congrFun (ha20 (b) (by omega)).2.1 _).trans hi69_10
        have f301 : σ20.2.1 (b + 87) = (0, 0) := (ha20 (b + 87) (by omega)).1.trans hi69_11
        have f302 : kLC σ20 (b + 87) := hi69_12.up (by omega) (fun n g1 g2 => ha20 (n) (by omega))
        have f303 : CR 0 v20 (b + 87) mS0 := hi69_13.up (fun n g1 g2 => ha20 (n) (by omega))
        have f304 : σ20.2.2.1 (b) 2 = some (b + 87) := (congrFun (ha20 (b) (by omega)).2.1 _).trans hi69_14
        have f305 : σ20.2.1 (b + 171) = (0, 0) := (ha20 (b + 171) (by omega)).1.trans hi69_15
        have f306 : kLC σ20 (b + 171) := hi69_16.up (by omega) (fun n g1 g2 => ha20 (n) (by omega))
        have f307 : CR 0 v20 (b + 171) mS0 := hi69_17.up (fun n g1 g2 => ha20 (n) (by omega))
        have f308 : σ20.2.2.1 (b) 3 = some (b + 171) := (congrFun (ha20 (b) (by omega)).2.1 _).trans hi69_18
        have f309 : σ20.2.1 (b + 255) = (1, 0) := (ha20 (b + 255) (by omega)).1.trans hi69_19
        have f310 : kLH σ20 (b + 255) := hi69_20.up (by omega) (fun n g1 g2 => ha20 (n) (by omega))
        have f311 : HR v20 (b + 255) [] := hi69_21.up (fun n g1 g2 => ha20 (n) (by omega))
        have f312 : σ20.2.2.1 (b) 4 = some (b + 255) := (congrFun (ha20 (b) (by omega)).2.1 _).trans hi69_22
        have f313 : σ20.2.1 (b + 1433) = (10, 2) := (ha20 (b + 1433) (by omega)).1.trans hi69_23
        have f314 : ∀ k, v20 (b + 1433) k = nI 0 := fun k => (congrFun (ha20 (b + 1433) (by omega)).2.2 k).trans (hi69_24 k)
        have f315 : σ20.2.2.1 (b) 5 = some (b + 1433) := (congrFun (ha20 (b) (by omega)).2.1 _).trans hi69_25
        have f316 : ∀ m, m < k → σ20.2.2.1 (b + 1433) m = some (b + 1434 + 84 * m) ∧ kLC σ20 (b + 1434 + 84 * m) ∧ CR 0 v20 (b + 1434 + 84 * m) mS0 := fun m h9 => ⟨(congrFun (ha20 (b + 1433) (by omega)).2.1 m).trans (hE69 m h9).1, (hE69 m h9).2.1.up (by omega) (fun n g1 g2 => ha20 (n) (by omega)), (hE69 m h9).2.2.up (fun n g1 g2 => ha20 (n) (by omega))⟩
        clear hE69
        refine A_bud (b2 := (169 - 84 * k - 1, 4404 - 2201 * k - 9)) ⟨by show 169 - 84 * k - 1 ≤ (169 - 84 * k) - 1; omega, by show 4404 - 2201 * k - 9 ≤ (4404 - 2201 * k) - 9; omega⟩ ?_
        refine P_dup dX6_init_82 rfl ?_
        refine A_callI (p := b + 1434 + 84 * k) (w := 84) (rest := [.ref (b + 1434 + 84 * k), .int (nI (k)), .ref (b + 1433)]) (As := []) dX6_init_83 lX6_18 yk_X0_init yi_X0_init rfl rfl (by decide) rfl rfl (Nat.le_of_ble_eq_true rfl) ⟨by show 83 ≤ 169 - 84 * k - 1; omega, by show 2192 ≤ 4404 - 2201 * k - 9; omega⟩ (by omega) hf20 (by omega) rfl (c_X0_init (by omega) hf20 hk20 hz20 (by omega)) (fun σ21 v21 hc21 hf21 ha21 hk21 hy21 => ?_)
        replace hc21 : σ21.1 = b + 1518 + 84 * k := by omega
        have f317 : σ21.2.1 (b) = (6, 0) := (ha21 (b) (by omega)).1.trans f290
        have f318 : ∀ k, v21 (b) k = nI 0 := fun k => (congrFun (ha21 (b) (by omega)).2.2 k).trans (f291 k)
        have f319 : ∀ n, n < b → kAg σ v σ21 v21 n := fun n h9 => (f292 n h9).tr (ha21 (n) (by omega))
        have f320 : σ21.2.1 (b + 1) = (5, 0) := (ha21 (b + 1) (by omega)).1.trans f293
        have f321 : kTX σ21 (b + 1) := f294.up (by omega) (fun n g1 g2 => ha21 (n) (by omega))
        have f322 : mTC v21 (b + 1) (fun _ => 0) 0 := f295.of (ha21 (b + 1) (by omega)).2.2 (ha21 (b + 1 + 1) (by omega)).2.2
        have f323 : σ21.2.2.1 (b) 0 = some (b + 1) := (congrFun (ha21 (b) (by omega)).2.1 _).trans f296
        have f324 : σ21.2.1 (b + 3) = (0, 0) := (ha21 (b + 3) (by omega)).1.trans f297
        have f325 : kLC σ21 (b + 3) := f298.up (by omega) (fun n g1 g2 => ha21 (n) (by omega))
        have f326 : CR 0 v21 (b + 3) mS0 := f299.up (fun n g1 g2 => ha21 (n) (by omega))
        have f327 : σ21.2.2.1 (b) 1 = some (b + 3) := (congrFun (ha21 (b) (by omega)).2.1 _).trans f300
        have f328 : σ21.2.1 (b + 87) = (0, 0) := (ha21 (b + 87) (by omega)).1.trans f301
        have f329 : kLC σ21 (b + 87) := f302.up (by omega) (fun n g1 g2 => ha21 (n) (by omega))
        have f330 : CR 0 v21 (b + 87) mS0 := f303.up (fun n g1 g2 => ha21 (n) (by omega))
        have f331 : σ21.2.2.1 (b) 2 = some (b + 87) := (congrFun (ha21 (b) (by omega)).2.1 _).trans f304
        have f332 : σ21.2.1 (b + 171) = (0, 0) := (ha21 (b + 171) (by omega)).1.trans f305
        have f333 : kLC σ21 (b + 171) := f306.up (by omega) (fun n g1 g2 => ha21 (n) (by omega))
        have f334 : CR 0 v21 (b + 171) mS0 := f307.up (fun n g1 g2 => ha21 (n) (by omega))
        have f335 : σ21.2.2.1 (b) 3 = some (b + 171) := (congrFun (ha21 (b) (by omega)).2.1 _).trans f308
        have f336 : σ21.2.1 (b + 255) = (1, 0) := (ha21 (b + 255) (by omega)).1.trans f309
        have f337 : kLH σ21 (b + 255) := f310.up (by omega) (fun n g1 g2 => ha21 (n) (by omega))
        have f338 : HR v21 (b + 255) [] := f311.up (fun n g1 g2 => ha21 (n) (by omega))
        have f339 : σ21.2.2.1 (b) 4 = some (b + 255) := (congrFun (ha21 (b) (by omega)).2.1 _).trans f312
        have f340 : σ21.2.1 (b + 1433) = (10, 2) := (ha21 (b + 1433) (by omega)).1.trans f313
        have f341 : ∀ k, v21 (b + 1433) k = nI 0 := fun k => (congrFun (ha21 (b + 1433) (by omega)).2.2 k).trans (f314 k)
        have f342 : σ21.2.2.1 (b) 5 = some (b + 1433) := (congrFun (ha21 (b) (by omega)).2.1 _).trans f315
        have f343 : ∀ m, m < k → σ21.2.2.1 (b + 1433) m = some (b + 1434 + 84 * m) ∧ kLC σ21 (b + 1434 + 84 * m) ∧ CR 0 v21 (b + 1434 + 84 * m) mS0 := fun m h9 => ⟨(congrFun (ha21 (b + 1433) (by omega)).2.1 m).trans (f316 m h9).1, (f316 m h9).2.1.up (by omega) (fun n g1 g2 => ha21 (n) (by omega)), (f316 m h9).2.2.up (fun n g1 g2 => ha21 (n) (by omega))⟩
        clear f290 f291 f292 f293 f294 f295 f296 f297 f298 f299 f300 f301 f302 f303 f304 f305 f306 f307 f308 f309 f310 f311 f312 f313 f314 f315 f316
        have f344 := hk21.trans hk20
        refine A_bud (b2 := (169 - 84 * k - 1 - 83, 4404 - 2201 * k - 9 - 2192)) ⟨by show 169 - 84 * k - 1 - 83 ≤ (169 - 84 * k - 1) - 83; omega, by show 4404 - 2201 * k - 9 - 2192 ≤ (4404 - 2201 * k - 9) - 2192; omega⟩ ?_
        refine A_aastC (k) dX6_init_86 ⟨⟨(by show b + 1433 < σ21.1; omega), by omega⟩, f340⟩ rfl (by omega) (by decide) ⟨⟨(by show b + 1434 + 84 * k < σ21.1; omega), by omega⟩, f344⟩ (fun σ22 hc22 hf22 hp22 hq22 hr22 hs22 => ?_)
        replace hc22 : σ22.1 = b + 1518 + 84 * k := hc22.trans hc21
        replace hf22 : σ22.2.2.2 = true := hf22.trans hf21
        have f345 : σ22.2.1 (b) = (6, 0) := (congrFun hp22 _).trans f317
        have f346 : ∀ k, v21 (b) k = nI 0 := f318
        have f347 : ∀ n, n < b → kAg σ v σ22 v21 n := fun n h9 => (f319 n h9).tr (⟨congrFun hp22 (n), hq22 (n) (by omega), rfl⟩ : kAg σ21 v21 σ22 v21 (n))
        have f348 : σ22.2.1 (b + 1) = (5, 0) := (congrFun hp22 _).trans f320
        have f349 : kTX σ22 (b + 1) := f321.up (by omega) (fun n g1 g2 => (⟨congrFun hp22 (n), hq22 (n) (by omega), rfl⟩ : kAg σ21 v21 σ22 v21 (n)))
        have f350 : mTC v21 (b + 1) (fun _ => 0) 0 := f322.of ((⟨congrFun hp22 (b + 1), hq22 (b + 1) (by omega), rfl⟩ : kAg σ21 v21 σ22 v21 (b + 1))).2.2 ((⟨congrFun hp22 (b + 1 + 1), hq22 (b + 1 + 1) (by omega), rfl⟩ : kAg σ21 v21 σ22 v21 (b + 1 + 1))).2.2
        have f351 : σ22.2.2.1 (b) 0 = some (b + 1) := (congrFun (hq22 _ (by omega)) _).trans f323
        have f352 : σ22.2.1 (b + 3) = (0, 0) := (congrFun hp22 _).trans f324
        have f353 : kLC σ22 (b + 3) := f325.up (by omega) (fun n g1 g2 => (⟨congrFun hp22 (n), hq22 (n) (by omega), rfl⟩ : kAg σ21 v21 σ22 v21 (n)))
        have f354 : CR 0 v21 (b + 3) mS0 := f326.up (fun n g1 g2 => (⟨congrFun hp22 (n), hq22 (n) (by omega), rfl⟩ : kAg σ21 v21 σ22 v21 (n)))
        have f355 : σ22.2.2.1 (b) 1 = some (b + 3) := (congrFun (hq22 _ (by omega)) _).trans f327
        have f356 : σ22.2.1 (b + 87) = (0, 0) := (congrFun hp22 _).trans f328
        have f357 : kLC σ22 (b + 87) := f329.up (by omega) (fun n g1 g2 => (⟨congrFun hp22 (n), hq22 (n) (by omega), rfl⟩ : kAg σ21 v21 σ22 v21 (n)))
        have f358 : CR 0 v21 (b + 87) mS0 := f330.up (fun n g1 g2 => (⟨congrFun hp22 (n), hq22 (n) (by omega), rfl⟩ : kAg σ21 v21 σ22 v21 (n)))
        have f359 : σ22.2.2.1 (b) 2 = some (b + 87) := (congrFun (hq22 _ (by omega)) _).trans f331
        have f360 : σ22.2.1 (b + 171) = (0, 0) := (congrFun hp22 _).trans f332
        have f361 : kLC σ22 (b + 171) := f333.up (by omega) (fun n g1 g2 => (⟨congrFun hp22 (n), hq22 (n) (by omega), rfl⟩ : kAg σ21 v21 σ22 v21 (n)))
        have f362 : CR 0 v21 (b + 171) mS0 := f334.up (fun n g1 g2 => (⟨congrFun hp22 (n), hq22 (n) (by omega), rfl⟩ : kAg σ21 v21 σ22 v21 (n)))
        have f363 : σ22.2.2.1 (b) 3 = some (b + 171) := (congrFun (hq22 _ (by omega)) _).trans f335
        have f364 : σ22.2.1 (b + 255) = (1, 0) := (congrFun hp22 _).trans f336
        have f365 : kLH σ22 (b + 255) := f337.up (by omega) (fun n g1 g2 => (⟨congrFun hp22 (n), hq22 (n) (by omega), rfl⟩ : kAg σ21 v21 σ22 v21 (n)))
        have f366 : HR v21 (b + 255) [] := f338.up (fun n g1 g2 => (⟨congrFun hp22 (n), hq22 (n) (by omega), rfl⟩ : kAg σ21 v21 σ22 v21 (n)))
        have f367 : σ22.2.2.1 (b) 4 = some (b + 255) := (congrFun (hq22 _ (by omega)) _).trans f339
        have f368 : σ22.2.1 (b + 1433) = (10, 2) := (congrFun hp22 _).trans f340
        have f369 : ∀ k, v21 (b + 1433) k = nI 0 := f341
        have f370 : σ22.2.2.1 (b) 5 = some (b + 1433) := (congrFun (hq22 _ (by omega)) _).trans f342
        have f371 : ∀ m, m < k → σ22.2.2.1 (b + 1433) m = some (b + 1434 + 84 * m) ∧ kLC σ22 (b + 1434 + 84 * m) ∧ CR 0 v21 (b + 1434 + 84 * m) mS0 := fun m h9 => ⟨(hr22 m (by omega)).trans (f343 m h9).1, (f343 m h9).2.1.up (by omega) (fun n g1 g2 => (⟨congrFun hp22 (n), hq22 (n) (by omega), rfl⟩ : kAg σ21 v21 σ22 v21 (n))), (f343 m h9).2.2.up (fun n g1 g2 => (⟨congrFun hp22 (n), hq22 (n) (by omega), rfl⟩ : kAg σ21 v21 σ22 v21 (n)))⟩
        have f372 : σ22.2.1 (b + 1434 + 84 * k) = (0, 0) := (congrFun hp22 _).trans f344
        have f373 : kLC σ22 (b + 1434 + 84 * k) := hy21.1.up (by omega) (fun n g1 g2 => (⟨congrFun hp22 (n), hq22 (n) (by omega), rfl⟩ : kAg σ21 v21 σ22 v21 (n)))
        have f374 : CR 0 v21 (b + 1434 + 84 * k) mS0 := hy21.2.up (fun n g1 g2 => (⟨congrFun hp22 (n), hq22 (n) (by omega), rfl⟩ : kAg σ21 v21 σ22 v21 (n)))
        clear f317 f318 f319 f320 f321 f322 f323 f324 f325 f326 f327 f328 f329 f330 f331 f332 f333 f334 f335 f336 f337 f338 f339 f340 f341 f342 f343 f344
        refine P_iinc (v := nI (k + 1)) (ls2 := [some (.ref (b)), some (.int (nI (k + 1)))]) dX6_init_87 rfl (nI_inc _ 1) (by decide) rfl ?_
        refine P_goto (tgt := 69) dX6_init_90 (by decide) ?_
        refine A_bud (b2 := (169 - 84 * (k + 1), 4404 - 2201 * (k + 1))) ⟨by show 169 - 84 * (k + 1) ≤ 169 - 84 * k - 1 - 83; omega, by show 4404 - 2201 * (k + 1) ≤ 4404 - 2201 * k - 9 - 2192; omega⟩ ?_
        exact ih69 (k + 1) _ _ (by omega) (by omega) (by omega) hf22 f345 f346 f347 f348 f349 f350 f351 f352 f353 f354 f355 f356 f357 f358 f359 f360 f361 f362 f363 f364 f365 f366 f367 f368 f369 f370 (fun m h9 => by
          by_cases e9 : m = k
          · subst e9; exact ⟨hs22, f373, f374⟩
          · exact f371 m (by omega))
  exact hL69 3 0 _ _ (by omega) (by omega) hcc hfc e67_0 e67_1 e67_2 e67_3 e67_4 e67_5 e67_6 e67_7 e67_8 e67_9 e67_10 e67_11 e67_12 e67_13 e67_14 e67_15 e67_16 e67_17 e67_18 e67_19 e67_20 e67_21 e67_22 e67_23 e67_24 e67_25 (fun m h9 => absurd h9 (Nat.not_lt_zero m))
set_option maxHeartbeats 4000000 in
set_option maxRecDepth 100000 in
theorem c_X6_init_s59 {σ : vS} {v : vV} {b : Nat} {σc : vS} {vc : vV} (hk0 : σ.2.1 (b) = (6, 0)) (hp0 : b + 1603 < 1000000) (hcc : σc.1 = b + 1433) (hfc : σc.2.2.2 = true) (e59_0 : σc.2.1 (b) = (6, 0)) (e59_1 : ∀ k, vc (b) k = nI 0) (e59_2 : ∀ n, n < b → kAg σ v σc vc n) (e59_3 : σc.2.1 (b + 1) = (5, 0)) (e59_4 : kTX σc (b + 1)) (e59_5 : mTC vc (b + 1) (fun _ => 0) 0) (e59_6 : σc.2.2.1 (b) 0 = some (b + 1)) (e59_7 : σc.2.1 (b + 3) = (0, 0)) (e59_8 : kLC σc (b + 3)) (e59_9 : CR 0 vc (b + 3) mS0) (e59_10 : σc.2.2.1 (b) 1 = some (b + 3)) (e59_11 : σc.2.1 (b + 87) = (0, 0)) (e59_12 : kLC σc (b + 87)) (e59_13 : CR 0 vc (b + 87) mS0) (e59_14 : σc.2.2.1 (b) 2 = some (b + 87)) (e59_15 : σc.2.1 (b + 171) = (0, 0)) (e59_16 : kLC σc (b + 171)) (e59_17 : CR 0 vc (b + 171) mS0) (e59_18 : σc.2.2.1 (b) 3 = some (b + 171)) (e59_19 : σc.2.1 (b + 255) = (1, 0)) (e59_20 : kLH σc (b + 255)) (e59_21 : HR vc (b + 255) []) (e59_22 : σc.2.2.1 (b) 4 = some (b + 255)) : vP M_X6_init 59 [some (.ref (b)), none] [] (170, 4406) (σc, vc) (vN (kIn σ v b 1603 (fun σ1 v1 => kLT σ1 b ∧ KT v1 b gT0))) := by
  refine P_aload_n dX6_init_59 rfl rfl ?_
  refine P_iconst (v := nI 2) dX6_init_60 (by decide) ?_
  refine A_newQ (N := b + 1433) (2) 10 hcc hfc (by omega) dX6_init_61 (Or.inl ⟨rfl, rfl⟩) nX6_16 wo_X0 rfl (by omega) ⟨by show 1 ≤ 170; omega, by show 2 ≤ 4406; omega⟩ (fun σ16 v16 hc16 hf16 ha16 hk16 hz16 => ?_)
  replace hc16 : σ16.1 = b + 1434 := by omega
  have f186 : σ16.2.1 (b) = (6, 0) := (ha16 (b) (by omega)).1.trans e59_0
  have f187 : ∀ k, v16 (b) k = nI 0 := fun k => (congrFun (ha16 (b) (by omega)).2.2 k).trans (e59_1 k)
  have f188 : ∀ n, n < b → kAg σ v σ16 v16 n := fun n h9 => (e59_2 n h9).tr (ha16 (n) (by omega))
  have f189 : σ16.2.1 (b + 1) = (5, 0) := (ha16 (b + 1) (by omega)).1.trans e59_3
  have f190 : kTX σ16 (b + 1) := e59_4.up (by omega) (fun n g1 g2 => ha16 (n) (by omega))
  have f191 : mTC v16 (b + 1) (fun _ => 0) 0 := e59_5.of (ha16 (b + 1) (by omega)).2.2 (ha16 (b + 1 + 1) (by omega)).2.2
  have f192 : σ16.2.2.1 (b) 0 = some (b + 1) := (congrFun (ha16 (b) (by omega)).2.1 _).trans e59_6
  have f193 : σ16.2.1 (b + 3) = (0, 0) := (ha16 (b + 3) (by omega)).1.trans e59_7
  have f194 : kLC σ16 (b + 3) := e59_8.up (by omega) (fun n g1 g2 => ha16 (n) (by omega))
  have f195 : CR 0 v16 (b + 3) mS0 := e59_9.up (fun n g1 g2 => ha16 (n) (by omega))
  have f196 : σ16.2.2.1 (b) 1 = some (b + 3) := (congrFun (ha16 (b) (by omega)).2.1 _).trans e59_10
  have f197 : σ16.2.1 (b + 87) = (0, 0) := (ha16 (b + 87) (by omega)).1.trans e59_11
  have f198 : kLC σ16 (b + 87) := e59_12.up (by omega) (fun n g1 g2 => ha16 (n) (by omega))
  have f199 : CR 0 v16 (b + 87) mS0 := e59_13.up (fun n g1 g2 => ha16 (n) (by omega))
  have f200 : σ16.2.2.1 (b) 2 = some (b + 87) := (congrFun (ha16 (b) (by omega)).2.1 _).trans e59_14
  have f201 : σ16.2.1 (b + 171) = (0, 0) := (ha16 (b + 171) (by omega)).1.trans e59_15
  have f202 : kLC σ16 (b + 171) := e59_16.up (by omega) (fun n g1 g2 => ha16 (n) (by omega))
  have f203 : CR 0 v16 (b + 171) mS0 := e59_17.up (fun n g1 g2 => ha16 (n) (by omega))
  have f204 : σ16.2.2.1 (b) 3 = some (b + 171) := (congrFun (ha16 (b) (by omega)).2.1 _).trans e59_18
  have f205 : σ16.2.1 (b + 255) = (1, 0) := (ha16 (b + 255) (by omega)).1.trans e59_19
  have f206 : kLH σ16 (b + 255) := e59_20.up (by omega) (fun n g1 g2 => ha16 (n) (by omega))
  have f207 : HR v16 (b + 255) [] := e59_21.up (fun n g1 g2 => ha16 (n) (by omega))
  have f208 : σ16.2.2.1 (b) 4 = some (b + 255) := (congrFun (ha16 (b) (by omega)).2.1 _).trans e59_22
  refine A_bud (b2 := (169, 4404)) ⟨by show 169 ≤ 170 - 1; omega, by show 4404 ≤ 4406 - 2; omega⟩ ?_
  refine A_putr dX6_init_64 kX6 fX6_36 rfl (by decide) rfl rfl rfl ⟨⟨(by show b < σ16.1; omega), by omega⟩, f186⟩ (by omega) (fun σ17 hc17 hf17 hp17 hq17 hr17 hs17 => ?_)
  replace hc17 : σ17.1 = b + 1434 := hc17.trans hc16
  replace hf17 : σ17.2.2.2 = true := hf17.trans hf16
  have f209 : σ17.2.1 (b) = (6, 0) := (congrFun hp17 _).trans f186
  have f210 : ∀ k, v16 (b) k = nI 0 := f187
  have f211 : ∀ n, n < b → kAg σ v σ17 v16 n := fun n h9 => (f188 n h9).tr (⟨congrFun hp17 (n), hq17 (n) (by omega), rfl⟩ : kAg σ16 v16 σ17 v16 (n))
  have f212 : σ17.2.1 (b + 1) = (5, 0) := (congrFun hp17 _).trans f189
  have f213 : kTX σ17 (b + 1) := f190.up (by omega) (fun n g1 g2 => (⟨congrFun hp17 (n), hq17 (n) (by omega), rfl⟩ : kAg σ16 v16 σ17 v16 (n)))
  have f214 : mTC v16 (b + 1) (fun _ => 0) 0 := f191.of ((⟨congrFun hp17 (b + 1), hq17 (b + 1) (by omega), rfl⟩ : kAg σ16 v16 σ17 v16 (b + 1))).2.2 ((⟨congrFun hp17 (b + 1 + 1), hq17 (b + 1 + 1) (by omega), rfl⟩ : kAg σ16 v16 σ17 v16 (b + 1 + 1))).2.2
  have f215 : σ17.2.2.1 (b) 0 = some (b + 1) := (hr17 _ (by decide)).trans f192
  have f216 : σ17.2.1 (b + 3) = (0, 0) := (congrFun hp17 _).trans f193
  have f217 : kLC σ17 (b + 3) := f194.up (by omega) (fun n g1 g2 => (⟨congrFun hp17 (n), hq17 (n) (by omega), rfl⟩ : kAg σ16 v16 σ17 v16 (n)))
  have f218 : CR 0 v16 (b + 3) mS0 := f195.up (fun n g1 g2 => (⟨congrFun hp17 (n), hq17 (n) (by omega), rfl⟩ : kAg σ16 v16 σ17 v16 (n)))
  have f219 : σ17.2.2.1 (b) 1 = some (b + 3) := (hr17 _ (by decide)).trans f196
  have f220 : σ17.2.1 (b + 87) = (0, 0) := (congrFun hp17 _).trans f197
  have f221 : kLC σ17 (b + 87) := f198.up (by omega) (fun n g1 g2 => (⟨congrFun hp17 (n), hq17 (n) (by omega), rfl⟩ : kAg σ16 v16 σ17 v16 (n)))
  have f222 : CR 0 v16 (b + 87) mS0 := f199.up (fun n g1 g2 => (⟨congrFun hp17 (n), hq17 (n) (by omega), rfl⟩ : kAg σ16 v16 σ17 v16 (n)))
  have f223 : σ17.2.2.1 (b) 2 = some (b + 87) := (hr17 _ (by decide)).trans f200
  have f224 : σ17.2.1 (b + 171) = (0, 0) := (congrFun hp17 _).trans f201
  have f225 : kLC σ17 (b + 171) := f202.up (by omega) (fun n g1 g2 => (⟨congrFun hp17 (n), hq17 (n) (by omega), rfl⟩ : kAg σ16 v16 σ17 v16 (n)))
  have f226 : CR 0 v16 (b + 171) mS0 := f203.up (fun n g1 g2 => (⟨congrFun hp17 (n), hq17 (n) (by omega), rfl⟩ : kAg σ16 v16 σ17 v16 (n)))
  have f227 : σ17.2.2.1 (b) 3 = some (b + 171) := (hr17 _ (by decide)).trans f204
  have f228 : σ17.2.1 (b + 255) = (1, 0) := (congrFun hp17 _).trans f205
  have f229 : kLH σ17 (b + 255) := f206.up (by omega) (fun n g1 g2 => (⟨congrFun hp17 (n), hq17 (n) (by omega), rfl⟩ : kAg σ16 v16 σ17 v16 (n)))
  have f230 : HR v16 (b + 255) [] := f207.up (fun n g1 g2 => (⟨congrFun hp17 (n), hq17 (n) (by omega), rfl⟩ : kAg σ16 v16 σ17 v16 (n)))
  have f231 : σ17.2.2.1 (b) 4 = some (b + 255) := (hr17 _ (by decide)).trans f208
  have f232 : σ17.2.1 (b + 1433) = (10, 2) := (congrFun hp17 _).trans hk16
  have f233 : ∀ k, v16 (b + 1433) k = nI 0 := hz16
  clear f186 f187 f188 f189 f190 f191 f192 f193 f194 f195 f196 f197 f198 f199 f200 f201 f202 f203 f204 f205 f206 f207 f208 hk16 hz16
  exact c_X6_init_s67 (σ := σ) (v := v) hk0 hp0 hc17 hf17 (f209) (f210) (f211) (f212) (f213) (f214) (f215) (f216) (f217) (f218) (f219) (f220) (f221) (f222) (f223) (f224) (f225) (f226) (f227) (f228) (f229) (f230) (f231) (f232) (f233) (hs17)
set_option maxHeartbeats 4000000 in
set_option maxRecDepth 100000 in
theorem c_X6_init_s48 {σ : vS} {v : vV} {b : Nat} {σc : vS} {vc : vV} (hk0 : σ.2.1 (b) = (6, 0)) (hp0 : b + 1603 < 1000000) (hcc : σc.1 = b + 255) (hfc : σc.2.2.2 = true) (e48_0 : σc.2.1 (b) = (6, 0)) (e48_1 : ∀ k, vc (b) k = nI 0) (e48_2 : ∀ n, n < b → kAg σ v σc vc n) (e48_3 : σc.2.1 (b + 1) = (5, 0)) (e48_4 : kTX σc (b + 1)) (e48_5 : mTC vc (b + 1) (fun _ => 0) 0) (e48_6 : σc.2.2.1 (b) 0 = some (b + 1)) (e48_7 : σc.2.1 (b + 3) = (0, 0)) (e48_8 : kLC σc (b + 3)) (e48_9 : CR 0 vc (b + 3) mS0) (e48_10 : σc.2.2.1 (b) 1 = some (b + 3)) (e48_11 : σc.2.1 (b + 87) = (0, 0)) (e48_12 : kLC σc (b + 87)) (e48_13 : CR 0 vc (b + 87) mS0) (e48_14 : σc.2.2.1 (b) 2 = some (b + 87)) (e48_15 : σc.2.1 (b + 171) = (0, 0)) (e48_16 : kLC σc (b + 171)) (e48_17 : CR 0 vc (b + 171) mS0) (e48_18 : σc.2.2.1 (b) 3 = some (b + 171)) : vP M_X6_init 48 [some (.ref (b)), none] [] (1348, 35237) (σc, vc) (vN (kIn σ v b 1603 (fun σ1 v1 => kLT σ1 b ∧ KT v1 b gT0))) := by
  refine P_aload_n dX6_init_48 rfl rfl ?_
  refine A_newO (N := b + 255) hcc hfc (by omega) dX6_init_49 kX1 nX6_29 nnX1 niX1 ⟨by show 1 ≤ 1348; omega, by show 3 ≤ 35237; omega⟩ (fun σ13 v13 hc13 hf13 ha13 hk13 hz13 => ?_)
  replace hc13 : σ13.1 = b + 256 := by omega
  have f125 : σ13.2.1 (b) = (6, 0) := (ha13 (b) (by omega)).1.trans e48_0
  have f126 : ∀ k, v13 (b) k = nI 0 := fun k => (congrFun (ha13 (b) (by omega)).2.2 k).trans (e48_1 k)
  have f127 : ∀ n, n < b → kAg σ v σ13 v13 n := fun n h9 => (e48_2 n h9).tr (ha13 (n) (by omega))
  have f128 : σ13.2.1 (b + 1) = (5, 0) := (ha13 (b + 1) (by omega)).1.trans e48_3
  have f129 : kTX σ13 (b + 1) := e48_4.up (by omega) (fun n g1 g2 => ha13 (n) (by omega))
  have f130 : mTC v13 (b + 1) (fun _ => 0) 0 := e48_5.of (ha13 (b + 1) (by omega)).2.2 (ha13 (b + 1 + 1) (by omega)).2.2
  have f131 : σ13.2.2.1 (b) 0 = some (b + 1) := (congrFun (ha13 (b) (by omega)).2.1 _).trans e48_6
  have f132 : σ13.2.1 (b + 3) = (0, 0) := (ha13 (b + 3) (by omega)).1.trans e48_7
  have f133 : kLC σ13 (b + 3) := e48_8.up (by omega) (fun n g1 g2 => ha13 (n) (by omega))
  have f134 : CR 0 v13 (b + 3) mS0 := e48_9.up (fun n g1 g2 => ha13 (n) (by omega))
  have f135 : σ13.2.2.1 (b) 1 = some (b + 3) := (congrFun (ha13 (b) (by omega)).2.1 _).trans e48_10
  have f136 : σ13.2.1 (b + 87) = (0, 0) := (ha13 (b + 87) (by omega)).1.trans e48_11
  have f137 : kLC σ13 (b + 87) := e48_12.up (by omega) (fun n g1 g2 => ha13 (n) (by omega))
  have f138 : CR 0 v13 (b + 87) mS0 := e48_13.up (fun n g1 g2 => ha13 (n) (by omega))
  have f139 : σ13.2.2.1 (b) 2 = some (b + 87) := (congrFun (ha13 (b) (by omega)).2.1 _).trans e48_14
  have f140 : σ13.2.1 (b + 171) = (0, 0) := (ha13 (b + 171) (by omega)).1.trans e48_15
  have f141 : kLC σ13 (b + 171) := e48_16.up (by omega) (fun n g1 g2 => ha13 (n) (by omega))
  have f142 : CR 0 v13 (b + 171) mS0 := e48_17.up (fun n g1 g2 => ha13 (n) (by omega))
  have f143 : σ13.2.2.1 (b) 3 = some (b + 171) := (congrFun (ha13 (b) (by omega)).2.1 _).trans e48_18
  refine A_bud (b2 := (1347, 35234)) ⟨by show 1347 ≤ 1348 - 1; omega, by show 35234 ≤ 35237 - 3; omega⟩ ?_
  refine P_dup dX6_init_52 rfl ?_
  refine A_callI (p := b + 255) (w := 1178) (rest := [.ref (b + 255), .ref (b)]) (As := []) dX6_init_53 lX6_31 yk_X1_init yi_X1_init rfl rfl (by decide) rfl rfl (Nat.le_of_ble_eq_true rfl) ⟨by show 1177 ≤ 1347; omega, by show 30828 ≤ 35234; omega⟩ (by omega) hf13 (by omega) rfl (c_X1_init (by omega) hf13 hk13 hz13 (by omega)) (fun σ14 v14 hc14 hf14 ha14 hk14 hy14 => ?_)
  replace hc14 : σ14.1 = b + 1433 := by omega
  have f144 : σ14.2.1 (b) = (6, 0) := (ha14 (b) (by omega)).1.trans f125
  have f145 : ∀ k, v14 (b) k = nI 0 := fun k => (congrFun (ha14 (b) (by omega)).2.2 k).trans (f126 k)
  have f146 : ∀ n, n < b → kAg σ v σ14 v14 n := fun n h9 => (f127 n h9).tr (ha14 (n) (by omega))
  have f147 : σ14.2.1 (b + 1) = (5, 0) := (ha14 (b + 1) (by omega)).1.trans f128
  have f148 : kTX σ14 (b + 1) := f129.up (by omega) (fun n g1 g2 => ha14 (n) (by omega))
  have f149 : mTC v14 (b + 1) (fun _ => 0) 0 := f130.of (ha14 (b + 1) (by omega)).2.2 (ha14 (b + 1 + 1) (by omega)).2.2
  have f150 : σ14.2.2.1 (b) 0 = some (b + 1) := (congrFun (ha14 (b) (by omega)).2.1 _).trans f131
  have f151 : σ14.2.1 (b + 3) = (0, 0) := (ha14 (b + 3) (by omega)).1.trans f132
  have f152 : kLC σ14 (b + 3) := f133.up (by omega) (fun n g1 g2 => ha14 (n) (by omega))
  have f153 : CR 0 v14 (b + 3) mS0 := f134.up (fun n g1 g2 => ha14 (n) (by omega))
  have f154 : σ14.2.2.1 (b) 1 = some (b + 3) := (congrFun (ha14 (b) (by omega)).2.1 _).trans f135
  have f155 : σ14.2.1 (b + 87) = (0, 0) := (ha14 (b + 87) (by omega)).1.trans f136
  have f156 : kLC σ14 (b + 87) := f137.up (by omega) (fun n g1 g2 => ha14 (n) (by omega))
  have f157 : CR 0 v14 (b + 87) mS0 := f138.up (fun n g1 g2 => ha14 (n) (by omega))
  have f158 : σ14.2.2.1 (b) 2 = some (b + 87) := (congrFun (ha14 (b) (by omega)).2.1 _).trans f139
  have f159 : σ14.2.1 (b + 171) = (0, 0) := (ha14 (b + 171) (by omega)).1.trans f140
  have f160 : kLC σ14 (b + 171) := f141.up (by omega) (fun n g1 g2 => ha14 (n) (by omega))
  have f161 : CR 0 v14 (b + 171) mS0 := f142.up (fun n g1 g2 => ha14 (n) (by omega))
  have f162 : σ14.2.2.1 (b) 3 = some (b + 171) := (congrFun (ha14 (b) (by omega)).2.1 _).trans f143
  clear f125 f126 f127 f128 f129 f130 f131 f132 f133 f134 f135 f136 f137 f138 f139 f140 f141 f142 f143
  have f163 := hk14.trans hk13
  refine A_bud (b2 := (170, 4406)) ⟨by show 170 ≤ 1347 - 1177; omega, by show 4406 ≤ 35234 - 30828; omega⟩ ?_
  refine A_putr dX6_init_56 kX6 fX6_32 rfl (by decide) rfl rfl rfl ⟨⟨(by show b < σ14.1; omega), by omega⟩, f144⟩ (by omega) (fun σ15 hc15 hf15 hp15 hq15 hr15 hs15 => ?_)
  replace hc15 : σ15.1 = b + 1433 := hc15.trans hc14
  replace hf15 : σ15.2.2.2 = true := hf15.trans hf14
  have f164 : σ15.2.1 (b) = (6, 0) := (congrFun hp15 _).trans f144
  have f165 : ∀ k, v14 (b) k = nI 0 := f145
  have f166 : ∀ n, n < b → kAg σ v σ15 v14 n := fun n h9 => (f146 n h9).tr (⟨congrFun hp15 (n), hq15 (n) (by omega), rfl⟩ : kAg σ14 v14 σ15 v14 (n))
  have f167 : σ15.2.1 (b + 1) = (5, 0) := (congrFun hp15 _).trans f147
  have f168 : kTX σ15 (b + 1) := f148.up (by omega) (fun n g1 g2 => (⟨congrFun hp15 (n), hq15 (n) (by omega), rfl⟩ : kAg σ14 v14 σ15 v14 (n)))
  have f169 : mTC v14 (b + 1) (fun _ => 0) 0 := f149.of ((⟨congrFun hp15 (b + 1), hq15 (b + 1) (by omega), rfl⟩ : kAg σ14 v14 σ15 v14 (b + 1))).2.2 ((⟨congrFun hp15 (b + 1 + 1), hq15 (b + 1 + 1) (by omega), rfl⟩ : kAg σ14 v14 σ15 v14 (b + 1 + 1))).2.2
  have f170 : σ15.2.2.1 (b) 0 = some (b + 1) := (hr15 _ (by decide)).trans f150
  have f171 : σ15.2.1 (b + 3) = (0, 0) := (congrFun hp15 _).trans f151
  have f172 : kLC σ15 (b + 3) := f152.up (by omega) (fun n g1 g2 => (⟨congrFun hp15 (n), hq15 (n) (by omega), rfl⟩ : kAg σ14 v14 σ15 v14 (n)))
  have f173 : CR 0 v14 (b + 3) mS0 := f153.up (fun n g1 g2 => (⟨congrFun hp15 (n), hq15 (n) (by omega), rfl⟩ : kAg σ14 v14 σ15 v14 (n)))
  have f174 : σ15.2.2.1 (b) 1 = some (b + 3) := (hr15 _ (by decide)).trans f154
  have f175 : σ15.2.1 (b + 87) = (0, 0) := (congrFun hp15 _).trans f155
  have f176 : kLC σ15 (b + 87) := f156.up (by omega) (fun n g1 g2 => (⟨congrFun hp15 (n), hq15 (n) (by omega), rfl⟩ : kAg σ14 v14 σ15 v14 (n)))
  have f177 : CR 0 v14 (b + 87) mS0 := f157.up (fun n g1 g2 => (⟨congrFun hp15 (n), hq15 (n) (by omega), rfl⟩ : kAg σ14 v14 σ15 v14 (n)))
  have f178 : σ15.2.2.1 (b) 2 = some (b + 87) := (hr15 _ (by decide)).trans f158
  have f179 : σ15.2.1 (b + 171) = (0, 0) := (congrFun hp15 _).trans f159
  have f180 : kLC σ15 (b + 171) := f160.up (by omega) (fun n g1 g2 => (⟨congrFun hp15 (n), hq15 (n) (by omega), rfl⟩ : kAg σ14 v14 σ15 v14 (n)))
  have f181 : CR 0 v14 (b + 171) mS0 := f161.up (fun n g1 g2 => (⟨congrFun hp15 (n), hq15 (n) (by omega), rfl⟩ : kAg σ14 v14 σ15 v14 (n)))
  have f182 : σ15.2.2.1 (b) 3 = some (b + 171) := (hr15 _ (by decide)).trans f162
  have f183 : σ15.2.1 (b + 255) = (1, 0) := (congrFun hp15 _).trans f163
  have f184 : kLH σ15 (b + 255) := hy14.1.up (by omega) (fun n g1 g2 => (⟨congrFun hp15 (n), hq15 (n) (by omega), rfl⟩ : kAg σ14 v14 σ15 v14 (n)))
  have f185 : HR v14 (b + 255) [] := hy14.2.up (fun n g1 g2 => (⟨congrFun hp15 (n), hq15 (n) (by omega), rfl⟩ : kAg σ14 v14 σ15 v14 (n)))
  clear f144 f145 f146 f147 f148 f149 f150 f151 f152 f153 f154 f155 f156 f157 f158 f159 f160 f161 f162 f163
  exact c_X6_init_s59 (σ := σ) (v := v) hk0 hp0 hc15 hf15 (f164) (f165) (f166) (f167) (f168) (f169) (f170) (f171) (f172) (f173) (f174) (f175) (f176) (f177) (f178) (f179) (f180) (f181) (f182) (f183) (f184) (f185) (hs15)
set_option maxHeartbeats 4000000 in
set_option maxRecDepth 100000 in
theorem c_X6_init_s37 {σ : vS} {v : vV} {b : Nat} {σc : vS} {vc : vV} (hk0 : σ.2.1 (b) = (6, 0)) (hp0 : b + 1603 < 1000000) (hcc : σc.1 = b + 171) (hfc : σc.2.2.2 = true) (e37_0 : σc.2.1 (b) = (6, 0)) (e37_1 : ∀ k, vc (b) k = nI 0) (e37_2 : ∀ n, n < b → kAg σ v σc vc n) (e37_3 : σc.2.1 (b + 1) = (5, 0)) (e37_4 : kTX σc (b + 1)) (e37_5 : mTC vc (b + 1) (fun _ => 0) 0) (e37_6 : σc.2.2.1 (b) 0 = some (b + 1)) (e37_7 : σc.2.1 (b + 3) = (0, 0)) (e37_8 : kLC σc (b + 3)) (e37_9 : CR 0 vc (b + 3) mS0) (e37_10 : σc.2.2.1 (b) 1 = some (b + 3)) (e37_11 : σc.2.1 (b + 87) = (0, 0)) (e37_12 : kLC σc (b + 87)) (e37_13 : CR 0 vc (b + 87) mS0) (e37_14 : σc.2.2.1 (b) 2 = some (b + 87)) : vP M_X6_init 37 [some (.ref (b)), none] [] (1432, 37438) (σc, vc) (vN (kIn σ v b 1603 (fun σ1 v1 => kLT σ1 b ∧ KT v1 b gT0))) := by
  refine P_aload_n dX6_init_37 rfl rfl ?_
  refine A_newO (N := b + 171) hcc hfc (by omega) dX6_init_38 kX0 nX6_16 nnX0 niX0 ⟨by show 1 ≤ 1432; omega, by show 9 ≤ 37438; omega⟩ (fun σ10 v10 hc10 hf10 ha10 hk10 hz10 => ?_)
  replace hc10 : σ10.1 = b + 172 := by omega
  have f76 : σ10.2.1 (b) = (6, 0) := (ha10 (b) (by omega)).1.trans e37_0
  have f77 : ∀ k, v10 (b) k = nI 0 := fun k => (congrFun (ha10 (b) (by omega)).2.2 k).trans (e37_1 k)
  have f78 : ∀ n, n < b → kAg σ v σ10 v10 n := fun n h9 => (e37_2 n h9).tr (ha10 (n) (by omega))
  have f79 : σ10.2.1 (b + 1) = (5, 0) := (ha10 (b + 1) (by omega)).1.trans e37_3
  have f80 : kTX σ10 (b + 1) := e37_4.up (by omega) (fun n g1 g2 => ha10 (n) (by omega))
  have f81 : mTC v10 (b + 1) (fun _ => 0) 0 := e37_5.of (ha10 (b + 1) (by omega)).2.2 (ha10 (b + 1 + 1) (by omega)).2.2
  have f82 : σ10.2.2.1 (b) 0 = some (b + 1) := (congrFun (ha10 (b) (by omega)).2.1 _).trans e37_6
  have f83 : σ10.2.1 (b + 3) = (0, 0) := (ha10 (b + 3) (by omega)).1.trans e37_7
  have f84 : kLC σ10 (b + 3) := e37_8.up (by omega) (fun n g1 g2 => ha10 (n) (by omega))
  have f85 : CR 0 v10 (b + 3) mS0 := e37_9.up (fun n g1 g2 => ha10 (n) (by omega))
  have f86 : σ10.2.2.1 (b) 1 = some (b + 3) := (congrFun (ha10 (b) (by omega)).2.1 _).trans e37_10
  have f87 : σ10.2.1 (b + 87) = (0, 0) := (ha10 (b + 87) (by omega)).1.trans e37_11
  have f88 : kLC σ10 (b + 87) := e37_12.up (by omega) (fun n g1 g2 => ha10 (n) (by omega))
  have f89 : CR 0 v10 (b + 87) mS0 := e37_13.up (fun n g1 g2 => ha10 (n) (by omega))
  have f90 : σ10.2.2.1 (b) 2 = some (b + 87) := (congrFun (ha10 (b) (by omega)).2.1 _).trans e37_14
  refine A_bud (b2 := (1431, 37429)) ⟨by show 1431 ≤ 1432 - 1; omega, by show 37429 ≤ 37438 - 9; omega⟩ ?_
  refine P_dup dX6_init_41 rfl ?_
  refine A_callI (p := b + 171) (w := 84) (rest := [.ref (b + 171), .ref (b)]) (As := []) dX6_init_42 lX6_18 yk_X0_init yi_X0_init rfl rfl (by decide) rfl rfl (Nat.le_of_ble_eq_true rfl) ⟨by show 83 ≤ 1431; omega, by show 2192 ≤ 37429; omega⟩ (by omega) hf10 (by omega) rfl (c_X0_init (by omega) hf10 hk10 hz10 (by omega)) (fun σ11 v11 hc11 hf11 ha11 hk11 hy11 => ?_)
  replace hc11 : σ11.1 = b + 255 := by omega
  have f91 : σ11.2.1 (b) = (6, 0) := (ha11 (b) (by omega)).1.trans f76
  have f92 : ∀ k, v11 (b) k = nI 0 := fun k => (congrFun (ha11 (b) (by omega)).2.2 k).trans (f77 k)
  have f93 : ∀ n, n < b → kAg σ v σ11 v11 n := fun n h9 => (f78 n h9).tr (ha11 (n) (by omega))
  have f94 : σ11.2.1 (b + 1) = (5, 0) := (ha11 (b + 1) (by omega)).1.trans f79
  have f95 : kTX σ11 (b + 1) := f80.up (by omega) (fun n g1 g2 => ha11 (n) (by omega))
  have f96 : mTC v11 (b + 1) (fun _ => 0) 0 := f81.of (ha11 (b + 1) (by omega)).2.2 (ha11 (b + 1 + 1) (by omega)).2.2
  have f97 : σ11.2.2.1 (b) 0 = some (b + 1) := (congrFun (ha11 (b) (by omega)).2.1 _).trans f82
  have f98 : σ11.2.1 (b + 3) = (0, 0) := (ha11 (b + 3) (by omega)).1.trans f83
  have f99 : kLC σ11 (b + 3) := f84.up (by omega) (fun n g1 g2 => ha11 (n) (by omega))
  have f100 : CR 0 v11 (b + 3) mS0 := f85.up (fun n g1 g2 => ha11 (n) (by omega))
  have f101 : σ11.2.2.1 (b) 1 = some (b + 3) := (congrFun (ha11 (b) (by omega)).2.1 _).trans f86
  have f102 : σ11.2.1 (b + 87) = (0, 0) := (ha11 (b + 87) (by omega)).1.trans f87
  have f103 : kLC σ11 (b + 87) := f88.up (by omega) (fun n g1 g2 => ha11 (n) (by omega))
  have f104 : CR 0 v11 (b + 87) mS0 := f89.up (fun n g1 g2 => ha11 (n) (by omega))
  have f105 : σ11.2.2.1 (b) 2 = some (b + 87) := (congrFun (ha11 (b) (by omega)).2.1 _).trans f90
  clear f76 f77 f78 f79 f80 f81 f82 f83 f84 f85 f86 f87 f88 f89 f90
  have f106 := hk11.trans hk10
  refine A_bud (b2 := (1348, 35237)) ⟨by show 1348 ≤ 1431 - 83; omega, by show 35237 ≤ 37429 - 2192; omega⟩ ?_
  refine A_putr dX6_init_45 kX6 fX6_26 rfl (by decide) rfl rfl rfl ⟨⟨(by show b < σ11.1; omega), by omega⟩, f91⟩ (by omega) (fun σ12 hc12 hf12 hp12 hq12 hr12 hs12 => ?_)
  replace hc12 : σ12.1 = b + 255 := hc12.trans hc11
  replace hf12 : σ12.2.2.2 = true := hf12.trans hf11
  have f107 : σ12.2.1 (b) = (6, 0) := (congrFun hp12 _).trans f91
  have f108 : ∀ k, v11 (b) k = nI 0 := f92
  have f109 : ∀ n, n < b → kAg σ v σ12 v11 n := fun n h9 => (f93 n h9).tr (⟨congrFun hp12 (n), hq12 (n) (by omega), rfl⟩ : kAg σ11 v11 σ12 v11 (n))
  have f110 : σ12.2.1 (b + 1) = (5, 0) := (congrFun hp12 _).trans f94
  have f111 : kTX σ12 (b + 1) := f95.up (by omega) (fun n g1 g2 => (⟨congrFun hp12 (n), hq12 (n) (by omega), rfl⟩ : kAg σ11 v11 σ12 v11 (n)))
  have f112 : mTC v11 (b + 1) (fun _ => 0) 0 := f96.of ((⟨congrFun hp12 (b + 1), hq12 (b + 1) (by omega), rfl⟩ : kAg σ11 v11 σ12 v11 (b + 1))).2.2 ((⟨congrFun hp12 (b + 1 + 1), hq12 (b + 1 + 1) (by omega), rfl⟩ : kAg σ11 v11 σ12 v11 (b + 1 + 1))).2.2
  have f113 : σ12.2.2.1 (b) 0 = some (b + 1) := (hr12 _ (by decide)).trans f97
  have f114 : σ12.2.1 (b + 3) = (0, 0) := (congrFun hp12 _).trans f98
  have f115 : kLC σ12 (b + 3) := f99.up (by omega) (fun n g1 g2 => (⟨congrFun hp12 (n), hq12 (n) (by omega), rfl⟩ : kAg σ11 v11 σ12 v11 (n)))
  have f116 : CR 0 v11 (b + 3) mS0 := f100.up (fun n g1 g2 => (⟨congrFun hp12 (n), hq12 (n) (by omega), rfl⟩ : kAg σ11 v11 σ12 v11 (n)))
  have f117 : σ12.2.2.1 (b) 1 = some (b + 3) := (hr12 _ (by decide)).trans f101
  have f118 : σ12.2.1 (b + 87) = (0, 0) := (congrFun hp12 _).trans f102
  have f119 : kLC σ12 (b + 87) := f103.up (by omega) (fun n g1 g2 => (⟨congrFun hp12 (n), hq12 (n) (by omega), rfl⟩ : kAg σ11 v11 σ12 v11 (n)))
  have f120 : CR 0 v11 (b + 87) mS0 := f104.up (fun n g1 g2 => (⟨congrFun hp12 (n), hq12 (n) (by omega), rfl⟩ : kAg σ11 v11 σ12 v11 (n)))
  have f121 : σ12.2.2.1 (b) 2 = some (b + 87) := (hr12 _ (by decide)).trans f105
  have f122 : σ12.2.1 (b + 171) = (0, 0) := (congrFun hp12 _).trans f106
  have f123 : kLC σ12 (b + 171) := hy11.1.up (by omega) (fun n g1 g2 => (⟨congrFun hp12 (n), hq12 (n) (by omega), rfl⟩ : kAg σ11 v11 σ12 v11 (n)))
  have f124 : CR 0 v11 (b + 171) mS0 := hy11.2.up (fun n g1 g2 => (⟨congrFun hp12 (n), hq12 (n) (by omega), rfl⟩ : kAg σ11 v11 σ12 v11 (n)))
  clear f91 f92 f93 f94 f95 f96 f97 f98 f99 f100 f101 f102 f103 f104 f105 f106
  exact c_X6_init_s48 (σ := σ) (v := v) hk0 hp0 hc12 hf12 (f107) (f108) (f109) (f110) (f111) (f112) (f113) (f114) (f115) (f116) (f117) (f118) (f119) (f120) (f121) (f122) (f123) (f124) (hs12)
set_option maxHeartbeats 4000000 in
set_option maxRecDepth 100000 in
theorem c_X6_init_s26 {σ : vS} {v : vV} {b : Nat} {σc : vS} {vc : vV} (hk0 : σ.2.1 (b) = (6, 0)) (hp0 : b + 1603 < 1000000) (hcc : σc.1 = b + 87) (hfc : σc.2.2.2 = true) (e26_0 : σc.2.1 (b) = (6, 0)) (e26_1 : ∀ k, vc (b) k = nI 0) (e26_2 : ∀ n, n < b → kAg σ v σc vc n) (e26_3 : σc.2.1 (b + 1) = (5, 0)) (e26_4 : kTX σc (b + 1)) (e26_5 : mTC vc (b + 1) (fun _ => 0) 0) (e26_6 : σc.2.2.1 (b) 0 = some (b + 1)) (e26_7 : σc.2.1 (b + 3) = (0, 0)) (e26_8 : kLC σc (b + 3)) (e26_9 : CR 0 vc (b + 3) mS0) (e26_10 : σc.2.2.1 (b) 1 = some (b + 3)) : vP M_X6_init 26 [some (.ref (b)), none] [] (1516, 39639) (σc, vc) (vN (kIn σ v b 1603 (fun σ1 v1 => kLT σ1 b ∧ KT v1 b gT0))) := by
  refine P_aload_n dX6_init_26 rfl rfl ?_
  refine A_newO (N := b + 87) hcc hfc (by omega) dX6_init_27 kX0 nX6_16 nnX0 niX0 ⟨by show 1 ≤ 1516; omega, by show 9 ≤ 39639; omega⟩ (fun σ7 v7 hc7 hf7 ha7 hk7 hz7 => ?_)
  replace hc7 : σ7.1 = b + 88 := by omega
  have f39 : σ7.2.1 (b) = (6, 0) := (ha7 (b) (by omega)).1.trans e26_0
  have f40 : ∀ k, v7 (b) k = nI 0 := fun k => (congrFun (ha7 (b) (by omega)).2.2 k).trans (e26_1 k)
  have f41 : ∀ n, n < b → kAg σ v σ7 v7 n := fun n h9 => (e26_2 n h9).tr (ha7 (n) (by omega))
  have f42 : σ7.2.1 (b + 1) = (5, 0) := (ha7 (b + 1) (by omega)).1.trans e26_3
  have f43 : kTX σ7 (b + 1) := e26_4.up (by omega) (fun n g1 g2 => ha7 (n) (by omega))
  have f44 : mTC v7 (b + 1) (fun _ => 0) 0 := e26_5.of (ha7 (b + 1) (by omega)).2.2 (ha7 (b + 1 + 1) (by omega)).2.2
  have f45 : σ7.2.2.1 (b) 0 = some (b + 1) := (congrFun (ha7 (b) (by omega)).2.1 _).trans e26_6
  have f46 : σ7.2.1 (b + 3) = (0, 0) := (ha7 (b + 3) (by omega)).1.trans e26_7
  have f47 : kLC σ7 (b + 3) := e26_8.up (by omega) (fun n g1 g2 => ha7 (n) (by omega))
  have f48 : CR 0 v7 (b + 3) mS0 := e26_9.up (fun n g1 g2 => ha7 (n) (by omega))
  have f49 : σ7.2.2.1 (b) 1 = some (b + 3) := (congrFun (ha7 (b) (by omega)).2.1 _).trans e26_10
  refine A_bud (b2 := (1515, 39630)) ⟨by show 1515 ≤ 1516 - 1; omega, by show 39630 ≤ 39639 - 9; omega⟩ ?_
  refine P_dup dX6_init_30 rfl ?_
  refine A_callI (p := b + 87) (w := 84) (rest := [.ref (b + 87), .ref (b)]) (As := []) dX6_init_31 lX6_18 yk_X0_init yi_X0_init rfl rfl (by decide) rfl rfl (Nat.le_of_ble_eq_true rfl) ⟨by show 83 ≤ 1515; omega, by show 2192 ≤ 39630; omega⟩ (by omega) hf7 (by omega) rfl (c_X0_init (by omega) hf7 hk7 hz7 (by omega)) (fun σ8 v8 hc8 hf8 ha8 hk8 hy8 => ?_)
  replace hc8 : σ8.1 = b + 171 := by omega
  have f50 : σ8.2.1 (b) = (6, 0) := (ha8 (b) (by omega)).1.trans f39
  have f51 : ∀ k, v8 (b) k = nI 0 := fun k => (congrFun (ha8 (b) (by omega)).2.2 k).trans (f40 k)
  have f52 : ∀ n, n < b → kAg σ v σ8 v8 n := fun n h9 => (f41 n h9).tr (ha8 (n) (by omega))
  have f53 : σ8.2.1 (b + 1) = (5, 0) := (ha8 (b + 1) (by omega)).1.trans f42
  have f54 : kTX σ8 (b + 1) := f43.up (by omega) (fun n g1 g2 => ha8 (n) (by omega))
  have f55 : mTC v8 (b + 1) (fun _ => 0) 0 := f44.of (ha8 (b + 1) (by omega)).2.2 (ha8 (b + 1 + 1) (by omega)).2.2
  have f56 : σ8.2.2.1 (b) 0 = some (b + 1) := (congrFun (ha8 (b) (by omega)).2.1 _).trans f45
  have f57 : σ8.2.1 (b + 3) = (0, 0) := (ha8 (b + 3) (by omega)).1.trans f46
  have f58 : kLC σ8 (b + 3) := f47.up (by omega) (fun n g1 g2 => ha8 (n) (by omega))
  have f59 : CR 0 v8 (b + 3) mS0 := f48.up (fun n g1 g2 => ha8 (n) (by omega))
  have f60 : σ8.2.2.1 (b) 1 = some (b + 3) := (congrFun (ha8 (b) (by omega)).2.1 _).trans f49
  clear f39 f40 f41 f42 f43 f44 f45 f46 f47 f48 f49
  have f61 := hk8.trans hk7
  refine A_bud (b2 := (1432, 37438)) ⟨by show 1432 ≤ 1515 - 83; omega, by show 37438 ≤ 39630 - 2192; omega⟩ ?_
  refine A_putr dX6_init_34 kX6 fX6_23 rfl (by decide) rfl rfl rfl ⟨⟨(by show b < σ8.1; omega), by omega⟩, f50⟩ (by omega) (fun σ9 hc9 hf9 hp9 hq9 hr9 hs9 => ?_)
  replace hc9 : σ9.1 = b + 171 := hc9.trans hc8
  replace hf9 : σ9.2.2.2 = true := hf9.trans hf8
  have f62 : σ9.2.1 (b) = (6, 0) := (congrFun hp9 _).trans f50
  have f63 : ∀ k, v8 (b) k = nI 0 := f51
  have f64 : ∀ n, n < b → kAg σ v σ9 v8 n := fun n h9 => (f52 n h9).tr (⟨congrFun hp9 (n), hq9 (n) (by omega), rfl⟩ : kAg σ8 v8 σ9 v8 (n))
  have f65 : σ9.2.1 (b + 1) = (5, 0) := (congrFun hp9 _).trans f53
  have f66 : kTX σ9 (b + 1) := f54.up (by omega) (fun n g1 g2 => (⟨congrFun hp9 (n), hq9 (n) (by omega), rfl⟩ : kAg σ8 v8 σ9 v8 (n)))
  have f67 : mTC v8 (b + 1) (fun _ => 0) 0 := f55.of ((⟨congrFun hp9 (b + 1), hq9 (b + 1) (by omega), rfl⟩ : kAg σ8 v8 σ9 v8 (b + 1))).2.2 ((⟨congrFun hp9 (b + 1 + 1), hq9 (b + 1 + 1) (by omega), rfl⟩ : kAg σ8 v8 σ9 v8 (b + 1 + 1))).2.2
  have f68 : σ9.2.2.1 (b) 0 = some (b + 1) := (hr9 _ (by decide)).trans f56
  have f69 : σ9.2.1 (b + 3) = (0, 0) := (congrFun hp9 _).trans f57
  have f70 : kLC σ9 (b + 3) := f58.up (by omega) (fun n g1 g2 => (⟨congrFun hp9 (n), hq9 (n) (by omega), rfl⟩ : kAg σ8 v8 σ9 v8 (n)))
  have f71 : CR 0 v8 (b + 3) mS0 := f59.up (fun n g1 g2 => (⟨congrFun hp9 (n), hq9 (n) (by omega), rfl⟩ : kAg σ8 v8 σ9 v8 (n)))
  have f72 : σ9.2.2.1 (b) 1 = some (b + 3) := (hr9 _ (by decide)).trans f60
  have f73 : σ9.2.1 (b + 87) = (0, 0) := (congrFun hp9 _).trans f61
  have f74 : kLC σ9 (b + 87) := hy8.1.up (by omega) (fun n g1 g2 => (⟨congrFun hp9 (n), hq9 (n) (by omega), rfl⟩ : kAg σ8 v8 σ9 v8 (n)))
  have f75 : CR 0 v8 (b + 87) mS0 := hy8.2.up (fun n g1 g2 => (⟨congrFun hp9 (n), hq9 (n) (by omega), rfl⟩ : kAg σ8 v8 σ9 v8 (n)))
  clear f50 f51 f52 f53 f54 f55 f56 f57 f58 f59 f60 f61
  exact c_X6_init_s37 (σ := σ) (v := v) hk0 hp0 hc9 hf9 (f62) (f63) (f64) (f65) (f66) (f67) (f68) (f69) (f70) (f71) (f72) (f73) (f74) (f75) (hs9)
set_option maxHeartbeats 4000000 in
set_option maxRecDepth 100000 in
theorem c_X6_init {σ : vS} {v : vV} {b : Nat} (hc0 : σ.1 = b + 1) (hf0 : σ.2.2.2 = true) (hk0 : σ.2.1 (b) = (6, 0)) (hz0 : ∀ k, v (b) k = nI 0) (hp0 : b + 1603 < 1000000) : vC M_X6_init yX6_init [.ref (b)] (σ, v) (kIn σ v b 1603 (fun σ1 v1 => kLT σ1 b ∧ KT v1 b gT0)) := by
  have hO0 : ∀ n, n < b → kAg σ v σ v n := fun _ _ => kAg.rf
  refine vC_of (ls := [some (.ref (b)), none]) pn_X6 rfl rfl (Nat.le_of_ble_eq_true rfl) rfl ?_
  refine A_bud (b2 := (1602, 41962)) (by decide) ?_
  refine P_aload_n dX6_init_0 rfl rfl ?_
  refine P_oinit dX6_init_1 lX6_1 (by decide) (by omega) ?_
  refine P_aload_n dX6_init_4 rfl rfl ?_
  refine A_newO (N := b + 1) hc0 hf0 (by omega) dX6_init_5 kX5 nX6_7 nnX5 niX5 ⟨by show 1 ≤ 1602; omega, by show 2 ≤ 41962; omega⟩ (fun σ1 v1 hc1 hf1 ha1 hk1 hz1 => ?_)
  replace hc1 : σ1.1 = b + 2 := by omega
  have f1 : σ1.2.1 (b) = (6, 0) := (ha1 (b) (by omega)).1.trans hk0
  have f2 : ∀ k, v1 (b) k = nI 0 := fun k => (congrFun (ha1 (b) (by omega)).2.2 k).trans (hz0 k)
  have f3 : ∀ n, n < b → kAg σ v σ1 v1 n := fun n h9 => (hO0 n h9).tr (ha1 (n) (by omega))
  refine A_bud (b2 := (1601, 41960)) ⟨by show 1601 ≤ 1602 - 1; omega, by show 41960 ≤ 41962 - 2; omega⟩ ?_
  refine P_dup dX6_init_8 rfl ?_
  refine A_callIN (p := b + 1) (w := 2) (rest := [.ref (b + 1), .ref (b)]) (As := []) dX6_init_9 lnX6_9 yk_X5_init yi_X5_init rfl rfl (by decide) rfl rfl (Nat.le_of_ble_eq_true rfl) ⟨by show 1 ≤ 1601; omega, by show 120 ≤ 41960; omega⟩ (by omega) hf1 (by omega) rfl (c_X5_init (by omega) hf1 hk1 hz1 (by omega)) (fun σ2 v2 hc2 hf2 ha2 hk2 hy2 => ?_)
  replace hc2 : σ2.1 = b + 3 := by omega
  have f4 : σ2.2.1 (b) = (6, 0) := (ha2 (b) (by omega)).1.trans f1
  have f5 : ∀ k, v2 (b) k = nI 0 := fun k => (congrFun (ha2 (b) (by omega)).2.2 k).trans (f2 k)
  have f6 : ∀ n, n < b → kAg σ v σ2 v2 n := fun n h9 => (f3 n h9).tr (ha2 (n) (by omega))
  clear f1 f2 f3
  have f7 := hk2.trans hk1
  refine A_bud (b2 := (1600, 41840)) ⟨by show 1600 ≤ 1601 - 1; omega, by show 41840 ≤ 41960 - 120; omega⟩ ?_
  refine A_putr dX6_init_12 kX6 fX6_10 rfl (by decide) rfl rfl rfl ⟨⟨(by show b < σ2.1; omega), by omega⟩, f4⟩ (by omega) (fun σ3 hc3 hf3 hp3 hq3 hr3 hs3 => ?_)
  replace hc3 : σ3.1 = b + 3 := hc3.trans hc2
  replace hf3 : σ3.2.2.2 = true := hf3.trans hf2
  have f8 : σ3.2.1 (b) = (6, 0) := (congrFun hp3 _).trans f4
  have f9 : ∀ k, v2 (b) k = nI 0 := f5
  have f10 : ∀ n, n < b → kAg σ v σ3 v2 n := fun n h9 => (f6 n h9).tr (⟨congrFun hp3 (n), hq3 (n) (by omega), rfl⟩ : kAg σ2 v2 σ3 v2 (n))
  have f11 : σ3.2.1 (b + 1) = (5, 0) := (congrFun hp3 _).trans f7
  have f12 : kTX σ3 (b + 1) := hy2.1.up (by omega) (fun n g1 g2 => (⟨congrFun hp3 (n), hq3 (n) (by omega), rfl⟩ : kAg σ2 v2 σ3 v2 (n)))
  have f13 : mTC v2 (b + 1) (fun _ => 0) 0 := hy2.2.of ((⟨congrFun hp3 (b + 1), hq3 (b + 1) (by omega), rfl⟩ : kAg σ2 v2 σ3 v2 (b + 1))).2.2 ((⟨congrFun hp3 (b + 1 + 1), hq3 (b + 1 + 1) (by omega), rfl⟩ : kAg σ2 v2 σ3 v2 (b + 1 + 1))).2.2
  clear f4 f5 f6 f7
  refine P_aload_n dX6_init_15 rfl rfl ?_
  refine A_newO (N := b + 3) hc3 hf3 (by omega) dX6_init_16 kX0 nX6_16 nnX0 niX0 ⟨by show 1 ≤ 1600; omega, by show 9 ≤ 41840; omega⟩ (fun σ4 v4 hc4 hf4 ha4 hk4 hz4 => ?_)
  replace hc4 : σ4.1 = b + 4 := by omega
  have f14 : σ4.2.1 (b) = (6, 0) := (ha4 (b) (by omega)).1.trans f8
  have f15 : ∀ k, v4 (b) k = nI 0 := fun k => (congrFun (ha4 (b) (by omega)).2.2 k).trans (f9 k)
  have f16 : ∀ n, n < b → kAg σ v σ4 v4 n := fun n h9 => (f10 n h9).tr (ha4 (n) (by omega))
  have f17 : σ4.2.1 (b + 1) = (5, 0) := (ha4 (b + 1) (by omega)).1.trans f11
  have f18 : kTX σ4 (b + 1) := f12.up (by omega) (fun n g1 g2 => ha4 (n) (by omega))
  have f19 : mTC v4 (b + 1) (fun _ => 0) 0 := f13.of (ha4 (b + 1) (by omega)).2.2 (ha4 (b + 1 + 1) (by omega)).2.2
  have f20 : σ4.2.2.1 (b) 0 = some (b + 1) := (congrFun (ha4 (b) (by omega)).2.1 _).trans hs3
  clear f8 f9 f10 f11 f12 f13 hs3
  refine A_bud (b2 := (1599, 41831)) ⟨by show 1599 ≤ 1600 - 1; omega, by show 41831 ≤ 41840 - 9; omega⟩ ?_
  refine P_dup dX6_init_19 rfl ?_
  refine A_callI (p := b + 3) (w := 84) (rest := [.ref (b + 3), .ref (b)]) (As := []) dX6_init_20 lX6_18 yk_X0_init yi_X0_init rfl rfl (by decide) rfl rfl (Nat.le_of_ble_eq_true rfl) ⟨by show 83 ≤ 1599; omega, by show 2192 ≤ 41831; omega⟩ (by omega) hf4 (by omega) rfl (c_X0_init (by omega) hf4 hk4 hz4 (by omega)) (fun σ5 v5 hc5 hf5 ha5 hk5 hy5 => ?_)
  replace hc5 : σ5.1 = b + 87 := by omega
  have f21 : σ5.2.1 (b) = (6, 0) := (ha5 (b) (by omega)).1.trans f14
  have f22 : ∀ k, v5 (b) k = nI 0 := fun k => (congrFun (ha5 (b) (by omega)).2.2 k).trans (f15 k)
  have f23 : ∀ n, n < b → kAg σ v σ5 v5 n := fun n h9 => (f16 n h9).tr (ha5 (n) (by omega))
  have f24 : σ5.2.1 (b + 1) = (5, 0) := (ha5 (b + 1) (by omega)).1.trans f17
  have f25 : kTX σ5 (b + 1) := f18.up (by omega) (fun n g1 g2 => ha5 (n) (by omega))
  have f26 : mTC v5 (b + 1) (fun _ => 0) 0 := f19.of (ha5 (b + 1) (by omega)).2.2 (ha5 (b + 1 + 1) (by omega)).2.2
  have f27 : σ5.2.2.1 (b) 0 = some (b + 1) := (congrFun (ha5 (b) (by omega)).2.1 _).trans f20
  clear f14 f15 f16 f17 f18 f19 f20
  have f28 := hk5.trans hk4
  refine A_bud (b2 := (1516, 39639)) ⟨by show 1516 ≤ 1599 - 83; omega, by show 39639 ≤ 41831 - 2192; omega⟩ ?_
  refine A_putr dX6_init_23 kX6 fX6_19 rfl (by decide) rfl rfl rfl ⟨⟨(by show b < σ5.1; omega), by omega⟩, f21⟩ (by omega) (fun σ6 hc6 hf6 hp6 hq6 hr6 hs6 => ?_)
  replace hc6 : σ6.1 = b + 87 := hc6.trans hc5
  replace hf6 : σ6.2.2.2 = true := hf6.trans hf5
  have f29 : σ6.2.1 (b) = (6, 0) := (congrFun hp6 _).trans f21
  have f30 : ∀ k, v5 (b) k = nI 0 := f22
  have f31 : ∀ n, n < b → kAg σ v σ6 v5 n := fun n h9 => (f23 n h9).tr (⟨congrFun hp6 (n), hq6 (n) (by omega), rfl⟩ : kAg σ5 v5 σ6 v5 (n))
  have f32 : σ6.2.1 (b + 1) = (5, 0) := (congrFun hp6 _).trans f24
  have f33 : kTX σ6 (b + 1) := f25.up (by omega) (fun n g1 g2 => (⟨congrFun hp6 (n), hq6 (n) (by omega), rfl⟩ : kAg σ5 v5 σ6 v5 (n)))
  have f34 : mTC v5 (b + 1) (fun _ => 0) 0 := f26.of ((⟨congrFun hp6 (b + 1), hq6 (b + 1) (by omega), rfl⟩ : kAg σ5 v5 σ6 v5 (b + 1))).2.2 ((⟨congrFun hp6 (b + 1 + 1), hq6 (b + 1 + 1) (by omega), rfl⟩ : kAg σ5 v5 σ6 v5 (b + 1 + 1))).2.2
  have f35 : σ6.2.2.1 (b) 0 = some (b + 1) := (hr6 _ (by decide)).trans f27
  have f36 : σ6.2.1 (b + 3) = (0, 0) := (congrFun hp6 _).trans f28
  have f37 : kLC σ6 (b + 3) := hy5.1.up (by omega) (fun n g1 g2 => (⟨congrFun hp6 (n), hq6 (n) (by omega), rfl⟩ : kAg σ5 v5 σ6 v5 (n)))
  have f38 : CR 0 v5 (b + 3) mS0 := hy5.2.up (fun n g1 g2 => (⟨congrFun hp6 (n), hq6 (n) (by omega), rfl⟩ : kAg σ5 v5 σ6 v5 (n)))
  clear f21 f22 f23 f24 f25 f26 f27 f28
  exact c_X6_init_s26 (σ := σ) (v := v) hk0 hp0 hc6 hf6 (f29) (f30) (f31) (f32) (f33) (f34) (f35) (f36) (f37) (f38) (hs6)
