set_option maxHeartbeats 4000000 in
set_option maxRecDepth 100000 in
theorem c_X7_init_s63 {σ : vS} {v : vV} {q : Nat} {σc : vS} {vc : vV} (hk0 : σ.2.1 (q) = (7, 0)) (hp0 : q + 8 < 1000000) (hcc : σc.1 = q + 8) (hfc : σc.2.2.2 = true) (e63_0 : σc.2.1 (q) = (7, 0)) (e63_1 : ∀ k, vc (q) k = nI 0) (e63_2 : ∀ n, n < q → kAg σ v σc vc n) (e63_3 : σc.2.1 (q + 1) = (8, 120)) (e63_4 : ∀ k, vc (q + 1) k = nI 0) (e63_5 : σc.2.2.1 (q) 1 = some (q + 1)) (e63_6 : σc.2.1 (q + 2) = (8, 2012)) (e63_7 : ∀ k, vc (q + 2) k = nI 0) (e63_8 : σc.2.2.1 (q) 3 = some (q + 2)) (e63_9 : σc.2.1 (q + 3) = (8, 2012)) (e63_10 : ∀ k, vc (q + 3) k = nI 0) (e63_11 : σc.2.2.1 (q) 4 = some (q + 3)) (e63_12 : σc.2.1 (q + 4) = (8, 28168)) (e63_13 : ∀ k, vc (q + 4) k = nI 0) (e63_14 : σc.2.2.1 (q) 5 = some (q + 4)) (e63_15 : σc.2.1 (q + 5) = (8, 4024)) (e63_16 : ∀ k, vc (q + 5) k = nI 0) (e63_17 : σc.2.2.1 (q) 7 = some (q + 5)) (e63_18 : σc.2.1 (q + 6) = (9, 2)) (e63_19 : ∀ k, vc (q + 6) k = nI 0) (e63_20 : σc.2.2.1 (q) 8 = some (q + 6)) (e63_21 : σc.2.1 (q + 7) = (8, 10)) (e63_22 : ∀ k, vc (q + 7) k = nI 0) (e63_23 : σc.2.2.1 (q) 9 = some (q + 7)) : vP M_X7_init 63 [some (.ref (q))] [] (0, 0) (σc, vc) (vN (kIn σ v q 8 (fun σ1 v1 => LR σ1 q ∧ RT v1 q gT0))) := by
  refine P_aload_n dX7_init_63 rfl rfl ?_
  refine P_getr (t := q + 2) dX7_init_64 kX7 fX7_13 rfl (by decide) ⟨⟨(by show q < σc.1; omega), by omega⟩, e63_0⟩ e63_8 (by omega) ?_
  refine P_cSs (rest := []) (As := [.ref (q + 2)]) dX7_init_67 lX7_32 yk_X7_clear ys_X7_clear (by decide) rfl rfl (Nat.le_of_ble_eq_true rfl) rfl (c_X7_clear ⟨⟨(by show q + 2 < σc.1; omega), by omega⟩, e63_6⟩) (fun v99 ⟨hO99, hz99⟩ => ?_)
  refine P_vret dX7_init_70 rfl ?_
  exact ⟨rfl, σc, v99, rfl, hcc, hfc, fun n h9 => (e63_2 n h9).tr ⟨rfl, rfl, hO99 n (by omega)⟩, e63_0.trans hk0.symm, ⟨⟨⟨by omega, by omega⟩, e63_0⟩, ⟨⟨by omega, by omega⟩, e63_3⟩, ⟨⟨by omega, by omega⟩, e63_6⟩, ⟨⟨by omega, by omega⟩, e63_9⟩, ⟨⟨by omega, by omega⟩, e63_12⟩, ⟨⟨by omega, by omega⟩, e63_15⟩, ⟨⟨by omega, by omega⟩, e63_18⟩, ⟨⟨by omega, by omega⟩, e63_21⟩, e63_5, e63_8, e63_11, e63_14, e63_17, e63_20, e63_23⟩, ⟨⟨Nat.zero_le _, by rw [hO99 q (by omega)]; exact e63_1 2, fun i h9 => absurd h9 (Nat.not_lt_zero i)⟩, RR0 hz99, ⟨Nat.zero_le _, by rw [hO99 q (by omega)]; exact e63_1 6, fun j Y hj => by simp at hj⟩, fun i hi => ⟨by rw [hO99 (q + 6) (by omega)]; exact e63_19 i, fun Y hY => none_no hY⟩⟩⟩
set_option maxHeartbeats 4000000 in
set_option maxRecDepth 100000 in
theorem c_X7_init_s48 {σ : vS} {v : vV} {q : Nat} {σc : vS} {vc : vV} (hk0 : σ.2.1 (q) = (7, 0)) (hp0 : q + 8 < 1000000) (hcc : σc.1 = q + 6) (hfc : σc.2.2.2 = true) (e48_0 : σc.2.1 (q) = (7, 0)) (e48_1 : ∀ k, vc (q) k = nI 0) (e48_2 : ∀ n, n < q → kAg σ v σc vc n) (e48_3 : σc.2.1 (q + 1) = (8, 120)) (e48_4 : ∀ k, vc (q + 1) k = nI 0) (e48_5 : σc.2.2.1 (q) 1 = some (q + 1)) (e48_6 : σc.2.1 (q + 2) = (8, 2012)) (e48_7 : ∀ k, vc (q + 2) k = nI 0) (e48_8 : σc.2.2.1 (q) 3 = some (q + 2)) (e48_9 : σc.2.1 (q + 3) = (8, 2012)) (e48_10 : ∀ k, vc (q + 3) k = nI 0) (e48_11 : σc.2.2.1 (q) 4 = some (q + 3)) (e48_12 : σc.2.1 (q + 4) = (8, 28168)) (e48_13 : ∀ k, vc (q + 4) k = nI 0) (e48_14 : σc.2.2.1 (q) 5 = some (q + 4)) (e48_15 : σc.2.1 (q + 5) = (8, 4024)) (e48_16 : ∀ k, vc (q + 5) k = nI 0) (e48_17 : σc.2.2.1 (q) 7 = some (q + 5)) : vP M_X7_init 48 [some (.ref (q))] [] (2, 12) (σc, vc) (vN (kIn σ v q 8 (fun σ1 v1 => LR σ1 q ∧ RT v1 q gT0))) := by
  refine P_aload_n dX7_init_48 rfl rfl ?_
  refine P_iconst (v := nI 2) dX7_init_49 (by decide) ?_
  refine A_newA (N := q + 6) (2) 9 hcc hfc (by omega) dX7_init_50 (Or.inr (Or.inl ⟨rfl, rfl⟩)) wa_boolean rfl (by omega) ⟨by show 1 ≤ 2; omega, by show 2 ≤ 12; omega⟩ (fun σ11 v11 hc11 hf11 ha11 hk11 hz11 => ?_)
  replace hc11 : σ11.1 = q + 7 := by omega
  have f101 : σ11.2.1 (q) = (7, 0) := (ha11 (q) (by omega)).1.trans e48_0
  have f102 : ∀ k, v11 (q) k = nI 0 := fun k => (congrFun (ha11 (q) (by omega)).2.2 k).trans (e48_1 k)
  have f103 : ∀ n, n < q → kAg σ v σ11 v11 n := fun n h9 => (e48_2 n h9).tr (ha11 (n) (by omega))
  have f104 : σ11.2.1 (q + 1) = (8, 120) := (ha11 (q + 1) (by omega)).1.trans e48_3
  have f105 : ∀ k, v11 (q + 1) k = nI 0 := fun k => (congrFun (ha11 (q + 1) (by omega)).2.2 k).trans (e48_4 k)
  have f106 : σ11.2.2.1 (q) 1 = some (q + 1) := (congrFun (ha11 (q) (by omega)).2.1 _).trans e48_5
  have f107 : σ11.2.1 (q + 2) = (8, 2012) := (ha11 (q + 2) (by omega)).1.trans e48_6
  have f108 : ∀ k, v11 (q + 2) k = nI 0 := fun k => (congrFun (ha11 (q + 2) (by omega)).2.2 k).trans (e48_7 k)
  have f109 : σ11.2.2.1 (q) 3 = some (q + 2) := (congrFun (ha11 (q) (by omega)).2.1 _).trans e48_8
  have f110 : σ11.2.1 (q + 3) = (8, 2012) := (ha11 (q + 3) (by omega)).1.trans e48_9
  have f111 : ∀ k, v11 (q + 3) k = nI 0 := fun k => (congrFun (ha11 (q + 3) (by omega)).2.2 k).trans (e48_10 k)
  have f112 : σ11.2.2.1 (q) 4 = some (q + 3) := (congrFun (ha11 (q) (by omega)).2.1 _).trans e48_11
  have f113 : σ11.2.1 (q + 4) = (8, 28168) := (ha11 (q + 4) (by omega)).1.trans e48_12
  have f114 : ∀ k, v11 (q + 4) k = nI 0 := fun k => (congrFun (ha11 (q + 4) (by omega)).2.2 k).trans (e48_13 k)
  have f115 : σ11.2.2.1 (q) 5 = some (q + 4) := (congrFun (ha11 (q) (by omega)).2.1 _).trans e48_14
  have f116 : σ11.2.1 (q + 5) = (8, 4024) := (ha11 (q + 5) (by omega)).1.trans e48_15
  have f117 : ∀ k, v11 (q + 5) k = nI 0 := fun k => (congrFun (ha11 (q + 5) (by omega)).2.2 k).trans (e48_16 k)
  have f118 : σ11.2.2.1 (q) 7 = some (q + 5) := (congrFun (ha11 (q) (by omega)).2.1 _).trans e48_17
  refine A_bud (b2 := (1, 10)) ⟨by show 1 ≤ 2 - 1; omega, by show 10 ≤ 12 - 2; omega⟩ ?_
  refine A_putr dX7_init_52 kX7 fX7_25 rfl (by decide) rfl rfl rfl ⟨⟨(by show q < σ11.1; omega), by omega⟩, f101⟩ (by omega) (fun σ12 hc12 hf12 hp12 hq12 hr12 hs12 => ?_)
  replace hc12 : σ12.1 = q + 7 := hc12.trans hc11
  replace hf12 : σ12.2.2.2 = true := hf12.trans hf11
  have f119 : σ12.2.1 (q) = (7, 0) := (congrFun hp12 _).trans f101
  have f120 : ∀ k, v11 (q) k = nI 0 := f102
  have f121 : ∀ n, n < q → kAg σ v σ12 v11 n := fun n h9 => (f103 n h9).tr (⟨congrFun hp12 (n), hq12 (n) (by omega), rfl⟩ : kAg σ11 v11 σ12 v11 (n))
  have f122 : σ12.2.1 (q + 1) = (8, 120) := (congrFun hp12 _).trans f104
  have f123 : ∀ k, v11 (q + 1) k = nI 0 := f105
  have f124 : σ12.2.2.1 (q) 1 = some (q + 1) := (hr12 _ (by decide)).trans f106
  have f125 : σ12.2.1 (q + 2) = (8, 2012) := (congrFun hp12 _).trans f107
  have f126 : ∀ k, v11 (q + 2) k = nI 0 := f108
  have f127 : σ12.2.2.1 (q) 3 = some (q + 2) := (hr12 _ (by decide)).trans f109
  have f128 : σ12.2.1 (q + 3) = (8, 2012) := (congrFun hp12 _).trans f110
  have f129 : ∀ k, v11 (q + 3) k = nI 0 := f111
  have f130 : σ12.2.2.1 (q) 4 = some (q + 3) := (hr12 _ (by decide)).trans f112
  have f131 : σ12.2.1 (q + 4) = (8, 28168) := (congrFun hp12 _).trans f113
  have f132 : ∀ k, v11 (q + 4) k = nI 0 := f114
  have f133 : σ12.2.2.1 (q) 5 = some (q + 4) := (hr12 _ (by decide)).trans f115
  have f134 : σ12.2.1 (q + 5) = (8, 4024) := (congrFun hp12 _).trans f116
  have f135 : ∀ k, v11 (q + 5) k = nI 0 := f117
  have f136 : σ12.2.2.1 (q) 7 = some (q + 5) := (hr12 _ (by decide)).trans f118
  have f137 : σ12.2.1 (q + 6) = (9, 2) := (congrFun hp12 _).trans hk11
  have f138 : ∀ k, v11 (q + 6) k = nI 0 := hz11
  clear f101 f102 f103 f104 f105 f106 f107 f108 f109 f110 f111 f112 f113 f114 f115 f116 f117 f118 hk11 hz11
  refine P_aload_n dX7_init_55 rfl rfl ?_
  refine P_bipush (v := nI 10) dX7_init_56 (by decide) ?_
  refine A_newA (N := q + 7) (10) 8 hc12 hf12 (by omega) dX7_init_58 (Or.inl ⟨rfl, rfl⟩) wa_int rfl (by omega) ⟨by show 1 ≤ 1; omega, by show 10 ≤ 10; omega⟩ (fun σ13 v13 hc13 hf13 ha13 hk13 hz13 => ?_)
  replace hc13 : σ13.1 = q + 8 := by omega
  have f139 : σ13.2.1 (q) = (7, 0) := (ha13 (q) (by omega)).1.trans f119
  have f140 : ∀ k, v13 (q) k = nI 0 := fun k => (congrFun (ha13 (q) (by omega)).2.2 k).trans (f120 k)
  have f141 : ∀ n, n < q → kAg σ v σ13 v13 n := fun n h9 => (f121 n h9).tr (ha13 (n) (by omega))
  have f142 : σ13.2.1 (q + 1) = (8, 120) := (ha13 (q + 1) (by omega)).1.trans f122
  have f143 : ∀ k, v13 (q + 1) k = nI 0 := fun k => (congrFun (ha13 (q + 1) (by omega)).2.2 k).trans (f123 k)
  have f144 : σ13.2.2.1 (q) 1 = some (q + 1) := (congrFun (ha13 (q) (by omega)).2.1 _).trans f124
  have f145 : σ13.2.1 (q + 2) = (8, 2012) := (ha13 (q + 2) (by omega)).1.trans f125
  have f146 : ∀ k, v13 (q + 2) k = nI 0 := fun k => (congrFun (ha13 (q + 2) (by omega)).2.2 k).trans (f126 k)
  have f147 : σ13.2.2.1 (q) 3 = some (q + 2) := (congrFun (ha13 (q) (by omega)).2.1 _).trans f127
  have f148 : σ13.2.1 (q + 3) = (8, 2012) := (ha13 (q + 3) (by omega)).1.trans f128
  have f149 : ∀ k, v13 (q + 3) k = nI 0 := fun k => (congrFun (ha13 (q + 3) (by omega)).2.2 k).trans (f129 k)
  have f150 : σ13.2.2.1 (q) 4 = some (q + 3) := (congrFun (ha13 (q) (by omega)).2.1 _).trans f130
  have f151 : σ13.2.1 (q + 4) = (8, 28168) := (ha13 (q + 4) (by omega)).1.trans f131
  have f152 : ∀ k, v13 (q + 4) k = nI 0 := fun k => (congrFun (ha13 (q + 4) (by omega)).2.2 k).trans (f132 k)
  have f153 : σ13.2.2.1 (q) 5 = some (q + 4) := (congrFun (ha13 (q) (by omega)).2.1 _).trans f133
  have f154 : σ13.2.1 (q + 5) = (8, 4024) := (ha13 (q + 5) (by omega)).1.trans f134
  have f155 : ∀ k, v13 (q + 5) k = nI 0 := fun k => (congrFun (ha13 (q + 5) (by omega)).2.2 k).trans (f135 k)
  have f156 : σ13.2.2.1 (q) 7 = some (q + 5) := (congrFun (ha13 (q) (by omega)).2.1 _).trans f136
  have f157 : σ13.2.1 (q + 6) = (9, 2) := (ha13 (q + 6) (by omega)).1.trans f137
  have f158 : ∀ k, v13 (q + 6) k = nI 0 := fun k => (congrFun (ha13 (q + 6) (by omega)).2.2 k).trans (f138 k)
  have f159 : σ13.2.2.1 (q) 8 = some (q + 6) := (congrFun (ha13 (q) (by omega)).2.1 _).trans hs12
  clear f119 f120 f121 f122 f123 f124 f125 f126 f127 f128 f129 f130 f131 f132 f133 f134 f135 f136 f137 f138 hs12
  refine A_bud (b2 := (0, 0)) ⟨by show 0 ≤ 1 - 1; omega, by show 0 ≤ 10 - 10; omega⟩ ?_
  refine A_putr dX7_init_60 kX7 fX7_29 rfl (by decide) rfl rfl rfl ⟨⟨(by show q < σ13.1; omega), by omega⟩, f139⟩ (by omega) (fun σ14 hc14 hf14 hp14 hq14 hr14 hs14 => ?_)
  replace hc14 : σ14.1 = q + 8 := hc14.trans hc13
  replace hf14 : σ14.2.2.2 = true := hf14.trans hf13
  have f160 : σ14.2.1 (q) = (7, 0) := (congrFun hp14 _).trans f139
  have f161 : ∀ k, v13 (q) k = nI 0 := f140
  have f162 : ∀ n, n < q → kAg σ v σ14 v13 n := fun n h9 => (f141 n h9).tr (⟨congrFun hp14 (n), hq14 (n) (by omega), rfl⟩ : kAg σ13 v13 σ14 v13 (n))
  have f163 : σ14.2.1 (q + 1) = (8, 120) := (congrFun hp14 _).trans f142
  have f164 : ∀ k, v13 (q + 1) k = nI 0 := f143
  have f165 : σ14.2.2.1 (q) 1 = some (q + 1) := (hr14 _ (by decide)).trans f144
  have f166 : σ14.2.1 (q + 2) = (8, 2012) := (congrFun hp14 _).trans f145
  have f167 : ∀ k, v13 (q + 2) k = nI 0 := f146
  have f168 : σ14.2.2.1 (q) 3 = some (q + 2) := (hr14 _ (by decide)).trans f147
  have f169 : σ14.2.1 (q + 3) = (8, 2012) := (congrFun hp14 _).trans f148
  have f170 : ∀ k, v13 (q + 3) k = nI 0 := f149
  have f171 : σ14.2.2.1 (q) 4 = some (q + 3) := (hr14 _ (by decide)).trans f150
  have f172 : σ14.2.1 (q + 4) = (8, 28168) := (congrFun hp14 _).trans f151
  have f173 : ∀ k, v13 (q + 4) k = nI 0 := f152
  have f174 : σ14.2.2.1 (q) 5 = some (q + 4) := (hr14 _ (by decide)).trans f153
  have f175 : σ14.2.1 (q + 5) = (8, 4024) := (congrFun hp14 _).trans f154
  have f176 : ∀ k, v13 (q + 5) k = nI 0 := f155
  have f177 : σ14.2.2.1 (q) 7 = some (q + 5) := (hr14 _ (by decide)).trans f156
  have f178 : σ14.2.1 (q + 6) = (9, 2) := (congrFun hp14 _).trans f157
  have f179 : ∀ k, v13 (q + 6) k = nI 0 := f158
  have f180 : σ14.2.2.1 (q) 8 = some (q + 6) := (hr14 _ (by decide)).trans f159
  have f181 : σ14.2.1 (q + 7) = (8, 10) := (congrFun hp14 _).trans hk13
  have f182 : ∀ k, v13 (q + 7) k = nI 0 := hz13
  clear f139 f140 f141 f142 f143 f144 f145 f146 f147 f148 f149 f150 f151 f152 f153 f154 f155 f156 f157 f158 f159 hk13 hz13
  exact c_X7_init_s63 (σ := σ) (v := v) hk0 hp0 hc14 hf14 (f160) (f161) (f162) (f163) (f164) (f165) (f166) (f167) (f168) (f169) (f170) (f171) (f172) (f173) (f174) (f175) (f176) (f177) (f178) (f179) (f180) (f181) (f182) (hs14)
set_option maxHeartbeats 4000000 in
set_option maxRecDepth 100000 in
theorem c_X7_init_s30 {σ : vS} {v : vV} {q : Nat} {σc : vS} {vc : vV} (hk0 : σ.2.1 (q) = (7, 0)) (hp0 : q + 8 < 1000000) (hcc : σc.1 = q + 4) (hfc : σc.2.2.2 = true) (e30_0 : σc.2.1 (q) = (7, 0)) (e30_1 : ∀ k, vc (q) k = nI 0) (e30_2 : ∀ n, n < q → kAg σ v σc vc n) (e30_3 : σc.2.1 (q + 1) = (8, 120)) (e30_4 : ∀ k, vc (q + 1) k = nI 0) (e30_5 : σc.2.2.1 (q) 1 = some (q + 1)) (e30_6 : σc.2.1 (q + 2) = (8, 2012)) (e30_7 : ∀ k, vc (q + 2) k = nI 0) (e30_8 : σc.2.2.1 (q) 3 = some (q + 2)) (e30_9 : σc.2.1 (q + 3) = (8, 2012)) (e30_10 : ∀ k, vc (q + 3) k = nI 0) (e30_11 : σc.2.2.1 (q) 4 = some (q + 3)) : vP M_X7_init 30 [some (.ref (q))] [] (4, 32204) (σc, vc) (vN (kIn σ v q 8 (fun σ1 v1 => LR σ1 q ∧ RT v1 q gT0))) := by
  refine P_aload_n dX7_init_30 rfl rfl ?_
  refine P_sipush (v := nI 28168) dX7_init_31 (by decide) ?_
  refine A_newA (N := q + 4) (28168) 8 hcc hfc (by omega) dX7_init_34 (Or.inl ⟨rfl, rfl⟩) wa_int rfl (by omega) ⟨by show 1 ≤ 4; omega, by show 28168 ≤ 32204; omega⟩ (fun σ7 v7 hc7 hf7 ha7 hk7 hz7 => ?_)
  replace hc7 : σ7.1 = q + 5 := by omega
  have f43 : σ7.2.1 (q) = (7, 0) := (ha7 (q) (by omega)).1.trans e30_0
  have f44 : ∀ k, v7 (q) k = nI 0 := fun k => (congrFun (ha7 (q) (by omega)).2.2 k).trans (e30_1 k)
  have f45 : ∀ n, n < q → kAg σ v σ7 v7 n := fun n h9 => (e30_2 n h9).tr (ha7 (n) (by omega))
  have f46 : σ7.2.1 (q + 1) = (8, 120) := (ha7 (q + 1) (by omega)).1.trans e30_3
  have f47 : ∀ k, v7 (q + 1) k = nI 0 := fun k => (congrFun (ha7 (q + 1) (by omega)).2.2 k).trans (e30_4 k)
  have f48 : σ7.2.2.1 (q) 1 = some (q + 1) := (congrFun (ha7 (q) (by omega)).2.1 _).trans e30_5
  have f49 : σ7.2.1 (q + 2) = (8, 2012) := (ha7 (q + 2) (by omega)).1.trans e30_6
  have f50 : ∀ k, v7 (q + 2) k = nI 0 := fun k => (congrFun (ha7 (q + 2) (by omega)).2.2 k).trans (e30_7 k)
  have f51 : σ7.2.2.1 (q) 3 = some (q + 2) := (congrFun (ha7 (q) (by omega)).2.1 _).trans e30_8
  have f52 : σ7.2.1 (q + 3) = (8, 2012) := (ha7 (q + 3) (by omega)).1.trans e30_9
  have f53 : ∀ k, v7 (q + 3) k = nI 0 := fun k => (congrFun (ha7 (q + 3) (by omega)).2.2 k).trans (e30_10 k)
  have f54 : σ7.2.2.1 (q) 4 = some (q + 3) := (congrFun (ha7 (q) (by omega)).2.1 _).trans e30_11
  refine A_bud (b2 := (3, 4036)) ⟨by show 3 ≤ 4 - 1; omega, by show 4036 ≤ 32204 - 28168; omega⟩ ?_
  refine A_putr dX7_init_36 kX7 fX7_19 rfl (by decide) rfl rfl rfl ⟨⟨(by show q < σ7.1; omega), by omega⟩, f43⟩ (by omega) (fun σ8 hc8 hf8 hp8 hq8 hr8 hs8 => ?_)
  replace hc8 : σ8.1 = q + 5 := hc8.trans hc7
  replace hf8 : σ8.2.2.2 = true := hf8.trans hf7
  have f55 : σ8.2.1 (q) = (7, 0) := (congrFun hp8 _).trans f43
  have f56 : ∀ k, v7 (q) k = nI 0 := f44
  have f57 : ∀ n, n < q → kAg σ v σ8 v7 n := fun n h9 => (f45 n h9).tr (⟨congrFun hp8 (n), hq8 (n) (by omega), rfl⟩ : kAg σ7 v7 σ8 v7 (n))
  have f58 : σ8.2.1 (q + 1) = (8, 120) := (congrFun hp8 _).trans f46
  have f59 : ∀ k, v7 (q + 1) k = nI 0 := f47
  have f60 : σ8.2.2.1 (q) 1 = some (q + 1) := (hr8 _ (by decide)).trans f48
  have f61 : σ8.2.1 (q + 2) = (8, 2012) := (congrFun hp8 _).trans f49
  have f62 : ∀ k, v7 (q + 2) k = nI 0 := f50
  have f63 : σ8.2.2.1 (q) 3 = some (q + 2) := (hr8 _ (by decide)).trans f51
  have f64 : σ8.2.1 (q + 3) = (8, 2012) := (congrFun hp8 _).trans f52
  have f65 : ∀ k, v7 (q + 3) k = nI 0 := f53
  have f66 : σ8.2.2.1 (q) 4 = some (q + 3) := (hr8 _ (by decide)).trans f54
  have f67 : σ8.2.1 (q + 4) = (8, 28168) := (congrFun hp8 _).trans hk7
  have f68 : ∀ k, v7 (q + 4) k = nI 0 := hz7
  clear f43 f44 f45 f46 f47 f48 f49 f50 f51 f52 f53 f54 hk7 hz7
  refine P_aload_n dX7_init_39 rfl rfl ?_
  refine P_sipush (v := nI 4024) dX7_init_40 (by decide) ?_
  refine A_newA (N := q + 5) (4024) 8 hc8 hf8 (by omega) dX7_init_43 (Or.inl ⟨rfl, rfl⟩) wa_int rfl (by omega) ⟨by show 1 ≤ 3; omega, by show 4024 ≤ 4036; omega⟩ (fun σ9 v9 hc9 hf9 ha9 hk9 hz9 => ?_)
  replace hc9 : σ9.1 = q + 6 := by omega
  have f69 : σ9.2.1 (q) = (7, 0) := (ha9 (q) (by omega)).1.trans f55
  have f70 : ∀ k, v9 (q) k = nI 0 := fun k => (congrFun (ha9 (q) (by omega)).2.2 k).trans (f56 k)
  have f71 : ∀ n, n < q → kAg σ v σ9 v9 n := fun n h9 => (f57 n h9).tr (ha9 (n) (by omega))
  have f72 : σ9.2.1 (q + 1) = (8, 120) := (ha9 (q + 1) (by omega)).1.trans f58
  have f73 : ∀ k, v9 (q + 1) k = nI 0 := fun k => (congrFun (ha9 (q + 1) (by omega)).2.2 k).trans (f59 k)
  have f74 : σ9.2.2.1 (q) 1 = some (q + 1) := (congrFun (ha9 (q) (by omega)).2.1 _).trans f60
  have f75 : σ9.2.1 (q + 2) = (8, 2012) := (ha9 (q + 2) (by omega)).1.trans f61
  have f76 : ∀ k, v9 (q + 2) k = nI 0 := fun k => (congrFun (ha9 (q + 2) (by omega)).2.2 k).trans (f62 k)
  have f77 : σ9.2.2.1 (q) 3 = some (q + 2) := (congrFun (ha9 (q) (by omega)).2.1 _).trans f63
  have f78 : σ9.2.1 (q + 3) = (8, 2012) := (ha9 (q + 3) (by omega)).1.trans f64
  have f79 : ∀ k, v9 (q + 3) k = nI 0 := fun k => (congrFun (ha9 (q + 3) (by omega)).2.2 k).trans (f65 k)
  have f80 : σ9.2.2.1 (q) 4 = some (q + 3) := (congrFun (ha9 (q) (by omega)).2.1 _).trans f66
  have f81 : σ9.2.1 (q + 4) = (8, 28168) := (ha9 (q + 4) (by omega)).1.trans f67
  have f82 : ∀ k, v9 (q + 4) k = nI 0 := fun k => (congrFun (ha9 (q + 4) (by omega)).2.2 k).trans (f68 k)
  have f83 : σ9.2.2.1 (q) 5 = some (q + 4) := (congrFun (ha9 (q) (by omega)).2.1 _).trans hs8
  clear f55 f56 f57 f58 f59 f60 f61 f62 f63 f64 f65 f66 f67 f68 hs8
  refine A_bud (b2 := (2, 12)) ⟨by show 2 ≤ 3 - 1; omega, by show 12 ≤ 4036 - 4024; omega⟩ ?_
  refine A_putr dX7_init_45 kX7 fX7_22 rfl (by decide) rfl rfl rfl ⟨⟨(by show q < σ9.1; omega), by omega⟩, f69⟩ (by omega) (fun σ10 hc10 hf10 hp10 hq10 hr10 hs10 => ?_)
  replace hc10 : σ10.1 = q + 6 := hc10.trans hc9
  replace hf10 : σ10.2.2.2 = true := hf10.trans hf9
  have f84 : σ10.2.1 (q) = (7, 0) := (congrFun hp10 _).trans f69
  have f85 : ∀ k, v9 (q) k = nI 0 := f70
  have f86 : ∀ n, n < q → kAg σ v σ10 v9 n := fun n h9 => (f71 n h9).tr (⟨congrFun hp10 (n), hq10 (n) (by omega), rfl⟩ : kAg σ9 v9 σ10 v9 (n))
  have f87 : σ10.2.1 (q + 1) = (8, 120) := (congrFun hp10 _).trans f72
  have f88 : ∀ k, v9 (q + 1) k = nI 0 := f73
  have f89 : σ10.2.2.1 (q) 1 = some (q + 1) := (hr10 _ (by decide)).trans f74
  have f90 : σ10.2.1 (q + 2) = (8, 2012) := (congrFun hp10 _).trans f75
  have f91 : ∀ k, v9 (q + 2) k = nI 0 := f76
  have f92 : σ10.2.2.1 (q) 3 = some (q + 2) := (hr10 _ (by decide)).trans f77
  have f93 : σ10.2.1 (q + 3) = (8, 2012) := (congrFun hp10 _).trans f78
  have f94 : ∀ k, v9 (q + 3) k = nI 0 := f79
  have f95 : σ10.2.2.1 (q) 4 = some (q + 3) := (hr10 _ (by decide)).trans f80
  have f96 : σ10.2.1 (q + 4) = (8, 28168) := (congrFun hp10 _).trans f81
  have f97 : ∀ k, v9 (q + 4) k = nI 0 := f82
  have f98 : σ10.2.2.1 (q) 5 = some (q + 4) := (hr10 _ (by decide)).trans f83
  have f99 : σ10.2.1 (q + 5) = (8, 4024) := (congrFun hp10 _).trans hk9
  have f100 : ∀ k, v9 (q + 5) k = nI 0 := hz9
  clear f69 f70 f71 f72 f73 f74 f75 f76 f77 f78 f79 f80 f81 f82 f83 hk9 hz9
  exact c_X7_init_s48 (σ := σ) (v := v) hk0 hp0 hc10 hf10 (f84) (f85) (f86) (f87) (f88) (f89) (f90) (f91) (f92) (f93) (f94) (f95) (f96) (f97) (f98) (f99) (f100) (hs10)
set_option maxHeartbeats 4000000 in
set_option maxRecDepth 100000 in
theorem c_X7_init_s12 {σ : vS} {v : vV} {q : Nat} {σc : vS} {vc : vV} (hk0 : σ.2.1 (q) = (7, 0)) (hp0 : q + 8 < 1000000) (hcc : σc.1 = q + 2) (hfc : σc.2.2.2 = true) (e12_0 : σc.2.1 (q) = (7, 0)) (e12_1 : ∀ k, vc (q) k = nI 0) (e12_2 : ∀ n, n < q → kAg σ v σc vc n) (e12_3 : σc.2.1 (q + 1) = (8, 120)) (e12_4 : ∀ k, vc (q + 1) k = nI 0) (e12_5 : σc.2.2.1 (q) 1 = some (q + 1)) : vP M_X7_init 12 [some (.ref (q))] [] (6, 36228) (σc, vc) (vN (kIn σ v q 8 (fun σ1 v1 => LR σ1 q ∧ RT v1 q gT0))) := by
  refine P_aload_n dX7_init_12 rfl rfl ?_
  refine P_sipush (v := nI 2012) dX7_init_13 (by decide) ?_
  refine A_newA (N := q + 2) (2012) 8 hcc hfc (by omega) dX7_init_16 (Or.inl ⟨rfl, rfl⟩) wa_int rfl (by omega) ⟨by show 1 ≤ 6; omega, by show 2012 ≤ 36228; omega⟩ (fun σ3 v3 hc3 hf3 ha3 hk3 hz3 => ?_)
  replace hc3 : σ3.1 = q + 3 := by omega
  have f9 : σ3.2.1 (q) = (7, 0) := (ha3 (q) (by omega)).1.trans e12_0
  have f10 : ∀ k, v3 (q) k = nI 0 := fun k => (congrFun (ha3 (q) (by omega)).2.2 k).trans (e12_1 k)
  have f11 : ∀ n, n < q → kAg σ v σ3 v3 n := fun n h9 => (e12_2 n h9).tr (ha3 (n) (by omega))
  have f12 : σ3.2.1 (q + 1) = (8, 120) := (ha3 (q + 1) (by omega)).1.trans e12_3
  have f13 : ∀ k, v3 (q + 1) k = nI 0 := fun k => (congrFun (ha3 (q + 1) (by omega)).2.2 k).trans (e12_4 k)
  have f14 : σ3.2.2.1 (q) 1 = some (q + 1) := (congrFun (ha3 (q) (by omega)).2.1 _).trans e12_5
  refine A_bud (b2 := (5, 34216)) ⟨by show 5 ≤ 6 - 1; omega, by show 34216 ≤ 36228 - 2012; omega⟩ ?_
  refine A_putr dX7_init_18 kX7 fX7_13 rfl (by decide) rfl rfl rfl ⟨⟨(by show q < σ3.1; omega), by omega⟩, f9⟩ (by omega) (fun σ4 hc4 hf4 hp4 hq4 hr4 hs4 => ?_)
  replace hc4 : σ4.1 = q + 3 := hc4.trans hc3
  replace hf4 : σ4.2.2.2 = true := hf4.trans hf3
  have f15 : σ4.2.1 (q) = (7, 0) := (congrFun hp4 _).trans f9
  have f16 : ∀ k, v3 (q) k = nI 0 := f10
  have f17 : ∀ n, n < q → kAg σ v σ4 v3 n := fun n h9 => (f11 n h9).tr (⟨congrFun hp4 (n), hq4 (n) (by omega), rfl⟩ : kAg σ3 v3 σ4 v3 (n))
  have f18 : σ4.2.1 (q + 1) = (8, 120) := (congrFun hp4 _).trans f12
  have f19 : ∀ k, v3 (q + 1) k = nI 0 := f13
  have f20 : σ4.2.2.1 (q) 1 = some (q + 1) := (hr4 _ (by decide)).trans f14
  have f21 : σ4.2.1 (q + 2) = (8, 2012) := (congrFun hp4 _).trans hk3
  have f22 : ∀ k, v3 (q + 2) k = nI 0 := hz3
  clear f9 f10 f11 f12 f13 f14 hk3 hz3
  refine P_aload_n dX7_init_21 rfl rfl ?_
  refine P_sipush (v := nI 2012) dX7_init_22 (by decide) ?_
  refine A_newA (N := q + 3) (2012) 8 hc4 hf4 (by omega) dX7_init_25 (Or.inl ⟨rfl, rfl⟩) wa_int rfl (by omega) ⟨by show 1 ≤ 5; omega, by show 2012 ≤ 34216; omega⟩ (fun σ5 v5 hc5 hf5 ha5 hk5 hz5 => ?_)
  replace hc5 : σ5.1 = q + 4 := by omega
  have f23 : σ5.2.1 (q) = (7, 0) := (ha5 (q) (by omega)).1.trans f15
  have f24 : ∀ k, v5 (q) k = nI 0 := fun k => (congrFun (ha5 (q) (by omega)).2.2 k).trans (f16 k)
  have f25 : ∀ n, n < q → kAg σ v σ5 v5 n := fun n h9 => (f17 n h9).tr (ha5 (n) (by omega))
  have f26 : σ5.2.1 (q + 1) = (8, 120) := (ha5 (q + 1) (by omega)).1.trans f18
  have f27 : ∀ k, v5 (q + 1) k = nI 0 := fun k => (congrFun (ha5 (q + 1) (by omega)).2.2 k).trans (f19 k)
  have f28 : σ5.2.2.1 (q) 1 = some (q + 1) := (congrFun (ha5 (q) (by omega)).2.1 _).trans f20
  have f29 : σ5.2.1 (q + 2) = (8, 2012) := (ha5 (q + 2) (by omega)).1.trans f21
  have f30 : ∀ k, v5 (q + 2) k = nI 0 := fun k => (congrFun (ha5 (q + 2) (by omega)).2.2 k).trans (f22 k)
  have f31 : σ5.2.2.1 (q) 3 = some (q + 2) := (congrFun (ha5 (q) (by omega)).2.1 _).trans hs4
  clear f15 f16 f17 f18 f19 f20 f21 f22 hs4
  refine A_bud (b2 := (4, 32204)) ⟨by show 4 ≤ 5 - 1; omega, by show 32204 ≤ 34216 - 2012; omega⟩ ?_
  refine A_putr dX7_init_27 kX7 fX7_16 rfl (by decide) rfl rfl rfl ⟨⟨(by show q < σ5.1; omega), by omega⟩, f23⟩ (by omega) (fun σ6 hc6 hf6 hp6 hq6 hr6 hs6 => ?_)
  replace hc6 : σ6.1 = q + 4 := hc6.trans hc5
  replace hf6 : σ6.2.2.2 = true := hf6.trans hf5
  have f32 : σ6.2.1 (q) = (7, 0) := (congrFun hp6 _).trans f23
  have f33 : ∀ k, v5 (q) k = nI 0 := f24
  have f34 : ∀ n, n < q → kAg σ v σ6 v5 n := fun n h9 => (f25 n h9).tr (⟨congrFun hp6 (n), hq6 (n) (by omega), rfl⟩ : kAg σ5 v5 σ6 v5 (n))
  have f35 : σ6.2.1 (q + 1) = (8, 120) := (congrFun hp6 _).trans f26
  have f36 : ∀ k, v5 (q + 1) k = nI 0 := f27
  have f37 : σ6.2.2.1 (q) 1 = some (q + 1) := (hr6 _ (by decide)).trans f28
  have f38 : σ6.2.1 (q + 2) = (8, 2012) := (congrFun hp6 _).trans f29
  have f39 : ∀ k, v5 (q + 2) k = nI 0 := f30
  have f40 : σ6.2.2.1 (q) 3 = some (q + 2) := (hr6 _ (by decide)).trans f31
  have f41 : σ6.2.1 (q + 3) = (8, 2012) := (congrFun hp6 _).trans hk5
  have f42 : ∀ k, v5 (q + 3) k = nI 0 := hz5
  clear f23 f24 f25 f26 f27 f28 f29 f30 f31 hk5 hz5
  exact c_X7_init_s30 (σ := σ) (v := v) hk0 hp0 hc6 hf6 (f32) (f33) (f34) (f35) (f36) (f37) (f38) (f39) (f40) (f41) (f42) (hs6)
set_option maxHeartbeats 4000000 in
set_option maxRecDepth 100000 in
theorem c_X7_init {σ : vS} {v : vV} {q : Nat} (hc0 : σ.1 = q + 1) (hf0 : σ.2.2.2 = true) (hk0 : σ.2.1 (q) = (7, 0)) (hz0 : ∀ k, v (q) k = nI 0) (hp0 : q + 8 < 1000000) : vC M_X7_init yX7_init [.ref (q)] (σ, v) (kIn σ v q 8 (fun σ1 v1 => LR σ1 q ∧ RT v1 q gT0)) := by
  have hO0 : ∀ n, n < q → kAg σ v σ v n := fun _ _ => kAg.rf
  refine vC_of (ls := [some (.ref (q))]) pn_X7 rfl rfl (Nat.le_of_ble_eq_true rfl) rfl ?_
  refine A_bud (b2 := (7, 36348)) (by decide) ?_
  refine P_aload_n dX7_init_0 rfl rfl ?_
  refine P_oinit dX7_init_1 lX7_1 (by decide) (by omega) ?_
  refine P_aload_n dX7_init_4 rfl rfl ?_
  refine P_bipush (v := nI 120) dX7_init_5 (by decide) ?_
  refine A_newA (N := q + 1) (120) 8 hc0 hf0 (by omega) dX7_init_7 (Or.inl ⟨rfl, rfl⟩) wa_int rfl (by omega) ⟨by show 1 ≤ 7; omega, by show 120 ≤ 36348; omega⟩ (fun σ1 v1 hc1 hf1 ha1 hk1 hz1 => ?_)
  replace hc1 : σ1.1 = q + 2 := by omega
  have f1 : σ1.2.1 (q) = (7, 0) := (ha1 (q) (by omega)).1.trans hk0
  have f2 : ∀ k, v1 (q) k = nI 0 := fun k => (congrFun (ha1 (q) (by omega)).2.2 k).trans (hz0 k)
  have f3 : ∀ n, n < q → kAg σ v σ1 v1 n := fun n h9 => (hO0 n h9).tr (ha1 (n) (by omega))
  refine A_bud (b2 := (6, 36228)) ⟨by show 6 ≤ 7 - 1; omega, by show 36228 ≤ 36348 - 120; omega⟩ ?_
  refine A_putr dX7_init_9 kX7 fX7_7 rfl (by decide) rfl rfl rfl ⟨⟨(by show q < σ1.1; omega), by omega⟩, f1⟩ (by omega) (fun σ2 hc2 hf2 hp2 hq2 hr2 hs2 => ?_)
  replace hc2 : σ2.1 = q + 2 := hc2.trans hc1
  replace hf2 : σ2.2.2.2 = true := hf2.trans hf1
  have f4 : σ2.2.1 (q) = (7, 0) := (congrFun hp2 _).trans f1
  have f5 : ∀ k, v1 (q) k = nI 0 := f2
  have f6 : ∀ n, n < q → kAg σ v σ2 v1 n := fun n h9 => (f3 n h9).tr (⟨congrFun hp2 (n), hq2 (n) (by omega), rfl⟩ : kAg σ1 v1 σ2 v1 (n))
  have f7 : σ2.2.1 (q + 1) = (8, 120) := (congrFun hp2 _).trans hk1
  have f8 : ∀ k, v1 (q + 1) k = nI 0 := hz1
  clear f1 f2 f3 hk1 hz1
  exact c_X7_init_s12 (σ := σ) (v := v) hk0 hp0 hc2 hf2 (f4) (f5) (f6) (f7) (f8) (hs2)
