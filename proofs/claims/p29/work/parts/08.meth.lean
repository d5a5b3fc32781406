/-! words, methods, rooms: written by program -/
theorem kXn0 : ∀ k, k < 9 → vIs 0 k = false → defaultValue (tyX0 k) = .null ∧ (∀ a, narrow (tyX0 k) (.ref a) = .ref a) ∧ ∀ a, fits (tyX0 k) (.ref a) = true := by
  intro k hk hi
  match k, hk, hi with
  | 0, _, _ => exact ⟨rfl, fun _ => rfl, fun _ => rfl⟩
  | 1, _, _ => exact ⟨rfl, fun _ => rfl, fun _ => rfl⟩
  | 2, _, _ => exact ⟨rfl, fun _ => rfl, fun _ => rfl⟩
  | 3, _, hi => exact absurd hi (by decide)
  | 4, _, hi => exact absurd hi (by decide)
  | 5, _, hi => exact absurd hi (by decide)
  | 6, _, hi => exact absurd hi (by decide)
  | 7, _, hi => exact absurd hi (by decide)
  | 8, _, hi => exact absurd hi (by decide)
  | j + 9, hk, _ => exact absurd hk (by omega)
theorem kXm0 : ∀ w ∈ u_ws RX0 TX0 9, w ∈ tables_1 := by decide +kernel
theorem kXg0 : ∀ w ∈ u_ws RX0 TX0 9, goodWord w = true := by decide +kernel
theorem kX0 : vCk 0 (RX0, TX0, 9) := ⟨rfl, rfl, by decide, fun w h => List.mem_filter.mpr ⟨List.mem_append_right _ (kXm0 w h), kXg0 w h⟩, by decide +kernel, nmX0, tyX0, tyX0_ok, by decide +kernel, kXn0⟩
theorem kXn1 : ∀ k, k < 3 → vIs 1 k = false → defaultValue (tyX1 k) = .null ∧ (∀ a, narrow (tyX1 k) (.ref a) = .ref a) ∧ ∀ a, fits (tyX1 k) (.ref a) = true := by
  intro k hk hi
  match k, hk, hi with
  | 0, _, _ => exact ⟨rfl, fun _ => rfl, fun _ => rfl⟩
  | 1, _, hi => exact absurd hi (by decide)
  | 2, _, hi => exact absurd hi (by decide)
  | j + 3, hk, _ => exact absurd hk (by omega)
theorem kXm1 : ∀ w ∈ u_ws RX1 TX1 3, w ∈ tables_1 := by decide +kernel
theorem kXg1 : ∀ w ∈ u_ws RX1 TX1 3, goodWord w = true := by decide +kernel
theorem kX1 : vCk 1 (RX1, TX1, 3) := ⟨rfl, rfl, by decide, fun w h => List.mem_filter.mpr ⟨List.mem_append_right _ (kXm1 w h), kXg1 w h⟩, by decide +kernel, nmX1, tyX1, tyX1_ok, by decide +kernel, kXn1⟩
theorem kXn2 : ∀ k, k < 16 → vIs 2 k = false → defaultValue (tyX2 k) = .null ∧ (∀ a, narrow (tyX2 k) (.ref a) = .ref a) ∧ ∀ a, fits (tyX2 k) (.ref a) = true := by
  intro k hk hi
  match k, hk, hi with
  | 0, _, hi => exact absurd hi (by decide)
  | 1, _, hi => exact absurd hi (by decide)
  | 2, _, hi => exact absurd hi (by decide)
  | 3, _, hi => exact absurd hi (by decide)
  | 4, _, hi => exact absurd hi (by decide)
  | 5, _, hi => exact absurd hi (by decide)
  | 6, _, hi => exact absurd hi (by decide)
  | 7, _, hi => exact absurd hi (by decide)
  | 8, _, hi => exact absurd hi (by decide)
  | 9, _, hi => exact absurd hi (by decide)
  | 10, _, hi => exact absurd hi (by decide)
  | 11, _, hi => exact absurd hi (by decide)
  | 12, _, hi => exact absurd hi (by decide)
  | 13, _, _ => exact ⟨rfl, fun _ => rfl, fun _ => rfl⟩
  | 14, _, _ => exact ⟨rfl, fun _ => rfl, fun _ => rfl⟩
  | 15, _, _ => exact ⟨rfl, fun _ => rfl, fun _ => rfl⟩
  | j + 16, hk, _ => exact absurd hk (by omega)
theorem kXm2 : ∀ w ∈ u_ws RX2 TX2 16, w ∈ tables_1 := by decide +kernel
theorem kXg2 : ∀ w ∈ u_ws RX2 TX2 16, goodWord w = true := by decide +kernel
theorem kX2 : vCk 2 (RX2, TX2, 16) := ⟨rfl, rfl, by decide, fun w h => List.mem_filter.mpr ⟨List.mem_append_right _ (kXm2 w h), kXg2 w h⟩, by decide +kernel, nmX2, tyX2, tyX2_ok, by decide +kernel, kXn2⟩
theorem kXn3 : ∀ k, k < 5 → vIs 3 k = false → defaultValue (tyX3 k) = .null ∧ (∀ a, narrow (tyX3 k) (.ref a) = .ref a) ∧ ∀ a, fits (tyX3 k) (.ref a) = true := by
  intro k hk hi
  match k, hk, hi with
  | 0, _, _ => exact ⟨rfl, fun _ => rfl, fun _ => rfl⟩
  | 1, _, _ => exact ⟨rfl, fun _ => rfl, fun _ => rfl⟩
  | 2, _, hi => exact absurd hi (by decide)
  | 3, _, hi => exact absurd hi (by decide)
  | 4, _, hi => exact absurd hi (by decide)
  | j + 5, hk, _ => exact absurd hk (by omega)
theorem kXm3 : ∀ w ∈ u_ws RX3 TX3 5, w ∈ tables_1 := by decide +kernel
theorem kXg3 : ∀ w ∈ u_ws RX3 TX3 5, goodWord w = true := by decide +kernel
theorem kX3 : vCk 3 (RX3, TX3, 5) := ⟨rfl, rfl, by decide, fun w h => List.mem_filter.mpr ⟨List.mem_append_right _ (kXm3 w h), kXg3 w h⟩, by decide +kernel, nmX3, tyX3, tyX3_ok, by decide +kernel, kXn3⟩
theorem kXn4 : ∀ k, k < 4 → vIs 4 k = false → defaultValue (tyX4 k) = .null ∧ (∀ a, narrow (tyX4 k) (.ref a) = .ref a) ∧ ∀ a, fits (tyX4 k) (.ref a) = true := by
  intro k hk hi
  match k, hk, hi with
  | 0, _, _ => exact ⟨rfl, fun _ => rfl, fun _ => rfl⟩
  | 1, _, _ => exact ⟨rfl, fun _ => rfl, fun _ => rfl⟩
  | 2, _, _ => exact ⟨rfl, fun _ => rfl, fun _ => rfl⟩
  | 3, _, hi => exact absurd hi (by decide)
  | j + 4, hk, _ => exact absurd hk (by omega)
theorem kXm4 : ∀ w ∈ u_ws RX4 TX4 4, w ∈ tables_1 := by decide +kernel
theorem kXg4 : ∀ w ∈ u_ws RX4 TX4 4, goodWord w = true := by decide +kernel
theorem kX4 : vCk 4 (RX4, TX4, 4) := ⟨rfl, rfl, by decide, fun w h => List.mem_filter.mpr ⟨List.mem_append_right _ (kXm4 w h), kXg4 w h⟩, by decide +kernel, nmX4, tyX4, tyX4_ok, by decide +kernel, kXn4⟩
theorem kXn5 : ∀ k, k < 2 → vIs 5 k = false → defaultValue (tyX5 k) = .null ∧ (∀ a, narrow (tyX5 k) (.ref a) = .ref a) ∧ ∀ a, fits (tyX5 k) (.ref a) = true := by
  intro k hk hi
  match k, hk, hi with
  | 0, _, _ => exact ⟨rfl, fun _ => rfl, fun _ => rfl⟩
  | 1, _, hi => exact absurd hi (by decide)
  | j + 2, hk, _ => exact absurd hk (by omega)
theorem kXm5 : ∀ w ∈ u_ws RX5 TX5 2, w ∈ tables_1 := by decide +kernel
theorem kXg5 : ∀ w ∈ u_ws RX5 TX5 2, goodWord w = true := by decide +kernel
theorem kX5 : vCk 5 (RX5, TX5, 2) := ⟨rfl, rfl, by decide, fun w h => List.mem_filter.mpr ⟨List.mem_append_right _ (kXm5 w h), kXg5 w h⟩, by decide +kernel, nmX5, tyX5, tyX5_ok, by decide +kernel, kXn5⟩
theorem kXn6 : ∀ k, k < 7 → vIs 6 k = false → defaultValue (tyX6 k) = .null ∧ (∀ a, narrow (tyX6 k) (.ref a) = .ref a) ∧ ∀ a, fits (tyX6 k) (.ref a) = true := by
  intro k hk hi
  match k, hk, hi with
  | 0, _, _ => exact ⟨rfl, fun _ => rfl, fun _ => rfl⟩
  | 1, _, _ => exact ⟨rfl, fun _ => rfl, fun _ => rfl⟩
  | 2, _, _ => exact ⟨rfl, fun _ => rfl, fun _ => rfl⟩
  | 3, _, _ => exact ⟨rfl, fun _ => rfl, fun _ => rfl⟩
  | 4, _, _ => exact ⟨rfl, fun _ => rfl, fun _ => rfl⟩
  | 5, _, _ => exact ⟨rfl, fun _ => rfl, fun _ => rfl⟩
  | 6, _, _ => exact ⟨rfl, fun _ => rfl, fun _ => rfl⟩
  | j + 7, hk, _ => exact absurd hk (by omega)
theorem kXm6 : ∀ w ∈ u_ws RX6 TX6 7, w ∈ tables_1 := by decide +kernel
theorem kXg6 : ∀ w ∈ u_ws RX6 TX6 7, goodWord w = true := by decide +kernel
theorem kX6 : vCk 6 (RX6, TX6, 7) := ⟨rfl, rfl, by decide, fun w h => List.mem_filter.mpr ⟨List.mem_append_right _ (kXm6 w h), kXg6 w h⟩, by decide +kernel, nmX6, tyX6, tyX6_ok, by decide +kernel, kXn6⟩
theorem fX6_10 : Cond.fieldLink RX6 10 RX6 (TX6 0).2.1 (TX6 0).2.2.1 ∈ aw := aw_t 245 (by decide +kernel) (by decide +kernel)
theorem fX6_19 : Cond.fieldLink RX6 19 RX6 (TX6 1).2.1 (TX6 1).2.2.1 ∈ aw := aw_t 246 (by decide +kernel) (by decide +kernel)
theorem fX6_23 : Cond.fieldLink RX6 23 RX6 (TX6 2).2.1 (TX6 2).2.2.1 ∈ aw := aw_t 247 (by decide +kernel) (by decide +kernel)
theorem fX6_26 : Cond.fieldLink RX6 26 RX6 (TX6 3).2.1 (TX6 3).2.2.1 ∈ aw := aw_t 248 (by decide +kernel) (by decide +kernel)
theorem fX6_32 : Cond.fieldLink RX6 32 RX6 (TX6 4).2.1 (TX6 4).2.2.1 ∈ aw := aw_t 249 (by decide +kernel) (by decide +kernel)
theorem fX6_36 : Cond.fieldLink RX6 36 RX6 (TX6 5).2.1 (TX6 5).2.2.1 ∈ aw := aw_t 250 (by decide +kernel) (by decide +kernel)
theorem fX6_40 : Cond.fieldLink RX6 40 RX6 (TX6 6).2.1 (TX6 6).2.2.1 ∈ aw := aw_t 251 (by decide +kernel) (by decide +kernel)
theorem fX6_51 : Cond.fieldLink RX6 51 RX5 (TX5 1).2.1 (TX5 1).2.2.1 ∈ aw := aw_t 33 (by decide +kernel) (by decide +kernel)
theorem fX6_74 : Cond.fieldLink RX6 74 RX1 (TX1 2).2.1 (TX1 2).2.2.1 ∈ aw := aw_t 237 (by decide +kernel) (by decide +kernel)
theorem fX6_94 : Cond.fieldLink RX6 94 RX0 (TX0 3).2.1 (TX0 3).2.2.1 ∈ aw := aw_t 195 (by decide +kernel) (by decide +kernel)
theorem fX6_95 : Cond.fieldLink RX6 95 RX0 (TX0 4).2.1 (TX0 4).2.2.1 ∈ aw := aw_t 197 (by decide +kernel) (by decide +kernel)
theorem fX6_98 : Cond.fieldLink RX6 98 RX0 (TX0 1).2.1 (TX0 1).2.2.1 ∈ aw := aw_t 192 (by decide +kernel) (by decide +kernel)
theorem fX6_102 : Cond.fieldLink RX6 102 RX3 (TX3 3).2.1 (TX3 3).2.2.1 ∈ aw := aw_t 60 (by decide +kernel) (by decide +kernel)
theorem fX6_105 : Cond.fieldLink RX6 105 RX3 (TX3 4).2.1 (TX3 4).2.2.1 ∈ aw := aw_t 63 (by decide +kernel) (by decide +kernel)
theorem fX6_108 : Cond.fieldLink RX6 108 RX0 (TX0 6).2.1 (TX0 6).2.2.1 ∈ aw := aw_t 201 (by decide +kernel) (by decide +kernel)
theorem fX6_111 : Cond.fieldLink RX6 111 RX0 (TX0 7).2.1 (TX0 7).2.2.1 ∈ aw := aw_t 203 (by decide +kernel) (by decide +kernel)
theorem fX6_114 : Cond.fieldLink RX6 114 RX0 (TX0 8).2.1 (TX0 8).2.2.1 ∈ aw := aw_t 205 (by decide +kernel) (by decide +kernel)
theorem fX6_120 : Cond.fieldLink RX6 120 RX0 (TX0 5).2.1 (TX0 5).2.2.1 ∈ aw := aw_t 199 (by decide +kernel) (by decide +kernel)
theorem fX6_128 : Cond.fieldLink RX6 128 RX0 (TX0 0).2.1 (TX0 0).2.2.1 ∈ aw := aw_t 190 (by decide +kernel) (by decide +kernel)
theorem fX6_132 : Cond.fieldLink RX6 132 RX2 (TX2 1).2.1 (TX2 1).2.2.1 ∈ aw := aw_t 114 (by decide +kernel) (by decide +kernel)
theorem fX6_137 : Cond.fieldLink RX6 137 RX2 (TX2 2).2.1 (TX2 2).2.2.1 ∈ aw := aw_t 118 (by decide +kernel) (by decide +kernel)
theorem fX6_140 : Cond.fieldLink RX6 140 RX2 (TX2 3).2.1 (TX2 3).2.2.1 ∈ aw := aw_t 121 (by decide +kernel) (by decide +kernel)
theorem fX6_143 : Cond.fieldLink RX6 143 RX2 (TX2 4).2.1 (TX2 4).2.2.1 ∈ aw := aw_t 125 (by decide +kernel) (by decide +kernel)
theorem fX6_146 : Cond.fieldLink RX6 146 RX2 (TX2 5).2.1 (TX2 5).2.2.1 ∈ aw := aw_t 129 (by decide +kernel) (by decide +kernel)
theorem fX6_149 : Cond.fieldLink RX6 149 RX2 (TX2 6).2.1 (TX2 6).2.2.1 ∈ aw := aw_t 132 (by decide +kernel) (by decide +kernel)
theorem fX6_152 : Cond.fieldLink RX6 152 RX2 (TX2 7).2.1 (TX2 7).2.2.1 ∈ aw := aw_t 135 (by decide +kernel) (by decide +kernel)
theorem fX6_155 : Cond.fieldLink RX6 155 RX2 (TX2 8).2.1 (TX2 8).2.2.1 ∈ aw := aw_t 138 (by decide +kernel) (by decide +kernel)
theorem fX6_156 : Cond.fieldLink RX6 156 RX2 (TX2 10).2.1 (TX2 10).2.2.1 ∈ aw := aw_t 143 (by decide +kernel) (by decide +kernel)
theorem fX6_159 : Cond.fieldLink RX6 159 RX2 (TX2 12).2.1 (TX2 12).2.2.1 ∈ aw := aw_t 147 (by decide +kernel) (by decide +kernel)
theorem fX6_162 : Cond.fieldLink RX6 162 RX2 (TX2 14).2.1 (TX2 14).2.2.1 ∈ aw := aw_t 152 (by decide +kernel) (by decide +kernel)
theorem fX6_166 : Cond.fieldLink RX6 166 RX4 (TX4 3).2.1 (TX4 3).2.2.1 ∈ aw := aw_t 97 (by decide +kernel) (by decide +kernel)
theorem fX6_169 : Cond.fieldLink RX6 169 RX2 (TX2 15).2.1 (TX2 15).2.2.1 ∈ aw := aw_t 154 (by decide +kernel) (by decide +kernel)
theorem fX6_179 : Cond.fieldLink RX6 179 RX4 (TX4 0).2.1 (TX4 0).2.2.1 ∈ aw := aw_t 88 (by decide +kernel) (by decide +kernel)
theorem fX6_183 : Cond.fieldLink RX6 183 RX4 (TX4 1).2.1 (TX4 1).2.2.1 ∈ aw := aw_t 91 (by decide +kernel) (by decide +kernel)
theorem fX6_186 : Cond.fieldLink RX6 186 RX4 (TX4 2).2.1 (TX4 2).2.2.1 ∈ aw := aw_t 94 (by decide +kernel) (by decide +kernel)
theorem fX6_194 : Cond.fieldLink RX6 194 RX3 (TX3 1).2.1 (TX3 1).2.2.1 ∈ aw := aw_t 56 (by decide +kernel) (by decide +kernel)
theorem fX6_244 : Cond.fieldLink RX6 244 RX3 (TX3 2).2.1 (TX3 2).2.2.1 ∈ aw := aw_t 58 (by decide +kernel) (by decide +kernel)
theorem fX0_11 : Cond.fieldLink RX0 11 RX0 (TX0 0).2.1 (TX0 0).2.2.1 ∈ aw := aw_t 189 (by decide +kernel) (by decide +kernel)
theorem fX0_20 : Cond.fieldLink RX0 20 RX0 (TX0 1).2.1 (TX0 1).2.2.1 ∈ aw := aw_t 191 (by decide +kernel) (by decide +kernel)
theorem fX0_24 : Cond.fieldLink RX0 24 RX0 (TX0 2).2.1 (TX0 2).2.2.1 ∈ aw := aw_t 193 (by decide +kernel) (by decide +kernel)
theorem fX0_38 : Cond.fieldLink RX0 38 RX0 (TX0 3).2.1 (TX0 3).2.2.1 ∈ aw := aw_t 194 (by decide +kernel) (by decide +kernel)
theorem fX0_42 : Cond.fieldLink RX0 42 RX0 (TX0 4).2.1 (TX0 4).2.2.1 ∈ aw := aw_t 196 (by decide +kernel) (by decide +kernel)
theorem fX0_45 : Cond.fieldLink RX0 45 RX0 (TX0 5).2.1 (TX0 5).2.2.1 ∈ aw := aw_t 198 (by decide +kernel) (by decide +kernel)
theorem fX0_48 : Cond.fieldLink RX0 48 RX0 (TX0 6).2.1 (TX0 6).2.2.1 ∈ aw := aw_t 200 (by decide +kernel) (by decide +kernel)
theorem fX0_51 : Cond.fieldLink RX0 51 RX0 (TX0 7).2.1 (TX0 7).2.2.1 ∈ aw := aw_t 202 (by decide +kernel) (by decide +kernel)
theorem fX0_54 : Cond.fieldLink RX0 54 RX0 (TX0 8).2.1 (TX0 8).2.2.1 ∈ aw := aw_t 204 (by decide +kernel) (by decide +kernel)
theorem fX0_57 : Cond.fieldLink RX0 57 RX2 (TX2 2).2.1 (TX2 2).2.2.1 ∈ aw := aw_t 117 (by decide +kernel) (by decide +kernel)
theorem fX0_71 : Cond.fieldLink RX0 71 RX2 (TX2 3).2.1 (TX2 3).2.2.1 ∈ aw := aw_t 122 (by decide +kernel) (by decide +kernel)
theorem fX0_74 : Cond.fieldLink RX0 74 RX2 (TX2 4).2.1 (TX2 4).2.2.1 ∈ aw := aw_t 126 (by decide +kernel) (by decide +kernel)
theorem fX0_77 : Cond.fieldLink RX0 77 RX2 (TX2 5).2.1 (TX2 5).2.2.1 ∈ aw := aw_t 130 (by decide +kernel) (by decide +kernel)
theorem fX0_80 : Cond.fieldLink RX0 80 RX2 (TX2 6).2.1 (TX2 6).2.2.1 ∈ aw := aw_t 133 (by decide +kernel) (by decide +kernel)
theorem fX0_83 : Cond.fieldLink RX0 83 RX2 (TX2 15).2.1 (TX2 15).2.2.1 ∈ aw := aw_t 155 (by decide +kernel) (by decide +kernel)
theorem fX0_87 : Cond.fieldLink RX0 87 RX4 (TX4 3).2.1 (TX4 3).2.2.1 ∈ aw := aw_t 98 (by decide +kernel) (by decide +kernel)
theorem fX0_90 : Cond.fieldLink RX0 90 RX4 (TX4 0).2.1 (TX4 0).2.2.1 ∈ aw := aw_t 89 (by decide +kernel) (by decide +kernel)
theorem fX0_93 : Cond.fieldLink RX0 93 RX4 (TX4 1).2.1 (TX4 1).2.2.1 ∈ aw := aw_t 92 (by decide +kernel) (by decide +kernel)
theorem fX0_96 : Cond.fieldLink RX0 96 RX4 (TX4 2).2.1 (TX4 2).2.2.1 ∈ aw := aw_t 95 (by decide +kernel) (by decide +kernel)
theorem fX0_149 : Cond.fieldLink RX0 149 RX2 (TX2 1).2.1 (TX2 1).2.2.1 ∈ aw := aw_t 115 (by decide +kernel) (by decide +kernel)
theorem fX0_152 : Cond.fieldLink RX0 152 RX2 (TX2 8).2.1 (TX2 8).2.2.1 ∈ aw := aw_t 139 (by decide +kernel) (by decide +kernel)
theorem fX0_161 : Cond.fieldLink RX0 161 RX2 (TX2 9).2.1 (TX2 9).2.2.1 ∈ aw := aw_t 141 (by decide +kernel) (by decide +kernel)
theorem fX0_170 : Cond.fieldLink RX0 170 RX3 (TX3 3).2.1 (TX3 3).2.2.1 ∈ aw := aw_t 61 (by decide +kernel) (by decide +kernel)
theorem fX0_180 : Cond.fieldLink RX0 180 RX2 (TX2 12).2.1 (TX2 12).2.2.1 ∈ aw := aw_t 148 (by decide +kernel) (by decide +kernel)
theorem fX0_187 : Cond.fieldLink RX0 187 RX3 (TX3 4).2.1 (TX3 4).2.2.1 ∈ aw := aw_t 64 (by decide +kernel) (by decide +kernel)
theorem fX0_205 : Cond.fieldLink RX0 205 RX2 (TX2 7).2.1 (TX2 7).2.2.1 ∈ aw := aw_t 136 (by decide +kernel) (by decide +kernel)
theorem fX0_211 : Cond.fieldLink RX0 211 RX2 (TX2 10).2.1 (TX2 10).2.2.1 ∈ aw := aw_t 144 (by decide +kernel) (by decide +kernel)
theorem fX0_214 : Cond.fieldLink RX0 214 RX2 (TX2 0).2.1 (TX2 0).2.2.1 ∈ aw := aw_t 111 (by decide +kernel) (by decide +kernel)
theorem fX0_217 : Cond.fieldLink RX0 217 RX2 (TX2 13).2.1 (TX2 13).2.2.1 ∈ aw := aw_t 150 (by decide +kernel) (by decide +kernel)
theorem fX1_11 : Cond.fieldLink RX1 11 RX1 (TX1 0).2.1 (TX1 0).2.2.1 ∈ aw := aw_t 234 (by decide +kernel) (by decide +kernel)
theorem fX1_18 : Cond.fieldLink RX1 18 RX1 (TX1 1).2.1 (TX1 1).2.2.1 ∈ aw := aw_t 235 (by decide +kernel) (by decide +kernel)
theorem fX1_26 : Cond.fieldLink RX1 26 RX1 (TX1 2).2.1 (TX1 2).2.2.1 ∈ aw := aw_t 236 (by decide +kernel) (by decide +kernel)
theorem fX2_14 : Cond.fieldLink RX2 14 RX2 (TX2 13).2.1 (TX2 13).2.2.1 ∈ aw := aw_t 149 (by decide +kernel) (by decide +kernel)
theorem fX2_20 : Cond.fieldLink RX2 20 RX2 (TX2 14).2.1 (TX2 14).2.2.1 ∈ aw := aw_t 151 (by decide +kernel) (by decide +kernel)
theorem fX2_23 : Cond.fieldLink RX2 23 RX2 (TX2 15).2.1 (TX2 15).2.2.1 ∈ aw := aw_t 153 (by decide +kernel) (by decide +kernel)
theorem fX2_26 : Cond.fieldLink RX2 26 RX2 (TX2 0).2.1 (TX2 0).2.2.1 ∈ aw := aw_t 109 (by decide +kernel) (by decide +kernel)
theorem fX2_30 : Cond.fieldLink RX2 30 RX2 (TX2 4).2.1 (TX2 4).2.2.1 ∈ aw := aw_t 123 (by decide +kernel) (by decide +kernel)
theorem fX2_33 : Cond.fieldLink RX2 33 RX2 (TX2 5).2.1 (TX2 5).2.2.1 ∈ aw := aw_t 127 (by decide +kernel) (by decide +kernel)
theorem fX2_36 : Cond.fieldLink RX2 36 RX2 (TX2 1).2.1 (TX2 1).2.2.1 ∈ aw := aw_t 112 (by decide +kernel) (by decide +kernel)
theorem fX2_39 : Cond.fieldLink RX2 39 RX2 (TX2 2).2.1 (TX2 2).2.2.1 ∈ aw := aw_t 116 (by decide +kernel) (by decide +kernel)
theorem fX2_42 : Cond.fieldLink RX2 42 RX2 (TX2 3).2.1 (TX2 3).2.2.1 ∈ aw := aw_t 119 (by decide +kernel) (by decide +kernel)
theorem fX2_45 : Cond.fieldLink RX2 45 RX2 (TX2 6).2.1 (TX2 6).2.2.1 ∈ aw := aw_t 131 (by decide +kernel) (by decide +kernel)
theorem fX2_48 : Cond.fieldLink RX2 48 RX2 (TX2 7).2.1 (TX2 7).2.2.1 ∈ aw := aw_t 134 (by decide +kernel) (by decide +kernel)
theorem fX2_51 : Cond.fieldLink RX2 51 RX2 (TX2 8).2.1 (TX2 8).2.2.1 ∈ aw := aw_t 137 (by decide +kernel) (by decide +kernel)
theorem fX2_54 : Cond.fieldLink RX2 54 RX2 (TX2 9).2.1 (TX2 9).2.2.1 ∈ aw := aw_t 140 (by decide +kernel) (by decide +kernel)
theorem fX2_57 : Cond.fieldLink RX2 57 RX2 (TX2 10).2.1 (TX2 10).2.2.1 ∈ aw := aw_t 142 (by decide +kernel) (by decide +kernel)
theorem fX2_60 : Cond.fieldLink RX2 60 RX2 (TX2 11).2.1 (TX2 11).2.2.1 ∈ aw := aw_t 145 (by decide +kernel) (by decide +kernel)
theorem fX2_63 : Cond.fieldLink RX2 63 RX2 (TX2 12).2.1 (TX2 12).2.2.1 ∈ aw := aw_t 146 (by decide +kernel) (by decide +kernel)
theorem fX2_96 : Cond.fieldLink RX2 96 RX4 (TX4 3).2.1 (TX4 3).2.2.1 ∈ aw := aw_t 99 (by decide +kernel) (by decide +kernel)
theorem fX3_9 : Cond.fieldLink RX3 9 RX3 (TX3 0).2.1 (TX3 0).2.2.1 ∈ aw := aw_t 54 (by decide +kernel) (by decide +kernel)
theorem fX3_15 : Cond.fieldLink RX3 15 RX3 (TX3 1).2.1 (TX3 1).2.2.1 ∈ aw := aw_t 55 (by decide +kernel) (by decide +kernel)
theorem fX3_24 : Cond.fieldLink RX3 24 RX3 (TX3 3).2.1 (TX3 3).2.2.1 ∈ aw := aw_t 59 (by decide +kernel) (by decide +kernel)
theorem fX3_28 : Cond.fieldLink RX3 28 RX3 (TX3 2).2.1 (TX3 2).2.2.1 ∈ aw := aw_t 57 (by decide +kernel) (by decide +kernel)
theorem fX3_31 : Cond.fieldLink RX3 31 RX3 (TX3 4).2.1 (TX3 4).2.2.1 ∈ aw := aw_t 62 (by decide +kernel) (by decide +kernel)
theorem fX3_38 : Cond.fieldLink RX3 38 RX2 (TX2 0).2.1 (TX2 0).2.2.1 ∈ aw := aw_t 110 (by decide +kernel) (by decide +kernel)
theorem fX3_43 : Cond.fieldLink RX3 43 RX2 (TX2 1).2.1 (TX2 1).2.2.1 ∈ aw := aw_t 113 (by decide +kernel) (by decide +kernel)
theorem fX3_52 : Cond.fieldLink RX3 52 RX2 (TX2 3).2.1 (TX2 3).2.2.1 ∈ aw := aw_t 120 (by decide +kernel) (by decide +kernel)
theorem fX3_55 : Cond.fieldLink RX3 55 RX2 (TX2 4).2.1 (TX2 4).2.2.1 ∈ aw := aw_t 124 (by decide +kernel) (by decide +kernel)
theorem fX3_58 : Cond.fieldLink RX3 58 RX2 (TX2 5).2.1 (TX2 5).2.2.1 ∈ aw := aw_t 128 (by decide +kernel) (by decide +kernel)
theorem fX4_7 : Cond.fieldLink RX4 7 RX4 (TX4 0).2.1 (TX4 0).2.2.1 ∈ aw := aw_t 87 (by decide +kernel) (by decide +kernel)
theorem fX4_13 : Cond.fieldLink RX4 13 RX4 (TX4 1).2.1 (TX4 1).2.2.1 ∈ aw := aw_t 90 (by decide +kernel) (by decide +kernel)
theorem fX4_16 : Cond.fieldLink RX4 16 RX4 (TX4 2).2.1 (TX4 2).2.2.1 ∈ aw := aw_t 93 (by decide +kernel) (by decide +kernel)
theorem fX4_31 : Cond.fieldLink RX4 31 RX4 (TX4 3).2.1 (TX4 3).2.2.1 ∈ aw := aw_t 96 (by decide +kernel) (by decide +kernel)
theorem fX5_9 : Cond.fieldLink RX5 9 RX5 (TX5 0).2.1 (TX5 0).2.2.1 ∈ aw := aw_t 31 (by decide +kernel) (by decide +kernel)
theorem fX5_15 : Cond.fieldLink RX5 15 RX5 (TX5 1).2.1 (TX5 1).2.2.1 ∈ aw := aw_t 32 (by decide +kernel) (by decide +kernel)
theorem lX6_1 : Cond.methodLink RX6 1 objectInit ∈ aw := aw_t 22 (by decide +kernel) (by decide +kernel)
theorem lX6_18 : Cond.methodLink RX6 18 yX0_init ∈ aw := aw_t 42 (by decide +kernel) (by decide +kernel)
theorem lX6_31 : Cond.methodLink RX6 31 yX1_init ∈ aw := aw_t 227 (by decide +kernel) (by decide +kernel)
theorem lX6_60 : Cond.methodLink RX6 60 yX5_addSign ∈ aw := aw_t 364 (by decide +kernel) (by decide +kernel)
theorem lX6_64 : Cond.methodLink RX6 64 yX5_firstError ∈ aw := aw_t 377 (by decide +kernel) (by decide +kernel)
theorem lX6_70 : Cond.methodLink RX6 70 yX0_copyFrom ∈ aw := aw_t 402 (by decide +kernel) (by decide +kernel)
theorem lX6_77 : Cond.methodLink RX6 77 yX5_signAt ∈ aw := aw_t 425 (by decide +kernel) (by decide +kernel)
theorem lX6_81 : Cond.methodLink RX6 81 yX5_firstNumber ∈ aw := aw_t 426 (by decide +kernel) (by decide +kernel)
theorem lX6_84 : Cond.methodLink RX6 84 yX5_secondNumber ∈ aw := aw_t 430 (by decide +kernel) (by decide +kernel)
theorem lX6_87 : Cond.methodLink RX6 87 yX0_carryOut ∈ aw := aw_t 434 (by decide +kernel) (by decide +kernel)
theorem lX6_91 : Cond.methodLink RX6 91 yX5_digitsBehind ∈ aw := aw_t 592 (by decide +kernel) (by decide +kernel)
theorem lX6_117 : Cond.methodLink RX6 117 yX0_whoAre ∈ aw := aw_t 600 (by decide +kernel) (by decide +kernel)
theorem lX6_125 : Cond.methodLink RX6 125 yX6_checkMember ∈ aw := aw_t 613 (by decide +kernel) (by decide +kernel)
theorem lX6_197 : Cond.methodLink RX6 197 yX3_isCutBetween ∈ aw := aw_t 661 (by decide +kernel) (by decide +kernel)
theorem lX6_201 : Cond.methodLink RX6 201 yX6_isPlace ∈ aw := aw_t 669 (by decide +kernel) (by decide +kernel)
theorem lX6_209 : Cond.methodLink RX6 209 yX1_remember ∈ aw := aw_t 672 (by decide +kernel) (by decide +kernel)
theorem lX6_212 : Cond.methodLink RX6 212 yX0_addMember ∈ aw := aw_t 678 (by decide +kernel) (by decide +kernel)
theorem lX6_215 : Cond.methodLink RX6 215 yX2_maySpeak ∈ aw := aw_t 686 (by decide +kernel) (by decide +kernel)
theorem lX6_221 : Cond.methodLink RX6 221 yX0_speak ∈ aw := aw_t 688 (by decide +kernel) (by decide +kernel)
theorem lX6_224 : Cond.methodLink RX6 224 yX0_isRollWith ∈ aw := aw_t 696 (by decide +kernel) (by decide +kernel)
theorem lX6_229 : Cond.methodLink RX6 229 yX0_isGone ∈ aw := aw_t 698 (by decide +kernel) (by decide +kernel)
theorem lX6_234 : Cond.methodLink RX6 234 yX0_callRoll ∈ aw := aw_t 700 (by decide +kernel) (by decide +kernel)
theorem lX6_240 : Cond.methodLink RX6 240 yX3_changeWay ∈ aw := aw_t 827 (by decide +kernel) (by decide +kernel)
theorem lX6_247 : Cond.methodLink RX6 247 yX2_goAway ∈ aw := aw_t 708 (by decide +kernel) (by decide +kernel)
theorem lX6_252 : Cond.methodLink RX6 252 yX2_comeBack ∈ aw := aw_t 717 (by decide +kernel) (by decide +kernel)
theorem lX6_255 : Cond.methodLink RX6 255 yX6_isPatience ∈ aw := aw_t 725 (by decide +kernel) (by decide +kernel)
theorem lX6_260 : Cond.methodLink RX6 260 yX6_areTicks ∈ aw := aw_t 734 (by decide +kernel) (by decide +kernel)
theorem lX6_265 : Cond.methodLink RX6 265 yX0_letTicksGo ∈ aw := aw_t 736 (by decide +kernel) (by decide +kernel)
theorem lX6_270 : Cond.methodLink RX6 270 yX1_takeLast ∈ aw := aw_t 745 (by decide +kernel) (by decide +kernel)
theorem lX6_276 : Cond.methodLink RX6 276 yX2_isIn ∈ aw := aw_t 757 (by decide +kernel) (by decide +kernel)
theorem lX6_279 : Cond.methodLink RX6 279 yX0_allSitIn ∈ aw := aw_t 758 (by decide +kernel) (by decide +kernel)
theorem lX6_282 : Cond.methodLink RX6 282 yX0_sharedSessions ∈ aw := aw_t 770 (by decide +kernel) (by decide +kernel)
theorem lX6_288 : Cond.methodLink RX6 288 yX0_speechesMissedBy ∈ aw := aw_t 782 (by decide +kernel) (by decide +kernel)
theorem lX6_291 : Cond.methodLink RX6 291 yJ6_bitCount_0f7a4 ∈ aw := aw_t 786 (by decide +kernel) (by decide +kernel)
theorem lX6_296 : Cond.methodLink RX6 296 yX0_groupOf ∈ aw := aw_t 867 (by decide +kernel) (by decide +kernel)
theorem lX6_307 : Cond.methodLink RX6 307 yX6_succeeds ∈ aw := aw_t 839 (by decide +kernel) (by decide +kernel)
theorem lX6_316 : Cond.methodLink RX6 316 yX6_takeTurn ∈ aw := aw_t 854 (by decide +kernel) (by decide +kernel)
theorem lX6_319 : Cond.methodLink RX6 319 yJ9_min_7cf53 ∈ aw := aw_t 859 (by decide +kernel) (by decide +kernel)
theorem lX6_324 : Cond.methodLink RX6 324 yX6_checkSlot ∈ aw := aw_t 799 (by decide +kernel) (by decide +kernel)
theorem lX6_329 : Cond.methodLink RX6 329 yX0_hasMember ∈ aw := aw_t 617 (by decide +kernel) (by decide +kernel)
theorem lX6_336 : Cond.methodLink RX6 336 yX0_everybody ∈ aw := aw_t 858 (by decide +kernel) (by decide +kernel)
theorem lX0_3 : Cond.methodLink RX0 3 objectInit ∈ aw := aw_t 45 (by decide +kernel) (by decide +kernel)
theorem lX0_28 : Cond.methodLink RX0 28 yX2_init ∈ aw := aw_t 77 (by decide +kernel) (by decide +kernel)
theorem lX0_31 : Cond.methodLink RX0 31 yX2_copyFrom ∈ aw := aw_t 406 (by decide +kernel) (by decide +kernel)
theorem lX0_35 : Cond.methodLink RX0 35 yX3_copyFrom ∈ aw := aw_t 420 (by decide +kernel) (by decide +kernel)
theorem lX0_60 : Cond.methodLink RX0 60 yX0_everybody ∈ aw := aw_t 575 (by decide +kernel) (by decide +kernel)
theorem lX0_68 : Cond.methodLink RX0 68 yX2_isIn ∈ aw := aw_t 762 (by decide +kernel) (by decide +kernel)
theorem lX0_102 : Cond.methodLink RX0 102 yX0_addMember ∈ aw := aw_t 441 (by decide +kernel) (by decide +kernel)
theorem lX0_112 : Cond.methodLink RX0 112 yX0_letTicksGo ∈ aw := aw_t 451 (by decide +kernel) (by decide +kernel)
theorem lX0_115 : Cond.methodLink RX0 115 yX0_hasMember ∈ aw := aw_t 467 (by decide +kernel) (by decide +kernel)
theorem lX0_118 : Cond.methodLink RX0 118 yX3_changeWay ∈ aw := aw_t 555 (by decide +kernel) (by decide +kernel)
theorem lX0_122 : Cond.methodLink RX0 122 yX0_carryOutBy ∈ aw := aw_t 559 (by decide +kernel) (by decide +kernel)
theorem lX0_126 : Cond.methodLink RX0 126 yX2_maySpeak ∈ aw := aw_t 563 (by decide +kernel) (by decide +kernel)
theorem lX0_130 : Cond.methodLink RX0 130 yX0_speak ∈ aw := aw_t 567 (by decide +kernel) (by decide +kernel)
theorem lX0_133 : Cond.methodLink RX0 133 yX0_isRollWith ∈ aw := aw_t 571 (by decide +kernel) (by decide +kernel)
theorem lX0_136 : Cond.methodLink RX0 136 yX0_isGone ∈ aw := aw_t 579 (by decide +kernel) (by decide +kernel)
theorem lX0_139 : Cond.methodLink RX0 139 yX0_callRoll ∈ aw := aw_t 546 (by decide +kernel) (by decide +kernel)
theorem lX0_143 : Cond.methodLink RX0 143 yX2_goAway ∈ aw := aw_t 583 (by decide +kernel) (by decide +kernel)
theorem lX0_146 : Cond.methodLink RX0 146 yX2_comeBack ∈ aw := aw_t 587 (by decide +kernel) (by decide +kernel)
theorem lX0_153 : Cond.methodLink RX0 153 yX3_send ∈ aw := aw_t 499 (by decide +kernel) (by decide +kernel)
theorem lX0_157 : Cond.methodLink RX0 157 yX2_startCall ∈ aw := aw_t 550 (by decide +kernel) (by decide +kernel)
theorem lX0_164 : Cond.methodLink RX0 164 yX2_isAnsweredByAll ∈ aw := aw_t 554 (by decide +kernel) (by decide +kernel)
theorem lX0_167 : Cond.methodLink RX0 167 yX0_rollStands ∈ aw := aw_t 522 (by decide +kernel) (by decide +kernel)
theorem lX0_171 : Cond.methodLink RX0 171 yX3_isDue ∈ aw := aw_t 455 (by decide +kernel) (by decide +kernel)
theorem lX0_174 : Cond.methodLink RX0 174 yX0_noteComes ∈ aw := aw_t 459 (by decide +kernel) (by decide +kernel)
theorem lX0_177 : Cond.methodLink RX0 177 yX2_isOutOfPatience ∈ aw := aw_t 542 (by decide +kernel) (by decide +kernel)
theorem lX0_183 : Cond.methodLink RX0 183 yX3_takeFirst ∈ aw := aw_t 463 (by decide +kernel) (by decide +kernel)
theorem lX0_190 : Cond.methodLink RX0 190 yX2_takesSpeech ∈ aw := aw_t 471 (by decide +kernel) (by decide +kernel)
theorem lX0_193 : Cond.methodLink RX0 193 yX0_answerCall ∈ aw := aw_t 487 (by decide +kernel) (by decide +kernel)
theorem lX0_197 : Cond.methodLink RX0 197 yX2_countsAnswer ∈ aw := aw_t 510 (by decide +kernel) (by decide +kernel)
theorem lX0_201 : Cond.methodLink RX0 201 yX2_enterRoll ∈ aw := aw_t 533 (by decide +kernel) (by decide +kernel)
theorem lX0_208 : Cond.methodLink RX0 208 yX2_hushFor ∈ aw := aw_t 491 (by decide +kernel) (by decide +kernel)
theorem lX0_220 : Cond.methodLink RX0 220 yX4_heardLike ∈ aw := aw_t 526 (by decide +kernel) (by decide +kernel)
theorem lX1_3 : Cond.methodLink RX1 3 objectInit ∈ aw := aw_t 230 (by decide +kernel) (by decide +kernel)
theorem lX1_17 : Cond.methodLink RX1 17 yX0_init ∈ aw := aw_t 233 (by decide +kernel) (by decide +kernel)
theorem lX1_22 : Cond.methodLink RX1 22 yX0_copyFrom ∈ aw := aw_t 676 (by decide +kernel) (by decide +kernel)
theorem lX1_29 : Cond.methodLink RX1 29 yJ9_min_7cf53 ∈ aw := aw_t 677 (by decide +kernel) (by decide +kernel)
theorem lX2_3 : Cond.methodLink RX2 3 objectInit ∈ aw := aw_t 80 (by decide +kernel) (by decide +kernel)
theorem lX2_11 : Cond.methodLink RX2 11 yX4_init ∈ aw := aw_t 83 (by decide +kernel) (by decide +kernel)
theorem lX2_66 : Cond.methodLink RX2 66 yX4_copyFrom ∈ aw := aw_t 410 (by decide +kernel) (by decide +kernel)
theorem lX2_70 : Cond.methodLink RX2 70 yX4_put ∈ aw := aw_t 514 (by decide +kernel) (by decide +kernel)
theorem lX2_74 : Cond.methodLink RX2 74 yX2_isAnsweredByAll ∈ aw := aw_t 518 (by decide +kernel) (by decide +kernel)
theorem lX2_78 : Cond.methodLink RX2 78 yX2_stopCall ∈ aw := aw_t 495 (by decide +kernel) (by decide +kernel)
theorem lX2_81 : Cond.methodLink RX2 81 yX2_isIn ∈ aw := aw_t 475 (by decide +kernel) (by decide +kernel)
theorem lX2_85 : Cond.methodLink RX2 85 yX4_isFull ∈ aw := aw_t 479 (by decide +kernel) (by decide +kernel)
theorem lX2_88 : Cond.methodLink RX2 88 yX4_add ∈ aw := aw_t 483 (by decide +kernel) (by decide +kernel)
theorem lX2_92 : Cond.methodLink RX2 92 yX4_takeUpTo ∈ aw := aw_t 537 (by decide +kernel) (by decide +kernel)
theorem lX2_99 : Cond.methodLink RX2 99 yX2_enterRoll ∈ aw := aw_t 591 (by decide +kernel) (by decide +kernel)
theorem lX3_3 : Cond.methodLink RX3 3 objectInit ∈ aw := aw_t 53 (by decide +kernel) (by decide +kernel)
theorem lX3_18 : Cond.methodLink RX3 18 arraycopyName ∈ aw := aw_t 424 (by decide +kernel) (by decide +kernel)
theorem lX3_34 : Cond.methodLink RX3 34 yX3_isCutBetween ∈ aw := aw_t 503 (by decide +kernel) (by decide +kernel)
theorem lX3_46 : Cond.methodLink RX3 46 yJ9_abs_0f7a4 ∈ aw := aw_t 507 (by decide +kernel) (by decide +kernel)
theorem lX4_1 : Cond.methodLink RX4 1 objectInit ∈ aw := aw_t 86 (by decide +kernel) (by decide +kernel)
theorem lX4_19 : Cond.methodLink RX4 19 yJ9_min_7cf53 ∈ aw := aw_t 414 (by decide +kernel) (by decide +kernel)
theorem lX4_25 : Cond.methodLink RX4 25 arraycopyName ∈ aw := aw_t 417 (by decide +kernel) (by decide +kernel)
theorem lX5_3 : Cond.methodLink RX5 3 objectInit ∈ aw := aw_t 30 (by decide +kernel) (by decide +kernel)
theorem lX5_19 : Cond.methodLink RX5 19 yX5_signAt ∈ aw := aw_t 381 (by decide +kernel) (by decide +kernel)
theorem lX5_23 : Cond.methodLink RX5 23 yX5_digitsBehind ∈ aw := aw_t 385 (by decide +kernel) (by decide +kernel)
theorem lX5_26 : Cond.methodLink RX5 26 yX5_isAllowed ∈ aw := aw_t 389 (by decide +kernel) (by decide +kernel)
theorem lX5_30 : Cond.methodLink RX5 30 yX5_beginsNumber ∈ aw := aw_t 393 (by decide +kernel) (by decide +kernel)
theorem lX5_34 : Cond.methodLink RX5 34 yX5_twoDigits ∈ aw := aw_t 397 (by decide +kernel) (by decide +kernel)
theorem lL_7 : Cond.methodLink RL 7 yX6_cut ∈ aw := aw_t 822 (by decide +kernel) (by decide +kernel)
theorem lL_19 : Cond.methodLink RL 19 yX6_runScript ∈ aw := aw_t 831 (by decide +kernel) (by decide +kernel)
theorem lL_23 : Cond.methodLink RL 23 yX6_simulate ∈ aw := aw_t 847 (by decide +kernel) (by decide +kernel)
theorem lL_27 : Cond.methodLink RL 27 yX6_append ∈ aw := aw_t 276 (by decide +kernel) (by decide +kernel)
theorem lL_34 : Cond.methodLink RL 34 yX6_load ∈ aw := aw_t 373 (by decide +kernel) (by decide +kernel)
theorem lL_38 : Cond.methodLink RL 38 yX6_about ∈ aw := aw_t 596 (by decide +kernel) (by decide +kernel)
theorem lL_41 : Cond.methodLink RL 41 yX6_memberOf ∈ aw := aw_t 609 (by decide +kernel) (by decide +kernel)
theorem lL_45 : Cond.methodLink RL 45 yX6_session ∈ aw := aw_t 639 (by decide +kernel) (by decide +kernel)
theorem lL_49 : Cond.methodLink RL 49 yX6_note ∈ aw := aw_t 648 (by decide +kernel) (by decide +kernel)
theorem lL_52 : Cond.methodLink RL 52 yX6_isCut ∈ aw := aw_t 657 (by decide +kernel) (by decide +kernel)
theorem lL_55 : Cond.methodLink RL 55 yX6_member ∈ aw := aw_t 665 (by decide +kernel) (by decide +kernel)
theorem lL_58 : Cond.methodLink RL 58 yX6_say ∈ aw := aw_t 682 (by decide +kernel) (by decide +kernel)
theorem lL_61 : Cond.methodLink RL 61 yX6_call ∈ aw := aw_t 692 (by decide +kernel) (by decide +kernel)
theorem lL_64 : Cond.methodLink RL 64 yX6_leave ∈ aw := aw_t 704 (by decide +kernel) (by decide +kernel)
theorem lL_67 : Cond.methodLink RL 67 yX6_back ∈ aw := aw_t 712 (by decide +kernel) (by decide +kernel)
theorem lL_70 : Cond.methodLink RL 70 yX6_set ∈ aw := aw_t 721 (by decide +kernel) (by decide +kernel)
theorem lL_73 : Cond.methodLink RL 73 yX6_ticks ∈ aw := aw_t 730 (by decide +kernel) (by decide +kernel)
theorem lL_76 : Cond.methodLink RL 76 yX6_undo ∈ aw := aw_t 740 (by decide +kernel) (by decide +kernel)
theorem lL_79 : Cond.methodLink RL 79 yX6_standsIn ∈ aw := aw_t 752 (by decide +kernel) (by decide +kernel)
theorem lL_82 : Cond.methodLink RL 82 yX6_compare ∈ aw := aw_t 766 (by decide +kernel) (by decide +kernel)
theorem lL_85 : Cond.methodLink RL 85 yX6_lacks ∈ aw := aw_t 778 (by decide +kernel) (by decide +kernel)
theorem lL_88 : Cond.methodLink RL 88 yX6_save ∈ aw := aw_t 795 (by decide +kernel) (by decide +kernel)
theorem lL_91 : Cond.methodLink RL 91 yX6_restore ∈ aw := aw_t 806 (by decide +kernel) (by decide +kernel)
theorem lL_94 : Cond.methodLink RL 94 yL_tryAppend ∈ aw := aw_t 271 (by decide +kernel) (by decide +kernel)
theorem lL_100 : Cond.methodLink RL 100 yL_tryLoad ∈ aw := aw_t 370 (by decide +kernel) (by decide +kernel)
theorem lL_104 : Cond.methodLink RL 104 yL_tryAbout ∈ aw := aw_t 593 (by decide +kernel) (by decide +kernel)
theorem lL_107 : Cond.methodLink RL 107 yL_tryMember ∈ aw := aw_t 605 (by decide +kernel) (by decide +kernel)
theorem lL_111 : Cond.methodLink RL 111 yL_trySession ∈ aw := aw_t 636 (by decide +kernel) (by decide +kernel)
theorem lL_115 : Cond.methodLink RL 115 yL_tryNote ∈ aw := aw_t 645 (by decide +kernel) (by decide +kernel)
theorem lL_118 : Cond.methodLink RL 118 yL_tryCut ∈ aw := aw_t 654 (by decide +kernel) (by decide +kernel)
theorem lL_121 : Cond.methodLink RL 121 yL_tryCome ∈ aw := aw_t 662 (by decide +kernel) (by decide +kernel)
theorem lL_124 : Cond.methodLink RL 124 yL_trySay ∈ aw := aw_t 679 (by decide +kernel) (by decide +kernel)
theorem lL_127 : Cond.methodLink RL 127 yL_tryCall ∈ aw := aw_t 689 (by decide +kernel) (by decide +kernel)
theorem lL_130 : Cond.methodLink RL 130 yL_tryLeave ∈ aw := aw_t 701 (by decide +kernel) (by decide +kernel)
theorem lL_133 : Cond.methodLink RL 133 yL_tryReturn ∈ aw := aw_t 709 (by decide +kernel) (by decide +kernel)
theorem lL_136 : Cond.methodLink RL 136 yL_tryLay ∈ aw := aw_t 718 (by decide +kernel) (by decide +kernel)
theorem lL_139 : Cond.methodLink RL 139 yL_tryTicks ∈ aw := aw_t 727 (by decide +kernel) (by decide +kernel)
theorem lL_142 : Cond.methodLink RL 142 yL_tryUndo ∈ aw := aw_t 737 (by decide +kernel) (by decide +kernel)
theorem lL_145 : Cond.methodLink RL 145 yL_tryStands ∈ aw := aw_t 749 (by decide +kernel) (by decide +kernel)
theorem lL_148 : Cond.methodLink RL 148 yL_tryCompare ∈ aw := aw_t 763 (by decide +kernel) (by decide +kernel)
theorem lL_151 : Cond.methodLink RL 151 yL_tryLacks ∈ aw := aw_t 775 (by decide +kernel) (by decide +kernel)
theorem lL_154 : Cond.methodLink RL 154 yL_tryKeep ∈ aw := aw_t 792 (by decide +kernel) (by decide +kernel)
theorem lL_157 : Cond.methodLink RL 157 yL_tryBack ∈ aw := aw_t 803 (by decide +kernel) (by decide +kernel)
theorem lL_162 : Cond.methodLink RL 162 yL_call ∈ aw := aw_t 268 (by decide +kernel) (by decide +kernel)
theorem lL_165 : Cond.methodLink RL 165 yL_cuts ∈ aw := aw_t 819 (by decide +kernel) (by decide +kernel)
theorem lL_169 : Cond.methodLink RL 169 yL_doScript ∈ aw := aw_t 828 (by decide +kernel) (by decide +kernel)
theorem lL_175 : Cond.methodLink RL 175 yL_doSimulate ∈ aw := aw_t 844 (by decide +kernel) (by decide +kernel)
theorem lL_179 : Cond.methodLink RL 179 yL_rollBehind ∈ aw := aw_t 877 (by decide +kernel) (by decide +kernel)
theorem lL_182 : Cond.methodLink RL 182 yX6_together ∈ aw := aw_t 863 (by decide +kernel) (by decide +kernel)
theorem lL_185 : Cond.methodLink RL 185 yL_bits ∈ aw := aw_t 871 (by decide +kernel) (by decide +kernel)
theorem lL_188 : Cond.methodLink RL 188 yL_together ∈ aw := aw_t 874 (by decide +kernel) (by decide +kernel)
theorem lL_191 : Cond.methodLink RL 191 yX6_init ∈ aw := aw_t 19 (by decide +kernel) (by decide +kernel)
theorem lL_192 : Cond.methodLink RL 192 yL_cell ∈ aw := aw_t 811 (by decide +kernel) (by decide +kernel)
theorem lL_196 : Cond.methodLink RL 196 yL_act ∈ aw := aw_t 880 (by decide +kernel) (by decide +kernel)
theorem lL_200 : Cond.methodLink RL 200 yL_refuses ∈ aw := aw_t 816 (by decide +kernel) (by decide +kernel)
theorem lL_204 : Cond.methodLink RL 204 yL_alike ∈ aw := aw_t 883 (by decide +kernel) (by decide +kernel)
theorem lL_208 : Cond.methodLink RL 208 yL_holds ∈ aw := aw_t 860 (by decide +kernel) (by decide +kernel)
theorem lL_211 : Cond.methodLink RL 211 yL_stands ∈ aw := aw_t 886 (by decide +kernel) (by decide +kernel)
theorem lL_214 : Cond.methodLink RL 214 yL_says ∈ aw := aw_t 898 (by decide +kernel) (by decide +kernel)
theorem lL_217 : Cond.methodLink RL 217 yL_thrown ∈ aw := aw_t 895 (by decide +kernel) (by decide +kernel)
theorem lL_221 : Cond.methodLink RL 221 yL_waits ∈ aw := aw_t 889 (by decide +kernel) (by decide +kernel)
theorem lL_224 : Cond.methodLink RL 224 yL_undoes ∈ aw := aw_t 892 (by decide +kernel) (by decide +kernel)
theorem lnX6_9 : Cond.methodLinkNest RX6 9 yX5_init RX6 ∈ tables_1 := List.mem_of_getElem? (i := 27) (by decide +kernel)
theorem lnX0_19 : Cond.methodLinkNest RX0 19 yX3_init RX6 ∈ tables_1 := List.mem_of_getElem? (i := 50) (by decide +kernel)
theorem lnX0_64 : Cond.methodLinkNest RX0 64 yX6_hasBit RX6 ∈ tables_1 := List.mem_of_getElem? (i := 541) (by decide +kernel)
theorem lnX0_98 : Cond.methodLinkNest RX0 98 yX6_isPlace RX6 ∈ tables_1 := List.mem_of_getElem? (i := 438) (by decide +kernel)
theorem lnX0_106 : Cond.methodLinkNest RX0 106 yX6_isPatience RX6 ∈ tables_1 := List.mem_of_getElem? (i := 445) (by decide +kernel)
theorem lnX0_109 : Cond.methodLinkNest RX0 109 yX6_areTicks RX6 ∈ tables_1 := List.mem_of_getElem? (i := 448) (by decide +kernel)
theorem lnX4_35 : Cond.methodLinkNest RX4 35 yX6_hasBit RX6 ∈ tables_1 := List.mem_of_getElem? (i := 530) (by decide +kernel)
theorem cX6_301 : Jvm.Cond.constantLong RX6 301 100000 ∈ aw := aw_t 836 (by decide +kernel) (by decide +kernel)
theorem cX6_305 : Jvm.Cond.constantLong RX6 305 10000000000 ∈ aw := aw_t 838 (by decide +kernel) (by decide +kernel)
theorem cX6_312 : Jvm.Cond.constantLong RX6 312 6364136223846793005 ∈ aw := aw_t 852 (by decide +kernel) (by decide +kernel)
theorem cX6_314 : Jvm.Cond.constantLong RX6 314 1442695040888963407 ∈ aw := aw_t 853 (by decide +kernel) (by decide +kernel)
theorem cL_15 : Jvm.Cond.constant RL 15 (-9999001) ∈ aw := aw_t 635 (by decide +kernel) (by decide +kernel)
theorem cL_18 : Jvm.Cond.constant RL 18 (-9999002) ∈ aw := aw_t 368 (by decide +kernel) (by decide +kernel)
theorem cL_33 : Jvm.Cond.constant RL 33 (-9999003) ∈ aw := aw_t 369 (by decide +kernel) (by decide +kernel)
theorem cL_160 : Jvm.Cond.constant RL 160 15519709 ∈ aw := aw_t 814 (by decide +kernel) (by decide +kernel)
theorem cL_161 : Jvm.Cond.constant RL 161 2147483647 ∈ aw := aw_t 815 (by decide +kernel) (by decide +kernel)
theorem cL_173 : Jvm.Cond.constantLong RL 173 100000 ∈ aw := aw_t 843 (by decide +kernel) (by decide +kernel)
theorem cL_199 : Jvm.Cond.constant RL 199 100000 ∈ aw := aw_t 901 (by decide +kernel) (by decide +kernel)
theorem cJ6_265 : Jvm.Cond.constant RJ6 265 1431655765 ∈ aw := aw_t 789 (by decide +kernel) (by decide +kernel)
theorem cJ6_266 : Jvm.Cond.constant RJ6 266 858993459 ∈ aw := aw_t 790 (by decide +kernel) (by decide +kernel)
theorem cJ6_267 : Jvm.Cond.constant RJ6 267 252645135 ∈ aw := aw_t 791 (by decide +kernel) (by decide +kernel)
theorem nX6_7 : Cond.classLink RX6 7 RX5 ∈ aw := aw_t 25 (by decide +kernel) (by decide +kernel)
theorem nX6_16 : Cond.classLink RX6 16 RX0 ∈ aw := aw_t 40 (by decide +kernel) (by decide +kernel)
theorem nX6_29 : Cond.classLink RX6 29 RX1 ∈ aw := aw_t 225 (by decide +kernel) (by decide +kernel)
theorem nX0_9 : Cond.classLink RX0 9 RX2 ∈ aw := aw_t 46 (by decide +kernel) (by decide +kernel)
theorem nX0_17 : Cond.classLink RX0 17 RX3 ∈ aw := aw_t 48 (by decide +kernel) (by decide +kernel)
theorem nX1_9 : Cond.classLink RX1 9 RX0 ∈ aw := aw_t 231 (by decide +kernel) (by decide +kernel)
theorem nX2_9 : Cond.classLink RX2 9 RX4 ∈ aw := aw_t 81 (by decide +kernel) (by decide +kernel)
theorem nL_8 : Cond.classLink RL 8 RX6 ∈ aw := aw_t 17 (by decide +kernel) (by decide +kernel)
theorem nnX6 : Cond.instantiable RX6 7 ∈ aw := aw_t 18 (by decide +kernel) (by decide +kernel)
theorem niX6 : Cond.initialized RX6 ∈ aw := aw_t 1 (by decide +kernel) (by decide +kernel)
theorem nnX0 : Cond.instantiable RX0 9 ∈ aw := aw_t 41 (by decide +kernel) (by decide +kernel)
theorem niX0 : Cond.initialized RX0 ∈ aw := aw_t 3 (by decide +kernel) (by decide +kernel)
theorem nnX1 : Cond.instantiable RX1 3 ∈ aw := aw_t 226 (by decide +kernel) (by decide +kernel)
theorem niX1 : Cond.initialized RX1 ∈ aw := aw_t 7 (by decide +kernel) (by decide +kernel)
theorem nnX2 : Cond.instantiable RX2 16 ∈ aw := aw_t 76 (by decide +kernel) (by decide +kernel)
theorem niX2 : Cond.initialized RX2 ∈ aw := aw_t 5 (by decide +kernel) (by decide +kernel)
theorem nnX3 : Cond.instantiable RX3 5 ∈ aw := aw_t 49 (by decide +kernel) (by decide +kernel)
theorem niX3 : Cond.initialized RX3 ∈ aw := aw_t 4 (by decide +kernel) (by decide +kernel)
theorem nnX4 : Cond.instantiable RX4 4 ∈ aw := aw_t 82 (by decide +kernel) (by decide +kernel)
theorem niX4 : Cond.initialized RX4 ∈ aw := aw_t 6 (by decide +kernel) (by decide +kernel)
theorem nnX5 : Cond.instantiable RX5 2 ∈ aw := aw_t 26 (by decide +kernel) (by decide +kernel)
theorem niX5 : Cond.initialized RX5 ∈ aw := aw_t 2 (by decide +kernel) (by decide +kernel)
theorem wac_n : Cond.native arraycopyName ∈ aw := aw_t 419 (by decide +kernel) (by decide +kernel)
theorem wac_s : Cond.static arraycopyName ∈ aw := aw_t 418 (by decide +kernel) (by decide +kernel)
theorem wac_i : Cond.initialized "java/lang/System" ∈ aw := aw_t 14 (by decide +kernel) (by decide +kernel)
theorem woi_c : Cond.code objectInit ⟨#[0xb1]⟩ 1 none ∈ aw := aw_t 24 (by decide +kernel) (by decide +kernel)
theorem woi_i : Cond.instanceMethod objectInit ∈ aw := aw_t 23 (by decide +kernel) (by decide +kernel)
theorem wa_int : Cond.arrayClass .int ∈ aw := aw_t 39 (by decide +kernel) (by decide +kernel)
theorem wo_X2 : Cond.arrayOver (.object RX2) ∈ tables_1 := List.mem_of_getElem? (i := 47) (by decide +kernel)
theorem wo_X0 : Cond.arrayOver (.object RX0) ∈ tables_1 := List.mem_of_getElem? (i := 232) (by decide +kernel)
theorem wa_boolean : Cond.arrayClass .boolean ∈ aw := aw_t 267 (by decide +kernel) (by decide +kernel)
theorem wa_byte : Cond.arrayClass .byte ∈ aw := aw_t 347 (by decide +kernel) (by decide +kernel)
abbrev M_J6_bitCount_0f7a4 : vR := (RJ6, cJ6_bitCount_0f7a4, 1, some .int, { frames := 0, cells := 0, slots := 0, locals := 0 }, "bitCount")
theorem yk_J6_bitCount_0f7a4 : vY M_J6_bitCount_0f7a4 yJ6_bitCount_0f7a4 1 := ⟨aw_t 788 (by decide +kernel) (by decide +kernel), aw_t 16 (by decide +kernel) (by decide +kernel), by decide +kernel⟩
theorem ys_J6_bitCount_0f7a4 : Cond.static yJ6_bitCount_0f7a4 ∈ aw := aw_t 787 (by decide +kernel) (by decide +kernel)
abbrev M_J9_abs_0f7a4 : vR := (RJ9, cJ9_abs_0f7a4, 1, some .int, { frames := 0, cells := 0, slots := 0, locals := 0 }, "abs")
theorem yk_J9_abs_0f7a4 : vY M_J9_abs_0f7a4 yJ9_abs_0f7a4 1 := ⟨aw_t 509 (by decide +kernel) (by decide +kernel), aw_t 13 (by decide +kernel) (by decide +kernel), by decide +kernel⟩
theorem ys_J9_abs_0f7a4 : Cond.static yJ9_abs_0f7a4 ∈ aw := aw_t 508 (by decide +kernel) (by decide +kernel)
abbrev M_J9_min_7cf53 : vR := (RJ9, cJ9_min_7cf53, 2, some .int, { frames := 0, cells := 0, slots := 0, locals := 0 }, "min")
theorem yk_J9_min_7cf53 : vY M_J9_min_7cf53 yJ9_min_7cf53 2 := ⟨aw_t 416 (by decide +kernel) (by decide +kernel), aw_t 13 (by decide +kernel) (by decide +kernel), by decide +kernel⟩
theorem ys_J9_min_7cf53 : Cond.static yJ9_min_7cf53 ∈ aw := aw_t 415 (by decide +kernel) (by decide +kernel)
abbrev M_X0_init : vR := (RX0, cX0_init, 2, none, { frames := 3, cells := 83, slots := 2192, locals := 62 }, "<init>")
theorem yk_X0_init : vY M_X0_init yX0_init 0 := ⟨aw_t 44 (by decide +kernel) (by decide +kernel), aw_t 3 (by decide +kernel) (by decide +kernel), by decide +kernel⟩
theorem yi_X0_init : Cond.instanceMethod yX0_init ∈ aw := aw_t 43 (by decide +kernel) (by decide +kernel)
abbrev M_X0_copyFrom : vR := (RX0, cX0_copyFrom, 3, none, { frames := 3, cells := 0, slots := 0, locals := 83 }, "copyFrom")
theorem yk_X0_copyFrom : vY M_X0_copyFrom yX0_copyFrom 1 := ⟨aw_t 405 (by decide +kernel) (by decide +kernel), aw_t 3 (by decide +kernel) (by decide +kernel), by decide +kernel⟩
theorem yv_X0_copyFrom : vYV yX0_copyFrom := ⟨aw_t 403 (by decide +kernel) (by decide +kernel), aw_t 404 (by decide +kernel) (by decide +kernel)⟩
abbrev M_X0_hasMember : vR := (RX0, cX0_hasMember, 2, some .boolean, { frames := 0, cells := 0, slots := 0, locals := 0 }, "hasMember")
theorem yk_X0_hasMember : vY M_X0_hasMember yX0_hasMember 1 := ⟨aw_t 470 (by decide +kernel) (by decide +kernel), aw_t 3 (by decide +kernel) (by decide +kernel), by decide +kernel⟩
theorem yv_X0_hasMember : vYV yX0_hasMember := ⟨aw_t 468 (by decide +kernel) (by decide +kernel), aw_t 469 (by decide +kernel) (by decide +kernel)⟩
abbrev M_X0_isGone : vR := (RX0, cX0_isGone, 2, some .boolean, { frames := 0, cells := 0, slots := 0, locals := 0 }, "isGone")
theorem yk_X0_isGone : vY M_X0_isGone yX0_isGone 1 := ⟨aw_t 582 (by decide +kernel) (by decide +kernel), aw_t 3 (by decide +kernel) (by decide +kernel), by decide +kernel⟩
theorem yv_X0_isGone : vYV yX0_isGone := ⟨aw_t 580 (by decide +kernel) (by decide +kernel), aw_t 581 (by decide +kernel) (by decide +kernel)⟩
abbrev M_X0_everybody : vR := (RX0, cX0_everybody, 1, some .int, { frames := 0, cells := 0, slots := 0, locals := 0 }, "everybody")
theorem yk_X0_everybody : vY M_X0_everybody yX0_everybody 0 := ⟨aw_t 578 (by decide +kernel) (by decide +kernel), aw_t 3 (by decide +kernel) (by decide +kernel), by decide +kernel⟩
theorem yv_X0_everybody : vYV yX0_everybody := ⟨aw_t 576 (by decide +kernel) (by decide +kernel), aw_t 577 (by decide +kernel) (by decide +kernel)⟩
abbrev M_X0_isRollWith : vR := (RX0, cX0_isRollWith, 3, some .boolean, { frames := 1, cells := 0, slots := 0, locals := 21 }, "isRollWith")
theorem yk_X0_isRollWith : vY M_X0_isRollWith yX0_isRollWith 2 := ⟨aw_t 574 (by decide +kernel) (by decide +kernel), aw_t 3 (by decide +kernel) (by decide +kernel), by decide +kernel⟩
theorem yv_X0_isRollWith : vYV yX0_isRollWith := ⟨aw_t 572 (by decide +kernel) (by decide +kernel), aw_t 573 (by decide +kernel) (by decide +kernel)⟩
abbrev M_X0_whoAre : vR := (RX0, cX0_whoAre, 4, some .int, { frames := 0, cells := 0, slots := 0, locals := 0 }, "whoAre")
theorem yk_X0_whoAre : vY M_X0_whoAre yX0_whoAre 1 := ⟨aw_t 603 (by decide +kernel) (by decide +kernel), aw_t 3 (by decide +kernel) (by decide +kernel), by decide +kernel⟩
theorem yv_X0_whoAre : vYV yX0_whoAre := ⟨aw_t 601 (by decide +kernel) (by decide +kernel), aw_t 602 (by decide +kernel) (by decide +kernel)⟩
abbrev M_X0_allSitIn : vR := (RX0, cX0_allSitIn, 5, some .boolean, { frames := 1, cells := 0, slots := 0, locals := 22 }, "allSitIn")
theorem yk_X0_allSitIn : vY M_X0_allSitIn yX0_allSitIn 3 := ⟨aw_t 761 (by decide +kernel) (by decide +kernel), aw_t 3 (by decide +kernel) (by decide +kernel), by decide +kernel⟩
theorem yv_X0_allSitIn : vYV yX0_allSitIn := ⟨aw_t 759 (by decide +kernel) (by decide +kernel), aw_t 760 (by decide +kernel) (by decide +kernel)⟩
abbrev M_X0_groupOf : vR := (RX0, cX0_groupOf, 5, some .int, { frames := 1, cells := 0, slots := 0, locals := 22 }, "groupOf")
theorem yk_X0_groupOf : vY M_X0_groupOf yX0_groupOf 1 := ⟨aw_t 870 (by decide +kernel) (by decide +kernel), aw_t 3 (by decide +kernel) (by decide +kernel), by decide +kernel⟩
theorem yv_X0_groupOf : vYV yX0_groupOf := ⟨aw_t 868 (by decide +kernel) (by decide +kernel), aw_t 869 (by decide +kernel) (by decide +kernel)⟩
abbrev M_X0_speechesMissedBy : vR := (RX0, cX0_speechesMissedBy, 5, some .int, { frames := 1, cells := 0, slots := 0, locals := 22 }, "speechesMissedBy")
theorem yk_X0_speechesMissedBy : vY M_X0_speechesMissedBy yX0_speechesMissedBy 1 := ⟨aw_t 785 (by decide +kernel) (by decide +kernel), aw_t 3 (by decide +kernel) (by decide +kernel), by decide +kernel⟩
theorem yv_X0_speechesMissedBy : vYV yX0_speechesMissedBy := ⟨aw_t 783 (by decide +kernel) (by decide +kernel), aw_t 784 (by decide +kernel) (by decide +kernel)⟩
abbrev M_X0_sharedSessions : vR := (RX0, cX0_sharedSessions, 10, some .int, { frames := 0, cells := 0, slots := 0, locals := 0 }, "sharedSessions")
theorem yk_X0_sharedSessions : vY M_X0_sharedSessions yX0_sharedSessions 3 := ⟨aw_t 773 (by decide +kernel) (by decide +kernel), aw_t 3 (by decide +kernel) (by decide +kernel), by decide +kernel⟩
theorem yv_X0_sharedSessions : vYV yX0_sharedSessions := ⟨aw_t 771 (by decide +kernel) (by decide +kernel), aw_t 772 (by decide +kernel) (by decide +kernel)⟩
abbrev M_X0_carryOut : vR := (RX0, cX0_carryOut, 4, some .boolean, { frames := 5, cells := 0, slots := 0, locals := 142 }, "carryOut")
theorem yk_X0_carryOut : vY M_X0_carryOut yX0_carryOut 3 := ⟨aw_t 437 (by decide +kernel) (by decide +kernel), aw_t 3 (by decide +kernel) (by decide +kernel), by decide +kernel⟩
theorem yv_X0_carryOut : vYV yX0_carryOut := ⟨aw_t 435 (by decide +kernel) (by decide +kernel), aw_t 436 (by decide +kernel) (by decide +kernel)⟩
abbrev M_X0_carryOutBy : vR := (RX0, cX0_carryOutBy, 4, some .boolean, { frames := 4, cells := 0, slots := 0, locals := 119 }, "carryOutBy")
theorem yk_X0_carryOutBy : vY M_X0_carryOutBy yX0_carryOutBy 3 := ⟨aw_t 562 (by decide +kernel) (by decide +kernel), aw_t 3 (by decide +kernel) (by decide +kernel), by decide +kernel⟩
theorem yv_X0_carryOutBy : vYV yX0_carryOutBy := ⟨aw_t 561 (by decide +kernel) (by decide +kernel), aw_s (by decide +kernel) (by decide +kernel)⟩
abbrev M_X0_addMember : vR := (RX0, cX0_addMember, 2, some .int, { frames := 0, cells := 0, slots := 0, locals := 0 }, "addMember")
theorem yk_X0_addMember : vY M_X0_addMember yX0_addMember 1 := ⟨aw_t 444 (by decide +kernel) (by decide +kernel), aw_t 3 (by decide +kernel) (by decide +kernel), by decide +kernel⟩
theorem yv_X0_addMember : vYV yX0_addMember := ⟨aw_t 442 (by decide +kernel) (by decide +kernel), aw_t 443 (by decide +kernel) (by decide +kernel)⟩
abbrev M_X0_speak : vR := (RX0, cX0_speak, 5, some .int, { frames := 2, cells := 0, slots := 0, locals := 69 }, "speak")
theorem yk_X0_speak : vY M_X0_speak yX0_speak 1 := ⟨aw_t 570 (by decide +kernel) (by decide +kernel), aw_t 3 (by decide +kernel) (by decide +kernel), by decide +kernel⟩
theorem yv_X0_speak : vYV yX0_speak := ⟨aw_t 568 (by decide +kernel) (by decide +kernel), aw_t 569 (by decide +kernel) (by decide +kernel)⟩
abbrev M_X0_callRoll : vR := (RX0, cX0_callRoll, 6, some .int, { frames := 3, cells := 0, slots := 0, locals := 94 }, "callRoll")
theorem yk_X0_callRoll : vY M_X0_callRoll yX0_callRoll 2 := ⟨aw_t 549 (by decide +kernel) (by decide +kernel), aw_t 3 (by decide +kernel) (by decide +kernel), by decide +kernel⟩
theorem yv_X0_callRoll : vYV yX0_callRoll := ⟨aw_t 547 (by decide +kernel) (by decide +kernel), aw_t 548 (by decide +kernel) (by decide +kernel)⟩
abbrev M_X0_letTicksGo : vR := (RX0, cX0_letTicksGo, 4, none, { frames := 4, cells := 0, slots := 0, locals := 119 }, "letTicksGo")
theorem yk_X0_letTicksGo : vY M_X0_letTicksGo yX0_letTicksGo 1 := ⟨aw_t 454 (by decide +kernel) (by decide +kernel), aw_t 3 (by decide +kernel) (by decide +kernel), by decide +kernel⟩
theorem yv_X0_letTicksGo : vYV yX0_letTicksGo := ⟨aw_t 452 (by decide +kernel) (by decide +kernel), aw_t 453 (by decide +kernel) (by decide +kernel)⟩
abbrev M_X0_noteComes : vR := (RX0, cX0_noteComes, 4, none, { frames := 3, cells := 0, slots := 0, locals := 94 }, "noteComes")
theorem yk_X0_noteComes : vY M_X0_noteComes yX0_noteComes 0 := ⟨aw_t 462 (by decide +kernel) (by decide +kernel), aw_t 3 (by decide +kernel) (by decide +kernel), by decide +kernel⟩
theorem yv_X0_noteComes : vYV yX0_noteComes := ⟨aw_t 461 (by decide +kernel) (by decide +kernel), aw_s (by decide +kernel) (by decide +kernel)⟩
abbrev M_X0_answerCall : vR := (RX0, cX0_answerCall, 4, none, { frames := 2, cells := 0, slots := 0, locals := 69 }, "answerCall")
theorem yk_X0_answerCall : vY M_X0_answerCall yX0_answerCall 3 := ⟨aw_t 490 (by decide +kernel) (by decide +kernel), aw_t 3 (by decide +kernel) (by decide +kernel), by decide +kernel⟩
theorem yv_X0_answerCall : vYV yX0_answerCall := ⟨aw_t 489 (by decide +kernel) (by decide +kernel), aw_s (by decide +kernel) (by decide +kernel)⟩
abbrev M_X0_rollStands : vR := (RX0, cX0_rollStands, 6, none, { frames := 2, cells := 0, slots := 0, locals := 69 }, "rollStands")
theorem yk_X0_rollStands : vY M_X0_rollStands yX0_rollStands 1 := ⟨aw_t 525 (by decide +kernel) (by decide +kernel), aw_t 3 (by decide +kernel) (by decide +kernel), by decide +kernel⟩
theorem yv_X0_rollStands : vYV yX0_rollStands := ⟨aw_t 524 (by decide +kernel) (by decide +kernel), aw_s (by decide +kernel) (by decide +kernel)⟩
abbrev M_X1_init : vR := (RX1, cX1_init, 2, none, { frames := 4, cells := 1177, slots := 30828, locals := 83 }, "<init>")
theorem yk_X1_init : vY M_X1_init yX1_init 0 := ⟨aw_t 229 (by decide +kernel) (by decide +kernel), aw_t 7 (by decide +kernel) (by decide +kernel), by decide +kernel⟩
theorem yi_X1_init : Cond.instanceMethod yX1_init ∈ aw := aw_t 228 (by decide +kernel) (by decide +kernel)
abbrev M_X1_remember : vR := (RX1, cX1_remember, 2, none, { frames := 4, cells := 0, slots := 0, locals := 105 }, "remember")
theorem yk_X1_remember : vY M_X1_remember yX1_remember 1 := ⟨aw_t 675 (by decide +kernel) (by decide +kernel), aw_t 7 (by decide +kernel) (by decide +kernel), by decide +kernel⟩
theorem yv_X1_remember : vYV yX1_remember := ⟨aw_t 673 (by decide +kernel) (by decide +kernel), aw_t 674 (by decide +kernel) (by decide +kernel)⟩
abbrev M_X1_takeLast : vR := (RX1, cX1_takeLast, 1, some (.object "ClubRolls$Club"), { frames := 0, cells := 0, slots := 0, locals := 0 }, "takeLast")
theorem yk_X1_takeLast : vY M_X1_takeLast yX1_takeLast 0 := ⟨aw_t 748 (by decide +kernel) (by decide +kernel), aw_t 7 (by decide +kernel) (by decide +kernel), by decide +kernel⟩
theorem yv_X1_takeLast : vYV yX1_takeLast := ⟨aw_t 746 (by decide +kernel) (by decide +kernel), aw_t 747 (by decide +kernel) (by decide +kernel)⟩
abbrev M_X2_init : vR := (RX2, cX2_init, 2, none, { frames := 2, cells := 12, slots := 120, locals := 41 }, "<init>")
theorem yk_X2_init : vY M_X2_init yX2_init 1 := ⟨aw_t 79 (by decide +kernel) (by decide +kernel), aw_t 5 (by decide +kernel) (by decide +kernel), by decide +kernel⟩
theorem yi_X2_init : Cond.instanceMethod yX2_init ∈ aw := aw_t 78 (by decide +kernel) (by decide +kernel)
abbrev M_X2_copyFrom : vR := (RX2, cX2_copyFrom, 2, none, { frames := 2, cells := 0, slots := 0, locals := 62 }, "copyFrom")
theorem yk_X2_copyFrom : vY M_X2_copyFrom yX2_copyFrom 1 := ⟨aw_t 409 (by decide +kernel) (by decide +kernel), aw_t 5 (by decide +kernel) (by decide +kernel), by decide +kernel⟩
theorem yv_X2_copyFrom : vYV yX2_copyFrom := ⟨aw_t 407 (by decide +kernel) (by decide +kernel), aw_t 408 (by decide +kernel) (by decide +kernel)⟩
abbrev M_X2_isIn : vR := (RX2, cX2_isIn, 3, some .boolean, { frames := 0, cells := 0, slots := 0, locals := 0 }, "isIn")
theorem yk_X2_isIn : vY M_X2_isIn yX2_isIn 2 := ⟨aw_t 478 (by decide +kernel) (by decide +kernel), aw_t 5 (by decide +kernel) (by decide +kernel), by decide +kernel⟩
theorem yv_X2_isIn : vYV yX2_isIn := ⟨aw_t 476 (by decide +kernel) (by decide +kernel), aw_t 477 (by decide +kernel) (by decide +kernel)⟩
abbrev M_X2_maySpeak : vR := (RX2, cX2_maySpeak, 1, some .boolean, { frames := 0, cells := 0, slots := 0, locals := 0 }, "maySpeak")
theorem yk_X2_maySpeak : vY M_X2_maySpeak yX2_maySpeak 0 := ⟨aw_t 566 (by decide +kernel) (by decide +kernel), aw_t 5 (by decide +kernel) (by decide +kernel), by decide +kernel⟩
theorem yv_X2_maySpeak : vYV yX2_maySpeak := ⟨aw_t 564 (by decide +kernel) (by decide +kernel), aw_t 565 (by decide +kernel) (by decide +kernel)⟩
abbrev M_X2_isOutOfPatience : vR := (RX2, cX2_isOutOfPatience, 3, some .boolean, { frames := 0, cells := 0, slots := 0, locals := 0 }, "isOutOfPatience")
theorem yk_X2_isOutOfPatience : vY M_X2_isOutOfPatience yX2_isOutOfPatience 2 := ⟨aw_t 545 (by decide +kernel) (by decide +kernel), aw_t 5 (by decide +kernel) (by decide +kernel), by decide +kernel⟩
theorem yv_X2_isOutOfPatience : vYV yX2_isOutOfPatience := ⟨aw_t 543 (by decide +kernel) (by decide +kernel), aw_t 544 (by decide +kernel) (by decide +kernel)⟩
abbrev M_X2_startCall : vR := (RX2, cX2_startCall, 3, none, { frames := 1, cells := 0, slots := 0, locals := 24 }, "startCall")
theorem yk_X2_startCall : vY M_X2_startCall yX2_startCall 2 := ⟨aw_t 553 (by decide +kernel) (by decide +kernel), aw_t 5 (by decide +kernel) (by decide +kernel), by decide +kernel⟩
theorem yv_X2_startCall : vYV yX2_startCall := ⟨aw_t 551 (by decide +kernel) (by decide +kernel), aw_t 552 (by decide +kernel) (by decide +kernel)⟩
abbrev M_X2_countsAnswer : vR := (RX2, cX2_countsAnswer, 2, some .boolean, { frames := 1, cells := 0, slots := 0, locals := 24 }, "countsAnswer")
theorem yk_X2_countsAnswer : vY M_X2_countsAnswer yX2_countsAnswer 1 := ⟨aw_t 513 (by decide +kernel) (by decide +kernel), aw_t 5 (by decide +kernel) (by decide +kernel), by decide +kernel⟩
theorem yv_X2_countsAnswer : vYV yX2_countsAnswer := ⟨aw_t 511 (by decide +kernel) (by decide +kernel), aw_t 512 (by decide +kernel) (by decide +kernel)⟩
abbrev M_X2_isAnsweredByAll : vR := (RX2, cX2_isAnsweredByAll, 1, some .boolean, { frames := 0, cells := 0, slots := 0, locals := 0 }, "isAnsweredByAll")
theorem yk_X2_isAnsweredByAll : vY M_X2_isAnsweredByAll yX2_isAnsweredByAll 0 := ⟨aw_t 521 (by decide +kernel) (by decide +kernel), aw_t 5 (by decide +kernel) (by decide +kernel), by decide +kernel⟩
theorem yv_X2_isAnsweredByAll : vYV yX2_isAnsweredByAll := ⟨aw_t 519 (by decide +kernel) (by decide +kernel), aw_t 520 (by decide +kernel) (by decide +kernel)⟩
abbrev M_X2_stopCall : vR := (RX2, cX2_stopCall, 1, none, { frames := 0, cells := 0, slots := 0, locals := 0 }, "stopCall")
theorem yk_X2_stopCall : vY M_X2_stopCall yX2_stopCall 0 := ⟨aw_t 498 (by decide +kernel) (by decide +kernel), aw_t 5 (by decide +kernel) (by decide +kernel), by decide +kernel⟩
theorem yv_X2_stopCall : vYV yX2_stopCall := ⟨aw_t 496 (by decide +kernel) (by decide +kernel), aw_t 497 (by decide +kernel) (by decide +kernel)⟩
abbrev M_X2_hushFor : vR := (RX2, cX2_hushFor, 2, none, { frames := 1, cells := 0, slots := 0, locals := 20 }, "hushFor")
theorem yk_X2_hushFor : vY M_X2_hushFor yX2_hushFor 1 := ⟨aw_t 494 (by decide +kernel) (by decide +kernel), aw_t 5 (by decide +kernel) (by decide +kernel), by decide +kernel⟩
theorem yv_X2_hushFor : vYV yX2_hushFor := ⟨aw_t 492 (by decide +kernel) (by decide +kernel), aw_t 493 (by decide +kernel) (by decide +kernel)⟩
abbrev M_X2_takesSpeech : vR := (RX2, cX2_takesSpeech, 4, some .boolean, { frames := 1, cells := 0, slots := 0, locals := 25 }, "takesSpeech")
theorem yk_X2_takesSpeech : vY M_X2_takesSpeech yX2_takesSpeech 3 := ⟨aw_t 474 (by decide +kernel) (by decide +kernel), aw_t 5 (by decide +kernel) (by decide +kernel), by decide +kernel⟩
theorem yv_X2_takesSpeech : vYV yX2_takesSpeech := ⟨aw_t 472 (by decide +kernel) (by decide +kernel), aw_t 473 (by decide +kernel) (by decide +kernel)⟩
abbrev M_X2_enterRoll : vR := (RX2, cX2_enterRoll, 5, none, { frames := 1, cells := 0, slots := 0, locals := 25 }, "enterRoll")
theorem yk_X2_enterRoll : vY M_X2_enterRoll yX2_enterRoll 4 := ⟨aw_t 536 (by decide +kernel) (by decide +kernel), aw_t 5 (by decide +kernel) (by decide +kernel), by decide +kernel⟩
theorem yv_X2_enterRoll : vYV yX2_enterRoll := ⟨aw_t 534 (by decide +kernel) (by decide +kernel), aw_t 535 (by decide +kernel) (by decide +kernel)⟩
abbrev M_X2_goAway : vR := (RX2, cX2_goAway, 1, none, { frames := 1, cells := 0, slots := 0, locals := 20 }, "goAway")
theorem yk_X2_goAway : vY M_X2_goAway yX2_goAway 0 := ⟨aw_t 586 (by decide +kernel) (by decide +kernel), aw_t 5 (by decide +kernel) (by decide +kernel), by decide +kernel⟩
theorem yv_X2_goAway : vYV yX2_goAway := ⟨aw_t 584 (by decide +kernel) (by decide +kernel), aw_t 585 (by decide +kernel) (by decide +kernel)⟩
abbrev M_X2_comeBack : vR := (RX2, cX2_comeBack, 1, none, { frames := 2, cells := 0, slots := 0, locals := 49 }, "comeBack")
theorem yk_X2_comeBack : vY M_X2_comeBack yX2_comeBack 0 := ⟨aw_t 590 (by decide +kernel) (by decide +kernel), aw_t 5 (by decide +kernel) (by decide +kernel), by decide +kernel⟩
theorem yv_X2_comeBack : vYV yX2_comeBack := ⟨aw_t 588 (by decide +kernel) (by decide +kernel), aw_t 589 (by decide +kernel) (by decide +kernel)⟩
abbrev M_X3_init : vR := (RX3, cX3_init, 1, none, { frames := 1, cells := 2, slots := 1356, locals := 20 }, "<init>")
theorem yk_X3_init : vY M_X3_init yX3_init 0 := ⟨aw_t 52 (by decide +kernel) (by decide +kernel), aw_t 4 (by decide +kernel) (by decide +kernel), by decide +kernel⟩
theorem yi_X3_init : Cond.instanceMethod yX3_init ∈ aw := aw_t 51 (by decide +kernel) (by decide +kernel)
abbrev M_X3_copyFrom : vR := (RX3, cX3_copyFrom, 2, none, { frames := 1, cells := 0, slots := 0, locals := 40 }, "copyFrom")
theorem yk_X3_copyFrom : vY M_X3_copyFrom yX3_copyFrom 1 := ⟨aw_t 423 (by decide +kernel) (by decide +kernel), aw_t 4 (by decide +kernel) (by decide +kernel), by decide +kernel⟩
theorem yv_X3_copyFrom : vYV yX3_copyFrom := ⟨aw_t 421 (by decide +kernel) (by decide +kernel), aw_t 422 (by decide +kernel) (by decide +kernel)⟩
abbrev M_X3_isCutBetween : vR := (RX3, cX3_isCutBetween, 3, some .boolean, { frames := 0, cells := 0, slots := 0, locals := 0 }, "isCutBetween")
theorem yk_X3_isCutBetween : vY M_X3_isCutBetween yX3_isCutBetween 2 := ⟨aw_t 506 (by decide +kernel) (by decide +kernel), aw_t 4 (by decide +kernel) (by decide +kernel), by decide +kernel⟩
theorem yv_X3_isCutBetween : vYV yX3_isCutBetween := ⟨aw_t 504 (by decide +kernel) (by decide +kernel), aw_t 505 (by decide +kernel) (by decide +kernel)⟩
abbrev M_X3_changeWay : vR := (RX3, cX3_changeWay, 4, none, { frames := 1, cells := 0, slots := 0, locals := 22 }, "changeWay")
theorem yk_X3_changeWay : vY M_X3_changeWay yX3_changeWay 3 := ⟨aw_t 558 (by decide +kernel) (by decide +kernel), aw_t 4 (by decide +kernel) (by decide +kernel), by decide +kernel⟩
theorem yv_X3_changeWay : vYV yX3_changeWay := ⟨aw_t 556 (by decide +kernel) (by decide +kernel), aw_t 557 (by decide +kernel) (by decide +kernel)⟩
abbrev M_X3_send : vR := (RX3, cX3_send, 10, none, { frames := 1, cells := 0, slots := 0, locals := 40 }, "send")
theorem yk_X3_send : vY M_X3_send yX3_send 6 := ⟨aw_t 502 (by decide +kernel) (by decide +kernel), aw_t 4 (by decide +kernel) (by decide +kernel), by decide +kernel⟩
theorem yv_X3_send : vYV yX3_send := ⟨aw_t 500 (by decide +kernel) (by decide +kernel), aw_t 501 (by decide +kernel) (by decide +kernel)⟩
abbrev M_X3_isDue : vR := (RX3, cX3_isDue, 2, some .boolean, { frames := 0, cells := 0, slots := 0, locals := 0 }, "isDue")
theorem yk_X3_isDue : vY M_X3_isDue yX3_isDue 1 := ⟨aw_t 458 (by decide +kernel) (by decide +kernel), aw_t 4 (by decide +kernel) (by decide +kernel), by decide +kernel⟩
theorem yv_X3_isDue : vYV yX3_isDue := ⟨aw_t 456 (by decide +kernel) (by decide +kernel), aw_t 457 (by decide +kernel) (by decide +kernel)⟩
abbrev M_X3_takeFirst : vR := (RX3, cX3_takeFirst, 2, none, { frames := 1, cells := 0, slots := 0, locals := 40 }, "takeFirst")
theorem yk_X3_takeFirst : vY M_X3_takeFirst yX3_takeFirst 1 := ⟨aw_t 466 (by decide +kernel) (by decide +kernel), aw_t 4 (by decide +kernel) (by decide +kernel), by decide +kernel⟩
theorem yv_X3_takeFirst : vYV yX3_takeFirst := ⟨aw_t 464 (by decide +kernel) (by decide +kernel), aw_t 465 (by decide +kernel) (by decide +kernel)⟩
abbrev M_X4_init : vR := (RX4, cX4_init, 2, none, { frames := 1, cells := 3, slots := 36, locals := 20 }, "<init>")
theorem yk_X4_init : vY M_X4_init yX4_init 1 := ⟨aw_t 85 (by decide +kernel) (by decide +kernel), aw_t 6 (by decide +kernel) (by decide +kernel), by decide +kernel⟩
theorem yi_X4_init : Cond.instanceMethod yX4_init ∈ aw := aw_t 84 (by decide +kernel) (by decide +kernel)
abbrev M_X4_copyFrom : vR := (RX4, cX4_copyFrom, 3, none, { frames := 1, cells := 0, slots := 0, locals := 40 }, "copyFrom")
theorem yk_X4_copyFrom : vY M_X4_copyFrom yX4_copyFrom 1 := ⟨aw_t 413 (by decide +kernel) (by decide +kernel), aw_t 6 (by decide +kernel) (by decide +kernel), by decide +kernel⟩
theorem yv_X4_copyFrom : vYV yX4_copyFrom := ⟨aw_t 411 (by decide +kernel) (by decide +kernel), aw_t 412 (by decide +kernel) (by decide +kernel)⟩
abbrev M_X4_isFull : vR := (RX4, cX4_isFull, 1, some .boolean, { frames := 0, cells := 0, slots := 0, locals := 0 }, "isFull")
theorem yk_X4_isFull : vY M_X4_isFull yX4_isFull 0 := ⟨aw_t 482 (by decide +kernel) (by decide +kernel), aw_t 6 (by decide +kernel) (by decide +kernel), by decide +kernel⟩
theorem yv_X4_isFull : vYV yX4_isFull := ⟨aw_t 480 (by decide +kernel) (by decide +kernel), aw_t 481 (by decide +kernel) (by decide +kernel)⟩
abbrev M_X4_put : vR := (RX4, cX4_put, 5, none, { frames := 0, cells := 0, slots := 0, locals := 0 }, "put")
theorem yk_X4_put : vY M_X4_put yX4_put 4 := ⟨aw_t 517 (by decide +kernel) (by decide +kernel), aw_t 6 (by decide +kernel) (by decide +kernel), by decide +kernel⟩
theorem yv_X4_put : vYV yX4_put := ⟨aw_t 515 (by decide +kernel) (by decide +kernel), aw_t 516 (by decide +kernel) (by decide +kernel)⟩
abbrev M_X4_add : vR := (RX4, cX4_add, 6, none, { frames := 0, cells := 0, slots := 0, locals := 0 }, "add")
theorem yk_X4_add : vY M_X4_add yX4_add 3 := ⟨aw_t 486 (by decide +kernel) (by decide +kernel), aw_t 6 (by decide +kernel) (by decide +kernel), by decide +kernel⟩
theorem yv_X4_add : vYV yX4_add := ⟨aw_t 484 (by decide +kernel) (by decide +kernel), aw_t 485 (by decide +kernel) (by decide +kernel)⟩
abbrev M_X4_takeUpTo : vR := (RX4, cX4_takeUpTo, 6, some .int, { frames := 0, cells := 0, slots := 0, locals := 0 }, "takeUpTo")
theorem yk_X4_takeUpTo : vY M_X4_takeUpTo yX4_takeUpTo 2 := ⟨aw_t 540 (by decide +kernel) (by decide +kernel), aw_t 6 (by decide +kernel) (by decide +kernel), by decide +kernel⟩
theorem yv_X4_takeUpTo : vYV yX4_takeUpTo := ⟨aw_t 538 (by decide +kernel) (by decide +kernel), aw_t 539 (by decide +kernel) (by decide +kernel)⟩
abbrev M_X4_heardLike : vR := (RX4, cX4_heardLike, 5, some .int, { frames := 1, cells := 0, slots := 0, locals := 21 }, "heardLike")
theorem yk_X4_heardLike : vY M_X4_heardLike yX4_heardLike 2 := ⟨aw_t 529 (by decide +kernel) (by decide +kernel), aw_t 6 (by decide +kernel) (by decide +kernel), by decide +kernel⟩
theorem yv_X4_heardLike : vYV yX4_heardLike := ⟨aw_t 527 (by decide +kernel) (by decide +kernel), aw_t 528 (by decide +kernel) (by decide +kernel)⟩
abbrev M_X5_init : vR := (RX5, cX5_init, 1, none, { frames := 1, cells := 1, slots := 120, locals := 20 }, "<init>")
theorem yk_X5_init : vY M_X5_init yX5_init 0 := ⟨aw_t 29 (by decide +kernel) (by decide +kernel), aw_t 2 (by decide +kernel) (by decide +kernel), by decide +kernel⟩
theorem yi_X5_init : Cond.instanceMethod yX5_init ∈ aw := aw_t 28 (by decide +kernel) (by decide +kernel)
abbrev M_X5_addSign : vR := (RX5, cX5_addSign, 2, none, { frames := 0, cells := 0, slots := 0, locals := 0 }, "addSign")
theorem yk_X5_addSign : vY M_X5_addSign yX5_addSign 1 := ⟨aw_t 367 (by decide +kernel) (by decide +kernel), aw_t 2 (by decide +kernel) (by decide +kernel), by decide +kernel⟩
theorem yv_X5_addSign : vYV yX5_addSign := ⟨aw_t 365 (by decide +kernel) (by decide +kernel), aw_t 366 (by decide +kernel) (by decide +kernel)⟩
abbrev M_X5_signAt : vR := (RX5, cX5_signAt, 2, some .int, { frames := 0, cells := 0, slots := 0, locals := 0 }, "signAt")
theorem yk_X5_signAt : vY M_X5_signAt yX5_signAt 1 := ⟨aw_t 384 (by decide +kernel) (by decide +kernel), aw_t 2 (by decide +kernel) (by decide +kernel), by decide +kernel⟩
theorem yv_X5_signAt : vYV yX5_signAt := ⟨aw_t 382 (by decide +kernel) (by decide +kernel), aw_t 383 (by decide +kernel) (by decide +kernel)⟩
abbrev M_X5_firstError : vR := (RX5, cX5_firstError, 4, some .int, { frames := 4, cells := 0, slots := 0, locals := 91 }, "firstError")
theorem yk_X5_firstError : vY M_X5_firstError yX5_firstError 0 := ⟨aw_t 380 (by decide +kernel) (by decide +kernel), aw_t 2 (by decide +kernel) (by decide +kernel), by decide +kernel⟩
theorem yv_X5_firstError : vYV yX5_firstError := ⟨aw_t 378 (by decide +kernel) (by decide +kernel), aw_t 379 (by decide +kernel) (by decide +kernel)⟩
abbrev M_X5_digitsBehind : vR := (RX5, cX5_digitsBehind, 2, some .int, { frames := 1, cells := 0, slots := 0, locals := 21 }, "digitsBehind")
theorem yk_X5_digitsBehind : vY M_X5_digitsBehind yX5_digitsBehind 1 := ⟨aw_t 388 (by decide +kernel) (by decide +kernel), aw_t 2 (by decide +kernel) (by decide +kernel), by decide +kernel⟩
theorem yv_X5_digitsBehind : vYV yX5_digitsBehind := ⟨aw_t 386 (by decide +kernel) (by decide +kernel), aw_t 387 (by decide +kernel) (by decide +kernel)⟩
abbrev M_X5_isAllowed : vR := (RX5, cX5_isAllowed, 4, some .boolean, { frames := 3, cells := 0, slots := 0, locals := 68 }, "isAllowed")
theorem yk_X5_isAllowed : vY M_X5_isAllowed yX5_isAllowed 2 := ⟨aw_t 392 (by decide +kernel) (by decide +kernel), aw_t 2 (by decide +kernel) (by decide +kernel), by decide +kernel⟩
theorem yv_X5_isAllowed : vYV yX5_isAllowed := ⟨aw_t 391 (by decide +kernel) (by decide +kernel), aw_s (by decide +kernel) (by decide +kernel)⟩
abbrev M_X5_beginsNumber : vR := (RX5, cX5_beginsNumber, 7, some .boolean, { frames := 2, cells := 0, slots := 0, locals := 42 }, "beginsNumber")
theorem yk_X5_beginsNumber : vY M_X5_beginsNumber yX5_beginsNumber 4 := ⟨aw_t 396 (by decide +kernel) (by decide +kernel), aw_t 2 (by decide +kernel) (by decide +kernel), by decide +kernel⟩
theorem yv_X5_beginsNumber : vYV yX5_beginsNumber := ⟨aw_t 395 (by decide +kernel) (by decide +kernel), aw_s (by decide +kernel) (by decide +kernel)⟩
abbrev M_X5_twoDigits : vR := (RX5, cX5_twoDigits, 2, some .int, { frames := 1, cells := 0, slots := 0, locals := 21 }, "twoDigits")
theorem yk_X5_twoDigits : vY M_X5_twoDigits yX5_twoDigits 1 := ⟨aw_t 400 (by decide +kernel) (by decide +kernel), aw_t 2 (by decide +kernel) (by decide +kernel), by decide +kernel⟩
theorem yv_X5_twoDigits : vYV yX5_twoDigits := ⟨aw_t 399 (by decide +kernel) (by decide +kernel), aw_s (by decide +kernel) (by decide +kernel)⟩
abbrev M_X5_firstNumber : vR := (RX5, cX5_firstNumber, 3, some .int, { frames := 2, cells := 0, slots := 0, locals := 42 }, "firstNumber")
theorem yk_X5_firstNumber : vY M_X5_firstNumber yX5_firstNumber 1 := ⟨aw_t 429 (by decide +kernel) (by decide +kernel), aw_t 2 (by decide +kernel) (by decide +kernel), by decide +kernel⟩
theorem yv_X5_firstNumber : vYV yX5_firstNumber := ⟨aw_t 427 (by decide +kernel) (by decide +kernel), aw_t 428 (by decide +kernel) (by decide +kernel)⟩
abbrev M_X5_secondNumber : vR := (RX5, cX5_secondNumber, 2, some .int, { frames := 2, cells := 0, slots := 0, locals := 42 }, "secondNumber")
theorem yk_X5_secondNumber : vY M_X5_secondNumber yX5_secondNumber 1 := ⟨aw_t 433 (by decide +kernel) (by decide +kernel), aw_t 2 (by decide +kernel) (by decide +kernel), by decide +kernel⟩
theorem yv_X5_secondNumber : vYV yX5_secondNumber := ⟨aw_t 431 (by decide +kernel) (by decide +kernel), aw_t 432 (by decide +kernel) (by decide +kernel)⟩
abbrev M_X6_init : vR := (RX6, cX6_init, 2, none, { frames := 5, cells := 1602, slots := 41962, locals := 104 }, "<init>")
theorem yk_X6_init : vY M_X6_init yX6_init 0 := ⟨aw_t 21 (by decide +kernel) (by decide +kernel), aw_t 1 (by decide +kernel) (by decide +kernel), by decide +kernel⟩
theorem yi_X6_init : Cond.instanceMethod yX6_init ∈ aw := aw_t 20 (by decide +kernel) (by decide +kernel)
abbrev M_X6_append : vR := (RX6, cX6_append, 2, some .int, { frames := 6, cells := 4, slots := 24, locals := 90 }, "append")
theorem yk_X6_append : vY M_X6_append yX6_append 1 := ⟨aw_t 279 (by decide +kernel) (by decide +kernel), aw_t 1 (by decide +kernel) (by decide +kernel), by decide +kernel⟩
theorem yv_X6_append : vYV yX6_append := ⟨aw_t 277 (by decide +kernel) (by decide +kernel), aw_t 278 (by decide +kernel) (by decide +kernel)⟩
abbrev M_X6_load : vR := (RX6, cX6_load, 3, some .int, { frames := 6, cells := 4, slots := 24, locals := 165 }, "load")
theorem yk_X6_load : vY M_X6_load yX6_load 0 := ⟨aw_t 376 (by decide +kernel) (by decide +kernel), aw_t 1 (by decide +kernel) (by decide +kernel), by decide +kernel⟩
theorem yv_X6_load : vYV yX6_load := ⟨aw_t 374 (by decide +kernel) (by decide +kernel), aw_t 375 (by decide +kernel) (by decide +kernel)⟩
abbrev M_X6_about : vR := (RX6, cX6_about, 2, some .int, { frames := 6, cells := 4, slots := 24, locals := 90 }, "about")
theorem yk_X6_about : vY M_X6_about yX6_about 1 := ⟨aw_t 599 (by decide +kernel) (by decide +kernel), aw_t 1 (by decide +kernel) (by decide +kernel), by decide +kernel⟩
theorem yv_X6_about : vYV yX6_about := ⟨aw_t 597 (by decide +kernel) (by decide +kernel), aw_t 598 (by decide +kernel) (by decide +kernel)⟩
abbrev M_X6_memberOf : vR := (RX6, cX6_memberOf, 4, some .int, { frames := 7, cells := 4, slots := 24, locals := 111 }, "memberOf")
theorem yk_X6_memberOf : vY M_X6_memberOf yX6_memberOf 2 := ⟨aw_t 612 (by decide +kernel) (by decide +kernel), aw_t 1 (by decide +kernel) (by decide +kernel), by decide +kernel⟩
theorem yv_X6_memberOf : vYV yX6_memberOf := ⟨aw_t 610 (by decide +kernel) (by decide +kernel), aw_t 611 (by decide +kernel) (by decide +kernel)⟩
abbrev M_X6_session : vR := (RX6, cX6_session, 5, some .int, { frames := 7, cells := 4, slots := 24, locals := 111 }, "session")
theorem yk_X6_session : vY M_X6_session yX6_session 3 := ⟨aw_t 642 (by decide +kernel) (by decide +kernel), aw_t 1 (by decide +kernel) (by decide +kernel), by decide +kernel⟩
theorem yv_X6_session : vYV yX6_session := ⟨aw_t 640 (by decide +kernel) (by decide +kernel), aw_t 641 (by decide +kernel) (by decide +kernel)⟩
abbrev M_X6_note : vR := (RX6, cX6_note, 3, some .int, { frames := 6, cells := 4, slots := 24, locals := 90 }, "note")
theorem yk_X6_note : vY M_X6_note yX6_note 2 := ⟨aw_t 651 (by decide +kernel) (by decide +kernel), aw_t 1 (by decide +kernel) (by decide +kernel), by decide +kernel⟩
theorem yv_X6_note : vYV yX6_note := ⟨aw_t 649 (by decide +kernel) (by decide +kernel), aw_t 650 (by decide +kernel) (by decide +kernel)⟩
abbrev M_X6_isCut : vR := (RX6, cX6_isCut, 3, some .int, { frames := 7, cells := 4, slots := 24, locals := 111 }, "isCut")
theorem yk_X6_isCut : vY M_X6_isCut yX6_isCut 2 := ⟨aw_t 660 (by decide +kernel) (by decide +kernel), aw_t 1 (by decide +kernel) (by decide +kernel), by decide +kernel⟩
theorem yv_X6_isCut : vYV yX6_isCut := ⟨aw_t 658 (by decide +kernel) (by decide +kernel), aw_t 659 (by decide +kernel) (by decide +kernel)⟩
abbrev M_X6_member : vR := (RX6, cX6_member, 2, some .int, { frames := 6, cells := 4, slots := 24, locals := 126 }, "member")
theorem yk_X6_member : vY M_X6_member yX6_member 1 := ⟨aw_t 668 (by decide +kernel) (by decide +kernel), aw_t 1 (by decide +kernel) (by decide +kernel), by decide +kernel⟩
theorem yv_X6_member : vYV yX6_member := ⟨aw_t 666 (by decide +kernel) (by decide +kernel), aw_t 667 (by decide +kernel) (by decide +kernel)⟩
abbrev M_X6_say : vR := (RX6, cX6_say, 2, some .int, { frames := 7, cells := 4, slots := 24, locals := 126 }, "say")
theorem yk_X6_say : vY M_X6_say yX6_say 1 := ⟨aw_t 685 (by decide +kernel) (by decide +kernel), aw_t 1 (by decide +kernel) (by decide +kernel), by decide +kernel⟩
theorem yv_X6_say : vYV yX6_say := ⟨aw_t 683 (by decide +kernel) (by decide +kernel), aw_t 684 (by decide +kernel) (by decide +kernel)⟩
abbrev M_X6_call : vR := (RX6, cX6_call, 3, some .int, { frames := 7, cells := 4, slots := 24, locals := 126 }, "call")
theorem yk_X6_call : vY M_X6_call yX6_call 2 := ⟨aw_t 695 (by decide +kernel) (by decide +kernel), aw_t 1 (by decide +kernel) (by decide +kernel), by decide +kernel⟩
theorem yv_X6_call : vYV yX6_call := ⟨aw_t 693 (by decide +kernel) (by decide +kernel), aw_t 694 (by decide +kernel) (by decide +kernel)⟩
abbrev M_X6_cut : vR := (RX6, cX6_cut, 4, some .int, { frames := 7, cells := 4, slots := 24, locals := 126 }, "cut")
theorem yk_X6_cut : vY M_X6_cut yX6_cut 3 := ⟨aw_t 825 (by decide +kernel) (by decide +kernel), aw_t 1 (by decide +kernel) (by decide +kernel), by decide +kernel⟩
theorem yv_X6_cut : vYV yX6_cut := ⟨aw_t 823 (by decide +kernel) (by decide +kernel), aw_t 824 (by decide +kernel) (by decide +kernel)⟩
abbrev M_X6_leave : vR := (RX6, cX6_leave, 2, some .int, { frames := 7, cells := 4, slots := 24, locals := 126 }, "leave")
theorem yk_X6_leave : vY M_X6_leave yX6_leave 1 := ⟨aw_t 707 (by decide +kernel) (by decide +kernel), aw_t 1 (by decide +kernel) (by decide +kernel), by decide +kernel⟩
theorem yv_X6_leave : vYV yX6_leave := ⟨aw_t 705 (by decide +kernel) (by decide +kernel), aw_t 706 (by decide +kernel) (by decide +kernel)⟩
abbrev M_X6_back : vR := (RX6, cX6_back, 2, some .int, { frames := 7, cells := 4, slots := 24, locals := 126 }, "back")
theorem yk_X6_back : vY M_X6_back yX6_back 1 := ⟨aw_t 715 (by decide +kernel) (by decide +kernel), aw_t 1 (by decide +kernel) (by decide +kernel), by decide +kernel⟩
theorem yv_X6_back : vYV yX6_back := ⟨aw_t 713 (by decide +kernel) (by decide +kernel), aw_t 714 (by decide +kernel) (by decide +kernel)⟩
abbrev M_X6_set : vR := (RX6, cX6_set, 3, some .int, { frames := 6, cells := 4, slots := 24, locals := 126 }, "set")
theorem yk_X6_set : vY M_X6_set yX6_set 1 := ⟨aw_t 724 (by decide +kernel) (by decide +kernel), aw_t 1 (by decide +kernel) (by decide +kernel), by decide +kernel⟩
theorem yv_X6_set : vYV yX6_set := ⟨aw_t 722 (by decide +kernel) (by decide +kernel), aw_t 723 (by decide +kernel) (by decide +kernel)⟩
abbrev M_X6_ticks : vR := (RX6, cX6_ticks, 3, some .int, { frames := 6, cells := 4, slots := 24, locals := 142 }, "ticks")
theorem yk_X6_ticks : vY M_X6_ticks yX6_ticks 1 := ⟨aw_t 733 (by decide +kernel) (by decide +kernel), aw_t 1 (by decide +kernel) (by decide +kernel), by decide +kernel⟩
theorem yv_X6_ticks : vYV yX6_ticks := ⟨aw_t 731 (by decide +kernel) (by decide +kernel), aw_t 732 (by decide +kernel) (by decide +kernel)⟩
abbrev M_X6_undo : vR := (RX6, cX6_undo, 1, some .int, { frames := 6, cells := 4, slots := 24, locals := 105 }, "undo")
theorem yk_X6_undo : vY M_X6_undo yX6_undo 0 := ⟨aw_t 743 (by decide +kernel) (by decide +kernel), aw_t 1 (by decide +kernel) (by decide +kernel), by decide +kernel⟩
theorem yv_X6_undo : vYV yX6_undo := ⟨aw_t 741 (by decide +kernel) (by decide +kernel), aw_t 742 (by decide +kernel) (by decide +kernel)⟩
abbrev M_X6_standsIn : vR := (RX6, cX6_standsIn, 6, some .int, { frames := 7, cells := 4, slots := 24, locals := 142 }, "standsIn")
theorem yk_X6_standsIn : vY M_X6_standsIn yX6_standsIn 3 := ⟨aw_t 755 (by decide +kernel) (by decide +kernel), aw_t 1 (by decide +kernel) (by decide +kernel), by decide +kernel⟩
theorem yv_X6_standsIn : vYV yX6_standsIn := ⟨aw_t 753 (by decide +kernel) (by decide +kernel), aw_t 754 (by decide +kernel) (by decide +kernel)⟩
abbrev M_X6_compare : vR := (RX6, cX6_compare, 4, some .int, { frames := 7, cells := 4, slots := 24, locals := 111 }, "compare")
theorem yk_X6_compare : vY M_X6_compare yX6_compare 3 := ⟨aw_t 769 (by decide +kernel) (by decide +kernel), aw_t 1 (by decide +kernel) (by decide +kernel), by decide +kernel⟩
theorem yv_X6_compare : vYV yX6_compare := ⟨aw_t 767 (by decide +kernel) (by decide +kernel), aw_t 768 (by decide +kernel) (by decide +kernel)⟩
abbrev M_X6_lacks : vR := (RX6, cX6_lacks, 2, some .int, { frames := 7, cells := 4, slots := 24, locals := 111 }, "lacks")
theorem yk_X6_lacks : vY M_X6_lacks yX6_lacks 1 := ⟨aw_t 781 (by decide +kernel) (by decide +kernel), aw_t 1 (by decide +kernel) (by decide +kernel), by decide +kernel⟩
theorem yv_X6_lacks : vYV yX6_lacks := ⟨aw_t 779 (by decide +kernel) (by decide +kernel), aw_t 780 (by decide +kernel) (by decide +kernel)⟩
abbrev M_X6_together : vR := (RX6, cX6_together, 4, some .int, { frames := 2, cells := 0, slots := 0, locals := 46 }, "together")
theorem yk_X6_together : vY M_X6_together yX6_together 0 := ⟨aw_t 866 (by decide +kernel) (by decide +kernel), aw_t 1 (by decide +kernel) (by decide +kernel), by decide +kernel⟩
theorem yv_X6_together : vYV yX6_together := ⟨aw_t 864 (by decide +kernel) (by decide +kernel), aw_t 865 (by decide +kernel) (by decide +kernel)⟩
abbrev M_X6_runScript : vR := (RX6, cX6_runScript, 9, some .int, { frames := 7, cells := 4, slots := 24, locals := 189 }, "runScript")
theorem yk_X6_runScript : vY M_X6_runScript yX6_runScript 2 := ⟨aw_t 834 (by decide +kernel) (by decide +kernel), aw_t 1 (by decide +kernel) (by decide +kernel), by decide +kernel⟩
theorem yv_X6_runScript : vYV yX6_runScript := ⟨aw_t 832 (by decide +kernel) (by decide +kernel), aw_t 833 (by decide +kernel) (by decide +kernel)⟩
abbrev M_X6_simulate : vR := (RX6, cX6_simulate, 9, some .int, { frames := 7, cells := 4, slots := 24, locals := 188 }, "simulate")
theorem yk_X6_simulate : vY M_X6_simulate yX6_simulate 2 := ⟨aw_t 850 (by decide +kernel) (by decide +kernel), aw_t 1 (by decide +kernel) (by decide +kernel), by decide +kernel⟩
theorem yv_X6_simulate : vYV yX6_simulate := ⟨aw_t 848 (by decide +kernel) (by decide +kernel), aw_t 849 (by decide +kernel) (by decide +kernel)⟩
abbrev M_X6_save : vR := (RX6, cX6_save, 2, some .int, { frames := 7, cells := 4, slots := 24, locals := 110 }, "save")
theorem yk_X6_save : vY M_X6_save yX6_save 1 := ⟨aw_t 798 (by decide +kernel) (by decide +kernel), aw_t 1 (by decide +kernel) (by decide +kernel), by decide +kernel⟩
theorem yv_X6_save : vYV yX6_save := ⟨aw_t 796 (by decide +kernel) (by decide +kernel), aw_t 797 (by decide +kernel) (by decide +kernel)⟩
abbrev M_X6_restore : vR := (RX6, cX6_restore, 2, some .int, { frames := 7, cells := 4, slots := 24, locals := 110 }, "restore")
theorem yk_X6_restore : vY M_X6_restore yX6_restore 1 := ⟨aw_t 809 (by decide +kernel) (by decide +kernel), aw_t 1 (by decide +kernel) (by decide +kernel), by decide +kernel⟩
theorem yv_X6_restore : vYV yX6_restore := ⟨aw_t 807 (by decide +kernel) (by decide +kernel), aw_t 808 (by decide +kernel) (by decide +kernel)⟩
abbrev M_X6_checkMember : vR := (RX6, cX6_checkMember, 2, none, { frames := 6, cells := 1, slots := 6, locals := 90 }, "checkMember")
theorem yk_X6_checkMember : vY M_X6_checkMember yX6_checkMember 1 := ⟨aw_t 616 (by decide +kernel) (by decide +kernel), aw_t 1 (by decide +kernel) (by decide +kernel), by decide +kernel⟩
theorem yv_X6_checkMember : vYV yX6_checkMember := ⟨aw_t 615 (by decide +kernel) (by decide +kernel), aw_s (by decide +kernel) (by decide +kernel)⟩
abbrev M_X6_checkSlot : vR := (RX6, cX6_checkSlot, 1, none, { frames := 6, cells := 1, slots := 6, locals := 90 }, "checkSlot")
theorem yk_X6_checkSlot : vY M_X6_checkSlot yX6_checkSlot 1 := ⟨aw_t 801 (by decide +kernel) (by decide +kernel), aw_t 1 (by decide +kernel) (by decide +kernel), by decide +kernel⟩
theorem ys_X6_checkSlot : Cond.static yX6_checkSlot ∈ aw := aw_t 800 (by decide +kernel) (by decide +kernel)
abbrev M_X6_succeeds : vR := (RX6, cX6_succeeds, 5, some .boolean, { frames := 6, cells := 0, slots := 0, locals := 165 }, "succeeds")
theorem yk_X6_succeeds : vY M_X6_succeeds yX6_succeeds 1 := ⟨aw_t 842 (by decide +kernel) (by decide +kernel), aw_t 1 (by decide +kernel) (by decide +kernel), by decide +kernel⟩
theorem yv_X6_succeeds : vYV yX6_succeeds := ⟨aw_t 841 (by decide +kernel) (by decide +kernel), aw_s (by decide +kernel) (by decide +kernel)⟩
abbrev M_X6_takeTurn : vR := (RX6, cX6_takeTurn, 4, none, { frames := 6, cells := 0, slots := 0, locals := 165 }, "takeTurn")
theorem yk_X6_takeTurn : vY M_X6_takeTurn yX6_takeTurn 1 := ⟨aw_t 857 (by decide +kernel) (by decide +kernel), aw_t 1 (by decide +kernel) (by decide +kernel), by decide +kernel⟩
theorem yv_X6_takeTurn : vYV yX6_takeTurn := ⟨aw_t 856 (by decide +kernel) (by decide +kernel), aw_s (by decide +kernel) (by decide +kernel)⟩
abbrev M_X6_isPlace : vR := (RX6, cX6_isPlace, 1, some .boolean, { frames := 0, cells := 0, slots := 0, locals := 0 }, "isPlace")
theorem yk_X6_isPlace : vY M_X6_isPlace yX6_isPlace 1 := ⟨aw_t 440 (by decide +kernel) (by decide +kernel), aw_t 1 (by decide +kernel) (by decide +kernel), by decide +kernel⟩
theorem ys_X6_isPlace : Cond.static yX6_isPlace ∈ aw := aw_t 439 (by decide +kernel) (by decide +kernel)
abbrev M_X6_isPatience : vR := (RX6, cX6_isPatience, 1, some .boolean, { frames := 0, cells := 0, slots := 0, locals := 0 }, "isPatience")
theorem yk_X6_isPatience : vY M_X6_isPatience yX6_isPatience 1 := ⟨aw_t 447 (by decide +kernel) (by decide +kernel), aw_t 1 (by decide +kernel) (by decide +kernel), by decide +kernel⟩
theorem ys_X6_isPatience : Cond.static yX6_isPatience ∈ aw := aw_t 446 (by decide +kernel) (by decide +kernel)
abbrev M_X6_areTicks : vR := (RX6, cX6_areTicks, 1, some .boolean, { frames := 0, cells := 0, slots := 0, locals := 0 }, "areTicks")
theorem yk_X6_areTicks : vY M_X6_areTicks yX6_areTicks 1 := ⟨aw_t 450 (by decide +kernel) (by decide +kernel), aw_t 1 (by decide +kernel) (by decide +kernel), by decide +kernel⟩
theorem ys_X6_areTicks : Cond.static yX6_areTicks ∈ aw := aw_t 449 (by decide +kernel) (by decide +kernel)
abbrev M_X6_hasBit : vR := (RX6, cX6_hasBit, 2, some .boolean, { frames := 0, cells := 0, slots := 0, locals := 0 }, "hasBit")
theorem yk_X6_hasBit : vY M_X6_hasBit yX6_hasBit 2 := ⟨aw_t 532 (by decide +kernel) (by decide +kernel), aw_t 1 (by decide +kernel) (by decide +kernel), by decide +kernel⟩
theorem ys_X6_hasBit : Cond.static yX6_hasBit ∈ aw := aw_t 531 (by decide +kernel) (by decide +kernel)
abbrev M_L_cuts : vR := (RL, cL_cuts, 5, some .int, { frames := 8, cells := 4, slots := 24, locals := 149 }, "cuts")
theorem ys_L_cuts : Cond.static yL_cuts ∈ aw := aw_t 820 (by decide +kernel) (by decide +kernel)
abbrev M_L_doScript : vR := (RL, cL_doScript, 5, some .int, { frames := 8, cells := 4, slots := 24, locals := 217 }, "doScript")
theorem ys_L_doScript : Cond.static yL_doScript ∈ aw := aw_t 829 (by decide +kernel) (by decide +kernel)
abbrev M_L_doSimulate : vR := (RL, cL_doSimulate, 5, some .int, { frames := 8, cells := 4, slots := 24, locals := 216 }, "doSimulate")
theorem ys_L_doSimulate : Cond.static yL_doSimulate ∈ aw := aw_t 845 (by decide +kernel) (by decide +kernel)
abbrev M_L_tryAppend : vR := (RL, cL_tryAppend, 3, some .int, { frames := 7, cells := 4, slots := 24, locals := 111 }, "tryAppend")
theorem ys_L_tryAppend : Cond.static yL_tryAppend ∈ aw := aw_t 272 (by decide +kernel) (by decide +kernel)
abbrev M_L_tryLoad : vR := (RL, cL_tryLoad, 2, some .int, { frames := 7, cells := 4, slots := 24, locals := 187 }, "tryLoad")
theorem ys_L_tryLoad : Cond.static yL_tryLoad ∈ aw := aw_t 371 (by decide +kernel) (by decide +kernel)
abbrev M_L_tryAbout : vR := (RL, cL_tryAbout, 3, some .int, { frames := 7, cells := 4, slots := 24, locals := 111 }, "tryAbout")
theorem ys_L_tryAbout : Cond.static yL_tryAbout ∈ aw := aw_t 594 (by decide +kernel) (by decide +kernel)
abbrev M_L_tryMember : vR := (RL, cL_tryMember, 4, some .int, { frames := 8, cells := 4, slots := 24, locals := 134 }, "tryMember")
theorem ys_L_tryMember : Cond.static yL_tryMember ∈ aw := aw_t 606 (by decide +kernel) (by decide +kernel)
abbrev M_L_trySession : vR := (RL, cL_trySession, 5, some .int, { frames := 8, cells := 4, slots := 24, locals := 135 }, "trySession")
theorem ys_L_trySession : Cond.static yL_trySession ∈ aw := aw_t 637 (by decide +kernel) (by decide +kernel)
abbrev M_L_tryNote : vR := (RL, cL_tryNote, 4, some .int, { frames := 7, cells := 4, slots := 24, locals := 112 }, "tryNote")
theorem ys_L_tryNote : Cond.static yL_tryNote ∈ aw := aw_t 646 (by decide +kernel) (by decide +kernel)
abbrev M_L_tryCut : vR := (RL, cL_tryCut, 4, some .int, { frames := 8, cells := 4, slots := 24, locals := 133 }, "tryCut")
theorem ys_L_tryCut : Cond.static yL_tryCut ∈ aw := aw_t 655 (by decide +kernel) (by decide +kernel)
abbrev M_L_tryCome : vR := (RL, cL_tryCome, 3, some .int, { frames := 7, cells := 4, slots := 24, locals := 147 }, "tryCome")
theorem ys_L_tryCome : Cond.static yL_tryCome ∈ aw := aw_t 663 (by decide +kernel) (by decide +kernel)
abbrev M_L_trySay : vR := (RL, cL_trySay, 3, some .int, { frames := 8, cells := 4, slots := 24, locals := 147 }, "trySay")
theorem ys_L_trySay : Cond.static yL_trySay ∈ aw := aw_t 680 (by decide +kernel) (by decide +kernel)
abbrev M_L_tryCall : vR := (RL, cL_tryCall, 4, some .int, { frames := 8, cells := 4, slots := 24, locals := 148 }, "tryCall")
theorem ys_L_tryCall : Cond.static yL_tryCall ∈ aw := aw_t 690 (by decide +kernel) (by decide +kernel)
abbrev M_L_tryLeave : vR := (RL, cL_tryLeave, 3, some .int, { frames := 8, cells := 4, slots := 24, locals := 147 }, "tryLeave")
theorem ys_L_tryLeave : Cond.static yL_tryLeave ∈ aw := aw_t 702 (by decide +kernel) (by decide +kernel)
abbrev M_L_tryReturn : vR := (RL, cL_tryReturn, 3, some .int, { frames := 8, cells := 4, slots := 24, locals := 147 }, "tryReturn")
theorem ys_L_tryReturn : Cond.static yL_tryReturn ∈ aw := aw_t 710 (by decide +kernel) (by decide +kernel)
abbrev M_L_tryLay : vR := (RL, cL_tryLay, 3, some .int, { frames := 7, cells := 4, slots := 24, locals := 148 }, "tryLay")
theorem ys_L_tryLay : Cond.static yL_tryLay ∈ aw := aw_t 719 (by decide +kernel) (by decide +kernel)
abbrev M_L_tryTicks : vR := (RL, cL_tryTicks, 3, some .int, { frames := 7, cells := 4, slots := 24, locals := 164 }, "tryTicks")
theorem ys_L_tryTicks : Cond.static yL_tryTicks ∈ aw := aw_t 728 (by decide +kernel) (by decide +kernel)
abbrev M_L_tryUndo : vR := (RL, cL_tryUndo, 2, some .int, { frames := 7, cells := 4, slots := 24, locals := 125 }, "tryUndo")
theorem ys_L_tryUndo : Cond.static yL_tryUndo ∈ aw := aw_t 738 (by decide +kernel) (by decide +kernel)
abbrev M_L_tryStands : vR := (RL, cL_tryStands, 5, some .int, { frames := 8, cells := 4, slots := 24, locals := 167 }, "tryStands")
theorem ys_L_tryStands : Cond.static yL_tryStands ∈ aw := aw_t 750 (by decide +kernel) (by decide +kernel)
abbrev M_L_tryCompare : vR := (RL, cL_tryCompare, 5, some .int, { frames := 8, cells := 4, slots := 24, locals := 134 }, "tryCompare")
theorem ys_L_tryCompare : Cond.static yL_tryCompare ∈ aw := aw_t 764 (by decide +kernel) (by decide +kernel)
abbrev M_L_tryLacks : vR := (RL, cL_tryLacks, 3, some .int, { frames := 8, cells := 4, slots := 24, locals := 132 }, "tryLacks")
theorem ys_L_tryLacks : Cond.static yL_tryLacks ∈ aw := aw_t 776 (by decide +kernel) (by decide +kernel)
abbrev M_L_tryKeep : vR := (RL, cL_tryKeep, 3, some .int, { frames := 8, cells := 4, slots := 24, locals := 131 }, "tryKeep")
theorem ys_L_tryKeep : Cond.static yL_tryKeep ∈ aw := aw_t 793 (by decide +kernel) (by decide +kernel)
abbrev M_L_tryBack : vR := (RL, cL_tryBack, 3, some .int, { frames := 8, cells := 4, slots := 24, locals := 131 }, "tryBack")
theorem ys_L_tryBack : Cond.static yL_tryBack ∈ aw := aw_t 804 (by decide +kernel) (by decide +kernel)
abbrev M_L_call : vR := (RL, cL_call, 5, some .int, { frames := 9, cells := 4, slots := 24, locals := 208 }, "call")
theorem yk_L_call : vY M_L_call yL_call 5 := ⟨aw_t 270 (by decide +kernel) (by decide +kernel), aw_t 0 (by decide +kernel) (by decide +kernel), by decide +kernel⟩
theorem ys_L_call : Cond.static yL_call ∈ aw := aw_t 269 (by decide +kernel) (by decide +kernel)
abbrev M_L_cell : vR := (RL, cL_cell, 2, some .int, { frames := 0, cells := 0, slots := 0, locals := 0 }, "cell")
theorem yk_L_cell : vY M_L_cell yL_cell 2 := ⟨aw_t 813 (by decide +kernel) (by decide +kernel), aw_t 0 (by decide +kernel) (by decide +kernel), by decide +kernel⟩
theorem ys_L_cell : Cond.static yL_cell ∈ aw := aw_t 812 (by decide +kernel) (by decide +kernel)
abbrev M_L_thrown : vR := (RL, cL_thrown, 1, some .boolean, { frames := 0, cells := 0, slots := 0, locals := 0 }, "thrown")
theorem yk_L_thrown : vY M_L_thrown yL_thrown 1 := ⟨aw_t 897 (by decide +kernel) (by decide +kernel), aw_t 0 (by decide +kernel) (by decide +kernel), by decide +kernel⟩
theorem ys_L_thrown : Cond.static yL_thrown ∈ aw := aw_t 896 (by decide +kernel) (by decide +kernel)
abbrev M_L_refuses : vR := (RL, cL_refuses, 8, some .boolean, { frames := 10, cells := 280, slots := 1680, locals := 241 }, "refuses")
set_option maxHeartbeats 4000000 in
set_option maxRecDepth 100000 in
theorem yk_L_refuses : vY M_L_refuses yL_refuses 2 := ⟨aw_t 818 (by exact rfl) (by decide +kernel), aw_t 0 (by decide +kernel) (by decide +kernel), by decide +kernel⟩
theorem ys_L_refuses : Cond.static yL_refuses ∈ aw := aw_t 817 (by decide +kernel) (by decide +kernel)
abbrev M_L_bits : vR := (RL, cL_bits, 3, some .int, { frames := 0, cells := 0, slots := 0, locals := 0 }, "bits")
theorem yk_L_bits : vY M_L_bits yL_bits 1 := ⟨aw_t 873 (by decide +kernel) (by decide +kernel), aw_t 0 (by decide +kernel) (by decide +kernel), by decide +kernel⟩
theorem ys_L_bits : Cond.static yL_bits ∈ aw := aw_t 872 (by decide +kernel) (by decide +kernel)
abbrev M_L_rollBehind : vR := (RL, cL_rollBehind, 5, some .int, { frames := 10, cells := 20, slots := 120, locals := 232 }, "rollBehind")
theorem yk_L_rollBehind : vY M_L_rollBehind yL_rollBehind 3 := ⟨aw_t 879 (by decide +kernel) (by decide +kernel), aw_t 0 (by decide +kernel) (by decide +kernel), by decide +kernel⟩
theorem ys_L_rollBehind : Cond.static yL_rollBehind ∈ aw := aw_t 878 (by decide +kernel) (by decide +kernel)
abbrev M_L_together : vR := (RL, cL_together, 7, some .boolean, { frames := 11, cells := 2800, slots := 16800, locals := 256 }, "together")
theorem yk_L_together : vY M_L_together yL_together 3 := ⟨aw_t 876 (by decide +kernel) (by decide +kernel), aw_t 0 (by decide +kernel) (by decide +kernel), by decide +kernel⟩
theorem ys_L_together : Cond.static yL_together ∈ aw := aw_t 875 (by decide +kernel) (by decide +kernel)
abbrev M_L_holds : vR := (RL, cL_holds, 19, some .boolean, { frames := 12, cells := 10800, slots := 64800, locals := 282 }, "holds")
set_option maxHeartbeats 4000000 in
set_option maxRecDepth 100000 in
theorem yk_L_holds : vY M_L_holds yL_holds 2 := ⟨aw_t 862 (by exact rfl) (by decide +kernel), aw_t 0 (by decide +kernel) (by decide +kernel), by decide +kernel⟩
theorem ys_L_holds : Cond.static yL_holds ∈ aw := aw_t 861 (by decide +kernel) (by decide +kernel)
abbrev M_L_act : vR := (RL, cL_act, 6, some .int, { frames := 10, cells := 24, slots := 144, locals := 232 }, "act")
theorem yk_L_act : vY M_L_act yL_act 2 := ⟨aw_t 882 (by decide +kernel) (by decide +kernel), aw_t 0 (by decide +kernel) (by decide +kernel), by decide +kernel⟩
theorem ys_L_act : Cond.static yL_act ∈ aw := aw_t 881 (by decide +kernel) (by decide +kernel)
abbrev M_L_alike : vR := (RL, cL_alike, 5, some .boolean, { frames := 10, cells := 520, slots := 3120, locals := 240 }, "alike")
theorem yk_L_alike : vY M_L_alike yL_alike 3 := ⟨aw_t 885 (by decide +kernel) (by decide +kernel), aw_t 0 (by decide +kernel) (by decide +kernel), by decide +kernel⟩
theorem ys_L_alike : Cond.static yL_alike ∈ aw := aw_t 884 (by decide +kernel) (by decide +kernel)
abbrev M_L_waits : vR := (RL, cL_waits, 7, some .boolean, { frames := 10, cells := 16, slots := 96, locals := 232 }, "waits")
theorem yk_L_waits : vY M_L_waits yL_waits 3 := ⟨aw_t 891 (by decide +kernel) (by decide +kernel), aw_t 0 (by decide +kernel) (by decide +kernel), by decide +kernel⟩
theorem ys_L_waits : Cond.static yL_waits ∈ aw := aw_t 890 (by decide +kernel) (by decide +kernel)
abbrev M_L_undoes : vR := (RL, cL_undoes, 5, some .boolean, { frames := 10, cells := 16, slots := 96, locals := 232 }, "undoes")
theorem yk_L_undoes : vY M_L_undoes yL_undoes 3 := ⟨aw_t 894 (by decide +kernel) (by decide +kernel), aw_t 0 (by decide +kernel) (by decide +kernel), by decide +kernel⟩
theorem ys_L_undoes : Cond.static yL_undoes ∈ aw := aw_t 893 (by decide +kernel) (by decide +kernel)
abbrev M_L_stands : vR := (RL, cL_stands, 13, some .boolean, { frames := 11, cells := 480, slots := 2880, locals := 258 }, "stands")
theorem yk_L_stands : vY M_L_stands yL_stands 3 := ⟨aw_t 888 (by decide +kernel) (by decide +kernel), aw_t 0 (by decide +kernel) (by decide +kernel), by decide +kernel⟩
theorem ys_L_stands : Cond.static yL_stands ∈ aw := aw_t 887 (by decide +kernel) (by decide +kernel)
abbrev M_L_says : vR := (RL, cL_says, 11, some .boolean, { frames := 10, cells := 80, slots := 480, locals := 232 }, "says")
theorem yk_L_says : vY M_L_says yL_says 3 := ⟨aw_t 900 (by decide +kernel) (by decide +kernel), aw_t 0 (by decide +kernel) (by decide +kernel), by decide +kernel⟩
theorem ys_L_says : Cond.static yL_says ∈ aw := aw_t 899 (by decide +kernel) (by decide +kernel)
