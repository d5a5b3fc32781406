/-! words, methods, rooms: written by program -/
theorem kXn0 : ∀ k, k < 9 → vIs 0 k = false → defaultValue (tyX0 k) = .null ∧ (∀ a, narrow (tyX0 k) (.ref a) = .ref a) ∧ ∀ a, fits (tyX0 k) (.ref a) = true := by
  intro k hk hi
  match k, hk, hi with
  | 0, _, _ => exact ⟨rfl, fun _ => rfl, fun _ => rfl⟩
  | 1, _, _ => exact ⟨rfl, fun _ => rfl, fun _ => rfl⟩
  | 2, _, _ => exact ⟨rfl, fun _ => rfl, fun _ => rfl⟩
  | 3, _, hi => exact absurd hi (by decide)
  | 4, _, hi => exact absurd hi (by decide)
  | 5, _, hi => exact absurd hi (by decide)
  | 6, _, hi => exact absurd hi (by decide)
  | 7, _, hi => exact absurd hi (by decide)
  | 8, _, hi => exact absurd hi (by decide)
  | j + 9, hk, _ => exact absurd hk (by omega)
theorem kXm0 : ∀ w ∈ u_ws RX0 TX0 9, w ∈ tables_1 := by decide +kernel
theorem kXg0 : ∀ w ∈ u_ws RX0 TX0 9, goodWord w = true := by decide +kernel
theorem kX0 : vCk 0 (RX0, TX0, 9) := ⟨rfl, rfl, by decide, fun w h => List.mem_filter.mpr ⟨List.mem_append_right _ (kXm0 w h), kXg0 w h⟩, by decide +kernel, nmX0, tyX0, tyX0_ok, by decide +kernel, kXn0⟩
theorem kXn1 : ∀ k, k < 3 → vIs 1 k = false → defaultValue (tyX1 k) = .null ∧ (∀ a, narrow (tyX1 k) (.ref a) = .ref a) ∧ ∀ a, fits (tyX1 k) (.ref a) = true := by
  intro k hk hi
  match k, hk, hi with
  | 0, _, _ => exact ⟨rfl, fun _ => rfl, fun _ => rfl⟩
  | 1, _, hi => exact absurd hi (by decide)
  | 2, _, hi => exact absurd hi (by decide)
  | j + 3, hk, _ => exact absurd hk (by omega)
theorem kXm1 : ∀ w ∈ u_ws RX1 TX1 3, w ∈ tables_1 := by decide +kernel
theorem kXg1 : ∀ w ∈ u_ws RX1 TX1 3, goodWord w = true := by decide +kernel
theorem kX1 : vCk 1 (RX1, TX1, 3) := ⟨rfl, rfl, by decide, fun w h => List.mem_filter.mpr ⟨List.mem_append_right _ (kXm1 w h), kXg1 w h⟩, by decide +kernel, nmX1, tyX1, tyX1_ok, by decide +kernel, kXn1⟩
theorem kXn2 : ∀ k, k < 16 → vIs 2 k = false → defaultValue (tyX2 k) = .null ∧ (∀ a, narrow (tyX2 k) (.ref a) = .ref a) ∧ ∀ a, fits (tyX2 k) (.ref a) = true := by
  intro k hk hi
  match k, hk, hi with
  | 0, _, hi => exact absurd hi (by decide)
  | 1, _, hi => exact absurd hi (by decide)
  | 2, _, hi => exact absurd hi (by decide)
  | 3, _, hi => exact absurd hi (by decide)
  | 4, _, hi => exact absurd hi (by decide)
  | 5, _, hi => exact absurd hi (by decide)
  | 6, _, hi => exact absurd hi (by decide)
  | 7, _, hi => exact absurd hi (by decide)
  | 8, _, hi => exact absurd hi (by decide)
  | 9, _, hi => exact absurd hi (by decide)
  | 10, _, hi => exact absurd hi (by decide)
  | 11, _, hi => exact absurd hi (by decide)
  | 12, _, hi => exact absurd hi (by decide)
  | 13, _, _ => exact ⟨rfl, fun _ => rfl, fun _ => rfl⟩
  | 14, _, _ => exact ⟨rfl, fun _ => rfl, fun _ => rfl⟩
  | 15, _, _ => exact ⟨rfl, fun _ => rfl, fun _ => rfl⟩
  | j + 16, hk, _ => exact absurd hk (by omega)
theorem kXm2 : ∀ w ∈ u_ws RX2 TX2 16, w ∈ tables_1 := by decide +kernel
theorem kXg2 : ∀ w ∈ u_ws RX2 TX2 16, goodWord w = true := by decide +kernel
theorem kX2 : vCk 2 (RX2, TX2, 16) := ⟨rfl, rfl, by decide, fun w h => List.mem_filter.mpr ⟨List.mem_append_right _ (kXm2 w h), kXg2 w h⟩, by decide +kernel, nmX2, tyX2, tyX2_ok, by decide +kernel, kXn2⟩
theorem kXn3 : ∀ k, k < 5 → vIs 3 k = false → defaultValue (tyX3 k) = .null ∧ (∀ a, narrow (tyX3 k) (.ref a) = .ref a) ∧ ∀ a, fits (tyX3 k) (.ref a) = true := by
  intro k hk hi
  match k, hk, hi with
  | 0, _, _ => exact ⟨rfl, fun _ => rfl, fun _ => rfl⟩
  | 1, _, _ => exact ⟨rfl, fun _ => rfl, fun _ => rfl⟩
  | 2, _, hi => exact absurd hi (by decide)
  | 3, _, hi => exact absurd hi (by decide)
  | 4, _, hi => exact absurd hi (by decide)
  | j + 5, hk, _ => exact absurd hk (by omega)
theorem kXm3 : ∀ w ∈ u_ws RX3 TX3 5, w ∈ tables_1 := by decide +kernel
theorem kXg3 : ∀ w ∈ u_ws RX3 TX3 5, goodWord w = true := by decide +kernel
theorem kX3 : vCk 3 (RX3, TX3, 5) := ⟨rfl, rfl, by decide, fun w h => List.mem_filter.mpr ⟨List.mem_append_right _ (kXm3 w h), kXg3 w h⟩, by decide +kernel, nmX3, tyX3, tyX3_ok, by decide +kernel, kXn3⟩
theorem kXn4 : ∀ k, k < 4 → vIs 4 k = false → defaultValue (tyX4 k) = .null ∧ (∀ a, narrow (tyX4 k) (.ref a) = .ref a) ∧ ∀ a, fits (tyX4 k) (.ref a) = true := by
  intro k hk hi
  match k, hk, hi with
  | 0, _, _ => exact ⟨rfl, fun _ => rfl, fun _ => rfl⟩
  | 1, _, _ => exact ⟨rfl, fun _ => rfl, fun _ => rfl⟩
  | 2, _, _ => exact ⟨rfl, fun _ => rfl, fun _ => rfl⟩
  | 3, _, hi => exact absurd hi (by decide)
  | j + 4, hk, _ => exact absurd hk (by omega)
theorem kXm4 : ∀ w ∈ u_ws RX4 TX4 4, w ∈ tables_1 := by decide +kernel
theorem kXg4 : ∀ w ∈ u_ws RX4 TX4 4, goodWord w = true := by decide +kernel
theorem kX4 : vCk 4 (RX4, TX4, 4) := ⟨rfl, rfl, by decide, fun w h => List.mem_filter.mpr ⟨List.mem_append_right _ (kXm4 w h), kXg4 w h⟩, by decide +kernel, nmX4, tyX4, tyX4_ok, by decide +kernel, kXn4⟩
theorem kXn5 : ∀ k, k < 2 → vIs 5 k = false → defaultValue (tyX5 k) = .null ∧ (∀ a, narrow (tyX5 k) (.ref a) = .ref a) ∧ ∀ a, fits (tyX5 k) (.ref a) = true := by
  intro k hk hi
  match k, hk, hi with
  | 0, _, _ => exact ⟨rfl, fun _ => rfl, fun _ => rfl⟩
  | 1, _, hi => exact absurd hi (by decide)
  | j + 2, hk, _ => exact absurd hk (by omega)
theorem kXm5 : ∀ w ∈ u_ws RX5 TX5 2, w ∈ tables_1 := by decide +kernel
theorem kXg5 : ∀ w ∈ u_ws RX5 TX5 2, goodWord w = true := by decide +kernel
theorem kX5 : vCk 5 (RX5, TX5, 2) := ⟨rfl, rfl, by decide, fun w h => List.mem_filter.mpr ⟨List.mem_append_right _ (kXm5 w h), kXg5 w h⟩, by decide +kernel, nmX5, tyX5, tyX5_ok, by decide +kernel, kXn5⟩
theorem kXn6 : ∀ k, k < 7 → vIs 6 k = false → defaultValue (tyX6 k) = .null ∧ (∀ a, narrow (tyX6 k) (.ref a) = .ref a) ∧ ∀ a, fits (tyX6 k) (.ref a) = true := by
  intro k hk hi
  match k, hk, hi with
  | 0, _, _ => exact ⟨rfl, fun _ => rfl, fun _ => rfl⟩
  | 1, _, _ => exact ⟨rfl, fun _ => rfl, fun _ => rfl⟩
  | 2, _, _ => exact ⟨rfl, fun _ => rfl, fun _ => rfl⟩
  | 3, _, _ => exact ⟨rfl, fun _ => rfl, fun _ => rfl⟩
  | 4, _, _ => exact ⟨rfl, fun _ => rfl, fun _ => rfl⟩
  | 5, _, _ => exact ⟨rfl, fun _ => rfl, fun _ => rfl⟩
  | 6, _, _ => exact ⟨rfl, fun _ => rfl, fun _ => rfl⟩
  | j + 7, hk, _ => exact absurd hk (by omega)
theorem kXm6 : ∀ w ∈ u_ws RX6 TX6 7, w ∈ tables_1 := by decide +kernel
theorem kXg6 : ∀ w ∈ u_ws RX6 TX6 7, goodWord w = true := by decide +kernel
theorem kX6 : vCk 6 (RX6, TX6, 7) := ⟨rfl, rfl, by decide, fun w h => List.mem_filter.mpr ⟨List.mem_append_right _ (kXm6 w h), kXg6 w h⟩, by decide +kernel, nmX6, tyX6, tyX6_ok, by decide +kernel, kXn6⟩
theorem kXn7 : ∀ k, k < 12 → vIs 7 k = false → defaultValue (tyX7 k) = .null ∧ (∀ a, narrow (tyX7 k) (.ref a) = .ref a) ∧ ∀ a, fits (tyX7 k) (.ref a) = true := by
  intro k hk hi
  match k, hk, hi with
  | 0, _, hi => exact absurd hi (by decide)
  | 1, _, _ => exact ⟨rfl, fun _ => rfl, fun _ => rfl⟩
  | 2, _, hi => exact absurd hi (by decide)
  | 3, _, _ => exact ⟨rfl, fun _ => rfl, fun _ => rfl⟩
  | 4, _, _ => exact ⟨rfl, fun _ => rfl, fun _ => rfl⟩
  | 5, _, _ => exact ⟨rfl, fun _ => rfl, fun _ => rfl⟩
  | 6, _, hi => exact absurd hi (by decide)
  | 7, _, _ => exact ⟨rfl, fun _ => rfl, fun _ => rfl⟩
  | 8, _, _ => exact ⟨rfl, fun _ => rfl, fun _ => rfl⟩
  | 9, _, _ => exact ⟨rfl, fun _ => rfl, fun _ => rfl⟩
  | 10, _, hi => exact absurd hi (by decide)
  | 11, _, hi => exact absurd hi (by decide)
  | j + 12, hk, _ => exact absurd hk (by omega)
theorem kXm7 : ∀ w ∈ u_ws RX7 TX7 12, w ∈ tables_1 := by decide +kernel
theorem kXg7 : ∀ w ∈ u_ws RX7 TX7 12, goodWord w = true := by decide +kernel
theorem kX7 : vCk 7 (RX7, TX7, 12) := ⟨rfl, rfl, by decide, fun w h => List.mem_filter.mpr ⟨List.mem_append_right _ (kXm7 w h), kXg7 w h⟩, by decide +kernel, nmX7, tyX7, tyX7_ok, by decide +kernel, kXn7⟩
theorem fX6_10 : Cond.fieldLink RX6 10 RX6 (TX6 0).2.1 (TX6 0).2.2.1 ∈ aw := aw_t 246 (by decide +kernel) (by decide +kernel)
theorem fX6_19 : Cond.fieldLink RX6 19 RX6 (TX6 1).2.1 (TX6 1).2.2.1 ∈ aw := aw_t 247 (by decide +kernel) (by decide +kernel)
theorem fX6_23 : Cond.fieldLink RX6 23 RX6 (TX6 2).2.1 (TX6 2).2.2.1 ∈ aw := aw_t 248 (by decide +kernel) (by decide +kernel)
theorem fX6_26 : Cond.fieldLink RX6 26 RX6 (TX6 3).2.1 (TX6 3).2.2.1 ∈ aw := aw_t 249 (by decide +kernel) (by decide +kernel)
theorem fX6_32 : Cond.fieldLink RX6 32 RX6 (TX6 4).2.1 (TX6 4).2.2.1 ∈ aw := aw_t 250 (by decide +kernel) (by decide +kernel)
theorem fX6_36 : Cond.fieldLink RX6 36 RX6 (TX6 5).2.1 (TX6 5).2.2.1 ∈ aw := aw_t 251 (by decide +kernel) (by decide +kernel)
theorem fX6_40 : Cond.fieldLink RX6 40 RX6 (TX6 6).2.1 (TX6 6).2.2.1 ∈ aw := aw_t 252 (by decide +kernel) (by decide +kernel)
theorem fX6_51 : Cond.fieldLink RX6 51 RX5 (TX5 1).2.1 (TX5 1).2.2.1 ∈ aw := aw_t 34 (by decide +kernel) (by decide +kernel)
theorem fX6_74 : Cond.fieldLink RX6 74 RX1 (TX1 2).2.1 (TX1 2).2.2.1 ∈ aw := aw_t 238 (by decide +kernel) (by decide +kernel)
theorem fX6_94 : Cond.fieldLink RX6 94 RX0 (TX0 3).2.1 (TX0 3).2.2.1 ∈ aw := aw_t 196 (by decide +kernel) (by decide +kernel)
theorem fX6_95 : Cond.fieldLink RX6 95 RX0 (TX0 4).2.1 (TX0 4).2.2.1 ∈ aw := aw_t 198 (by decide +kernel) (by decide +kernel)
theorem fX6_98 : Cond.fieldLink RX6 98 RX0 (TX0 1).2.1 (TX0 1).2.2.1 ∈ aw := aw_t 193 (by decide +kernel) (by decide +kernel)
theorem fX6_102 : Cond.fieldLink RX6 102 RX3 (TX3 3).2.1 (TX3 3).2.2.1 ∈ aw := aw_t 61 (by decide +kernel) (by decide +kernel)
theorem fX6_105 : Cond.fieldLink RX6 105 RX3 (TX3 4).2.1 (TX3 4).2.2.1 ∈ aw := aw_t 64 (by decide +kernel) (by decide +kernel)
theorem fX6_108 : Cond.fieldLink RX6 108 RX0 (TX0 6).2.1 (TX0 6).2.2.1 ∈ aw := aw_t 202 (by decide +kernel) (by decide +kernel)
theorem fX6_111 : Cond.fieldLink RX6 111 RX0 (TX0 7).2.1 (TX0 7).2.2.1 ∈ aw := aw_t 204 (by decide +kernel) (by decide +kernel)
theorem fX6_114 : Cond.fieldLink RX6 114 RX0 (TX0 8).2.1 (TX0 8).2.2.1 ∈ aw := aw_t 206 (by decide +kernel) (by decide +kernel)
theorem fX6_120 : Cond.fieldLink RX6 120 RX0 (TX0 5).2.1 (TX0 5).2.2.1 ∈ aw := aw_t 200 (by decide +kernel) (by decide +kernel)
theorem fX6_128 : Cond.fieldLink RX6 128 RX0 (TX0 0).2.1 (TX0 0).2.2.1 ∈ aw := aw_t 191 (by decide +kernel) (by decide +kernel)
theorem fX6_132 : Cond.fieldLink RX6 132 RX2 (TX2 1).2.1 (TX2 1).2.2.1 ∈ aw := aw_t 115 (by decide +kernel) (by decide +kernel)
theorem fX6_137 : Cond.fieldLink RX6 137 RX2 (TX2 2).2.1 (TX2 2).2.2.1 ∈ aw := aw_t 119 (by decide +kernel) (by decide +kernel)
theorem fX6_140 : Cond.fieldLink RX6 140 RX2 (TX2 3).2.1 (TX2 3).2.2.1 ∈ aw := aw_t 122 (by decide +kernel) (by decide +kernel)
theorem fX6_143 : Cond.fieldLink RX6 143 RX2 (TX2 4).2.1 (TX2 4).2.2.1 ∈ aw := aw_t 126 (by decide +kernel) (by decide +kernel)
theorem fX6_146 : Cond.fieldLink RX6 146 RX2 (TX2 5).2.1 (TX2 5).2.2.1 ∈ aw := aw_t 130 (by decide +kernel) (by decide +kernel)
theorem fX6_149 : Cond.fieldLink RX6 149 RX2 (TX2 6).2.1 (TX2 6).2.2.1 ∈ aw := aw_t 133 (by decide +kernel) (by decide +kernel)
theorem fX6_152 : Cond.fieldLink RX6 152 RX2 (TX2 7).2.1 (TX2 7).2.2.1 ∈ aw := aw_t 136 (by decide +kernel) (by decide +kernel)
theorem fX6_155 : Cond.fieldLink RX6 155 RX2 (TX2 8).2.1 (TX2 8).2.2.1 ∈ aw := aw_t 139 (by decide +kernel) (by decide +kernel)
theorem fX6_156 : Cond.fieldLink RX6 156 RX2 (TX2 10).2.1 (TX2 10).2.2.1 ∈ aw := aw_t 144 (by decide +kernel) (by decide +kernel)
theorem fX6_159 : Cond.fieldLink RX6 159 RX2 (TX2 12).2.1 (TX2 12).2.2.1 ∈ aw := aw_t 148 (by decide +kernel) (by decide +kernel)
theorem fX6_162 : Cond.fieldLink RX6 162 RX2 (TX2 14).2.1 (TX2 14).2.2.1 ∈ aw := aw_t 153 (by decide +kernel) (by decide +kernel)
theorem fX6_166 : Cond.fieldLink RX6 166 RX4 (TX4 3).2.1 (TX4 3).2.2.1 ∈ aw := aw_t 98 (by decide +kernel) (by decide +kernel)
theorem fX6_169 : Cond.fieldLink RX6 169 RX2 (TX2 15).2.1 (TX2 15).2.2.1 ∈ aw := aw_t 155 (by decide +kernel) (by decide +kernel)
theorem fX6_179 : Cond.fieldLink RX6 179 RX4 (TX4 0).2.1 (TX4 0).2.2.1 ∈ aw := aw_t 89 (by decide +kernel) (by decide +kernel)
theorem fX6_183 : Cond.fieldLink RX6 183 RX4 (TX4 1).2.1 (TX4 1).2.2.1 ∈ aw := aw_t 92 (by decide +kernel) (by decide +kernel)
theorem fX6_186 : Cond.fieldLink RX6 186 RX4 (TX4 2).2.1 (TX4 2).2.2.1 ∈ aw := aw_t 95 (by decide +kernel) (by decide +kernel)
theorem fX6_194 : Cond.fieldLink RX6 194 RX3 (TX3 1).2.1 (TX3 1).2.2.1 ∈ aw := aw_t 57 (by decide +kernel) (by decide +kernel)
theorem fX6_244 : Cond.fieldLink RX6 244 RX3 (TX3 2).2.1 (TX3 2).2.2.1 ∈ aw := aw_t 59 (by decide +kernel) (by decide +kernel)
theorem fX0_11 : Cond.fieldLink RX0 11 RX0 (TX0 0).2.1 (TX0 0).2.2.1 ∈ aw := aw_t 190 (by decide +kernel) (by decide +kernel)
theorem fX0_20 : Cond.fieldLink RX0 20 RX0 (TX0 1).2.1 (TX0 1).2.2.1 ∈ aw := aw_t 192 (by decide +kernel) (by decide +kernel)
theorem fX0_24 : Cond.fieldLink RX0 24 RX0 (TX0 2).2.1 (TX0 2).2.2.1 ∈ aw := aw_t 194 (by decide +kernel) (by decide +kernel)
theorem fX0_38 : Cond.fieldLink RX0 38 RX0 (TX0 3).2.1 (TX0 3).2.2.1 ∈ aw := aw_t 195 (by decide +kernel) (by decide +kernel)
theorem fX0_42 : Cond.fieldLink RX0 42 RX0 (TX0 4).2.1 (TX0 4).2.2.1 ∈ aw := aw_t 197 (by decide +kernel) (by decide +kernel)
theorem fX0_45 : Cond.fieldLink RX0 45 RX0 (TX0 5).2.1 (TX0 5).2.2.1 ∈ aw := aw_t 199 (by decide +kernel) (by decide +kernel)
theorem fX0_48 : Cond.fieldLink RX0 48 RX0 (TX0 6).2.1 (TX0 6).2.2.1 ∈ aw := aw_t 201 (by decide +kernel) (by decide +kernel)
theorem fX0_51 : Cond.fieldLink RX0 51 RX0 (TX0 7).2.1 (TX0 7).2.2.1 ∈ aw := aw_t 203 (by decide +kernel) (by decide +kernel)
theorem fX0_54 : Cond.fieldLink RX0 54 RX0 (TX0 8).2.1 (TX0 8).2.2.1 ∈ aw := aw_t 205 (by decide +kernel) (by decide +kernel)
theorem fX0_57 : Cond.fieldLink RX0 57 RX2 (TX2 2).2.1 (TX2 2).2.2.1 ∈ aw := aw_t 118 (by decide +kernel) (by decide +kernel)
theorem fX0_71 : Cond.fieldLink RX0 71 RX2 (TX2 3).2.1 (TX2 3).2.2.1 ∈ aw := aw_t 123 (by decide +kernel) (by decide +kernel)
theorem fX0_74 : Cond.fieldLink RX0 74 RX2 (TX2 4).2.1 (TX2 4).2.2.1 ∈ aw := aw_t 127 (by decide +kernel) (by decide +kernel)
theorem fX0_77 : Cond.fieldLink RX0 77 RX2 (TX2 5).2.1 (TX2 5).2.2.1 ∈ aw := aw_t 131 (by decide +kernel) (by decide +kernel)
theorem fX0_80 : Cond.fieldLink RX0 80 RX2 (TX2 6).2.1 (TX2 6).2.2.1 ∈ aw := aw_t 134 (by decide +kernel) (by decide +kernel)
theorem fX0_83 : Cond.fieldLink RX0 83 RX2 (TX2 15).2.1 (TX2 15).2.2.1 ∈ aw := aw_t 156 (by decide +kernel) (by decide +kernel)
theorem fX0_87 : Cond.fieldLink RX0 87 RX4 (TX4 3).2.1 (TX4 3).2.2.1 ∈ aw := aw_t 99 (by decide +kernel) (by decide +kernel)
theorem fX0_90 : Cond.fieldLink RX0 90 RX4 (TX4 0).2.1 (TX4 0).2.2.1 ∈ aw := aw_t 90 (by decide +kernel) (by decide +kernel)
theorem fX0_93 : Cond.fieldLink RX0 93 RX4 (TX4 1).2.1 (TX4 1).2.2.1 ∈ aw := aw_t 93 (by decide +kernel) (by decide +kernel)
theorem fX0_96 : Cond.fieldLink RX0 96 RX4 (TX4 2).2.1 (TX4 2).2.2.1 ∈ aw := aw_t 96 (by decide +kernel) (by decide +kernel)
theorem fX0_149 : Cond.fieldLink RX0 149 RX2 (TX2 1).2.1 (TX2 1).2.2.1 ∈ aw := aw_t 116 (by decide +kernel) (by decide +kernel)
theorem fX0_152 : Cond.fieldLink RX0 152 RX2 (TX2 8).2.1 (TX2 8).2.2.1 ∈ aw := aw_t 140 (by decide +kernel) (by decide +kernel)
theorem fX0_161 : Cond.fieldLink RX0 161 RX2 (TX2 9).2.1 (TX2 9).2.2.1 ∈ aw := aw_t 142 (by decide +kernel) (by decide +kernel)
theorem fX0_170 : Cond.fieldLink RX0 170 RX3 (TX3 3).2.1 (TX3 3).2.2.1 ∈ aw := aw_t 62 (by decide +kernel) (by decide +kernel)
theorem fX0_180 : Cond.fieldLink RX0 180 RX2 (TX2 12).2.1 (TX2 12).2.2.1 ∈ aw := aw_t 149 (by decide +kernel) (by decide +kernel)
theorem fX0_187 : Cond.fieldLink RX0 187 RX3 (TX3 4).2.1 (TX3 4).2.2.1 ∈ aw := aw_t 65 (by decide +kernel) (by decide +kernel)
theorem fX0_205 : Cond.fieldLink RX0 205 RX2 (TX2 7).2.1 (TX2 7).2.2.1 ∈ aw := aw_t 137 (by decide +kernel) (by decide +kernel)
theorem fX0_211 : Cond.fieldLink RX0 211 RX2 (TX2 10).2.1 (TX2 10).2.2.1 ∈ aw := aw_t 145 (by decide +kernel) (by decide +kernel)
theorem fX0_214 : Cond.fieldLink RX0 214 RX2 (TX2 0).2.1 (TX2 0).2.2.1 ∈ aw := aw_t 112 (by decide +kernel) (by decide +kernel)
theorem fX0_217 : Cond.fieldLink RX0 217 RX2 (TX2 13).2.1 (TX2 13).2.2.1 ∈ aw := aw_t 151 (by decide +kernel) (by decide +kernel)
theorem fX1_11 : Cond.fieldLink RX1 11 RX1 (TX1 0).2.1 (TX1 0).2.2.1 ∈ aw := aw_t 235 (by decide +kernel) (by decide +kernel)
theorem fX1_18 : Cond.fieldLink RX1 18 RX1 (TX1 1).2.1 (TX1 1).2.2.1 ∈ aw := aw_t 236 (by decide +kernel) (by decide +kernel)
theorem fX1_26 : Cond.fieldLink RX1 26 RX1 (TX1 2).2.1 (TX1 2).2.2.1 ∈ aw := aw_t 237 (by decide +kernel) (by decide +kernel)
theorem fX2_14 : Cond.fieldLink RX2 14 RX2 (TX2 13).2.1 (TX2 13).2.2.1 ∈ aw := aw_t 150 (by decide +kernel) (by decide +kernel)
theorem fX2_20 : Cond.fieldLink RX2 20 RX2 (TX2 14).2.1 (TX2 14).2.2.1 ∈ aw := aw_t 152 (by decide +kernel) (by decide +kernel)
theorem fX2_23 : Cond.fieldLink RX2 23 RX2 (TX2 15).2.1 (TX2 15).2.2.1 ∈ aw := aw_t 154 (by decide +kernel) (by decide +kernel)
theorem fX2_26 : Cond.fieldLink RX2 26 RX2 (TX2 0).2.1 (TX2 0).2.2.1 ∈ aw := aw_t 110 (by decide +kernel) (by decide +kernel)
theorem fX2_30 : Cond.fieldLink RX2 30 RX2 (TX2 4).2.1 (TX2 4).2.2.1 ∈ aw := aw_t 124 (by decide +kernel) (by decide +kernel)
theorem fX2_33 : Cond.fieldLink RX2 33 RX2 (TX2 5).2.1 (TX2 5).2.2.1 ∈ aw := aw_t 128 (by decide +kernel) (by decide +kernel)
theorem fX2_36 : Cond.fieldLink RX2 36 RX2 (TX2 1).2.1 (TX2 1).2.2.1 ∈ aw := aw_t 113 (by decide +kernel) (by decide +kernel)
theorem fX2_39 : Cond.fieldLink RX2 39 RX2 (TX2 2).2.1 (TX2 2).2.2.1 ∈ aw := aw_t 117 (by decide +kernel) (by decide +kernel)
theorem fX2_42 : Cond.fieldLink RX2 42 RX2 (TX2 3).2.1 (TX2 3).2.2.1 ∈ aw := aw_t 120 (by decide +kernel) (by decide +kernel)
theorem fX2_45 : Cond.fieldLink RX2 45 RX2 (TX2 6).2.1 (TX2 6).2.2.1 ∈ aw := aw_t 132 (by decide +kernel) (by decide +kernel)
theorem fX2_48 : Cond.fieldLink RX2 48 RX2 (TX2 7).2.1 (TX2 7).2.2.1 ∈ aw := aw_t 135 (by decide +kernel) (by decide +kernel)
theorem fX2_51 : Cond.fieldLink RX2 51 RX2 (TX2 8).2.1 (TX2 8).2.2.1 ∈ aw := aw_t 138 (by decide +kernel) (by decide +kernel)
theorem fX2_54 : Cond.fieldLink RX2 54 RX2 (TX2 9).2.1 (TX2 9).2.2.1 ∈ aw := aw_t 141 (by decide +kernel) (by decide +kernel)
theorem fX2_57 : Cond.fieldLink RX2 57 RX2 (TX2 10).2.1 (TX2 10).2.2.1 ∈ aw := aw_t 143 (by decide +kernel) (by decide +kernel)
theorem fX2_60 : Cond.fieldLink RX2 60 RX2 (TX2 11).2.1 (TX2 11).2.2.1 ∈ aw := aw_t 146 (by decide +kernel) (by decide +kernel)
theorem fX2_63 : Cond.fieldLink RX2 63 RX2 (TX2 12).2.1 (TX2 12).2.2.1 ∈ aw := aw_t 147 (by decide +kernel) (by decide +kernel)
theorem fX2_96 : Cond.fieldLink RX2 96 RX4 (TX4 3).2.1 (TX4 3).2.2.1 ∈ aw := aw_t 100 (by decide +kernel) (by decide +kernel)
theorem fX3_9 : Cond.fieldLink RX3 9 RX3 (TX3 0).2.1 (TX3 0).2.2.1 ∈ aw := aw_t 55 (by decide +kernel) (by decide +kernel)
theorem fX3_15 : Cond.fieldLink RX3 15 RX3 (TX3 1).2.1 (TX3 1).2.2.1 ∈ aw := aw_t 56 (by decide +kernel) (by decide +kernel)
theorem fX3_24 : Cond.fieldLink RX3 24 RX3 (TX3 3).2.1 (TX3 3).2.2.1 ∈ aw := aw_t 60 (by decide +kernel) (by decide +kernel)
theorem fX3_28 : Cond.fieldLink RX3 28 RX3 (TX3 2).2.1 (TX3 2).2.2.1 ∈ aw := aw_t 58 (by decide +kernel) (by decide +kernel)
theorem fX3_31 : Cond.fieldLink RX3 31 RX3 (TX3 4).2.1 (TX3 4).2.2.1 ∈ aw := aw_t 63 (by decide +kernel) (by decide +kernel)
theorem fX3_38 : Cond.fieldLink RX3 38 RX2 (TX2 0).2.1 (TX2 0).2.2.1 ∈ aw := aw_t 111 (by decide +kernel) (by decide +kernel)
theorem fX3_43 : Cond.fieldLink RX3 43 RX2 (TX2 1).2.1 (TX2 1).2.2.1 ∈ aw := aw_t 114 (by decide +kernel) (by decide +kernel)
theorem fX3_52 : Cond.fieldLink RX3 52 RX2 (TX2 3).2.1 (TX2 3).2.2.1 ∈ aw := aw_t 121 (by decide +kernel) (by decide +kernel)
theorem fX3_55 : Cond.fieldLink RX3 55 RX2 (TX2 4).2.1 (TX2 4).2.2.1 ∈ aw := aw_t 125 (by decide +kernel) (by decide +kernel)
theorem fX3_58 : Cond.fieldLink RX3 58 RX2 (TX2 5).2.1 (TX2 5).2.2.1 ∈ aw := aw_t 129 (by decide +kernel) (by decide +kernel)
theorem fX4_7 : Cond.fieldLink RX4 7 RX4 (TX4 0).2.1 (TX4 0).2.2.1 ∈ aw := aw_t 88 (by decide +kernel) (by decide +kernel)
theorem fX4_13 : Cond.fieldLink RX4 13 RX4 (TX4 1).2.1 (TX4 1).2.2.1 ∈ aw := aw_t 91 (by decide +kernel) (by decide +kernel)
theorem fX4_16 : Cond.fieldLink RX4 16 RX4 (TX4 2).2.1 (TX4 2).2.2.1 ∈ aw := aw_t 94 (by decide +kernel) (by decide +kernel)
theorem fX4_31 : Cond.fieldLink RX4 31 RX4 (TX4 3).2.1 (TX4 3).2.2.1 ∈ aw := aw_t 97 (by decide +kernel) (by decide +kernel)
theorem fX5_9 : Cond.fieldLink RX5 9 RX5 (TX5 0).2.1 (TX5 0).2.2.1 ∈ aw := aw_t 32 (by decide +kernel) (by decide +kernel)
theorem fX5_15 : Cond.fieldLink RX5 15 RX5 (TX5 1).2.1 (TX5 1).2.2.1 ∈ aw := aw_t 33 (by decide +kernel) (by decide +kernel)
theorem fX7_7 : Cond.fieldLink RX7 7 RX7 (TX7 1).2.1 (TX7 1).2.2.1 ∈ aw := aw_t 872 (by decide +kernel) (by decide +kernel)
theorem fX7_13 : Cond.fieldLink RX7 13 RX7 (TX7 3).2.1 (TX7 3).2.2.1 ∈ aw := aw_t 874 (by decide +kernel) (by decide +kernel)
theorem fX7_16 : Cond.fieldLink RX7 16 RX7 (TX7 4).2.1 (TX7 4).2.2.1 ∈ aw := aw_t 875 (by decide +kernel) (by decide +kernel)
theorem fX7_19 : Cond.fieldLink RX7 19 RX7 (TX7 5).2.1 (TX7 5).2.2.1 ∈ aw := aw_t 876 (by decide +kernel) (by decide +kernel)
theorem fX7_22 : Cond.fieldLink RX7 22 RX7 (TX7 7).2.1 (TX7 7).2.2.1 ∈ aw := aw_t 878 (by decide +kernel) (by decide +kernel)
theorem fX7_25 : Cond.fieldLink RX7 25 RX7 (TX7 8).2.1 (TX7 8).2.2.1 ∈ aw := aw_t 879 (by decide +kernel) (by decide +kernel)
theorem fX7_29 : Cond.fieldLink RX7 29 RX7 (TX7 9).2.1 (TX7 9).2.2.1 ∈ aw := aw_t 880 (by decide +kernel) (by decide +kernel)
theorem fX7_36 : Cond.fieldLink RX7 36 RX7 (TX7 0).2.1 (TX7 0).2.2.1 ∈ aw := aw_t 871 (by decide +kernel) (by decide +kernel)
theorem fX7_126 : Cond.fieldLink RX7 126 RX7 (TX7 2).2.1 (TX7 2).2.2.1 ∈ aw := aw_t 873 (by decide +kernel) (by decide +kernel)
theorem fX7_133 : Cond.fieldLink RX7 133 RX7 (TX7 10).2.1 (TX7 10).2.2.1 ∈ aw := aw_t 881 (by decide +kernel) (by decide +kernel)
theorem fX7_138 : Cond.fieldLink RX7 138 RX7 (TX7 11).2.1 (TX7 11).2.2.1 ∈ aw := aw_t 882 (by decide +kernel) (by decide +kernel)
theorem fX7_193 : Cond.fieldLink RX7 193 RX7 (TX7 6).2.1 (TX7 6).2.2.1 ∈ aw := aw_t 877 (by decide +kernel) (by decide +kernel)
theorem lX6_1 : Cond.methodLink RX6 1 objectInit ∈ aw := aw_t 23 (by decide +kernel) (by decide +kernel)
theorem lX6_18 : Cond.methodLink RX6 18 yX0_init ∈ aw := aw_t 43 (by decide +kernel) (by decide +kernel)
theorem lX6_31 : Cond.methodLink RX6 31 yX1_init ∈ aw := aw_t 228 (by decide +kernel) (by decide +kernel)
theorem lX6_60 : Cond.methodLink RX6 60 yX5_addSign ∈ aw := aw_t 415 (by decide +kernel) (by decide +kernel)
theorem lX6_64 : Cond.methodLink RX6 64 yX5_firstError ∈ aw := aw_t 277 (by decide +kernel) (by decide +kernel)
theorem lX6_70 : Cond.methodLink RX6 70 yX0_copyFrom ∈ aw := aw_t 427 (by decide +kernel) (by decide +kernel)
theorem lX6_77 : Cond.methodLink RX6 77 yX5_signAt ∈ aw := aw_t 450 (by decide +kernel) (by decide +kernel)
theorem lX6_81 : Cond.methodLink RX6 81 yX5_firstNumber ∈ aw := aw_t 451 (by decide +kernel) (by decide +kernel)
theorem lX6_84 : Cond.methodLink RX6 84 yX5_secondNumber ∈ aw := aw_t 455 (by decide +kernel) (by decide +kernel)
theorem lX6_87 : Cond.methodLink RX6 87 yX0_carryOut ∈ aw := aw_t 459 (by decide +kernel) (by decide +kernel)
theorem lX6_91 : Cond.methodLink RX6 91 yX5_digitsBehind ∈ aw := aw_t 611 (by decide +kernel) (by decide +kernel)
theorem lX6_117 : Cond.methodLink RX6 117 yX0_whoAre ∈ aw := aw_t 619 (by decide +kernel) (by decide +kernel)
theorem lX6_125 : Cond.methodLink RX6 125 yX6_checkMember ∈ aw := aw_t 632 (by decide +kernel) (by decide +kernel)
theorem lX6_197 : Cond.methodLink RX6 197 yX3_isCutBetween ∈ aw := aw_t 679 (by decide +kernel) (by decide +kernel)
theorem lX6_201 : Cond.methodLink RX6 201 yX6_isPlace ∈ aw := aw_t 687 (by decide +kernel) (by decide +kernel)
theorem lX6_209 : Cond.methodLink RX6 209 yX1_remember ∈ aw := aw_t 690 (by decide +kernel) (by decide +kernel)
theorem lX6_212 : Cond.methodLink RX6 212 yX0_addMember ∈ aw := aw_t 696 (by decide +kernel) (by decide +kernel)
theorem lX6_215 : Cond.methodLink RX6 215 yX2_maySpeak ∈ aw := aw_t 704 (by decide +kernel) (by decide +kernel)
theorem lX6_221 : Cond.methodLink RX6 221 yX0_speak ∈ aw := aw_t 706 (by decide +kernel) (by decide +kernel)
theorem lX6_224 : Cond.methodLink RX6 224 yX0_isRollWith ∈ aw := aw_t 714 (by decide +kernel) (by decide +kernel)
theorem lX6_229 : Cond.methodLink RX6 229 yX0_isGone ∈ aw := aw_t 716 (by decide +kernel) (by decide +kernel)
theorem lX6_234 : Cond.methodLink RX6 234 yX0_callRoll ∈ aw := aw_t 718 (by decide +kernel) (by decide +kernel)
theorem lX6_240 : Cond.methodLink RX6 240 yX3_changeWay ∈ aw := aw_t 727 (by decide +kernel) (by decide +kernel)
theorem lX6_247 : Cond.methodLink RX6 247 yX2_goAway ∈ aw := aw_t 735 (by decide +kernel) (by decide +kernel)
theorem lX6_252 : Cond.methodLink RX6 252 yX2_comeBack ∈ aw := aw_t 744 (by decide +kernel) (by decide +kernel)
theorem lX6_255 : Cond.methodLink RX6 255 yX6_isPatience ∈ aw := aw_t 752 (by decide +kernel) (by decide +kernel)
theorem lX6_260 : Cond.methodLink RX6 260 yX6_areTicks ∈ aw := aw_t 761 (by decide +kernel) (by decide +kernel)
theorem lX6_265 : Cond.methodLink RX6 265 yX0_letTicksGo ∈ aw := aw_t 763 (by decide +kernel) (by decide +kernel)
theorem lX6_270 : Cond.methodLink RX6 270 yX1_takeLast ∈ aw := aw_t 772 (by decide +kernel) (by decide +kernel)
theorem lX6_276 : Cond.methodLink RX6 276 yX2_isIn ∈ aw := aw_t 784 (by decide +kernel) (by decide +kernel)
theorem lX6_279 : Cond.methodLink RX6 279 yX0_allSitIn ∈ aw := aw_t 785 (by decide +kernel) (by decide +kernel)
theorem lX6_282 : Cond.methodLink RX6 282 yX0_sharedSessions ∈ aw := aw_t 796 (by decide +kernel) (by decide +kernel)
theorem lX6_288 : Cond.methodLink RX6 288 yX0_speechesMissedBy ∈ aw := aw_t 808 (by decide +kernel) (by decide +kernel)
theorem lX6_291 : Cond.methodLink RX6 291 yJ6_bitCount_0f7a4 ∈ aw := aw_t 316 (by decide +kernel) (by decide +kernel)
theorem lX6_296 : Cond.methodLink RX6 296 yX0_groupOf ∈ aw := aw_t 305 (by decide +kernel) (by decide +kernel)
theorem lX6_307 : Cond.methodLink RX6 307 yX6_succeeds ∈ aw := aw_t 823 (by decide +kernel) (by decide +kernel)
theorem lX6_316 : Cond.methodLink RX6 316 yX6_takeTurn ∈ aw := aw_t 837 (by decide +kernel) (by decide +kernel)
theorem lX6_319 : Cond.methodLink RX6 319 yJ9_min_7cf53 ∈ aw := aw_t 842 (by decide +kernel) (by decide +kernel)
theorem lX6_324 : Cond.methodLink RX6 324 yX6_checkSlot ∈ aw := aw_t 850 (by decide +kernel) (by decide +kernel)
theorem lX6_329 : Cond.methodLink RX6 329 yX0_hasMember ∈ aw := aw_t 636 (by decide +kernel) (by decide +kernel)
theorem lX6_336 : Cond.methodLink RX6 336 yX0_everybody ∈ aw := aw_t 841 (by decide +kernel) (by decide +kernel)
theorem lX0_3 : Cond.methodLink RX0 3 objectInit ∈ aw := aw_t 46 (by decide +kernel) (by decide +kernel)
theorem lX0_28 : Cond.methodLink RX0 28 yX2_init ∈ aw := aw_t 78 (by decide +kernel) (by decide +kernel)
theorem lX0_31 : Cond.methodLink RX0 31 yX2_copyFrom ∈ aw := aw_t 431 (by decide +kernel) (by decide +kernel)
theorem lX0_35 : Cond.methodLink RX0 35 yX3_copyFrom ∈ aw := aw_t 445 (by decide +kernel) (by decide +kernel)
theorem lX0_60 : Cond.methodLink RX0 60 yX0_everybody ∈ aw := aw_t 594 (by decide +kernel) (by decide +kernel)
theorem lX0_68 : Cond.methodLink RX0 68 yX2_isIn ∈ aw := aw_t 309 (by decide +kernel) (by decide +kernel)
theorem lX0_102 : Cond.methodLink RX0 102 yX0_addMember ∈ aw := aw_t 466 (by decide +kernel) (by decide +kernel)
theorem lX0_112 : Cond.methodLink RX0 112 yX0_letTicksGo ∈ aw := aw_t 476 (by decide +kernel) (by decide +kernel)
theorem lX0_115 : Cond.methodLink RX0 115 yX0_hasMember ∈ aw := aw_t 492 (by decide +kernel) (by decide +kernel)
theorem lX0_118 : Cond.methodLink RX0 118 yX3_changeWay ∈ aw := aw_t 574 (by decide +kernel) (by decide +kernel)
theorem lX0_122 : Cond.methodLink RX0 122 yX0_carryOutBy ∈ aw := aw_t 578 (by decide +kernel) (by decide +kernel)
theorem lX0_126 : Cond.methodLink RX0 126 yX2_maySpeak ∈ aw := aw_t 582 (by decide +kernel) (by decide +kernel)
theorem lX0_130 : Cond.methodLink RX0 130 yX0_speak ∈ aw := aw_t 586 (by decide +kernel) (by decide +kernel)
theorem lX0_133 : Cond.methodLink RX0 133 yX0_isRollWith ∈ aw := aw_t 590 (by decide +kernel) (by decide +kernel)
theorem lX0_136 : Cond.methodLink RX0 136 yX0_isGone ∈ aw := aw_t 598 (by decide +kernel) (by decide +kernel)
theorem lX0_139 : Cond.methodLink RX0 139 yX0_callRoll ∈ aw := aw_t 565 (by decide +kernel) (by decide +kernel)
theorem lX0_143 : Cond.methodLink RX0 143 yX2_goAway ∈ aw := aw_t 602 (by decide +kernel) (by decide +kernel)
theorem lX0_146 : Cond.methodLink RX0 146 yX2_comeBack ∈ aw := aw_t 606 (by decide +kernel) (by decide +kernel)
theorem lX0_153 : Cond.methodLink RX0 153 yX3_send ∈ aw := aw_t 521 (by decide +kernel) (by decide +kernel)
theorem lX0_157 : Cond.methodLink RX0 157 yX2_startCall ∈ aw := aw_t 569 (by decide +kernel) (by decide +kernel)
theorem lX0_164 : Cond.methodLink RX0 164 yX2_isAnsweredByAll ∈ aw := aw_t 573 (by decide +kernel) (by decide +kernel)
theorem lX0_167 : Cond.methodLink RX0 167 yX0_rollStands ∈ aw := aw_t 544 (by decide +kernel) (by decide +kernel)
theorem lX0_171 : Cond.methodLink RX0 171 yX3_isDue ∈ aw := aw_t 480 (by decide +kernel) (by decide +kernel)
theorem lX0_174 : Cond.methodLink RX0 174 yX0_noteComes ∈ aw := aw_t 484 (by decide +kernel) (by decide +kernel)
theorem lX0_177 : Cond.methodLink RX0 177 yX2_isOutOfPatience ∈ aw := aw_t 561 (by decide +kernel) (by decide +kernel)
theorem lX0_183 : Cond.methodLink RX0 183 yX3_takeFirst ∈ aw := aw_t 488 (by decide +kernel) (by decide +kernel)
theorem lX0_190 : Cond.methodLink RX0 190 yX2_takesSpeech ∈ aw := aw_t 496 (by decide +kernel) (by decide +kernel)
theorem lX0_193 : Cond.methodLink RX0 193 yX0_answerCall ∈ aw := aw_t 509 (by decide +kernel) (by decide +kernel)
theorem lX0_197 : Cond.methodLink RX0 197 yX2_countsAnswer ∈ aw := aw_t 532 (by decide +kernel) (by decide +kernel)
theorem lX0_201 : Cond.methodLink RX0 201 yX2_enterRoll ∈ aw := aw_t 553 (by decide +kernel) (by decide +kernel)
theorem lX0_208 : Cond.methodLink RX0 208 yX2_hushFor ∈ aw := aw_t 513 (by decide +kernel) (by decide +kernel)
theorem lX0_220 : Cond.methodLink RX0 220 yX4_heardLike ∈ aw := aw_t 548 (by decide +kernel) (by decide +kernel)
theorem lX1_3 : Cond.methodLink RX1 3 objectInit ∈ aw := aw_t 231 (by decide +kernel) (by decide +kernel)
theorem lX1_17 : Cond.methodLink RX1 17 yX0_init ∈ aw := aw_t 234 (by decide +kernel) (by decide +kernel)
theorem lX1_22 : Cond.methodLink RX1 22 yX0_copyFrom ∈ aw := aw_t 694 (by decide +kernel) (by decide +kernel)
theorem lX1_29 : Cond.methodLink RX1 29 yJ9_min_7cf53 ∈ aw := aw_t 695 (by decide +kernel) (by decide +kernel)
theorem lX2_3 : Cond.methodLink RX2 3 objectInit ∈ aw := aw_t 81 (by decide +kernel) (by decide +kernel)
theorem lX2_11 : Cond.methodLink RX2 11 yX4_init ∈ aw := aw_t 84 (by decide +kernel) (by decide +kernel)
theorem lX2_66 : Cond.methodLink RX2 66 yX4_copyFrom ∈ aw := aw_t 435 (by decide +kernel) (by decide +kernel)
theorem lX2_70 : Cond.methodLink RX2 70 yX4_put ∈ aw := aw_t 536 (by decide +kernel) (by decide +kernel)
theorem lX2_74 : Cond.methodLink RX2 74 yX2_isAnsweredByAll ∈ aw := aw_t 540 (by decide +kernel) (by decide +kernel)
theorem lX2_78 : Cond.methodLink RX2 78 yX2_stopCall ∈ aw := aw_t 517 (by decide +kernel) (by decide +kernel)
theorem lX2_81 : Cond.methodLink RX2 81 yX2_isIn ∈ aw := aw_t 500 (by decide +kernel) (by decide +kernel)
theorem lX2_85 : Cond.methodLink RX2 85 yX4_isFull ∈ aw := aw_t 501 (by decide +kernel) (by decide +kernel)
theorem lX2_88 : Cond.methodLink RX2 88 yX4_add ∈ aw := aw_t 505 (by decide +kernel) (by decide +kernel)
theorem lX2_92 : Cond.methodLink RX2 92 yX4_takeUpTo ∈ aw := aw_t 557 (by decide +kernel) (by decide +kernel)
theorem lX2_99 : Cond.methodLink RX2 99 yX2_enterRoll ∈ aw := aw_t 610 (by decide +kernel) (by decide +kernel)
theorem lX3_3 : Cond.methodLink RX3 3 objectInit ∈ aw := aw_t 54 (by decide +kernel) (by decide +kernel)
theorem lX3_18 : Cond.methodLink RX3 18 arraycopyName ∈ aw := aw_t 449 (by decide +kernel) (by decide +kernel)
theorem lX3_34 : Cond.methodLink RX3 34 yX3_isCutBetween ∈ aw := aw_t 525 (by decide +kernel) (by decide +kernel)
theorem lX3_46 : Cond.methodLink RX3 46 yJ9_abs_0f7a4 ∈ aw := aw_t 529 (by decide +kernel) (by decide +kernel)
theorem lX4_1 : Cond.methodLink RX4 1 objectInit ∈ aw := aw_t 87 (by decide +kernel) (by decide +kernel)
theorem lX4_19 : Cond.methodLink RX4 19 yJ9_min_7cf53 ∈ aw := aw_t 439 (by decide +kernel) (by decide +kernel)
theorem lX4_25 : Cond.methodLink RX4 25 arraycopyName ∈ aw := aw_t 442 (by decide +kernel) (by decide +kernel)
theorem lX5_3 : Cond.methodLink RX5 3 objectInit ∈ aw := aw_t 31 (by decide +kernel) (by decide +kernel)
theorem lX5_19 : Cond.methodLink RX5 19 yX5_signAt ∈ aw := aw_t 281 (by decide +kernel) (by decide +kernel)
theorem lX5_23 : Cond.methodLink RX5 23 yX5_digitsBehind ∈ aw := aw_t 285 (by decide +kernel) (by decide +kernel)
theorem lX5_26 : Cond.methodLink RX5 26 yX5_isAllowed ∈ aw := aw_t 289 (by decide +kernel) (by decide +kernel)
theorem lX5_30 : Cond.methodLink RX5 30 yX5_beginsNumber ∈ aw := aw_t 293 (by decide +kernel) (by decide +kernel)
theorem lX5_34 : Cond.methodLink RX5 34 yX5_twoDigits ∈ aw := aw_t 297 (by decide +kernel) (by decide +kernel)
theorem lL_7 : Cond.methodLink RL 7 yX6_append ∈ aw := aw_t 327 (by decide +kernel) (by decide +kernel)
theorem lL_17 : Cond.methodLink RL 17 yX6_load ∈ aw := aw_t 422 (by decide +kernel) (by decide +kernel)
theorem lL_21 : Cond.methodLink RL 21 yX6_about ∈ aw := aw_t 615 (by decide +kernel) (by decide +kernel)
theorem lL_24 : Cond.methodLink RL 24 yX6_memberOf ∈ aw := aw_t 628 (by decide +kernel) (by decide +kernel)
theorem lL_30 : Cond.methodLink RL 30 yX6_session ∈ aw := aw_t 657 (by decide +kernel) (by decide +kernel)
theorem lL_34 : Cond.methodLink RL 34 yX6_note ∈ aw := aw_t 666 (by decide +kernel) (by decide +kernel)
theorem lL_37 : Cond.methodLink RL 37 yX6_isCut ∈ aw := aw_t 675 (by decide +kernel) (by decide +kernel)
theorem lL_40 : Cond.methodLink RL 40 yX6_member ∈ aw := aw_t 683 (by decide +kernel) (by decide +kernel)
theorem lL_43 : Cond.methodLink RL 43 yX6_say ∈ aw := aw_t 700 (by decide +kernel) (by decide +kernel)
theorem lL_46 : Cond.methodLink RL 46 yX6_call ∈ aw := aw_t 710 (by decide +kernel) (by decide +kernel)
theorem lL_49 : Cond.methodLink RL 49 yX6_cut ∈ aw := aw_t 722 (by decide +kernel) (by decide +kernel)
theorem lL_53 : Cond.methodLink RL 53 yX6_leave ∈ aw := aw_t 731 (by decide +kernel) (by decide +kernel)
theorem lL_56 : Cond.methodLink RL 56 yX6_back ∈ aw := aw_t 739 (by decide +kernel) (by decide +kernel)
theorem lL_59 : Cond.methodLink RL 59 yX6_set ∈ aw := aw_t 748 (by decide +kernel) (by decide +kernel)
theorem lL_62 : Cond.methodLink RL 62 yX6_ticks ∈ aw := aw_t 757 (by decide +kernel) (by decide +kernel)
theorem lL_65 : Cond.methodLink RL 65 yX6_undo ∈ aw := aw_t 767 (by decide +kernel) (by decide +kernel)
theorem lL_68 : Cond.methodLink RL 68 yX6_standsIn ∈ aw := aw_t 779 (by decide +kernel) (by decide +kernel)
theorem lL_71 : Cond.methodLink RL 71 yX6_compare ∈ aw := aw_t 792 (by decide +kernel) (by decide +kernel)
theorem lL_74 : Cond.methodLink RL 74 yX6_lacks ∈ aw := aw_t 804 (by decide +kernel) (by decide +kernel)
theorem lL_77 : Cond.methodLink RL 77 yX6_runScript ∈ aw := aw_t 815 (by decide +kernel) (by decide +kernel)
theorem lL_81 : Cond.methodLink RL 81 yX6_simulate ∈ aw := aw_t 830 (by decide +kernel) (by decide +kernel)
theorem lL_85 : Cond.methodLink RL 85 yX6_save ∈ aw := aw_t 846 (by decide +kernel) (by decide +kernel)
theorem lL_88 : Cond.methodLink RL 88 yX6_restore ∈ aw := aw_t 857 (by decide +kernel) (by decide +kernel)
theorem lL_91 : Cond.methodLink RL 91 yX6_init ∈ aw := aw_t 20 (by decide +kernel) (by decide +kernel)
theorem lL_94 : Cond.methodLink RL 94 yX7_init ∈ aw := aw_t 864 (by decide +kernel) (by decide +kernel)
theorem lL_95 : Cond.methodLink RL 95 yL_append ∈ aw := aw_t 322 (by decide +kernel) (by decide +kernel)
theorem lL_100 : Cond.methodLink RL 100 yX7_append ∈ aw := aw_t 912 (by decide +kernel) (by decide +kernel)
theorem lL_101 : Cond.methodLink RL 101 yX7_thrown ∈ aw := aw_t 908 (by decide +kernel) (by decide +kernel)
theorem lL_104 : Cond.methodLink RL 104 yX6_clearText ∈ aw := aw_t 269 (by decide +kernel) (by decide +kernel)
theorem lL_107 : Cond.methodLink RL 107 yX7_clearText ∈ aw := aw_t 924 (by decide +kernel) (by decide +kernel)
theorem lL_108 : Cond.methodLink RL 108 yX6_errorPosition ∈ aw := aw_t 273 (by decide +kernel) (by decide +kernel)
theorem lL_111 : Cond.methodLink RL 111 yX7_errorPosition ∈ aw := aw_t 928 (by decide +kernel) (by decide +kernel)
theorem lL_112 : Cond.methodLink RL 112 yL_load ∈ aw := aw_t 419 (by decide +kernel) (by decide +kernel)
theorem lL_115 : Cond.methodLink RL 115 yX7_load ∈ aw := aw_t 1056 (by decide +kernel) (by decide +kernel)
theorem lL_116 : Cond.methodLink RL 116 yL_about ∈ aw := aw_t 612 (by decide +kernel) (by decide +kernel)
theorem lL_118 : Cond.methodLink RL 118 yX7_about ∈ aw := aw_t 1063 (by decide +kernel) (by decide +kernel)
theorem lL_119 : Cond.methodLink RL 119 yL_memberOf ∈ aw := aw_t 624 (by decide +kernel) (by decide +kernel)
theorem lL_122 : Cond.methodLink RL 122 yX7_memberOf ∈ aw := aw_t 1070 (by decide +kernel) (by decide +kernel)
theorem lL_123 : Cond.methodLink RL 123 yL_session ∈ aw := aw_t 654 (by decide +kernel) (by decide +kernel)
theorem lL_126 : Cond.methodLink RL 126 yX7_session ∈ aw := aw_t 1075 (by decide +kernel) (by decide +kernel)
theorem lL_127 : Cond.methodLink RL 127 yL_note ∈ aw := aw_t 663 (by decide +kernel) (by decide +kernel)
theorem lL_129 : Cond.methodLink RL 129 yX7_note ∈ aw := aw_t 1080 (by decide +kernel) (by decide +kernel)
theorem lL_130 : Cond.methodLink RL 130 yL_isCut ∈ aw := aw_t 672 (by decide +kernel) (by decide +kernel)
theorem lL_132 : Cond.methodLink RL 132 yX7_isCut ∈ aw := aw_t 1085 (by decide +kernel) (by decide +kernel)
theorem lL_133 : Cond.methodLink RL 133 yL_member ∈ aw := aw_t 680 (by decide +kernel) (by decide +kernel)
theorem lL_135 : Cond.methodLink RL 135 yX7_member ∈ aw := aw_t 1089 (by decide +kernel) (by decide +kernel)
theorem lL_136 : Cond.methodLink RL 136 yL_say ∈ aw := aw_t 697 (by decide +kernel) (by decide +kernel)
theorem lL_138 : Cond.methodLink RL 138 yX7_say ∈ aw := aw_t 1097 (by decide +kernel) (by decide +kernel)
theorem lL_139 : Cond.methodLink RL 139 yL_call ∈ aw := aw_t 707 (by decide +kernel) (by decide +kernel)
theorem lL_141 : Cond.methodLink RL 141 yX7_call ∈ aw := aw_t 1101 (by decide +kernel) (by decide +kernel)
theorem lL_142 : Cond.methodLink RL 142 yL_cut ∈ aw := aw_t 719 (by decide +kernel) (by decide +kernel)
theorem lL_145 : Cond.methodLink RL 145 yX7_cut ∈ aw := aw_t 1105 (by decide +kernel) (by decide +kernel)
theorem lL_146 : Cond.methodLink RL 146 yL_leave ∈ aw := aw_t 728 (by decide +kernel) (by decide +kernel)
theorem lL_148 : Cond.methodLink RL 148 yX7_leave ∈ aw := aw_t 1109 (by decide +kernel) (by decide +kernel)
theorem lL_149 : Cond.methodLink RL 149 yL_back ∈ aw := aw_t 736 (by decide +kernel) (by decide +kernel)
theorem lL_151 : Cond.methodLink RL 151 yX7_back ∈ aw := aw_t 1113 (by decide +kernel) (by decide +kernel)
theorem lL_152 : Cond.methodLink RL 152 yL_set ∈ aw := aw_t 745 (by decide +kernel) (by decide +kernel)
theorem lL_154 : Cond.methodLink RL 154 yX7_set ∈ aw := aw_t 1117 (by decide +kernel) (by decide +kernel)
theorem lL_155 : Cond.methodLink RL 155 yL_ticks ∈ aw := aw_t 754 (by decide +kernel) (by decide +kernel)
theorem lL_157 : Cond.methodLink RL 157 yX7_ticks ∈ aw := aw_t 1122 (by decide +kernel) (by decide +kernel)
theorem lL_158 : Cond.methodLink RL 158 yL_undo ∈ aw := aw_t 764 (by decide +kernel) (by decide +kernel)
theorem lL_160 : Cond.methodLink RL 160 yX7_undo ∈ aw := aw_t 1127 (by decide +kernel) (by decide +kernel)
theorem lL_161 : Cond.methodLink RL 161 yL_standsIn ∈ aw := aw_t 776 (by decide +kernel) (by decide +kernel)
theorem lL_163 : Cond.methodLink RL 163 yX7_standsIn ∈ aw := aw_t 1131 (by decide +kernel) (by decide +kernel)
theorem lL_164 : Cond.methodLink RL 164 yL_compare ∈ aw := aw_t 789 (by decide +kernel) (by decide +kernel)
theorem lL_166 : Cond.methodLink RL 166 yX7_compare ∈ aw := aw_t 1143 (by decide +kernel) (by decide +kernel)
theorem lL_167 : Cond.methodLink RL 167 yL_lacks ∈ aw := aw_t 801 (by decide +kernel) (by decide +kernel)
theorem lL_169 : Cond.methodLink RL 169 yX7_lacks ∈ aw := aw_t 1150 (by decide +kernel) (by decide +kernel)
theorem lL_170 : Cond.methodLink RL 170 yX6_together ∈ aw := aw_t 301 (by decide +kernel) (by decide +kernel)
theorem lL_173 : Cond.methodLink RL 173 yX7_together ∈ aw := aw_t 1157 (by decide +kernel) (by decide +kernel)
theorem lL_176 : Cond.methodLink RL 176 yL_runScript ∈ aw := aw_t 812 (by decide +kernel) (by decide +kernel)
theorem lL_179 : Cond.methodLink RL 179 yX7_runScript ∈ aw := aw_t 1161 (by decide +kernel) (by decide +kernel)
theorem lL_180 : Cond.methodLink RL 180 yL_simulate ∈ aw := aw_t 827 (by decide +kernel) (by decide +kernel)
theorem lL_183 : Cond.methodLink RL 183 yX7_simulate ∈ aw := aw_t 1171 (by decide +kernel) (by decide +kernel)
theorem lL_184 : Cond.methodLink RL 184 yL_save ∈ aw := aw_t 843 (by decide +kernel) (by decide +kernel)
theorem lL_186 : Cond.methodLink RL 186 yX7_save ∈ aw := aw_t 1185 (by decide +kernel) (by decide +kernel)
theorem lL_187 : Cond.methodLink RL 187 yL_restore ∈ aw := aw_t 854 (by decide +kernel) (by decide +kernel)
theorem lL_189 : Cond.methodLink RL 189 yX7_restore ∈ aw := aw_t 1189 (by decide +kernel) (by decide +kernel)
theorem lX7_1 : Cond.methodLink RX7 1 objectInit ∈ aw := aw_t 867 (by decide +kernel) (by decide +kernel)
theorem lX7_32 : Cond.methodLink RX7 32 yX7_clear ∈ aw := aw_t 868 (by decide +kernel) (by decide +kernel)
theorem lX7_40 : Cond.methodLink RX7 40 yX7_in ∈ aw := aw_t 917 (by decide +kernel) (by decide +kernel)
theorem lX7_44 : Cond.methodLink RX7 44 yX7_of ∈ aw := aw_t 965 (by decide +kernel) (by decide +kernel)
theorem lX7_48 : Cond.methodLink RX7 48 yX7_has ∈ aw := aw_t 971 (by decide +kernel) (by decide +kernel)
theorem lX7_52 : Cond.methodLink RX7 52 yX7_far ∈ aw := aw_t 977 (by decide +kernel) (by decide +kernel)
theorem lX7_55 : Cond.methodLink RX7 55 yX7_ofNote ∈ aw := aw_t 980 (by decide +kernel) (by decide +kernel)
theorem lX7_58 : Cond.methodLink RX7 58 yX7_lay ∈ aw := aw_t 948 (by decide +kernel) (by decide +kernel)
theorem lX7_62 : Cond.methodLink RX7 62 yX7_over ∈ aw := aw_t 1004 (by decide +kernel) (by decide +kernel)
theorem lX7_66 : Cond.methodLink RX7 66 yX7_enter ∈ aw := aw_t 1007 (by decide +kernel) (by decide +kernel)
theorem lX7_70 : Cond.methodLink RX7 70 yX7_stands ∈ aw := aw_t 995 (by decide +kernel) (by decide +kernel)
theorem lX7_74 : Cond.methodLink RX7 74 yX7_heardBy ∈ aw := aw_t 998 (by decide +kernel) (by decide +kernel)
theorem lX7_77 : Cond.methodLink RX7 77 yX7_told ∈ aw := aw_t 1001 (by decide +kernel) (by decide +kernel)
theorem lX7_81 : Cond.methodLink RX7 81 yX7_send ∈ aw := aw_t 974 (by decide +kernel) (by decide +kernel)
theorem lX7_85 : Cond.methodLink RX7 85 yX7_callsNone ∈ aw := aw_t 1010 (by decide +kernel) (by decide +kernel)
theorem lX7_88 : Cond.methodLink RX7 88 yX7_answers ∈ aw := aw_t 992 (by decide +kernel) (by decide +kernel)
theorem lX7_91 : Cond.methodLink RX7 91 yX7_takeFirst ∈ aw := aw_t 1040 (by decide +kernel) (by decide +kernel)
theorem lX7_94 : Cond.methodLink RX7 94 yX7_speech ∈ aw := aw_t 1044 (by decide +kernel) (by decide +kernel)
theorem lX7_97 : Cond.methodLink RX7 97 yX7_called ∈ aw := aw_t 1048 (by decide +kernel) (by decide +kernel)
theorem lX7_100 : Cond.methodLink RX7 100 yX7_replied ∈ aw := aw_t 1052 (by decide +kernel) (by decide +kernel)
theorem lX7_103 : Cond.methodLink RX7 103 yX7_comes ∈ aw := aw_t 1036 (by decide +kernel) (by decide +kernel)
theorem lX7_106 : Cond.methodLink RX7 106 yX7_callOn ∈ aw := aw_t 989 (by decide +kernel) (by decide +kernel)
theorem lX7_109 : Cond.methodLink RX7 109 yX7_tick ∈ aw := aw_t 1032 (by decide +kernel) (by decide +kernel)
theorem lX7_112 : Cond.methodLink RX7 112 yX7_isMember ∈ aw := aw_t 962 (by decide +kernel) (by decide +kernel)
theorem lX7_116 : Cond.methodLink RX7 116 yX7_isSet ∈ aw := aw_t 986 (by decide +kernel) (by decide +kernel)
theorem lX7_120 : Cond.methodLink RX7 120 yX7_bits ∈ aw := aw_t 1016 (by decide +kernel) (by decide +kernel)
theorem lX7_129 : Cond.methodLink RX7 129 yX7_refused ∈ aw := aw_t 920 (by decide +kernel) (by decide +kernel)
theorem lX7_141 : Cond.methodLink RX7 141 yX7_figures ∈ aw := aw_t 940 (by decide +kernel) (by decide +kernel)
theorem lX7_145 : Cond.methodLink RX7 145 yX7_memberOn ∈ aw := aw_t 945 (by decide +kernel) (by decide +kernel)
theorem lX7_149 : Cond.methodLink RX7 149 yX7_done ∈ aw := aw_t 951 (by decide +kernel) (by decide +kernel)
theorem lX7_153 : Cond.methodLink RX7 153 yX7_who ∈ aw := aw_t 955 (by decide +kernel) (by decide +kernel)
theorem lX7_156 : Cond.methodLink RX7 156 yX7_canSay ∈ aw := aw_t 959 (by decide +kernel) (by decide +kernel)
theorem lX7_159 : Cond.methodLink RX7 159 yX7_sayOn ∈ aw := aw_t 968 (by decide +kernel) (by decide +kernel)
theorem lX7_162 : Cond.methodLink RX7 162 yX7_canCall ∈ aw := aw_t 983 (by decide +kernel) (by decide +kernel)
theorem lX7_165 : Cond.methodLink RX7 165 yX7_cutOn ∈ aw := aw_t 1013 (by decide +kernel) (by decide +kernel)
theorem lX7_169 : Cond.methodLink RX7 169 yX7_isGone ∈ aw := aw_t 1019 (by decide +kernel) (by decide +kernel)
theorem lX7_172 : Cond.methodLink RX7 172 yX7_leaveOn ∈ aw := aw_t 1022 (by decide +kernel) (by decide +kernel)
theorem lX7_175 : Cond.methodLink RX7 175 yX7_backOn ∈ aw := aw_t 1025 (by decide +kernel) (by decide +kernel)
theorem lX7_178 : Cond.methodLink RX7 178 yX7_ticksOn ∈ aw := aw_t 1028 (by decide +kernel) (by decide +kernel)
theorem lX7_181 : Cond.methodLink RX7 181 yX7_readCommand ∈ aw := aw_t 936 (by decide +kernel) (by decide +kernel)
theorem lX7_185 : Cond.methodLink RX7 185 yX7_readText ∈ aw := aw_t 932 (by decide +kernel) (by decide +kernel)
theorem lX7_189 : Cond.methodLink RX7 189 yX7_copyState ∈ aw := aw_t 1060 (by decide +kernel) (by decide +kernel)
theorem lX7_196 : Cond.methodLink RX7 196 yX7_thoseWho ∈ aw := aw_t 1067 (by decide +kernel) (by decide +kernel)
theorem lX7_205 : Cond.methodLink RX7 205 yX7_remember ∈ aw := aw_t 1093 (by decide +kernel) (by decide +kernel)
theorem lX7_212 : Cond.methodLink RX7 212 yX7_standsNow ∈ aw := aw_t 1135 (by decide +kernel) (by decide +kernel)
theorem lX7_215 : Cond.methodLink RX7 215 yX7_isThere ∈ aw := aw_t 1139 (by decide +kernel) (by decide +kernel)
theorem lX7_219 : Cond.methodLink RX7 219 yX7_compared ∈ aw := aw_t 1147 (by decide +kernel) (by decide +kernel)
theorem lX7_223 : Cond.methodLink RX7 223 yX7_isOneRoll ∈ aw := aw_t 1154 (by decide +kernel) (by decide +kernel)
theorem lX7_230 : Cond.methodLink RX7 230 yX7_command ∈ aw := aw_t 1167 (by decide +kernel) (by decide +kernel)
theorem lX7_233 : Cond.methodLink RX7 233 yX7_turnGoing ∈ aw := aw_t 1181 (by decide +kernel) (by decide +kernel)
theorem lX7_241 : Cond.methodLink RX7 241 yX7_turn ∈ aw := aw_t 1177 (by decide +kernel) (by decide +kernel)
theorem lnX6_9 : Cond.methodLinkNest RX6 9 yX5_init RX6 ∈ tables_1 := List.mem_of_getElem? (i := 28) (by decide +kernel)
theorem lnX0_19 : Cond.methodLinkNest RX0 19 yX3_init RX6 ∈ tables_1 := List.mem_of_getElem? (i := 51) (by decide +kernel)
theorem lnX0_64 : Cond.methodLinkNest RX0 64 yX6_hasBit RX6 ∈ tables_1 := List.mem_of_getElem? (i := 313) (by decide +kernel)
theorem lnX0_98 : Cond.methodLinkNest RX0 98 yX6_isPlace RX6 ∈ tables_1 := List.mem_of_getElem? (i := 463) (by decide +kernel)
theorem lnX0_106 : Cond.methodLinkNest RX0 106 yX6_isPatience RX6 ∈ tables_1 := List.mem_of_getElem? (i := 470) (by decide +kernel)
theorem lnX0_109 : Cond.methodLinkNest RX0 109 yX6_areTicks RX6 ∈ tables_1 := List.mem_of_getElem? (i := 473) (by decide +kernel)
theorem lnX4_35 : Cond.methodLinkNest RX4 35 yX6_hasBit RX6 ∈ tables_1 := List.mem_of_getElem? (i := 552) (by decide +kernel)
theorem cX6_301 : Jvm.Cond.constantLong RX6 301 100000 ∈ aw := aw_t 820 (by decide +kernel) (by decide +kernel)
theorem cX6_305 : Jvm.Cond.constantLong RX6 305 10000000000 ∈ aw := aw_t 822 (by decide +kernel) (by decide +kernel)
theorem cX6_312 : Jvm.Cond.constantLong RX6 312 6364136223846793005 ∈ aw := aw_t 835 (by decide +kernel) (by decide +kernel)
theorem cX6_314 : Jvm.Cond.constantLong RX6 314 1442695040888963407 ∈ aw := aw_t 836 (by decide +kernel) (by decide +kernel)
theorem cL_174 : Jvm.Cond.constantLong RL 174 4294967295 ∈ aw := aw_t 1193 (by decide +kernel) (by decide +kernel)
theorem cX7_124 : Jvm.Cond.constantLong RX7 124 255 ∈ aw := aw_t 916 (by decide +kernel) (by decide +kernel)
theorem cX7_136 : Jvm.Cond.constantLong RX7 136 9 ∈ aw := aw_t 944 (by decide +kernel) (by decide +kernel)
theorem cX7_199 : Jvm.Cond.constantLong RX7 199 11 ∈ aw := aw_t 1074 (by decide +kernel) (by decide +kernel)
theorem cX7_201 : Jvm.Cond.constantLong RX7 201 2 ∈ aw := aw_t 1079 (by decide +kernel) (by decide +kernel)
theorem cX7_203 : Jvm.Cond.constantLong RX7 203 5 ∈ aw := aw_t 1084 (by decide +kernel) (by decide +kernel)
theorem cX7_208 : Jvm.Cond.constantLong RX7 208 40 ∈ aw := aw_t 1121 (by decide +kernel) (by decide +kernel)
theorem cX7_210 : Jvm.Cond.constantLong RX7 210 60 ∈ aw := aw_t 1126 (by decide +kernel) (by decide +kernel)
theorem cX7_226 : Jvm.Cond.constantLong RX7 226 100000 ∈ aw := aw_t 1165 (by decide +kernel) (by decide +kernel)
theorem cX7_228 : Jvm.Cond.constantLong RX7 228 3 ∈ aw := aw_t 1166 (by decide +kernel) (by decide +kernel)
theorem cX7_237 : Jvm.Cond.constantLong RX7 237 6364136223846793005 ∈ aw := aw_t 1175 (by decide +kernel) (by decide +kernel)
theorem cX7_239 : Jvm.Cond.constantLong RX7 239 1442695040888963407 ∈ aw := aw_t 1176 (by decide +kernel) (by decide +kernel)
theorem cJ6_265 : Jvm.Cond.constant RJ6 265 1431655765 ∈ aw := aw_t 319 (by decide +kernel) (by decide +kernel)
theorem cJ6_266 : Jvm.Cond.constant RJ6 266 858993459 ∈ aw := aw_t 320 (by decide +kernel) (by decide +kernel)
theorem cJ6_267 : Jvm.Cond.constant RJ6 267 252645135 ∈ aw := aw_t 321 (by decide +kernel) (by decide +kernel)
theorem nX6_7 : Cond.classLink RX6 7 RX5 ∈ aw := aw_t 26 (by decide +kernel) (by decide +kernel)
theorem nX6_16 : Cond.classLink RX6 16 RX0 ∈ aw := aw_t 41 (by decide +kernel) (by decide +kernel)
theorem nX6_29 : Cond.classLink RX6 29 RX1 ∈ aw := aw_t 226 (by decide +kernel) (by decide +kernel)
theorem nX0_9 : Cond.classLink RX0 9 RX2 ∈ aw := aw_t 47 (by decide +kernel) (by decide +kernel)
theorem nX0_17 : Cond.classLink RX0 17 RX3 ∈ aw := aw_t 49 (by decide +kernel) (by decide +kernel)
theorem nX1_9 : Cond.classLink RX1 9 RX0 ∈ aw := aw_t 232 (by decide +kernel) (by decide +kernel)
theorem nX2_9 : Cond.classLink RX2 9 RX4 ∈ aw := aw_t 82 (by decide +kernel) (by decide +kernel)
theorem nL_8 : Cond.classLink RL 8 RX6 ∈ aw := aw_t 18 (by decide +kernel) (by decide +kernel)
theorem nL_92 : Cond.classLink RL 92 RX7 ∈ aw := aw_t 862 (by decide +kernel) (by decide +kernel)
theorem nnX6 : Cond.instantiable RX6 7 ∈ aw := aw_t 19 (by decide +kernel) (by decide +kernel)
theorem niX6 : Cond.initialized RX6 ∈ aw := aw_t 1 (by decide +kernel) (by decide +kernel)
theorem nnX0 : Cond.instantiable RX0 9 ∈ aw := aw_t 42 (by decide +kernel) (by decide +kernel)
theorem niX0 : Cond.initialized RX0 ∈ aw := aw_t 3 (by decide +kernel) (by decide +kernel)
theorem nnX1 : Cond.instantiable RX1 3 ∈ aw := aw_t 227 (by decide +kernel) (by decide +kernel)
theorem niX1 : Cond.initialized RX1 ∈ aw := aw_t 7 (by decide +kernel) (by decide +kernel)
theorem nnX2 : Cond.instantiable RX2 16 ∈ aw := aw_t 77 (by decide +kernel) (by decide +kernel)
theorem niX2 : Cond.initialized RX2 ∈ aw := aw_t 5 (by decide +kernel) (by decide +kernel)
theorem nnX3 : Cond.instantiable RX3 5 ∈ aw := aw_t 50 (by decide +kernel) (by decide +kernel)
theorem niX3 : Cond.initialized RX3 ∈ aw := aw_t 4 (by decide +kernel) (by decide +kernel)
theorem nnX4 : Cond.instantiable RX4 4 ∈ aw := aw_t 83 (by decide +kernel) (by decide +kernel)
theorem niX4 : Cond.initialized RX4 ∈ aw := aw_t 6 (by decide +kernel) (by decide +kernel)
theorem nnX5 : Cond.instantiable RX5 2 ∈ aw := aw_t 27 (by decide +kernel) (by decide +kernel)
theorem niX5 : Cond.initialized RX5 ∈ aw := aw_t 2 (by decide +kernel) (by decide +kernel)
theorem nnX7 : Cond.instantiable RX7 12 ∈ aw := aw_t 863 (by decide +kernel) (by decide +kernel)
theorem niX7 : Cond.initialized RX7 ∈ aw := aw_t 8 (by decide +kernel) (by decide +kernel)
theorem wac_n : Cond.native arraycopyName ∈ aw := aw_t 444 (by decide +kernel) (by decide +kernel)
theorem wac_s : Cond.static arraycopyName ∈ aw := aw_t 443 (by decide +kernel) (by decide +kernel)
theorem wac_i : Cond.initialized "java/lang/System" ∈ aw := aw_t 15 (by decide +kernel) (by decide +kernel)
theorem woi_c : Cond.code objectInit ⟨#[0xb1]⟩ 1 none ∈ aw := aw_t 25 (by decide +kernel) (by decide +kernel)
theorem woi_i : Cond.instanceMethod objectInit ∈ aw := aw_t 24 (by decide +kernel) (by decide +kernel)
theorem wa_int : Cond.arrayClass .int ∈ aw := aw_t 40 (by decide +kernel) (by decide +kernel)
theorem wo_X2 : Cond.arrayOver (.object RX2) ∈ tables_1 := List.mem_of_getElem? (i := 48) (by decide +kernel)
theorem wo_X0 : Cond.arrayOver (.object RX0) ∈ tables_1 := List.mem_of_getElem? (i := 233) (by decide +kernel)
theorem wa_boolean : Cond.arrayClass .boolean ∈ aw := aw_t 268 (by decide +kernel) (by decide +kernel)
theorem wa_byte : Cond.arrayClass .byte ∈ aw := aw_t 398 (by decide +kernel) (by decide +kernel)
theorem wa_long : Cond.arrayClass .long ∈ aw := aw_t 1194 (by decide +kernel) (by decide +kernel)
abbrev M_J6_bitCount_0f7a4 : vR := (RJ6, cJ6_bitCount_0f7a4, 1, some .int, { frames := 0, cells := 0, slots := 0, locals := 0 }, "bitCount")
theorem yk_J6_bitCount_0f7a4 : vY M_J6_bitCount_0f7a4 yJ6_bitCount_0f7a4 1 := ⟨aw_t 318 (by decide +kernel) (by decide +kernel), aw_t 17 (by decide +kernel) (by decide +kernel), by decide +kernel⟩
theorem ys_J6_bitCount_0f7a4 : Cond.static yJ6_bitCount_0f7a4 ∈ aw := aw_t 317 (by decide +kernel) (by decide +kernel)
abbrev M_J9_abs_0f7a4 : vR := (RJ9, cJ9_abs_0f7a4, 1, some .int, { frames := 0, cells := 0, slots := 0, locals := 0 }, "abs")
theorem yk_J9_abs_0f7a4 : vY M_J9_abs_0f7a4 yJ9_abs_0f7a4 1 := ⟨aw_t 531 (by decide +kernel) (by decide +kernel), aw_t 14 (by decide +kernel) (by decide +kernel), by decide +kernel⟩
theorem ys_J9_abs_0f7a4 : Cond.static yJ9_abs_0f7a4 ∈ aw := aw_t 530 (by decide +kernel) (by decide +kernel)
abbrev M_J9_min_7cf53 : vR := (RJ9, cJ9_min_7cf53, 2, some .int, { frames := 0, cells := 0, slots := 0, locals := 0 }, "min")
theorem yk_J9_min_7cf53 : vY M_J9_min_7cf53 yJ9_min_7cf53 2 := ⟨aw_t 441 (by decide +kernel) (by decide +kernel), aw_t 14 (by decide +kernel) (by decide +kernel), by decide +kernel⟩
theorem ys_J9_min_7cf53 : Cond.static yJ9_min_7cf53 ∈ aw := aw_t 440 (by decide +kernel) (by decide +kernel)
abbrev M_X0_init : vR := (RX0, cX0_init, 2, none, { frames := 3, cells := 83, slots := 2192, locals := 62 }, "<init>")
theorem yk_X0_init : vY M_X0_init yX0_init 0 := ⟨aw_t 45 (by decide +kernel) (by decide +kernel), aw_t 3 (by decide +kernel) (by decide +kernel), by decide +kernel⟩
theorem yi_X0_init : Cond.instanceMethod yX0_init ∈ aw := aw_t 44 (by decide +kernel) (by decide +kernel)
abbrev M_X0_copyFrom : vR := (RX0, cX0_copyFrom, 3, none, { frames := 3, cells := 0, slots := 0, locals := 83 }, "copyFrom")
theorem yk_X0_copyFrom : vY M_X0_copyFrom yX0_copyFrom 1 := ⟨aw_t 430 (by decide +kernel) (by decide +kernel), aw_t 3 (by decide +kernel) (by decide +kernel), by decide +kernel⟩
theorem yv_X0_copyFrom : vYV yX0_copyFrom := ⟨aw_t 428 (by decide +kernel) (by decide +kernel), aw_t 429 (by decide +kernel) (by decide +kernel)⟩
abbrev M_X0_hasMember : vR := (RX0, cX0_hasMember, 2, some .boolean, { frames := 0, cells := 0, slots := 0, locals := 0 }, "hasMember")
theorem yk_X0_hasMember : vY M_X0_hasMember yX0_hasMember 1 := ⟨aw_t 495 (by decide +kernel) (by decide +kernel), aw_t 3 (by decide +kernel) (by decide +kernel), by decide +kernel⟩
theorem yv_X0_hasMember : vYV yX0_hasMember := ⟨aw_t 493 (by decide +kernel) (by decide +kernel), aw_t 494 (by decide +kernel) (by decide +kernel)⟩
abbrev M_X0_isGone : vR := (RX0, cX0_isGone, 2, some .boolean, { frames := 0, cells := 0, slots := 0, locals := 0 }, "isGone")
theorem yk_X0_isGone : vY M_X0_isGone yX0_isGone 1 := ⟨aw_t 601 (by decide +kernel) (by decide +kernel), aw_t 3 (by decide +kernel) (by decide +kernel), by decide +kernel⟩
theorem yv_X0_isGone : vYV yX0_isGone := ⟨aw_t 599 (by decide +kernel) (by decide +kernel), aw_t 600 (by decide +kernel) (by decide +kernel)⟩
abbrev M_X0_everybody : vR := (RX0, cX0_everybody, 1, some .int, { frames := 0, cells := 0, slots := 0, locals := 0 }, "everybody")
theorem yk_X0_everybody : vY M_X0_everybody yX0_everybody 0 := ⟨aw_t 597 (by decide +kernel) (by decide +kernel), aw_t 3 (by decide +kernel) (by decide +kernel), by decide +kernel⟩
theorem yv_X0_everybody : vYV yX0_everybody := ⟨aw_t 595 (by decide +kernel) (by decide +kernel), aw_t 596 (by decide +kernel) (by decide +kernel)⟩
abbrev M_X0_isRollWith : vR := (RX0, cX0_isRollWith, 3, some .boolean, { frames := 1, cells := 0, slots := 0, locals := 21 }, "isRollWith")
theorem yk_X0_isRollWith : vY M_X0_isRollWith yX0_isRollWith 2 := ⟨aw_t 593 (by decide +kernel) (by decide +kernel), aw_t 3 (by decide +kernel) (by decide +kernel), by decide +kernel⟩
theorem yv_X0_isRollWith : vYV yX0_isRollWith := ⟨aw_t 591 (by decide +kernel) (by decide +kernel), aw_t 592 (by decide +kernel) (by decide +kernel)⟩
abbrev M_X0_whoAre : vR := (RX0, cX0_whoAre, 4, some .int, { frames := 0, cells := 0, slots := 0, locals := 0 }, "whoAre")
theorem yk_X0_whoAre : vY M_X0_whoAre yX0_whoAre 1 := ⟨aw_t 622 (by decide +kernel) (by decide +kernel), aw_t 3 (by decide +kernel) (by decide +kernel), by decide +kernel⟩
theorem yv_X0_whoAre : vYV yX0_whoAre := ⟨aw_t 620 (by decide +kernel) (by decide +kernel), aw_t 621 (by decide +kernel) (by decide +kernel)⟩
abbrev M_X0_allSitIn : vR := (RX0, cX0_allSitIn, 5, some .boolean, { frames := 1, cells := 0, slots := 0, locals := 22 }, "allSitIn")
theorem yk_X0_allSitIn : vY M_X0_allSitIn yX0_allSitIn 3 := ⟨aw_t 788 (by decide +kernel) (by decide +kernel), aw_t 3 (by decide +kernel) (by decide +kernel), by decide +kernel⟩
theorem yv_X0_allSitIn : vYV yX0_allSitIn := ⟨aw_t 786 (by decide +kernel) (by decide +kernel), aw_t 787 (by decide +kernel) (by decide +kernel)⟩
abbrev M_X0_groupOf : vR := (RX0, cX0_groupOf, 5, some .int, { frames := 1, cells := 0, slots := 0, locals := 22 }, "groupOf")
theorem yk_X0_groupOf : vY M_X0_groupOf yX0_groupOf 1 := ⟨aw_t 308 (by decide +kernel) (by decide +kernel), aw_t 3 (by decide +kernel) (by decide +kernel), by decide +kernel⟩
theorem yv_X0_groupOf : vYV yX0_groupOf := ⟨aw_t 306 (by decide +kernel) (by decide +kernel), aw_t 307 (by decide +kernel) (by decide +kernel)⟩
abbrev M_X0_speechesMissedBy : vR := (RX0, cX0_speechesMissedBy, 5, some .int, { frames := 1, cells := 0, slots := 0, locals := 22 }, "speechesMissedBy")
theorem yk_X0_speechesMissedBy : vY M_X0_speechesMissedBy yX0_speechesMissedBy 1 := ⟨aw_t 811 (by decide +kernel) (by decide +kernel), aw_t 3 (by decide +kernel) (by decide +kernel), by decide +kernel⟩
theorem yv_X0_speechesMissedBy : vYV yX0_speechesMissedBy := ⟨aw_t 809 (by decide +kernel) (by decide +kernel), aw_t 810 (by decide +kernel) (by decide +kernel)⟩
abbrev M_X0_sharedSessions : vR := (RX0, cX0_sharedSessions, 10, some .int, { frames := 0, cells := 0, slots := 0, locals := 0 }, "sharedSessions")
theorem yk_X0_sharedSessions : vY M_X0_sharedSessions yX0_sharedSessions 3 := ⟨aw_t 799 (by decide +kernel) (by decide +kernel), aw_t 3 (by decide +kernel) (by decide +kernel), by decide +kernel⟩
theorem yv_X0_sharedSessions : vYV yX0_sharedSessions := ⟨aw_t 797 (by decide +kernel) (by decide +kernel), aw_t 798 (by decide +kernel) (by decide +kernel)⟩
abbrev M_X0_carryOut : vR := (RX0, cX0_carryOut, 4, some .boolean, { frames := 5, cells := 0, slots := 0, locals := 142 }, "carryOut")
theorem yk_X0_carryOut : vY M_X0_carryOut yX0_carryOut 3 := ⟨aw_t 462 (by decide +kernel) (by decide +kernel), aw_t 3 (by decide +kernel) (by decide +kernel), by decide +kernel⟩
theorem yv_X0_carryOut : vYV yX0_carryOut := ⟨aw_t 460 (by decide +kernel) (by decide +kernel), aw_t 461 (by decide +kernel) (by decide +kernel)⟩
abbrev M_X0_carryOutBy : vR := (RX0, cX0_carryOutBy, 4, some .boolean, { frames := 4, cells := 0, slots := 0, locals := 119 }, "carryOutBy")
theorem yk_X0_carryOutBy : vY M_X0_carryOutBy yX0_carryOutBy 3 := ⟨aw_t 581 (by decide +kernel) (by decide +kernel), aw_t 3 (by decide +kernel) (by decide +kernel), by decide +kernel⟩
theorem yv_X0_carryOutBy : vYV yX0_carryOutBy := ⟨aw_t 580 (by decide +kernel) (by decide +kernel), aw_s (by decide +kernel) (by decide +kernel)⟩
abbrev M_X0_addMember : vR := (RX0, cX0_addMember, 2, some .int, { frames := 0, cells := 0, slots := 0, locals := 0 }, "addMember")
theorem yk_X0_addMember : vY M_X0_addMember yX0_addMember 1 := ⟨aw_t 469 (by decide +kernel) (by decide +kernel), aw_t 3 (by decide +kernel) (by decide +kernel), by decide +kernel⟩
theorem yv_X0_addMember : vYV yX0_addMember := ⟨aw_t 467 (by decide +kernel) (by decide +kernel), aw_t 468 (by decide +kernel) (by decide +kernel)⟩
abbrev M_X0_speak : vR := (RX0, cX0_speak, 5, some .int, { frames := 2, cells := 0, slots := 0, locals := 69 }, "speak")
theorem yk_X0_speak : vY M_X0_speak yX0_speak 1 := ⟨aw_t 589 (by decide +kernel) (by decide +kernel), aw_t 3 (by decide +kernel) (by decide +kernel), by decide +kernel⟩
theorem yv_X0_speak : vYV yX0_speak := ⟨aw_t 587 (by decide +kernel) (by decide +kernel), aw_t 588 (by decide +kernel) (by decide +kernel)⟩
abbrev M_X0_callRoll : vR := (RX0, cX0_callRoll, 6, some .int, { frames := 3, cells := 0, slots := 0, locals := 94 }, "callRoll")
theorem yk_X0_callRoll : vY M_X0_callRoll yX0_callRoll 2 := ⟨aw_t 568 (by decide +kernel) (by decide +kernel), aw_t 3 (by decide +kernel) (by decide +kernel), by decide +kernel⟩
theorem yv_X0_callRoll : vYV yX0_callRoll := ⟨aw_t 566 (by decide +kernel) (by decide +kernel), aw_t 567 (by decide +kernel) (by decide +kernel)⟩
abbrev M_X0_letTicksGo : vR := (RX0, cX0_letTicksGo, 4, none, { frames := 4, cells := 0, slots := 0, locals := 119 }, "letTicksGo")
theorem yk_X0_letTicksGo : vY M_X0_letTicksGo yX0_letTicksGo 1 := ⟨aw_t 479 (by decide +kernel) (by decide +kernel), aw_t 3 (by decide +kernel) (by decide +kernel), by decide +kernel⟩
theorem yv_X0_letTicksGo : vYV yX0_letTicksGo := ⟨aw_t 477 (by decide +kernel) (by decide +kernel), aw_t 478 (by decide +kernel) (by decide +kernel)⟩
abbrev M_X0_noteComes : vR := (RX0, cX0_noteComes, 4, none, { frames := 3, cells := 0, slots := 0, locals := 94 }, "noteComes")
theorem yk_X0_noteComes : vY M_X0_noteComes yX0_noteComes 0 := ⟨aw_t 487 (by decide +kernel) (by decide +kernel), aw_t 3 (by decide +kernel) (by decide +kernel), by decide +kernel⟩
theorem yv_X0_noteComes : vYV yX0_noteComes := ⟨aw_t 486 (by decide +kernel) (by decide +kernel), aw_s (by decide +kernel) (by decide +kernel)⟩
abbrev M_X0_answerCall : vR := (RX0, cX0_answerCall, 4, none, { frames := 2, cells := 0, slots := 0, locals := 69 }, "answerCall")
theorem yk_X0_answerCall : vY M_X0_answerCall yX0_answerCall 3 := ⟨aw_t 512 (by decide +kernel) (by decide +kernel), aw_t 3 (by decide +kernel) (by decide +kernel), by decide +kernel⟩
theorem yv_X0_answerCall : vYV yX0_answerCall := ⟨aw_t 511 (by decide +kernel) (by decide +kernel), aw_s (by decide +kernel) (by decide +kernel)⟩
abbrev M_X0_rollStands : vR := (RX0, cX0_rollStands, 6, none, { frames := 2, cells := 0, slots := 0, locals := 69 }, "rollStands")
theorem yk_X0_rollStands : vY M_X0_rollStands yX0_rollStands 1 := ⟨aw_t 547 (by decide +kernel) (by decide +kernel), aw_t 3 (by decide +kernel) (by decide +kernel), by decide +kernel⟩
theorem yv_X0_rollStands : vYV yX0_rollStands := ⟨aw_t 546 (by decide +kernel) (by decide +kernel), aw_s (by decide +kernel) (by decide +kernel)⟩
abbrev M_X1_init : vR := (RX1, cX1_init, 2, none, { frames := 4, cells := 1177, slots := 30828, locals := 83 }, "<init>")
theorem yk_X1_init : vY M_X1_init yX1_init 0 := ⟨aw_t 230 (by decide +kernel) (by decide +kernel), aw_t 7 (by decide +kernel) (by decide +kernel), by decide +kernel⟩
theorem yi_X1_init : Cond.instanceMethod yX1_init ∈ aw := aw_t 229 (by decide +kernel) (by decide +kernel)
abbrev M_X1_remember : vR := (RX1, cX1_remember, 2, none, { frames := 4, cells := 0, slots := 0, locals := 105 }, "remember")
theorem yk_X1_remember : vY M_X1_remember yX1_remember 1 := ⟨aw_t 693 (by decide +kernel) (by decide +kernel), aw_t 7 (by decide +kernel) (by decide +kernel), by decide +kernel⟩
theorem yv_X1_remember : vYV yX1_remember := ⟨aw_t 691 (by decide +kernel) (by decide +kernel), aw_t 692 (by decide +kernel) (by decide +kernel)⟩
abbrev M_X1_takeLast : vR := (RX1, cX1_takeLast, 1, some (.object "ClubRolls$Club"), { frames := 0, cells := 0, slots := 0, locals := 0 }, "takeLast")
theorem yk_X1_takeLast : vY M_X1_takeLast yX1_takeLast 0 := ⟨aw_t 775 (by decide +kernel) (by decide +kernel), aw_t 7 (by decide +kernel) (by decide +kernel), by decide +kernel⟩
theorem yv_X1_takeLast : vYV yX1_takeLast := ⟨aw_t 773 (by decide +kernel) (by decide +kernel), aw_t 774 (by decide +kernel) (by decide +kernel)⟩
abbrev M_X2_init : vR := (RX2, cX2_init, 2, none, { frames := 2, cells := 12, slots := 120, locals := 41 }, "<init>")
theorem yk_X2_init : vY M_X2_init yX2_init 1 := ⟨aw_t 80 (by decide +kernel) (by decide +kernel), aw_t 5 (by decide +kernel) (by decide +kernel), by decide +kernel⟩
theorem yi_X2_init : Cond.instanceMethod yX2_init ∈ aw := aw_t 79 (by decide +kernel) (by decide +kernel)
abbrev M_X2_copyFrom : vR := (RX2, cX2_copyFrom, 2, none, { frames := 2, cells := 0, slots := 0, locals := 62 }, "copyFrom")
theorem yk_X2_copyFrom : vY M_X2_copyFrom yX2_copyFrom 1 := ⟨aw_t 434 (by decide +kernel) (by decide +kernel), aw_t 5 (by decide +kernel) (by decide +kernel), by decide +kernel⟩
theorem yv_X2_copyFrom : vYV yX2_copyFrom := ⟨aw_t 432 (by decide +kernel) (by decide +kernel), aw_t 433 (by decide +kernel) (by decide +kernel)⟩
abbrev M_X2_isIn : vR := (RX2, cX2_isIn, 3, some .boolean, { frames := 0, cells := 0, slots := 0, locals := 0 }, "isIn")
theorem yk_X2_isIn : vY M_X2_isIn yX2_isIn 2 := ⟨aw_t 312 (by decide +kernel) (by decide +kernel), aw_t 5 (by decide +kernel) (by decide +kernel), by decide +kernel⟩
theorem yv_X2_isIn : vYV yX2_isIn := ⟨aw_t 310 (by decide +kernel) (by decide +kernel), aw_t 311 (by decide +kernel) (by decide +kernel)⟩
abbrev M_X2_maySpeak : vR := (RX2, cX2_maySpeak, 1, some .boolean, { frames := 0, cells := 0, slots := 0, locals := 0 }, "maySpeak")
theorem yk_X2_maySpeak : vY M_X2_maySpeak yX2_maySpeak 0 := ⟨aw_t 585 (by decide +kernel) (by decide +kernel), aw_t 5 (by decide +kernel) (by decide +kernel), by decide +kernel⟩
theorem yv_X2_maySpeak : vYV yX2_maySpeak := ⟨aw_t 583 (by decide +kernel) (by decide +kernel), aw_t 584 (by decide +kernel) (by decide +kernel)⟩
abbrev M_X2_isOutOfPatience : vR := (RX2, cX2_isOutOfPatience, 3, some .boolean, { frames := 0, cells := 0, slots := 0, locals := 0 }, "isOutOfPatience")
theorem yk_X2_isOutOfPatience : vY M_X2_isOutOfPatience yX2_isOutOfPatience 2 := ⟨aw_t 564 (by decide +kernel) (by decide +kernel), aw_t 5 (by decide +kernel) (by decide +kernel), by decide +kernel⟩
theorem yv_X2_isOutOfPatience : vYV yX2_isOutOfPatience := ⟨aw_t 562 (by decide +kernel) (by decide +kernel), aw_t 563 (by decide +kernel) (by decide +kernel)⟩
abbrev M_X2_startCall : vR := (RX2, cX2_startCall, 3, none, { frames := 1, cells := 0, slots := 0, locals := 24 }, "startCall")
theorem yk_X2_startCall : vY M_X2_startCall yX2_startCall 2 := ⟨aw_t 572 (by decide +kernel) (by decide +kernel), aw_t 5 (by decide +kernel) (by decide +kernel), by decide +kernel⟩
theorem yv_X2_startCall : vYV yX2_startCall := ⟨aw_t 570 (by decide +kernel) (by decide +kernel), aw_t 571 (by decide +kernel) (by decide +kernel)⟩
abbrev M_X2_countsAnswer : vR := (RX2, cX2_countsAnswer, 2, some .boolean, { frames := 1, cells := 0, slots := 0, locals := 24 }, "countsAnswer")
theorem yk_X2_countsAnswer : vY M_X2_countsAnswer yX2_countsAnswer 1 := ⟨aw_t 535 (by decide +kernel) (by decide +kernel), aw_t 5 (by decide +kernel) (by decide +kernel), by decide +kernel⟩
theorem yv_X2_countsAnswer : vYV yX2_countsAnswer := ⟨aw_t 533 (by decide +kernel) (by decide +kernel), aw_t 534 (by decide +kernel) (by decide +kernel)⟩
abbrev M_X2_isAnsweredByAll : vR := (RX2, cX2_isAnsweredByAll, 1, some .boolean, { frames := 0, cells := 0, slots := 0, locals := 0 }, "isAnsweredByAll")
theorem yk_X2_isAnsweredByAll : vY M_X2_isAnsweredByAll yX2_isAnsweredByAll 0 := ⟨aw_t 543 (by decide +kernel) (by decide +kernel), aw_t 5 (by decide +kernel) (by decide +kernel), by decide +kernel⟩
theorem yv_X2_isAnsweredByAll : vYV yX2_isAnsweredByAll := ⟨aw_t 541 (by decide +kernel) (by decide +kernel), aw_t 542 (by decide +kernel) (by decide +kernel)⟩
abbrev M_X2_stopCall : vR := (RX2, cX2_stopCall, 1, none, { frames := 0, cells := 0, slots := 0, locals := 0 }, "stopCall")
theorem yk_X2_stopCall : vY M_X2_stopCall yX2_stopCall 0 := ⟨aw_t 520 (by decide +kernel) (by decide +kernel), aw_t 5 (by decide +kernel) (by decide +kernel), by decide +kernel⟩
theorem yv_X2_stopCall : vYV yX2_stopCall := ⟨aw_t 518 (by decide +kernel) (by decide +kernel), aw_t 519 (by decide +kernel) (by decide +kernel)⟩
abbrev M_X2_hushFor : vR := (RX2, cX2_hushFor, 2, none, { frames := 1, cells := 0, slots := 0, locals := 20 }, "hushFor")
theorem yk_X2_hushFor : vY M_X2_hushFor yX2_hushFor 1 := ⟨aw_t 516 (by decide +kernel) (by decide +kernel), aw_t 5 (by decide +kernel) (by decide +kernel), by decide +kernel⟩
theorem yv_X2_hushFor : vYV yX2_hushFor := ⟨aw_t 514 (by decide +kernel) (by decide +kernel), aw_t 515 (by decide +kernel) (by decide +kernel)⟩
abbrev M_X2_takesSpeech : vR := (RX2, cX2_takesSpeech, 4, some .boolean, { frames := 1, cells := 0, slots := 0, locals := 25 }, "takesSpeech")
theorem yk_X2_takesSpeech : vY M_X2_takesSpeech yX2_takesSpeech 3 := ⟨aw_t 499 (by decide +kernel) (by decide +kernel), aw_t 5 (by decide +kernel) (by decide +kernel), by decide +kernel⟩
theorem yv_X2_takesSpeech : vYV yX2_takesSpeech := ⟨aw_t 497 (by decide +kernel) (by decide +kernel), aw_t 498 (by decide +kernel) (by decide +kernel)⟩
abbrev M_X2_enterRoll : vR := (RX2, cX2_enterRoll, 5, none, { frames := 1, cells := 0, slots := 0, locals := 25 }, "enterRoll")
theorem yk_X2_enterRoll : vY M_X2_enterRoll yX2_enterRoll 4 := ⟨aw_t 556 (by decide +kernel) (by decide +kernel), aw_t 5 (by decide +kernel) (by decide +kernel), by decide +kernel⟩
theorem yv_X2_enterRoll : vYV yX2_enterRoll := ⟨aw_t 554 (by decide +kernel) (by decide +kernel), aw_t 555 (by decide +kernel) (by decide +kernel)⟩
abbrev M_X2_goAway : vR := (RX2, cX2_goAway, 1, none, { frames := 1, cells := 0, slots := 0, locals := 20 }, "goAway")
theorem yk_X2_goAway : vY M_X2_goAway yX2_goAway 0 := ⟨aw_t 605 (by decide +kernel) (by decide +kernel), aw_t 5 (by decide +kernel) (by decide +kernel), by decide +kernel⟩
theorem yv_X2_goAway : vYV yX2_goAway := ⟨aw_t 603 (by decide +kernel) (by decide +kernel), aw_t 604 (by decide +kernel) (by decide +kernel)⟩
abbrev M_X2_comeBack : vR := (RX2, cX2_comeBack, 1, none, { frames := 2, cells := 0, slots := 0, locals := 49 }, "comeBack")
theorem yk_X2_comeBack : vY M_X2_comeBack yX2_comeBack 0 := ⟨aw_t 609 (by decide +kernel) (by decide +kernel), aw_t 5 (by decide +kernel) (by decide +kernel), by decide +kernel⟩
theorem yv_X2_comeBack : vYV yX2_comeBack := ⟨aw_t 607 (by decide +kernel) (by decide +kernel), aw_t 608 (by decide +kernel) (by decide +kernel)⟩
abbrev M_X3_init : vR := (RX3, cX3_init, 1, none, { frames := 1, cells := 2, slots := 1356, locals := 20 }, "<init>")
theorem yk_X3_init : vY M_X3_init yX3_init 0 := ⟨aw_t 53 (by decide +kernel) (by decide +kernel), aw_t 4 (by decide +kernel) (by decide +kernel), by decide +kernel⟩
theorem yi_X3_init : Cond.instanceMethod yX3_init ∈ aw := aw_t 52 (by decide +kernel) (by decide +kernel)
abbrev M_X3_copyFrom : vR := (RX3, cX3_copyFrom, 2, none, { frames := 1, cells := 0, slots := 0, locals := 40 }, "copyFrom")
theorem yk_X3_copyFrom : vY M_X3_copyFrom yX3_copyFrom 1 := ⟨aw_t 448 (by decide +kernel) (by decide +kernel), aw_t 4 (by decide +kernel) (by decide +kernel), by decide +kernel⟩
theorem yv_X3_copyFrom : vYV yX3_copyFrom := ⟨aw_t 446 (by decide +kernel) (by decide +kernel), aw_t 447 (by decide +kernel) (by decide +kernel)⟩
abbrev M_X3_isCutBetween : vR := (RX3, cX3_isCutBetween, 3, some .boolean, { frames := 0, cells := 0, slots := 0, locals := 0 }, "isCutBetween")
theorem yk_X3_isCutBetween : vY M_X3_isCutBetween yX3_isCutBetween 2 := ⟨aw_t 528 (by decide +kernel) (by decide +kernel), aw_t 4 (by decide +kernel) (by decide +kernel), by decide +kernel⟩
theorem yv_X3_isCutBetween : vYV yX3_isCutBetween := ⟨aw_t 526 (by decide +kernel) (by decide +kernel), aw_t 527 (by decide +kernel) (by decide +kernel)⟩
abbrev M_X3_changeWay : vR := (RX3, cX3_changeWay, 4, none, { frames := 1, cells := 0, slots := 0, locals := 22 }, "changeWay")
theorem yk_X3_changeWay : vY M_X3_changeWay yX3_changeWay 3 := ⟨aw_t 577 (by decide +kernel) (by decide +kernel), aw_t 4 (by decide +kernel) (by decide +kernel), by decide +kernel⟩
theorem yv_X3_changeWay : vYV yX3_changeWay := ⟨aw_t 575 (by decide +kernel) (by decide +kernel), aw_t 576 (by decide +kernel) (by decide +kernel)⟩
abbrev M_X3_send : vR := (RX3, cX3_send, 10, none, { frames := 1, cells := 0, slots := 0, locals := 40 }, "send")
theorem yk_X3_send : vY M_X3_send yX3_send 6 := ⟨aw_t 524 (by decide +kernel) (by decide +kernel), aw_t 4 (by decide +kernel) (by decide +kernel), by decide +kernel⟩
theorem yv_X3_send : vYV yX3_send := ⟨aw_t 522 (by decide +kernel) (by decide +kernel), aw_t 523 (by decide +kernel) (by decide +kernel)⟩
abbrev M_X3_isDue : vR := (RX3, cX3_isDue, 2, some .boolean, { frames := 0, cells := 0, slots := 0, locals := 0 }, "isDue")
theorem yk_X3_isDue : vY M_X3_isDue yX3_isDue 1 := ⟨aw_t 483 (by decide +kernel) (by decide +kernel), aw_t 4 (by decide +kernel) (by decide +kernel), by decide +kernel⟩
theorem yv_X3_isDue : vYV yX3_isDue := ⟨aw_t 481 (by decide +kernel) (by decide +kernel), aw_t 482 (by decide +kernel) (by decide +kernel)⟩
abbrev M_X3_takeFirst : vR := (RX3, cX3_takeFirst, 2, none, { frames := 1, cells := 0, slots := 0, locals := 40 }, "takeFirst")
theorem yk_X3_takeFirst : vY M_X3_takeFirst yX3_takeFirst 1 := ⟨aw_t 491 (by decide +kernel) (by decide +kernel), aw_t 4 (by decide +kernel) (by decide +kernel), by decide +kernel⟩
theorem yv_X3_takeFirst : vYV yX3_takeFirst := ⟨aw_t 489 (by decide +kernel) (by decide +kernel), aw_t 490 (by decide +kernel) (by decide +kernel)⟩
abbrev M_X4_init : vR := (RX4, cX4_init, 2, none, { frames := 1, cells := 3, slots := 36, locals := 20 }, "<init>")
theorem yk_X4_init : vY M_X4_init yX4_init 1 := ⟨aw_t 86 (by decide +kernel) (by decide +kernel), aw_t 6 (by decide +kernel) (by decide +kernel), by decide +kernel⟩
theorem yi_X4_init : Cond.instanceMethod yX4_init ∈ aw := aw_t 85 (by decide +kernel) (by decide +kernel)
abbrev M_X4_copyFrom : vR := (RX4, cX4_copyFrom, 3, none, { frames := 1, cells := 0, slots := 0, locals := 40 }, "copyFrom")
theorem yk_X4_copyFrom : vY M_X4_copyFrom yX4_copyFrom 1 := ⟨aw_t 438 (by decide +kernel) (by decide +kernel), aw_t 6 (by decide +kernel) (by decide +kernel), by decide +kernel⟩
theorem yv_X4_copyFrom : vYV yX4_copyFrom := ⟨aw_t 436 (by decide +kernel) (by decide +kernel), aw_t 437 (by decide +kernel) (by decide +kernel)⟩
abbrev M_X4_isFull : vR := (RX4, cX4_isFull, 1, some .boolean, { frames := 0, cells := 0, slots := 0, locals := 0 }, "isFull")
theorem yk_X4_isFull : vY M_X4_isFull yX4_isFull 0 := ⟨aw_t 504 (by decide +kernel) (by decide +kernel), aw_t 6 (by decide +kernel) (by decide +kernel), by decide +kernel⟩
theorem yv_X4_isFull : vYV yX4_isFull := ⟨aw_t 502 (by decide +kernel) (by decide +kernel), aw_t 503 (by decide +kernel) (by decide +kernel)⟩
abbrev M_X4_put : vR := (RX4, cX4_put, 5, none, { frames := 0, cells := 0, slots := 0, locals := 0 }, "put")
theorem yk_X4_put : vY M_X4_put yX4_put 4 := ⟨aw_t 539 (by decide +kernel) (by decide +kernel), aw_t 6 (by decide +kernel) (by decide +kernel), by decide +kernel⟩
theorem yv_X4_put : vYV yX4_put := ⟨aw_t 537 (by decide +kernel) (by decide +kernel), aw_t 538 (by decide +kernel) (by decide +kernel)⟩
abbrev M_X4_add : vR := (RX4, cX4_add, 6, none, { frames := 0, cells := 0, slots := 0, locals := 0 }, "add")
theorem yk_X4_add : vY M_X4_add yX4_add 3 := ⟨aw_t 508 (by decide +kernel) (by decide +kernel), aw_t 6 (by decide +kernel) (by decide +kernel), by decide +kernel⟩
theorem yv_X4_add : vYV yX4_add := ⟨aw_t 506 (by decide +kernel) (by decide +kernel), aw_t 507 (by decide +kernel) (by decide +kernel)⟩
abbrev M_X4_takeUpTo : vR := (RX4, cX4_takeUpTo, 6, some .int, { frames := 0, cells := 0, slots := 0, locals := 0 }, "takeUpTo")
theorem yk_X4_takeUpTo : vY M_X4_takeUpTo yX4_takeUpTo 2 := ⟨aw_t 560 (by decide +kernel) (by decide +kernel), aw_t 6 (by decide +kernel) (by decide +kernel), by decide +kernel⟩
theorem yv_X4_takeUpTo : vYV yX4_takeUpTo := ⟨aw_t 558 (by decide +kernel) (by decide +kernel), aw_t 559 (by decide +kernel) (by decide +kernel)⟩
abbrev M_X4_heardLike : vR := (RX4, cX4_heardLike, 5, some .int, { frames := 1, cells := 0, slots := 0, locals := 21 }, "heardLike")
theorem yk_X4_heardLike : vY M_X4_heardLike yX4_heardLike 2 := ⟨aw_t 551 (by decide +kernel) (by decide +kernel), aw_t 6 (by decide +kernel) (by decide +kernel), by decide +kernel⟩
theorem yv_X4_heardLike : vYV yX4_heardLike := ⟨aw_t 549 (by decide +kernel) (by decide +kernel), aw_t 550 (by decide +kernel) (by decide +kernel)⟩
abbrev M_X5_init : vR := (RX5, cX5_init, 1, none, { frames := 1, cells := 1, slots := 120, locals := 20 }, "<init>")
theorem yk_X5_init : vY M_X5_init yX5_init 0 := ⟨aw_t 30 (by decide +kernel) (by decide +kernel), aw_t 2 (by decide +kernel) (by decide +kernel), by decide +kernel⟩
theorem yi_X5_init : Cond.instanceMethod yX5_init ∈ aw := aw_t 29 (by decide +kernel) (by decide +kernel)
abbrev M_X5_addSign : vR := (RX5, cX5_addSign, 2, none, { frames := 0, cells := 0, slots := 0, locals := 0 }, "addSign")
theorem yk_X5_addSign : vY M_X5_addSign yX5_addSign 1 := ⟨aw_t 418 (by decide +kernel) (by decide +kernel), aw_t 2 (by decide +kernel) (by decide +kernel), by decide +kernel⟩
theorem yv_X5_addSign : vYV yX5_addSign := ⟨aw_t 416 (by decide +kernel) (by decide +kernel), aw_t 417 (by decide +kernel) (by decide +kernel)⟩
abbrev M_X5_signAt : vR := (RX5, cX5_signAt, 2, some .int, { frames := 0, cells := 0, slots := 0, locals := 0 }, "signAt")
theorem yk_X5_signAt : vY M_X5_signAt yX5_signAt 1 := ⟨aw_t 284 (by decide +kernel) (by decide +kernel), aw_t 2 (by decide +kernel) (by decide +kernel), by decide +kernel⟩
theorem yv_X5_signAt : vYV yX5_signAt := ⟨aw_t 282 (by decide +kernel) (by decide +kernel), aw_t 283 (by decide +kernel) (by decide +kernel)⟩
abbrev M_X5_firstError : vR := (RX5, cX5_firstError, 4, some .int, { frames := 4, cells := 0, slots := 0, locals := 91 }, "firstError")
theorem yk_X5_firstError : vY M_X5_firstError yX5_firstError 0 := ⟨aw_t 280 (by decide +kernel) (by decide +kernel), aw_t 2 (by decide +kernel) (by decide +kernel), by decide +kernel⟩
theorem yv_X5_firstError : vYV yX5_firstError := ⟨aw_t 278 (by decide +kernel) (by decide +kernel), aw_t 279 (by decide +kernel) (by decide +kernel)⟩
abbrev M_X5_digitsBehind : vR := (RX5, cX5_digitsBehind, 2, some .int, { frames := 1, cells := 0, slots := 0, locals := 21 }, "digitsBehind")
theorem yk_X5_digitsBehind : vY M_X5_digitsBehind yX5_digitsBehind 1 := ⟨aw_t 288 (by decide +kernel) (by decide +kernel), aw_t 2 (by decide +kernel) (by decide +kernel), by decide +kernel⟩
theorem yv_X5_digitsBehind : vYV yX5_digitsBehind := ⟨aw_t 286 (by decide +kernel) (by decide +kernel), aw_t 287 (by decide +kernel) (by decide +kernel)⟩
abbrev M_X5_isAllowed : vR := (RX5, cX5_isAllowed, 4, some .boolean, { frames := 3, cells := 0, slots := 0, locals := 68 }, "isAllowed")
theorem yk_X5_isAllowed : vY M_X5_isAllowed yX5_isAllowed 2 := ⟨aw_t 292 (by decide +kernel) (by decide +kernel), aw_t 2 (by decide +kernel) (by decide +kernel), by decide +kernel⟩
theorem yv_X5_isAllowed : vYV yX5_isAllowed := ⟨aw_t 291 (by decide +kernel) (by decide +kernel), aw_s (by decide +kernel) (by decide +kernel)⟩
abbrev M_X5_beginsNumber : vR := (RX5, cX5_beginsNumber, 7, some .boolean, { frames := 2, cells := 0, slots := 0, locals := 42 }, "beginsNumber")
theorem yk_X5_beginsNumber : vY M_X5_beginsNumber yX5_beginsNumber 4 := ⟨aw_t 296 (by decide +kernel) (by decide +kernel), aw_t 2 (by decide +kernel) (by decide +kernel), by decide +kernel⟩
theorem yv_X5_beginsNumber : vYV yX5_beginsNumber := ⟨aw_t 295 (by decide +kernel) (by decide +kernel), aw_s (by decide +kernel) (by decide +kernel)⟩
abbrev M_X5_twoDigits : vR := (RX5, cX5_twoDigits, 2, some .int, { frames := 1, cells := 0, slots := 0, locals := 21 }, "twoDigits")
theorem yk_X5_twoDigits : vY M_X5_twoDigits yX5_twoDigits 1 := ⟨aw_t 300 (by decide +kernel) (by decide +kernel), aw_t 2 (by decide +kernel) (by decide +kernel), by decide +kernel⟩
theorem yv_X5_twoDigits : vYV yX5_twoDigits := ⟨aw_t 299 (by decide +kernel) (by decide +kernel), aw_s (by decide +kernel) (by decide +kernel)⟩
abbrev M_X5_firstNumber : vR := (RX5, cX5_firstNumber, 3, some .int, { frames := 2, cells := 0, slots := 0, locals := 42 }, "firstNumber")
theorem yk_X5_firstNumber : vY M_X5_firstNumber yX5_firstNumber 1 := ⟨aw_t 454 (by decide +kernel) (by decide +kernel), aw_t 2 (by decide +kernel) (by decide +kernel), by decide +kernel⟩
theorem yv_X5_firstNumber : vYV yX5_firstNumber := ⟨aw_t 452 (by decide +kernel) (by decide +kernel), aw_t 453 (by decide +kernel) (by decide +kernel)⟩
abbrev M_X5_secondNumber : vR := (RX5, cX5_secondNumber, 2, some .int, { frames := 2, cells := 0, slots := 0, locals := 42 }, "secondNumber")
theorem yk_X5_secondNumber : vY M_X5_secondNumber yX5_secondNumber 1 := ⟨aw_t 458 (by decide +kernel) (by decide +kernel), aw_t 2 (by decide +kernel) (by decide +kernel), by decide +kernel⟩
theorem yv_X5_secondNumber : vYV yX5_secondNumber := ⟨aw_t 456 (by decide +kernel) (by decide +kernel), aw_t 457 (by decide +kernel) (by decide +kernel)⟩
abbrev M_X6_init : vR := (RX6, cX6_init, 2, none, { frames := 5, cells := 1602, slots := 41962, locals := 104 }, "<init>")
theorem yk_X6_init : vY M_X6_init yX6_init 0 := ⟨aw_t 22 (by decide +kernel) (by decide +kernel), aw_t 1 (by decide +kernel) (by decide +kernel), by decide +kernel⟩
theorem yi_X6_init : Cond.instanceMethod yX6_init ∈ aw := aw_t 21 (by decide +kernel) (by decide +kernel)
abbrev M_X6_append : vR := (RX6, cX6_append, 2, some .int, { frames := 6, cells := 4, slots := 24, locals := 90 }, "append")
theorem yk_X6_append : vY M_X6_append yX6_append 1 := ⟨aw_t 330 (by decide +kernel) (by decide +kernel), aw_t 1 (by decide +kernel) (by decide +kernel), by decide +kernel⟩
theorem yv_X6_append : vYV yX6_append := ⟨aw_t 328 (by decide +kernel) (by decide +kernel), aw_t 329 (by decide +kernel) (by decide +kernel)⟩
abbrev M_X6_clearText : vR := (RX6, cX6_clearText, 2, some .int, { frames := 0, cells := 0, slots := 0, locals := 0 }, "clearText")
theorem yk_X6_clearText : vY M_X6_clearText yX6_clearText 0 := ⟨aw_t 272 (by decide +kernel) (by decide +kernel), aw_t 1 (by decide +kernel) (by decide +kernel), by decide +kernel⟩
theorem yv_X6_clearText : vYV yX6_clearText := ⟨aw_t 270 (by decide +kernel) (by decide +kernel), aw_t 271 (by decide +kernel) (by decide +kernel)⟩
abbrev M_X6_errorPosition : vR := (RX6, cX6_errorPosition, 1, some .int, { frames := 5, cells := 0, slots := 0, locals := 114 }, "errorPosition")
theorem yk_X6_errorPosition : vY M_X6_errorPosition yX6_errorPosition 0 := ⟨aw_t 276 (by decide +kernel) (by decide +kernel), aw_t 1 (by decide +kernel) (by decide +kernel), by decide +kernel⟩
theorem yv_X6_errorPosition : vYV yX6_errorPosition := ⟨aw_t 274 (by decide +kernel) (by decide +kernel), aw_t 275 (by decide +kernel) (by decide +kernel)⟩
abbrev M_X6_load : vR := (RX6, cX6_load, 3, some .int, { frames := 6, cells := 4, slots := 24, locals := 165 }, "load")
theorem yk_X6_load : vY M_X6_load yX6_load 0 := ⟨aw_t 425 (by decide +kernel) (by decide +kernel), aw_t 1 (by decide +kernel) (by decide +kernel), by decide +kernel⟩
theorem yv_X6_load : vYV yX6_load := ⟨aw_t 423 (by decide +kernel) (by decide +kernel), aw_t 424 (by decide +kernel) (by decide +kernel)⟩
abbrev M_X6_about : vR := (RX6, cX6_about, 2, some .int, { frames := 6, cells := 4, slots := 24, locals := 90 }, "about")
theorem yk_X6_about : vY M_X6_about yX6_about 1 := ⟨aw_t 618 (by decide +kernel) (by decide +kernel), aw_t 1 (by decide +kernel) (by decide +kernel), by decide +kernel⟩
theorem yv_X6_about : vYV yX6_about := ⟨aw_t 616 (by decide +kernel) (by decide +kernel), aw_t 617 (by decide +kernel) (by decide +kernel)⟩
abbrev M_X6_memberOf : vR := (RX6, cX6_memberOf, 4, some .int, { frames := 7, cells := 4, slots := 24, locals := 111 }, "memberOf")
theorem yk_X6_memberOf : vY M_X6_memberOf yX6_memberOf 2 := ⟨aw_t 631 (by decide +kernel) (by decide +kernel), aw_t 1 (by decide +kernel) (by decide +kernel), by decide +kernel⟩
theorem yv_X6_memberOf : vYV yX6_memberOf := ⟨aw_t 629 (by decide +kernel) (by decide +kernel), aw_t 630 (by decide +kernel) (by decide +kernel)⟩
abbrev M_X6_session : vR := (RX6, cX6_session, 5, some .int, { frames := 7, cells := 4, slots := 24, locals := 111 }, "session")
theorem yk_X6_session : vY M_X6_session yX6_session 3 := ⟨aw_t 660 (by decide +kernel) (by decide +kernel), aw_t 1 (by decide +kernel) (by decide +kernel), by decide +kernel⟩
theorem yv_X6_session : vYV yX6_session := ⟨aw_t 658 (by decide +kernel) (by decide +kernel), aw_t 659 (by decide +kernel) (by decide +kernel)⟩
abbrev M_X6_note : vR := (RX6, cX6_note, 3, some .int, { frames := 6, cells := 4, slots := 24, locals := 90 }, "note")
theorem yk_X6_note : vY M_X6_note yX6_note 2 := ⟨aw_t 669 (by decide +kernel) (by decide +kernel), aw_t 1 (by decide +kernel) (by decide +kernel), by decide +kernel⟩
theorem yv_X6_note : vYV yX6_note := ⟨aw_t 667 (by decide +kernel) (by decide +kernel), aw_t 668 (by decide +kernel) (by decide +kernel)⟩
abbrev M_X6_isCut : vR := (RX6, cX6_isCut, 3, some .int, { frames := 7, cells := 4, slots := 24, locals := 111 }, "isCut")
theorem yk_X6_isCut : vY M_X6_isCut yX6_isCut 2 := ⟨aw_t 678 (by decide +kernel) (by decide +kernel), aw_t 1 (by decide +kernel) (by decide +kernel), by decide +kernel⟩
theorem yv_X6_isCut : vYV yX6_isCut := ⟨aw_t 676 (by decide +kernel) (by decide +kernel), aw_t 677 (by decide +kernel) (by decide +kernel)⟩
abbrev M_X6_member : vR := (RX6, cX6_member, 2, some .int, { frames := 6, cells := 4, slots := 24, locals := 126 }, "member")
theorem yk_X6_member : vY M_X6_member yX6_member 1 := ⟨aw_t 686 (by decide +kernel) (by decide +kernel), aw_t 1 (by decide +kernel) (by decide +kernel), by decide +kernel⟩
theorem yv_X6_member : vYV yX6_member := ⟨aw_t 684 (by decide +kernel) (by decide +kernel), aw_t 685 (by decide +kernel) (by decide +kernel)⟩
abbrev M_X6_say : vR := (RX6, cX6_say, 2, some .int, { frames := 7, cells := 4, slots := 24, locals := 126 }, "say")
theorem yk_X6_say : vY M_X6_say yX6_say 1 := ⟨aw_t 703 (by decide +kernel) (by decide +kernel), aw_t 1 (by decide +kernel) (by decide +kernel), by decide +kernel⟩
theorem yv_X6_say : vYV yX6_say := ⟨aw_t 701 (by decide +kernel) (by decide +kernel), aw_t 702 (by decide +kernel) (by decide +kernel)⟩
abbrev M_X6_call : vR := (RX6, cX6_call, 3, some .int, { frames := 7, cells := 4, slots := 24, locals := 126 }, "call")
theorem yk_X6_call : vY M_X6_call yX6_call 2 := ⟨aw_t 713 (by decide +kernel) (by decide +kernel), aw_t 1 (by decide +kernel) (by decide +kernel), by decide +kernel⟩
theorem yv_X6_call : vYV yX6_call := ⟨aw_t 711 (by decide +kernel) (by decide +kernel), aw_t 712 (by decide +kernel) (by decide +kernel)⟩
abbrev M_X6_cut : vR := (RX6, cX6_cut, 4, some .int, { frames := 7, cells := 4, slots := 24, locals := 126 }, "cut")
theorem yk_X6_cut : vY M_X6_cut yX6_cut 3 := ⟨aw_t 725 (by decide +kernel) (by decide +kernel), aw_t 1 (by decide +kernel) (by decide +kernel), by decide +kernel⟩
theorem yv_X6_cut : vYV yX6_cut := ⟨aw_t 723 (by decide +kernel) (by decide +kernel), aw_t 724 (by decide +kernel) (by decide +kernel)⟩
abbrev M_X6_leave : vR := (RX6, cX6_leave, 2, some .int, { frames := 7, cells := 4, slots := 24, locals := 126 }, "leave")
theorem yk_X6_leave : vY M_X6_leave yX6_leave 1 := ⟨aw_t 734 (by decide +kernel) (by decide +kernel), aw_t 1 (by decide +kernel) (by decide +kernel), by decide +kernel⟩
theorem yv_X6_leave : vYV yX6_leave := ⟨aw_t 732 (by decide +kernel) (by decide +kernel), aw_t 733 (by decide +kernel) (by decide +kernel)⟩
abbrev M_X6_back : vR := (RX6, cX6_back, 2, some .int, { frames := 7, cells := 4, slots := 24, locals := 126 }, "back")
theorem yk_X6_back : vY M_X6_back yX6_back 1 := ⟨aw_t 742 (by decide +kernel) (by decide +kernel), aw_t 1 (by decide +kernel) (by decide +kernel), by decide +kernel⟩
theorem yv_X6_back : vYV yX6_back := ⟨aw_t 740 (by decide +kernel) (by decide +kernel), aw_t 741 (by decide +kernel) (by decide +kernel)⟩
abbrev M_X6_set : vR := (RX6, cX6_set, 3, some .int, { frames := 6, cells := 4, slots := 24, locals := 126 }, "set")
theorem yk_X6_set : vY M_X6_set yX6_set 1 := ⟨aw_t 751 (by decide +kernel) (by decide +kernel), aw_t 1 (by decide +kernel) (by decide +kernel), by decide +kernel⟩
theorem yv_X6_set : vYV yX6_set := ⟨aw_t 749 (by decide +kernel) (by decide +kernel), aw_t 750 (by decide +kernel) (by decide +kernel)⟩
abbrev M_X6_ticks : vR := (RX6, cX6_ticks, 3, some .int, { frames := 6, cells := 4, slots := 24, locals := 142 }, "ticks")
theorem yk_X6_ticks : vY M_X6_ticks yX6_ticks 1 := ⟨aw_t 760 (by decide +kernel) (by decide +kernel), aw_t 1 (by decide +kernel) (by decide +kernel), by decide +kernel⟩
theorem yv_X6_ticks : vYV yX6_ticks := ⟨aw_t 758 (by decide +kernel) (by decide +kernel), aw_t 759 (by decide +kernel) (by decide +kernel)⟩
abbrev M_X6_undo : vR := (RX6, cX6_undo, 1, some .int, { frames := 6, cells := 4, slots := 24, locals := 105 }, "undo")
theorem yk_X6_undo : vY M_X6_undo yX6_undo 0 := ⟨aw_t 770 (by decide +kernel) (by decide +kernel), aw_t 1 (by decide +kernel) (by decide +kernel), by decide +kernel⟩
theorem yv_X6_undo : vYV yX6_undo := ⟨aw_t 768 (by decide +kernel) (by decide +kernel), aw_t 769 (by decide +kernel) (by decide +kernel)⟩
abbrev M_X6_standsIn : vR := (RX6, cX6_standsIn, 6, some .int, { frames := 7, cells := 4, slots := 24, locals := 142 }, "standsIn")
theorem yk_X6_standsIn : vY M_X6_standsIn yX6_standsIn 3 := ⟨aw_t 782 (by decide +kernel) (by decide +kernel), aw_t 1 (by decide +kernel) (by decide +kernel), by decide +kernel⟩
theorem yv_X6_standsIn : vYV yX6_standsIn := ⟨aw_t 780 (by decide +kernel) (by decide +kernel), aw_t 781 (by decide +kernel) (by decide +kernel)⟩
abbrev M_X6_compare : vR := (RX6, cX6_compare, 4, some .int, { frames := 7, cells := 4, slots := 24, locals := 111 }, "compare")
theorem yk_X6_compare : vY M_X6_compare yX6_compare 3 := ⟨aw_t 795 (by decide +kernel) (by decide +kernel), aw_t 1 (by decide +kernel) (by decide +kernel), by decide +kernel⟩
theorem yv_X6_compare : vYV yX6_compare := ⟨aw_t 793 (by decide +kernel) (by decide +kernel), aw_t 794 (by decide +kernel) (by decide +kernel)⟩
abbrev M_X6_lacks : vR := (RX6, cX6_lacks, 2, some .int, { frames := 7, cells := 4, slots := 24, locals := 111 }, "lacks")
theorem yk_X6_lacks : vY M_X6_lacks yX6_lacks 1 := ⟨aw_t 807 (by decide +kernel) (by decide +kernel), aw_t 1 (by decide +kernel) (by decide +kernel), by decide +kernel⟩
theorem yv_X6_lacks : vYV yX6_lacks := ⟨aw_t 805 (by decide +kernel) (by decide +kernel), aw_t 806 (by decide +kernel) (by decide +kernel)⟩
abbrev M_X6_together : vR := (RX6, cX6_together, 4, some .int, { frames := 2, cells := 0, slots := 0, locals := 46 }, "together")
theorem yk_X6_together : vY M_X6_together yX6_together 0 := ⟨aw_t 304 (by decide +kernel) (by decide +kernel), aw_t 1 (by decide +kernel) (by decide +kernel), by decide +kernel⟩
theorem yv_X6_together : vYV yX6_together := ⟨aw_t 302 (by decide +kernel) (by decide +kernel), aw_t 303 (by decide +kernel) (by decide +kernel)⟩
abbrev M_X6_runScript : vR := (RX6, cX6_runScript, 9, some .int, { frames := 7, cells := 4, slots := 24, locals := 189 }, "runScript")
theorem yk_X6_runScript : vY M_X6_runScript yX6_runScript 2 := ⟨aw_t 818 (by decide +kernel) (by decide +kernel), aw_t 1 (by decide +kernel) (by decide +kernel), by decide +kernel⟩
theorem yv_X6_runScript : vYV yX6_runScript := ⟨aw_t 816 (by decide +kernel) (by decide +kernel), aw_t 817 (by decide +kernel) (by decide +kernel)⟩
abbrev M_X6_simulate : vR := (RX6, cX6_simulate, 9, some .int, { frames := 7, cells := 4, slots := 24, locals := 188 }, "simulate")
theorem yk_X6_simulate : vY M_X6_simulate yX6_simulate 2 := ⟨aw_t 833 (by decide +kernel) (by decide +kernel), aw_t 1 (by decide +kernel) (by decide +kernel), by decide +kernel⟩
theorem yv_X6_simulate : vYV yX6_simulate := ⟨aw_t 831 (by decide +kernel) (by decide +kernel), aw_t 832 (by decide +kernel) (by decide +kernel)⟩
abbrev M_X6_save : vR := (RX6, cX6_save, 2, some .int, { frames := 7, cells := 4, slots := 24, locals := 110 }, "save")
theorem yk_X6_save : vY M_X6_save yX6_save 1 := ⟨aw_t 849 (by decide +kernel) (by decide +kernel), aw_t 1 (by decide +kernel) (by decide +kernel), by decide +kernel⟩
theorem yv_X6_save : vYV yX6_save := ⟨aw_t 847 (by decide +kernel) (by decide +kernel), aw_t 848 (by decide +kernel) (by decide +kernel)⟩
abbrev M_X6_restore : vR := (RX6, cX6_restore, 2, some .int, { frames := 7, cells := 4, slots := 24, locals := 110 }, "restore")
theorem yk_X6_restore : vY M_X6_restore yX6_restore 1 := ⟨aw_t 860 (by decide +kernel) (by decide +kernel), aw_t 1 (by decide +kernel) (by decide +kernel), by decide +kernel⟩
theorem yv_X6_restore : vYV yX6_restore := ⟨aw_t 858 (by decide +kernel) (by decide +kernel), aw_t 859 (by decide +kernel) (by decide +kernel)⟩
abbrev M_X6_checkMember : vR := (RX6, cX6_checkMember, 2, none, { frames := 6, cells := 1, slots := 6, locals := 90 }, "checkMember")
theorem yk_X6_checkMember : vY M_X6_checkMember yX6_checkMember 1 := ⟨aw_t 635 (by decide +kernel) (by decide +kernel), aw_t 1 (by decide +kernel) (by decide +kernel), by decide +kernel⟩
theorem yv_X6_checkMember : vYV yX6_checkMember := ⟨aw_t 634 (by decide +kernel) (by decide +kernel), aw_s (by decide +kernel) (by decide +kernel)⟩
abbrev M_X6_checkSlot : vR := (RX6, cX6_checkSlot, 1, none, { frames := 6, cells := 1, slots := 6, locals := 90 }, "checkSlot")
theorem yk_X6_checkSlot : vY M_X6_checkSlot yX6_checkSlot 1 := ⟨aw_t 852 (by decide +kernel) (by decide +kernel), aw_t 1 (by decide +kernel) (by decide +kernel), by decide +kernel⟩
theorem ys_X6_checkSlot : Cond.static yX6_checkSlot ∈ aw := aw_t 851 (by decide +kernel) (by decide +kernel)
abbrev M_X6_succeeds : vR := (RX6, cX6_succeeds, 5, some .boolean, { frames := 6, cells := 0, slots := 0, locals := 165 }, "succeeds")
theorem yk_X6_succeeds : vY M_X6_succeeds yX6_succeeds 1 := ⟨aw_t 826 (by decide +kernel) (by decide +kernel), aw_t 1 (by decide +kernel) (by decide +kernel), by decide +kernel⟩
theorem yv_X6_succeeds : vYV yX6_succeeds := ⟨aw_t 825 (by decide +kernel) (by decide +kernel), aw_s (by decide +kernel) (by decide +kernel)⟩
abbrev M_X6_takeTurn : vR := (RX6, cX6_takeTurn, 4, none, { frames := 6, cells := 0, slots := 0, locals := 165 }, "takeTurn")
theorem yk_X6_takeTurn : vY M_X6_takeTurn yX6_takeTurn 1 := ⟨aw_t 840 (by decide +kernel) (by decide +kernel), aw_t 1 (by decide +kernel) (by decide +kernel), by decide +kernel⟩
theorem yv_X6_takeTurn : vYV yX6_takeTurn := ⟨aw_t 839 (by decide +kernel) (by decide +kernel), aw_s (by decide +kernel) (by decide +kernel)⟩
abbrev M_X6_isPlace : vR := (RX6, cX6_isPlace, 1, some .boolean, { frames := 0, cells := 0, slots := 0, locals := 0 }, "isPlace")
theorem yk_X6_isPlace : vY M_X6_isPlace yX6_isPlace 1 := ⟨aw_t 465 (by decide +kernel) (by decide +kernel), aw_t 1 (by decide +kernel) (by decide +kernel), by decide +kernel⟩
theorem ys_X6_isPlace : Cond.static yX6_isPlace ∈ aw := aw_t 464 (by decide +kernel) (by decide +kernel)
abbrev M_X6_isPatience : vR := (RX6, cX6_isPatience, 1, some .boolean, { frames := 0, cells := 0, slots := 0, locals := 0 }, "isPatience")
theorem yk_X6_isPatience : vY M_X6_isPatience yX6_isPatience 1 := ⟨aw_t 472 (by decide +kernel) (by decide +kernel), aw_t 1 (by decide +kernel) (by decide +kernel), by decide +kernel⟩
theorem ys_X6_isPatience : Cond.static yX6_isPatience ∈ aw := aw_t 471 (by decide +kernel) (by decide +kernel)
abbrev M_X6_areTicks : vR := (RX6, cX6_areTicks, 1, some .boolean, { frames := 0, cells := 0, slots := 0, locals := 0 }, "areTicks")
theorem yk_X6_areTicks : vY M_X6_areTicks yX6_areTicks 1 := ⟨aw_t 475 (by decide +kernel) (by decide +kernel), aw_t 1 (by decide +kernel) (by decide +kernel), by decide +kernel⟩
theorem ys_X6_areTicks : Cond.static yX6_areTicks ∈ aw := aw_t 474 (by decide +kernel) (by decide +kernel)
abbrev M_X6_hasBit : vR := (RX6, cX6_hasBit, 2, some .boolean, { frames := 0, cells := 0, slots := 0, locals := 0 }, "hasBit")
theorem yk_X6_hasBit : vY M_X6_hasBit yX6_hasBit 2 := ⟨aw_t 315 (by decide +kernel) (by decide +kernel), aw_t 1 (by decide +kernel) (by decide +kernel), by decide +kernel⟩
theorem ys_X6_hasBit : Cond.static yX6_hasBit ∈ aw := aw_t 314 (by decide +kernel) (by decide +kernel)
abbrev M_X7_init : vR := (RX7, cX7_init, 1, none, { frames := 1, cells := 7, slots := 36348, locals := 21 }, "<init>")
theorem yk_X7_init : vY M_X7_init yX7_init 0 := ⟨aw_t 866 (by decide +kernel) (by decide +kernel), aw_t 8 (by decide +kernel) (by decide +kernel), by decide +kernel⟩
theorem yi_X7_init : Cond.instanceMethod yX7_init ∈ aw := aw_t 865 (by decide +kernel) (by decide +kernel)
abbrev M_X7_thrown : vR := (RX7, cX7_thrown, 1, some .int, { frames := 0, cells := 0, slots := 0, locals := 0 }, "thrown")
theorem yk_X7_thrown : vY M_X7_thrown yX7_thrown 0 := ⟨aw_t 911 (by decide +kernel) (by decide +kernel), aw_t 8 (by decide +kernel) (by decide +kernel), by decide +kernel⟩
theorem yv_X7_thrown : vYV yX7_thrown := ⟨aw_t 909 (by decide +kernel) (by decide +kernel), aw_t 910 (by decide +kernel) (by decide +kernel)⟩
abbrev M_X7_refused : vR := (RX7, cX7_refused, 2, some .boolean, { frames := 0, cells := 0, slots := 0, locals := 0 }, "refused")
theorem yk_X7_refused : vY M_X7_refused yX7_refused 1 := ⟨aw_t 923 (by decide +kernel) (by decide +kernel), aw_t 8 (by decide +kernel) (by decide +kernel), by decide +kernel⟩
theorem yv_X7_refused : vYV yX7_refused := ⟨aw_t 922 (by decide +kernel) (by decide +kernel), aw_s (by decide +kernel) (by decide +kernel)⟩
abbrev M_X7_in : vR := (RX7, cX7_in, 6, some .boolean, { frames := 0, cells := 0, slots := 0, locals := 0 }, "in")
theorem yk_X7_in : vY M_X7_in yX7_in 3 := ⟨aw_t 919 (by decide +kernel) (by decide +kernel), aw_t 8 (by decide +kernel) (by decide +kernel), by decide +kernel⟩
theorem ys_X7_in : Cond.static yX7_in ∈ aw := aw_t 918 (by decide +kernel) (by decide +kernel)
abbrev M_X7_copyState : vR := (RX7, cX7_copyState, 5, none, { frames := 0, cells := 0, slots := 0, locals := 0 }, "copyState")
theorem yk_X7_copyState : vY M_X7_copyState yX7_copyState 4 := ⟨aw_t 1062 (by decide +kernel) (by decide +kernel), aw_t 8 (by decide +kernel) (by decide +kernel), by decide +kernel⟩
theorem ys_X7_copyState : Cond.static yX7_copyState ∈ aw := aw_t 1061 (by decide +kernel) (by decide +kernel)
abbrev M_X7_clear : vR := (RX7, cX7_clear, 2, none, { frames := 0, cells := 0, slots := 0, locals := 0 }, "clear")
theorem yk_X7_clear : vY M_X7_clear yX7_clear 1 := ⟨aw_t 870 (by decide +kernel) (by decide +kernel), aw_t 8 (by decide +kernel) (by decide +kernel), by decide +kernel⟩
theorem ys_X7_clear : Cond.static yX7_clear ∈ aw := aw_t 869 (by decide +kernel) (by decide +kernel)
abbrev M_X7_of : vR := (RX7, cX7_of, 3, some .int, { frames := 0, cells := 0, slots := 0, locals := 0 }, "of")
theorem yk_X7_of : vY M_X7_of yX7_of 3 := ⟨aw_t 967 (by decide +kernel) (by decide +kernel), aw_t 8 (by decide +kernel) (by decide +kernel), by decide +kernel⟩
theorem ys_X7_of : Cond.static yX7_of ∈ aw := aw_t 966 (by decide +kernel) (by decide +kernel)
abbrev M_X7_lay : vR := (RX7, cX7_lay, 4, none, { frames := 0, cells := 0, slots := 0, locals := 0 }, "lay")
theorem yk_X7_lay : vY M_X7_lay yX7_lay 4 := ⟨aw_t 950 (by decide +kernel) (by decide +kernel), aw_t 8 (by decide +kernel) (by decide +kernel), by decide +kernel⟩
theorem ys_X7_lay : Cond.static yX7_lay ∈ aw := aw_t 949 (by decide +kernel) (by decide +kernel)
abbrev M_X7_ofNote : vR := (RX7, cX7_ofNote, 3, some .int, { frames := 0, cells := 0, slots := 0, locals := 0 }, "ofNote")
theorem yk_X7_ofNote : vY M_X7_ofNote yX7_ofNote 3 := ⟨aw_t 982 (by decide +kernel) (by decide +kernel), aw_t 8 (by decide +kernel) (by decide +kernel), by decide +kernel⟩
theorem ys_X7_ofNote : Cond.static yX7_ofNote ∈ aw := aw_t 981 (by decide +kernel) (by decide +kernel)
abbrev M_X7_isMember : vR := (RX7, cX7_isMember, 2, some .boolean, { frames := 1, cells := 0, slots := 0, locals := 25 }, "isMember")
theorem yk_X7_isMember : vY M_X7_isMember yX7_isMember 2 := ⟨aw_t 964 (by decide +kernel) (by decide +kernel), aw_t 8 (by decide +kernel) (by decide +kernel), by decide +kernel⟩
theorem ys_X7_isMember : Cond.static yX7_isMember ∈ aw := aw_t 963 (by decide +kernel) (by decide +kernel)
abbrev M_X7_has : vR := (RX7, cX7_has, 2, some .boolean, { frames := 0, cells := 0, slots := 0, locals := 0 }, "has")
theorem yk_X7_has : vY M_X7_has yX7_has 2 := ⟨aw_t 973 (by decide +kernel) (by decide +kernel), aw_t 8 (by decide +kernel) (by decide +kernel), by decide +kernel⟩
theorem ys_X7_has : Cond.static yX7_has ∈ aw := aw_t 972 (by decide +kernel) (by decide +kernel)
abbrev M_X7_bits : vR := (RX7, cX7_bits, 3, some .int, { frames := 0, cells := 0, slots := 0, locals := 0 }, "bits")
theorem yk_X7_bits : vY M_X7_bits yX7_bits 1 := ⟨aw_t 1018 (by decide +kernel) (by decide +kernel), aw_t 8 (by decide +kernel) (by decide +kernel), by decide +kernel⟩
theorem ys_X7_bits : Cond.static yX7_bits ∈ aw := aw_t 1017 (by decide +kernel) (by decide +kernel)
abbrev M_X7_isOneRoll : vR := (RX7, cX7_isOneRoll, 3, some .boolean, { frames := 1, cells := 0, slots := 0, locals := 22 }, "isOneRoll")
theorem yk_X7_isOneRoll : vY M_X7_isOneRoll yX7_isOneRoll 3 := ⟨aw_t 1156 (by decide +kernel) (by decide +kernel), aw_t 8 (by decide +kernel) (by decide +kernel), by decide +kernel⟩
theorem ys_X7_isOneRoll : Cond.static yX7_isOneRoll ∈ aw := aw_t 1155 (by decide +kernel) (by decide +kernel)
abbrev M_X7_isSet : vR := (RX7, cX7_isSet, 3, some .boolean, { frames := 1, cells := 0, slots := 0, locals := 25 }, "isSet")
theorem yk_X7_isSet : vY M_X7_isSet yX7_isSet 3 := ⟨aw_t 988 (by decide +kernel) (by decide +kernel), aw_t 8 (by decide +kernel) (by decide +kernel), by decide +kernel⟩
theorem ys_X7_isSet : Cond.static yX7_isSet ∈ aw := aw_t 987 (by decide +kernel) (by decide +kernel)
abbrev M_X7_far : vR := (RX7, cX7_far, 4, some .int, { frames := 1, cells := 0, slots := 0, locals := 22 }, "far")
theorem yk_X7_far : vY M_X7_far yX7_far 3 := ⟨aw_t 979 (by decide +kernel) (by decide +kernel), aw_t 8 (by decide +kernel) (by decide +kernel), by decide +kernel⟩
theorem ys_X7_far : Cond.static yX7_far ∈ aw := aw_t 978 (by decide +kernel) (by decide +kernel)
abbrev M_X7_send : vR := (RX7, cX7_send, 10, none, { frames := 2, cells := 0, slots := 0, locals := 45 }, "send")
theorem yk_X7_send : vY M_X7_send yX7_send 7 := ⟨aw_t 976 (by decide +kernel) (by decide +kernel), aw_t 8 (by decide +kernel) (by decide +kernel), by decide +kernel⟩
theorem ys_X7_send : Cond.static yX7_send ∈ aw := aw_t 975 (by decide +kernel) (by decide +kernel)
abbrev M_X7_takeFirst : vR := (RX7, cX7_takeFirst, 3, none, { frames := 0, cells := 0, slots := 0, locals := 0 }, "takeFirst")
theorem yk_X7_takeFirst : vY M_X7_takeFirst yX7_takeFirst 1 := ⟨aw_t 1043 (by decide +kernel) (by decide +kernel), aw_t 8 (by decide +kernel) (by decide +kernel), by decide +kernel⟩
theorem yv_X7_takeFirst : vYV yX7_takeFirst := ⟨aw_t 1042 (by decide +kernel) (by decide +kernel), aw_s (by decide +kernel) (by decide +kernel)⟩
abbrev M_X7_over : vR := (RX7, cX7_over, 5, none, { frames := 0, cells := 0, slots := 0, locals := 0 }, "over")
theorem yk_X7_over : vY M_X7_over yX7_over 3 := ⟨aw_t 1006 (by decide +kernel) (by decide +kernel), aw_t 8 (by decide +kernel) (by decide +kernel), by decide +kernel⟩
theorem ys_X7_over : Cond.static yX7_over ∈ aw := aw_t 1005 (by decide +kernel) (by decide +kernel)
abbrev M_X7_enter : vR := (RX7, cX7_enter, 5, none, { frames := 1, cells := 0, slots := 0, locals := 23 }, "enter")
theorem yk_X7_enter : vY M_X7_enter yX7_enter 5 := ⟨aw_t 1009 (by decide +kernel) (by decide +kernel), aw_t 8 (by decide +kernel) (by decide +kernel), by decide +kernel⟩
theorem ys_X7_enter : Cond.static yX7_enter ∈ aw := aw_t 1008 (by decide +kernel) (by decide +kernel)
abbrev M_X7_callsNone : vR := (RX7, cX7_callsNone, 2, none, { frames := 1, cells := 0, slots := 0, locals := 23 }, "callsNone")
theorem yk_X7_callsNone : vY M_X7_callsNone yX7_callsNone 2 := ⟨aw_t 1012 (by decide +kernel) (by decide +kernel), aw_t 8 (by decide +kernel) (by decide +kernel), by decide +kernel⟩
theorem ys_X7_callsNone : Cond.static yX7_callsNone ∈ aw := aw_t 1011 (by decide +kernel) (by decide +kernel)
abbrev M_X7_told : vR := (RX7, cX7_told, 11, none, { frames := 2, cells := 0, slots := 0, locals := 47 }, "told")
theorem yk_X7_told : vY M_X7_told yX7_told 6 := ⟨aw_t 1003 (by decide +kernel) (by decide +kernel), aw_t 8 (by decide +kernel) (by decide +kernel), by decide +kernel⟩
theorem ys_X7_told : Cond.static yX7_told ∈ aw := aw_t 1002 (by decide +kernel) (by decide +kernel)
abbrev M_X7_heardBy : vR := (RX7, cX7_heardBy, 7, some .int, { frames := 1, cells := 0, slots := 0, locals := 22 }, "heardBy")
theorem yk_X7_heardBy : vY M_X7_heardBy yX7_heardBy 3 := ⟨aw_t 1000 (by decide +kernel) (by decide +kernel), aw_t 8 (by decide +kernel) (by decide +kernel), by decide +kernel⟩
theorem ys_X7_heardBy : Cond.static yX7_heardBy ∈ aw := aw_t 999 (by decide +kernel) (by decide +kernel)
abbrev M_X7_answers : vR := (RX7, cX7_answers, 7, none, { frames := 4, cells := 0, slots := 0, locals := 101 }, "answers")
theorem yk_X7_answers : vY M_X7_answers yX7_answers 6 := ⟨aw_t 994 (by decide +kernel) (by decide +kernel), aw_t 8 (by decide +kernel) (by decide +kernel), by decide +kernel⟩
theorem ys_X7_answers : Cond.static yX7_answers ∈ aw := aw_t 993 (by decide +kernel) (by decide +kernel)
abbrev M_X7_stands : vR := (RX7, cX7_stands, 5, none, { frames := 3, cells := 0, slots := 0, locals := 77 }, "stands")
theorem yk_X7_stands : vY M_X7_stands yX7_stands 2 := ⟨aw_t 997 (by decide +kernel) (by decide +kernel), aw_t 8 (by decide +kernel) (by decide +kernel), by decide +kernel⟩
theorem ys_X7_stands : Cond.static yX7_stands ∈ aw := aw_t 996 (by decide +kernel) (by decide +kernel)
abbrev M_X7_callOn : vR := (RX7, cX7_callOn, 5, some .int, { frames := 5, cells := 0, slots := 0, locals := 127 }, "callOn")
theorem yk_X7_callOn : vY M_X7_callOn yX7_callOn 3 := ⟨aw_t 991 (by decide +kernel) (by decide +kernel), aw_t 8 (by decide +kernel) (by decide +kernel), by decide +kernel⟩
theorem ys_X7_callOn : Cond.static yX7_callOn ∈ aw := aw_t 990 (by decide +kernel) (by decide +kernel)
abbrev M_X7_speech : vR := (RX7, cX7_speech, 6, none, { frames := 0, cells := 0, slots := 0, locals := 0 }, "speech")
theorem yk_X7_speech : vY M_X7_speech yX7_speech 1 := ⟨aw_t 1047 (by decide +kernel) (by decide +kernel), aw_t 8 (by decide +kernel) (by decide +kernel), by decide +kernel⟩
theorem yv_X7_speech : vYV yX7_speech := ⟨aw_t 1046 (by decide +kernel) (by decide +kernel), aw_s (by decide +kernel) (by decide +kernel)⟩
abbrev M_X7_called : vR := (RX7, cX7_called, 3, none, { frames := 3, cells := 0, slots := 0, locals := 74 }, "called")
theorem yk_X7_called : vY M_X7_called yX7_called 1 := ⟨aw_t 1051 (by decide +kernel) (by decide +kernel), aw_t 8 (by decide +kernel) (by decide +kernel), by decide +kernel⟩
theorem yv_X7_called : vYV yX7_called := ⟨aw_t 1050 (by decide +kernel) (by decide +kernel), aw_s (by decide +kernel) (by decide +kernel)⟩
abbrev M_X7_replied : vR := (RX7, cX7_replied, 3, none, { frames := 5, cells := 0, slots := 0, locals := 127 }, "replied")
theorem yk_X7_replied : vY M_X7_replied yX7_replied 1 := ⟨aw_t 1055 (by decide +kernel) (by decide +kernel), aw_t 8 (by decide +kernel) (by decide +kernel), by decide +kernel⟩
theorem yv_X7_replied : vYV yX7_replied := ⟨aw_t 1054 (by decide +kernel) (by decide +kernel), aw_s (by decide +kernel) (by decide +kernel)⟩
abbrev M_X7_comes : vR := (RX7, cX7_comes, 2, none, { frames := 6, cells := 0, slots := 0, locals := 149 }, "comes")
theorem yk_X7_comes : vY M_X7_comes yX7_comes 1 := ⟨aw_t 1039 (by decide +kernel) (by decide +kernel), aw_t 8 (by decide +kernel) (by decide +kernel), by decide +kernel⟩
theorem yv_X7_comes : vYV yX7_comes := ⟨aw_t 1038 (by decide +kernel) (by decide +kernel), aw_s (by decide +kernel) (by decide +kernel)⟩
abbrev M_X7_tick : vR := (RX7, cX7_tick, 3, none, { frames := 7, cells := 0, slots := 0, locals := 170 }, "tick")
theorem yk_X7_tick : vY M_X7_tick yX7_tick 1 := ⟨aw_t 1035 (by decide +kernel) (by decide +kernel), aw_t 8 (by decide +kernel) (by decide +kernel), by decide +kernel⟩
theorem yv_X7_tick : vYV yX7_tick := ⟨aw_t 1034 (by decide +kernel) (by decide +kernel), aw_s (by decide +kernel) (by decide +kernel)⟩
abbrev M_X7_ticksOn : vR := (RX7, cX7_ticksOn, 5, some .int, { frames := 8, cells := 0, slots := 0, locals := 192 }, "ticksOn")
theorem yk_X7_ticksOn : vY M_X7_ticksOn yX7_ticksOn 2 := ⟨aw_t 1031 (by decide +kernel) (by decide +kernel), aw_t 8 (by decide +kernel) (by decide +kernel), by decide +kernel⟩
theorem yv_X7_ticksOn : vYV yX7_ticksOn := ⟨aw_t 1030 (by decide +kernel) (by decide +kernel), aw_s (by decide +kernel) (by decide +kernel)⟩
abbrev M_X7_memberOn : vR := (RX7, cX7_memberOn, 4, some .int, { frames := 1, cells := 0, slots := 0, locals := 23 }, "memberOn")
theorem yk_X7_memberOn : vY M_X7_memberOn yX7_memberOn 2 := ⟨aw_t 947 (by decide +kernel) (by decide +kernel), aw_t 8 (by decide +kernel) (by decide +kernel), by decide +kernel⟩
theorem ys_X7_memberOn : Cond.static yX7_memberOn ∈ aw := aw_t 946 (by decide +kernel) (by decide +kernel)
abbrev M_X7_canSay : vR := (RX7, cX7_canSay, 2, some .boolean, { frames := 2, cells := 0, slots := 0, locals := 46 }, "canSay")
theorem yk_X7_canSay : vY M_X7_canSay yX7_canSay 2 := ⟨aw_t 961 (by decide +kernel) (by decide +kernel), aw_t 8 (by decide +kernel) (by decide +kernel), by decide +kernel⟩
theorem ys_X7_canSay : Cond.static yX7_canSay ∈ aw := aw_t 960 (by decide +kernel) (by decide +kernel)
abbrev M_X7_sayOn : vR := (RX7, cX7_sayOn, 4, some .int, { frames := 3, cells := 0, slots := 0, locals := 74 }, "sayOn")
theorem yk_X7_sayOn : vY M_X7_sayOn yX7_sayOn 2 := ⟨aw_t 970 (by decide +kernel) (by decide +kernel), aw_t 8 (by decide +kernel) (by decide +kernel), by decide +kernel⟩
theorem ys_X7_sayOn : Cond.static yX7_sayOn ∈ aw := aw_t 969 (by decide +kernel) (by decide +kernel)
abbrev M_X7_canCall : vR := (RX7, cX7_canCall, 3, some .boolean, { frames := 2, cells := 0, slots := 0, locals := 47 }, "canCall")
theorem yk_X7_canCall : vY M_X7_canCall yX7_canCall 3 := ⟨aw_t 985 (by decide +kernel) (by decide +kernel), aw_t 8 (by decide +kernel) (by decide +kernel), by decide +kernel⟩
theorem ys_X7_canCall : Cond.static yX7_canCall ∈ aw := aw_t 984 (by decide +kernel) (by decide +kernel)
abbrev M_X7_cutOn : vR := (RX7, cX7_cutOn, 6, some .int, { frames := 1, cells := 0, slots := 0, locals := 22 }, "cutOn")
theorem yk_X7_cutOn : vY M_X7_cutOn yX7_cutOn 4 := ⟨aw_t 1015 (by decide +kernel) (by decide +kernel), aw_t 8 (by decide +kernel) (by decide +kernel), by decide +kernel⟩
theorem ys_X7_cutOn : Cond.static yX7_cutOn ∈ aw := aw_t 1014 (by decide +kernel) (by decide +kernel)
abbrev M_X7_isGone : vR := (RX7, cX7_isGone, 2, some .boolean, { frames := 2, cells := 0, slots := 0, locals := 46 }, "isGone")
theorem yk_X7_isGone : vY M_X7_isGone yX7_isGone 2 := ⟨aw_t 1021 (by decide +kernel) (by decide +kernel), aw_t 8 (by decide +kernel) (by decide +kernel), by decide +kernel⟩
theorem ys_X7_isGone : Cond.static yX7_isGone ∈ aw := aw_t 1020 (by decide +kernel) (by decide +kernel)
abbrev M_X7_leaveOn : vR := (RX7, cX7_leaveOn, 2, some .int, { frames := 2, cells := 0, slots := 0, locals := 44 }, "leaveOn")
theorem yk_X7_leaveOn : vY M_X7_leaveOn yX7_leaveOn 2 := ⟨aw_t 1024 (by decide +kernel) (by decide +kernel), aw_t 8 (by decide +kernel) (by decide +kernel), by decide +kernel⟩
theorem ys_X7_leaveOn : Cond.static yX7_leaveOn ∈ aw := aw_t 1023 (by decide +kernel) (by decide +kernel)
abbrev M_X7_backOn : vR := (RX7, cX7_backOn, 3, some .int, { frames := 2, cells := 0, slots := 0, locals := 47 }, "backOn")
theorem yk_X7_backOn : vY M_X7_backOn yX7_backOn 2 := ⟨aw_t 1027 (by decide +kernel) (by decide +kernel), aw_t 8 (by decide +kernel) (by decide +kernel), by decide +kernel⟩
theorem ys_X7_backOn : Cond.static yX7_backOn ∈ aw := aw_t 1026 (by decide +kernel) (by decide +kernel)
abbrev M_X7_append : vR := (RX7, cX7_append, 2, some .int, { frames := 1, cells := 0, slots := 0, locals := 25 }, "append")
theorem yk_X7_append : vY M_X7_append yX7_append 1 := ⟨aw_t 915 (by decide +kernel) (by decide +kernel), aw_t 8 (by decide +kernel) (by decide +kernel), by decide +kernel⟩
theorem yv_X7_append : vYV yX7_append := ⟨aw_t 913 (by decide +kernel) (by decide +kernel), aw_t 914 (by decide +kernel) (by decide +kernel)⟩
abbrev M_X7_clearText : vR := (RX7, cX7_clearText, 2, some .int, { frames := 0, cells := 0, slots := 0, locals := 0 }, "clearText")
theorem yk_X7_clearText : vY M_X7_clearText yX7_clearText 0 := ⟨aw_t 927 (by decide +kernel) (by decide +kernel), aw_t 8 (by decide +kernel) (by decide +kernel), by decide +kernel⟩
theorem yv_X7_clearText : vYV yX7_clearText := ⟨aw_t 925 (by decide +kernel) (by decide +kernel), aw_t 926 (by decide +kernel) (by decide +kernel)⟩
abbrev M_X7_figures : vR := (RX7, cX7_figures, 9, some .int, { frames := 1, cells := 0, slots := 0, locals := 25 }, "figures")
theorem yk_X7_figures : vY M_X7_figures yX7_figures 4 := ⟨aw_t 943 (by decide +kernel) (by decide +kernel), aw_t 8 (by decide +kernel) (by decide +kernel), by decide +kernel⟩
theorem yv_X7_figures : vYV yX7_figures := ⟨aw_t 942 (by decide +kernel) (by decide +kernel), aw_s (by decide +kernel) (by decide +kernel)⟩
abbrev M_X7_done : vR := (RX7, cX7_done, 2, some .boolean, { frames := 0, cells := 0, slots := 0, locals := 0 }, "done")
theorem yk_X7_done : vY M_X7_done yX7_done 1 := ⟨aw_t 954 (by decide +kernel) (by decide +kernel), aw_t 8 (by decide +kernel) (by decide +kernel), by decide +kernel⟩
theorem yv_X7_done : vYV yX7_done := ⟨aw_t 953 (by decide +kernel) (by decide +kernel), aw_s (by decide +kernel) (by decide +kernel)⟩
abbrev M_X7_who : vR := (RX7, cX7_who, 2, some .int, { frames := 2, cells := 0, slots := 0, locals := 53 }, "who")
theorem yk_X7_who : vY M_X7_who yX7_who 1 := ⟨aw_t 958 (by decide +kernel) (by decide +kernel), aw_t 8 (by decide +kernel) (by decide +kernel), by decide +kernel⟩
theorem yv_X7_who : vYV yX7_who := ⟨aw_t 957 (by decide +kernel) (by decide +kernel), aw_s (by decide +kernel) (by decide +kernel)⟩
abbrev M_X7_readCommand : vR := (RX7, cX7_readCommand, 5, some .boolean, { frames := 9, cells := 0, slots := 0, locals := 216 }, "readCommand")
theorem yk_X7_readCommand : vY M_X7_readCommand yX7_readCommand 1 := ⟨aw_t 939 (by decide +kernel) (by decide +kernel), aw_t 8 (by decide +kernel) (by decide +kernel), by decide +kernel⟩
theorem yv_X7_readCommand : vYV yX7_readCommand := ⟨aw_t 938 (by decide +kernel) (by decide +kernel), aw_s (by decide +kernel) (by decide +kernel)⟩
abbrev M_X7_readText : vR := (RX7, cX7_readText, 2, some .int, { frames := 10, cells := 0, slots := 0, locals := 240 }, "readText")
theorem yk_X7_readText : vY M_X7_readText yX7_readText 1 := ⟨aw_t 935 (by decide +kernel) (by decide +kernel), aw_t 8 (by decide +kernel) (by decide +kernel), by decide +kernel⟩
theorem yv_X7_readText : vYV yX7_readText := ⟨aw_t 934 (by decide +kernel) (by decide +kernel), aw_s (by decide +kernel) (by decide +kernel)⟩
abbrev M_X7_errorPosition : vR := (RX7, cX7_errorPosition, 1, some .int, { frames := 11, cells := 0, slots := 0, locals := 261 }, "errorPosition")
theorem yk_X7_errorPosition : vY M_X7_errorPosition yX7_errorPosition 0 := ⟨aw_t 931 (by decide +kernel) (by decide +kernel), aw_t 8 (by decide +kernel) (by decide +kernel), by decide +kernel⟩
theorem yv_X7_errorPosition : vYV yX7_errorPosition := ⟨aw_t 929 (by decide +kernel) (by decide +kernel), aw_t 930 (by decide +kernel) (by decide +kernel)⟩
abbrev M_X7_load : vR := (RX7, cX7_load, 1, some .int, { frames := 11, cells := 0, slots := 0, locals := 261 }, "load")
theorem yk_X7_load : vY M_X7_load yX7_load 0 := ⟨aw_t 1059 (by decide +kernel) (by decide +kernel), aw_t 8 (by decide +kernel) (by decide +kernel), by decide +kernel⟩
theorem yv_X7_load : vYV yX7_load := ⟨aw_t 1057 (by decide +kernel) (by decide +kernel), aw_t 1058 (by decide +kernel) (by decide +kernel)⟩
abbrev M_X7_thoseWho : vR := (RX7, cX7_thoseWho, 4, some .int, { frames := 1, cells := 0, slots := 0, locals := 22 }, "thoseWho")
theorem yk_X7_thoseWho : vY M_X7_thoseWho yX7_thoseWho 2 := ⟨aw_t 1069 (by decide +kernel) (by decide +kernel), aw_t 8 (by decide +kernel) (by decide +kernel), by decide +kernel⟩
theorem ys_X7_thoseWho : Cond.static yX7_thoseWho ∈ aw := aw_t 1068 (by decide +kernel) (by decide +kernel)
abbrev M_X7_about : vR := (RX7, cX7_about, 2, some .int, { frames := 2, cells := 0, slots := 0, locals := 45 }, "about")
theorem yk_X7_about : vY M_X7_about yX7_about 1 := ⟨aw_t 1066 (by decide +kernel) (by decide +kernel), aw_t 8 (by decide +kernel) (by decide +kernel), by decide +kernel⟩
theorem yv_X7_about : vYV yX7_about := ⟨aw_t 1064 (by decide +kernel) (by decide +kernel), aw_t 1065 (by decide +kernel) (by decide +kernel)⟩
abbrev M_X7_memberOf : vR := (RX7, cX7_memberOf, 3, some .int, { frames := 2, cells := 0, slots := 0, locals := 46 }, "memberOf")
theorem yk_X7_memberOf : vY M_X7_memberOf yX7_memberOf 2 := ⟨aw_t 1073 (by decide +kernel) (by decide +kernel), aw_t 8 (by decide +kernel) (by decide +kernel), by decide +kernel⟩
theorem yv_X7_memberOf : vYV yX7_memberOf := ⟨aw_t 1071 (by decide +kernel) (by decide +kernel), aw_t 1072 (by decide +kernel) (by decide +kernel)⟩
abbrev M_X7_session : vR := (RX7, cX7_session, 5, some .int, { frames := 2, cells := 0, slots := 0, locals := 46 }, "session")
theorem yk_X7_session : vY M_X7_session yX7_session 3 := ⟨aw_t 1078 (by decide +kernel) (by decide +kernel), aw_t 8 (by decide +kernel) (by decide +kernel), by decide +kernel⟩
theorem yv_X7_session : vYV yX7_session := ⟨aw_t 1076 (by decide +kernel) (by decide +kernel), aw_t 1077 (by decide +kernel) (by decide +kernel)⟩
abbrev M_X7_note : vR := (RX7, cX7_note, 3, some .int, { frames := 1, cells := 0, slots := 0, locals := 25 }, "note")
theorem yk_X7_note : vY M_X7_note yX7_note 2 := ⟨aw_t 1083 (by decide +kernel) (by decide +kernel), aw_t 8 (by decide +kernel) (by decide +kernel), by decide +kernel⟩
theorem yv_X7_note : vYV yX7_note := ⟨aw_t 1081 (by decide +kernel) (by decide +kernel), aw_t 1082 (by decide +kernel) (by decide +kernel)⟩
abbrev M_X7_isCut : vR := (RX7, cX7_isCut, 3, some .int, { frames := 2, cells := 0, slots := 0, locals := 46 }, "isCut")
theorem yk_X7_isCut : vY M_X7_isCut yX7_isCut 2 := ⟨aw_t 1088 (by decide +kernel) (by decide +kernel), aw_t 8 (by decide +kernel) (by decide +kernel), by decide +kernel⟩
theorem yv_X7_isCut : vYV yX7_isCut := ⟨aw_t 1086 (by decide +kernel) (by decide +kernel), aw_t 1087 (by decide +kernel) (by decide +kernel)⟩
abbrev M_X7_remember : vR := (RX7, cX7_remember, 2, none, { frames := 1, cells := 0, slots := 0, locals := 24 }, "remember")
theorem yk_X7_remember : vY M_X7_remember yX7_remember 0 := ⟨aw_t 1096 (by decide +kernel) (by decide +kernel), aw_t 8 (by decide +kernel) (by decide +kernel), by decide +kernel⟩
theorem yv_X7_remember : vYV yX7_remember := ⟨aw_t 1095 (by decide +kernel) (by decide +kernel), aw_s (by decide +kernel) (by decide +kernel)⟩
abbrev M_X7_member : vR := (RX7, cX7_member, 2, some .int, { frames := 2, cells := 0, slots := 0, locals := 46 }, "member")
theorem yk_X7_member : vY M_X7_member yX7_member 1 := ⟨aw_t 1092 (by decide +kernel) (by decide +kernel), aw_t 8 (by decide +kernel) (by decide +kernel), by decide +kernel⟩
theorem yv_X7_member : vYV yX7_member := ⟨aw_t 1090 (by decide +kernel) (by decide +kernel), aw_t 1091 (by decide +kernel) (by decide +kernel)⟩
abbrev M_X7_say : vR := (RX7, cX7_say, 2, some .int, { frames := 4, cells := 0, slots := 0, locals := 97 }, "say")
theorem yk_X7_say : vY M_X7_say yX7_say 1 := ⟨aw_t 1100 (by decide +kernel) (by decide +kernel), aw_t 8 (by decide +kernel) (by decide +kernel), by decide +kernel⟩
theorem yv_X7_say : vYV yX7_say := ⟨aw_t 1098 (by decide +kernel) (by decide +kernel), aw_t 1099 (by decide +kernel) (by decide +kernel)⟩
abbrev M_X7_call : vR := (RX7, cX7_call, 3, some .int, { frames := 6, cells := 0, slots := 0, locals := 151 }, "call")
theorem yk_X7_call : vY M_X7_call yX7_call 2 := ⟨aw_t 1104 (by decide +kernel) (by decide +kernel), aw_t 8 (by decide +kernel) (by decide +kernel), by decide +kernel⟩
theorem yv_X7_call : vYV yX7_call := ⟨aw_t 1102 (by decide +kernel) (by decide +kernel), aw_t 1103 (by decide +kernel) (by decide +kernel)⟩
abbrev M_X7_cut : vR := (RX7, cX7_cut, 4, some .int, { frames := 2, cells := 0, slots := 0, locals := 47 }, "cut")
theorem yk_X7_cut : vY M_X7_cut yX7_cut 3 := ⟨aw_t 1108 (by decide +kernel) (by decide +kernel), aw_t 8 (by decide +kernel) (by decide +kernel), by decide +kernel⟩
theorem yv_X7_cut : vYV yX7_cut := ⟨aw_t 1106 (by decide +kernel) (by decide +kernel), aw_t 1107 (by decide +kernel) (by decide +kernel)⟩
abbrev M_X7_leave : vR := (RX7, cX7_leave, 2, some .int, { frames := 3, cells := 0, slots := 0, locals := 67 }, "leave")
theorem yk_X7_leave : vY M_X7_leave yX7_leave 1 := ⟨aw_t 1112 (by decide +kernel) (by decide +kernel), aw_t 8 (by decide +kernel) (by decide +kernel), by decide +kernel⟩
theorem yv_X7_leave : vYV yX7_leave := ⟨aw_t 1110 (by decide +kernel) (by decide +kernel), aw_t 1111 (by decide +kernel) (by decide +kernel)⟩
abbrev M_X7_back : vR := (RX7, cX7_back, 2, some .int, { frames := 3, cells := 0, slots := 0, locals := 69 }, "back")
theorem yk_X7_back : vY M_X7_back yX7_back 1 := ⟨aw_t 1116 (by decide +kernel) (by decide +kernel), aw_t 8 (by decide +kernel) (by decide +kernel), by decide +kernel⟩
theorem yv_X7_back : vYV yX7_back := ⟨aw_t 1114 (by decide +kernel) (by decide +kernel), aw_t 1115 (by decide +kernel) (by decide +kernel)⟩
abbrev M_X7_set : vR := (RX7, cX7_set, 3, some .int, { frames := 2, cells := 0, slots := 0, locals := 45 }, "set")
theorem yk_X7_set : vY M_X7_set yX7_set 1 := ⟨aw_t 1120 (by decide +kernel) (by decide +kernel), aw_t 8 (by decide +kernel) (by decide +kernel), by decide +kernel⟩
theorem yv_X7_set : vYV yX7_set := ⟨aw_t 1118 (by decide +kernel) (by decide +kernel), aw_t 1119 (by decide +kernel) (by decide +kernel)⟩
abbrev M_X7_ticks : vR := (RX7, cX7_ticks, 2, some .int, { frames := 9, cells := 0, slots := 0, locals := 216 }, "ticks")
theorem yk_X7_ticks : vY M_X7_ticks yX7_ticks 1 := ⟨aw_t 1125 (by decide +kernel) (by decide +kernel), aw_t 8 (by decide +kernel) (by decide +kernel), by decide +kernel⟩
theorem yv_X7_ticks : vYV yX7_ticks := ⟨aw_t 1123 (by decide +kernel) (by decide +kernel), aw_t 1124 (by decide +kernel) (by decide +kernel)⟩
abbrev M_X7_undo : vR := (RX7, cX7_undo, 1, some .int, { frames := 1, cells := 0, slots := 0, locals := 24 }, "undo")
theorem yk_X7_undo : vY M_X7_undo yX7_undo 0 := ⟨aw_t 1130 (by decide +kernel) (by decide +kernel), aw_t 8 (by decide +kernel) (by decide +kernel), by decide +kernel⟩
theorem yv_X7_undo : vYV yX7_undo := ⟨aw_t 1128 (by decide +kernel) (by decide +kernel), aw_t 1129 (by decide +kernel) (by decide +kernel)⟩
abbrev M_X7_isThere : vR := (RX7, cX7_isThere, 8, some .boolean, { frames := 1, cells := 0, slots := 0, locals := 22 }, "isThere")
theorem yk_X7_isThere : vY M_X7_isThere yX7_isThere 4 := ⟨aw_t 1142 (by decide +kernel) (by decide +kernel), aw_t 8 (by decide +kernel) (by decide +kernel), by decide +kernel⟩
theorem yv_X7_isThere : vYV yX7_isThere := ⟨aw_t 1141 (by decide +kernel) (by decide +kernel), aw_s (by decide +kernel) (by decide +kernel)⟩
abbrev M_X7_standsIn : vR := (RX7, cX7_standsIn, 8, some .int, { frames := 8, cells := 0, slots := 0, locals := 192 }, "standsIn")
theorem yk_X7_standsIn : vY M_X7_standsIn yX7_standsIn 3 := ⟨aw_t 1134 (by decide +kernel) (by decide +kernel), aw_t 8 (by decide +kernel) (by decide +kernel), by decide +kernel⟩
theorem yv_X7_standsIn : vYV yX7_standsIn := ⟨aw_t 1132 (by decide +kernel) (by decide +kernel), aw_t 1133 (by decide +kernel) (by decide +kernel)⟩
abbrev M_X7_standsNow : vR := (RX7, cX7_standsNow, 3, some .boolean, { frames := 1, cells := 0, slots := 0, locals := 22 }, "standsNow")
theorem yk_X7_standsNow : vY M_X7_standsNow yX7_standsNow 2 := ⟨aw_t 1138 (by decide +kernel) (by decide +kernel), aw_t 8 (by decide +kernel) (by decide +kernel), by decide +kernel⟩
theorem yv_X7_standsNow : vYV yX7_standsNow := ⟨aw_t 1137 (by decide +kernel) (by decide +kernel), aw_s (by decide +kernel) (by decide +kernel)⟩
abbrev M_X7_compare : vR := (RX7, cX7_compare, 4, some .int, { frames := 2, cells := 0, slots := 0, locals := 49 }, "compare")
theorem yk_X7_compare : vY M_X7_compare yX7_compare 3 := ⟨aw_t 1146 (by decide +kernel) (by decide +kernel), aw_t 8 (by decide +kernel) (by decide +kernel), by decide +kernel⟩
theorem yv_X7_compare : vYV yX7_compare := ⟨aw_t 1144 (by decide +kernel) (by decide +kernel), aw_t 1145 (by decide +kernel) (by decide +kernel)⟩
abbrev M_X7_compared : vR := (RX7, cX7_compared, 8, some .int, { frames := 1, cells := 0, slots := 0, locals := 22 }, "compared")
theorem yk_X7_compared : vY M_X7_compared yX7_compared 4 := ⟨aw_t 1149 (by decide +kernel) (by decide +kernel), aw_t 8 (by decide +kernel) (by decide +kernel), by decide +kernel⟩
theorem ys_X7_compared : Cond.static yX7_compared ∈ aw := aw_t 1148 (by decide +kernel) (by decide +kernel)
abbrev M_X7_lacks : vR := (RX7, cX7_lacks, 4, some .int, { frames := 2, cells := 0, slots := 0, locals := 46 }, "lacks")
theorem yk_X7_lacks : vY M_X7_lacks yX7_lacks 1 := ⟨aw_t 1153 (by decide +kernel) (by decide +kernel), aw_t 8 (by decide +kernel) (by decide +kernel), by decide +kernel⟩
theorem yv_X7_lacks : vYV yX7_lacks := ⟨aw_t 1151 (by decide +kernel) (by decide +kernel), aw_t 1152 (by decide +kernel) (by decide +kernel)⟩
abbrev M_X7_together : vR := (RX7, cX7_together, 5, some .int, { frames := 3, cells := 0, slots := 0, locals := 67 }, "together")
theorem yk_X7_together : vY M_X7_together yX7_together 0 := ⟨aw_t 1160 (by decide +kernel) (by decide +kernel), aw_t 8 (by decide +kernel) (by decide +kernel), by decide +kernel⟩
theorem yv_X7_together : vYV yX7_together := ⟨aw_t 1158 (by decide +kernel) (by decide +kernel), aw_t 1159 (by decide +kernel) (by decide +kernel)⟩
abbrev M_X7_command : vR := (RX7, cX7_command, 9, some .boolean, { frames := 9, cells := 0, slots := 0, locals := 216 }, "command")
theorem yk_X7_command : vY M_X7_command yX7_command 2 := ⟨aw_t 1170 (by decide +kernel) (by decide +kernel), aw_t 8 (by decide +kernel) (by decide +kernel), by decide +kernel⟩
theorem yv_X7_command : vYV yX7_command := ⟨aw_t 1169 (by decide +kernel) (by decide +kernel), aw_s (by decide +kernel) (by decide +kernel)⟩
abbrev M_X7_runScript : vR := (RX7, cX7_runScript, 8, some .int, { frames := 10, cells := 0, slots := 0, locals := 244 }, "runScript")
theorem yk_X7_runScript : vY M_X7_runScript yX7_runScript 2 := ⟨aw_t 1164 (by decide +kernel) (by decide +kernel), aw_t 8 (by decide +kernel) (by decide +kernel), by decide +kernel⟩
theorem yv_X7_runScript : vYV yX7_runScript := ⟨aw_t 1162 (by decide +kernel) (by decide +kernel), aw_t 1163 (by decide +kernel) (by decide +kernel)⟩
abbrev M_X7_turn : vR := (RX7, cX7_turn, 6, none, { frames := 9, cells := 0, slots := 0, locals := 216 }, "turn")
theorem yk_X7_turn : vY M_X7_turn yX7_turn 1 := ⟨aw_t 1180 (by decide +kernel) (by decide +kernel), aw_t 8 (by decide +kernel) (by decide +kernel), by decide +kernel⟩
theorem yv_X7_turn : vYV yX7_turn := ⟨aw_t 1179 (by decide +kernel) (by decide +kernel), aw_s (by decide +kernel) (by decide +kernel)⟩
abbrev M_X7_turnGoing : vR := (RX7, cX7_turnGoing, 3, none, { frames := 3, cells := 0, slots := 0, locals := 69 }, "turnGoing")
theorem yk_X7_turnGoing : vY M_X7_turnGoing yX7_turnGoing 2 := ⟨aw_t 1184 (by decide +kernel) (by decide +kernel), aw_t 8 (by decide +kernel) (by decide +kernel), by decide +kernel⟩
theorem yv_X7_turnGoing : vYV yX7_turnGoing := ⟨aw_t 1183 (by decide +kernel) (by decide +kernel), aw_s (by decide +kernel) (by decide +kernel)⟩
abbrev M_X7_simulate : vR := (RX7, cX7_simulate, 7, some .int, { frames := 10, cells := 0, slots := 0, locals := 241 }, "simulate")
theorem yk_X7_simulate : vY M_X7_simulate yX7_simulate 2 := ⟨aw_t 1174 (by decide +kernel) (by decide +kernel), aw_t 8 (by decide +kernel) (by decide +kernel), by decide +kernel⟩
theorem yv_X7_simulate : vYV yX7_simulate := ⟨aw_t 1172 (by decide +kernel) (by decide +kernel), aw_t 1173 (by decide +kernel) (by decide +kernel)⟩
abbrev M_X7_save : vR := (RX7, cX7_save, 2, some .int, { frames := 1, cells := 0, slots := 0, locals := 25 }, "save")
theorem yk_X7_save : vY M_X7_save yX7_save 1 := ⟨aw_t 1188 (by decide +kernel) (by decide +kernel), aw_t 8 (by decide +kernel) (by decide +kernel), by decide +kernel⟩
theorem yv_X7_save : vYV yX7_save := ⟨aw_t 1186 (by decide +kernel) (by decide +kernel), aw_t 1187 (by decide +kernel) (by decide +kernel)⟩
abbrev M_X7_restore : vR := (RX7, cX7_restore, 2, some .int, { frames := 1, cells := 0, slots := 0, locals := 25 }, "restore")
theorem yk_X7_restore : vY M_X7_restore yX7_restore 1 := ⟨aw_t 1192 (by decide +kernel) (by decide +kernel), aw_t 8 (by decide +kernel) (by decide +kernel), by decide +kernel⟩
theorem yv_X7_restore : vYV yX7_restore := ⟨aw_t 1190 (by decide +kernel) (by decide +kernel), aw_t 1191 (by decide +kernel) (by decide +kernel)⟩
abbrev M_L_append : vR := (RL, cL_append, 4, some .int, { frames := 7, cells := 4, slots := 24, locals := 111 }, "append")
theorem ys_L_append : Cond.static yL_append ∈ aw := aw_t 323 (by decide +kernel) (by decide +kernel)
abbrev M_L_load : vR := (RL, cL_load, 3, some .int, { frames := 7, cells := 4, slots := 24, locals := 187 }, "load")
theorem ys_L_load : Cond.static yL_load ∈ aw := aw_t 420 (by decide +kernel) (by decide +kernel)
abbrev M_L_about : vR := (RL, cL_about, 4, some .int, { frames := 7, cells := 4, slots := 24, locals := 111 }, "about")
theorem ys_L_about : Cond.static yL_about ∈ aw := aw_t 613 (by decide +kernel) (by decide +kernel)
abbrev M_L_memberOf : vR := (RL, cL_memberOf, 5, some .int, { frames := 8, cells := 4, slots := 24, locals := 134 }, "memberOf")
theorem ys_L_memberOf : Cond.static yL_memberOf ∈ aw := aw_t 625 (by decide +kernel) (by decide +kernel)
abbrev M_L_session : vR := (RL, cL_session, 6, some .int, { frames := 8, cells := 4, slots := 24, locals := 135 }, "session")
theorem ys_L_session : Cond.static yL_session ∈ aw := aw_t 655 (by decide +kernel) (by decide +kernel)
abbrev M_L_note : vR := (RL, cL_note, 5, some .int, { frames := 7, cells := 4, slots := 24, locals := 112 }, "note")
theorem ys_L_note : Cond.static yL_note ∈ aw := aw_t 664 (by decide +kernel) (by decide +kernel)
abbrev M_L_isCut : vR := (RL, cL_isCut, 5, some .int, { frames := 8, cells := 4, slots := 24, locals := 133 }, "isCut")
theorem ys_L_isCut : Cond.static yL_isCut ∈ aw := aw_t 673 (by decide +kernel) (by decide +kernel)
abbrev M_L_member : vR := (RL, cL_member, 4, some .int, { frames := 7, cells := 4, slots := 24, locals := 147 }, "member")
theorem ys_L_member : Cond.static yL_member ∈ aw := aw_t 681 (by decide +kernel) (by decide +kernel)
abbrev M_L_say : vR := (RL, cL_say, 4, some .int, { frames := 8, cells := 4, slots := 24, locals := 147 }, "say")
theorem ys_L_say : Cond.static yL_say ∈ aw := aw_t 698 (by decide +kernel) (by decide +kernel)
abbrev M_L_call : vR := (RL, cL_call, 5, some .int, { frames := 8, cells := 4, slots := 24, locals := 148 }, "call")
theorem ys_L_call : Cond.static yL_call ∈ aw := aw_t 708 (by decide +kernel) (by decide +kernel)
abbrev M_L_cut : vR := (RL, cL_cut, 6, some .int, { frames := 8, cells := 4, slots := 24, locals := 149 }, "cut")
theorem ys_L_cut : Cond.static yL_cut ∈ aw := aw_t 720 (by decide +kernel) (by decide +kernel)
abbrev M_L_leave : vR := (RL, cL_leave, 4, some .int, { frames := 8, cells := 4, slots := 24, locals := 147 }, "leave")
theorem ys_L_leave : Cond.static yL_leave ∈ aw := aw_t 729 (by decide +kernel) (by decide +kernel)
abbrev M_L_back : vR := (RL, cL_back, 4, some .int, { frames := 8, cells := 4, slots := 24, locals := 147 }, "back")
theorem ys_L_back : Cond.static yL_back ∈ aw := aw_t 737 (by decide +kernel) (by decide +kernel)
abbrev M_L_set : vR := (RL, cL_set, 4, some .int, { frames := 7, cells := 4, slots := 24, locals := 148 }, "set")
theorem ys_L_set : Cond.static yL_set ∈ aw := aw_t 746 (by decide +kernel) (by decide +kernel)
abbrev M_L_ticks : vR := (RL, cL_ticks, 4, some .int, { frames := 7, cells := 4, slots := 24, locals := 164 }, "ticks")
theorem ys_L_ticks : Cond.static yL_ticks ∈ aw := aw_t 755 (by decide +kernel) (by decide +kernel)
abbrev M_L_undo : vR := (RL, cL_undo, 3, some .int, { frames := 7, cells := 4, slots := 24, locals := 125 }, "undo")
theorem ys_L_undo : Cond.static yL_undo ∈ aw := aw_t 765 (by decide +kernel) (by decide +kernel)
abbrev M_L_standsIn : vR := (RL, cL_standsIn, 6, some .int, { frames := 8, cells := 4, slots := 24, locals := 167 }, "standsIn")
theorem ys_L_standsIn : Cond.static yL_standsIn ∈ aw := aw_t 777 (by decide +kernel) (by decide +kernel)
abbrev M_L_compare : vR := (RL, cL_compare, 6, some .int, { frames := 8, cells := 4, slots := 24, locals := 134 }, "compare")
theorem ys_L_compare : Cond.static yL_compare ∈ aw := aw_t 790 (by decide +kernel) (by decide +kernel)
abbrev M_L_lacks : vR := (RL, cL_lacks, 4, some .int, { frames := 8, cells := 4, slots := 24, locals := 132 }, "lacks")
theorem ys_L_lacks : Cond.static yL_lacks ∈ aw := aw_t 802 (by decide +kernel) (by decide +kernel)
abbrev M_L_runScript : vR := (RL, cL_runScript, 6, some .int, { frames := 8, cells := 4, slots := 24, locals := 217 }, "runScript")
theorem ys_L_runScript : Cond.static yL_runScript ∈ aw := aw_t 813 (by decide +kernel) (by decide +kernel)
abbrev M_L_simulate : vR := (RL, cL_simulate, 6, some .int, { frames := 8, cells := 4, slots := 24, locals := 216 }, "simulate")
theorem ys_L_simulate : Cond.static yL_simulate ∈ aw := aw_t 828 (by decide +kernel) (by decide +kernel)
abbrev M_L_save : vR := (RL, cL_save, 4, some .int, { frames := 8, cells := 4, slots := 24, locals := 131 }, "save")
theorem ys_L_save : Cond.static yL_save ∈ aw := aw_t 844 (by decide +kernel) (by decide +kernel)
abbrev M_L_restore : vR := (RL, cL_restore, 4, some .int, { frames := 8, cells := 4, slots := 24, locals := 131 }, "restore")
theorem ys_L_restore : Cond.static yL_restore ∈ aw := aw_t 855 (by decide +kernel) (by decide +kernel)
