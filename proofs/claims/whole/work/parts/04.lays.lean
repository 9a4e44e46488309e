theorem lay0_0 : ∀ k, k < 8 → u_lay RX0 TX0 (0 + k) ∈ TG := by
  intro k hk
  match k, hk with
  | 0, _ => exact k1_91
  | 1, _ => exact k1_93
  | 2, _ => exact k1_95
  | 3, _ => exact k1_97
  | 4, _ => exact k1_99
  | 5, _ => exact k1_101
  | 6, _ => exact k1_103
  | 7, _ => exact k1_105
theorem lay0 : ∀ w ∈ u_ws RX0 TX0 8, w ∈ TG := by
  intro w hw
  obtain ⟨k, hk, rfl⟩ := List.mem_map.mp hw
  have hk := List.mem_range.mp hk
  have e := lay0_0 (k - 0) (by omega)
  rwa [show 0 + (k - 0) = k by omega] at e
theorem lay1_0 : ∀ k, k < 4 → u_lay RX1 TX1 (0 + k) ∈ TG := by
  intro k hk
  match k, hk with
  | 0, _ => exact k1_193
  | 1, _ => exact k1_195
  | 2, _ => exact k1_197
  | 3, _ => exact k1_199
theorem lay1 : ∀ w ∈ u_ws RX1 TX1 4, w ∈ TG := by
  intro w hw
  obtain ⟨k, hk, rfl⟩ := List.mem_map.mp hw
  have hk := List.mem_range.mp hk
  have e := lay1_0 (k - 0) (by omega)
  rwa [show 0 + (k - 0) = k by omega] at e
theorem lay2_0 : ∀ k, k < 10 → u_lay RX2 TX2 (0 + k) ∈ TG := by
  intro k hk
  match k, hk with
  | 0, _ => exact k2_196
  | 1, _ => exact k2_198
  | 2, _ => exact k2_200
  | 3, _ => exact k2_202
  | 4, _ => exact k2_204
  | 5, _ => exact k2_206
  | 6, _ => exact k2_208
  | 7, _ => exact k2_210
  | 8, _ => exact k2_212
  | 9, _ => exact k2_214
theorem lay2 : ∀ w ∈ u_ws RX2 TX2 10, w ∈ TG := by
  intro w hw
  obtain ⟨k, hk, rfl⟩ := List.mem_map.mp hw
  have hk := List.mem_range.mp hk
  have e := lay2_0 (k - 0) (by omega)
  rwa [show 0 + (k - 0) = k by omega] at e
theorem lay3_0 : ∀ k, k < 3 → u_lay RX3 TX3 (0 + k) ∈ TG := by
  intro k hk
  match k, hk with
  | 0, _ => exact k1_63
  | 1, _ => exact k1_65
  | 2, _ => exact k1_67
theorem lay3 : ∀ w ∈ u_ws RX3 TX3 3, w ∈ TG := by
  intro w hw
  obtain ⟨k, hk, rfl⟩ := List.mem_map.mp hw
  have hk := List.mem_range.mp hk
  have e := lay3_0 (k - 0) (by omega)
  rwa [show 0 + (k - 0) = k by omega] at e
theorem lay4_0 : ∀ k, k < 10 → u_lay RX4 TX4 (0 + k) ∈ TG := by
  intro k hk
  match k, hk with
  | 0, _ => exact k1_152
  | 1, _ => exact k1_154
  | 2, _ => exact k1_156
  | 3, _ => exact k1_158
  | 4, _ => exact k1_160
  | 5, _ => exact k1_162
  | 6, _ => exact k1_164
  | 7, _ => exact k1_166
  | 8, _ => exact k1_168
  | 9, _ => exact k1_170
theorem lay4_1 : ∀ k, k < 1 → u_lay RX4 TX4 (10 + k) ∈ TG := by
  intro k hk
  match k, hk with
  | 0, _ => exact k1_172
theorem lay4 : ∀ w ∈ u_ws RX4 TX4 11, w ∈ TG := by
  intro w hw
  obtain ⟨k, hk, rfl⟩ := List.mem_map.mp hw
  have hk := List.mem_range.mp hk
  by_cases h0 : k < 10
  · have e := lay4_0 (k - 0) (by omega)
    rwa [show 0 + (k - 0) = k by omega] at e
  have e := lay4_1 (k - 10) (by omega)
  rwa [show 10 + (k - 10) = k by omega] at e
theorem lay5_0 : ∀ k, k < 5 → u_lay RX5 TX5 (0 + k) ∈ TG := by
  intro k hk
  match k, hk with
  | 0, _ => exact k1_120
  | 1, _ => exact k1_122
  | 2, _ => exact k1_124
  | 3, _ => exact k1_126
  | 4, _ => exact k1_128
theorem lay5 : ∀ w ∈ u_ws RX5 TX5 5, w ∈ TG := by
  intro w hw
  obtain ⟨k, hk, rfl⟩ := List.mem_map.mp hw
  have hk := List.mem_range.mp hk
  have e := lay5_0 (k - 0) (by omega)
  rwa [show 0 + (k - 0) = k by omega] at e
theorem lay6_0 : ∀ k, k < 8 → u_lay RX6 TX6 (0 + k) ∈ TG := by
  intro k hk
  match k, hk with
  | 0, _ => exact k2_69
  | 1, _ => exact k2_71
  | 2, _ => exact k2_73
  | 3, _ => exact k2_75
  | 4, _ => exact k2_77
  | 5, _ => exact k2_79
  | 6, _ => exact k2_81
  | 7, _ => exact k2_83
theorem lay6 : ∀ w ∈ u_ws RX6 TX6 8, w ∈ TG := by
  intro w hw
  obtain ⟨k, hk, rfl⟩ := List.mem_map.mp hw
  have hk := List.mem_range.mp hk
  have e := lay6_0 (k - 0) (by omega)
  rwa [show 0 + (k - 0) = k by omega] at e
theorem lay7_0 : ∀ k, k < 8 → u_lay RX7 TX7 (0 + k) ∈ TG := by
  intro k hk
  match k, hk with
  | 0, _ => exact k2_228
  | 1, _ => exact k2_230
  | 2, _ => exact k2_232
  | 3, _ => exact k2_234
  | 4, _ => exact k2_236
  | 5, _ => exact k2_238
  | 6, _ => exact k3_0
  | 7, _ => exact k3_2
theorem lay7 : ∀ w ∈ u_ws RX7 TX7 8, w ∈ TG := by
  intro w hw
  obtain ⟨k, hk, rfl⟩ := List.mem_map.mp hw
  have hk := List.mem_range.mp hk
  have e := lay7_0 (k - 0) (by omega)
  rwa [show 0 + (k - 0) = k by omega] at e
theorem lay8_0 : ∀ k, k < 2 → u_lay RX8 TX8 (0 + k) ∈ TG := by
  intro k hk
  match k, hk with
  | 0, _ => exact k1_39
  | 1, _ => exact k1_41
theorem lay8 : ∀ w ∈ u_ws RX8 TX8 2, w ∈ TG := by
  intro w hw
  obtain ⟨k, hk, rfl⟩ := List.mem_map.mp hw
  have hk := List.mem_range.mp hk
  have e := lay8_0 (k - 0) (by omega)
  rwa [show 0 + (k - 0) = k by omega] at e
theorem lay9_0 : ∀ k, k < 10 → u_lay RX9 TX9 (0 + k) ∈ TG := by
  intro k hk
  match k, hk with
  | 0, _ => exact k1_216
  | 1, _ => exact k1_218
  | 2, _ => exact k1_220
  | 3, _ => exact k1_222
  | 4, _ => exact k1_224
  | 5, _ => exact k1_226
  | 6, _ => exact k1_228
  | 7, _ => exact k1_230
  | 8, _ => exact k1_232
  | 9, _ => exact k1_234
theorem lay9_1 : ∀ k, k < 4 → u_lay RX9 TX9 (10 + k) ∈ TG := by
  intro k hk
  match k, hk with
  | 0, _ => exact k1_236
  | 1, _ => exact k1_238
  | 2, _ => exact k2_0
  | 3, _ => exact k2_2
theorem lay9 : ∀ w ∈ u_ws RX9 TX9 14, w ∈ TG := by
  intro w hw
  obtain ⟨k, hk, rfl⟩ := List.mem_map.mp hw
  have hk := List.mem_range.mp hk
  by_cases h0 : k < 10
  · have e := lay9_0 (k - 0) (by omega)
    rwa [show 0 + (k - 0) = k by omega] at e
  have e := lay9_1 (k - 10) (by omega)
  rwa [show 10 + (k - 10) = k by omega] at e
theorem lay10_0 : ∀ k, k < 10 → u_lay RX10 TX10 (0 + k) ∈ TG := by
  intro k hk
  match k, hk with
  | 0, _ => exact k4_216
  | 1, _ => exact k4_218
  | 2, _ => exact k4_220
  | 3, _ => exact k4_222
  | 4, _ => exact k4_224
  | 5, _ => exact k4_226
  | 6, _ => exact k4_228
  | 7, _ => exact k4_230
  | 8, _ => exact k4_232
  | 9, _ => exact k4_234
theorem lay10_1 : ∀ k, k < 10 → u_lay RX10 TX10 (10 + k) ∈ TG := by
  intro k hk
  match k, hk with
  | 0, _ => exact k4_236
  | 1, _ => exact k4_238
  | 2, _ => exact k5_0
  | 3, _ => exact k5_2
  | 4, _ => exact k5_4
  | 5, _ => exact k5_6
  | 6, _ => exact k5_8
  | 7, _ => exact k5_10
  | 8, _ => exact k5_12
  | 9, _ => exact k5_14
theorem lay10_2 : ∀ k, k < 10 → u_lay RX10 TX10 (20 + k) ∈ TG := by
  intro k hk
  match k, hk with
  | 0, _ => exact k5_16
  | 1, _ => exact k5_18
  | 2, _ => exact k5_20
  | 3, _ => exact k5_22
  | 4, _ => exact k5_24
  | 5, _ => exact k5_26
  | 6, _ => exact k5_28
  | 7, _ => exact k5_30
  | 8, _ => exact k5_32
  | 9, _ => exact k5_34
theorem lay10_3 : ∀ k, k < 10 → u_lay RX10 TX10 (30 + k) ∈ TG := by
  intro k hk
  match k, hk with
  | 0, _ => exact k5_36
  | 1, _ => exact k5_38
  | 2, _ => exact k5_40
  | 3, _ => exact k5_42
  | 4, _ => exact k5_44
  | 5, _ => exact k5_46
  | 6, _ => exact k5_48
  | 7, _ => exact k5_50
  | 8, _ => exact k5_52
  | 9, _ => exact k5_54
theorem lay10_4 : ∀ k, k < 10 → u_lay RX10 TX10 (40 + k) ∈ TG := by
  intro k hk
  match k, hk with
  | 0, _ => exact k5_56
  | 1, _ => exact k5_58
  | 2, _ => exact k5_60
  | 3, _ => exact k5_62
  | 4, _ => exact k5_64
  | 5, _ => exact k5_66
  | 6, _ => exact k5_68
  | 7, _ => exact k5_70
  | 8, _ => exact k5_72
  | 9, _ => exact k5_74
theorem lay10_5 : ∀ k, k < 3 → u_lay RX10 TX10 (50 + k) ∈ TG := by
  intro k hk
  match k, hk with
  | 0, _ => exact k5_76
  | 1, _ => exact k5_78
  | 2, _ => exact k5_80
theorem lay10 : ∀ w ∈ u_ws RX10 TX10 53, w ∈ TG := by
  intro w hw
  obtain ⟨k, hk, rfl⟩ := List.mem_map.mp hw
  have hk := List.mem_range.mp hk
  by_cases h0 : k < 10
  · have e := lay10_0 (k - 0) (by omega)
    rwa [show 0 + (k - 0) = k by omega] at e
  by_cases h1 : k < 20
  · have e := lay10_1 (k - 10) (by omega)
    rwa [show 10 + (k - 10) = k by omega] at e
  by_cases h2 : k < 30
  · have e := lay10_2 (k - 20) (by omega)
    rwa [show 20 + (k - 20) = k by omega] at e
  by_cases h3 : k < 40
  · have e := lay10_3 (k - 30) (by omega)
    rwa [show 30 + (k - 30) = k by omega] at e
  by_cases h4 : k < 50
  · have e := lay10_4 (k - 40) (by omega)
    rwa [show 40 + (k - 40) = k by omega] at e
  have e := lay10_5 (k - 50) (by omega)
  rwa [show 50 + (k - 50) = k by omega] at e
