theorem a_Mt_k {o i kd np j : Nat} (h : (a_tM.find? (fun q => q.1 == o && q.2.1 == i)).map (fun q => (q.2.2.1, q.2.2.2.1, q.2.2.2.2.1)) = some (kd, np, j)) : a_Mt o i = some (kd, np, a_m j) := by
  unfold a_Mt
  cases hf : a_tM.find? (fun q => q.1 == o && q.2.1 == i) with
  | none => rw [hf] at h; cases h
  | some q =>
    rw [hf] at h
    simp only [Option.map_some, Option.some.injEq, Prod.mk.injEq] at h
    obtain ⟨rfl, rfl, rfl⟩ := h
    rfl
theorem kF_8_9 : a_F 8 9 = some (8, 0, 0) := by decide +kernel
theorem kF_8_15 : a_F 8 15 = some (8, 1, 0) := by decide +kernel
theorem kF_8_18 : a_F 8 18 = some (8, 2, 0) := by decide +kernel
theorem kF_8_28 : a_F 8 28 = some (8, 3, 0) := by decide +kernel
theorem kF_10_190 : a_F 10 190 = some (8, 3, 0) := by decide +kernel
theorem kF_8_32 : a_F 8 32 = some (8, 4, 0) := by decide +kernel
theorem kF_10_193 : a_F 10 193 = some (8, 4, 0) := by decide +kernel
theorem kF_1_9 : a_F 1 9 = some (1, 0, 0) := by decide +kernel
theorem kF_1_15 : a_F 1 15 = some (1, 1, 0) := by decide +kernel
theorem kF_1_49 : a_F 1 49 = some (1, 2, 0) := by decide +kernel
theorem kF_10_79 : a_F 10 79 = some (1, 2, 0) := by decide +kernel
theorem kF_1_18 : a_F 1 18 = some (1, 3, 0) := by decide +kernel
theorem kF_9_32 : a_F 9 32 = some (1, 3, 0) := by decide +kernel
theorem kF_4_125 : a_F 4 125 = some (1, 3, 0) := by decide +kernel
theorem kF_10_126 : a_F 10 126 = some (1, 3, 0) := by decide +kernel
theorem kF_1_22 : a_F 1 22 = some (1, 4, 0) := by decide +kernel
theorem kF_9_64 : a_F 9 64 = some (1, 4, 0) := by decide +kernel
theorem kF_1_25 : a_F 1 25 = some (1, 5, 0) := by decide +kernel
theorem kF_9_61 : a_F 9 61 = some (1, 5, 0) := by decide +kernel
theorem kF_1_28 : a_F 1 28 = some (1, 6, 0) := by decide +kernel
theorem kF_4_44 : a_F 4 44 = some (1, 6, 0) := by decide +kernel
theorem kF_9_73 : a_F 9 73 = some (1, 6, 0) := by decide +kernel
theorem kF_1_31 : a_F 1 31 = some (1, 7, 0) := by decide +kernel
theorem kF_9_93 : a_F 9 93 = some (1, 7, 0) := by decide +kernel
theorem kF_1_34 : a_F 1 34 = some (1, 8, 0) := by decide +kernel
theorem kF_4_58 : a_F 4 58 = some (1, 8, 0) := by decide +kernel
theorem kF_9_96 : a_F 9 96 = some (1, 8, 0) := by decide +kernel
theorem kF_6_9 : a_F 6 9 = some (6, 0, 0) := by decide +kernel
theorem kF_6_15 : a_F 6 15 = some (6, 1, 0) := by decide +kernel
theorem kF_6_24 : a_F 6 24 = some (6, 2, 0) := by decide +kernel
theorem kF_10_113 : a_F 10 113 = some (6, 2, 0) := by decide +kernel
theorem kF_0_9 : a_F 0 9 = some (0, 0, 0) := by decide +kernel
theorem kF_9_26 : a_F 9 26 = some (0, 1, 0) := by decide +kernel
theorem kF_0_21 : a_F 0 21 = some (0, 1, 0) := by decide +kernel
theorem kF_2_160 : a_F 2 160 = some (0, 1, 0) := by decide +kernel
theorem kF_10_142 : a_F 10 142 = some (0, 1, 0) := by decide +kernel
theorem kF_7_12 : a_F 7 12 = some (7, 0, 0) := by decide +kernel
theorem kF_10_26 : a_F 10 26 = some (7, 0, 0) := by decide +kernel
theorem kF_7_21 : a_F 7 21 = some (7, 1, 0) := by decide +kernel
theorem kF_10_22 : a_F 10 22 = some (7, 1, 0) := by decide +kernel
theorem kF_7_28 : a_F 7 28 = some (7, 2, 0) := by decide +kernel
theorem kF_10_109 : a_F 10 109 = some (7, 2, 0) := by decide +kernel
theorem kF_7_35 : a_F 7 35 = some (7, 3, 0) := by decide +kernel
theorem kF_10_39 : a_F 10 39 = some (7, 3, 0) := by decide +kernel
theorem kF_7_39 : a_F 7 39 = some (7, 4, 0) := by decide +kernel
theorem kF_10_52 : a_F 10 52 = some (7, 4, 0) := by decide +kernel
theorem kF_7_42 : a_F 7 42 = some (7, 5, 0) := by decide +kernel
theorem kF_10_168 : a_F 10 168 = some (7, 5, 0) := by decide +kernel
theorem kF_7_46 : a_F 7 46 = some (7, 6, 0) := by decide +kernel
theorem kF_10_178 : a_F 10 178 = some (7, 6, 0) := by decide +kernel
theorem kF_7_50 : a_F 7 50 = some (7, 7, 0) := by decide +kernel
theorem kF_10_184 : a_F 10 184 = some (7, 7, 0) := by decide +kernel
theorem kF_4_36 : a_F 4 36 = some (4, 0, 0) := by decide +kernel
theorem kF_4_40 : a_F 4 40 = some (4, 1, 0) := by decide +kernel
theorem kF_4_9 : a_F 4 9 = some (4, 2, 0) := by decide +kernel
theorem kF_4_15 : a_F 4 15 = some (4, 3, 0) := by decide +kernel
theorem kF_4_19 : a_F 4 19 = some (4, 4, 0) := by decide +kernel
theorem kF_4_22 : a_F 4 22 = some (4, 5, 0) := by decide +kernel
theorem kF_4_55 : a_F 4 55 = some (4, 6, 0) := by decide +kernel
theorem kF_4_61 : a_F 4 61 = some (4, 7, 0) := by decide +kernel
theorem kF_4_25 : a_F 4 25 = some (4, 8, 0) := by decide +kernel
theorem kF_4_29 : a_F 4 29 = some (4, 9, 0) := by decide +kernel
theorem kF_4_32 : a_F 4 32 = some (4, 10, 0) := by decide +kernel
theorem kF_4_116 : a_F 4 116 = some (4, 11, 0) := by decide +kernel
theorem kF_4_92 : a_F 4 92 = some (4, 12, 0) := by decide +kernel
theorem kF_4_95 : a_F 4 95 = some (4, 13, 0) := by decide +kernel
theorem kF_4_98 : a_F 4 98 = some (4, 14, 0) := by decide +kernel
theorem kF_4_101 : a_F 4 101 = some (4, 15, 0) := by decide +kernel
theorem kF_4_86 : a_F 4 86 = some (4, 16, 0) := by decide +kernel
theorem kF_10_103 : a_F 10 103 = some (4, 16, 1) := by decide +kernel
theorem kF_3_9 : a_F 3 9 = some (3, 0, 0) := by decide +kernel
theorem kF_9_53 : a_F 9 53 = some (3, 0, 0) := by decide +kernel
theorem kF_2_102 : a_F 2 102 = some (3, 0, 0) := by decide +kernel
theorem kF_5_74 : a_F 5 74 = some (3, 0, 0) := by decide +kernel
theorem kF_3_15 : a_F 3 15 = some (3, 1, 0) := by decide +kernel
theorem kF_9_67 : a_F 9 67 = some (3, 1, 0) := by decide +kernel
theorem kF_2_120 : a_F 2 120 = some (3, 1, 0) := by decide +kernel
theorem kF_5_86 : a_F 5 86 = some (3, 1, 0) := by decide +kernel
theorem kF_3_19 : a_F 3 19 = some (3, 2, 0) := by decide +kernel
theorem kF_9_70 : a_F 9 70 = some (3, 2, 0) := by decide +kernel
theorem kF_2_123 : a_F 2 123 = some (3, 2, 0) := by decide +kernel
theorem kF_5_112 : a_F 5 112 = some (3, 2, 0) := by decide +kernel
theorem kF_3_22 : a_F 3 22 = some (3, 3, 0) := by decide +kernel
theorem kF_9_76 : a_F 9 76 = some (3, 3, 0) := by decide +kernel
theorem kF_2_129 : a_F 2 129 = some (3, 3, 0) := by decide +kernel
theorem kF_5_98 : a_F 5 98 = some (3, 3, 0) := by decide +kernel
theorem kF_3_25 : a_F 3 25 = some (3, 4, 0) := by decide +kernel
theorem kF_9_88 : a_F 9 88 = some (3, 4, 0) := by decide +kernel
theorem kF_2_135 : a_F 2 135 = some (3, 4, 0) := by decide +kernel
theorem kF_5_129 : a_F 5 129 = some (3, 4, 0) := by decide +kernel
theorem kF_9_18 : a_F 9 18 = some (9, 0, 0) := by decide +kernel
theorem kF_9_22 : a_F 9 22 = some (9, 1, 0) := by decide +kernel
theorem kF_9_12 : a_F 9 12 = some (9, 2, 0) := by decide +kernel
theorem kF_5_11 : a_F 5 11 = some (5, 0, 0) := by decide +kernel
theorem kF_5_27 : a_F 5 27 = some (5, 1, 0) := by decide +kernel
theorem kF_5_31 : a_F 5 31 = some (5, 2, 0) := by decide +kernel
theorem kF_5_46 : a_F 5 46 = some (5, 3, 0) := by decide +kernel
theorem kF_5_50 : a_F 5 50 = some (5, 4, 0) := by decide +kernel
theorem kF_5_89 : a_F 5 89 = some (5, 5, 0) := by decide +kernel
theorem kF_5_95 : a_F 5 95 = some (5, 6, 0) := by decide +kernel
theorem kF_5_101 : a_F 5 101 = some (5, 7, 0) := by decide +kernel
theorem kF_2_30 : a_F 2 30 = some (2, 0, 0) := by decide +kernel
theorem kF_2_34 : a_F 2 34 = some (2, 1, 0) := by decide +kernel
theorem kF_2_12 : a_F 2 12 = some (2, 2, 0) := by decide +kernel
theorem kF_10_161 : a_F 10 161 = some (2, 2, 0) := by decide +kernel
theorem kF_2_26 : a_F 2 26 = some (2, 3, 0) := by decide +kernel
theorem kF_2_42 : a_F 2 42 = some (2, 4, 0) := by decide +kernel
theorem kF_10_165 : a_F 10 165 = some (2, 4, 0) := by decide +kernel
theorem kF_2_83 : a_F 2 83 = some (2, 5, 0) := by decide +kernel
theorem kF_10_181 : a_F 10 181 = some (2, 5, 0) := by decide +kernel
theorem kF_2_62 : a_F 2 62 = some (2, 6, 0) := by decide +kernel
theorem kF_2_45 : a_F 2 45 = some (2, 7, 0) := by decide +kernel
theorem kF_2_80 : a_F 2 80 = some (2, 8, 0) := by decide +kernel
theorem kF_10_187 : a_F 10 187 = some (2, 8, 0) := by decide +kernel
theorem kF_2_38 : a_F 2 38 = some (2, 9, 0) := by decide +kernel
theorem kF_2_55 : a_F 2 55 = some (2, 10, 0) := by decide +kernel
theorem kF_2_117 : a_F 2 117 = some (2, 11, 0) := by decide +kernel
theorem kF_2_126 : a_F 2 126 = some (2, 12, 0) := by decide +kernel
theorem kF_2_132 : a_F 2 132 = some (2, 13, 0) := by decide +kernel
theorem kF_10_10 : a_F 10 10 = some (10, 0, 0) := by decide +kernel
theorem kF_10_16 : a_F 10 16 = some (10, 1, 0) := by decide +kernel
theorem kF_10_33 : a_F 10 33 = some (10, 2, 0) := by decide +kernel
theorem kF_10_46 : a_F 10 46 = some (10, 3, 0) := by decide +kernel
theorem kF_10_56 : a_F 10 56 = some (10, 4, 0) := by decide +kernel
theorem kF_11_7 : a_F 11 7 = some (11, 0, 0) := by decide +kernel
theorem kF_11_13 : a_F 11 13 = some (11, 1, 0) := by decide +kernel
theorem kF_11_17 : a_F 11 17 = some (11, 2, 0) := by decide +kernel
theorem kF_11_100 : a_F 11 100 = some (11, 3, 0) := by decide +kernel
theorem kF_11_104 : a_F 11 104 = some (11, 4, 0) := by decide +kernel
theorem kF_11_107 : a_F 11 107 = some (11, 5, 0) := by decide +kernel
theorem kF_11_114 : a_F 11 114 = some (11, 6, 0) := by decide +kernel
theorem kF_11_21 : a_F 11 21 = some (11, 7, 0) := by decide +kernel
theorem kF_11_206 : a_F 11 206 = some (11, 8, 0) := by decide +kernel
theorem kF_11_209 : a_F 11 209 = some (11, 9, 0) := by decide +kernel
theorem kF_11_215 : a_F 11 215 = some (11, 10, 0) := by decide +kernel
theorem kF_11_218 : a_F 11 218 = some (11, 11, 0) := by decide +kernel
theorem kF_11_227 : a_F 11 227 = some (11, 12, 0) := by decide +kernel
theorem kF_11_230 : a_F 11 230 = some (11, 13, 0) := by decide +kernel
theorem kF_11_24 : a_F 11 24 = some (11, 14, 0) := by decide +kernel
theorem kF_11_249 : a_F 11 249 = some (11, 15, 0) := by decide +kernel
theorem kF_11_273 : a_F 11 273 = some (11, 16, 0) := by decide +kernel
theorem kF_11_276 : a_F 11 276 = some (11, 17, 0) := by decide +kernel
theorem kF_11_279 : a_F 11 279 = some (11, 18, 0) := by decide +kernel
theorem kF_20_9 : a_F 20 9 = some (20, 0, 0) := by decide +kernel
theorem kF_20_15 : a_F 20 15 = some (20, 1, 0) := by decide +kernel
theorem kM_12_9 : a_Mt 12 9 = some (4, 0, mX10_init) := a_Mt_k (j := 84) (by decide +kernel)
theorem kM_10_1 : a_Mt 10 1 = some (6, 0, mX0_init) := a_Mt_k (j := 0) (by decide +kernel)
theorem kM_10_9 : a_Mt 10 9 = some (4, 0, mX7_init) := a_Mt_k (j := 60) (by decide +kernel)
theorem kM_7_3 : a_Mt 7 3 = some (6, 0, mX0_init) := a_Mt_k (j := 0) (by decide +kernel)
theorem kM_7_11 : a_Mt 7 11 = some (5, 0, mX8_init) := a_Mt_k (j := 62) (by decide +kernel)
theorem kM_8_3 : a_Mt 8 3 = some (6, 0, mX0_init) := a_Mt_k (j := 0) (by decide +kernel)
theorem kM_7_20 : a_Mt 7 20 = some (4, 0, mX1_init) := a_Mt_k (j := 5) (by decide +kernel)
theorem kM_1_3 : a_Mt 1 3 = some (6, 0, mX0_init) := a_Mt_k (j := 0) (by decide +kernel)
theorem kM_1_37 : a_Mt 1 37 = some (2, 2, mJ7_fill_53178) := a_Mt_k (j := 213) (by decide +kernel)
theorem kM_7_27 : a_Mt 7 27 = some (5, 0, mX6_init) := a_Mt_k (j := 55) (by decide +kernel)
theorem kM_6_3 : a_Mt 6 3 = some (6, 0, mX0_init) := a_Mt_k (j := 0) (by decide +kernel)
theorem kM_7_34 : a_Mt 7 34 = some (5, 0, mX0_init) := a_Mt_k (j := 0) (by decide +kernel)
theorem kM_0_3 : a_Mt 0 3 = some (6, 0, mX0_init) := a_Mt_k (j := 0) (by decide +kernel)
theorem kM_7_53 : a_Mt 7 53 = some (2, 2, mJ7_fill_53178) := a_Mt_k (j := 213) (by decide +kernel)
theorem kM_10_30 : a_Mt 10 30 = some (4, 2, mX4_init) := a_Mt_k (j := 29) (by decide +kernel)
theorem kM_4_3 : a_Mt 4 3 = some (6, 0, mX0_init) := a_Mt_k (j := 0) (by decide +kernel)
theorem kM_10_43 : a_Mt 10 43 = some (4, 2, mX9_init) := a_Mt_k (j := 77) (by decide +kernel)
theorem kM_9_3 : a_Mt 9 3 = some (6, 0, mX0_init) := a_Mt_k (j := 0) (by decide +kernel)
theorem kM_9_11 : a_Mt 9 11 = some (5, 0, mX3_init) := a_Mt_k (j := 27) (by decide +kernel)
theorem kM_3_3 : a_Mt 3 3 = some (6, 0, mX0_init) := a_Mt_k (j := 0) (by decide +kernel)
theorem kM_10_55 : a_Mt 10 55 = some (4, 2, mX2_init) := a_Mt_k (j := 15) (by decide +kernel)
theorem kM_2_3 : a_Mt 2 3 = some (6, 0, mX0_init) := a_Mt_k (j := 0) (by decide +kernel)
theorem kM_2_11 : a_Mt 2 11 = some (4, 0, mX5_init) := a_Mt_k (j := 44) (by decide +kernel)
theorem kM_5_3 : a_Mt 5 3 = some (6, 0, mX0_init) := a_Mt_k (j := 0) (by decide +kernel)
theorem kM_5_17 : a_Mt 5 17 = some (5, 0, mX3_init) := a_Mt_k (j := 27) (by decide +kernel)
theorem kM_2_20 : a_Mt 2 20 = some (0, 0, mJ0_length_8abf5) := a_Mt_k (j := 203) (by decide +kernel)
theorem kM_20_335 : a_Mt 20 335 = some (0, 0, mJ0_coder_7d493) := a_Mt_k (j := 205) (by decide +kernel)
theorem kM_12_15 : a_Mt 12 15 = some (0, 1, mX10_name) := a_Mt_k (j := 85) (by decide +kernel)
theorem kM_10_60 : a_Mt 10 60 = some (0, 1, mX8_addName) := a_Mt_k (j := 64) (by decide +kernel)
theorem kM_8_35 : a_Mt 8 35 = some (0, 1, mX8_isFree) := a_Mt_k (j := 74) (by decide +kernel)
theorem kM_8_50 : a_Mt 8 50 = some (2, 1, mX8_isWord) := a_Mt_k (j := 75) (by decide +kernel)
theorem kM_8_65 : a_Mt 8 65 = some (3, 1, mX10_isLetter) := a_Mt_k (j := 114) (by decide +kernel)
theorem kM_8_53 : a_Mt 8 53 = some (2, 1, mX8_isKept) := a_Mt_k (j := 76) (by decide +kernel)
theorem kM_8_70 : a_Mt 8 70 = some (0, 0, mJ0_length_8abf5) := a_Mt_k (j := 203) (by decide +kernel)
theorem kM_8_76 : a_Mt 8 76 = some (0, 1, mJ0_charAt_5068e) := a_Mt_k (j := 204) (by decide +kernel)
theorem kM_20_492 : a_Mt 20 492 = some (0, 0, mJ0_isLatin1_aae02) := a_Mt_k (j := 206) (by decide +kernel)
theorem kM_20_495 : a_Mt 20 495 = some (2, 2, mJ1_charAt_3b067) := a_Mt_k (j := 208) (by decide +kernel)
theorem kM_21_9 : a_Mt 21 9 = some (2, 2, mJ0_checkIndex_df160) := a_Mt_k (j := 207) (by decide +kernel)
theorem kM_20_1059 : a_Mt 20 1059 = some (2, 3, mJ3_checkIndex_8e157) := a_Mt_k (j := 214) (by decide +kernel)
theorem kM_20_498 : a_Mt 20 498 = some (2, 2, mJ2_charAt_3b067) := a_Mt_k (j := 211) (by decide +kernel)
theorem kM_22_67 : a_Mt 22 67 = some (2, 2, mJ2_checkIndex_2214a) := a_Mt_k (j := 212) (by decide +kernel)
theorem kM_22_48 : a_Mt 22 48 = some (2, 1, mJ2_length_9d52b) := a_Mt_k (j := 210) (by decide +kernel)
theorem kM_22_414 : a_Mt 22 414 = some (2, 2, mJ0_checkIndex_df160) := a_Mt_k (j := 207) (by decide +kernel)
theorem kM_22_71 : a_Mt 22 71 = some (2, 2, mJ2_getChar_3b067) := a_Mt_k (j := 209) (by decide +kernel)
theorem kM_8_56 : a_Mt 8 56 = some (0, 1, mX8_findName) := a_Mt_k (j := 71) (by decide +kernel)
theorem kM_8_46 : a_Mt 8 46 = some (2, 3, mX8_find) := a_Mt_k (j := 73) (by decide +kernel)
theorem kM_8_60 : a_Mt 8 60 = some (0, 1, mX8_findThing) := a_Mt_k (j := 72) (by decide +kernel)
theorem kM_12_20 : a_Mt 12 20 = some (0, 2, mX10_thing) := a_Mt_k (j := 86) (by decide +kernel)
theorem kM_10_66 : a_Mt 10 66 = some (0, 2, mX8_addThing) := a_Mt_k (j := 65) (by decide +kernel)
theorem kM_12_25 : a_Mt 12 25 = some (0, 3, mX10_span) := a_Mt_k (j := 87) (by decide +kernel)
theorem kM_10_70 : a_Mt 10 70 = some (0, 3, mX1_setSpan) := a_Mt_k (j := 9) (by decide +kernel)
theorem kM_10_76 : a_Mt 10 76 = some (0, 0, mX4_renew) := a_Mt_k (j := 30) (by decide +kernel)
theorem kM_4_49 : a_Mt 4 49 = some (0, 1, mX8_mostOf) := a_Mt_k (j := 70) (by decide +kernel)
theorem kM_8_43 : a_Mt 8 43 = some (0, 1, mX8_hasThing) := a_Mt_k (j := 67) (by decide +kernel)
theorem kM_4_64 : a_Mt 4 64 = some (0, 1, mX1_isTempting) := a_Mt_k (j := 11) (by decide +kernel)
theorem kM_1_64 : a_Mt 1 64 = some (0, 0, mX1_isIdle) := a_Mt_k (j := 8) (by decide +kernel)
theorem kM_4_68 : a_Mt 4 68 = some (0, 1, mX1_low) := a_Mt_k (j := 12) (by decide +kernel)
theorem kM_1_68 : a_Mt 1 68 = some (0, 1, mX1_isUsed) := a_Mt_k (j := 14) (by decide +kernel)
theorem kM_4_70 : a_Mt 4 70 = some (0, 1, mX1_high) := a_Mt_k (j := 13) (by decide +kernel)
theorem kM_4_72 : a_Mt 4 72 = some (0, 0, mX4_restart) := a_Mt_k (j := 37) (by decide +kernel)
theorem kM_4_79 : a_Mt 4 79 = some (0, 0, mX1_isSettled) := a_Mt_k (j := 7) (by decide +kernel)
theorem kM_4_113 : a_Mt 4 113 = some (0, 0, mX4_doesSumFit) := a_Mt_k (j := 40) (by decide +kernel)
theorem kM_4_128 : a_Mt 4 128 = some (3, 4, mX10_answerOf) := a_Mt_k (j := 117) (by decide +kernel)
theorem kM_10_239 : a_Mt 10 239 = some (2, 1, mX10_atLeastOne) := a_Mt_k (j := 118) (by decide +kernel)
theorem kM_10_242 : a_Mt 10 242 = some (2, 2, mX10_share) := a_Mt_k (j := 119) (by decide +kernel)
theorem kM_4_132 : a_Mt 4 132 = some (0, 2, mX4_areUnlike) := a_Mt_k (j := 42) (by decide +kernel)
theorem kM_4_109 : a_Mt 4 109 = some (8, 2, mX0_init) := a_Mt_k (j := 0) (by decide +kernel)
theorem kM_4_89 : a_Mt 4 89 = some (0, 1, mX4_wayNumber) := a_Mt_k (j := 36) (by decide +kernel)
theorem kM_4_104 : a_Mt 4 104 = some (10, 1, mX0_init) := a_Mt_k (j := 0) (by decide +kernel)
theorem kM_4_139 : a_Mt 4 139 = some (0, 1, mX4_isTold) := a_Mt_k (j := 43) (by decide +kernel)
theorem kM_12_30 : a_Mt 12 30 = some (0, 1, mX10_ways) := a_Mt_k (j := 88) (by decide +kernel)
theorem kM_12_35 : a_Mt 12 35 = some (0, 6, mX10_choose) := a_Mt_k (j := 89) (by decide +kernel)
theorem kM_10_83 : a_Mt 10 83 = some (0, 7, mX1_settle) := a_Mt_k (j := 10) (by decide +kernel)
theorem kM_1_52 : a_Mt 1 52 = some (0, 1, mX8_hasName) := a_Mt_k (j := 66) (by decide +kernel)
theorem kM_1_58 : a_Mt 1 58 = some (0, 1, mX8_hasThing) := a_Mt_k (j := 67) (by decide +kernel)
theorem kM_1_61 : a_Mt 1 61 = some (3, 1, mX10_hasPair) := a_Mt_k (j := 108) (by decide +kernel)
theorem kM_10_87 : a_Mt 10 87 = some (0, 0, mX4_countAll) := a_Mt_k (j := 31) (by decide +kernel)
theorem kM_4_76 : a_Mt 4 76 = some (0, 0, mX4_moveOn) := a_Mt_k (j := 38) (by decide +kernel)
theorem kM_4_119 : a_Mt 4 119 = some (0, 0, mX4_nextSum) := a_Mt_k (j := 39) (by decide +kernel)
theorem kM_4_122 : a_Mt 4 122 = some (0, 0, mX4_doesIdleFit) := a_Mt_k (j := 41) (by decide +kernel)
theorem kM_4_136 : a_Mt 4 136 = some (0, 0, mX1_isIdle) := a_Mt_k (j := 8) (by decide +kernel)
theorem kM_12_40 : a_Mt 12 40 = some (0, 0, mX10_sets) := a_Mt_k (j := 90) (by decide +kernel)
theorem kM_10_91 : a_Mt 10 91 = some (0, 0, mX1_isSettled) := a_Mt_k (j := 7) (by decide +kernel)
theorem kM_12_45 : a_Mt 12 45 = some (0, 2, mX10_set) := a_Mt_k (j := 91) (by decide +kernel)
theorem kM_10_95 : a_Mt 10 95 = some (0, 1, mX4_seek) := a_Mt_k (j := 32) (by decide +kernel)
theorem kM_10_99 : a_Mt 10 99 = some (0, 1, mX4_fact) := a_Mt_k (j := 33) (by decide +kernel)
theorem kM_4_83 : a_Mt 4 83 = some (0, 1, mX4_number) := a_Mt_k (j := 34) (by decide +kernel)
theorem kM_12_50 : a_Mt 12 50 = some (0, 2, mX10_tells) := a_Mt_k (j := 92) (by decide +kernel)
theorem kM_10_106 : a_Mt 10 106 = some (0, 1, mX4_waysTo) := a_Mt_k (j := 35) (by decide +kernel)
theorem kM_12_54 : a_Mt 12 54 = some (0, 1, mX10_sheet) := a_Mt_k (j := 93) (by decide +kernel)
theorem kM_10_119 : a_Mt 10 119 = some (0, 2, mX6_addUnlike) := a_Mt_k (j := 58) (by decide +kernel)
theorem kM_6_28 : a_Mt 6 28 = some (0, 1, mX6_hasAnswer) := a_Mt_k (j := 59) (by decide +kernel)
theorem kM_12_59 : a_Mt 12 59 = some (0, 1, mX10_on) := a_Mt_k (j := 94) (by decide +kernel)
theorem kM_10_123 : a_Mt 10 123 = some (0, 1, mX6_setAt) := a_Mt_k (j := 57) (by decide +kernel)
theorem kM_12_63 : a_Mt 12 63 = some (0, 3, mX10_write) := a_Mt_k (j := 95) (by decide +kernel)
theorem kM_10_129 : a_Mt 10 129 = some (2, 1, mX10_mayTurn) := a_Mt_k (j := 107) (by decide +kernel)
theorem kM_10_132 : a_Mt 10 132 = some (0, 0, mX1_isIdle) := a_Mt_k (j := 8) (by decide +kernel)
theorem kM_10_135 : a_Mt 10 135 = some (2, 1, mX10_bodyLength) := a_Mt_k (j := 106) (by decide +kernel)
theorem kM_10_138 : a_Mt 10 138 = some (0, 4, mX9_putTale) := a_Mt_k (j := 78) (by decide +kernel)
theorem kM_9_37 : a_Mt 9 37 = some (3, 1, mX10_bodyLength) := a_Mt_k (j := 106) (by decide +kernel)
theorem kM_9_41 : a_Mt 9 41 = some (0, 0, mX1_isIdle) := a_Mt_k (j := 8) (by decide +kernel)
theorem kM_9_45 : a_Mt 9 45 = some (0, 2, mX9_putIdle) := a_Mt_k (j := 79) (by decide +kernel)
theorem kM_9_83 : a_Mt 9 83 = some (0, 1, mX4_number) := a_Mt_k (j := 34) (by decide +kernel)
theorem kM_9_90 : a_Mt 9 90 = some (0, 0, mX9_putSentence) := a_Mt_k (j := 80) (by decide +kernel)
theorem kM_9_99 : a_Mt 9 99 = some (0, 1, mX0_put) := a_Mt_k (j := 3) (by decide +kernel)
theorem kM_9_103 : a_Mt 9 103 = some (3, 1, mX10_textOf) := a_Mt_k (j := 116) (by decide +kernel)
theorem kM_9_107 : a_Mt 9 107 = some (0, 0, mJ0_length_8abf5) := a_Mt_k (j := 203) (by decide +kernel)
theorem kM_9_112 : a_Mt 9 112 = some (0, 1, mJ0_charAt_5068e) := a_Mt_k (j := 204) (by decide +kernel)
theorem kM_9_116 : a_Mt 9 116 = some (0, 1, mX9_putPart) := a_Mt_k (j := 81) (by decide +kernel)
theorem kM_9_120 : a_Mt 9 120 = some (0, 1, mX8_nameWord) := a_Mt_k (j := 68) (by decide +kernel)
theorem kM_8_39 : a_Mt 8 39 = some (0, 1, mX8_hasName) := a_Mt_k (j := 66) (by decide +kernel)
theorem kM_9_126 : a_Mt 9 126 = some (0, 1, mX9_putWord) := a_Mt_k (j := 82) (by decide +kernel)
theorem kM_9_130 : a_Mt 9 130 = some (0, 1, mX8_thingWord) := a_Mt_k (j := 69) (by decide +kernel)
theorem kM_9_133 : a_Mt 9 133 = some (0, 1, mX9_putNumber) := a_Mt_k (j := 83) (by decide +kernel)
theorem kM_9_49 : a_Mt 9 49 = some (3, 3, mX10_formAt) := a_Mt_k (j := 110) (by decide +kernel)
theorem kM_10_199 : a_Mt 10 199 = some (2, 2, mX10_unturned) := a_Mt_k (j := 109) (by decide +kernel)
theorem kM_10_205 : a_Mt 10 205 = some (0, 0, mJ0_length_8abf5) := a_Mt_k (j := 203) (by decide +kernel)
theorem kM_10_209 : a_Mt 10 209 = some (0, 1, mJ0_charAt_5068e) := a_Mt_k (j := 204) (by decide +kernel)
theorem kM_9_57 : a_Mt 9 57 = some (3, 2, mX10_isOfM) := a_Mt_k (j := 112) (by decide +kernel)
theorem kM_9_79 : a_Mt 9 79 = some (3, 3, mX10_numberAt) := a_Mt_k (j := 111) (by decide +kernel)
theorem kM_12_68 : a_Mt 12 68 = some (0, 1, mX10_written) := a_Mt_k (j := 96) (by decide +kernel)
theorem kM_10_147 : a_Mt 10 147 = some (0, 1, mX0_byteAt) := a_Mt_k (j := 2) (by decide +kernel)
theorem kM_12_72 : a_Mt 12 72 = some (0, 0, mX10_take) := a_Mt_k (j := 97) (by decide +kernel)
theorem kM_10_150 : a_Mt 10 150 = some (0, 1, mX0_copyOf) := a_Mt_k (j := 1) (by decide +kernel)
theorem kM_0_15 : a_Mt 0 15 = some (7, 5, mX0_init) := a_Mt_k (j := 0) (by decide +kernel)
theorem kM_12_76 : a_Mt 12 76 = some (0, 5, mX10_feed) := a_Mt_k (j := 98) (by decide +kernel)
theorem kM_10_154 : a_Mt 10 154 = some (0, 1, mX0_putFour) := a_Mt_k (j := 4) (by decide +kernel)
theorem kM_0_25 : a_Mt 0 25 = some (0, 1, mX0_put) := a_Mt_k (j := 3) (by decide +kernel)
theorem kM_12_81 : a_Mt 12 81 = some (0, 1, mX10_end) := a_Mt_k (j := 99) (by decide +kernel)
theorem kM_12_85 : a_Mt 12 85 = some (0, 0, mX10_read) := a_Mt_k (j := 100) (by decide +kernel)
theorem kM_10_158 : a_Mt 10 158 = some (0, 0, mX2_readRow) := a_Mt_k (j := 16) (by decide +kernel)
theorem kM_2_49 : a_Mt 2 49 = some (0, 0, mX2_openSentence) := a_Mt_k (j := 17) (by decide +kernel)
theorem kM_2_65 : a_Mt 2 65 = some (2, 2, mJ7_fill_53178) := a_Mt_k (j := 213) (by decide +kernel)
theorem kM_2_71 : a_Mt 2 71 = some (0, 1, mX5_sentenceAt) := a_Mt_k (j := 45) (by decide +kernel)
theorem kM_5_18 : a_Mt 5 18 = some (9, 2, mX0_init) := a_Mt_k (j := 0) (by decide +kernel)
theorem kM_5_24 : a_Mt 5 24 = some (8, 2, mX0_init) := a_Mt_k (j := 0) (by decide +kernel)
theorem kM_2_75 : a_Mt 2 75 = some (0, 0, mX3_clear) := a_Mt_k (j := 28) (by decide +kernel)
theorem kM_2_52 : a_Mt 2 52 = some (0, 0, mX2_nextToken) := a_Mt_k (j := 23) (by decide +kernel)
theorem kM_2_148 : a_Mt 2 148 = some (0, 0, mX2_skipBlanks) := a_Mt_k (j := 24) (by decide +kernel)
theorem kM_2_138 : a_Mt 2 138 = some (0, 1, mX0_byteAt) := a_Mt_k (j := 2) (by decide +kernel)
theorem kM_2_144 : a_Mt 2 144 = some (3, 1, mX10_isLetter) := a_Mt_k (j := 114) (by decide +kernel)
theorem kM_2_151 : a_Mt 2 151 = some (0, 0, mX2_takeWord) := a_Mt_k (j := 25) (by decide +kernel)
theorem kM_2_162 : a_Mt 2 162 = some (0, 1, mX8_findName) := a_Mt_k (j := 71) (by decide +kernel)
theorem kM_2_168 : a_Mt 2 168 = some (0, 1, mX8_findThing) := a_Mt_k (j := 72) (by decide +kernel)
theorem kM_2_154 : a_Mt 2 154 = some (3, 1, mX10_isDigit) := a_Mt_k (j := 115) (by decide +kernel)
theorem kM_2_157 : a_Mt 2 157 = some (0, 0, mX2_takeNumber) := a_Mt_k (j := 26) (by decide +kernel)
theorem kM_2_58 : a_Mt 2 58 = some (0, 0, mX2_goOn) := a_Mt_k (j := 18) (by decide +kernel)
theorem kM_2_86 : a_Mt 2 86 = some (0, 1, mJ0_charAt_5068e) := a_Mt_k (j := 204) (by decide +kernel)
theorem kM_2_90 : a_Mt 2 90 = some (3, 1, mX10_textOf) := a_Mt_k (j := 116) (by decide +kernel)
theorem kM_2_94 : a_Mt 2 94 = some (0, 2, mX2_passed) := a_Mt_k (j := 20) (by decide +kernel)
theorem kM_2_110 : a_Mt 2 110 = some (0, 1, mX2_keepPart) := a_Mt_k (j := 21) (by decide +kernel)
theorem kM_2_113 : a_Mt 2 113 = some (0, 3, mX2_isSame) := a_Mt_k (j := 22) (by decide +kernel)
theorem kM_2_98 : a_Mt 2 98 = some (0, 1, mX2_closeSentence) := a_Mt_k (j := 19) (by decide +kernel)
theorem kM_2_106 : a_Mt 2 106 = some (3, 1, mX10_isQuestion) := a_Mt_k (j := 113) (by decide +kernel)
theorem kM_10_172 : a_Mt 10 172 = some (0, 2, mX5_find) := a_Mt_k (j := 46) (by decide +kernel)
theorem kM_5_34 : a_Mt 5 34 = some (0, 1, mX5_isShape) := a_Mt_k (j := 47) (by decide +kernel)
theorem kM_5_53 : a_Mt 5 53 = some (3, 1, mX10_bodyLength) := a_Mt_k (j := 106) (by decide +kernel)
theorem kM_5_57 : a_Mt 5 57 = some (0, 0, mX5_hasForms) := a_Mt_k (j := 50) (by decide +kernel)
theorem kM_5_71 : a_Mt 5 71 = some (0, 1, mX5_part) := a_Mt_k (j := 48) (by decide +kernel)
theorem kM_5_67 : a_Mt 5 67 = some (0, 1, mX5_sentenceAt) := a_Mt_k (j := 45) (by decide +kernel)
theorem kM_5_78 : a_Mt 5 78 = some (3, 3, mX10_formAt) := a_Mt_k (j := 110) (by decide +kernel)
theorem kM_5_61 : a_Mt 5 61 = some (0, 0, mX5_hasWords) := a_Mt_k (j := 51) (by decide +kernel)
theorem kM_5_82 : a_Mt 5 82 = some (3, 2, mX10_unturned) := a_Mt_k (j := 109) (by decide +kernel)
theorem kM_5_92 : a_Mt 5 92 = some (3, 1, mX10_hasPair) := a_Mt_k (j := 108) (by decide +kernel)
theorem kM_5_104 : a_Mt 5 104 = some (3, 2, mX10_isOfM) := a_Mt_k (j := 112) (by decide +kernel)
theorem kM_5_108 : a_Mt 5 108 = some (2, 2, mX5_isOrNone) := a_Mt_k (j := 52) (by decide +kernel)
theorem kM_5_64 : a_Mt 5 64 = some (0, 0, mX5_hasIdle) := a_Mt_k (j := 53) (by decide +kernel)
theorem kM_5_115 : a_Mt 5 115 = some (0, 0, mX5_idle) := a_Mt_k (j := 49) (by decide +kernel)
theorem kM_5_38 : a_Mt 5 38 = some (3, 1, mX10_mayTurn) := a_Mt_k (j := 107) (by decide +kernel)
theorem kM_5_42 : a_Mt 5 42 = some (0, 1, mX5_keepFacts) := a_Mt_k (j := 54) (by decide +kernel)
theorem kM_5_119 : a_Mt 5 119 = some (2, 2, mJ7_fill_53178) := a_Mt_k (j := 213) (by decide +kernel)
theorem kM_5_125 : a_Mt 5 125 = some (3, 3, mX10_numberAt) := a_Mt_k (j := 111) (by decide +kernel)
theorem kM_5_132 : a_Mt 5 132 = some (3, 4, mX10_answerOf) := a_Mt_k (j := 117) (by decide +kernel)
theorem kM_12_89 : a_Mt 12 89 = some (0, 1, mX10_fault) := a_Mt_k (j := 101) (by decide +kernel)
theorem kM_12_93 : a_Mt 12 93 = some (0, 1, mX10_got) := a_Mt_k (j := 102) (by decide +kernel)
theorem kM_12_97 : a_Mt 12 97 = some (0, 1, mX10_count) := a_Mt_k (j := 103) (by decide +kernel)
theorem kM_12_101 : a_Mt 12 101 = some (0, 1, mX10_image) := a_Mt_k (j := 104) (by decide +kernel)
theorem kM_10_196 : a_Mt 10 196 = some (0, 1, mX7_copyOf) := a_Mt_k (j := 61) (by decide +kernel)
theorem kM_7_59 : a_Mt 7 59 = some (0, 1, mX8_copyOf) := a_Mt_k (j := 63) (by decide +kernel)
theorem kM_8_22 : a_Mt 8 22 = some (7, 5, mX0_init) := a_Mt_k (j := 0) (by decide +kernel)
theorem kM_7_63 : a_Mt 7 63 = some (0, 1, mX1_copyOf) := a_Mt_k (j := 6) (by decide +kernel)
theorem kM_1_43 : a_Mt 1 43 = some (7, 5, mX0_init) := a_Mt_k (j := 0) (by decide +kernel)
theorem kM_7_66 : a_Mt 7 66 = some (0, 1, mX6_copyOf) := a_Mt_k (j := 56) (by decide +kernel)
theorem kM_6_18 : a_Mt 6 18 = some (7, 5, mX0_init) := a_Mt_k (j := 0) (by decide +kernel)
theorem kM_7_69 : a_Mt 7 69 = some (0, 1, mX0_copyOf) := a_Mt_k (j := 1) (by decide +kernel)
theorem kM_7_72 : a_Mt 7 72 = some (7, 5, mX0_init) := a_Mt_k (j := 0) (by decide +kernel)
theorem kM_12_105 : a_Mt 12 105 = some (0, 1, mX10_again) := a_Mt_k (j := 105) (by decide +kernel)
theorem kM_12_12 : a_Mt 12 12 = some (4, 0, mX11_init) := a_Mt_k (j := 120) (by decide +kernel)
theorem kM_11_1 : a_Mt 11 1 = some (6, 0, mX0_init) := a_Mt_k (j := 0) (by decide +kernel)
theorem kM_12_19 : a_Mt 12 19 = some (0, 1, mX11_name) := a_Mt_k (j := 126) (by decide +kernel)
theorem kM_11_78 : a_Mt 11 78 = some (0, 1, mX11_canBe) := a_Mt_k (j := 125) (by decide +kernel)
theorem kM_11_67 : a_Mt 11 67 = some (2, 3, mX11_isIn) := a_Mt_k (j := 121) (by decide +kernel)
theorem kM_11_71 : a_Mt 11 71 = some (2, 1, mX11_wordOf) := a_Mt_k (j := 122) (by decide +kernel)
theorem kM_11_75 : a_Mt 11 75 = some (0, 1, mX11_named) := a_Mt_k (j := 124) (by decide +kernel)
theorem kM_12_24 : a_Mt 12 24 = some (0, 2, mX11_thing) := a_Mt_k (j := 127) (by decide +kernel)
theorem kM_12_29 : a_Mt 12 29 = some (0, 3, mX11_span) := a_Mt_k (j := 128) (by decide +kernel)
theorem kM_12_34 : a_Mt 12 34 = some (0, 1, mX11_ways) := a_Mt_k (j := 129) (by decide +kernel)
theorem kM_12_39 : a_Mt 12 39 = some (0, 6, mX11_choose) := a_Mt_k (j := 139) (by decide +kernel)
theorem kM_11_82 : a_Mt 11 82 = some (0, 1, mX11_isName) := a_Mt_k (j := 137) (by decide +kernel)
theorem kM_11_86 : a_Mt 11 86 = some (0, 1, mX11_isThing) := a_Mt_k (j := 138) (by decide +kernel)
theorem kM_11_89 : a_Mt 11 89 = some (2, 1, mX11_hasOther) := a_Mt_k (j := 135) (by decide +kernel)
theorem kM_11_92 : a_Mt 11 92 = some (0, 1, mX11_scan) := a_Mt_k (j := 148) (by decide +kernel)
theorem kM_11_96 : a_Mt 11 96 = some (0, 0, mX11_shape) := a_Mt_k (j := 130) (by decide +kernel)
theorem kM_11_133 : a_Mt 11 133 = some (0, 1, mX11_least) := a_Mt_k (j := 146) (by decide +kernel)
theorem kM_11_136 : a_Mt 11 136 = some (0, 1, mX11_greatest) := a_Mt_k (j := 147) (by decide +kernel)
theorem kM_11_139 : a_Mt 11 139 = some (0, 0, mX11_isRight) := a_Mt_k (j := 144) (by decide +kernel)
theorem kM_11_124 : a_Mt 11 124 = some (0, 0, mX11_t) := a_Mt_k (j := 133) (by decide +kernel)
theorem kM_11_117 : a_Mt 11 117 = some (0, 0, mX11_answer) := a_Mt_k (j := 141) (by decide +kernel)
theorem kM_11_110 : a_Mt 11 110 = some (2, 4, mX11_answerOf) := a_Mt_k (j := 140) (by decide +kernel)
theorem kM_11_120 : a_Mt 11 120 = some (0, 0, mX11_isIdle) := a_Mt_k (j := 134) (by decide +kernel)
theorem kM_11_142 : a_Mt 11 142 = some (0, 0, mX11_isUnlike) := a_Mt_k (j := 145) (by decide +kernel)
theorem kM_11_127 : a_Mt 11 127 = some (0, 1, mX11_isTempting) := a_Mt_k (j := 143) (by decide +kernel)
theorem kM_11_130 : a_Mt 11 130 = some (0, 1, mX11_way) := a_Mt_k (j := 142) (by decide +kernel)
theorem kM_12_44 : a_Mt 12 44 = some (0, 0, mX11_sets) := a_Mt_k (j := 150) (by decide +kernel)
theorem kM_12_49 : a_Mt 12 49 = some (0, 2, mX11_set) := a_Mt_k (j := 151) (by decide +kernel)
theorem kM_11_146 : a_Mt 11 146 = some (0, 1, mX11_looks) := a_Mt_k (j := 149) (by decide +kernel)
theorem kM_12_53 : a_Mt 12 53 = some (0, 2, mX11_tells) := a_Mt_k (j := 152) (by decide +kernel)
theorem kM_12_58 : a_Mt 12 58 = some (0, 1, mX11_sheet) := a_Mt_k (j := 153) (by decide +kernel)
theorem kM_11_149 : a_Mt 11 149 = some (0, 1, mX11_comes) := a_Mt_k (j := 154) (by decide +kernel)
theorem kM_12_62 : a_Mt 12 62 = some (0, 1, mX11_on) := a_Mt_k (j := 155) (by decide +kernel)
theorem kM_12_67 : a_Mt 12 67 = some (0, 3, mX11_write) := a_Mt_k (j := 168) (by decide +kernel)
theorem kM_11_179 : a_Mt 11 179 = some (2, 1, mX11_canTurn) := a_Mt_k (j := 136) (by decide +kernel)
theorem kM_11_182 : a_Mt 11 182 = some (2, 1, mX11_sentencesOf) := a_Mt_k (j := 166) (by decide +kernel)
theorem kM_11_185 : a_Mt 11 185 = some (0, 5, mX11_sentence) := a_Mt_k (j := 163) (by decide +kernel)
theorem kM_11_167 : a_Mt 11 167 = some (0, 1, mX11_keyword) := a_Mt_k (j := 159) (by decide +kernel)
theorem kM_11_159 : a_Mt 11 159 = some (2, 1, mX11_spelt) := a_Mt_k (j := 123) (by decide +kernel)
theorem kM_11_163 : a_Mt 11 163 = some (0, 1, mX11_says) := a_Mt_k (j := 158) (by decide +kernel)
theorem kM_11_156 : a_Mt 11 156 = some (0, 0, mX11_blank) := a_Mt_k (j := 157) (by decide +kernel)
theorem kM_11_153 : a_Mt 11 153 = some (0, 1, mX11_puts) := a_Mt_k (j := 156) (by decide +kernel)
theorem kM_11_170 : a_Mt 11 170 = some (0, 1, mX11_nameOf) := a_Mt_k (j := 161) (by decide +kernel)
theorem kM_11_173 : a_Mt 11 173 = some (0, 1, mX11_number) := a_Mt_k (j := 160) (by decide +kernel)
theorem kM_11_176 : a_Mt 11 176 = some (0, 1, mX11_thingOf) := a_Mt_k (j := 162) (by decide +kernel)
theorem kM_11_189 : a_Mt 11 189 = some (2, 2, mX11_kindOf) := a_Mt_k (j := 165) (by decide +kernel)
theorem kM_11_193 : a_Mt 11 193 = some (0, 0, mX11_m) := a_Mt_k (j := 132) (by decide +kernel)
theorem kM_11_196 : a_Mt 11 196 = some (0, 0, mX11_n) := a_Mt_k (j := 131) (by decide +kernel)
theorem kM_11_199 : a_Mt 11 199 = some (0, 3, mX11_question) := a_Mt_k (j := 164) (by decide +kernel)
theorem kM_11_203 : a_Mt 11 203 = some (2, 2, mX11_numberOf) := a_Mt_k (j := 167) (by decide +kernel)
theorem kM_12_71 : a_Mt 12 71 = some (0, 1, mX11_written) := a_Mt_k (j := 169) (by decide +kernel)
theorem kM_12_75 : a_Mt 12 75 = some (0, 0, mX11_take) := a_Mt_k (j := 170) (by decide +kernel)
theorem kM_12_80 : a_Mt 12 80 = some (0, 5, mX11_feed) := a_Mt_k (j := 171) (by decide +kernel)
theorem kM_12_84 : a_Mt 12 84 = some (0, 1, mX11_end) := a_Mt_k (j := 172) (by decide +kernel)
theorem kM_12_88 : a_Mt 12 88 = some (0, 0, mX11_read) := a_Mt_k (j := 194) (by decide +kernel)
theorem kM_11_237 : a_Mt 11 237 = some (0, 0, mX11_advance) := a_Mt_k (j := 176) (by decide +kernel)
theorem kM_11_212 : a_Mt 11 212 = some (0, 1, mX11_byteAt) := a_Mt_k (j := 173) (by decide +kernel)
theorem kM_11_221 : a_Mt 11 221 = some (2, 1, mX11_isLetter) := a_Mt_k (j := 174) (by decide +kernel)
theorem kM_11_224 : a_Mt 11 224 = some (2, 1, mX11_isDigit) := a_Mt_k (j := 175) (by decide +kernel)
theorem kM_11_293 : a_Mt 11 293 = some (0, 0, mX11_aSentence) := a_Mt_k (j := 188) (by decide +kernel)
theorem kM_11_234 : a_Mt 11 234 = some (0, 1, mX11_isNow) := a_Mt_k (j := 178) (by decide +kernel)
theorem kM_11_267 : a_Mt 11 267 = some (0, 0, mX11_fAt) := a_Mt_k (j := 185) (by decide +kernel)
theorem kM_11_246 : a_Mt 11 246 = some (0, 1, mX11_must) := a_Mt_k (j := 180) (by decide +kernel)
theorem kM_11_240 : a_Mt 11 240 = some (0, 1, mX11_takes) := a_Mt_k (j := 179) (by decide +kernel)
theorem kM_11_243 : a_Mt 11 243 = some (0, 0, mX11_stops) := a_Mt_k (j := 177) (by decide +kernel)
theorem kM_11_252 : a_Mt 11 252 = some (0, 0, mX11_aNumber) := a_Mt_k (j := 181) (by decide +kernel)
theorem kM_11_255 : a_Mt 11 255 = some (0, 0, mX11_aThing) := a_Mt_k (j := 183) (by decide +kernel)
theorem kM_11_258 : a_Mt 11 258 = some (0, 5, mX11_keeps) := a_Mt_k (j := 184) (by decide +kernel)
theorem kM_11_261 : a_Mt 11 261 = some (0, 0, mX11_aName) := a_Mt_k (j := 182) (by decide +kernel)
theorem kM_11_270 : a_Mt 11 270 = some (0, 0, mX11_namedAt) := a_Mt_k (j := 187) (by decide +kernel)
theorem kM_11_264 : a_Mt 11 264 = some (0, 1, mX11_hasAt) := a_Mt_k (j := 186) (by decide +kernel)
theorem kM_11_296 : a_Mt 11 296 = some (0, 0, mX11_aQuestion) := a_Mt_k (j := 189) (by decide +kernel)
theorem kM_11_299 : a_Mt 11 299 = some (0, 0, mX11_tale) := a_Mt_k (j := 193) (by decide +kernel)
theorem kM_11_285 : a_Mt 11 285 = some (0, 3, mX11_isTale) := a_Mt_k (j := 191) (by decide +kernel)
theorem kM_11_282 : a_Mt 11 282 = some (2, 2, mX11_at) := a_Mt_k (j := 190) (by decide +kernel)
theorem kM_11_289 : a_Mt 11 289 = some (0, 3, mX11_gets) := a_Mt_k (j := 192) (by decide +kernel)
theorem kM_12_92 : a_Mt 12 92 = some (0, 1, mX11_fault) := a_Mt_k (j := 195) (by decide +kernel)
theorem kM_12_96 : a_Mt 12 96 = some (0, 1, mX11_got) := a_Mt_k (j := 196) (by decide +kernel)
theorem kM_12_100 : a_Mt 12 100 = some (0, 1, mX11_count) := a_Mt_k (j := 197) (by decide +kernel)
theorem kM_12_104 : a_Mt 12 104 = some (0, 1, mX11_image) := a_Mt_k (j := 198) (by decide +kernel)
theorem kM_12_108 : a_Mt 12 108 = some (0, 1, mX11_again) := a_Mt_k (j := 199) (by decide +kernel)
theorem kC_12_7 : a_C 12 7 = some 10 := by decide +kernel
theorem kC_10_7 : a_C 10 7 = some 7 := by decide +kernel
theorem kC_7_9 : a_C 7 9 = some 8 := by decide +kernel
theorem kC_7_18 : a_C 7 18 = some 1 := by decide +kernel
theorem kC_7_25 : a_C 7 25 = some 6 := by decide +kernel
theorem kC_7_32 : a_C 7 32 = some 0 := by decide +kernel
theorem kC_10_20 : a_C 10 20 = some 4 := by decide +kernel
theorem kC_10_37 : a_C 10 37 = some 9 := by decide +kernel
theorem kC_9_9 : a_C 9 9 = some 3 := by decide +kernel
theorem kC_10_50 : a_C 10 50 = some 2 := by decide +kernel
theorem kC_2_9 : a_C 2 9 = some 5 := by decide +kernel
theorem kC_5_9 : a_C 5 9 = some 3 := by decide +kernel
theorem kC_12_10 : a_C 12 10 = some 11 := by decide +kernel
theorem kA_10_7 : a_A 10 7 = some 3 := by decide +kernel
theorem kA_9_9 : a_A 9 9 = some 4 := by decide +kernel
theorem kA_5_9 : a_A 5 9 = some 4 := by decide +kernel
theorem kI_4_75 : a_I 4 75 = some (.int 1000000) := by decide +kernel
theorem kI_10_118 : a_I 10 118 = some (.int 1000000) := by decide +kernel
theorem kI_11_145 : a_I 11 145 = some (.int 13000000) := by decide +kernel
theorem kI_2_18 : a_I 2 18 = some (.ref (aRO + 0)) := by decide +kernel
theorem kI_8_68 : a_I 8 68 = some (.ref (aRO + 1)) := by decide +kernel
theorem kI_10_213 : a_I 10 213 = some (.ref (aRO + 2)) := by decide +kernel
theorem kI_10_215 : a_I 10 215 = some (.ref (aRO + 3)) := by decide +kernel
theorem kI_10_217 : a_I 10 217 = some (.ref (aRO + 4)) := by decide +kernel
theorem kI_10_219 : a_I 10 219 = some (.ref (aRO + 5)) := by decide +kernel
theorem kI_10_221 : a_I 10 221 = some (.ref (aRO + 6)) := by decide +kernel
theorem kI_10_223 : a_I 10 223 = some (.ref (aRO + 7)) := by decide +kernel
theorem kI_10_225 : a_I 10 225 = some (.ref (aRO + 8)) := by decide +kernel
theorem kI_10_227 : a_I 10 227 = some (.ref (aRO + 9)) := by decide +kernel
theorem kI_10_229 : a_I 10 229 = some (.ref (aRO + 10)) := by decide +kernel
theorem kI_10_231 : a_I 10 231 = some (.ref (aRO + 11)) := by decide +kernel
theorem kI_10_233 : a_I 10 233 = some (.ref (aRO + 12)) := by decide +kernel
theorem kI_10_235 : a_I 10 235 = some (.ref (aRO + 13)) := by decide +kernel
theorem kI_10_237 : a_I 10 237 = some (.ref (aRO + 14)) := by decide +kernel
theorem kI_10_203 : a_I 10 203 = some (.ref (aRO + 15)) := by decide +kernel
theorem kL_8_63 : a_L 8 63 = some 255 := by decide +kernel
theorem kL_9_136 : a_L 9 136 = some 255 := by decide +kernel
theorem kL_11_65 : a_L 11 65 = some 255 := by decide +kernel
theorem kL_11_27 : a_L 11 27 = some 6840691 := by decide +kernel
theorem kL_11_29 : a_L 11 29 = some 422776956275 := by decide +kernel
theorem kL_11_31 : a_L 11 31 = some 1734702195 := by decide +kernel
theorem kL_11_33 : a_L 11 33 = some 465726301555 := by decide +kernel
theorem kL_11_35 : a_L 11 35 = some 1886745715 := by decide +kernel
theorem kL_11_37 : a_L 11 37 = some 1952998765 := by decide +kernel
theorem kL_11_39 : a_L 11 39 = some 1768846447 := by decide +kernel
theorem kL_11_41 : a_L 11 41 = some 26990 := by decide +kernel
theorem kL_11_43 : a_L 11 43 = some 97 := by decide +kernel
theorem kL_11_45 : a_L 11 45 = some 6451064 := by decide +kernel
theorem kL_11_47 : a_L 11 47 = some 6386277 := by decide +kernel
theorem kL_11_49 : a_L 11 49 = some 1836020325 := by decide +kernel
theorem kL_11_51 : a_L 11 51 = some 1952997742 := by decide +kernel
theorem kL_11_53 : a_L 11 53 = some 7237495 := by decide +kernel
theorem kL_11_55 : a_L 11 55 = some 6844279 := by decide +kernel
theorem kL_11_57 : a_L 11 57 = some 1835101817 := by decide +kernel
theorem kL_11_59 : a_L 11 59 = some 1751217765 := by decide +kernel
theorem kL_11_61 : a_L 11 61 = some 1651471464 := by decide +kernel
theorem kL_11_63 : a_L 11 63 = some 6840676 := by decide +kernel
theorem kL_12_13 : a_L 12 13 = some 4294967295 := by decide +kernel
theorem kG_20_38 : a_Gs 20 38 = some 0 := by decide +kernel
theorem kG_20_1053 : a_Gs 20 1053 = some 1 := by decide +kernel
