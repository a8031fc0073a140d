/-! ===== the class's walk over the sets ===== -/
def k_way (w a x y z i : Int32) : Int32 := if w = 0 then x + y else if w = 1 then (if 0 ≤ x - y then x - y else 0 - (x - y)) else if w = 2 then x * y else if w = 3 then x + y + z + i else if w = 4 then (if (if x < y then y else x) < (if z < i then i else z) then (if z < i then i else z) else (if x < y then y else x)) else if w = 5 then a + i else -1
theorem c_wayNumber {d : Nat} {g : aH} {wn : Nat → Int32} {te : Nat → Int32} {lo : Nat → Int32} {hi : Nat → Int32} {mt : Int32} {me : Int32} {tt : Int32} {ix : Int32} {ov : Int32} {su : Int32} {wx : Int32} {wy : Int32} {wz : Int32} {wi : Int32} {wa : Int32} {w : Int32} {Q : Option Value → aH → Prop} : wp d mX4_wayNumber 0 [some (.ref 18), some (.int w)] [] (KW g wn te lo hi mt me tt ix ov su wx wy wz wi wa) Q ↔ Q (some (.int (k_way w wa wx wy wz wi))) (KW g wn te lo hi mt me tt ix ov su wx wy wz wi wa) := by
  simp only [sX4_wayNumber_0, sX4_wayNumber_1, sX4_wayNumber_40, sX4_wayNumber_41, sX4_wayNumber_44, sX4_wayNumber_45, sX4_wayNumber_48, sX4_wayNumber_49, sX4_wayNumber_50, sX4_wayNumber_51, sX4_wayNumber_54, sX4_wayNumber_55, sX4_wayNumber_58, sX4_wayNumber_59, sX4_wayNumber_62, sX4_wayNumber_63, sX4_wayNumber_64, sX4_wayNumber_67, sX4_wayNumber_68, sX4_wayNumber_71, sX4_wayNumber_72, sX4_wayNumber_73, sX4_wayNumber_74, sX4_wayNumber_77, sX4_wayNumber_78, sX4_wayNumber_81, sX4_wayNumber_82, sX4_wayNumber_83, sX4_wayNumber_86, sX4_wayNumber_87, sX4_wayNumber_88, sX4_wayNumber_91, sX4_wayNumber_92, sX4_wayNumber_93, sX4_wayNumber_94, sX4_wayNumber_97, sX4_wayNumber_98, sX4_wayNumber_101, sX4_wayNumber_104, sX4_wayNumber_105, sX4_wayNumber_108, sX4_wayNumber_109, sX4_wayNumber_112, sX4_wayNumber_115, sX4_wayNumber_118, sX4_wayNumber_119, sX4_wayNumber_120, sX4_wayNumber_123, sX4_wayNumber_124, sX4_wayNumber_127, sX4_wayNumber_128, sX4_wayNumber_129, sX4_wayNumber_130, e_clrI, e_clrR, e_clrU, e_clrN, e_clrL, e_s0, e_s1, e_s2, e_s3, e_s4, e_z0, e_z1, e_f0, e_f1, e_tl, e_tn, e_q0, e_q1, e_zi, e_zj, true_and, and_true, ↓reduceIte, hKW_1, hKW_2, hKW_x, hKW_pu, hKW_xpf, hKW_xas, hKW_xasz, hKW_xasl, hKW_rc18, hKW_g18_0, hKW_g18_1, hKW_g18_2, hKW_g18_3, hKW_g18_4, hKW_g18_5, hKW_g18_6, hKW_u18_6, hKW_p18_6, hKW_g18_7, hKW_u18_7, hKW_p18_7, hKW_g18_8, hKW_u18_8, hKW_p18_8, hKW_g18_9, hKW_u18_9, hKW_p18_9, hKW_g18_10, hKW_u18_10, hKW_p18_10, hKW_g18_11, hKW_u18_11, hKW_p18_11, hKW_g18_12, hKW_u18_12, hKW_p18_12, hKW_g18_13, hKW_u18_13, hKW_p18_13, hKW_g18_14, hKW_u18_14, hKW_p18_14, hKW_g18_15, hKW_u18_15, hKW_p18_15, hKW_g18_16, hKW_u18_16, hKW_p18_16, hKW_n19, hKW_l19, hKW_v19, hKW_s19, hKW_n20, hKW_l20, hKW_v20, hKW_s20, hKW_n21, hKW_l21, hKW_v21, hKW_s21, hKW_n22, hKW_l22, hKW_v22, hKW_s22, e_c0, e_c1, e_c2, e_c3, e_c4, e_c5, e_c6, e_c7, e_c8, e_c9, e_c10, e_c11, e_c12, e_c13, e_c14, e_c15, e_c16, e_c17, e_c18, e_c19, e_c20, e_c21, e_c22, e_c23, e_c24, e_c25, e_c26, e_c27, e_c28, e_c29, e_c30, e_c31, e_c32, e_c33, e_c34, e_c35, e_c36, e_c37, e_c38, e_c39, e_c40, e_c41, e_c42, e_c43, e_c44, e_c45, e_c46, e_c47, e_c48, e_c49, e_c50, e_c51, e_c52, e_c53, e_c54, e_c55, e_c56, e_c57, e_c58, e_c59, e_c60, e_c61, e_c62, e_c63, e_c64, e_c65, e_c66, e_c67, e_c68, e_c69, e_c70, e_i3848_0, e_i3848_1, e_i3848_2, e_i3848_3, e_i3848_4, e_i3848_5, e_i3848_6, e_i3848_7, e_i3848_8, e_i3848_9, e_i3848_10, e_i3848_11, e_i3848_12, e_i3848_13, e_i3848_14, e_i3848_15, e_i3848_16, e_i3848_17, e_i3848_18, e_i3848_19, e_i3848_20, e_i3848_21, e_i3848_22, e_i3848_23, e_i3848_24, e_i3848_25, e_i3848_26, e_i3848_27, e_i3848_28, e_i3848_29, e_i3848_30, e_i3848_31, e_i3848_32, e_i3848_33, e_i3848_34, e_i3848_35, e_i3848_36, e_i3848_37, e_i3848_38, e_i3848_39, e_i3848_40, e_i3848_41, e_i3848_42, e_i3848_43, e_i3848_44, e_i3848_45, e_i3848_46, e_i3848_47, e_i3848_48, e_i3848_49, e_i3848_50, e_i3848_51, e_i3848_52, e_i3848_53, e_i3848_54, e_i3848_55, e_i3848_56, e_i3848_57, e_i3848_58, e_i3848_59, e_i3848_60, e_i3848_61, e_i3848_62, e_i3848_63, e_i3848_64, e_i3848_65, e_i3848_66, e_i3848_67, e_i3848_68, e_i3848_69, e_i3848_70, e_i35_0, e_i35_1, e_i35_2, e_i35_3, e_i35_4, e_i35_5, e_i35_6, e_i35_7, e_i35_8, e_i35_9, e_i35_10, e_i35_11, e_i35_12, e_i35_13, e_i35_14, e_i35_15, e_i35_16, e_i35_17, e_i35_18, e_i35_19, e_i35_20, e_i35_21, e_i35_22, e_i35_23, e_i35_24, e_i35_25, e_i35_26, e_i35_27, e_i35_28, e_i35_29, e_i35_30, e_i35_31, e_i35_32, e_i35_33, e_i35_34, e_i20_0, e_i20_1, e_i20_2, e_i20_3, e_i20_4, e_i20_5, e_i20_6, e_i20_7, e_i20_8, e_i20_9, e_i20_10, e_i20_11, e_i20_12, e_i20_13, e_i20_14, e_i20_15, e_i20_16, e_i20_17, e_i20_18, e_i20_19, e_i48_0, e_i48_1, e_i48_2, e_i48_3, e_i48_4, e_i48_5, e_i48_6, e_i48_7, e_i48_8, e_i48_9, e_i48_10, e_i48_11, e_i48_12, e_i3_0, e_i3_1, e_i3_2, e_i4_0, e_i4_1, e_i4_2, e_i4_3, e_i6_0, e_i6_1, e_i6_2, e_i6_3, e_i6_4, e_i6_5, e_i11_0, e_i11_1, e_i11_2, e_i11_3, e_i11_4, e_i11_5, e_i11_6, e_i11_7, e_i11_8, e_i11_9, e_i11_10, e_i12_0, e_i12_1, e_i12_2, e_i12_3, e_i12_4, e_i12_5, e_i12_6, e_i12_7, e_i12_8, e_i12_9, e_i12_10, e_i12_11]
  unfold k_way
  repeat' split
  all_goals first | exact Iff.rfl | contradiction
theorem nI_sub {a b : Nat} (h : b ≤ a) : nI a - nI b = nI (a - b) := by
  obtain ⟨c, rfl⟩ := Nat.exists_eq_add_of_le h
  rw [Nat.add_sub_cancel_left, ← nI_add]
  grind
theorem k_way_p {w : Nat} {s a : Int32} {x y z i : Nat} (hw : w < 6) (hx : x < 1000) (hy : y < 1000) (hz : z < 1000) (hi : i < 1000) (ha : a = p_ans s (nI x) (nI y) (nI z)) : k_way (nI w) a (nI x) (nI y) (nI z) (nI i) = p_way (nI w) s (nI x) (nI y) (nI z) (nI i) := by
  subst ha
  have h1 : (if (0 : Int32) ≤ nI x - nI y then nI x - nI y else 0 - (nI x - nI y)) = if nI y < nI x then nI x - nI y else nI y - nI x := by
    by_cases h : y < x
    · rw [nI_sub (by omega), if_pos (nI_pos' (by omega)), if_pos (nI_lt h (by omega))]
    · have h2 : ¬ nI y < nI x := nI_nlt (by omega) (by omega)
      rw [if_neg h2]
      by_cases h3 : x = y
      · subst h3; rw [nI_sub (by omega)]; simp [nI_0]
      · have h4 : ¬ (0 : Int32) ≤ nI x - nI y := by
          have e : nI x - nI y = - nI (y - x) := by rw [← nI_sub (by omega)]; grind
          rw [e, Int32.le_iff_toInt_le, Int32.toInt_neg, nI_toInt (by omega)]
          rw [show (0 : Int32).toInt = 0 from rfl, Int.bmod_def]
          omega
        rw [if_neg h4]
        grind
  have h4 : (if (if nI x < nI y then nI y else nI x) < (if nI z < nI i then nI i else nI z) then (if nI z < nI i then nI i else nI z) else (if nI x < nI y then nI y else nI x)) = (if (if (if nI y < nI x then nI x else nI y) < nI z then nI z else if nI y < nI x then nI x else nI y) < nI i then nI i else if (if nI y < nI x then nI x else nI y) < nI z then nI z else if nI y < nI x then nI x else nI y) := by
    have a1 : nI x < nI y ↔ x < y := nI_ltI (by omega) (by omega)
    have a2 : nI y < nI x ↔ y < x := nI_ltI (by omega) (by omega)
    have a3 : nI z < nI i ↔ z < i := nI_ltI (by omega) (by omega)
    have e1 : (if nI x < nI y then nI y else nI x) = nI (max x y) := by rw [Nat.max_def]; simp only [a1]; grind
    have e2 : (if nI y < nI x then nI x else nI y) = nI (max x y) := by rw [Nat.max_def]; simp only [a2]; grind
    have e3 : (if nI z < nI i then nI i else nI z) = nI (max z i) := by rw [Nat.max_def]; simp only [a3]; grind
    rw [e1, e2, e3]
    have b1 : nI (max x y) < nI (max z i) ↔ max x y < max z i := nI_ltI (by omega) (by omega)
    have b2 : nI (max x y) < nI z ↔ max x y < z := nI_ltI (by omega) (by omega)
    have e4 : (if nI (max x y) < nI z then nI z else nI (max x y)) = nI (max (max x y) z) := by
      by_cases hh : max x y < z
      · rw [if_pos (b2.mpr hh)]; congr 1; omega
      · rw [if_neg (fun q => hh (b2.mp q))]; congr 1; omega
    rw [e4]
    have b3 : nI (max (max x y) z) < nI i ↔ max (max x y) z < i := nI_ltI (by omega) (by omega)
    simp only [b1, b3]
    split <;> split <;> congr 1 <;> omega
  unfold k_way p_way
  rw [h1, h4]
  have h5 : ∀ w, w < 6 → nI w = 0 ∨ nI w = 1 ∨ nI w = 2 ∨ nI w = 3 ∨ nI w = 4 ∨ nI w = 5 := by decide +kernel
  rcases h5 w hw with h | h | h | h | h | h <;> rw [h] <;> rfl
