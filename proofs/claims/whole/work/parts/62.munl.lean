/-! ===== the reference's isUnlike ===== -/
theorem m_unl_in {d : Nat} {g : aH} {al : Nat → Int32} {wd : Nat → Int64} {hs : Nat → Int32} {vx : Int32} {vy : Int32} {vz : Int32} {vi : Int32} {an : Nat → Int32} {sz : Int32} {nx : Int32} {wh : Int32} {tk : Int32} {td : Int32} {wr : Int32} {rw : Nat → Int32} {sn : Int32} {ak : Int32} {n0 : Int32} {n1 : Int32} (hsf : p_sf (al 2) vy vz) {Q : Option Value → aH → Prop} (a : Nat) (ha : a < 6) : ∀ (n b : Nat), a - b = n → b ≤ a →
    (∀ c, wp (d + 3) mX11_isUnlike 4 [some (.ref 35), some (.int (if p_inn (fun v => p_tem (al 8) (nI v) (al 2) (al 6)) (fun v => p_way (nI v) (al 2) vx vy vz vi) a b then 1 else 0)), some (.int (nI a + 1)), some (.int c)] [] (HM g al wd hs vx vy vz vi an sz nx wh tk td wr rw sn ak n0 n1) Q) →
    wp (d + 3) mX11_isUnlike 45 [some (.ref 35), some (.int 1), some (.int (nI a)), some (.int (nI b))] [] (HM g al wd hs vx vy vz vi an sz nx wh tk td wr rw sn ak n0 n1) Q := by
  intro n
  induction n with
  | zero =>
    intro b h1 h2 hk
    have hba : b = a := by omega
    subst hba
    rw [sX11_isUnlike_45]
    simp only [sX11_isUnlike_0, sX11_isUnlike_1, sX11_isUnlike_2, sX11_isUnlike_3, sX11_isUnlike_5, sX11_isUnlike_7, sX11_isUnlike_10, sX11_isUnlike_11, sX11_isUnlike_14, sX11_isUnlike_15, sX11_isUnlike_16, sX11_isUnlike_19, sX11_isUnlike_22, sX11_isUnlike_25, sX11_isUnlike_26, sX11_isUnlike_27, sX11_isUnlike_30, sX11_isUnlike_31, sX11_isUnlike_34, sX11_isUnlike_37, sX11_isUnlike_38, sX11_isUnlike_41, sX11_isUnlike_42, sX11_isUnlike_43, sX11_isUnlike_44, sX11_isUnlike_46, sX11_isUnlike_47, sX11_isUnlike_50, sX11_isUnlike_51, sX11_isUnlike_54, sX11_isUnlike_55, sX11_isUnlike_56, sX11_isUnlike_59, sX11_isUnlike_62, sX11_isUnlike_63, sX11_isUnlike_64, sX11_isUnlike_67, sX11_isUnlike_68, sX11_isUnlike_69, sX11_isUnlike_72, sX11_isUnlike_75, sX11_isUnlike_76, sX11_isUnlike_79, sX11_isUnlike_80, sX11_isUnlike_81, sX11_isUnlike_84, sX11_isUnlike_87, sX11_isUnlike_90, sX11_isUnlike_93, sX11_isUnlike_94, e_clrI, e_clrR, e_clrU, e_clrN, e_clrL, e_s0, e_s1, e_s2, e_s3, e_s4, e_z0, e_z1, e_f0, e_f1, e_tl, e_tn, e_q0, e_q1, e_zi, e_zj, true_and, and_true, ↓reduceIte, hM_rc, hM_g0, hM_g1, hM_g2, hM_g3, hM_g4, hM_g5, hM_g6, hM_g7, hM_g8, hM_g9, hM_g10, hM_g11, hM_g12, hM_g13, hM_g14, hM_g15, hM_g16, hM_g17, hM_g18, hM_p3, hM_p4, hM_p5, hM_p6, hM_p8, hM_p9, hM_p10, hM_p11, hM_p12, hM_p13, hM_p15, hM_p16, hM_p17, hM_p18, hM_l36, hM_l37, hM_l38, hM_l39, hM_l40, hM_s36, hM_s37, hM_s38, hM_s39, hM_s40, e_c0, e_c1, e_c2, e_c3, e_c4, e_c5, e_c6, e_c7, e_c8, e_c9, e_c10, e_c11, e_c12, e_c13, e_c14, e_c15, e_c16, e_c17, e_c18, e_c19, e_c20, e_c21, e_c22, e_c23, e_c24, e_c25, e_c26, e_c27, e_c28, e_c29, e_c30, e_c31, e_c32, e_c33, e_c34, e_c35, e_c36, e_c37, e_c38, e_c39, e_c40, e_c41, e_c42, e_c43, e_c44, e_c45, e_c46, e_c47, e_c48, e_c49, e_c50, e_c51, e_c52, e_c53, e_c54, e_c55, e_c56, e_c57, e_c58, e_c59, e_c60, e_c61, e_c62, e_c63, e_c64, e_c65, e_c66, e_c67, e_c68, e_c69, e_c70, e_i3848_0, e_i3848_1, e_i3848_2, e_i3848_3, e_i3848_4, e_i3848_5, e_i3848_6, e_i3848_7, e_i3848_8, e_i3848_9, e_i3848_10, e_i3848_11, e_i3848_12, e_i3848_13, e_i3848_14, e_i3848_15, e_i3848_16, e_i3848_17, e_i3848_18, e_i3848_19, e_i3848_20, e_i3848_21, e_i3848_22, e_i3848_23, e_i3848_24, e_i3848_25, e_i3848_26, e_i3848_27, e_i3848_28, e_i3848_29, e_i3848_30, e_i3848_31, e_i3848_32, e_i3848_33, e_i3848_34, e_i3848_35, e_i3848_36, e_i3848_37, e_i3848_38, e_i3848_39, e_i3848_40, e_i3848_41, e_i3848_42, e_i3848_43, e_i3848_44, e_i3848_45, e_i3848_46, e_i3848_47, e_i3848_48, e_i3848_49, e_i3848_50, e_i3848_51, e_i3848_52, e_i3848_53, e_i3848_54, e_i3848_55, e_i3848_56, e_i3848_57, e_i3848_58, e_i3848_59, e_i3848_60, e_i3848_61, e_i3848_62, e_i3848_63, e_i3848_64, e_i3848_65, e_i3848_66, e_i3848_67, e_i3848_68, e_i3848_69, e_i3848_70, e_i35_0, e_i35_1, e_i35_2, e_i35_3, e_i35_4, e_i35_5, e_i35_6, e_i35_7, e_i35_8, e_i35_9, e_i35_10, e_i35_11, e_i35_12, e_i35_13, e_i35_14, e_i35_15, e_i35_16, e_i35_17, e_i35_18, e_i35_19, e_i35_20, e_i35_21, e_i35_22, e_i35_23, e_i35_24, e_i35_25, e_i35_26, e_i35_27, e_i35_28, e_i35_29, e_i35_30, e_i35_31, e_i35_32, e_i35_33, e_i35_34, e_i20_0, e_i20_1, e_i20_2, e_i20_3, e_i20_4, e_i20_5, e_i20_6, e_i20_7, e_i20_8, e_i20_9, e_i20_10, e_i20_11, e_i20_12, e_i20_13, e_i20_14, e_i20_15, e_i20_16, e_i20_17, e_i20_18, e_i20_19, e_i48_0, e_i48_1, e_i48_2, e_i48_3, e_i48_4, e_i48_5, e_i48_6, e_i48_7, e_i48_8, e_i48_9, e_i48_10, e_i48_11, e_i48_12, e_i3_0, e_i3_1, e_i3_2, e_i4_0, e_i4_1, e_i4_2, e_i4_3, e_i6_0, e_i6_1, e_i6_2, e_i6_3, e_i6_4, e_i6_5, e_i11_0, e_i11_1, e_i11_2, e_i11_3, e_i11_4, e_i11_5, e_i11_6, e_i11_7, e_i11_8, e_i11_9, e_i11_10, e_i12_0, e_i12_1, e_i12_2, e_i12_3, e_i12_4, e_i12_5, e_i12_6, e_i12_7, e_i12_8, e_i12_9, e_i12_10, e_i12_11, m_isTempting, m_way hsf, m_answer hsf]
    have hle : nI b ≤ nI b := Int32.le_refl _
    simp only [hle, if_true]
    have := hk (nI b)
    have he : p_inn (fun v => p_tem (al 8) (nI v) (al 2) (al 6)) (fun v => p_way (nI v) (al 2) vx vy vz vi) b b = true := by
      unfold p_inn; simp only [decide_eq_true_eq]; intro v h3 h4; omega
    simp only [he, if_true] at this
    exact this
  | succ n ih =>
    intro b h1 h2 hk
    have hlt : b < a := by omega
    rw [sX11_isUnlike_45]
    simp only [sX11_isUnlike_0, sX11_isUnlike_1, sX11_isUnlike_2, sX11_isUnlike_3, sX11_isUnlike_5, sX11_isUnlike_7, sX11_isUnlike_10, sX11_isUnlike_11, sX11_isUnlike_14, sX11_isUnlike_15, sX11_isUnlike_16, sX11_isUnlike_19, sX11_isUnlike_22, sX11_isUnlike_25, sX11_isUnlike_26, sX11_isUnlike_27, sX11_isUnlike_30, sX11_isUnlike_31, sX11_isUnlike_34, sX11_isUnlike_37, sX11_isUnlike_38, sX11_isUnlike_41, sX11_isUnlike_42, sX11_isUnlike_43, sX11_isUnlike_44, sX11_isUnlike_46, sX11_isUnlike_47, sX11_isUnlike_50, sX11_isUnlike_51, sX11_isUnlike_54, sX11_isUnlike_55, sX11_isUnlike_56, sX11_isUnlike_59, sX11_isUnlike_62, sX11_isUnlike_63, sX11_isUnlike_64, sX11_isUnlike_67, sX11_isUnlike_68, sX11_isUnlike_69, sX11_isUnlike_72, sX11_isUnlike_75, sX11_isUnlike_76, sX11_isUnlike_79, sX11_isUnlike_80, sX11_isUnlike_81, sX11_isUnlike_84, sX11_isUnlike_87, sX11_isUnlike_90, sX11_isUnlike_93, sX11_isUnlike_94, e_clrI, e_clrR, e_clrU, e_clrN, e_clrL, e_s0, e_s1, e_s2, e_s3, e_s4, e_z0, e_z1, e_f0, e_f1, e_tl, e_tn, e_q0, e_q1, e_zi, e_zj, true_and, and_true, ↓reduceIte, hM_rc, hM_g0, hM_g1, hM_g2, hM_g3, hM_g4, hM_g5, hM_g6, hM_g7, hM_g8, hM_g9, hM_g10, hM_g11, hM_g12, hM_g13, hM_g14, hM_g15, hM_g16, hM_g17, hM_g18, hM_p3, hM_p4, hM_p5, hM_p6, hM_p8, hM_p9, hM_p10, hM_p11, hM_p12, hM_p13, hM_p15, hM_p16, hM_p17, hM_p18, hM_l36, hM_l37, hM_l38, hM_l39, hM_l40, hM_s36, hM_s37, hM_s38, hM_s39, hM_s40, e_c0, e_c1, e_c2, e_c3, e_c4, e_c5, e_c6, e_c7, e_c8, e_c9, e_c10, e_c11, e_c12, e_c13, e_c14, e_c15, e_c16, e_c17, e_c18, e_c19, e_c20, e_c21, e_c22, e_c23, e_c24, e_c25, e_c26, e_c27, e_c28, e_c29, e_c30, e_c31, e_c32, e_c33, e_c34, e_c35, e_c36, e_c37, e_c38, e_c39, e_c40, e_c41, e_c42, e_c43, e_c44, e_c45, e_c46, e_c47, e_c48, e_c49, e_c50, e_c51, e_c52, e_c53, e_c54, e_c55, e_c56, e_c57, e_c58, e_c59, e_c60, e_c61, e_c62, e_c63, e_c64, e_c65, e_c66, e_c67, e_c68, e_c69, e_c70, e_i3848_0, e_i3848_1, e_i3848_2, e_i3848_3, e_i3848_4, e_i3848_5, e_i3848_6, e_i3848_7, e_i3848_8, e_i3848_9, e_i3848_10, e_i3848_11, e_i3848_12, e_i3848_13, e_i3848_14, e_i3848_15, e_i3848_16, e_i3848_17, e_i3848_18, e_i3848_19, e_i3848_20, e_i3848_21, e_i3848_22, e_i3848_23, e_i3848_24, e_i3848_25, e_i3848_26, e_i3848_27, e_i3848_28, e_i3848_29, e_i3848_30, e_i3848_31, e_i3848_32, e_i3848_33, e_i3848_34, e_i3848_35, e_i3848_36, e_i3848_37, e_i3848_38, e_i3848_39, e_i3848_40, e_i3848_41, e_i3848_42, e_i3848_43, e_i3848_44, e_i3848_45, e_i3848_46, e_i3848_47, e_i3848_48, e_i3848_49, e_i3848_50, e_i3848_51, e_i3848_52, e_i3848_53, e_i3848_54, e_i3848_55, e_i3848_56, e_i3848_57, e_i3848_58, e_i3848_59, e_i3848_60, e_i3848_61, e_i3848_62, e_i3848_63, e_i3848_64, e_i3848_65, e_i3848_66, e_i3848_67, e_i3848_68, e_i3848_69, e_i3848_70, e_i35_0, e_i35_1, e_i35_2, e_i35_3, e_i35_4, e_i35_5, e_i35_6, e_i35_7, e_i35_8, e_i35_9, e_i35_10, e_i35_11, e_i35_12, e_i35_13, e_i35_14, e_i35_15, e_i35_16, e_i35_17, e_i35_18, e_i35_19, e_i35_20, e_i35_21, e_i35_22, e_i35_23, e_i35_24, e_i35_25, e_i35_26, e_i35_27, e_i35_28, e_i35_29, e_i35_30, e_i35_31, e_i35_32, e_i35_33, e_i35_34, e_i20_0, e_i20_1, e_i20_2, e_i20_3, e_i20_4, e_i20_5, e_i20_6, e_i20_7, e_i20_8, e_i20_9, e_i20_10, e_i20_11, e_i20_12, e_i20_13, e_i20_14, e_i20_15, e_i20_16, e_i20_17, e_i20_18, e_i20_19, e_i48_0, e_i48_1, e_i48_2, e_i48_3, e_i48_4, e_i48_5, e_i48_6, e_i48_7, e_i48_8, e_i48_9, e_i48_10, e_i48_11, e_i48_12, e_i3_0, e_i3_1, e_i3_2, e_i4_0, e_i4_1, e_i4_2, e_i4_3, e_i6_0, e_i6_1, e_i6_2, e_i6_3, e_i6_4, e_i6_5, e_i11_0, e_i11_1, e_i11_2, e_i11_3, e_i11_4, e_i11_5, e_i11_6, e_i11_7, e_i11_8, e_i11_9, e_i11_10, e_i12_0, e_i12_1, e_i12_2, e_i12_3, e_i12_4, e_i12_5, e_i12_6, e_i12_7, e_i12_8, e_i12_9, e_i12_10, e_i12_11, m_isTempting, m_way hsf, m_answer hsf]
    have hle : ¬ nI a ≤ nI b := nI_ge hlt (by omega)
    have h10 : ¬ (1 : Int32) = 0 := by decide
    simp only [hle, h10, if_false]
    have hstep : p_inn (fun v => p_tem (al 8) (nI v) (al 2) (al 6)) (fun v => p_way (nI v) (al 2) vx vy vz vi) a b = ((!p_tem (al 8) (nI b) (al 2) (al 6) || decide (p_way (nI b) (al 2) vx vy vz vi ≠ p_way (nI a) (al 2) vx vy vz vi)) && p_inn (fun v => p_tem (al 8) (nI v) (al 2) (al 6)) (fun v => p_way (nI v) (al 2) vx vy vz vi) a (b + 1)) := by
      unfold p_inn
      rw [Bool.eq_iff_iff]
      simp only [decide_eq_true_eq, Bool.and_eq_true, Bool.or_eq_true, Bool.not_eq_true']
      constructor
      · intro q
        refine ⟨?_, fun v h3 h4 => q v h3 (by omega)⟩
        cases ht : p_tem (al 8) (nI b) (al 2) (al 6) with
        | false => exact Or.inl rfl
        | true => exact Or.inr (q b hlt (Nat.le_refl _) ht)
      · rintro ⟨q1, q2⟩ v h3 h4 h5
        rcases Nat.lt_or_ge b v with h6 | h6
        · exact q2 v h3 h6 h5
        · have : v = b := by omega
          subst this
          rcases q1 with q1 | q1
          · rw [q1] at h5; cases h5
          · exact q1
    have hgo : (!p_tem (al 8) (nI b) (al 2) (al 6) || decide (p_way (nI b) (al 2) vx vy vz vi ≠ p_way (nI a) (al 2) vx vy vz vi)) = true → wp (d + 3) mX11_isUnlike 45 [some (.ref 35), some (.int 1), some (.int (nI a)), some (.int (nI b + 1))] [] (HM g al wd hs vx vy vz vi an sz nx wh tk td wr rw sn ak n0 n1) Q := by
      intro hb
      rw [nI_1]
      refine ih (b + 1) (by omega) (by omega) (fun c => ?_)
      have := hk c
      rw [hstep, hb, Bool.true_and] at this
      exact this
    have hno : (!p_tem (al 8) (nI b) (al 2) (al 6) || decide (p_way (nI b) (al 2) vx vy vz vi ≠ p_way (nI a) (al 2) vx vy vz vi)) = false → wp (d + 3) mX11_isUnlike 45 [some (.ref 35), some (.int 0), some (.int (nI a)), some (.int (nI b + 1))] [] (HM g al wd hs vx vy vz vi an sz nx wh tk td wr rw sn ak n0 n1) Q := by
      intro hb
      rw [sX11_isUnlike_45]
      simp only [sX11_isUnlike_0, sX11_isUnlike_1, sX11_isUnlike_2, sX11_isUnlike_3, sX11_isUnlike_5, sX11_isUnlike_7, sX11_isUnlike_10, sX11_isUnlike_11, sX11_isUnlike_14, sX11_isUnlike_15, sX11_isUnlike_16, sX11_isUnlike_19, sX11_isUnlike_22, sX11_isUnlike_25, sX11_isUnlike_26, sX11_isUnlike_27, sX11_isUnlike_30, sX11_isUnlike_31, sX11_isUnlike_34, sX11_isUnlike_37, sX11_isUnlike_38, sX11_isUnlike_41, sX11_isUnlike_42, sX11_isUnlike_43, sX11_isUnlike_44, sX11_isUnlike_46, sX11_isUnlike_47, sX11_isUnlike_50, sX11_isUnlike_51, sX11_isUnlike_54, sX11_isUnlike_55, sX11_isUnlike_56, sX11_isUnlike_59, sX11_isUnlike_62, sX11_isUnlike_63, sX11_isUnlike_64, sX11_isUnlike_67, sX11_isUnlike_68, sX11_isUnlike_69, sX11_isUnlike_72, sX11_isUnlike_75, sX11_isUnlike_76, sX11_isUnlike_79, sX11_isUnlike_80, sX11_isUnlike_81, sX11_isUnlike_84, sX11_isUnlike_87, sX11_isUnlike_90, sX11_isUnlike_93, sX11_isUnlike_94, e_clrI, e_clrR, e_clrU, e_clrN, e_clrL, e_s0, e_s1, e_s2, e_s3, e_s4, e_z0, e_z1, e_f0, e_f1, e_tl, e_tn, e_q0, e_q1, e_zi, e_zj, true_and, and_true, ↓reduceIte]
      have := hk (nI b + 1)
      rw [hstep, hb, Bool.false_and] at this
      simp only [Bool.false_eq_true, if_false] at this
      simp only [if_true, ite_self]
      exact this
    by_cases ht : p_tem (al 8) (nI b) (al 2) (al 6) = true
    · by_cases hw : p_way (nI b) (al 2) vx vy vz vi = p_way (nI a) (al 2) vx vy vz vi
      · simp only [ht, hw, if_true, not_true_eq_false, if_false]
        exact hno (by simp [ht, hw])
      · simp only [ht, hw, if_true, not_true_eq_false, if_false]
        exact hgo (by simp [hw])
    · simp only [ht, not_false_eq_true, if_true]
      exact hgo (by simp [ht])
