/-! ===== the class's areUnlike ===== -/
theorem p_inn_s {T : Nat → Bool} {W : Nat → Int32} {a b : Nat} (hlt : b < a) : p_inn T W a b = ((!T b || decide (W b ≠ W a)) && p_inn T W a (b + 1)) := by
  unfold p_inn
  rw [Bool.eq_iff_iff]
  simp only [decide_eq_true_eq, Bool.and_eq_true, Bool.or_eq_true, Bool.not_eq_true']
  constructor
  · intro q
    refine ⟨?_, fun v h3 h4 => q v h3 (by omega)⟩
    cases ht : T b with
    | false => exact Or.inl rfl
    | true => exact Or.inr (q b hlt (Nat.le_refl _) ht)
  · rintro ⟨q1, q2⟩ v h3 h4 h5
    rcases Nat.lt_or_ge b v with h6 | h6
    · exact q2 v h3 h6 h5
    · have : v = b := by omega
      subst this
      rcases q1 with q1 | q1
      · rw [q1] at h5; cases h5
      · exact q1
theorem p_inn_e {T : Nat → Bool} {W : Nat → Int32} {a : Nat} : p_inn T W a a = true := by
  unfold p_inn; simp only [decide_eq_true_eq]; intro v h3 h4; omega
theorem c_told {d : Nat} {g : aH} {wn : Nat → Int32} {te : Nat → Int32} {lo : Nat → Int32} {hi : Nat → Int32} {mt : Int32} {me : Int32} {tt : Int32} {ix : Int32} {ov : Int32} {su : Int32} {wx : Int32} {wy : Int32} {wz : Int32} {wi : Int32} {wa : Int32} {T : Nat → Bool} (hte : ∀ w, w < 6 → te w = if T w then 1 else 0) {Q : Option Value → aH → Prop} (a : Nat) (ha : a < 6) : ∀ (n b : Nat), a - b = n → b ≤ a → Q (some (.int (if p_inn T wn a b then 0 else 1))) (KW g wn te lo hi mt me tt ix ov su wx wy wz wi wa) →
    wp d mX4_isTold 2 [some (.ref 18), some (.int (nI a)), some (.int (nI b))] [] (KW g wn te lo hi mt me tt ix ov su wx wy wz wi wa) Q := by
  intro n
  induction n with
  | zero =>
    intro b h1 h2 hk
    have hba : b = a := by omega
    subst hba
    rw [sX4_isTold_2]
    simp only [sX4_isTold_0, sX4_isTold_1, sX4_isTold_3, sX4_isTold_4, sX4_isTold_7, sX4_isTold_8, sX4_isTold_11, sX4_isTold_12, sX4_isTold_13, sX4_isTold_16, sX4_isTold_17, sX4_isTold_20, sX4_isTold_21, sX4_isTold_22, sX4_isTold_23, sX4_isTold_26, sX4_isTold_27, sX4_isTold_28, sX4_isTold_31, sX4_isTold_32, sX4_isTold_33, sX4_isTold_36, sX4_isTold_39, sX4_isTold_40, e_clrI, e_clrR, e_clrU, e_clrN, e_clrL, e_s0, e_s1, e_s2, e_s3, e_s4, e_z0, e_z1, e_f0, e_f1, e_tl, e_tn, e_q0, e_q1, e_zi, e_zj, true_and, and_true, ↓reduceIte, hKW_1, hKW_2, hKW_x, hKW_pu, hKW_xpf, hKW_xas, hKW_xasz, hKW_xasl, hKW_rc18, hKW_g18_0, hKW_g18_1, hKW_g18_2, hKW_g18_3, hKW_g18_4, hKW_g18_5, hKW_g18_6, hKW_u18_6, hKW_p18_6, hKW_g18_7, hKW_u18_7, hKW_p18_7, hKW_g18_8, hKW_u18_8, hKW_p18_8, hKW_g18_9, hKW_u18_9, hKW_p18_9, hKW_g18_10, hKW_u18_10, hKW_p18_10, hKW_g18_11, hKW_u18_11, hKW_p18_11, hKW_g18_12, hKW_u18_12, hKW_p18_12, hKW_g18_13, hKW_u18_13, hKW_p18_13, hKW_g18_14, hKW_u18_14, hKW_p18_14, hKW_g18_15, hKW_u18_15, hKW_p18_15, hKW_g18_16, hKW_u18_16, hKW_p18_16, hKW_n19, hKW_l19, hKW_v19, hKW_s19, hKW_n20, hKW_l20, hKW_v20, hKW_s20, hKW_n21, hKW_l21, hKW_v21, hKW_s21, hKW_n22, hKW_l22, hKW_v22, hKW_s22, e_c0, e_c1, e_c2, e_c3, e_c4, e_c5, e_c6, e_c7, e_c8, e_c9, e_c10, e_c11, e_c12, e_c13, e_c14, e_c15, e_c16, e_c17, e_c18, e_c19, e_c20, e_c21, e_c22, e_c23, e_c24, e_c25, e_c26, e_c27, e_c28, e_c29, e_c30, e_c31, e_c32, e_c33, e_c34, e_c35, e_c36, e_c37, e_c38, e_c39, e_c40, e_c41, e_c42, e_c43, e_c44, e_c45, e_c46, e_c47, e_c48, e_c49, e_c50, e_c51, e_c52, e_c53, e_c54, e_c55, e_c56, e_c57, e_c58, e_c59, e_c60, e_c61, e_c62, e_c63, e_c64, e_c65, e_c66, e_c67, e_c68, e_c69, e_c70, e_i3848_0, e_i3848_1, e_i3848_2, e_i3848_3, e_i3848_4, e_i3848_5, e_i3848_6, e_i3848_7, e_i3848_8, e_i3848_9, e_i3848_10, e_i3848_11, e_i3848_12, e_i3848_13, e_i3848_14, e_i3848_15, e_i3848_16, e_i3848_17, e_i3848_18, e_i3848_19, e_i3848_20, e_i3848_21, e_i3848_22, e_i3848_23, e_i3848_24, e_i3848_25, e_i3848_26, e_i3848_27, e_i3848_28, e_i3848_29, e_i3848_30, e_i3848_31, e_i3848_32, e_i3848_33, e_i3848_34, e_i3848_35, e_i3848_36, e_i3848_37, e_i3848_38, e_i3848_39, e_i3848_40, e_i3848_41, e_i3848_42, e_i3848_43, e_i3848_44, e_i3848_45, e_i3848_46, e_i3848_47, e_i3848_48, e_i3848_49, e_i3848_50, e_i3848_51, e_i3848_52, e_i3848_53, e_i3848_54, e_i3848_55, e_i3848_56, e_i3848_57, e_i3848_58, e_i3848_59, e_i3848_60, e_i3848_61, e_i3848_62, e_i3848_63, e_i3848_64, e_i3848_65, e_i3848_66, e_i3848_67, e_i3848_68, e_i3848_69, e_i3848_70, e_i35_0, e_i35_1, e_i35_2, e_i35_3, e_i35_4, e_i35_5, e_i35_6, e_i35_7, e_i35_8, e_i35_9, e_i35_10, e_i35_11, e_i35_12, e_i35_13, e_i35_14, e_i35_15, e_i35_16, e_i35_17, e_i35_18, e_i35_19, e_i35_20, e_i35_21, e_i35_22, e_i35_23, e_i35_24, e_i35_25, e_i35_26, e_i35_27, e_i35_28, e_i35_29, e_i35_30, e_i35_31, e_i35_32, e_i35_33, e_i35_34, e_i20_0, e_i20_1, e_i20_2, e_i20_3, e_i20_4, e_i20_5, e_i20_6, e_i20_7, e_i20_8, e_i20_9, e_i20_10, e_i20_11, e_i20_12, e_i20_13, e_i20_14, e_i20_15, e_i20_16, e_i20_17, e_i20_18, e_i20_19, e_i48_0, e_i48_1, e_i48_2, e_i48_3, e_i48_4, e_i48_5, e_i48_6, e_i48_7, e_i48_8, e_i48_9, e_i48_10, e_i48_11, e_i48_12, e_i3_0, e_i3_1, e_i3_2, e_i4_0, e_i4_1, e_i4_2, e_i4_3, e_i6_0, e_i6_1, e_i6_2, e_i6_3, e_i6_4, e_i6_5, e_i11_0, e_i11_1, e_i11_2, e_i11_3, e_i11_4, e_i11_5, e_i11_6, e_i11_7, e_i11_8, e_i11_9, e_i11_10, e_i12_0, e_i12_1, e_i12_2, e_i12_3, e_i12_4, e_i12_5, e_i12_6, e_i12_7, e_i12_8, e_i12_9, e_i12_10, e_i12_11]
    rw [p_inn_e] at hk
    simp only [Int32.le_refl, if_true] at hk ⊢
    exact hk
  | succ n ih =>
    intro b h1 h2 hk
    have hlt : b < a := by omega
    have hle : ¬ nI a ≤ nI b := nI_ge hlt (by omega)
    have ib : vp_in (nI b) 6 := vp_in_nI (by omega) (by decide)
    have ia : vp_in (nI a) 6 := vp_in_nI (by omega) (by decide)
    have cb : (nI b).toNatClampNeg = b := nI_clamp (by omega)
    have ca : (nI a).toNatClampNeg = a := nI_clamp (by omega)
    rw [sX4_isTold_2]
    simp only [sX4_isTold_0, sX4_isTold_1, sX4_isTold_3, sX4_isTold_4, sX4_isTold_7, sX4_isTold_8, sX4_isTold_11, sX4_isTold_12, sX4_isTold_13, sX4_isTold_16, sX4_isTold_17, sX4_isTold_20, sX4_isTold_21, sX4_isTold_22, sX4_isTold_23, sX4_isTold_26, sX4_isTold_27, sX4_isTold_28, sX4_isTold_31, sX4_isTold_32, sX4_isTold_33, sX4_isTold_36, sX4_isTold_39, sX4_isTold_40, e_clrI, e_clrR, e_clrU, e_clrN, e_clrL, e_s0, e_s1, e_s2, e_s3, e_s4, e_z0, e_z1, e_f0, e_f1, e_tl, e_tn, e_q0, e_q1, e_zi, e_zj, true_and, and_true, ↓reduceIte, hKW_1, hKW_2, hKW_x, hKW_pu, hKW_xpf, hKW_xas, hKW_xasz, hKW_xasl, hKW_rc18, hKW_g18_0, hKW_g18_1, hKW_g18_2, hKW_g18_3, hKW_g18_4, hKW_g18_5, hKW_g18_6, hKW_u18_6, hKW_p18_6, hKW_g18_7, hKW_u18_7, hKW_p18_7, hKW_g18_8, hKW_u18_8, hKW_p18_8, hKW_g18_9, hKW_u18_9, hKW_p18_9, hKW_g18_10, hKW_u18_10, hKW_p18_10, hKW_g18_11, hKW_u18_11, hKW_p18_11, hKW_g18_12, hKW_u18_12, hKW_p18_12, hKW_g18_13, hKW_u18_13, hKW_p18_13, hKW_g18_14, hKW_u18_14, hKW_p18_14, hKW_g18_15, hKW_u18_15, hKW_p18_15, hKW_g18_16, hKW_u18_16, hKW_p18_16, hKW_n19, hKW_l19, hKW_v19, hKW_s19, hKW_n20, hKW_l20, hKW_v20, hKW_s20, hKW_n21, hKW_l21, hKW_v21, hKW_s21, hKW_n22, hKW_l22, hKW_v22, hKW_s22, e_c0, e_c1, e_c2, e_c3, e_c4, e_c5, e_c6, e_c7, e_c8, e_c9, e_c10, e_c11, e_c12, e_c13, e_c14, e_c15, e_c16, e_c17, e_c18, e_c19, e_c20, e_c21, e_c22, e_c23, e_c24, e_c25, e_c26, e_c27, e_c28, e_c29, e_c30, e_c31, e_c32, e_c33, e_c34, e_c35, e_c36, e_c37, e_c38, e_c39, e_c40, e_c41, e_c42, e_c43, e_c44, e_c45, e_c46, e_c47, e_c48, e_c49, e_c50, e_c51, e_c52, e_c53, e_c54, e_c55, e_c56, e_c57, e_c58, e_c59, e_c60, e_c61, e_c62, e_c63, e_c64, e_c65, e_c66, e_c67, e_c68, e_c69, e_c70, e_i3848_0, e_i3848_1, e_i3848_2, e_i3848_3, e_i3848_4, e_i3848_5, e_i3848_6, e_i3848_7, e_i3848_8, e_i3848_9, e_i3848_10, e_i3848_11, e_i3848_12, e_i3848_13, e_i3848_14, e_i3848_15, e_i3848_16, e_i3848_17, e_i3848_18, e_i3848_19, e_i3848_20, e_i3848_21, e_i3848_22, e_i3848_23, e_i3848_24, e_i3848_25, e_i3848_26, e_i3848_27, e_i3848_28, e_i3848_29, e_i3848_30, e_i3848_31, e_i3848_32, e_i3848_33, e_i3848_34, e_i3848_35, e_i3848_36, e_i3848_37, e_i3848_38, e_i3848_39, e_i3848_40, e_i3848_41, e_i3848_42, e_i3848_43, e_i3848_44, e_i3848_45, e_i3848_46, e_i3848_47, e_i3848_48, e_i3848_49, e_i3848_50, e_i3848_51, e_i3848_52, e_i3848_53, e_i3848_54, e_i3848_55, e_i3848_56, e_i3848_57, e_i3848_58, e_i3848_59, e_i3848_60, e_i3848_61, e_i3848_62, e_i3848_63, e_i3848_64, e_i3848_65, e_i3848_66, e_i3848_67, e_i3848_68, e_i3848_69, e_i3848_70, e_i35_0, e_i35_1, e_i35_2, e_i35_3, e_i35_4, e_i35_5, e_i35_6, e_i35_7, e_i35_8, e_i35_9, e_i35_10, e_i35_11, e_i35_12, e_i35_13, e_i35_14, e_i35_15, e_i35_16, e_i35_17, e_i35_18, e_i35_19, e_i35_20, e_i35_21, e_i35_22, e_i35_23, e_i35_24, e_i35_25, e_i35_26, e_i35_27, e_i35_28, e_i35_29, e_i35_30, e_i35_31, e_i35_32, e_i35_33, e_i35_34, e_i20_0, e_i20_1, e_i20_2, e_i20_3, e_i20_4, e_i20_5, e_i20_6, e_i20_7, e_i20_8, e_i20_9, e_i20_10, e_i20_11, e_i20_12, e_i20_13, e_i20_14, e_i20_15, e_i20_16, e_i20_17, e_i20_18, e_i20_19, e_i48_0, e_i48_1, e_i48_2, e_i48_3, e_i48_4, e_i48_5, e_i48_6, e_i48_7, e_i48_8, e_i48_9, e_i48_10, e_i48_11, e_i48_12, e_i3_0, e_i3_1, e_i3_2, e_i4_0, e_i4_1, e_i4_2, e_i4_3, e_i6_0, e_i6_1, e_i6_2, e_i6_3, e_i6_4, e_i6_5, e_i11_0, e_i11_1, e_i11_2, e_i11_3, e_i11_4, e_i11_5, e_i11_6, e_i11_7, e_i11_8, e_i11_9, e_i11_10, e_i12_0, e_i12_1, e_i12_2, e_i12_3, e_i12_4, e_i12_5, e_i12_6, e_i12_7, e_i12_8, e_i12_9, e_i12_10, e_i12_11, hle, ib, ia, cb, ca, hte b (by omega)]
    rw [p_inn_s hlt] at hk
    have hgo : (!T b || decide (wn b ≠ wn a)) = true → wp d mX4_isTold 2 [some (.ref 18), some (.int (nI a)), some (.int (nI b + 1))] [] (KW g wn te lo hi mt me tt ix ov su wx wy wz wi wa) Q := by
      intro hb
      rw [nI_1]
      rw [hb, Bool.true_and] at hk
      exact ih (b + 1) (by omega) (by omega) hk
    cases hT : T b with
    | false => simp only [Bool.false_eq_true, not_false_eq_true, if_true]; exact hgo (by simp [hT])
    | true =>
      by_cases hw : wn b = wn a
      · simp only [not_true_eq_false, if_false, hw, if_true]
        rw [hT, hw] at hk
        simpa using hk
      · simp only [not_true_eq_false, if_false, hw]; exact hgo (by simp [hw])
theorem c_isTold {d : Nat} {g : aH} {wn : Nat → Int32} {te : Nat → Int32} {lo : Nat → Int32} {hi : Nat → Int32} {mt : Int32} {me : Int32} {tt : Int32} {ix : Int32} {ov : Int32} {su : Int32} {wx : Int32} {wy : Int32} {wz : Int32} {wi : Int32} {wa : Int32} {T : Nat → Bool} (hte : ∀ w, w < 6 → te w = if T w then 1 else 0) {Q : Option Value → aH → Prop} {a : Nat} (ha : a < 6) : wp d mX4_isTold 0 [some (.ref 18), some (.int (nI a)), none] [] (KW g wn te lo hi mt me tt ix ov su wx wy wz wi wa) Q ↔ Q (some (.int (if p_inn T wn a 0 then 0 else 1))) (KW g wn te lo hi mt me tt ix ov su wx wy wz wi wa) := by
  refine wp_iff ?_
  simp only [sX4_isTold_0, sX4_isTold_1, sX4_isTold_3, sX4_isTold_4, sX4_isTold_7, sX4_isTold_8, sX4_isTold_11, sX4_isTold_12, sX4_isTold_13, sX4_isTold_16, sX4_isTold_17, sX4_isTold_20, sX4_isTold_21, sX4_isTold_22, sX4_isTold_23, sX4_isTold_26, sX4_isTold_27, sX4_isTold_28, sX4_isTold_31, sX4_isTold_32, sX4_isTold_33, sX4_isTold_36, sX4_isTold_39, sX4_isTold_40, e_clrI, e_clrR, e_clrU, e_clrN, e_clrL, e_s0, e_s1, e_s2, e_s3, e_s4, e_z0, e_z1, e_f0, e_f1, e_tl, e_tn, e_q0, e_q1, e_zi, e_zj, true_and, and_true, ↓reduceIte]
  exact c_told hte a ha a 0 (by omega) (by omega) ⟨rfl, rfl⟩
def k_unr (T : Nat → Bool) (W : Nat → Int32) (A : Int32) (a t : Nat) : Bool := decide (∀ w, w < t + 1 → a ≤ w → T w = true → W w ≠ A ∧ p_inn T W w 0 = true)
theorem k_unr_s {T : Nat → Bool} {W : Nat → Int32} {A : Int32} {a t : Nat} (h : a ≤ t) : k_unr T W A a t = ((!T a || (decide (W a ≠ A) && p_inn T W a 0)) && k_unr T W A (a + 1) t) := by
  unfold k_unr
  rw [Bool.eq_iff_iff]
  simp only [decide_eq_true_eq, Bool.and_eq_true, Bool.or_eq_true, Bool.not_eq_true']
  constructor
  · intro q
    refine ⟨?_, fun v h3 h4 => q v h3 (by omega)⟩
    cases ht : T a with
    | false => exact Or.inl rfl
    | true => exact Or.inr (q a (by omega) (Nat.le_refl _) ht)
  · rintro ⟨q1, q2⟩ v h3 h4 h5
    rcases Nat.lt_or_ge a v with h6 | h6
    · exact q2 v h3 h6 h5
    · have : v = a := by omega
      subst this
      rcases q1 with q1 | q1
      · rw [q1] at h5; cases h5
      · exact q1
theorem p_inn_c {T : Nat → Bool} {V W : Nat → Int32} {a : Nat} (h : ∀ v, v < a + 1 → T v = true → V v = W v) (ha : T a = true) : p_inn T V a 0 = p_inn T W a 0 := by
  unfold p_inn
  rw [Bool.eq_iff_iff]
  simp only [decide_eq_true_eq]
  constructor
  · intro q v h1 h2 h3; rw [← h v (by omega) h3, ← h a (by omega) ha]; exact q v h1 h2 h3
  · intro q v h1 h2 h3; rw [h v (by omega) h3, h a (by omega) ha]; exact q v h1 h2 h3
theorem c_unl {d : Nat} {g : aH} {wn : Nat → Int32} {te : Nat → Int32} {lo : Nat → Int32} {hi : Nat → Int32} {mt : Int32} {me : Int32} {tt : Int32} {ix : Int32} {ov : Int32} {su : Int32} {wx : Int32} {wy : Int32} {wz : Int32} {wi : Int32} {wa : Int32} {T : Nat → Bool} (hte : ∀ w, w < 6 → te w = if T w then 1 else 0) {W : Nat → Int32} (hW : ∀ w, w < 6 → k_way (nI w) wa wx wy wz wi = W w) {Q : Option Value → aH → Prop} {l1 : Option Value} {t : Nat} (ht : t < 6) : ∀ (n a : Nat) (wn : Nat → Int32), t + 1 - a = n → a ≤ t + 1 → (∀ v, v < a → T v = true → wn v = W v) →
    (∀ wn', (∀ v, v < a → wn' v = wn v) → (k_unr T W wa a t = true → ∀ v, v < t + 1 → T v = true → wn' v = W v) → Q (some (.int (if k_unr T W wa a t then 1 else 0))) (KW g wn' te lo hi mt me tt ix ov su wx wy wz wi wa)) →
    wp (d + 1) mX4_areUnlike 6 [some (.ref 18), l1, some (.int (nI t)), some (.int (nI a))] [] (KW g wn te lo hi mt me tt ix ov su wx wy wz wi wa) Q := by
  intro n
  induction n with
  | zero =>
    intro a wn h1 h2 hv hk
    have hba : a = t + 1 := by omega
    subst hba
    rw [sX4_areUnlike_6]
    have hlt : nI t < nI (t + 1) := nI_lt (by omega) (by omega)
    simp only [sX4_areUnlike_0, sX4_areUnlike_1, sX4_areUnlike_2, sX4_areUnlike_5, sX4_areUnlike_7, sX4_areUnlike_8, sX4_areUnlike_11, sX4_areUnlike_12, sX4_areUnlike_14, sX4_areUnlike_17, sX4_areUnlike_18, sX4_areUnlike_21, sX4_areUnlike_22, sX4_areUnlike_23, sX4_areUnlike_26, sX4_areUnlike_27, sX4_areUnlike_30, sX4_areUnlike_31, sX4_areUnlike_32, sX4_areUnlike_33, sX4_areUnlike_36, sX4_areUnlike_37, sX4_areUnlike_38, sX4_areUnlike_41, sX4_areUnlike_42, sX4_areUnlike_43, sX4_areUnlike_44, sX4_areUnlike_47, sX4_areUnlike_50, sX4_areUnlike_51, sX4_areUnlike_52, sX4_areUnlike_55, sX4_areUnlike_58, sX4_areUnlike_59, sX4_areUnlike_60, sX4_areUnlike_63, sX4_areUnlike_66, sX4_areUnlike_67, e_clrI, e_clrR, e_clrU, e_clrN, e_clrL, e_s0, e_s1, e_s2, e_s3, e_s4, e_z0, e_z1, e_f0, e_f1, e_tl, e_tn, e_q0, e_q1, e_zi, e_zj, true_and, and_true, ↓reduceIte, hKW_1, hKW_2, hKW_x, hKW_pu, hKW_xpf, hKW_xas, hKW_xasz, hKW_xasl, hKW_rc18, hKW_g18_0, hKW_g18_1, hKW_g18_2, hKW_g18_3, hKW_g18_4, hKW_g18_5, hKW_g18_6, hKW_u18_6, hKW_p18_6, hKW_g18_7, hKW_u18_7, hKW_p18_7, hKW_g18_8, hKW_u18_8, hKW_p18_8, hKW_g18_9, hKW_u18_9, hKW_p18_9, hKW_g18_10, hKW_u18_10, hKW_p18_10, hKW_g18_11, hKW_u18_11, hKW_p18_11, hKW_g18_12, hKW_u18_12, hKW_p18_12, hKW_g18_13, hKW_u18_13, hKW_p18_13, hKW_g18_14, hKW_u18_14, hKW_p18_14, hKW_g18_15, hKW_u18_15, hKW_p18_15, hKW_g18_16, hKW_u18_16, hKW_p18_16, hKW_n19, hKW_l19, hKW_v19, hKW_s19, hKW_n20, hKW_l20, hKW_v20, hKW_s20, hKW_n21, hKW_l21, hKW_v21, hKW_s21, hKW_n22, hKW_l22, hKW_v22, hKW_s22, e_c0, e_c1, e_c2, e_c3, e_c4, e_c5, e_c6, e_c7, e_c8, e_c9, e_c10, e_c11, e_c12, e_c13, e_c14, e_c15, e_c16, e_c17, e_c18, e_c19, e_c20, e_c21, e_c22, e_c23, e_c24, e_c25, e_c26, e_c27, e_c28, e_c29, e_c30, e_c31, e_c32, e_c33, e_c34, e_c35, e_c36, e_c37, e_c38, e_c39, e_c40, e_c41, e_c42, e_c43, e_c44, e_c45, e_c46, e_c47, e_c48, e_c49, e_c50, e_c51, e_c52, e_c53, e_c54, e_c55, e_c56, e_c57, e_c58, e_c59, e_c60, e_c61, e_c62, e_c63, e_c64, e_c65, e_c66, e_c67, e_c68, e_c69, e_c70, e_i3848_0, e_i3848_1, e_i3848_2, e_i3848_3, e_i3848_4, e_i3848_5, e_i3848_6, e_i3848_7, e_i3848_8, e_i3848_9, e_i3848_10, e_i3848_11, e_i3848_12, e_i3848_13, e_i3848_14, e_i3848_15, e_i3848_16, e_i3848_17, e_i3848_18, e_i3848_19, e_i3848_20, e_i3848_21, e_i3848_22, e_i3848_23, e_i3848_24, e_i3848_25, e_i3848_26, e_i3848_27, e_i3848_28, e_i3848_29, e_i3848_30, e_i3848_31, e_i3848_32, e_i3848_33, e_i3848_34, e_i3848_35, e_i3848_36, e_i3848_37, e_i3848_38, e_i3848_39, e_i3848_40, e_i3848_41, e_i3848_42, e_i3848_43, e_i3848_44, e_i3848_45, e_i3848_46, e_i3848_47, e_i3848_48, e_i3848_49, e_i3848_50, e_i3848_51, e_i3848_52, e_i3848_53, e_i3848_54, e_i3848_55, e_i3848_56, e_i3848_57, e_i3848_58, e_i3848_59, e_i3848_60, e_i3848_61, e_i3848_62, e_i3848_63, e_i3848_64, e_i3848_65, e_i3848_66, e_i3848_67, e_i3848_68, e_i3848_69, e_i3848_70, e_i35_0, e_i35_1, e_i35_2, e_i35_3, e_i35_4, e_i35_5, e_i35_6, e_i35_7, e_i35_8, e_i35_9, e_i35_10, e_i35_11, e_i35_12, e_i35_13, e_i35_14, e_i35_15, e_i35_16, e_i35_17, e_i35_18, e_i35_19, e_i35_20, e_i35_21, e_i35_22, e_i35_23, e_i35_24, e_i35_25, e_i35_26, e_i35_27, e_i35_28, e_i35_29, e_i35_30, e_i35_31, e_i35_32, e_i35_33, e_i35_34, e_i20_0, e_i20_1, e_i20_2, e_i20_3, e_i20_4, e_i20_5, e_i20_6, e_i20_7, e_i20_8, e_i20_9, e_i20_10, e_i20_11, e_i20_12, e_i20_13, e_i20_14, e_i20_15, e_i20_16, e_i20_17, e_i20_18, e_i20_19, e_i48_0, e_i48_1, e_i48_2, e_i48_3, e_i48_4, e_i48_5, e_i48_6, e_i48_7, e_i48_8, e_i48_9, e_i48_10, e_i48_11, e_i48_12, e_i3_0, e_i3_1, e_i3_2, e_i4_0, e_i4_1, e_i4_2, e_i4_3, e_i6_0, e_i6_1, e_i6_2, e_i6_3, e_i6_4, e_i6_5, e_i11_0, e_i11_1, e_i11_2, e_i11_3, e_i11_4, e_i11_5, e_i11_6, e_i11_7, e_i11_8, e_i11_9, e_i11_10, e_i12_0, e_i12_1, e_i12_2, e_i12_3, e_i12_4, e_i12_5, e_i12_6, e_i12_7, e_i12_8, e_i12_9, e_i12_10, e_i12_11, hlt]
    have hu : k_unr T W wa (t + 1) t = true := by unfold k_unr; simp only [decide_eq_true_eq]; intro w h3 h4; omega
    have := hk wn (fun _ _ => rfl) (fun _ => hv)
    simp only [hu, if_true] at this
    exact this
  | succ n ih =>
    intro a wn h1 h2 hv hk
    have hlt : ¬ nI t < nI a := nI_nlt (by omega) (by omega)
    have h6 : ¬ (6 : Int32) ≤ nI a := nI_ge (b := 6) (by omega) (by omega)
    have ia : vp_in (nI a) 6 := vp_in_nI (by omega) (by decide)
    have ca : (nI a).toNatClampNeg = a := nI_clamp (by omega)
    rw [sX4_areUnlike_6]
    simp only [sX4_areUnlike_0, sX4_areUnlike_1, sX4_areUnlike_2, sX4_areUnlike_5, sX4_areUnlike_7, sX4_areUnlike_8, sX4_areUnlike_11, sX4_areUnlike_12, sX4_areUnlike_14, sX4_areUnlike_17, sX4_areUnlike_18, sX4_areUnlike_21, sX4_areUnlike_22, sX4_areUnlike_23, sX4_areUnlike_26, sX4_areUnlike_27, sX4_areUnlike_30, sX4_areUnlike_31, sX4_areUnlike_32, sX4_areUnlike_33, sX4_areUnlike_36, sX4_areUnlike_37, sX4_areUnlike_38, sX4_areUnlike_41, sX4_areUnlike_42, sX4_areUnlike_43, sX4_areUnlike_44, sX4_areUnlike_47, sX4_areUnlike_50, sX4_areUnlike_51, sX4_areUnlike_52, sX4_areUnlike_55, sX4_areUnlike_58, sX4_areUnlike_59, sX4_areUnlike_60, sX4_areUnlike_63, sX4_areUnlike_66, sX4_areUnlike_67, e_clrI, e_clrR, e_clrU, e_clrN, e_clrL, e_s0, e_s1, e_s2, e_s3, e_s4, e_z0, e_z1, e_f0, e_f1, e_tl, e_tn, e_q0, e_q1, e_zi, e_zj, true_and, and_true, ↓reduceIte, hKW_1, hKW_2, hKW_x, hKW_pu, hKW_xpf, hKW_xas, hKW_xasz, hKW_xasl, hKW_rc18, hKW_g18_0, hKW_g18_1, hKW_g18_2, hKW_g18_3, hKW_g18_4, hKW_g18_5, hKW_g18_6, hKW_u18_6, hKW_p18_6, hKW_g18_7, hKW_u18_7, hKW_p18_7, hKW_g18_8, hKW_u18_8, hKW_p18_8, hKW_g18_9, hKW_u18_9, hKW_p18_9, hKW_g18_10, hKW_u18_10, hKW_p18_10, hKW_g18_11, hKW_u18_11, hKW_p18_11, hKW_g18_12, hKW_u18_12, hKW_p18_12, hKW_g18_13, hKW_u18_13, hKW_p18_13, hKW_g18_14, hKW_u18_14, hKW_p18_14, hKW_g18_15, hKW_u18_15, hKW_p18_15, hKW_g18_16, hKW_u18_16, hKW_p18_16, hKW_n19, hKW_l19, hKW_v19, hKW_s19, hKW_n20, hKW_l20, hKW_v20, hKW_s20, hKW_n21, hKW_l21, hKW_v21, hKW_s21, hKW_n22, hKW_l22, hKW_v22, hKW_s22, e_c0, e_c1, e_c2, e_c3, e_c4, e_c5, e_c6, e_c7, e_c8, e_c9, e_c10, e_c11, e_c12, e_c13, e_c14, e_c15, e_c16, e_c17, e_c18, e_c19, e_c20, e_c21, e_c22, e_c23, e_c24, e_c25, e_c26, e_c27, e_c28, e_c29, e_c30, e_c31, e_c32, e_c33, e_c34, e_c35, e_c36, e_c37, e_c38, e_c39, e_c40, e_c41, e_c42, e_c43, e_c44, e_c45, e_c46, e_c47, e_c48, e_c49, e_c50, e_c51, e_c52, e_c53, e_c54, e_c55, e_c56, e_c57, e_c58, e_c59, e_c60, e_c61, e_c62, e_c63, e_c64, e_c65, e_c66, e_c67, e_c68, e_c69, e_c70, e_i3848_0, e_i3848_1, e_i3848_2, e_i3848_3, e_i3848_4, e_i3848_5, e_i3848_6, e_i3848_7, e_i3848_8, e_i3848_9, e_i3848_10, e_i3848_11, e_i3848_12, e_i3848_13, e_i3848_14, e_i3848_15, e_i3848_16, e_i3848_17, e_i3848_18, e_i3848_19, e_i3848_20, e_i3848_21, e_i3848_22, e_i3848_23, e_i3848_24, e_i3848_25, e_i3848_26, e_i3848_27, e_i3848_28, e_i3848_29, e_i3848_30, e_i3848_31, e_i3848_32, e_i3848_33, e_i3848_34, e_i3848_35, e_i3848_36, e_i3848_37, e_i3848_38, e_i3848_39, e_i3848_40, e_i3848_41, e_i3848_42, e_i3848_43, e_i3848_44, e_i3848_45, e_i3848_46, e_i3848_47, e_i3848_48, e_i3848_49, e_i3848_50, e_i3848_51, e_i3848_52, e_i3848_53, e_i3848_54, e_i3848_55, e_i3848_56, e_i3848_57, e_i3848_58, e_i3848_59, e_i3848_60, e_i3848_61, e_i3848_62, e_i3848_63, e_i3848_64, e_i3848_65, e_i3848_66, e_i3848_67, e_i3848_68, e_i3848_69, e_i3848_70, e_i35_0, e_i35_1, e_i35_2, e_i35_3, e_i35_4, e_i35_5, e_i35_6, e_i35_7, e_i35_8, e_i35_9, e_i35_10, e_i35_11, e_i35_12, e_i35_13, e_i35_14, e_i35_15, e_i35_16, e_i35_17, e_i35_18, e_i35_19, e_i35_20, e_i35_21, e_i35_22, e_i35_23, e_i35_24, e_i35_25, e_i35_26, e_i35_27, e_i35_28, e_i35_29, e_i35_30, e_i35_31, e_i35_32, e_i35_33, e_i35_34, e_i20_0, e_i20_1, e_i20_2, e_i20_3, e_i20_4, e_i20_5, e_i20_6, e_i20_7, e_i20_8, e_i20_9, e_i20_10, e_i20_11, e_i20_12, e_i20_13, e_i20_14, e_i20_15, e_i20_16, e_i20_17, e_i20_18, e_i20_19, e_i48_0, e_i48_1, e_i48_2, e_i48_3, e_i48_4, e_i48_5, e_i48_6, e_i48_7, e_i48_8, e_i48_9, e_i48_10, e_i48_11, e_i48_12, e_i3_0, e_i3_1, e_i3_2, e_i4_0, e_i4_1, e_i4_2, e_i4_3, e_i6_0, e_i6_1, e_i6_2, e_i6_3, e_i6_4, e_i6_5, e_i11_0, e_i11_1, e_i11_2, e_i11_3, e_i11_4, e_i11_5, e_i11_6, e_i11_7, e_i11_8, e_i11_9, e_i11_10, e_i12_0, e_i12_1, e_i12_2, e_i12_3, e_i12_4, e_i12_5, e_i12_6, e_i12_7, e_i12_8, e_i12_9, e_i12_10, e_i12_11, hlt, h6, ia, ca, hte a (by omega), c_wayNumber, c_isTold hte (show a < 6 by omega), hW a (by omega)]
    have hst := k_unr_s (T := T) (W := W) (A := wa) (a := a) (t := t) (by omega)
    rw [hst] at hk
    cases hT : T a with
    | false =>
      simp only [Bool.false_eq_true, not_false_eq_true, if_true]
      rw [nI_1]
      refine ih (a + 1) wn (by omega) (by omega) (fun v h3 h4 => ?_) ?_
      · rcases Nat.lt_or_ge v a with h5 | h5
        · exact hv v h5 h4
        · have : v = a := by omega
          subst this; rw [hT] at h4; cases h4
      · intro wn' h3 h4
        have := hk wn' (fun v h5 => h3 v (by omega)) (by simpa [hT] using h4)
        simpa [hT] using this
    | true =>
      have hu : ∀ v, v < a + 1 → T v = true → upd wn a (W a) v = W v := by
        intro v h3 h4
        unfold upd
        split
        · rename_i h5; rw [h5]
        · exact hv v (by omega) h4
      have hua : upd wn a (W a) a = W a := hu a (by omega) hT
      have hub : ∀ v, v < a → upd wn a (W a) v = wn v := by
        intro v h3; unfold upd; rw [if_neg (by omega)]
      simp only [not_true_eq_false, if_false, hua, p_inn_c hu hT]
      by_cases hA : W a = wa
      · simp only [hA, if_true]
        have := hk (upd wn a (W a)) hub (by simp [hT, hA])
        simpa [hT, hA] using this
      · simp only [hA, if_false]
        cases hp : p_inn T W a 0 with
        | false =>
          simp only [Bool.false_eq_true, if_false]
          have := hk (upd wn a (W a)) hub (by simp [hT, hp])
          simpa [hT, hp] using this
        | true =>
          simp only [if_true]
          rw [nI_1]
          refine ih (a + 1) (upd wn a (W a)) (by omega) (by omega) hu ?_
          intro wn' h3 h4
          have := hk wn' (fun v h5 => (h3 v (by omega)).trans (hub v h5)) (by simpa [hT, hp, hA] using h4)
          simpa [hT, hp, hA] using this
