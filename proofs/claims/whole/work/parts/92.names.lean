/-! ===== names and things: both sides ===== -/
def p_fnd (f : Nat → Int64) (v : Int64) : Nat → Nat → Int32
  | 0, _ => -1
  | n + 1, k => if f k = v then nI k else p_fnd f v n (k + 1)
theorem p_fnd_s {f : Nat → Int64} {v : Int64} {n k : Nat} : p_fnd f v (n + 1) k = if f k = v then nI k else p_fnd f v n (k + 1) := rfl
theorem p_fnd_0 {f : Nat → Int64} {v : Int64} {k : Nat} : p_fnd f v 0 k = -1 := rfl
theorem p_fnd_c {f g : Nat → Int64} {v : Int64} : ∀ (n k : Nat), (∀ j, k ≤ j → j < k + n → f j = g j) → p_fnd f v n k = p_fnd g v n k
  | 0, _ => fun _ => rfl
  | n + 1, k => fun h => by
    unfold p_fnd
    rw [h k (Nat.le_refl _) (by omega), p_fnd_c n (k + 1) (fun j h1 h2 => h j (by omega) (by omega))]
theorem p_fnd_r {f : Nat → Int64} {v : Int64} : ∀ (n k : Nat), p_fnd f v n k = -1 ∨ ∃ j : Nat, k ≤ j ∧ j < k + n ∧ p_fnd f v n k = nI j ∧ f j = v
  | 0, _ => Or.inl rfl
  | n + 1, k => by
    unfold p_fnd
    by_cases h : f k = v
    · rw [if_pos h]; exact Or.inr ⟨k, Nat.le_refl _, by omega, rfl, h⟩
    · rw [if_neg h]
      rcases p_fnd_r (f := f) (v := v) n (k + 1) with h1 | ⟨j, h1, h2, h3, h4⟩
      · exact Or.inl h1
      · exact Or.inr ⟨j, by omega, by omega, h3, h4⟩
theorem p_fnd_n {f : Nat → Int64} {v : Int64} : ∀ (n k : Nat), k + n < 1000 → p_fnd f v n k = -1 → ∀ j, k ≤ j → j < k + n → f j ≠ v
  | 0, _ => fun _ _ j h1 h2 => by omega
  | n + 1, k => by
    intro hb h j h1 h2 hj
    unfold p_fnd at h
    by_cases hk : f k = v
    · rw [if_pos hk] at h; exact absurd h (nI_m1 (by omega))
    · rw [if_neg hk] at h
      by_cases hjk : j = k
      · subst hjk; exact hk hj
      · exact p_fnd_n n (k + 1) (by omega) h j (by omega) (by omega) hj
/-- 40 and on a name, 50 and on a thing, else 4 -/
def p_named (wd : Nat → Int64) (n0 n1 : Nat) (v : Int64) : Int32 := if p_fnd wd v n0 0 = -1 then (if p_fnd (fun k => wd (6 + k)) v n1 0 = -1 then 4 else 50 + p_fnd (fun k => wd (6 + k)) v n1 0) else 40 + p_fnd wd v n0 0
theorem m_namedL2 {d : Nat} {g : aH} {al : Nat → Int32} {wd : Nat → Int64} {hs : Nat → Int32} {vx : Int32} {vy : Int32} {vz : Int32} {vi : Int32} {an : Nat → Int32} {sz : Int32} {nx : Int32} {wh : Int32} {tk : Int32} {td : Int32} {wr : Int32} {rw : Nat → Int32} {sn : Int32} {ak : Int32} {n0 : Int32} {n1 : Int32} {b : Nat} (hb : b ≤ 6) (e1 : al 1 = nI b) {v : Int64} {Q : Option Value → aH → Prop} : ∀ (n k : Nat), b - k = n → k ≤ b → Q (some (.int (if p_fnd (fun k => wd (6 + k)) v n k = -1 then 4 else 50 + p_fnd (fun k => wd (6 + k)) v n k))) (HM g al wd hs vx vy vz vi an sz nx wh tk td wr rw sn ak n0 n1) →
    wp d mX11_named 36 [some (.ref 35), some (.long v), none, some (.int (nI k))] [] (HM g al wd hs vx vy vz vi an sz nx wh tk td wr rw sn ak n0 n1) Q := by
  intro n
  induction n with
  | zero =>
    intro k h1 h2 hk
    have : k = b := by omega
    subst this
    rw [sX11_named_36]
    simp only [sX11_named_0, sX11_named_1, sX11_named_2, sX11_named_3, sX11_named_4, sX11_named_7, sX11_named_8, sX11_named_9, sX11_named_12, sX11_named_13, sX11_named_16, sX11_named_17, sX11_named_18, sX11_named_19, sX11_named_20, sX11_named_23, sX11_named_25, sX11_named_26, sX11_named_27, sX11_named_28, sX11_named_31, sX11_named_34, sX11_named_35, sX11_named_37, sX11_named_38, sX11_named_41, sX11_named_42, sX11_named_43, sX11_named_46, sX11_named_47, sX11_named_50, sX11_named_52, sX11_named_53, sX11_named_54, sX11_named_55, sX11_named_56, sX11_named_57, sX11_named_60, sX11_named_62, sX11_named_63, sX11_named_64, sX11_named_65, sX11_named_68, sX11_named_71, sX11_named_72, e_clrI, e_clrR, e_clrU, e_clrN, e_clrL, e_s0, e_s1, e_s2, e_s3, e_s4, e_z0, e_z1, e_f0, e_f1, e_tl, e_tn, e_q0, e_q1, e_zi, e_zj, true_and, and_true, ↓reduceIte, hM_rc, hM_g0, hM_g1, hM_g2, hM_g3, hM_g4, hM_g5, hM_g6, hM_g7, hM_g8, hM_g9, hM_g10, hM_g11, hM_g12, hM_g13, hM_g14, hM_g15, hM_g16, hM_g17, hM_g18, hM_p3, hM_p4, hM_p5, hM_p6, hM_p8, hM_p9, hM_p10, hM_p11, hM_p12, hM_p13, hM_p15, hM_p16, hM_p17, hM_p18, hM_l36, hM_l37, hM_l38, hM_l39, hM_l40, hM_s36, hM_s37, hM_s38, hM_s39, hM_s40, e_c0, e_c1, e_c2, e_c3, e_c4, e_c5, e_c6, e_c7, e_c8, e_c9, e_c10, e_c11, e_c12, e_c13, e_c14, e_c15, e_c16, e_c17, e_c18, e_c19, e_c20, e_c21, e_c22, e_c23, e_c24, e_c25, e_c26, e_c27, e_c28, e_c29, e_c30, e_c31, e_c32, e_c33, e_c34, e_c35, e_c36, e_c37, e_c38, e_c39, e_c40, e_c41, e_c42, e_c43, e_c44, e_c45, e_c46, e_c47, e_c48, e_c49, e_c50, e_c51, e_c52, e_c53, e_c54, e_c55, e_c56, e_c57, e_c58, e_c59, e_c60, e_c61, e_c62, e_c63, e_c64, e_c65, e_c66, e_c67, e_c68, e_c69, e_c70, e_i3848_0, e_i3848_1, e_i3848_2, e_i3848_3, e_i3848_4, e_i3848_5, e_i3848_6, e_i3848_7, e_i3848_8, e_i3848_9, e_i3848_10, e_i3848_11, e_i3848_12, e_i3848_13, e_i3848_14, e_i3848_15, e_i3848_16, e_i3848_17, e_i3848_18, e_i3848_19, e_i3848_20, e_i3848_21, e_i3848_22, e_i3848_23, e_i3848_24, e_i3848_25, e_i3848_26, e_i3848_27, e_i3848_28, e_i3848_29, e_i3848_30, e_i3848_31, e_i3848_32, e_i3848_33, e_i3848_34, e_i3848_35, e_i3848_36, e_i3848_37, e_i3848_38, e_i3848_39, e_i3848_40, e_i3848_41, e_i3848_42, e_i3848_43, e_i3848_44, e_i3848_45, e_i3848_46, e_i3848_47, e_i3848_48, e_i3848_49, e_i3848_50, e_i3848_51, e_i3848_52, e_i3848_53, e_i3848_54, e_i3848_55, e_i3848_56, e_i3848_57, e_i3848_58, e_i3848_59, e_i3848_60, e_i3848_61, e_i3848_62, e_i3848_63, e_i3848_64, e_i3848_65, e_i3848_66, e_i3848_67, e_i3848_68, e_i3848_69, e_i3848_70, e_i35_0, e_i35_1, e_i35_2, e_i35_3, e_i35_4, e_i35_5, e_i35_6, e_i35_7, e_i35_8, e_i35_9, e_i35_10, e_i35_11, e_i35_12, e_i35_13, e_i35_14, e_i35_15, e_i35_16, e_i35_17, e_i35_18, e_i35_19, e_i35_20, e_i35_21, e_i35_22, e_i35_23, e_i35_24, e_i35_25, e_i35_26, e_i35_27, e_i35_28, e_i35_29, e_i35_30, e_i35_31, e_i35_32, e_i35_33, e_i35_34, e_i20_0, e_i20_1, e_i20_2, e_i20_3, e_i20_4, e_i20_5, e_i20_6, e_i20_7, e_i20_8, e_i20_9, e_i20_10, e_i20_11, e_i20_12, e_i20_13, e_i20_14, e_i20_15, e_i20_16, e_i20_17, e_i20_18, e_i20_19, e_i48_0, e_i48_1, e_i48_2, e_i48_3, e_i48_4, e_i48_5, e_i48_6, e_i48_7, e_i48_8, e_i48_9, e_i48_10, e_i48_11, e_i48_12, e_i3_0, e_i3_1, e_i3_2, e_i4_0, e_i4_1, e_i4_2, e_i4_3, e_i6_0, e_i6_1, e_i6_2, e_i6_3, e_i6_4, e_i6_5, e_i11_0, e_i11_1, e_i11_2, e_i11_3, e_i11_4, e_i11_5, e_i11_6, e_i11_7, e_i11_8, e_i11_9, e_i11_10, e_i12_0, e_i12_1, e_i12_2, e_i12_3, e_i12_4, e_i12_5, e_i12_6, e_i12_7, e_i12_8, e_i12_9, e_i12_10, e_i12_11, e1, Int32.le_refl, if_true]
    rw [p_fnd_0, if_pos rfl] at hk
    exact hk
  | succ n ih =>
    intro k h1 h2 hk
    have hle : ¬ nI b ≤ nI k := nI_ge (by omega) (by omega)
    have e6 : 6 + nI k = nI (6 + k) := nI_add 6 k
    rw [sX11_named_36]
    simp only [sX11_named_0, sX11_named_1, sX11_named_2, sX11_named_3, sX11_named_4, sX11_named_7, sX11_named_8, sX11_named_9, sX11_named_12, sX11_named_13, sX11_named_16, sX11_named_17, sX11_named_18, sX11_named_19, sX11_named_20, sX11_named_23, sX11_named_25, sX11_named_26, sX11_named_27, sX11_named_28, sX11_named_31, sX11_named_34, sX11_named_35, sX11_named_37, sX11_named_38, sX11_named_41, sX11_named_42, sX11_named_43, sX11_named_46, sX11_named_47, sX11_named_50, sX11_named_52, sX11_named_53, sX11_named_54, sX11_named_55, sX11_named_56, sX11_named_57, sX11_named_60, sX11_named_62, sX11_named_63, sX11_named_64, sX11_named_65, sX11_named_68, sX11_named_71, sX11_named_72, e_clrI, e_clrR, e_clrU, e_clrN, e_clrL, e_s0, e_s1, e_s2, e_s3, e_s4, e_z0, e_z1, e_f0, e_f1, e_tl, e_tn, e_q0, e_q1, e_zi, e_zj, true_and, and_true, ↓reduceIte, hM_rc, hM_g0, hM_g1, hM_g2, hM_g3, hM_g4, hM_g5, hM_g6, hM_g7, hM_g8, hM_g9, hM_g10, hM_g11, hM_g12, hM_g13, hM_g14, hM_g15, hM_g16, hM_g17, hM_g18, hM_p3, hM_p4, hM_p5, hM_p6, hM_p8, hM_p9, hM_p10, hM_p11, hM_p12, hM_p13, hM_p15, hM_p16, hM_p17, hM_p18, hM_l36, hM_l37, hM_l38, hM_l39, hM_l40, hM_s36, hM_s37, hM_s38, hM_s39, hM_s40, e_c0, e_c1, e_c2, e_c3, e_c4, e_c5, e_c6, e_c7, e_c8, e_c9, e_c10, e_c11, e_c12, e_c13, e_c14, e_c15, e_c16, e_c17, e_c18, e_c19, e_c20, e_c21, e_c22, e_c23, e_c24, e_c25, e_c26, e_c27, e_c28, e_c29, e_c30, e_c31, e_c32, e_c33, e_c34, e_c35, e_c36, e_c37, e_c38, e_c39, e_c40, e_c41, e_c42, e_c43, e_c44, e_c45, e_c46, e_c47, e_c48, e_c49, e_c50, e_c51, e_c52, e_c53, e_c54, e_c55, e_c56, e_c57, e_c58, e_c59, e_c60, e_c61, e_c62, e_c63, e_c64, e_c65, e_c66, e_c67, e_c68, e_c69, e_c70, e_i3848_0, e_i3848_1, e_i3848_2, e_i3848_3, e_i3848_4, e_i3848_5, e_i3848_6, e_i3848_7, e_i3848_8, e_i3848_9, e_i3848_10, e_i3848_11, e_i3848_12, e_i3848_13, e_i3848_14, e_i3848_15, e_i3848_16, e_i3848_17, e_i3848_18, e_i3848_19, e_i3848_20, e_i3848_21, e_i3848_22, e_i3848_23, e_i3848_24, e_i3848_25, e_i3848_26, e_i3848_27, e_i3848_28, e_i3848_29, e_i3848_30, e_i3848_31, e_i3848_32, e_i3848_33, e_i3848_34, e_i3848_35, e_i3848_36, e_i3848_37, e_i3848_38, e_i3848_39, e_i3848_40, e_i3848_41, e_i3848_42, e_i3848_43, e_i3848_44, e_i3848_45, e_i3848_46, e_i3848_47, e_i3848_48, e_i3848_49, e_i3848_50, e_i3848_51, e_i3848_52, e_i3848_53, e_i3848_54, e_i3848_55, e_i3848_56, e_i3848_57, e_i3848_58, e_i3848_59, e_i3848_60, e_i3848_61, e_i3848_62, e_i3848_63, e_i3848_64, e_i3848_65, e_i3848_66, e_i3848_67, e_i3848_68, e_i3848_69, e_i3848_70, e_i35_0, e_i35_1, e_i35_2, e_i35_3, e_i35_4, e_i35_5, e_i35_6, e_i35_7, e_i35_8, e_i35_9, e_i35_10, e_i35_11, e_i35_12, e_i35_13, e_i35_14, e_i35_15, e_i35_16, e_i35_17, e_i35_18, e_i35_19, e_i35_20, e_i35_21, e_i35_22, e_i35_23, e_i35_24, e_i35_25, e_i35_26, e_i35_27, e_i35_28, e_i35_29, e_i35_30, e_i35_31, e_i35_32, e_i35_33, e_i35_34, e_i20_0, e_i20_1, e_i20_2, e_i20_3, e_i20_4, e_i20_5, e_i20_6, e_i20_7, e_i20_8, e_i20_9, e_i20_10, e_i20_11, e_i20_12, e_i20_13, e_i20_14, e_i20_15, e_i20_16, e_i20_17, e_i20_18, e_i20_19, e_i48_0, e_i48_1, e_i48_2, e_i48_3, e_i48_4, e_i48_5, e_i48_6, e_i48_7, e_i48_8, e_i48_9, e_i48_10, e_i48_11, e_i48_12, e_i3_0, e_i3_1, e_i3_2, e_i4_0, e_i4_1, e_i4_2, e_i4_3, e_i6_0, e_i6_1, e_i6_2, e_i6_3, e_i6_4, e_i6_5, e_i11_0, e_i11_1, e_i11_2, e_i11_3, e_i11_4, e_i11_5, e_i11_6, e_i11_7, e_i11_8, e_i11_9, e_i11_10, e_i12_0, e_i12_1, e_i12_2, e_i12_3, e_i12_4, e_i12_5, e_i12_6, e_i12_7, e_i12_8, e_i12_9, e_i12_10, e_i12_11, e1, hle, if_false, e6, vp_in_nI (show 6 + k < 48 by omega) (by omega), nI_clamp (show 6 + k < 2 ^ 31 by omega), lg0, nI_1]
    rw [p_fnd_s] at hk
    by_cases hw : wd (6 + k) = v
    · simp only [hw, if_true] at hk ⊢
      rw [if_neg (nI_m1 (by omega))] at hk
      exact hk
    · simp only [hw, if_false] at hk ⊢
      exact ih (k + 1) (by omega) (by omega) hk
theorem m_namedL1 {d : Nat} {g : aH} {al : Nat → Int32} {wd : Nat → Int64} {hs : Nat → Int32} {vx : Int32} {vy : Int32} {vz : Int32} {vi : Int32} {an : Nat → Int32} {sz : Int32} {nx : Int32} {wh : Int32} {tk : Int32} {td : Int32} {wr : Int32} {rw : Nat → Int32} {sn : Int32} {ak : Int32} {n0 : Int32} {n1 : Int32} {a b : Nat} (ha : a ≤ 6) (hb : b ≤ 6) (e0 : al 0 = nI a) (e1 : al 1 = nI b) {v : Int64} {Q : Option Value → aH → Prop} : ∀ (n k : Nat), a - k = n → k ≤ a → Q (some (.int (if p_fnd wd v n k = -1 then (if p_fnd (fun k => wd (6 + k)) v b 0 = -1 then 4 else 50 + p_fnd (fun k => wd (6 + k)) v b 0) else 40 + p_fnd wd v n k))) (HM g al wd hs vx vy vz vi an sz nx wh tk td wr rw sn ak n0 n1) →
    wp d mX11_named 2 [some (.ref 35), some (.long v), none, some (.int (nI k))] [] (HM g al wd hs vx vy vz vi an sz nx wh tk td wr rw sn ak n0 n1) Q := by
  intro n
  induction n with
  | zero =>
    intro k h1 h2 hk
    have : k = a := by omega
    subst this
    rw [sX11_named_2]
    simp only [sX11_named_0, sX11_named_1, sX11_named_3, sX11_named_4, sX11_named_7, sX11_named_8, sX11_named_9, sX11_named_12, sX11_named_13, sX11_named_16, sX11_named_17, sX11_named_18, sX11_named_19, sX11_named_20, sX11_named_23, sX11_named_25, sX11_named_26, sX11_named_27, sX11_named_28, sX11_named_31, sX11_named_34, sX11_named_35, sX11_named_37, sX11_named_38, sX11_named_41, sX11_named_42, sX11_named_43, sX11_named_46, sX11_named_47, sX11_named_50, sX11_named_52, sX11_named_53, sX11_named_54, sX11_named_55, sX11_named_56, sX11_named_57, sX11_named_60, sX11_named_62, sX11_named_63, sX11_named_64, sX11_named_65, sX11_named_68, sX11_named_71, sX11_named_72, e_clrI, e_clrR, e_clrU, e_clrN, e_clrL, e_s0, e_s1, e_s2, e_s3, e_s4, e_z0, e_z1, e_f0, e_f1, e_tl, e_tn, e_q0, e_q1, e_zi, e_zj, true_and, and_true, ↓reduceIte, hM_rc, hM_g0, hM_g1, hM_g2, hM_g3, hM_g4, hM_g5, hM_g6, hM_g7, hM_g8, hM_g9, hM_g10, hM_g11, hM_g12, hM_g13, hM_g14, hM_g15, hM_g16, hM_g17, hM_g18, hM_p3, hM_p4, hM_p5, hM_p6, hM_p8, hM_p9, hM_p10, hM_p11, hM_p12, hM_p13, hM_p15, hM_p16, hM_p17, hM_p18, hM_l36, hM_l37, hM_l38, hM_l39, hM_l40, hM_s36, hM_s37, hM_s38, hM_s39, hM_s40, e_c0, e_c1, e_c2, e_c3, e_c4, e_c5, e_c6, e_c7, e_c8, e_c9, e_c10, e_c11, e_c12, e_c13, e_c14, e_c15, e_c16, e_c17, e_c18, e_c19, e_c20, e_c21, e_c22, e_c23, e_c24, e_c25, e_c26, e_c27, e_c28, e_c29, e_c30, e_c31, e_c32, e_c33, e_c34, e_c35, e_c36, e_c37, e_c38, e_c39, e_c40, e_c41, e_c42, e_c43, e_c44, e_c45, e_c46, e_c47, e_c48, e_c49, e_c50, e_c51, e_c52, e_c53, e_c54, e_c55, e_c56, e_c57, e_c58, e_c59, e_c60, e_c61, e_c62, e_c63, e_c64, e_c65, e_c66, e_c67, e_c68, e_c69, e_c70, e_i3848_0, e_i3848_1, e_i3848_2, e_i3848_3, e_i3848_4, e_i3848_5, e_i3848_6, e_i3848_7, e_i3848_8, e_i3848_9, e_i3848_10, e_i3848_11, e_i3848_12, e_i3848_13, e_i3848_14, e_i3848_15, e_i3848_16, e_i3848_17, e_i3848_18, e_i3848_19, e_i3848_20, e_i3848_21, e_i3848_22, e_i3848_23, e_i3848_24, e_i3848_25, e_i3848_26, e_i3848_27, e_i3848_28, e_i3848_29, e_i3848_30, e_i3848_31, e_i3848_32, e_i3848_33, e_i3848_34, e_i3848_35, e_i3848_36, e_i3848_37, e_i3848_38, e_i3848_39, e_i3848_40, e_i3848_41, e_i3848_42, e_i3848_43, e_i3848_44, e_i3848_45, e_i3848_46, e_i3848_47, e_i3848_48, e_i3848_49, e_i3848_50, e_i3848_51, e_i3848_52, e_i3848_53, e_i3848_54, e_i3848_55, e_i3848_56, e_i3848_57, e_i3848_58, e_i3848_59, e_i3848_60, e_i3848_61, e_i3848_62, e_i3848_63, e_i3848_64, e_i3848_65, e_i3848_66, e_i3848_67, e_i3848_68, e_i3848_69, e_i3848_70, e_i35_0, e_i35_1, e_i35_2, e_i35_3, e_i35_4, e_i35_5, e_i35_6, e_i35_7, e_i35_8, e_i35_9, e_i35_10, e_i35_11, e_i35_12, e_i35_13, e_i35_14, e_i35_15, e_i35_16, e_i35_17, e_i35_18, e_i35_19, e_i35_20, e_i35_21, e_i35_22, e_i35_23, e_i35_24, e_i35_25, e_i35_26, e_i35_27, e_i35_28, e_i35_29, e_i35_30, e_i35_31, e_i35_32, e_i35_33, e_i35_34, e_i20_0, e_i20_1, e_i20_2, e_i20_3, e_i20_4, e_i20_5, e_i20_6, e_i20_7, e_i20_8, e_i20_9, e_i20_10, e_i20_11, e_i20_12, e_i20_13, e_i20_14, e_i20_15, e_i20_16, e_i20_17, e_i20_18, e_i20_19, e_i48_0, e_i48_1, e_i48_2, e_i48_3, e_i48_4, e_i48_5, e_i48_6, e_i48_7, e_i48_8, e_i48_9, e_i48_10, e_i48_11, e_i48_12, e_i3_0, e_i3_1, e_i3_2, e_i4_0, e_i4_1, e_i4_2, e_i4_3, e_i6_0, e_i6_1, e_i6_2, e_i6_3, e_i6_4, e_i6_5, e_i11_0, e_i11_1, e_i11_2, e_i11_3, e_i11_4, e_i11_5, e_i11_6, e_i11_7, e_i11_8, e_i11_9, e_i11_10, e_i12_0, e_i12_1, e_i12_2, e_i12_3, e_i12_4, e_i12_5, e_i12_6, e_i12_7, e_i12_8, e_i12_9, e_i12_10, e_i12_11, e0, Int32.le_refl, if_true]
    rw [p_fnd_0, if_pos rfl] at hk
    exact m_namedL2 hb e1 b 0 (by omega) (by omega) hk
  | succ n ih =>
    intro k h1 h2 hk
    have hle : ¬ nI a ≤ nI k := nI_ge (by omega) (by omega)
    rw [sX11_named_2]
    simp only [sX11_named_0, sX11_named_1, sX11_named_3, sX11_named_4, sX11_named_7, sX11_named_8, sX11_named_9, sX11_named_12, sX11_named_13, sX11_named_16, sX11_named_17, sX11_named_18, sX11_named_19, sX11_named_20, sX11_named_23, sX11_named_25, sX11_named_26, sX11_named_27, sX11_named_28, sX11_named_31, sX11_named_34, sX11_named_35, sX11_named_37, sX11_named_38, sX11_named_41, sX11_named_42, sX11_named_43, sX11_named_46, sX11_named_47, sX11_named_50, sX11_named_52, sX11_named_53, sX11_named_54, sX11_named_55, sX11_named_56, sX11_named_57, sX11_named_60, sX11_named_62, sX11_named_63, sX11_named_64, sX11_named_65, sX11_named_68, sX11_named_71, sX11_named_72, e_clrI, e_clrR, e_clrU, e_clrN, e_clrL, e_s0, e_s1, e_s2, e_s3, e_s4, e_z0, e_z1, e_f0, e_f1, e_tl, e_tn, e_q0, e_q1, e_zi, e_zj, true_and, and_true, ↓reduceIte, hM_rc, hM_g0, hM_g1, hM_g2, hM_g3, hM_g4, hM_g5, hM_g6, hM_g7, hM_g8, hM_g9, hM_g10, hM_g11, hM_g12, hM_g13, hM_g14, hM_g15, hM_g16, hM_g17, hM_g18, hM_p3, hM_p4, hM_p5, hM_p6, hM_p8, hM_p9, hM_p10, hM_p11, hM_p12, hM_p13, hM_p15, hM_p16, hM_p17, hM_p18, hM_l36, hM_l37, hM_l38, hM_l39, hM_l40, hM_s36, hM_s37, hM_s38, hM_s39, hM_s40, e_c0, e_c1, e_c2, e_c3, e_c4, e_c5, e_c6, e_c7, e_c8, e_c9, e_c10, e_c11, e_c12, e_c13, e_c14, e_c15, e_c16, e_c17, e_c18, e_c19, e_c20, e_c21, e_c22, e_c23, e_c24, e_c25, e_c26, e_c27, e_c28, e_c29, e_c30, e_c31, e_c32, e_c33, e_c34, e_c35, e_c36, e_c37, e_c38, e_c39, e_c40, e_c41, e_c42, e_c43, e_c44, e_c45, e_c46, e_c47, e_c48, e_c49, e_c50, e_c51, e_c52, e_c53, e_c54, e_c55, e_c56, e_c57, e_c58, e_c59, e_c60, e_c61, e_c62, e_c63, e_c64, e_c65, e_c66, e_c67, e_c68, e_c69, e_c70, e_i3848_0, e_i3848_1, e_i3848_2, e_i3848_3, e_i3848_4, e_i3848_5, e_i3848_6, e_i3848_7, e_i3848_8, e_i3848_9, e_i3848_10, e_i3848_11, e_i3848_12, e_i3848_13, e_i3848_14, e_i3848_15, e_i3848_16, e_i3848_17, e_i3848_18, e_i3848_19, e_i3848_20, e_i3848_21, e_i3848_22, e_i3848_23, e_i3848_24, e_i3848_25, e_i3848_26, e_i3848_27, e_i3848_28, e_i3848_29, e_i3848_30, e_i3848_31, e_i3848_32, e_i3848_33, e_i3848_34, e_i3848_35, e_i3848_36, e_i3848_37, e_i3848_38, e_i3848_39, e_i3848_40, e_i3848_41, e_i3848_42, e_i3848_43, e_i3848_44, e_i3848_45, e_i3848_46, e_i3848_47, e_i3848_48, e_i3848_49, e_i3848_50, e_i3848_51, e_i3848_52, e_i3848_53, e_i3848_54, e_i3848_55, e_i3848_56, e_i3848_57, e_i3848_58, e_i3848_59, e_i3848_60, e_i3848_61, e_i3848_62, e_i3848_63, e_i3848_64, e_i3848_65, e_i3848_66, e_i3848_67, e_i3848_68, e_i3848_69, e_i3848_70, e_i35_0, e_i35_1, e_i35_2, e_i35_3, e_i35_4, e_i35_5, e_i35_6, e_i35_7, e_i35_8, e_i35_9, e_i35_10, e_i35_11, e_i35_12, e_i35_13, e_i35_14, e_i35_15, e_i35_16, e_i35_17, e_i35_18, e_i35_19, e_i35_20, e_i35_21, e_i35_22, e_i35_23, e_i35_24, e_i35_25, e_i35_26, e_i35_27, e_i35_28, e_i35_29, e_i35_30, e_i35_31, e_i35_32, e_i35_33, e_i35_34, e_i20_0, e_i20_1, e_i20_2, e_i20_3, e_i20_4, e_i20_5, e_i20_6, e_i20_7, e_i20_8, e_i20_9, e_i20_10, e_i20_11, e_i20_12, e_i20_13, e_i20_14, e_i20_15, e_i20_16, e_i20_17, e_i20_18, e_i20_19, e_i48_0, e_i48_1, e_i48_2, e_i48_3, e_i48_4, e_i48_5, e_i48_6, e_i48_7, e_i48_8, e_i48_9, e_i48_10, e_i48_11, e_i48_12, e_i3_0, e_i3_1, e_i3_2, e_i4_0, e_i4_1, e_i4_2, e_i4_3, e_i6_0, e_i6_1, e_i6_2, e_i6_3, e_i6_4, e_i6_5, e_i11_0, e_i11_1, e_i11_2, e_i11_3, e_i11_4, e_i11_5, e_i11_6, e_i11_7, e_i11_8, e_i11_9, e_i11_10, e_i12_0, e_i12_1, e_i12_2, e_i12_3, e_i12_4, e_i12_5, e_i12_6, e_i12_7, e_i12_8, e_i12_9, e_i12_10, e_i12_11, e0, hle, if_false, vp_in_nI (show k < 48 by omega) (by omega), nI_clamp (show k < 2 ^ 31 by omega), lg0, nI_1]
    rw [p_fnd_s] at hk
    by_cases hw : wd k = v
    · simp only [hw, if_true] at hk ⊢
      rw [if_neg (nI_m1 (by omega))] at hk
      exact hk
    · simp only [hw, if_false] at hk ⊢
      exact ih (k + 1) (by omega) (by omega) hk
theorem m_named {d : Nat} {g : aH} {al : Nat → Int32} {wd : Nat → Int64} {hs : Nat → Int32} {vx : Int32} {vy : Int32} {vz : Int32} {vi : Int32} {an : Nat → Int32} {sz : Int32} {nx : Int32} {wh : Int32} {tk : Int32} {td : Int32} {wr : Int32} {rw : Nat → Int32} {sn : Int32} {ak : Int32} {n0 : Int32} {n1 : Int32} {a b : Nat} (ha : a ≤ 6) (hb : b ≤ 6) (e0 : al 0 = nI a) (e1 : al 1 = nI b) {v : Int64} {Q : Option Value → aH → Prop} : wp d mX11_named 0 [some (.ref 35), some (.long v), none, none] [] (HM g al wd hs vx vy vz vi an sz nx wh tk td wr rw sn ak n0 n1) Q ↔ Q (some (.int (p_named wd a b v))) (HM g al wd hs vx vy vz vi an sz nx wh tk td wr rw sn ak n0 n1) := by
  refine wp_iff ?_
  simp only [sX11_named_0, sX11_named_1, sX11_named_3, sX11_named_4, sX11_named_7, sX11_named_8, sX11_named_9, sX11_named_12, sX11_named_13, sX11_named_16, sX11_named_17, sX11_named_18, sX11_named_19, sX11_named_20, sX11_named_23, sX11_named_25, sX11_named_26, sX11_named_27, sX11_named_28, sX11_named_31, sX11_named_34, sX11_named_35, sX11_named_37, sX11_named_38, sX11_named_41, sX11_named_42, sX11_named_43, sX11_named_46, sX11_named_47, sX11_named_50, sX11_named_52, sX11_named_53, sX11_named_54, sX11_named_55, sX11_named_56, sX11_named_57, sX11_named_60, sX11_named_62, sX11_named_63, sX11_named_64, sX11_named_65, sX11_named_68, sX11_named_71, sX11_named_72, e_clrI, e_clrR, e_clrU, e_clrN, e_clrL, e_s0, e_s1, e_s2, e_s3, e_s4, e_z0, e_z1, e_f0, e_f1, e_tl, e_tn, e_q0, e_q1, e_zi, e_zj, true_and, and_true, ↓reduceIte]
  exact m_namedL1 ha hb e0 e1 a 0 (by omega) (by omega) ⟨rfl, rfl⟩
/-- whether a number is a word's -/
def p_isw (v : Int64) : Bool := decide (¬ v = 0) && p_lt 8 v.toBitVec.toNat
theorem p_isw_l {n : Nat} (h : n < 2 ^ 64) : p_isw (lN n) = (decide (¬ n = 0) && p_lt 8 n) := by
  unfold p_isw
  have e : (lN n).toBitVec.toNat = n := by rw [b6_bv, BitVec.toNat_ofNat, Nat.mod_eq_of_lt h]
  have e2 : lN n = 0 ↔ n = 0 := b6_eq (b := 0) h (by omega)
  rw [e]
  simp only [e2]
theorem p_isw_W {v : Int64} (h : p_isw v = true) : isW v := by
  obtain ⟨n, hn, rfl⟩ := b6_of v
  rw [p_isw_l hn, Bool.and_eq_true, decide_eq_true_eq] at h
  exact isW_of hn h.2 (by omega)
def p_free (wd : Nat → Int64) (n0 n1 : Nat) (v : Int64) : Bool := p_isw v && (decide (p_word v = 4) && (decide (p_fnd wd v n0 0 = -1) && decide (p_fnd (fun k => wd (6 + k)) v n1 0 = -1)))
theorem p_named_4 {wd : Nat → Int64} {a b : Nat} (ha : a ≤ 6) (hb : b ≤ 6) {v : Int64} : p_named wd a b v = 4 ↔ (p_fnd wd v a 0 = -1 ∧ p_fnd (fun k => wd (6 + k)) v b 0 = -1) := by
  unfold p_named
  rcases p_fnd_r (f := wd) (v := v) a 0 with h | ⟨j, h1, h2, h3, h4⟩
  · rw [if_pos h]
    rcases p_fnd_r (f := fun k => wd (6 + k)) (v := v) b 0 with g | ⟨i, g1, g2, g3, g4⟩
    · rw [if_pos g]; exact ⟨fun _ => ⟨h, g⟩, fun _ => rfl⟩
    · rw [g3, if_neg (nI_m1 (by omega)), show (50 : Int32) = nI 50 from rfl, nI_add]
      constructor
      · intro q
        have := (nI_eq (b := 4) (by omega) (by omega)).mp q
        omega
      · intro q; exact absurd q.2 (nI_m1 (by omega))
  · rw [h3, if_neg (nI_m1 (by omega)), show (40 : Int32) = nI 40 from rfl, nI_add]
    constructor
    · intro q
      have := (nI_eq (b := 4) (by omega) (by omega)).mp q
      omega
    · intro q; exact absurd q.1 (nI_m1 (by omega))
theorem m_canL {d : Nat} {h : aH} {v : Int64} {Q : Option Value → aH → Prop} : ∀ (f n : Nat) (b : Bool) (l6 : Option Value), n < 256 ^ f → n < 2 ^ 63 →
    (∀ l6, wp (d + 1) mX11_canBe 63 [some (.ref 35), some (.long v), none, some (.int (if b && p_lt f n then 1 else 0)), some (.long (lN 0)), none, l6] [] h Q) →
    wp (d + 1) mX11_canBe 15 [some (.ref 35), some (.long v), none, some (.int (if b then 1 else 0)), some (.long (lN n)), none, l6] [] h Q := by
  intro f
  induction f with
  | zero =>
    intro n b l6 h1 h2 hk
    have : n = 0 := by simpa using h1
    subst this
    rw [sX11_canBe_15]
    have hz : ¬ (0 : Int64) < lN 0 := by decide
    simp only [sX11_canBe_0, sX11_canBe_1, sX11_canBe_2, sX11_canBe_3, sX11_canBe_6, sX11_canBe_7, sX11_canBe_10, sX11_canBe_11, sX11_canBe_12, sX11_canBe_13, sX11_canBe_17, sX11_canBe_18, sX11_canBe_19, sX11_canBe_22, sX11_canBe_24, sX11_canBe_27, sX11_canBe_28, sX11_canBe_29, sX11_canBe_31, sX11_canBe_32, sX11_canBe_35, sX11_canBe_37, sX11_canBe_39, sX11_canBe_41, sX11_canBe_44, sX11_canBe_47, sX11_canBe_48, sX11_canBe_51, sX11_canBe_52, sX11_canBe_53, sX11_canBe_55, sX11_canBe_57, sX11_canBe_58, sX11_canBe_60, sX11_canBe_64, sX11_canBe_67, sX11_canBe_68, sX11_canBe_71, sX11_canBe_72, sX11_canBe_75, sX11_canBe_76, sX11_canBe_77, sX11_canBe_80, sX11_canBe_81, sX11_canBe_84, sX11_canBe_85, sX11_canBe_88, sX11_canBe_89, e_clrI, e_clrR, e_clrU, e_clrN, e_clrL, e_s0, e_s1, e_s2, e_s3, e_s4, e_z0, e_z1, e_f0, e_f1, e_tl, e_tn, e_q0, e_q1, e_zi, e_zj, true_and, and_true, ↓reduceIte, lg_le, hz, not_false_eq_true, if_true]
    have := hk l6
    simp only [p_lt, Bool.and_true] at this
    exact this
  | succ f ih =>
    intro n b l6 h1 h2 hk
    rw [sX11_canBe_15]
    by_cases h0 : n = 0
    · subst h0
      have hz : ¬ (0 : Int64) < lN 0 := by decide
      simp only [sX11_canBe_0, sX11_canBe_1, sX11_canBe_2, sX11_canBe_3, sX11_canBe_6, sX11_canBe_7, sX11_canBe_10, sX11_canBe_11, sX11_canBe_12, sX11_canBe_13, sX11_canBe_17, sX11_canBe_18, sX11_canBe_19, sX11_canBe_22, sX11_canBe_24, sX11_canBe_27, sX11_canBe_28, sX11_canBe_29, sX11_canBe_31, sX11_canBe_32, sX11_canBe_35, sX11_canBe_37, sX11_canBe_39, sX11_canBe_41, sX11_canBe_44, sX11_canBe_47, sX11_canBe_48, sX11_canBe_51, sX11_canBe_52, sX11_canBe_53, sX11_canBe_55, sX11_canBe_57, sX11_canBe_58, sX11_canBe_60, sX11_canBe_64, sX11_canBe_67, sX11_canBe_68, sX11_canBe_71, sX11_canBe_72, sX11_canBe_75, sX11_canBe_76, sX11_canBe_77, sX11_canBe_80, sX11_canBe_81, sX11_canBe_84, sX11_canBe_85, sX11_canBe_88, sX11_canBe_89, e_clrI, e_clrR, e_clrU, e_clrN, e_clrL, e_s0, e_s1, e_s2, e_s3, e_s4, e_z0, e_z1, e_f0, e_f1, e_tl, e_tn, e_q0, e_q1, e_zi, e_zj, true_and, and_true, ↓reduceIte, lg_le, hz, not_false_eq_true, if_true]
      have := hk l6
      rw [p_lt_z, Bool.and_true] at this
      exact this
    · have hz : (0 : Int64) < lN n := (lz_pos h2).mpr (by omega)
      have hs := b6_sh (n := n) (k := 8) h2 (by omega)
      rw [show (2 : Nat) ^ 8 = 256 by decide] at hs
      have hs : lN n >>> ((8 : Int32).toInt64 &&& 63) = lN (n / 256) := hs
      have hlt : n / 256 < 256 ^ f := by rw [Nat.pow_succ] at h1; exact Nat.div_lt_of_lt_mul (by omega)
      have hl : (97 ≤ nI (n % 256) ∧ nI (n % 256) ≤ 122) ↔ (97 ≤ n % 256 ∧ n % 256 ≤ 122) := by
        rw [show (97 : Int32) = nI 97 from rfl, show (122 : Int32) = nI 122 from rfl, nI_leI (by omega) (by omega), nI_leI (by omega) (by omega)]
      unfold p_lt at hk
      simp only [h0, decide_false, Bool.false_or] at hk
      simp only [sX11_canBe_0, sX11_canBe_1, sX11_canBe_2, sX11_canBe_3, sX11_canBe_6, sX11_canBe_7, sX11_canBe_10, sX11_canBe_11, sX11_canBe_12, sX11_canBe_13, sX11_canBe_17, sX11_canBe_18, sX11_canBe_19, sX11_canBe_22, sX11_canBe_24, sX11_canBe_27, sX11_canBe_28, sX11_canBe_29, sX11_canBe_31, sX11_canBe_32, sX11_canBe_35, sX11_canBe_37, sX11_canBe_39, sX11_canBe_41, sX11_canBe_44, sX11_canBe_47, sX11_canBe_48, sX11_canBe_51, sX11_canBe_52, sX11_canBe_53, sX11_canBe_55, sX11_canBe_57, sX11_canBe_58, sX11_canBe_60, sX11_canBe_64, sX11_canBe_67, sX11_canBe_68, sX11_canBe_71, sX11_canBe_72, sX11_canBe_75, sX11_canBe_76, sX11_canBe_77, sX11_canBe_80, sX11_canBe_81, sX11_canBe_84, sX11_canBe_85, sX11_canBe_88, sX11_canBe_89, e_clrI, e_clrR, e_clrU, e_clrN, e_clrL, e_s0, e_s1, e_s2, e_s3, e_s4, e_z0, e_z1, e_f0, e_f1, e_tl, e_tn, e_q0, e_q1, e_zi, e_zj, true_and, and_true, ↓reduceIte, lg_le, hz, not_true_eq_false, if_false, b6_an, m_isIn, hl, hs]
      have hq := ih (n / 256) (b && decide (97 ≤ n % 256 ∧ n % 256 ≤ 122)) (some (.int (nI (n % 256)))) hlt (by omega) (by intro l6; rw [Bool.and_assoc]; exact hk l6)
      cases b with
      | false =>
        simp only [Bool.false_and, Bool.false_eq_true, if_false, not_false_eq_true, if_true] at hq ⊢
        exact hq
      | true =>
        by_cases hc : 97 ≤ n % 256 ∧ n % 256 ≤ 122
        · simp only [hc, and_self, decide_true, Bool.and_self, if_true, not_true_eq_false, if_false] at hq ⊢
          exact hq
        · simp only [hc, decide_false, Bool.and_false, Bool.false_eq_true, if_false, not_false_eq_true, not_true_eq_false, if_true] at hq ⊢
          exact hq
theorem m_canBe {d : Nat} {g : aH} {al : Nat → Int32} {wd : Nat → Int64} {hs : Nat → Int32} {vx : Int32} {vy : Int32} {vz : Int32} {vi : Int32} {an : Nat → Int32} {sz : Int32} {nx : Int32} {wh : Int32} {tk : Int32} {td : Int32} {wr : Int32} {rw : Nat → Int32} {sn : Int32} {ak : Int32} {n0 : Int32} {n1 : Int32} {a b : Nat} (ha : a ≤ 6) (hb : b ≤ 6) (e0 : al 0 = nI a) (e1 : al 1 = nI b) {v : Int64} {Q : Option Value → aH → Prop} : wp (d + 1) mX11_canBe 0 [some (.ref 35), some (.long v), none, none, none, none, none] [] (HM g al wd hs vx vy vz vi an sz nx wh tk td wr rw sn ak n0 n1) Q ↔ Q (some (.int (if p_free wd a b v then 1 else 0))) (HM g al wd hs vx vy vz vi an sz nx wh tk td wr rw sn ak n0 n1) := by
  refine wp_iff ?_
  obtain ⟨n, hn, rfl⟩ := b6_of v
  have h63 : ∀ (r : Int64) (l6 : Option Value), wp (d + 1) mX11_canBe 63 [some (.ref 35), some (.long (lN n)), none, some (.int (if p_isw (lN n) then 1 else 0)), some (.long r), none, l6] [] (HM g al wd hs vx vy vz vi an sz nx wh tk td wr rw sn ak n0 n1) (fun v g_1 => v = some (.int (if p_free wd a b (lN n) then 1 else 0)) ∧ g_1 = HM g al wd hs vx vy vz vi an sz nx wh tk td wr rw sn ak n0 n1) := by
    intro r l6
    unfold p_free
    cases hp : p_isw (lN n) with
    | false =>
      simp only [sX11_canBe_0, sX11_canBe_1, sX11_canBe_2, sX11_canBe_3, sX11_canBe_6, sX11_canBe_7, sX11_canBe_10, sX11_canBe_11, sX11_canBe_12, sX11_canBe_13, sX11_canBe_17, sX11_canBe_18, sX11_canBe_19, sX11_canBe_22, sX11_canBe_24, sX11_canBe_27, sX11_canBe_28, sX11_canBe_29, sX11_canBe_31, sX11_canBe_32, sX11_canBe_35, sX11_canBe_37, sX11_canBe_39, sX11_canBe_41, sX11_canBe_44, sX11_canBe_47, sX11_canBe_48, sX11_canBe_51, sX11_canBe_52, sX11_canBe_53, sX11_canBe_55, sX11_canBe_57, sX11_canBe_58, sX11_canBe_60, sX11_canBe_63, sX11_canBe_64, sX11_canBe_67, sX11_canBe_68, sX11_canBe_71, sX11_canBe_72, sX11_canBe_75, sX11_canBe_76, sX11_canBe_77, sX11_canBe_80, sX11_canBe_81, sX11_canBe_84, sX11_canBe_85, sX11_canBe_88, sX11_canBe_89, e_clrI, e_clrR, e_clrU, e_clrN, e_clrL, e_s0, e_s1, e_s2, e_s3, e_s4, e_z0, e_z1, e_f0, e_f1, e_tl, e_tn, e_q0, e_q1, e_zi, e_zj, true_and, and_true, ↓reduceIte, Bool.false_eq_true, if_false, Bool.false_and]
      try simp +decide only [if_true]
    | true =>
      simp only [sX11_canBe_0, sX11_canBe_1, sX11_canBe_2, sX11_canBe_3, sX11_canBe_6, sX11_canBe_7, sX11_canBe_10, sX11_canBe_11, sX11_canBe_12, sX11_canBe_13, sX11_canBe_17, sX11_canBe_18, sX11_canBe_19, sX11_canBe_22, sX11_canBe_24, sX11_canBe_27, sX11_canBe_28, sX11_canBe_29, sX11_canBe_31, sX11_canBe_32, sX11_canBe_35, sX11_canBe_37, sX11_canBe_39, sX11_canBe_41, sX11_canBe_44, sX11_canBe_47, sX11_canBe_48, sX11_canBe_51, sX11_canBe_52, sX11_canBe_53, sX11_canBe_55, sX11_canBe_57, sX11_canBe_58, sX11_canBe_60, sX11_canBe_63, sX11_canBe_64, sX11_canBe_67, sX11_canBe_68, sX11_canBe_71, sX11_canBe_72, sX11_canBe_75, sX11_canBe_76, sX11_canBe_77, sX11_canBe_80, sX11_canBe_81, sX11_canBe_84, sX11_canBe_85, sX11_canBe_88, sX11_canBe_89, e_clrI, e_clrR, e_clrU, e_clrN, e_clrL, e_s0, e_s1, e_s2, e_s3, e_s4, e_z0, e_z1, e_f0, e_f1, e_tl, e_tn, e_q0, e_q1, e_zi, e_zj, true_and, and_true, ↓reduceIte, hM_rc, hM_g0, hM_g1, hM_g2, hM_g3, hM_g4, hM_g5, hM_g6, hM_g7, hM_g8, hM_g9, hM_g10, hM_g11, hM_g12, hM_g13, hM_g14, hM_g15, hM_g16, hM_g17, hM_g18, hM_p3, hM_p4, hM_p5, hM_p6, hM_p8, hM_p9, hM_p10, hM_p11, hM_p12, hM_p13, hM_p15, hM_p16, hM_p17, hM_p18, hM_l36, hM_l37, hM_l38, hM_l39, hM_l40, hM_s36, hM_s37, hM_s38, hM_s39, hM_s40, e_c0, e_c1, e_c2, e_c3, e_c4, e_c5, e_c6, e_c7, e_c8, e_c9, e_c10, e_c11, e_c12, e_c13, e_c14, e_c15, e_c16, e_c17, e_c18, e_c19, e_c20, e_c21, e_c22, e_c23, e_c24, e_c25, e_c26, e_c27, e_c28, e_c29, e_c30, e_c31, e_c32, e_c33, e_c34, e_c35, e_c36, e_c37, e_c38, e_c39, e_c40, e_c41, e_c42, e_c43, e_c44, e_c45, e_c46, e_c47, e_c48, e_c49, e_c50, e_c51, e_c52, e_c53, e_c54, e_c55, e_c56, e_c57, e_c58, e_c59, e_c60, e_c61, e_c62, e_c63, e_c64, e_c65, e_c66, e_c67, e_c68, e_c69, e_c70, e_i3848_0, e_i3848_1, e_i3848_2, e_i3848_3, e_i3848_4, e_i3848_5, e_i3848_6, e_i3848_7, e_i3848_8, e_i3848_9, e_i3848_10, e_i3848_11, e_i3848_12, e_i3848_13, e_i3848_14, e_i3848_15, e_i3848_16, e_i3848_17, e_i3848_18, e_i3848_19, e_i3848_20, e_i3848_21, e_i3848_22, e_i3848_23, e_i3848_24, e_i3848_25, e_i3848_26, e_i3848_27, e_i3848_28, e_i3848_29, e_i3848_30, e_i3848_31, e_i3848_32, e_i3848_33, e_i3848_34, e_i3848_35, e_i3848_36, e_i3848_37, e_i3848_38, e_i3848_39, e_i3848_40, e_i3848_41, e_i3848_42, e_i3848_43, e_i3848_44, e_i3848_45, e_i3848_46, e_i3848_47, e_i3848_48, e_i3848_49, e_i3848_50, e_i3848_51, e_i3848_52, e_i3848_53, e_i3848_54, e_i3848_55, e_i3848_56, e_i3848_57, e_i3848_58, e_i3848_59, e_i3848_60, e_i3848_61, e_i3848_62, e_i3848_63, e_i3848_64, e_i3848_65, e_i3848_66, e_i3848_67, e_i3848_68, e_i3848_69, e_i3848_70, e_i35_0, e_i35_1, e_i35_2, e_i35_3, e_i35_4, e_i35_5, e_i35_6, e_i35_7, e_i35_8, e_i35_9, e_i35_10, e_i35_11, e_i35_12, e_i35_13, e_i35_14, e_i35_15, e_i35_16, e_i35_17, e_i35_18, e_i35_19, e_i35_20, e_i35_21, e_i35_22, e_i35_23, e_i35_24, e_i35_25, e_i35_26, e_i35_27, e_i35_28, e_i35_29, e_i35_30, e_i35_31, e_i35_32, e_i35_33, e_i35_34, e_i20_0, e_i20_1, e_i20_2, e_i20_3, e_i20_4, e_i20_5, e_i20_6, e_i20_7, e_i20_8, e_i20_9, e_i20_10, e_i20_11, e_i20_12, e_i20_13, e_i20_14, e_i20_15, e_i20_16, e_i20_17, e_i20_18, e_i20_19, e_i48_0, e_i48_1, e_i48_2, e_i48_3, e_i48_4, e_i48_5, e_i48_6, e_i48_7, e_i48_8, e_i48_9, e_i48_10, e_i48_11, e_i48_12, e_i3_0, e_i3_1, e_i3_2, e_i4_0, e_i4_1, e_i4_2, e_i4_3, e_i6_0, e_i6_1, e_i6_2, e_i6_3, e_i6_4, e_i6_5, e_i11_0, e_i11_1, e_i11_2, e_i11_3, e_i11_4, e_i11_5, e_i11_6, e_i11_7, e_i11_8, e_i11_9, e_i11_10, e_i12_0, e_i12_1, e_i12_2, e_i12_3, e_i12_4, e_i12_5, e_i12_6, e_i12_7, e_i12_8, e_i12_9, e_i12_10, e_i12_11, if_true, Bool.true_and, m_wordOf, m_named ha hb e0 e1, p_named_4 ha hb]
      by_cases hw : p_word (lN n) = 4
      · by_cases hx : p_fnd wd (lN n) a 0 = -1
        · by_cases hy : p_fnd (fun k => wd (6 + k)) (lN n) b 0 = -1
          · simp +decide [hw, hx, hy]
          · simp +decide [hw, hx, hy]
        · simp +decide [hw, hx]
      · simp +decide [hw]
  rcases Nat.lt_or_ge n (2 ^ 63) with h | h
  · have hgo := m_canL (d := d) (h := HM g al wd hs vx vy vz vi an sz nx wh tk td wr rw sn ak n0 n1) (v := lN n) (Q := fun v g_1 => v = some (.int (if p_free wd a b (lN n) then 1 else 0)) ∧ g_1 = HM g al wd hs vx vy vz vi an sz nx wh tk td wr rw sn ak n0 n1) 8 n (decide (¬ n = 0)) none (by rw [show (256 : Nat) ^ 8 = 2 ^ 64 by decide]; exact hn) h (by intro l6; rw [← p_isw_l hn]; exact h63 _ l6)
    by_cases h0 : n = 0
    · subst h0
      have hz : ¬ (0 : Int64) < lN 0 := by decide
      simp only [not_true_eq_false, decide_false, Bool.false_eq_true, if_false] at hgo
      simp only [sX11_canBe_0, sX11_canBe_1, sX11_canBe_2, sX11_canBe_3, sX11_canBe_6, sX11_canBe_7, sX11_canBe_10, sX11_canBe_11, sX11_canBe_12, sX11_canBe_13, sX11_canBe_17, sX11_canBe_18, sX11_canBe_19, sX11_canBe_22, sX11_canBe_24, sX11_canBe_27, sX11_canBe_28, sX11_canBe_29, sX11_canBe_31, sX11_canBe_32, sX11_canBe_35, sX11_canBe_37, sX11_canBe_39, sX11_canBe_41, sX11_canBe_44, sX11_canBe_47, sX11_canBe_48, sX11_canBe_51, sX11_canBe_52, sX11_canBe_53, sX11_canBe_55, sX11_canBe_57, sX11_canBe_58, sX11_canBe_60, sX11_canBe_63, sX11_canBe_64, sX11_canBe_67, sX11_canBe_68, sX11_canBe_71, sX11_canBe_72, sX11_canBe_75, sX11_canBe_76, sX11_canBe_77, sX11_canBe_80, sX11_canBe_81, sX11_canBe_84, sX11_canBe_85, sX11_canBe_88, sX11_canBe_89, e_clrI, e_clrR, e_clrU, e_clrN, e_clrL, e_s0, e_s1, e_s2, e_s3, e_s4, e_z0, e_z1, e_f0, e_f1, e_tl, e_tn, e_q0, e_q1, e_zi, e_zj, true_and, and_true, ↓reduceIte, lg_le, hz, not_false_eq_true, if_true]
      exact hgo
    · have hz : (0 : Int64) < lN n := (lz_pos h).mpr (by omega)
      simp only [h0, not_false_eq_true, decide_true, if_true] at hgo
      simp only [sX11_canBe_0, sX11_canBe_1, sX11_canBe_2, sX11_canBe_3, sX11_canBe_6, sX11_canBe_7, sX11_canBe_10, sX11_canBe_11, sX11_canBe_12, sX11_canBe_13, sX11_canBe_17, sX11_canBe_18, sX11_canBe_19, sX11_canBe_22, sX11_canBe_24, sX11_canBe_27, sX11_canBe_28, sX11_canBe_29, sX11_canBe_31, sX11_canBe_32, sX11_canBe_35, sX11_canBe_37, sX11_canBe_39, sX11_canBe_41, sX11_canBe_44, sX11_canBe_47, sX11_canBe_48, sX11_canBe_51, sX11_canBe_52, sX11_canBe_53, sX11_canBe_55, sX11_canBe_57, sX11_canBe_58, sX11_canBe_60, sX11_canBe_63, sX11_canBe_64, sX11_canBe_67, sX11_canBe_68, sX11_canBe_71, sX11_canBe_72, sX11_canBe_75, sX11_canBe_76, sX11_canBe_77, sX11_canBe_80, sX11_canBe_81, sX11_canBe_84, sX11_canBe_85, sX11_canBe_88, sX11_canBe_89, e_clrI, e_clrR, e_clrU, e_clrN, e_clrL, e_s0, e_s1, e_s2, e_s3, e_s4, e_z0, e_z1, e_f0, e_f1, e_tl, e_tn, e_q0, e_q1, e_zi, e_zj, true_and, and_true, ↓reduceIte, lg_le, hz, not_true_eq_false, if_false]
      exact hgo
  · have hz : ¬ (0 : Int64) < lN n := lz_neg h hn
    have hw : p_isw (lN n) = false := by
      rw [p_isw_l hn]
      cases hp : p_lt 8 n with
      | false => rw [Bool.and_false]
      | true =>
        have := p_lt_top 7 n (by rw [show (256 : Nat) ^ (7 + 1) = 2 ^ 64 by decide]; exact hn) hp
        rw [show (256 : Nat) ^ (7 + 1) = 2 ^ 64 by decide] at this
        omega
    have hgo := h63 (lN n) none
    rw [hw] at hgo
    simp only [Bool.false_eq_true, if_false] at hgo
    simp only [sX11_canBe_0, sX11_canBe_1, sX11_canBe_2, sX11_canBe_3, sX11_canBe_6, sX11_canBe_7, sX11_canBe_10, sX11_canBe_11, sX11_canBe_12, sX11_canBe_13, sX11_canBe_17, sX11_canBe_18, sX11_canBe_19, sX11_canBe_22, sX11_canBe_24, sX11_canBe_27, sX11_canBe_28, sX11_canBe_29, sX11_canBe_31, sX11_canBe_32, sX11_canBe_35, sX11_canBe_37, sX11_canBe_39, sX11_canBe_41, sX11_canBe_44, sX11_canBe_47, sX11_canBe_48, sX11_canBe_51, sX11_canBe_52, sX11_canBe_53, sX11_canBe_55, sX11_canBe_57, sX11_canBe_58, sX11_canBe_60, sX11_canBe_64, sX11_canBe_67, sX11_canBe_68, sX11_canBe_71, sX11_canBe_72, sX11_canBe_75, sX11_canBe_76, sX11_canBe_77, sX11_canBe_80, sX11_canBe_81, sX11_canBe_84, sX11_canBe_85, sX11_canBe_88, sX11_canBe_89, e_clrI, e_clrR, e_clrU, e_clrN, e_clrL, e_s0, e_s1, e_s2, e_s3, e_s4, e_z0, e_z1, e_f0, e_f1, e_tl, e_tn, e_q0, e_q1, e_zi, e_zj, true_and, and_true, ↓reduceIte, lg_le, hz, not_false_eq_true, if_true]
    rw [sX11_canBe_15]
    simp only [sX11_canBe_0, sX11_canBe_1, sX11_canBe_2, sX11_canBe_3, sX11_canBe_6, sX11_canBe_7, sX11_canBe_10, sX11_canBe_11, sX11_canBe_12, sX11_canBe_13, sX11_canBe_17, sX11_canBe_18, sX11_canBe_19, sX11_canBe_22, sX11_canBe_24, sX11_canBe_27, sX11_canBe_28, sX11_canBe_29, sX11_canBe_31, sX11_canBe_32, sX11_canBe_35, sX11_canBe_37, sX11_canBe_39, sX11_canBe_41, sX11_canBe_44, sX11_canBe_47, sX11_canBe_48, sX11_canBe_51, sX11_canBe_52, sX11_canBe_53, sX11_canBe_55, sX11_canBe_57, sX11_canBe_58, sX11_canBe_60, sX11_canBe_64, sX11_canBe_67, sX11_canBe_68, sX11_canBe_71, sX11_canBe_72, sX11_canBe_75, sX11_canBe_76, sX11_canBe_77, sX11_canBe_80, sX11_canBe_81, sX11_canBe_84, sX11_canBe_85, sX11_canBe_88, sX11_canBe_89, e_clrI, e_clrR, e_clrU, e_clrN, e_clrL, e_s0, e_s1, e_s2, e_s3, e_s4, e_z0, e_z1, e_f0, e_f1, e_tl, e_tn, e_q0, e_q1, e_zi, e_zj, true_and, and_true, ↓reduceIte, lg_le, hz, not_false_eq_true, if_true]
    exact hgo
