/-! ===== the reference's scan ===== -/
theorem wp_iff {d : Nat} {y : aM} {pc : Nat} {l : List (Option Value)} {st : List Value} {h : aH} {Q : Option Value → aH → Prop} {r : Option Value} {H : aH} (h0 : wp d y pc l st h (fun v g => v = r ∧ g = H)) : wp d y pc l st h Q ↔ Q r H := by
  obtain ⟨f0, r0, e0, h1, h2⟩ := h0
  constructor
  · rintro ⟨f, r1, e, q⟩
    have a0 := a_run_mono (a_ev_mono (f := f0) (f' := f0 + f) (by omega) d) f0 (f0 + f) _ r0 (by omega) e0
    have a1 := a_run_mono (a_ev_mono (f := f) (f' := f0 + f) (by omega) d) f (f0 + f) _ r1 (by omega) e
    have : r0 = r1 := Option.some.inj (a0.symm.trans a1)
    subst this
    rw [← h1, ← h2]
    exact q
  · intro q
    exact ⟨f0, r0, e0, by rw [h1, h2]; exact q⟩
theorem m_isUnlike_i {d : Nat} {g : aH} {al : Nat → Int32} {wd : Nat → Int64} {hs : Nat → Int32} {vx : Int32} {vy : Int32} {vz : Int32} {vi : Int32} {an : Nat → Int32} {sz : Int32} {nx : Int32} {wh : Int32} {tk : Int32} {td : Int32} {wr : Int32} {rw : Nat → Int32} {sn : Int32} {ak : Int32} {n0 : Int32} {n1 : Int32} (hsf : p_sf (al 2) vy vz) {Q : Option Value → aH → Prop} : wp (d + 3) mX11_isUnlike 0 [some (.ref 35), none, none, none] [] (HM g al wd hs vx vy vz vi an sz nx wh tk td wr rw sn ak n0 n1) Q ↔ Q (some (.int (if p_unl (fun v => p_tem (al 8) (nI v) (al 2) (al 6)) (fun v => p_way (nI v) (al 2) vx vy vz vi) (p_ans (al 2) vx vy vz) 0 then 1 else 0))) (HM g al wd hs vx vy vz vi an sz nx wh tk td wr rw sn ak n0 n1) := wp_iff (m_isUnlike hsf ⟨rfl, rfl⟩)
theorem m_least_k {d : Nat} {v : Int32} (k : Nat) (hv : 14 + 2 * v = nI k) (hk : k < 3848) {g : aH} {al : Nat → Int32} {wd : Nat → Int64} {hs : Nat → Int32} {vx : Int32} {vy : Int32} {vz : Int32} {vi : Int32} {an : Nat → Int32} {sz : Int32} {nx : Int32} {wh : Int32} {tk : Int32} {td : Int32} {wr : Int32} {rw : Nat → Int32} {sn : Int32} {ak : Int32} {n0 : Int32} {n1 : Int32} {Q : Option Value → aH → Prop} : wp d mX11_least 0 [some (.ref 35), some (.int v)] [] (HM g al wd hs vx vy vz vi an sz nx wh tk td wr rw sn ak n0 n1) Q ↔ Q (some (.int (al k))) (HM g al wd hs vx vy vz vi an sz nx wh tk td wr rw sn ak n0 n1) := by
  rw [m_least, hv, nI_clamp (by omega)]
  exact ⟨fun q => q.2, fun q => ⟨vp_in_nI hk (by omega), q⟩⟩
theorem m_greatest_k {d : Nat} {v : Int32} (k : Nat) (hv : 14 + 2 * v + 1 = nI k) (hk : k < 3848) {g : aH} {al : Nat → Int32} {wd : Nat → Int64} {hs : Nat → Int32} {vx : Int32} {vy : Int32} {vz : Int32} {vi : Int32} {an : Nat → Int32} {sz : Int32} {nx : Int32} {wh : Int32} {tk : Int32} {td : Int32} {wr : Int32} {rw : Nat → Int32} {sn : Int32} {ak : Int32} {n0 : Int32} {n1 : Int32} {Q : Option Value → aH → Prop} : wp d mX11_greatest 0 [some (.ref 35), some (.int v)] [] (HM g al wd hs vx vy vz vi an sz nx wh tk td wr rw sn ak n0 n1) Q ↔ Q (some (.int (al k))) (HM g al wd hs vx vy vz vi an sz nx wh tk td wr rw sn ak n0 n1) := by
  rw [m_greatest, hv, nI_clamp (by omega)]
  exact ⟨fun q => q.2, fun q => ⟨vp_in_nI hk (by omega), q⟩⟩
/-- what is still to come, and how many were counted -/
def q_scan (K1 : Int32) (F : Int32 → Nat × Nat × Nat × Nat → Prop) (E : Int32 → Prop) : List (Nat × Nat × Nat × Nat) → Nat → Prop
  | [], c => E (nI c)
  | s :: l, c => if nI (c + 1) = K1 then F (nI (c + 1)) s else q_scan K1 F E l (c + 1)
/-- the numbers from i on, n of them, that fit -/
def q_fits (U : Nat → Bool) (i n : Nat) : List Nat := (List.range' i n).filter U
theorem q_fits_s {U : Nat → Bool} {i n : Nat} : q_fits U i (n + 1) = if U i then i :: q_fits U (i + 1) n else q_fits U (i + 1) n := by
  unfold q_fits
  rw [List.range'_succ, List.filter_cons]
theorem q_fits_0 {U : Nat → Bool} {i : Nat} : q_fits U i 0 = [] := rfl
/-- does I fit -/
def p_idl (al : Nat → Int32) (x y z i : Nat) : Bool := (decide (al 6 < 0) || !decide (al (22 + al 7).toNatClampNeg < nI i)) && p_unl (fun v => p_tem (al 8) (nI v) (al 2) (al 6)) (fun v => p_way (nI v) (al 2) (nI x) (nI y) (nI z) (nI i)) (p_ans (al 2) (nI x) (nI y) (nI z)) 0
theorem m_scan_i {d : Nat} {g : aH} {al : Nat → Int32} {wd : Nat → Int64} {hs : Nat → Int32} {vx : Int32} {vy : Int32} {vz : Int32} {vi : Int32} {an : Nat → Int32} {sz : Int32} {nx : Int32} {wh : Int32} {tk : Int32} {td : Int32} {wr : Int32} {rw : Nat → Int32} {sn : Int32} {ak : Int32} {n0 : Int32} {n1 : Int32} {k hz : Int32} {Q : Option Value → aH → Prop} {x y z hi : Nat} (hsf : p_sf (al 2) (nI y) (nI z)) (hmo : ¬ al 6 < 0 → vp_in (22 + al 7) 3848) (hh : hi < 1000) (hb : (if al 6 < 0 then 0 else al 21) = nI hi) {E : Int32 → Prop} {r : List (Nat × Nat × Nat × Nat)}
    (hr : ∀ (vi : Int32) (c : Nat), q_scan (k + 1) (fun m s => Q (some (.int m)) (HM g al wd hs (nI s.1) (nI s.2.1) (nI s.2.2.1) (nI s.2.2.2) an sz nx wh tk td wr rw sn ak n0 n1)) E r c → wp (d + 4) mX11_scan 76 [some (.ref 35), some (.int k), some (.int (nI c)), some (.int hz)] [] (HM g al wd hs (nI x) (nI y) (nI z + 1) vi an sz nx wh tk td wr rw sn ak n0 n1) Q) :
    ∀ (n i c : Nat), hi + 1 - i = n → i ≤ hi + 1 → q_scan (k + 1) (fun m s => Q (some (.int m)) (HM g al wd hs (nI s.1) (nI s.2.1) (nI s.2.2.1) (nI s.2.2.2) an sz nx wh tk td wr rw sn ak n0 n1)) E ((q_fits (p_idl al x y z) i n).map (fun i => (x, y, z, i)) ++ r) c →
      wp (d + 4) mX11_scan 126 [some (.ref 35), some (.int k), some (.int (nI c)), some (.int hz)] [] (HM g al wd hs (nI x) (nI y) (nI z) (nI i) an sz nx wh tk td wr rw sn ak n0 n1) Q := by
  have hb2 : ¬ al 6 < 0 → al 21 = nI hi := fun q => by rw [if_neg q] at hb; exact hb
  have hb3 : al 6 < 0 → nI hi = 0 := fun q => by rw [if_pos q] at hb; exact hb.symm
  intro n
  induction n with
  | zero =>
    intro i c h1 h2 hk
    have : i = hi + 1 := by omega
    subst this
    rw [sX11_scan_126]
    simp only [sX11_scan_0, sX11_scan_1, sX11_scan_2, sX11_scan_3, sX11_scan_6, sX11_scan_8, sX11_scan_11, sX11_scan_12, sX11_scan_15, sX11_scan_16, sX11_scan_17, sX11_scan_18, sX11_scan_19, sX11_scan_20, sX11_scan_23, sX11_scan_27, sX11_scan_30, sX11_scan_31, sX11_scan_32, sX11_scan_35, sX11_scan_38, sX11_scan_39, sX11_scan_40, sX11_scan_41, sX11_scan_44, sX11_scan_48, sX11_scan_51, sX11_scan_52, sX11_scan_53, sX11_scan_56, sX11_scan_59, sX11_scan_60, sX11_scan_61, sX11_scan_64, sX11_scan_65, sX11_scan_66, sX11_scan_69, sX11_scan_72, sX11_scan_73, sX11_scan_77, sX11_scan_80, sX11_scan_81, sX11_scan_84, sX11_scan_85, sX11_scan_86, sX11_scan_89, sX11_scan_92, sX11_scan_93, sX11_scan_96, sX11_scan_97, sX11_scan_100, sX11_scan_103, sX11_scan_106, sX11_scan_107, sX11_scan_108, sX11_scan_111, sX11_scan_114, sX11_scan_115, sX11_scan_116, sX11_scan_119, sX11_scan_122, sX11_scan_123, sX11_scan_127, sX11_scan_130, sX11_scan_131, sX11_scan_134, sX11_scan_137, sX11_scan_138, sX11_scan_139, sX11_scan_142, sX11_scan_145, sX11_scan_146, sX11_scan_149, sX11_scan_150, sX11_scan_153, sX11_scan_156, sX11_scan_157, sX11_scan_160, sX11_scan_161, sX11_scan_164, sX11_scan_166, sX11_scan_167, sX11_scan_170, sX11_scan_172, sX11_scan_173, sX11_scan_174, sX11_scan_175, sX11_scan_178, sX11_scan_179, sX11_scan_182, sX11_scan_185, sX11_scan_188, sX11_scan_191, sX11_scan_192, sX11_scan_193, sX11_scan_194, sX11_scan_195, sX11_scan_198, sX11_scan_199, sX11_scan_200, sX11_scan_201, sX11_scan_201i, sX11_scan_202, sX11_scan_205, sX11_scan_206, sX11_scan_207, sX11_scan_210, sX11_scan_213, sX11_scan_214, sX11_scan_214i, sX11_scan_215, sX11_scan_218, sX11_scan_219, sX11_scan_220, sX11_scan_223, sX11_scan_226, sX11_scan_227, sX11_scan_227i, sX11_scan_228, sX11_scan_231, sX11_scan_232, sX11_scan_233, sX11_scan_236, sX11_scan_239, sX11_scan_240, sX11_scan_240i, sX11_scan_241, sX11_scan_244, sX11_scan_245, sX11_scan_246, sX11_scan_249, sX11_scan_252, sX11_scan_253, e_clrI, e_clrR, e_clrU, e_clrN, e_clrL, e_s0, e_s1, e_s2, e_s3, e_s4, e_z0, e_z1, e_f0, e_f1, e_tl, e_tn, e_q0, e_q1, e_zi, e_zj, true_and, and_true, ↓reduceIte, hM_rc, hM_g0, hM_g1, hM_g2, hM_g3, hM_g4, hM_g5, hM_g6, hM_g7, hM_g8, hM_g9, hM_g10, hM_g11, hM_g12, hM_g13, hM_g14, hM_g15, hM_g16, hM_g17, hM_g18, hM_p3, hM_p4, hM_p5, hM_p6, hM_p8, hM_p9, hM_p10, hM_p11, hM_p12, hM_p13, hM_p15, hM_p16, hM_p17, hM_p18, hM_l36, hM_l37, hM_l38, hM_l39, hM_l40, hM_s36, hM_s37, hM_s38, hM_s39, hM_s40, e_c0, e_c1, e_c2, e_c3, e_c4, e_c5, e_c6, e_c7, e_c8, e_c9, e_c10, e_c11, e_c12, e_c13, e_c14, e_c15, e_c16, e_c17, e_c18, e_c19, e_c20, e_c21, e_c22, e_c23, e_c24, e_c25, e_c26, e_c27, e_c28, e_c29, e_c30, e_c31, e_c32, e_c33, e_c34, e_c35, e_c36, e_c37, e_c38, e_c39, e_c40, e_c41, e_c42, e_c43, e_c44, e_c45, e_c46, e_c47, e_c48, e_c49, e_c50, e_c51, e_c52, e_c53, e_c54, e_c55, e_c56, e_c57, e_c58, e_c59, e_c60, e_c61, e_c62, e_c63, e_c64, e_c65, e_c66, e_c67, e_c68, e_c69, e_c70, e_i3848_0, e_i3848_1, e_i3848_2, e_i3848_3, e_i3848_4, e_i3848_5, e_i3848_6, e_i3848_7, e_i3848_8, e_i3848_9, e_i3848_10, e_i3848_11, e_i3848_12, e_i3848_13, e_i3848_14, e_i3848_15, e_i3848_16, e_i3848_17, e_i3848_18, e_i3848_19, e_i3848_20, e_i3848_21, e_i3848_22, e_i3848_23, e_i3848_24, e_i3848_25, e_i3848_26, e_i3848_27, e_i3848_28, e_i3848_29, e_i3848_30, e_i3848_31, e_i3848_32, e_i3848_33, e_i3848_34, e_i3848_35, e_i3848_36, e_i3848_37, e_i3848_38, e_i3848_39, e_i3848_40, e_i3848_41, e_i3848_42, e_i3848_43, e_i3848_44, e_i3848_45, e_i3848_46, e_i3848_47, e_i3848_48, e_i3848_49, e_i3848_50, e_i3848_51, e_i3848_52, e_i3848_53, e_i3848_54, e_i3848_55, e_i3848_56, e_i3848_57, e_i3848_58, e_i3848_59, e_i3848_60, e_i3848_61, e_i3848_62, e_i3848_63, e_i3848_64, e_i3848_65, e_i3848_66, e_i3848_67, e_i3848_68, e_i3848_69, e_i3848_70, e_i35_0, e_i35_1, e_i35_2, e_i35_3, e_i35_4, e_i35_5, e_i35_6, e_i35_7, e_i35_8, e_i35_9, e_i35_10, e_i35_11, e_i35_12, e_i35_13, e_i35_14, e_i35_15, e_i35_16, e_i35_17, e_i35_18, e_i35_19, e_i35_20, e_i35_21, e_i35_22, e_i35_23, e_i35_24, e_i35_25, e_i35_26, e_i35_27, e_i35_28, e_i35_29, e_i35_30, e_i35_31, e_i35_32, e_i35_33, e_i35_34, e_i20_0, e_i20_1, e_i20_2, e_i20_3, e_i20_4, e_i20_5, e_i20_6, e_i20_7, e_i20_8, e_i20_9, e_i20_10, e_i20_11, e_i20_12, e_i20_13, e_i20_14, e_i20_15, e_i20_16, e_i20_17, e_i20_18, e_i20_19, e_i48_0, e_i48_1, e_i48_2, e_i48_3, e_i48_4, e_i48_5, e_i48_6, e_i48_7, e_i48_8, e_i48_9, e_i48_10, e_i48_11, e_i48_12, e_i3_0, e_i3_1, e_i3_2, e_i4_0, e_i4_1, e_i4_2, e_i4_3, e_i6_0, e_i6_1, e_i6_2, e_i6_3, e_i6_4, e_i6_5, e_i11_0, e_i11_1, e_i11_2, e_i11_3, e_i11_4, e_i11_5, e_i11_6, e_i11_7, e_i11_8, e_i11_9, e_i11_10, e_i12_0, e_i12_1, e_i12_2, e_i12_3, e_i12_4, e_i12_5, e_i12_6, e_i12_7, e_i12_8, e_i12_9, e_i12_10, e_i12_11, m_isIdle, m_greatest_k (v := 3) 21 (by decide) (by decide), m_isUnlike_i hsf]
    have hlt : nI hi < nI (hi + 1) := nI_lt (by omega) (by omega)
    rw [q_fits_0, List.map_nil, List.nil_append] at hk
    have hgo := hr (nI (hi + 1)) c hk
    by_cases h6 : al 6 < 0
    · have : (0 : Int32) < nI (hi + 1) := by rw [← hb3 h6]; exact hlt
      simp only [h6, this, if_true]
      exact hgo
    · simp only [h6, if_false, hb2 h6, hlt, if_true]
      exact hgo
  | succ n ih =>
    intro i c h1 h2 hk
    have hle : i ≤ hi := by omega
    rw [sX11_scan_126]
    simp only [sX11_scan_0, sX11_scan_1, sX11_scan_2, sX11_scan_3, sX11_scan_6, sX11_scan_8, sX11_scan_11, sX11_scan_12, sX11_scan_15, sX11_scan_16, sX11_scan_17, sX11_scan_18, sX11_scan_19, sX11_scan_20, sX11_scan_23, sX11_scan_27, sX11_scan_30, sX11_scan_31, sX11_scan_32, sX11_scan_35, sX11_scan_38, sX11_scan_39, sX11_scan_40, sX11_scan_41, sX11_scan_44, sX11_scan_48, sX11_scan_51, sX11_scan_52, sX11_scan_53, sX11_scan_56, sX11_scan_59, sX11_scan_60, sX11_scan_61, sX11_scan_64, sX11_scan_65, sX11_scan_66, sX11_scan_69, sX11_scan_72, sX11_scan_73, sX11_scan_77, sX11_scan_80, sX11_scan_81, sX11_scan_84, sX11_scan_85, sX11_scan_86, sX11_scan_89, sX11_scan_92, sX11_scan_93, sX11_scan_96, sX11_scan_97, sX11_scan_100, sX11_scan_103, sX11_scan_106, sX11_scan_107, sX11_scan_108, sX11_scan_111, sX11_scan_114, sX11_scan_115, sX11_scan_116, sX11_scan_119, sX11_scan_122, sX11_scan_123, sX11_scan_127, sX11_scan_130, sX11_scan_131, sX11_scan_134, sX11_scan_137, sX11_scan_138, sX11_scan_139, sX11_scan_142, sX11_scan_145, sX11_scan_146, sX11_scan_149, sX11_scan_150, sX11_scan_153, sX11_scan_156, sX11_scan_157, sX11_scan_160, sX11_scan_161, sX11_scan_164, sX11_scan_166, sX11_scan_167, sX11_scan_170, sX11_scan_172, sX11_scan_173, sX11_scan_174, sX11_scan_175, sX11_scan_178, sX11_scan_179, sX11_scan_182, sX11_scan_185, sX11_scan_188, sX11_scan_191, sX11_scan_192, sX11_scan_193, sX11_scan_194, sX11_scan_195, sX11_scan_198, sX11_scan_199, sX11_scan_200, sX11_scan_201, sX11_scan_201i, sX11_scan_202, sX11_scan_205, sX11_scan_206, sX11_scan_207, sX11_scan_210, sX11_scan_213, sX11_scan_214, sX11_scan_214i, sX11_scan_215, sX11_scan_218, sX11_scan_219, sX11_scan_220, sX11_scan_223, sX11_scan_226, sX11_scan_227, sX11_scan_227i, sX11_scan_228, sX11_scan_231, sX11_scan_232, sX11_scan_233, sX11_scan_236, sX11_scan_239, sX11_scan_240, sX11_scan_240i, sX11_scan_241, sX11_scan_244, sX11_scan_245, sX11_scan_246, sX11_scan_249, sX11_scan_252, sX11_scan_253, e_clrI, e_clrR, e_clrU, e_clrN, e_clrL, e_s0, e_s1, e_s2, e_s3, e_s4, e_z0, e_z1, e_f0, e_f1, e_tl, e_tn, e_q0, e_q1, e_zi, e_zj, true_and, and_true, ↓reduceIte, hM_rc, hM_g0, hM_g1, hM_g2, hM_g3, hM_g4, hM_g5, hM_g6, hM_g7, hM_g8, hM_g9, hM_g10, hM_g11, hM_g12, hM_g13, hM_g14, hM_g15, hM_g16, hM_g17, hM_g18, hM_p3, hM_p4, hM_p5, hM_p6, hM_p8, hM_p9, hM_p10, hM_p11, hM_p12, hM_p13, hM_p15, hM_p16, hM_p17, hM_p18, hM_l36, hM_l37, hM_l38, hM_l39, hM_l40, hM_s36, hM_s37, hM_s38, hM_s39, hM_s40, e_c0, e_c1, e_c2, e_c3, e_c4, e_c5, e_c6, e_c7, e_c8, e_c9, e_c10, e_c11, e_c12, e_c13, e_c14, e_c15, e_c16, e_c17, e_c18, e_c19, e_c20, e_c21, e_c22, e_c23, e_c24, e_c25, e_c26, e_c27, e_c28, e_c29, e_c30, e_c31, e_c32, e_c33, e_c34, e_c35, e_c36, e_c37, e_c38, e_c39, e_c40, e_c41, e_c42, e_c43, e_c44, e_c45, e_c46, e_c47, e_c48, e_c49, e_c50, e_c51, e_c52, e_c53, e_c54, e_c55, e_c56, e_c57, e_c58, e_c59, e_c60, e_c61, e_c62, e_c63, e_c64, e_c65, e_c66, e_c67, e_c68, e_c69, e_c70, e_i3848_0, e_i3848_1, e_i3848_2, e_i3848_3, e_i3848_4, e_i3848_5, e_i3848_6, e_i3848_7, e_i3848_8, e_i3848_9, e_i3848_10, e_i3848_11, e_i3848_12, e_i3848_13, e_i3848_14, e_i3848_15, e_i3848_16, e_i3848_17, e_i3848_18, e_i3848_19, e_i3848_20, e_i3848_21, e_i3848_22, e_i3848_23, e_i3848_24, e_i3848_25, e_i3848_26, e_i3848_27, e_i3848_28, e_i3848_29, e_i3848_30, e_i3848_31, e_i3848_32, e_i3848_33, e_i3848_34, e_i3848_35, e_i3848_36, e_i3848_37, e_i3848_38, e_i3848_39, e_i3848_40, e_i3848_41, e_i3848_42, e_i3848_43, e_i3848_44, e_i3848_45, e_i3848_46, e_i3848_47, e_i3848_48, e_i3848_49, e_i3848_50, e_i3848_51, e_i3848_52, e_i3848_53, e_i3848_54, e_i3848_55, e_i3848_56, e_i3848_57, e_i3848_58, e_i3848_59, e_i3848_60, e_i3848_61, e_i3848_62, e_i3848_63, e_i3848_64, e_i3848_65, e_i3848_66, e_i3848_67, e_i3848_68, e_i3848_69, e_i3848_70, e_i35_0, e_i35_1, e_i35_2, e_i35_3, e_i35_4, e_i35_5, e_i35_6, e_i35_7, e_i35_8, e_i35_9, e_i35_10, e_i35_11, e_i35_12, e_i35_13, e_i35_14, e_i35_15, e_i35_16, e_i35_17, e_i35_18, e_i35_19, e_i35_20, e_i35_21, e_i35_22, e_i35_23, e_i35_24, e_i35_25, e_i35_26, e_i35_27, e_i35_28, e_i35_29, e_i35_30, e_i35_31, e_i35_32, e_i35_33, e_i35_34, e_i20_0, e_i20_1, e_i20_2, e_i20_3, e_i20_4, e_i20_5, e_i20_6, e_i20_7, e_i20_8, e_i20_9, e_i20_10, e_i20_11, e_i20_12, e_i20_13, e_i20_14, e_i20_15, e_i20_16, e_i20_17, e_i20_18, e_i20_19, e_i48_0, e_i48_1, e_i48_2, e_i48_3, e_i48_4, e_i48_5, e_i48_6, e_i48_7, e_i48_8, e_i48_9, e_i48_10, e_i48_11, e_i48_12, e_i3_0, e_i3_1, e_i3_2, e_i4_0, e_i4_1, e_i4_2, e_i4_3, e_i6_0, e_i6_1, e_i6_2, e_i6_3, e_i6_4, e_i6_5, e_i11_0, e_i11_1, e_i11_2, e_i11_3, e_i11_4, e_i11_5, e_i11_6, e_i11_7, e_i11_8, e_i11_9, e_i11_10, e_i12_0, e_i12_1, e_i12_2, e_i12_3, e_i12_4, e_i12_5, e_i12_6, e_i12_7, e_i12_8, e_i12_9, e_i12_10, e_i12_11, m_isIdle, m_greatest_k (v := 3) 21 (by decide) (by decide), m_isUnlike_i hsf]
    have hnl : ¬ nI hi < nI i := nI_nlt (by omega) (by omega)
    rw [q_fits_s] at hk
    have hno : p_idl al x y z i = false → wp (d + 4) mX11_scan 126 [some (.ref 35), some (.int k), some (.int (nI c)), some (.int hz)] [] (HM g al wd hs (nI x) (nI y) (nI z) (nI i + 1) an sz nx wh tk td wr rw sn ak n0 n1) Q := by
      intro hf
      rw [nI_1]
      refine ih (i + 1) c (by omega) (by omega) ?_
      rw [hf] at hk
      simpa using hk
    have hyes : p_idl al x y z i = true → (if nI c + 1 = k + 1 then Q (some (.int (nI c + 1))) (HM g al wd hs (nI x) (nI y) (nI z) (nI i) an sz nx wh tk td wr rw sn ak n0 n1) else wp (d + 4) mX11_scan 126 [some (.ref 35), some (.int k), some (.int (nI c + 1)), some (.int hz)] [] (HM g al wd hs (nI x) (nI y) (nI z) (nI i + 1) an sz nx wh tk td wr rw sn ak n0 n1) Q) := by
      intro ht
      rw [ht] at hk
      simp only [if_true, List.map_cons, List.cons_append, q_scan] at hk
      rw [nI_1]
      split
      · rename_i he
        rw [if_pos he] at hk
        exact hk
      · rename_i he
        rw [if_neg he] at hk
        rw [nI_1]
        exact ih (i + 1) (c + 1) (by omega) (by omega) hk
    by_cases h6 : al 6 < 0
    · have h0 : ¬ (0 : Int32) < nI i := by rw [← hb3 h6]; exact hnl
      simp only [h6, h0, if_true, if_false]
      by_cases hu : p_unl (fun v => p_tem (al 8) (nI v) (al 2) (al 6)) (fun v => p_way (nI v) (al 2) (nI x) (nI y) (nI z) (nI i)) (p_ans (al 2) (nI x) (nI y) (nI z)) 0 = true
      · simp only [hu, not_true_eq_false, if_false]
        exact hyes (by simp [p_idl, h6, hu])
      · simp only [hu, not_false_eq_true, if_true]
        exact hno (by simp [p_idl, hu])
    · simp only [h6, if_false, hb2 h6, hnl, hmo h6, true_and]
      by_cases hmost : al (22 + al 7).toNatClampNeg < nI i
      · simp only [hmost, if_true]
        exact hno (by simp [p_idl, h6, hmost])
      · simp only [hmost, if_false]
        by_cases hu : p_unl (fun v => p_tem (al 8) (nI v) (al 2) (al 6)) (fun v => p_way (nI v) (al 2) (nI x) (nI y) (nI z) (nI i)) (p_ans (al 2) (nI x) (nI y) (nI z)) 0 = true
        · simp only [hu, not_true_eq_false, if_false]
          exact hyes (by simp [p_idl, h6, hmost, hu])
        · simp only [hu, not_false_eq_true, if_true]
          exact hno (by simp [p_idl, hu])
