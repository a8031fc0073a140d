/-! ===== the reference's gets and tale ===== -/
/-- the number of sentence w of the shape -/
def gN3 (S : List Sn) (q : Nat × Int32 × Int32) (s : Nat) (ia : Option Nat) (tu : Bool) (w : Nat) : Int32 := if w < bdy s then (uV S q (ptx ia (wj tu (if s = 6 then 1 - w else w)))).2.2.2.2 else -1
/-- what got tells of a tale -/
def gV (S : List Sn) (q : Nat × Int32 × Int32) (s : Nat) (ia : Option Nat) (tu : Bool) (w : Nat) : Int32 :=
  if w < 3 then gN3 S q s ia tu w else if w = 4 then tNn S q ia tu else if w = 5 then tNm S q s ia tu else if w = 6 then q.2.2
  else if w = 10 then p_ans (nI s) (gN3 S q s ia tu 0) (gN3 S q s ia tu 1) (gN3 S q s ia tu 2)
  else match ia with
  | none => -1
  | some p => if w = 3 then (uV S q p).2.2.2.2 else if w = 7 then (uV S q p).2.1 else if w = 8 then (uV S q p).2.2.2.1 else nI p
def gA (al : Nat → Int32) (V : Nat → Int32) : Nat → Int32 := fun i => if 30 ≤ i ∧ i ≤ 40 then V (i - 30) else al i
theorem p_ans_z {s : Nat} {x y z z' : Int32} (h8 : s < 8) (h : s = 7 → z = z') : p_ans (nI s) x y z = p_ans (nI s) x y z' := by
  by_cases h7 : s = 7
  · rw [h h7]
  · rcases nI8 s h8 with e | e | e | e | e | e | e | e
    all_goals (first | (unfold p_ans; rw [e]; rfl) | skip)
    exact absurd ((nI_eq (b := 7) (by omega) (by omega)).mp e) h7
theorem gN3_ok {S : List Sn} {q : Nat × Int32 × Int32} {s : Nat} {ia : Option Nat} {tu : Bool} (hS : ∀ t ∈ S, wfS t) (hl : S.length = bdy s + (if ia.isSome then 1 else 0)) {w : Nat} (hw : w < bdy s) : ∃ v : Nat, 1 ≤ v ∧ v < 10000 ∧ gN3 S q s ia tu w = nI v := by
  have hb := bdy_b s
  have h6 : s = 6 → bdy s = 2 := fun h => by rw [h]; rfl
  have h1 : (if s = 6 then 1 - w else w) < bdy s := by split <;> omega
  have h2 : wj tu (if s = 6 then 1 - w else w) < bdy s := by
    generalize (if s = 6 then 1 - w else w) = k at *
    unfold wj; split <;> omega
  have h3 : ptx ia (wj tu (if s = 6 then 1 - w else w)) < S.length := by
    generalize wj tu (if s = 6 then 1 - w else w) = k at *
    rw [hl]
    cases ia with
    | none => exact h2
    | some p => unfold ptx; dsimp only [Option.isSome]; rw [if_pos rfl]; split <;> omega
  obtain ⟨n, o, t, v, _, _, _, v1, v2, v3, _⟩ := uV_wf (q := q) hS h3
  exact ⟨v, v1, v2, by unfold gN3; rw [if_pos hw]; exact v3⟩
def g1A (al : Nat → Int32) (k : Nat) : Nat → Int32 := fun i => if 30 ≤ i ∧ i < 30 + k then -1 else al i
def g2A (al : Nat → Int32) (S : List Sn) (q : Nat × Int32 × Int32) (s : Nat) (ia : Option Nat) (tu : Bool) (k : Nat) : Nat → Int32 := fun i => if 30 ≤ i ∧ i < 41 then (if i - 30 < bdy s ∧ (if s = 6 then 1 - (i - 30) else i - 30) < k then gN3 S q s ia tu (i - 30) else -1) else al i
theorem m_getsN {d : Nat} {g : aH} {al : Nat → Int32} {wd : Nat → Int64} {hs : Nat → Int32} {vx : Int32} {vy : Int32} {vz : Int32} {vi : Int32} {an : Nat → Int32} {sz : Int32} {nx : Int32} {wh : Int32} {tk : Int32} {td : Int32} {wr : Int32} {rw : Nat → Int32} {sn : Int32} {ak : Int32} {S : List Sn} {q : Nat × Int32 × Int32} {s : Nat} {ia : Option Nat} {tu : Bool} (h8 : s < 8) (hrw : rwR rw S) (h33 : rw 33 = q.2.2) (hc : tC S q s ia tu) (hSw : ∀ t ∈ S, wfS t) {Q : Option Value → aH → Prop}
    (hk : Q none (HM g (gA al (gV S q s ia tu)) wd hs vx vy vz vi an sz nx wh tk td wr rw sn ak (tNn S q ia tu) (tNm S q s ia tu))) :
    wp (d + 1) mX11_gets 93 [some (.ref 35), some (.int (nI s)), some (.int (io ia)), some (.int (if tu then 1 else 0)), some (.int (nI (bdy s))), some (.int (nI (bdy s)))] [] (HM g (g2A al S q s ia tu (bdy s)) wd hs vx vy vz vi an sz nx wh tk td wr rw sn ak (tNn S q ia tu) (tNm S q s ia tu)) Q := by
  have hb := bdy_b s
  have h6 : s = 6 → bdy s = 2 := fun h => by rw [h]; rfl
  have h7 : bdy s = 3 ↔ s = 7 := by unfold bdy; split <;> omega
  have e3 : nI (bdy s) = 3 ↔ s = 7 := (nI_eq (b := 3) (by omega) (by omega)).trans h7
  have c30 : g2A al S q s ia tu (bdy s) 30 = gN3 S q s ia tu 0 := by
    unfold g2A; rw [if_pos (by omega), if_pos (by refine ⟨by omega, ?_⟩; split <;> omega)]
  have c31 : g2A al S q s ia tu (bdy s) 31 = gN3 S q s ia tu 1 := by
    unfold g2A; rw [if_pos (by omega), if_pos (by refine ⟨by omega, ?_⟩; split <;> omega)]
  have c32 : g2A al S q s ia tu (bdy s) 32 = gN3 S q s ia tu 2 := by
    unfold g2A
    by_cases h : bdy s = 3
    · rw [if_pos (by omega), if_pos (by refine ⟨by omega, ?_⟩; split <;> omega)]
    · rw [if_pos (by omega), if_neg (by omega)]; unfold gN3; rw [if_neg (by omega)]
  obtain ⟨v1, w1, _, w1e⟩ := gN3_ok (q := q) (tu := tu) (w := 1) hSw hc.len (by omega)
  have hsf : p_sf (nI s) (gN3 S q s ia tu 1) (if s = 7 then gN3 S q s ia tu 2 else 0) := by
    refine ⟨fun _ h => ?_, fun _ _ _ _ _ _ _ h => ?_⟩
    · rw [w1e] at h; exact nI_ne0 (by omega) (by omega) h
    · have hs7 : s = 7 := by
        rcases nI8 s h8 with e | e | e | e | e | e | e | e
        all_goals (first | contradiction | skip)
        exact (nI_eq (b := 7) (by omega) (by omega)).mp e
      rw [if_pos hs7] at h
      obtain ⟨v2, w2, _, w2e⟩ := gN3_ok (q := q) (tu := tu) (w := 2) hSw hc.len (by have := h7.mpr hs7; omega)
      rw [w2e] at h; exact nI_ne0 (by omega) (by omega) h
  have hans : p_ans (nI s) (gN3 S q s ia tu 0) (gN3 S q s ia tu 1) (if s = 7 then gN3 S q s ia tu 2 else 0) = p_ans (nI s) (gN3 S q s ia tu 0) (gN3 S q s ia tu 1) (gN3 S q s ia tu 2) := p_ans_z h8 (fun h => by rw [if_pos h])
  have hz : (io ia < 0 ↔ ia = none) ∧ (0 ≤ io ia ↔ ¬ ia = none) := io_0 (fun p h => by have := hc.ple p h; omega)
  have tail : ∀ A : Nat → Int32, A 30 = gN3 S q s ia tu 0 → A 31 = gN3 S q s ia tu 1 → A 32 = gN3 S q s ia tu 2 → upd A 40 (p_ans (nI s) (gN3 S q s ia tu 0) (gN3 S q s ia tu 1) (gN3 S q s ia tu 2)) = gA al (gV S q s ia tu) → wp (d + 1) mX11_gets 192 [some (.ref 35), some (.int (nI s)), some (.int (io ia)), some (.int (if tu then 1 else 0)), some (.int (nI (bdy s))), some (.int (nI (bdy s)))] [] (HM g A wd hs vx vy vz vi an sz nx wh tk td wr rw sn ak (tNn S q ia tu) (tNm S q s ia tu)) Q := by
    intro A a0 a1 a2 hA
    by_cases hs7 : s = 7
    · rw [if_pos hs7] at hsf hans
      simp only [sX11_gets_0, sX11_gets_1, sX11_gets_4, sX11_gets_6, sX11_gets_7, sX11_gets_11, sX11_gets_13, sX11_gets_16, sX11_gets_17, sX11_gets_20, sX11_gets_22, sX11_gets_24, sX11_gets_25, sX11_gets_26, sX11_gets_27, sX11_gets_30, sX11_gets_33, sX11_gets_34, sX11_gets_38, sX11_gets_40, sX11_gets_43, sX11_gets_44, sX11_gets_47, sX11_gets_49, sX11_gets_50, sX11_gets_52, sX11_gets_55, sX11_gets_56, sX11_gets_57, sX11_gets_60, sX11_gets_61, sX11_gets_64, sX11_gets_66, sX11_gets_67, sX11_gets_70, sX11_gets_71, sX11_gets_73, sX11_gets_74, sX11_gets_77, sX11_gets_79, sX11_gets_80, sX11_gets_83, sX11_gets_84, sX11_gets_85, sX11_gets_86, sX11_gets_87, sX11_gets_90, sX11_gets_93, sX11_gets_94, sX11_gets_97, sX11_gets_99, sX11_gets_100, sX11_gets_103, sX11_gets_104, sX11_gets_105, sX11_gets_108, sX11_gets_110, sX11_gets_111, sX11_gets_114, sX11_gets_115, sX11_gets_116, sX11_gets_119, sX11_gets_121, sX11_gets_122, sX11_gets_125, sX11_gets_127, sX11_gets_128, sX11_gets_129, sX11_gets_130, sX11_gets_133, sX11_gets_134, sX11_gets_137, sX11_gets_139, sX11_gets_140, sX11_gets_143, sX11_gets_144, sX11_gets_145, sX11_gets_146, sX11_gets_147, sX11_gets_148, sX11_gets_149, sX11_gets_150, sX11_gets_151, sX11_gets_154, sX11_gets_156, sX11_gets_157, sX11_gets_160, sX11_gets_161, sX11_gets_162, sX11_gets_163, sX11_gets_164, sX11_gets_165, sX11_gets_166, sX11_gets_167, sX11_gets_168, sX11_gets_171, sX11_gets_173, sX11_gets_174, sX11_gets_177, sX11_gets_178, sX11_gets_179, sX11_gets_180, sX11_gets_181, sX11_gets_182, sX11_gets_183, sX11_gets_184, sX11_gets_185, sX11_gets_188, sX11_gets_190, sX11_gets_191, sX11_gets_192, sX11_gets_193, sX11_gets_196, sX11_gets_198, sX11_gets_199, sX11_gets_200, sX11_gets_203, sX11_gets_205, sX11_gets_206, sX11_gets_207, sX11_gets_210, sX11_gets_212, sX11_gets_213, sX11_gets_215, sX11_gets_216, sX11_gets_219, sX11_gets_220, sX11_gets_223, sX11_gets_225, sX11_gets_226, sX11_gets_229, sX11_gets_230, sX11_gets_233, sX11_gets_234, e_clrI, e_clrR, e_clrU, e_clrN, e_clrL, e_s0, e_s1, e_s2, e_s3, e_s4, e_z0, e_z1, e_f0, e_f1, e_tl, e_tn, e_q0, e_q1, e_zi, e_zj, true_and, and_true, ↓reduceIte, hM_rc, hM_g0, hM_g1, hM_g2, hM_g3, hM_g4, hM_g5, hM_g6, hM_g7, hM_g8, hM_g9, hM_g10, hM_g11, hM_g12, hM_g13, hM_g14, hM_g15, hM_g16, hM_g17, hM_g18, hM_p3, hM_p4, hM_p5, hM_p6, hM_p8, hM_p9, hM_p10, hM_p11, hM_p12, hM_p13, hM_p15, hM_p16, hM_p17, hM_p18, hM_l36, hM_l37, hM_l38, hM_l39, hM_l40, hM_s36, hM_s37, hM_s38, hM_s39, hM_s40, e_c0, e_c1, e_c2, e_c3, e_c4, e_c5, e_c6, e_c7, e_c8, e_c9, e_c10, e_c11, e_c12, e_c13, e_c14, e_c15, e_c16, e_c17, e_c18, e_c19, e_c20, e_c21, e_c22, e_c23, e_c24, e_c25, e_c26, e_c27, e_c28, e_c29, e_c30, e_c31, e_c32, e_c33, e_c34, e_c35, e_c36, e_c37, e_c38, e_c39, e_c40, e_c41, e_c42, e_c43, e_c44, e_c45, e_c46, e_c47, e_c48, e_c49, e_c50, e_c51, e_c52, e_c53, e_c54, e_c55, e_c56, e_c57, e_c58, e_c59, e_c60, e_c61, e_c62, e_c63, e_c64, e_c65, e_c66, e_c67, e_c68, e_c69, e_c70, e_i3848_0, e_i3848_1, e_i3848_2, e_i3848_3, e_i3848_4, e_i3848_5, e_i3848_6, e_i3848_7, e_i3848_8, e_i3848_9, e_i3848_10, e_i3848_11, e_i3848_12, e_i3848_13, e_i3848_14, e_i3848_15, e_i3848_16, e_i3848_17, e_i3848_18, e_i3848_19, e_i3848_20, e_i3848_21, e_i3848_22, e_i3848_23, e_i3848_24, e_i3848_25, e_i3848_26, e_i3848_27, e_i3848_28, e_i3848_29, e_i3848_30, e_i3848_31, e_i3848_32, e_i3848_33, e_i3848_34, e_i3848_35, e_i3848_36, e_i3848_37, e_i3848_38, e_i3848_39, e_i3848_40, e_i3848_41, e_i3848_42, e_i3848_43, e_i3848_44, e_i3848_45, e_i3848_46, e_i3848_47, e_i3848_48, e_i3848_49, e_i3848_50, e_i3848_51, e_i3848_52, e_i3848_53, e_i3848_54, e_i3848_55, e_i3848_56, e_i3848_57, e_i3848_58, e_i3848_59, e_i3848_60, e_i3848_61, e_i3848_62, e_i3848_63, e_i3848_64, e_i3848_65, e_i3848_66, e_i3848_67, e_i3848_68, e_i3848_69, e_i3848_70, e_i35_0, e_i35_1, e_i35_2, e_i35_3, e_i35_4, e_i35_5, e_i35_6, e_i35_7, e_i35_8, e_i35_9, e_i35_10, e_i35_11, e_i35_12, e_i35_13, e_i35_14, e_i35_15, e_i35_16, e_i35_17, e_i35_18, e_i35_19, e_i35_20, e_i35_21, e_i35_22, e_i35_23, e_i35_24, e_i35_25, e_i35_26, e_i35_27, e_i35_28, e_i35_29, e_i35_30, e_i35_31, e_i35_32, e_i35_33, e_i35_34, e_i20_0, e_i20_1, e_i20_2, e_i20_3, e_i20_4, e_i20_5, e_i20_6, e_i20_7, e_i20_8, e_i20_9, e_i20_10, e_i20_11, e_i20_12, e_i20_13, e_i20_14, e_i20_15, e_i20_16, e_i20_17, e_i20_18, e_i20_19, e_i48_0, e_i48_1, e_i48_2, e_i48_3, e_i48_4, e_i48_5, e_i48_6, e_i48_7, e_i48_8, e_i48_9, e_i48_10, e_i48_11, e_i48_12, e_i3_0, e_i3_1, e_i3_2, e_i4_0, e_i4_1, e_i4_2, e_i4_3, e_i6_0, e_i6_1, e_i6_2, e_i6_3, e_i6_4, e_i6_5, e_i11_0, e_i11_1, e_i11_2, e_i11_3, e_i11_4, e_i11_5, e_i11_6, e_i11_7, e_i11_8, e_i11_9, e_i11_10, e_i12_0, e_i12_1, e_i12_2, e_i12_3, e_i12_4, e_i12_5, e_i12_6, e_i12_7, e_i12_8, e_i12_9, e_i12_10, e_i12_11, a0, a1, a2, e3, iff_true_intro hs7, if_true, not_true_eq_false, if_false, m_answerOf hsf, hA]
      exact hk
    · rw [if_neg hs7] at hsf hans
      simp only [sX11_gets_0, sX11_gets_1, sX11_gets_4, sX11_gets_6, sX11_gets_7, sX11_gets_11, sX11_gets_13, sX11_gets_16, sX11_gets_17, sX11_gets_20, sX11_gets_22, sX11_gets_24, sX11_gets_25, sX11_gets_26, sX11_gets_27, sX11_gets_30, sX11_gets_33, sX11_gets_34, sX11_gets_38, sX11_gets_40, sX11_gets_43, sX11_gets_44, sX11_gets_47, sX11_gets_49, sX11_gets_50, sX11_gets_52, sX11_gets_55, sX11_gets_56, sX11_gets_57, sX11_gets_60, sX11_gets_61, sX11_gets_64, sX11_gets_66, sX11_gets_67, sX11_gets_70, sX11_gets_71, sX11_gets_73, sX11_gets_74, sX11_gets_77, sX11_gets_79, sX11_gets_80, sX11_gets_83, sX11_gets_84, sX11_gets_85, sX11_gets_86, sX11_gets_87, sX11_gets_90, sX11_gets_93, sX11_gets_94, sX11_gets_97, sX11_gets_99, sX11_gets_100, sX11_gets_103, sX11_gets_104, sX11_gets_105, sX11_gets_108, sX11_gets_110, sX11_gets_111, sX11_gets_114, sX11_gets_115, sX11_gets_116, sX11_gets_119, sX11_gets_121, sX11_gets_122, sX11_gets_125, sX11_gets_127, sX11_gets_128, sX11_gets_129, sX11_gets_130, sX11_gets_133, sX11_gets_134, sX11_gets_137, sX11_gets_139, sX11_gets_140, sX11_gets_143, sX11_gets_144, sX11_gets_145, sX11_gets_146, sX11_gets_147, sX11_gets_148, sX11_gets_149, sX11_gets_150, sX11_gets_151, sX11_gets_154, sX11_gets_156, sX11_gets_157, sX11_gets_160, sX11_gets_161, sX11_gets_162, sX11_gets_163, sX11_gets_164, sX11_gets_165, sX11_gets_166, sX11_gets_167, sX11_gets_168, sX11_gets_171, sX11_gets_173, sX11_gets_174, sX11_gets_177, sX11_gets_178, sX11_gets_179, sX11_gets_180, sX11_gets_181, sX11_gets_182, sX11_gets_183, sX11_gets_184, sX11_gets_185, sX11_gets_188, sX11_gets_190, sX11_gets_191, sX11_gets_192, sX11_gets_193, sX11_gets_196, sX11_gets_198, sX11_gets_199, sX11_gets_200, sX11_gets_203, sX11_gets_205, sX11_gets_206, sX11_gets_207, sX11_gets_210, sX11_gets_212, sX11_gets_213, sX11_gets_215, sX11_gets_216, sX11_gets_219, sX11_gets_220, sX11_gets_223, sX11_gets_225, sX11_gets_226, sX11_gets_229, sX11_gets_230, sX11_gets_233, sX11_gets_234, e_clrI, e_clrR, e_clrU, e_clrN, e_clrL, e_s0, e_s1, e_s2, e_s3, e_s4, e_z0, e_z1, e_f0, e_f1, e_tl, e_tn, e_q0, e_q1, e_zi, e_zj, true_and, and_true, ↓reduceIte, hM_rc, hM_g0, hM_g1, hM_g2, hM_g3, hM_g4, hM_g5, hM_g6, hM_g7, hM_g8, hM_g9, hM_g10, hM_g11, hM_g12, hM_g13, hM_g14, hM_g15, hM_g16, hM_g17, hM_g18, hM_p3, hM_p4, hM_p5, hM_p6, hM_p8, hM_p9, hM_p10, hM_p11, hM_p12, hM_p13, hM_p15, hM_p16, hM_p17, hM_p18, hM_l36, hM_l37, hM_l38, hM_l39, hM_l40, hM_s36, hM_s37, hM_s38, hM_s39, hM_s40, e_c0, e_c1, e_c2, e_c3, e_c4, e_c5, e_c6, e_c7, e_c8, e_c9, e_c10, e_c11, e_c12, e_c13, e_c14, e_c15, e_c16, e_c17, e_c18, e_c19, e_c20, e_c21, e_c22, e_c23, e_c24, e_c25, e_c26, e_c27, e_c28, e_c29, e_c30, e_c31, e_c32, e_c33, e_c34, e_c35, e_c36, e_c37, e_c38, e_c39, e_c40, e_c41, e_c42, e_c43, e_c44, e_c45, e_c46, e_c47, e_c48, e_c49, e_c50, e_c51, e_c52, e_c53, e_c54, e_c55, e_c56, e_c57, e_c58, e_c59, e_c60, e_c61, e_c62, e_c63, e_c64, e_c65, e_c66, e_c67, e_c68, e_c69, e_c70, e_i3848_0, e_i3848_1, e_i3848_2, e_i3848_3, e_i3848_4, e_i3848_5, e_i3848_6, e_i3848_7, e_i3848_8, e_i3848_9, e_i3848_10, e_i3848_11, e_i3848_12, e_i3848_13, e_i3848_14, e_i3848_15, e_i3848_16, e_i3848_17, e_i3848_18, e_i3848_19, e_i3848_20, e_i3848_21, e_i3848_22, e_i3848_23, e_i3848_24, e_i3848_25, e_i3848_26, e_i3848_27, e_i3848_28, e_i3848_29, e_i3848_30, e_i3848_31, e_i3848_32, e_i3848_33, e_i3848_34, e_i3848_35, e_i3848_36, e_i3848_37, e_i3848_38, e_i3848_39, e_i3848_40, e_i3848_41, e_i3848_42, e_i3848_43, e_i3848_44, e_i3848_45, e_i3848_46, e_i3848_47, e_i3848_48, e_i3848_49, e_i3848_50, e_i3848_51, e_i3848_52, e_i3848_53, e_i3848_54, e_i3848_55, e_i3848_56, e_i3848_57, e_i3848_58, e_i3848_59, e_i3848_60, e_i3848_61, e_i3848_62, e_i3848_63, e_i3848_64, e_i3848_65, e_i3848_66, e_i3848_67, e_i3848_68, e_i3848_69, e_i3848_70, e_i35_0, e_i35_1, e_i35_2, e_i35_3, e_i35_4, e_i35_5, e_i35_6, e_i35_7, e_i35_8, e_i35_9, e_i35_10, e_i35_11, e_i35_12, e_i35_13, e_i35_14, e_i35_15, e_i35_16, e_i35_17, e_i35_18, e_i35_19, e_i35_20, e_i35_21, e_i35_22, e_i35_23, e_i35_24, e_i35_25, e_i35_26, e_i35_27, e_i35_28, e_i35_29, e_i35_30, e_i35_31, e_i35_32, e_i35_33, e_i35_34, e_i20_0, e_i20_1, e_i20_2, e_i20_3, e_i20_4, e_i20_5, e_i20_6, e_i20_7, e_i20_8, e_i20_9, e_i20_10, e_i20_11, e_i20_12, e_i20_13, e_i20_14, e_i20_15, e_i20_16, e_i20_17, e_i20_18, e_i20_19, e_i48_0, e_i48_1, e_i48_2, e_i48_3, e_i48_4, e_i48_5, e_i48_6, e_i48_7, e_i48_8, e_i48_9, e_i48_10, e_i48_11, e_i48_12, e_i3_0, e_i3_1, e_i3_2, e_i4_0, e_i4_1, e_i4_2, e_i4_3, e_i6_0, e_i6_1, e_i6_2, e_i6_3, e_i6_4, e_i6_5, e_i11_0, e_i11_1, e_i11_2, e_i11_3, e_i11_4, e_i11_5, e_i11_6, e_i11_7, e_i11_8, e_i11_9, e_i11_10, e_i12_0, e_i12_1, e_i12_2, e_i12_3, e_i12_4, e_i12_5, e_i12_6, e_i12_7, e_i12_8, e_i12_9, e_i12_10, e_i12_11, a0, a1, a2, e3, hs7, not_false_eq_true, if_true, if_false, m_answerOf hsf, hans, hA]
      exact hk
  have hEnd : ∀ A : Nat → Int32, (∀ i, A i = if i = 34 then tNn S q ia tu else if i = 35 then tNm S q s ia tu else if i = 36 then q.2.2 else if i = 33 ∨ i = 37 ∨ i = 38 ∨ i = 39 then gV S q s ia tu (i - 30) else g2A al S q s ia tu (bdy s) i) → upd A 40 (p_ans (nI s) (gN3 S q s ia tu 0) (gN3 S q s ia tu 1) (gN3 S q s ia tu 2)) = gA al (gV S q s ia tu) := by
    intro A hA
    funext i
    unfold gA
    by_cases h40 : i = 40
    · subst h40; rw [pk_us, if_pos (by omega)]; rfl
    · rw [pk_un h40, hA]
      by_cases hin : 30 ≤ i ∧ i ≤ 40
      · rw [if_pos hin]
        by_cases a1 : i = 34
        · subst a1; rfl
        · by_cases a2 : i = 35
          · subst a2; rfl
          · by_cases a3 : i = 36
            · subst a3; rfl
            · rw [if_neg a1, if_neg a2, if_neg a3]
              by_cases a4 : i = 33 ∨ i = 37 ∨ i = 38 ∨ i = 39
              · rw [if_pos a4]
              · rw [if_neg a4]
                have : i = 30 ∨ i = 31 ∨ i = 32 := by omega
                rcases this with h | h | h
                · subst h; exact c30
                · subst h; exact c31
                · subst h; exact c32
      · rw [if_neg hin, if_neg (by omega), if_neg (by omega), if_neg (by omega), if_neg (by omega)]
        unfold g2A; rw [if_neg (by omega)]
  cases ia with
  | none =>
    simp only [sX11_gets_0, sX11_gets_1, sX11_gets_4, sX11_gets_6, sX11_gets_7, sX11_gets_11, sX11_gets_13, sX11_gets_16, sX11_gets_17, sX11_gets_20, sX11_gets_22, sX11_gets_24, sX11_gets_25, sX11_gets_26, sX11_gets_27, sX11_gets_30, sX11_gets_33, sX11_gets_34, sX11_gets_38, sX11_gets_40, sX11_gets_43, sX11_gets_44, sX11_gets_47, sX11_gets_49, sX11_gets_50, sX11_gets_52, sX11_gets_55, sX11_gets_56, sX11_gets_57, sX11_gets_60, sX11_gets_61, sX11_gets_64, sX11_gets_66, sX11_gets_67, sX11_gets_70, sX11_gets_71, sX11_gets_73, sX11_gets_74, sX11_gets_77, sX11_gets_79, sX11_gets_80, sX11_gets_83, sX11_gets_84, sX11_gets_85, sX11_gets_86, sX11_gets_87, sX11_gets_90, sX11_gets_93, sX11_gets_94, sX11_gets_97, sX11_gets_99, sX11_gets_100, sX11_gets_103, sX11_gets_104, sX11_gets_105, sX11_gets_108, sX11_gets_110, sX11_gets_111, sX11_gets_114, sX11_gets_115, sX11_gets_116, sX11_gets_119, sX11_gets_121, sX11_gets_122, sX11_gets_125, sX11_gets_127, sX11_gets_128, sX11_gets_129, sX11_gets_130, sX11_gets_133, sX11_gets_134, sX11_gets_137, sX11_gets_139, sX11_gets_140, sX11_gets_143, sX11_gets_144, sX11_gets_145, sX11_gets_146, sX11_gets_147, sX11_gets_148, sX11_gets_149, sX11_gets_150, sX11_gets_151, sX11_gets_154, sX11_gets_156, sX11_gets_157, sX11_gets_160, sX11_gets_161, sX11_gets_162, sX11_gets_163, sX11_gets_164, sX11_gets_165, sX11_gets_166, sX11_gets_167, sX11_gets_168, sX11_gets_171, sX11_gets_173, sX11_gets_174, sX11_gets_177, sX11_gets_178, sX11_gets_179, sX11_gets_180, sX11_gets_181, sX11_gets_182, sX11_gets_183, sX11_gets_184, sX11_gets_185, sX11_gets_188, sX11_gets_190, sX11_gets_191, sX11_gets_193, sX11_gets_196, sX11_gets_198, sX11_gets_199, sX11_gets_200, sX11_gets_203, sX11_gets_205, sX11_gets_206, sX11_gets_207, sX11_gets_210, sX11_gets_212, sX11_gets_213, sX11_gets_215, sX11_gets_216, sX11_gets_219, sX11_gets_220, sX11_gets_223, sX11_gets_225, sX11_gets_226, sX11_gets_229, sX11_gets_230, sX11_gets_233, sX11_gets_234, e_clrI, e_clrR, e_clrU, e_clrN, e_clrL, e_s0, e_s1, e_s2, e_s3, e_s4, e_z0, e_z1, e_f0, e_f1, e_tl, e_tn, e_q0, e_q1, e_zi, e_zj, true_and, and_true, ↓reduceIte, hM_rc, hM_g0, hM_g1, hM_g2, hM_g3, hM_g4, hM_g5, hM_g6, hM_g7, hM_g8, hM_g9, hM_g10, hM_g11, hM_g12, hM_g13, hM_g14, hM_g15, hM_g16, hM_g17, hM_g18, hM_p3, hM_p4, hM_p5, hM_p6, hM_p8, hM_p9, hM_p10, hM_p11, hM_p12, hM_p13, hM_p15, hM_p16, hM_p17, hM_p18, hM_l36, hM_l37, hM_l38, hM_l39, hM_l40, hM_s36, hM_s37, hM_s38, hM_s39, hM_s40, e_c0, e_c1, e_c2, e_c3, e_c4, e_c5, e_c6, e_c7, e_c8, e_c9, e_c10, e_c11, e_c12, e_c13, e_c14, e_c15, e_c16, e_c17, e_c18, e_c19, e_c20, e_c21, e_c22, e_c23, e_c24, e_c25, e_c26, e_c27, e_c28, e_c29, e_c30, e_c31, e_c32, e_c33, e_c34, e_c35, e_c36, e_c37, e_c38, e_c39, e_c40, e_c41, e_c42, e_c43, e_c44, e_c45, e_c46, e_c47, e_c48, e_c49, e_c50, e_c51, e_c52, e_c53, e_c54, e_c55, e_c56, e_c57, e_c58, e_c59, e_c60, e_c61, e_c62, e_c63, e_c64, e_c65, e_c66, e_c67, e_c68, e_c69, e_c70, e_i3848_0, e_i3848_1, e_i3848_2, e_i3848_3, e_i3848_4, e_i3848_5, e_i3848_6, e_i3848_7, e_i3848_8, e_i3848_9, e_i3848_10, e_i3848_11, e_i3848_12, e_i3848_13, e_i3848_14, e_i3848_15, e_i3848_16, e_i3848_17, e_i3848_18, e_i3848_19, e_i3848_20, e_i3848_21, e_i3848_22, e_i3848_23, e_i3848_24, e_i3848_25, e_i3848_26, e_i3848_27, e_i3848_28, e_i3848_29, e_i3848_30, e_i3848_31, e_i3848_32, e_i3848_33, e_i3848_34, e_i3848_35, e_i3848_36, e_i3848_37, e_i3848_38, e_i3848_39, e_i3848_40, e_i3848_41, e_i3848_42, e_i3848_43, e_i3848_44, e_i3848_45, e_i3848_46, e_i3848_47, e_i3848_48, e_i3848_49, e_i3848_50, e_i3848_51, e_i3848_52, e_i3848_53, e_i3848_54, e_i3848_55, e_i3848_56, e_i3848_57, e_i3848_58, e_i3848_59, e_i3848_60, e_i3848_61, e_i3848_62, e_i3848_63, e_i3848_64, e_i3848_65, e_i3848_66, e_i3848_67, e_i3848_68, e_i3848_69, e_i3848_70, e_i35_0, e_i35_1, e_i35_2, e_i35_3, e_i35_4, e_i35_5, e_i35_6, e_i35_7, e_i35_8, e_i35_9, e_i35_10, e_i35_11, e_i35_12, e_i35_13, e_i35_14, e_i35_15, e_i35_16, e_i35_17, e_i35_18, e_i35_19, e_i35_20, e_i35_21, e_i35_22, e_i35_23, e_i35_24, e_i35_25, e_i35_26, e_i35_27, e_i35_28, e_i35_29, e_i35_30, e_i35_31, e_i35_32, e_i35_33, e_i35_34, e_i20_0, e_i20_1, e_i20_2, e_i20_3, e_i20_4, e_i20_5, e_i20_6, e_i20_7, e_i20_8, e_i20_9, e_i20_10, e_i20_11, e_i20_12, e_i20_13, e_i20_14, e_i20_15, e_i20_16, e_i20_17, e_i20_18, e_i20_19, e_i48_0, e_i48_1, e_i48_2, e_i48_3, e_i48_4, e_i48_5, e_i48_6, e_i48_7, e_i48_8, e_i48_9, e_i48_10, e_i48_11, e_i48_12, e_i3_0, e_i3_1, e_i3_2, e_i4_0, e_i4_1, e_i4_2, e_i4_3, e_i6_0, e_i6_1, e_i6_2, e_i6_3, e_i6_4, e_i6_5, e_i11_0, e_i11_1, e_i11_2, e_i11_3, e_i11_4, e_i11_5, e_i11_6, e_i11_7, e_i11_8, e_i11_9, e_i11_10, e_i12_0, e_i12_1, e_i12_2, e_i12_3, e_i12_4, e_i12_5, e_i12_6, e_i12_7, e_i12_8, e_i12_9, e_i12_10, e_i12_11, h33, hz.2, hz.1, if_true]
    refine tail _ ?_ ?_ ?_ (hEnd _ (fun i => ?_))
    · rw [pk_un (by omega), pk_un (by omega), pk_un (by omega)]; exact c30
    · rw [pk_un (by omega), pk_un (by omega), pk_un (by omega)]; exact c31
    · rw [pk_un (by omega), pk_un (by omega), pk_un (by omega)]; exact c32
    · unfold upd
      by_cases a3 : i = 36
      · subst a3; rfl
      · by_cases a2 : i = 35
        · subst a2; rfl
        · by_cases a1 : i = 34
          · subst a1; rfl
          · simp only [a1, a2, a3, if_false]
            by_cases a4 : i = 33 ∨ i = 37 ∨ i = 38 ∨ i = 39
            · rw [if_pos a4]
              rcases a4 with h | h | h | h
              all_goals subst h
              · show (if (33 : Nat) - 30 < bdy s ∧ _ then _ else _) = _; rw [if_neg (by omega)]; rfl
              · show (if (37 : Nat) - 30 < bdy s ∧ _ then _ else _) = _; rw [if_neg (by omega)]; rfl
              · show (if (38 : Nat) - 30 < bdy s ∧ _ then _ else _) = _; rw [if_neg (by omega)]; rfl
              · show (if (39 : Nat) - 30 < bdy s ∧ _ then _ else _) = _; rw [if_neg (by omega)]; rfl
            · rw [if_neg a4]
  | some p =>
    have hp := hc.ple p rfl
    have hl := hc.len
    simp only [Option.isSome, if_true] at hl
    obtain ⟨r0, r1, r2, r3, r4⟩ := rwR_u (q := q) (i := p) hrw (by omega) (by omega)
    have e5 : (5 : Int32) * io (some p) = nI (5 * p) := by show (5 : Int32) * nI p = _; rw [show (5 : Int32) = nI 5 from rfl, pk_mul]
    have u1 : vp_in (nI (5 * p + 1)) 35 ↔ True := iff_true_intro (vp_in_nI (by omega) (by omega))
    have u3 : vp_in (nI (5 * p + 3)) 35 ↔ True := iff_true_intro (vp_in_nI (by omega) (by omega))
    have u4 : vp_in (nI (5 * p + 4)) 35 ↔ True := iff_true_intro (vp_in_nI (by omega) (by omega))
    have k1 : (nI (5 * p + 1)).toNatClampNeg = 5 * p + 1 := nI_clamp (by omega)
    have k3 : (nI (5 * p + 3)).toNatClampNeg = 5 * p + 3 := nI_clamp (by omega)
    have k4 : (nI (5 * p + 4)).toNatClampNeg = 5 * p + 4 := nI_clamp (by omega)
    have hsome : ¬ (some p = (none : Option Nat)) := fun h => by cases h
    simp only [sX11_gets_0, sX11_gets_1, sX11_gets_4, sX11_gets_6, sX11_gets_7, sX11_gets_11, sX11_gets_13, sX11_gets_16, sX11_gets_17, sX11_gets_20, sX11_gets_22, sX11_gets_24, sX11_gets_25, sX11_gets_26, sX11_gets_27, sX11_gets_30, sX11_gets_33, sX11_gets_34, sX11_gets_38, sX11_gets_40, sX11_gets_43, sX11_gets_44, sX11_gets_47, sX11_gets_49, sX11_gets_50, sX11_gets_52, sX11_gets_55, sX11_gets_56, sX11_gets_57, sX11_gets_60, sX11_gets_61, sX11_gets_64, sX11_gets_66, sX11_gets_67, sX11_gets_70, sX11_gets_71, sX11_gets_73, sX11_gets_74, sX11_gets_77, sX11_gets_79, sX11_gets_80, sX11_gets_83, sX11_gets_84, sX11_gets_85, sX11_gets_86, sX11_gets_87, sX11_gets_90, sX11_gets_93, sX11_gets_94, sX11_gets_97, sX11_gets_99, sX11_gets_100, sX11_gets_103, sX11_gets_104, sX11_gets_105, sX11_gets_108, sX11_gets_110, sX11_gets_111, sX11_gets_114, sX11_gets_115, sX11_gets_116, sX11_gets_119, sX11_gets_121, sX11_gets_122, sX11_gets_125, sX11_gets_127, sX11_gets_128, sX11_gets_129, sX11_gets_130, sX11_gets_133, sX11_gets_134, sX11_gets_137, sX11_gets_139, sX11_gets_140, sX11_gets_143, sX11_gets_144, sX11_gets_145, sX11_gets_146, sX11_gets_147, sX11_gets_148, sX11_gets_149, sX11_gets_150, sX11_gets_151, sX11_gets_154, sX11_gets_156, sX11_gets_157, sX11_gets_160, sX11_gets_161, sX11_gets_162, sX11_gets_163, sX11_gets_164, sX11_gets_165, sX11_gets_166, sX11_gets_167, sX11_gets_168, sX11_gets_171, sX11_gets_173, sX11_gets_174, sX11_gets_177, sX11_gets_178, sX11_gets_179, sX11_gets_180, sX11_gets_181, sX11_gets_182, sX11_gets_183, sX11_gets_184, sX11_gets_185, sX11_gets_188, sX11_gets_190, sX11_gets_191, sX11_gets_193, sX11_gets_196, sX11_gets_198, sX11_gets_199, sX11_gets_200, sX11_gets_203, sX11_gets_205, sX11_gets_206, sX11_gets_207, sX11_gets_210, sX11_gets_212, sX11_gets_213, sX11_gets_215, sX11_gets_216, sX11_gets_219, sX11_gets_220, sX11_gets_223, sX11_gets_225, sX11_gets_226, sX11_gets_229, sX11_gets_230, sX11_gets_233, sX11_gets_234, e_clrI, e_clrR, e_clrU, e_clrN, e_clrL, e_s0, e_s1, e_s2, e_s3, e_s4, e_z0, e_z1, e_f0, e_f1, e_tl, e_tn, e_q0, e_q1, e_zi, e_zj, true_and, and_true, ↓reduceIte, hM_rc, hM_g0, hM_g1, hM_g2, hM_g3, hM_g4, hM_g5, hM_g6, hM_g7, hM_g8, hM_g9, hM_g10, hM_g11, hM_g12, hM_g13, hM_g14, hM_g15, hM_g16, hM_g17, hM_g18, hM_p3, hM_p4, hM_p5, hM_p6, hM_p8, hM_p9, hM_p10, hM_p11, hM_p12, hM_p13, hM_p15, hM_p16, hM_p17, hM_p18, hM_l36, hM_l37, hM_l38, hM_l39, hM_l40, hM_s36, hM_s37, hM_s38, hM_s39, hM_s40, e_c0, e_c1, e_c2, e_c3, e_c4, e_c5, e_c6, e_c7, e_c8, e_c9, e_c10, e_c11, e_c12, e_c13, e_c14, e_c15, e_c16, e_c17, e_c18, e_c19, e_c20, e_c21, e_c22, e_c23, e_c24, e_c25, e_c26, e_c27, e_c28, e_c29, e_c30, e_c31, e_c32, e_c33, e_c34, e_c35, e_c36, e_c37, e_c38, e_c39, e_c40, e_c41, e_c42, e_c43, e_c44, e_c45, e_c46, e_c47, e_c48, e_c49, e_c50, e_c51, e_c52, e_c53, e_c54, e_c55, e_c56, e_c57, e_c58, e_c59, e_c60, e_c61, e_c62, e_c63, e_c64, e_c65, e_c66, e_c67, e_c68, e_c69, e_c70, e_i3848_0, e_i3848_1, e_i3848_2, e_i3848_3, e_i3848_4, e_i3848_5, e_i3848_6, e_i3848_7, e_i3848_8, e_i3848_9, e_i3848_10, e_i3848_11, e_i3848_12, e_i3848_13, e_i3848_14, e_i3848_15, e_i3848_16, e_i3848_17, e_i3848_18, e_i3848_19, e_i3848_20, e_i3848_21, e_i3848_22, e_i3848_23, e_i3848_24, e_i3848_25, e_i3848_26, e_i3848_27, e_i3848_28, e_i3848_29, e_i3848_30, e_i3848_31, e_i3848_32, e_i3848_33, e_i3848_34, e_i3848_35, e_i3848_36, e_i3848_37, e_i3848_38, e_i3848_39, e_i3848_40, e_i3848_41, e_i3848_42, e_i3848_43, e_i3848_44, e_i3848_45, e_i3848_46, e_i3848_47, e_i3848_48, e_i3848_49, e_i3848_50, e_i3848_51, e_i3848_52, e_i3848_53, e_i3848_54, e_i3848_55, e_i3848_56, e_i3848_57, e_i3848_58, e_i3848_59, e_i3848_60, e_i3848_61, e_i3848_62, e_i3848_63, e_i3848_64, e_i3848_65, e_i3848_66, e_i3848_67, e_i3848_68, e_i3848_69, e_i3848_70, e_i35_0, e_i35_1, e_i35_2, e_i35_3, e_i35_4, e_i35_5, e_i35_6, e_i35_7, e_i35_8, e_i35_9, e_i35_10, e_i35_11, e_i35_12, e_i35_13, e_i35_14, e_i35_15, e_i35_16, e_i35_17, e_i35_18, e_i35_19, e_i35_20, e_i35_21, e_i35_22, e_i35_23, e_i35_24, e_i35_25, e_i35_26, e_i35_27, e_i35_28, e_i35_29, e_i35_30, e_i35_31, e_i35_32, e_i35_33, e_i35_34, e_i20_0, e_i20_1, e_i20_2, e_i20_3, e_i20_4, e_i20_5, e_i20_6, e_i20_7, e_i20_8, e_i20_9, e_i20_10, e_i20_11, e_i20_12, e_i20_13, e_i20_14, e_i20_15, e_i20_16, e_i20_17, e_i20_18, e_i20_19, e_i48_0, e_i48_1, e_i48_2, e_i48_3, e_i48_4, e_i48_5, e_i48_6, e_i48_7, e_i48_8, e_i48_9, e_i48_10, e_i48_11, e_i48_12, e_i3_0, e_i3_1, e_i3_2, e_i4_0, e_i4_1, e_i4_2, e_i4_3, e_i6_0, e_i6_1, e_i6_2, e_i6_3, e_i6_4, e_i6_5, e_i11_0, e_i11_1, e_i11_2, e_i11_3, e_i11_4, e_i11_5, e_i11_6, e_i11_7, e_i11_8, e_i11_9, e_i11_10, e_i12_0, e_i12_1, e_i12_2, e_i12_3, e_i12_4, e_i12_5, e_i12_6, e_i12_7, e_i12_8, e_i12_9, e_i12_10, e_i12_11, h33, hz.2, hz.1, hsome, if_false, not_false_eq_true, if_true, e5, nI_1, nI_3', nI_4', u1, u3, u4, k1, k3, k4, r1, r3, r4, true_and]
    refine tail _ ?_ ?_ ?_ (hEnd _ (fun i => ?_))
    · simp only [upd]; simp; exact c30
    · simp only [upd]; simp; exact c31
    · simp only [upd]; simp; exact c32
    · unfold upd
      by_cases a3 : i = 36
      · subst a3; rfl
      · by_cases a2 : i = 35
        · subst a2; rfl
        · by_cases a1 : i = 34
          · subst a1; rfl
          · simp only [a1, a2, a3, if_false]
            by_cases a4 : i = 33 ∨ i = 37 ∨ i = 38 ∨ i = 39
            · rw [if_pos a4]
              rcases a4 with h | h | h | h
              all_goals (subst h; rfl)
            · rw [if_neg a4, if_neg (by omega), if_neg (by omega), if_neg (by omega), if_neg (by omega)]
