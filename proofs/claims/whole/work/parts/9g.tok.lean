/-! ===== tokens: the reference's ===== -/
def scn (pr : Nat → Bool) : Nat → Nat → Nat
  | 0, p => p
  | f + 1, p => if pr p then scn pr f (p + 1) else p
theorem scn_s {pr : Nat → Bool} {f p : Nat} : scn pr (f + 1) p = if pr p then scn pr f (p + 1) else p := rfl
theorem scn_b {pr : Nat → Bool} : ∀ (f p : Nat), p ≤ scn pr f p ∧ scn pr f p ≤ p + f
  | 0, p => ⟨Nat.le_refl _, Nat.le_refl _⟩
  | f + 1, p => by
    rw [scn_s]
    split
    · have := scn_b (pr := pr) f (p + 1); omega
    · omega
theorem scn_in {pr : Nat → Bool} : ∀ (f p i : Nat), p ≤ i → i < scn pr f p → pr i = true
  | 0, p, i => fun h1 h2 => by unfold scn at h2; omega
  | f + 1, p, i => by
    intro h1 h2
    rw [scn_s] at h2
    by_cases h : pr p = true
    · rw [if_pos h] at h2
      by_cases hi : i = p
      · rw [hi]; exact h
      · exact scn_in f (p + 1) i (by omega) h2
    · rw [if_neg h] at h2; omega
theorem scn_end {pr : Nat → Bool} : ∀ (f p : Nat), (∀ i, p + f ≤ i → pr i = false) → pr (scn pr f p) = false
  | 0, p => fun h => h p (by omega)
  | f + 1, p => by
    intro h
    rw [scn_s]
    by_cases hp : pr p = true
    · rw [if_pos hp]; exact scn_end f (p + 1) (fun i hi => h i (by omega))
    · rw [if_neg hp]; simpa using hp
def isBl (c : Nat) : Bool := decide (c = 10 ∨ c = 32)
def isLt (c : Nat) : Bool := decide (97 ≤ c ∧ c ≤ 122)
def isDg (c : Nat) : Bool := decide (48 ≤ c ∧ c ≤ 57)
/-- the tape's byte -/
def tB (L : Nat) (B : Nat → Nat) (p : Nat) : Int32 := if p < L then nI (B p) else -1
def sk (L : Nat) (B : Nat → Nat) (p : Nat) : Nat := scn (fun q => decide (q < L) && isBl (B q)) (L - p) p
def wE (L : Nat) (B : Nat → Nat) (p : Nat) : Nat := scn (fun q => decide (q < L) && isLt (B q)) (L - p) p
def dE (L : Nat) (B : Nat → Nat) (p : Nat) : Nat := scn (fun q => decide (q < L) && isDg (B q)) (L - p) p
def wl (B : Nat → Nat) (s n : Nat) : List Nat := (List.range' s n).map B
theorem wl_s {B : Nat → Nat} {s n : Nat} : wl B s (n + 1) = wl B s n ++ [B (s + n)] := by unfold wl; rw [List.range'_concat, List.map_append]; simp
def nv (l : List Nat) : Nat := l.foldl (fun a c => a * 10 + (c - 48)) 0
theorem nv_c (l : List Nat) (c : Nat) : nv (l ++ [c]) = nv l * 10 + (c - 48) := by unfold nv; rw [List.foldl_append]; rfl
/-- a word's code -/
def cW (wd : Nat → Int64) (a b : Nat) (v : Int64) : Int32 := if p_word v = 4 then p_named wd a b v else p_word v
/-- the code of the token at s -/
def cod (L : Nat) (B : Nat → Nat) (wd : Nat → Int64) (a b s : Nat) : Int32 := if L ≤ s then 0 else if isLt (B s) then (if 8 < wE L B s - s then 4 else cW wd a b (lN (npack (wl B s (wE L B s - s))))) else if isDg (B s) then (if 4 < dE L B s - s ∨ B s = 48 then 4 else 1) else if B s = 46 then 2 else if B s = 63 then 3 else 4
def nxt (L : Nat) (B : Nat → Nat) (s : Nat) : Nat := if L ≤ s then s else if isLt (B s) then wE L B s else if isDg (B s) then dE L B s else s + 1
def vld (L : Nat) (B : Nat → Nat) (s : Nat) : Nat := nv (wl B s (min 4 (dE L B s - s)))
def tdv (L : Nat) (B : Nat → Nat) (s : Nat) (td : Int32) : Int32 := if L ≤ s then td else if isLt (B s) then td else if isDg (B s) then nI (vld L B s) else td
/-- a tape's cells -/
def tpM (al : Nat → Int32) (L : Nat) (B : Nat → Nat) : Prop := L ≤ 400 ∧ (∀ p, p < L → al (562 + p) = nI (B p) ∧ B p < 256)
theorem m_byt {d : Nat} {g : aH} {al : Nat → Int32} {wd : Nat → Int64} {hs : Nat → Int32} {vx : Int32} {vy : Int32} {vz : Int32} {vi : Int32} {an : Nat → Int32} {sz : Int32} {nx : Int32} {wh : Int32} {tk : Int32} {td : Int32} {wr : Int32} {rw : Nat → Int32} {sn : Int32} {ak : Int32} {n0 : Int32} {n1 : Int32} {L p : Nat} {B : Nat → Nat} (ht : tpM al L B) (hp : p ≤ L) (esz : sz = nI L) {Q : Option Value → aH → Prop} : wp d mX11_byteAt 0 [some (.ref 35), some (.int (nI p))] [] (HM g al wd hs vx vy vz vi an sz nx wh tk td wr rw sn ak n0 n1) Q ↔ Q (some (.int (tB L B p))) (HM g al wd hs vx vy vz vi an sz nx wh tk td wr rw sn ak n0 n1) := by
  obtain ⟨h4, hb⟩ := ht
  subst esz
  have e : 562 + nI p = nI (562 + p) := nI_add 562 p
  rw [m_byteAt (fun _ => by rw [e]; exact vp_in_nI (by omega) (by omega)), e, nI_clamp (by omega)]
  unfold tB
  by_cases h : p < L
  · rw [if_pos (nI_lt h (by omega)), if_pos h, (hb p h).1]
  · rw [if_neg (nI_nlt (by omega) (by omega)), if_neg h]
theorem tB_eq {L : Nat} {B : Nat → Nat} {p c : Nat} (hb : p < L → B p < 256) (hc : c < 256) : tB L B p = nI c ↔ (p < L ∧ B p = c) := by
  unfold tB
  by_cases h : p < L
  · have := hb h
    rw [if_pos h, nI_eq (by omega) (by omega)]
    exact ⟨fun q => ⟨h, q⟩, fun q => q.2⟩
  · rw [if_neg h]
    exact ⟨fun q => absurd q.symm (nI_m1 (by omega)), fun q => absurd q.1 h⟩
theorem tB_lt {L : Nat} {B : Nat → Nat} {p : Nat} (hb : p < L → B p < 256) : (97 ≤ tB L B p ∧ tB L B p ≤ 122) ↔ (decide (p < L) && isLt (B p)) = true := by
  unfold tB isLt
  by_cases h : p < L
  · have := hb h
    rw [if_pos h, show (97 : Int32) = nI 97 from rfl, show (122 : Int32) = nI 122 from rfl, nI_leI (by omega) (by omega), nI_leI (by omega) (by omega)]
    simp [h]
  · rw [if_neg h]
    simp only [h, decide_false, Bool.false_and, Bool.false_eq_true, iff_false]
    exact fun q => absurd q.1 (by decide)
theorem tB_dg {L : Nat} {B : Nat → Nat} {p : Nat} (hb : p < L → B p < 256) : (48 ≤ tB L B p ∧ tB L B p ≤ 57) ↔ (decide (p < L) && isDg (B p)) = true := by
  unfold tB isDg
  by_cases h : p < L
  · have := hb h
    rw [if_pos h, show (48 : Int32) = nI 48 from rfl, show (57 : Int32) = nI 57 from rfl, nI_leI (by omega) (by omega), nI_leI (by omega) (by omega)]
    simp [h]
  · rw [if_neg h]
    simp only [h, decide_false, Bool.false_and, Bool.false_eq_true, iff_false]
    exact fun q => absurd q.1 (by decide)
theorem tB_neg {L : Nat} {B : Nat → Nat} {p : Nat} (hb : p < L → B p < 256) : tB L B p < 0 ↔ L ≤ p := by
  unfold tB
  by_cases h : p < L
  · have := hb h
    rw [if_pos h]
    exact ⟨fun q => absurd q (nI_pos (by omega)), fun q => by omega⟩
  · rw [if_neg h]
    exact ⟨fun _ => by omega, fun _ => by decide⟩
theorem m_skip {d : Nat} {g : aH} {al : Nat → Int32} {wd : Nat → Int64} {hs : Nat → Int32} {vx : Int32} {vy : Int32} {vz : Int32} {vi : Int32} {an : Nat → Int32} {sz : Int32} {wh : Int32} {tk : Int32} {td : Int32} {wr : Int32} {rw : Nat → Int32} {sn : Int32} {ak : Int32} {n0 : Int32} {n1 : Int32} {L : Nat} {B : Nat → Nat} (ht : tpM al L B) (esz : sz = nI L) {l1 l2 l3 : Option Value} {Q : Option Value → aH → Prop} : ∀ (n p : Nat), L - p = n → p ≤ L → wp (d + 1) mX11_advance 39 [some (.ref 35), l1, l2, l3] [] (HM g al wd hs vx vy vz vi an sz (nI (scn (fun q => decide (q < L) && isBl (B q)) n p)) wh tk td wr rw sn ak n0 n1) Q → wp (d + 1) mX11_advance 0 [some (.ref 35), l1, l2, l3] [] (HM g al wd hs vx vy vz vi an sz (nI p) wh tk td wr rw sn ak n0 n1) Q := by
  have hb := ht.2
  have h400 := ht.1
  intro n
  induction n with
  | zero =>
    intro p h1 h2 hk
    have : p = L := by omega
    subst this
    have e : tB p B p = -1 := by unfold tB; rw [if_neg (by omega)]
    rw [sX11_advance_0]
    simp only [sX11_advance_1, sX11_advance_2, sX11_advance_5, sX11_advance_8, sX11_advance_10, sX11_advance_13, sX11_advance_14, sX11_advance_15, sX11_advance_18, sX11_advance_21, sX11_advance_23, sX11_advance_26, sX11_advance_27, sX11_advance_27i, sX11_advance_28, sX11_advance_31, sX11_advance_32, sX11_advance_33, sX11_advance_36, sX11_advance_40, sX11_advance_41, sX11_advance_44, sX11_advance_47, sX11_advance_48, sX11_advance_49, sX11_advance_52, sX11_advance_55, sX11_advance_56, sX11_advance_57, sX11_advance_60, sX11_advance_61, sX11_advance_62, sX11_advance_65, sX11_advance_68, sX11_advance_69, sX11_advance_72, sX11_advance_75, sX11_advance_76, sX11_advance_78, sX11_advance_79, sX11_advance_82, sX11_advance_85, sX11_advance_88, sX11_advance_91, sX11_advance_92, sX11_advance_95, sX11_advance_96, sX11_advance_99, sX11_advance_100, sX11_advance_102, sX11_advance_105, sX11_advance_106, sX11_advance_108, sX11_advance_109, sX11_advance_110, sX11_advance_111, sX11_advance_114, sX11_advance_117, sX11_advance_118, sX11_advance_119, sX11_advance_120, sX11_advance_121, sX11_advance_121i, sX11_advance_122, sX11_advance_125, sX11_advance_126, sX11_advance_127, sX11_advance_130, sX11_advance_133, sX11_advance_134, sX11_advance_135, sX11_advance_138, sX11_advance_139, sX11_advance_142, sX11_advance_143, sX11_advance_145, sX11_advance_148, sX11_advance_149, sX11_advance_152, sX11_advance_153, sX11_advance_156, sX11_advance_159, sX11_advance_160, sX11_advance_163, sX11_advance_164, sX11_advance_167, sX11_advance_168, sX11_advance_171, sX11_advance_172, sX11_advance_175, sX11_advance_176, sX11_advance_178, sX11_advance_181, sX11_advance_182, sX11_advance_183, sX11_advance_184, sX11_advance_187, sX11_advance_190, sX11_advance_193, sX11_advance_194, sX11_advance_197, sX11_advance_200, sX11_advance_201, sX11_advance_202, sX11_advance_206, sX11_advance_207, sX11_advance_210, sX11_advance_213, sX11_advance_216, sX11_advance_219, sX11_advance_220, sX11_advance_223, sX11_advance_224, sX11_advance_227, sX11_advance_228, sX11_advance_229, sX11_advance_232, sX11_advance_233, sX11_advance_235, sX11_advance_236, sX11_advance_239, sX11_advance_240, sX11_advance_241, sX11_advance_242, sX11_advance_245, sX11_advance_248, sX11_advance_249, sX11_advance_251, sX11_advance_252, sX11_advance_255, sX11_advance_256, sX11_advance_256i, sX11_advance_257, sX11_advance_260, sX11_advance_261, sX11_advance_262, sX11_advance_265, sX11_advance_268, sX11_advance_269, sX11_advance_270, sX11_advance_273, sX11_advance_274, sX11_advance_277, sX11_advance_278, sX11_advance_279, sX11_advance_282, sX11_advance_283, sX11_advance_285, sX11_advance_288, sX11_advance_289, sX11_advance_292, sX11_advance_293, sX11_advance_296, sX11_advance_299, sX11_advance_300, sX11_advance_300i, sX11_advance_301, sX11_advance_304, sX11_advance_305, sX11_advance_306, sX11_advance_309, sX11_advance_310, sX11_advance_311, sX11_advance_313, sX11_advance_316, sX11_advance_317, sX11_advance_320, sX11_advance_321, sX11_advance_323, sX11_advance_326, sX11_advance_327, sX11_advance_330, sX11_advance_331, sX11_advance_334, e_clrI, e_clrR, e_clrU, e_clrN, e_clrL, e_s0, e_s1, e_s2, e_s3, e_s4, e_z0, e_z1, e_f0, e_f1, e_tl, e_tn, e_q0, e_q1, e_zi, e_zj, true_and, and_true, ↓reduceIte, hM_rc, hM_g0, hM_g1, hM_g2, hM_g3, hM_g4, hM_g5, hM_g6, hM_g7, hM_g8, hM_g9, hM_g10, hM_g11, hM_g12, hM_g13, hM_g14, hM_g15, hM_g16, hM_g17, hM_g18, hM_p3, hM_p4, hM_p5, hM_p6, hM_p8, hM_p9, hM_p10, hM_p11, hM_p12, hM_p13, hM_p15, hM_p16, hM_p17, hM_p18, hM_l36, hM_l37, hM_l38, hM_l39, hM_l40, hM_s36, hM_s37, hM_s38, hM_s39, hM_s40, e_c0, e_c1, e_c2, e_c3, e_c4, e_c5, e_c6, e_c7, e_c8, e_c9, e_c10, e_c11, e_c12, e_c13, e_c14, e_c15, e_c16, e_c17, e_c18, e_c19, e_c20, e_c21, e_c22, e_c23, e_c24, e_c25, e_c26, e_c27, e_c28, e_c29, e_c30, e_c31, e_c32, e_c33, e_c34, e_c35, e_c36, e_c37, e_c38, e_c39, e_c40, e_c41, e_c42, e_c43, e_c44, e_c45, e_c46, e_c47, e_c48, e_c49, e_c50, e_c51, e_c52, e_c53, e_c54, e_c55, e_c56, e_c57, e_c58, e_c59, e_c60, e_c61, e_c62, e_c63, e_c64, e_c65, e_c66, e_c67, e_c68, e_c69, e_c70, e_i3848_0, e_i3848_1, e_i3848_2, e_i3848_3, e_i3848_4, e_i3848_5, e_i3848_6, e_i3848_7, e_i3848_8, e_i3848_9, e_i3848_10, e_i3848_11, e_i3848_12, e_i3848_13, e_i3848_14, e_i3848_15, e_i3848_16, e_i3848_17, e_i3848_18, e_i3848_19, e_i3848_20, e_i3848_21, e_i3848_22, e_i3848_23, e_i3848_24, e_i3848_25, e_i3848_26, e_i3848_27, e_i3848_28, e_i3848_29, e_i3848_30, e_i3848_31, e_i3848_32, e_i3848_33, e_i3848_34, e_i3848_35, e_i3848_36, e_i3848_37, e_i3848_38, e_i3848_39, e_i3848_40, e_i3848_41, e_i3848_42, e_i3848_43, e_i3848_44, e_i3848_45, e_i3848_46, e_i3848_47, e_i3848_48, e_i3848_49, e_i3848_50, e_i3848_51, e_i3848_52, e_i3848_53, e_i3848_54, e_i3848_55, e_i3848_56, e_i3848_57, e_i3848_58, e_i3848_59, e_i3848_60, e_i3848_61, e_i3848_62, e_i3848_63, e_i3848_64, e_i3848_65, e_i3848_66, e_i3848_67, e_i3848_68, e_i3848_69, e_i3848_70, e_i35_0, e_i35_1, e_i35_2, e_i35_3, e_i35_4, e_i35_5, e_i35_6, e_i35_7, e_i35_8, e_i35_9, e_i35_10, e_i35_11, e_i35_12, e_i35_13, e_i35_14, e_i35_15, e_i35_16, e_i35_17, e_i35_18, e_i35_19, e_i35_20, e_i35_21, e_i35_22, e_i35_23, e_i35_24, e_i35_25, e_i35_26, e_i35_27, e_i35_28, e_i35_29, e_i35_30, e_i35_31, e_i35_32, e_i35_33, e_i35_34, e_i20_0, e_i20_1, e_i20_2, e_i20_3, e_i20_4, e_i20_5, e_i20_6, e_i20_7, e_i20_8, e_i20_9, e_i20_10, e_i20_11, e_i20_12, e_i20_13, e_i20_14, e_i20_15, e_i20_16, e_i20_17, e_i20_18, e_i20_19, e_i48_0, e_i48_1, e_i48_2, e_i48_3, e_i48_4, e_i48_5, e_i48_6, e_i48_7, e_i48_8, e_i48_9, e_i48_10, e_i48_11, e_i48_12, e_i3_0, e_i3_1, e_i3_2, e_i4_0, e_i4_1, e_i4_2, e_i4_3, e_i6_0, e_i6_1, e_i6_2, e_i6_3, e_i6_4, e_i6_5, e_i11_0, e_i11_1, e_i11_2, e_i11_3, e_i11_4, e_i11_5, e_i11_6, e_i11_7, e_i11_8, e_i11_9, e_i11_10, e_i12_0, e_i12_1, e_i12_2, e_i12_3, e_i12_4, e_i12_5, e_i12_6, e_i12_7, e_i12_8, e_i12_9, e_i12_10, e_i12_11, m_byt ht (Nat.le_refl _) esz, e]
    simp +decide only [if_false]
    exact hk
  | succ n ih =>
    intro p h1 h2 hk
    have hp : p < L := by omega
    rw [scn_s] at hk
    have hbp : p < L → B p < 256 := fun h => (hb p h).2
    have e10 : tB L B p = 10 ↔ (p < L ∧ B p = 10) := tB_eq (c := 10) hbp (by omega)
    have e32 : tB L B p = 32 ↔ (p < L ∧ B p = 32) := tB_eq (c := 32) hbp (by omega)
    rw [sX11_advance_0]
    simp only [sX11_advance_1, sX11_advance_2, sX11_advance_5, sX11_advance_8, sX11_advance_10, sX11_advance_13, sX11_advance_14, sX11_advance_15, sX11_advance_18, sX11_advance_21, sX11_advance_23, sX11_advance_26, sX11_advance_27, sX11_advance_27i, sX11_advance_28, sX11_advance_31, sX11_advance_32, sX11_advance_33, sX11_advance_36, sX11_advance_40, sX11_advance_41, sX11_advance_44, sX11_advance_47, sX11_advance_48, sX11_advance_49, sX11_advance_52, sX11_advance_55, sX11_advance_56, sX11_advance_57, sX11_advance_60, sX11_advance_61, sX11_advance_62, sX11_advance_65, sX11_advance_68, sX11_advance_69, sX11_advance_72, sX11_advance_75, sX11_advance_76, sX11_advance_78, sX11_advance_79, sX11_advance_82, sX11_advance_85, sX11_advance_88, sX11_advance_91, sX11_advance_92, sX11_advance_95, sX11_advance_96, sX11_advance_99, sX11_advance_100, sX11_advance_102, sX11_advance_105, sX11_advance_106, sX11_advance_108, sX11_advance_109, sX11_advance_110, sX11_advance_111, sX11_advance_114, sX11_advance_117, sX11_advance_118, sX11_advance_119, sX11_advance_120, sX11_advance_121, sX11_advance_121i, sX11_advance_122, sX11_advance_125, sX11_advance_126, sX11_advance_127, sX11_advance_130, sX11_advance_133, sX11_advance_134, sX11_advance_135, sX11_advance_138, sX11_advance_139, sX11_advance_142, sX11_advance_143, sX11_advance_145, sX11_advance_148, sX11_advance_149, sX11_advance_152, sX11_advance_153, sX11_advance_156, sX11_advance_159, sX11_advance_160, sX11_advance_163, sX11_advance_164, sX11_advance_167, sX11_advance_168, sX11_advance_171, sX11_advance_172, sX11_advance_175, sX11_advance_176, sX11_advance_178, sX11_advance_181, sX11_advance_182, sX11_advance_183, sX11_advance_184, sX11_advance_187, sX11_advance_190, sX11_advance_193, sX11_advance_194, sX11_advance_197, sX11_advance_200, sX11_advance_201, sX11_advance_202, sX11_advance_206, sX11_advance_207, sX11_advance_210, sX11_advance_213, sX11_advance_216, sX11_advance_219, sX11_advance_220, sX11_advance_223, sX11_advance_224, sX11_advance_227, sX11_advance_228, sX11_advance_229, sX11_advance_232, sX11_advance_233, sX11_advance_235, sX11_advance_236, sX11_advance_239, sX11_advance_240, sX11_advance_241, sX11_advance_242, sX11_advance_245, sX11_advance_248, sX11_advance_249, sX11_advance_251, sX11_advance_252, sX11_advance_255, sX11_advance_256, sX11_advance_256i, sX11_advance_257, sX11_advance_260, sX11_advance_261, sX11_advance_262, sX11_advance_265, sX11_advance_268, sX11_advance_269, sX11_advance_270, sX11_advance_273, sX11_advance_274, sX11_advance_277, sX11_advance_278, sX11_advance_279, sX11_advance_282, sX11_advance_283, sX11_advance_285, sX11_advance_288, sX11_advance_289, sX11_advance_292, sX11_advance_293, sX11_advance_296, sX11_advance_299, sX11_advance_300, sX11_advance_300i, sX11_advance_301, sX11_advance_304, sX11_advance_305, sX11_advance_306, sX11_advance_309, sX11_advance_310, sX11_advance_311, sX11_advance_313, sX11_advance_316, sX11_advance_317, sX11_advance_320, sX11_advance_321, sX11_advance_323, sX11_advance_326, sX11_advance_327, sX11_advance_330, sX11_advance_331, sX11_advance_334, e_clrI, e_clrR, e_clrU, e_clrN, e_clrL, e_s0, e_s1, e_s2, e_s3, e_s4, e_z0, e_z1, e_f0, e_f1, e_tl, e_tn, e_q0, e_q1, e_zi, e_zj, true_and, and_true, ↓reduceIte, hM_rc, hM_g0, hM_g1, hM_g2, hM_g3, hM_g4, hM_g5, hM_g6, hM_g7, hM_g8, hM_g9, hM_g10, hM_g11, hM_g12, hM_g13, hM_g14, hM_g15, hM_g16, hM_g17, hM_g18, hM_p3, hM_p4, hM_p5, hM_p6, hM_p8, hM_p9, hM_p10, hM_p11, hM_p12, hM_p13, hM_p15, hM_p16, hM_p17, hM_p18, hM_l36, hM_l37, hM_l38, hM_l39, hM_l40, hM_s36, hM_s37, hM_s38, hM_s39, hM_s40, e_c0, e_c1, e_c2, e_c3, e_c4, e_c5, e_c6, e_c7, e_c8, e_c9, e_c10, e_c11, e_c12, e_c13, e_c14, e_c15, e_c16, e_c17, e_c18, e_c19, e_c20, e_c21, e_c22, e_c23, e_c24, e_c25, e_c26, e_c27, e_c28, e_c29, e_c30, e_c31, e_c32, e_c33, e_c34, e_c35, e_c36, e_c37, e_c38, e_c39, e_c40, e_c41, e_c42, e_c43, e_c44, e_c45, e_c46, e_c47, e_c48, e_c49, e_c50, e_c51, e_c52, e_c53, e_c54, e_c55, e_c56, e_c57, e_c58, e_c59, e_c60, e_c61, e_c62, e_c63, e_c64, e_c65, e_c66, e_c67, e_c68, e_c69, e_c70, e_i3848_0, e_i3848_1, e_i3848_2, e_i3848_3, e_i3848_4, e_i3848_5, e_i3848_6, e_i3848_7, e_i3848_8, e_i3848_9, e_i3848_10, e_i3848_11, e_i3848_12, e_i3848_13, e_i3848_14, e_i3848_15, e_i3848_16, e_i3848_17, e_i3848_18, e_i3848_19, e_i3848_20, e_i3848_21, e_i3848_22, e_i3848_23, e_i3848_24, e_i3848_25, e_i3848_26, e_i3848_27, e_i3848_28, e_i3848_29, e_i3848_30, e_i3848_31, e_i3848_32, e_i3848_33, e_i3848_34, e_i3848_35, e_i3848_36, e_i3848_37, e_i3848_38, e_i3848_39, e_i3848_40, e_i3848_41, e_i3848_42, e_i3848_43, e_i3848_44, e_i3848_45, e_i3848_46, e_i3848_47, e_i3848_48, e_i3848_49, e_i3848_50, e_i3848_51, e_i3848_52, e_i3848_53, e_i3848_54, e_i3848_55, e_i3848_56, e_i3848_57, e_i3848_58, e_i3848_59, e_i3848_60, e_i3848_61, e_i3848_62, e_i3848_63, e_i3848_64, e_i3848_65, e_i3848_66, e_i3848_67, e_i3848_68, e_i3848_69, e_i3848_70, e_i35_0, e_i35_1, e_i35_2, e_i35_3, e_i35_4, e_i35_5, e_i35_6, e_i35_7, e_i35_8, e_i35_9, e_i35_10, e_i35_11, e_i35_12, e_i35_13, e_i35_14, e_i35_15, e_i35_16, e_i35_17, e_i35_18, e_i35_19, e_i35_20, e_i35_21, e_i35_22, e_i35_23, e_i35_24, e_i35_25, e_i35_26, e_i35_27, e_i35_28, e_i35_29, e_i35_30, e_i35_31, e_i35_32, e_i35_33, e_i35_34, e_i20_0, e_i20_1, e_i20_2, e_i20_3, e_i20_4, e_i20_5, e_i20_6, e_i20_7, e_i20_8, e_i20_9, e_i20_10, e_i20_11, e_i20_12, e_i20_13, e_i20_14, e_i20_15, e_i20_16, e_i20_17, e_i20_18, e_i20_19, e_i48_0, e_i48_1, e_i48_2, e_i48_3, e_i48_4, e_i48_5, e_i48_6, e_i48_7, e_i48_8, e_i48_9, e_i48_10, e_i48_11, e_i48_12, e_i3_0, e_i3_1, e_i3_2, e_i4_0, e_i4_1, e_i4_2, e_i4_3, e_i6_0, e_i6_1, e_i6_2, e_i6_3, e_i6_4, e_i6_5, e_i11_0, e_i11_1, e_i11_2, e_i11_3, e_i11_4, e_i11_5, e_i11_6, e_i11_7, e_i11_8, e_i11_9, e_i11_10, e_i12_0, e_i12_1, e_i12_2, e_i12_3, e_i12_4, e_i12_5, e_i12_6, e_i12_7, e_i12_8, e_i12_9, e_i12_10, e_i12_11, m_byt ht (show p ≤ L by omega) esz, e10, e32, hp, true_and, nI_1]
    by_cases c1 : B p = 10
    · have : (decide (p < L) && isBl (B p)) = true := by simp [hp, isBl, c1]
      rw [if_pos this] at hk
      simp only [c1, if_true]
      exact ih (p + 1) (by omega) (by omega) hk
    · by_cases c2 : B p = 32
      · have : (decide (p < L) && isBl (B p)) = true := by simp [hp, isBl, c2]
        rw [if_pos this] at hk
        simp only [c1, c2, if_true, if_false]
        try simp +decide only [if_true, if_false]
        exact ih (p + 1) (by omega) (by omega) hk
      · have : ¬ (decide (p < L) && isBl (B p)) = true := by simp [isBl, c1, c2]
        rw [if_neg this] at hk
        simp only [c1, c2, if_false]
        exact hk
