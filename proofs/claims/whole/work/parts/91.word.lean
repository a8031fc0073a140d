/-! ===== words: which are kept, which are told ===== -/
def p_word (v : Int64) : Int32 := if v = 6840691 then 10 else if v = 422776956275 then 11 else if v = 1734702195 then 12 else if v = 465726301555 then 13 else if v = 1886745715 then 14 else if v = 1952998765 then 15 else if v = 1768846447 then 16 else if v = 26990 then 17 else if v = 97 then 18 else if v = 6451064 then 19 else if v = 6386277 then 20 else if v = 1836020325 then 21 else if v = 1952997742 then 22 else if v = 7237495 then 23 else if v = 6844279 then 24 else if v = 1835101817 then 25 else if v = 1751217765 then 26 else if v = 1651471464 then 27 else if v = 6840676 then 28 else 4
theorem m_wordOf {d : Nat} {v : Int64} {h : aH} {Q : Option Value → aH → Prop} : wp d mX11_wordOf 0 [some (.long v), none] [] h Q ↔ Q (some (.int (p_word v))) h := by
  simp only [sX11_wordOf_0, sX11_wordOf_1, sX11_wordOf_4, sX11_wordOf_5, sX11_wordOf_8, sX11_wordOf_10, sX11_wordOf_11, sX11_wordOf_12, sX11_wordOf_15, sX11_wordOf_16, sX11_wordOf_19, sX11_wordOf_21, sX11_wordOf_22, sX11_wordOf_23, sX11_wordOf_26, sX11_wordOf_27, sX11_wordOf_30, sX11_wordOf_32, sX11_wordOf_33, sX11_wordOf_34, sX11_wordOf_37, sX11_wordOf_38, sX11_wordOf_41, sX11_wordOf_43, sX11_wordOf_44, sX11_wordOf_45, sX11_wordOf_48, sX11_wordOf_49, sX11_wordOf_52, sX11_wordOf_54, sX11_wordOf_55, sX11_wordOf_56, sX11_wordOf_59, sX11_wordOf_60, sX11_wordOf_63, sX11_wordOf_65, sX11_wordOf_66, sX11_wordOf_67, sX11_wordOf_70, sX11_wordOf_71, sX11_wordOf_74, sX11_wordOf_76, sX11_wordOf_77, sX11_wordOf_78, sX11_wordOf_81, sX11_wordOf_82, sX11_wordOf_85, sX11_wordOf_87, sX11_wordOf_88, sX11_wordOf_89, sX11_wordOf_92, sX11_wordOf_93, sX11_wordOf_96, sX11_wordOf_98, sX11_wordOf_99, sX11_wordOf_100, sX11_wordOf_103, sX11_wordOf_104, sX11_wordOf_107, sX11_wordOf_109, sX11_wordOf_110, sX11_wordOf_111, sX11_wordOf_114, sX11_wordOf_115, sX11_wordOf_118, sX11_wordOf_120, sX11_wordOf_121, sX11_wordOf_122, sX11_wordOf_125, sX11_wordOf_126, sX11_wordOf_129, sX11_wordOf_131, sX11_wordOf_132, sX11_wordOf_133, sX11_wordOf_136, sX11_wordOf_137, sX11_wordOf_140, sX11_wordOf_142, sX11_wordOf_143, sX11_wordOf_144, sX11_wordOf_147, sX11_wordOf_148, sX11_wordOf_151, sX11_wordOf_153, sX11_wordOf_154, sX11_wordOf_155, sX11_wordOf_158, sX11_wordOf_159, sX11_wordOf_162, sX11_wordOf_164, sX11_wordOf_165, sX11_wordOf_166, sX11_wordOf_169, sX11_wordOf_170, sX11_wordOf_173, sX11_wordOf_175, sX11_wordOf_176, sX11_wordOf_177, sX11_wordOf_180, sX11_wordOf_181, sX11_wordOf_184, sX11_wordOf_186, sX11_wordOf_187, sX11_wordOf_188, sX11_wordOf_191, sX11_wordOf_192, sX11_wordOf_195, sX11_wordOf_197, sX11_wordOf_198, sX11_wordOf_199, sX11_wordOf_202, sX11_wordOf_203, sX11_wordOf_206, sX11_wordOf_208, sX11_wordOf_209, sX11_wordOf_210, e_clrI, e_clrR, e_clrU, e_clrN, e_clrL, e_s0, e_s1, e_s2, e_s3, e_s4, e_z0, e_z1, e_f0, e_f1, e_tl, e_tn, e_q0, e_q1, e_zi, e_zj, true_and, and_true, ↓reduceIte, lg0]
  unfold p_word
  by_cases h0 : v = 6840691
  · rw [if_pos h0, if_pos h0]
  rw [if_neg h0, if_neg h0]
  by_cases h1 : v = 422776956275
  · rw [if_pos h1, if_pos h1]
  rw [if_neg h1, if_neg h1]
  by_cases h2 : v = 1734702195
  · rw [if_pos h2, if_pos h2]
  rw [if_neg h2, if_neg h2]
  by_cases h3 : v = 465726301555
  · rw [if_pos h3, if_pos h3]
  rw [if_neg h3, if_neg h3]
  by_cases h4 : v = 1886745715
  · rw [if_pos h4, if_pos h4]
  rw [if_neg h4, if_neg h4]
  by_cases h5 : v = 1952998765
  · rw [if_pos h5, if_pos h5]
  rw [if_neg h5, if_neg h5]
  by_cases h6 : v = 1768846447
  · rw [if_pos h6, if_pos h6]
  rw [if_neg h6, if_neg h6]
  by_cases h7 : v = 26990
  · rw [if_pos h7, if_pos h7]
  rw [if_neg h7, if_neg h7]
  by_cases h8 : v = 97
  · rw [if_pos h8, if_pos h8]
  rw [if_neg h8, if_neg h8]
  by_cases h9 : v = 6451064
  · rw [if_pos h9, if_pos h9]
  rw [if_neg h9, if_neg h9]
  by_cases h10 : v = 6386277
  · rw [if_pos h10, if_pos h10]
  rw [if_neg h10, if_neg h10]
  by_cases h11 : v = 1836020325
  · rw [if_pos h11, if_pos h11]
  rw [if_neg h11, if_neg h11]
  by_cases h12 : v = 1952997742
  · rw [if_pos h12, if_pos h12]
  rw [if_neg h12, if_neg h12]
  by_cases h13 : v = 7237495
  · rw [if_pos h13, if_pos h13]
  rw [if_neg h13, if_neg h13]
  by_cases h14 : v = 6844279
  · rw [if_pos h14, if_pos h14]
  rw [if_neg h14, if_neg h14]
  by_cases h15 : v = 1835101817
  · rw [if_pos h15, if_pos h15]
  rw [if_neg h15, if_neg h15]
  by_cases h16 : v = 1751217765
  · rw [if_pos h16, if_pos h16]
  rw [if_neg h16, if_neg h16]
  by_cases h17 : v = 1651471464
  · rw [if_pos h17, if_pos h17]
  rw [if_neg h17, if_neg h17]
  by_cases h18 : v = 6840676
  · rw [if_pos h18, if_pos h18]
  rw [if_neg h18, if_neg h18]
def kp_go (v : Int64) : List Int32 → Int64 → Bool
  | [], K => decide (K = v)
  | c :: cs, K => if c = 32 then (if K = v then true else kp_go v cs 0) else kp_go v cs (K <<< ((8 : Int32).toInt64 &&& 63) ||| c.toInt64)
def kp_pk : List Int32 → Int64 → Int64
  | [], K => K
  | c :: cs, K => kp_pk cs (K <<< ((8 : Int32).toInt64 &&& 63) ||| c.toInt64)
theorem kp_w {v : Int64} {rest : List Int32} : ∀ (w : List Int32) (K : Int64), w.all (fun c => decide (¬ c = 32)) = true → kp_go v (w ++ 32 :: rest) K = (if kp_pk w K = v then true else kp_go v rest 0)
  | [], K => fun _ => rfl
  | c :: cs, K => by
    intro h
    rw [List.all_cons, Bool.and_eq_true, decide_eq_true_eq] at h
    show (if c = 32 then (if K = v then true else kp_go v (cs ++ 32 :: rest) 0) else kp_go v (cs ++ 32 :: rest) (K <<< ((8 : Int32).toInt64 &&& 63) ||| c.toInt64)) = _
    rw [if_neg h.1, kp_w cs _ h.2]
    rfl
theorem kp_e {v : Int64} : ∀ (w : List Int32) (K : Int64), w.all (fun c => decide (¬ c = 32)) = true → kp_go v w K = decide (kp_pk w K = v)
  | [], K => fun _ => rfl
  | c :: cs, K => by
    intro h
    rw [List.all_cons, Bool.and_eq_true, decide_eq_true_eq] at h
    show (if c = 32 then (if K = v then true else kp_go v cs 0) else kp_go v cs (K <<< ((8 : Int32).toInt64 &&& 63) ||| c.toInt64)) = _
    rw [if_neg h.1, kp_e cs _ h.2]
    rfl
theorem kp_all {v : Int64} : kp_go v (a_byt.getD 1 []) 0 = decide (¬ p_word v = 4) := by
  rw [show a_byt.getD 1 [] = [104, 97, 115] ++ 32 :: ([98, 111, 120, 101, 115] ++ 32 :: ([103, 101, 116, 115] ++ 32 :: ([108, 111, 115, 101, 115] ++ 32 :: ([112, 117, 116, 115] ++ 32 :: ([116, 104, 101, 109] ++ 32 :: ([105, 110, 116, 111] ++ 32 :: ([105, 110] ++ 32 :: ([97] ++ 32 :: ([98, 111, 120] ++ 32 :: ([97, 114, 101] ++ 32 :: ([109, 111, 114, 101] ++ 32 :: ([116, 104, 97, 110] ++ 32 :: ([110, 111, 119] ++ 32 :: ([104, 111, 119] ++ 32 :: ([109, 97, 110, 121] ++ 32 :: ([104, 97, 118, 101] ++ 32 :: ([98, 111, 116, 104] ++ 32 :: ([104, 97, 100])))))))))))))))))) from rfl]
  rw [kp_w [104, 97, 115] 0 (by decide), show kp_pk [104, 97, 115] 0 = 6840691 by decide]
  rw [kp_w [98, 111, 120, 101, 115] 0 (by decide), show kp_pk [98, 111, 120, 101, 115] 0 = 422776956275 by decide]
  rw [kp_w [103, 101, 116, 115] 0 (by decide), show kp_pk [103, 101, 116, 115] 0 = 1734702195 by decide]
  rw [kp_w [108, 111, 115, 101, 115] 0 (by decide), show kp_pk [108, 111, 115, 101, 115] 0 = 465726301555 by decide]
  rw [kp_w [112, 117, 116, 115] 0 (by decide), show kp_pk [112, 117, 116, 115] 0 = 1886745715 by decide]
  rw [kp_w [116, 104, 101, 109] 0 (by decide), show kp_pk [116, 104, 101, 109] 0 = 1952998765 by decide]
  rw [kp_w [105, 110, 116, 111] 0 (by decide), show kp_pk [105, 110, 116, 111] 0 = 1768846447 by decide]
  rw [kp_w [105, 110] 0 (by decide), show kp_pk [105, 110] 0 = 26990 by decide]
  rw [kp_w [97] 0 (by decide), show kp_pk [97] 0 = 97 by decide]
  rw [kp_w [98, 111, 120] 0 (by decide), show kp_pk [98, 111, 120] 0 = 6451064 by decide]
  rw [kp_w [97, 114, 101] 0 (by decide), show kp_pk [97, 114, 101] 0 = 6386277 by decide]
  rw [kp_w [109, 111, 114, 101] 0 (by decide), show kp_pk [109, 111, 114, 101] 0 = 1836020325 by decide]
  rw [kp_w [116, 104, 97, 110] 0 (by decide), show kp_pk [116, 104, 97, 110] 0 = 1952997742 by decide]
  rw [kp_w [110, 111, 119] 0 (by decide), show kp_pk [110, 111, 119] 0 = 7237495 by decide]
  rw [kp_w [104, 111, 119] 0 (by decide), show kp_pk [104, 111, 119] 0 = 6844279 by decide]
  rw [kp_w [109, 97, 110, 121] 0 (by decide), show kp_pk [109, 97, 110, 121] 0 = 1835101817 by decide]
  rw [kp_w [104, 97, 118, 101] 0 (by decide), show kp_pk [104, 97, 118, 101] 0 = 1751217765 by decide]
  rw [kp_w [98, 111, 116, 104] 0 (by decide), show kp_pk [98, 111, 116, 104] 0 = 1651471464 by decide]
  rw [kp_e [104, 97, 100] 0 (by decide), show kp_pk [104, 97, 100] 0 = 6840676 by decide]
  unfold p_word
  by_cases h0 : v = 6840691
  · subst h0; decide
  rw [if_neg (c := (6840691 : Int64) = v) (fun q => h0 q.symm), if_neg h0]
  by_cases h1 : v = 422776956275
  · subst h1; decide
  rw [if_neg (c := (422776956275 : Int64) = v) (fun q => h1 q.symm), if_neg h1]
  by_cases h2 : v = 1734702195
  · subst h2; decide
  rw [if_neg (c := (1734702195 : Int64) = v) (fun q => h2 q.symm), if_neg h2]
  by_cases h3 : v = 465726301555
  · subst h3; decide
  rw [if_neg (c := (465726301555 : Int64) = v) (fun q => h3 q.symm), if_neg h3]
  by_cases h4 : v = 1886745715
  · subst h4; decide
  rw [if_neg (c := (1886745715 : Int64) = v) (fun q => h4 q.symm), if_neg h4]
  by_cases h5 : v = 1952998765
  · subst h5; decide
  rw [if_neg (c := (1952998765 : Int64) = v) (fun q => h5 q.symm), if_neg h5]
  by_cases h6 : v = 1768846447
  · subst h6; decide
  rw [if_neg (c := (1768846447 : Int64) = v) (fun q => h6 q.symm), if_neg h6]
  by_cases h7 : v = 26990
  · subst h7; decide
  rw [if_neg (c := (26990 : Int64) = v) (fun q => h7 q.symm), if_neg h7]
  by_cases h8 : v = 97
  · subst h8; decide
  rw [if_neg (c := (97 : Int64) = v) (fun q => h8 q.symm), if_neg h8]
  by_cases h9 : v = 6451064
  · subst h9; decide
  rw [if_neg (c := (6451064 : Int64) = v) (fun q => h9 q.symm), if_neg h9]
  by_cases h10 : v = 6386277
  · subst h10; decide
  rw [if_neg (c := (6386277 : Int64) = v) (fun q => h10 q.symm), if_neg h10]
  by_cases h11 : v = 1836020325
  · subst h11; decide
  rw [if_neg (c := (1836020325 : Int64) = v) (fun q => h11 q.symm), if_neg h11]
  by_cases h12 : v = 1952997742
  · subst h12; decide
  rw [if_neg (c := (1952997742 : Int64) = v) (fun q => h12 q.symm), if_neg h12]
  by_cases h13 : v = 7237495
  · subst h13; decide
  rw [if_neg (c := (7237495 : Int64) = v) (fun q => h13 q.symm), if_neg h13]
  by_cases h14 : v = 6844279
  · subst h14; decide
  rw [if_neg (c := (6844279 : Int64) = v) (fun q => h14 q.symm), if_neg h14]
  by_cases h15 : v = 1835101817
  · subst h15; decide
  rw [if_neg (c := (1835101817 : Int64) = v) (fun q => h15 q.symm), if_neg h15]
  by_cases h16 : v = 1751217765
  · subst h16; decide
  rw [if_neg (c := (1751217765 : Int64) = v) (fun q => h16 q.symm), if_neg h16]
  by_cases h17 : v = 1651471464
  · subst h17; decide
  rw [if_neg (c := (1651471464 : Int64) = v) (fun q => h17 q.symm), if_neg h17]
  by_cases h18 : v = 6840676
  · subst h18; decide
  · rw [if_neg h18]
    simp only [decide_eq_decide]
    exact ⟨fun q => absurd q.symm h18, fun q => absurd trivial q⟩
theorem getD_el {l : List Int32} {j : Nat} (h : j < l.length) : l[j] = l.getD j 0 := by rw [List.getD_eq_getElem?_getD, List.getElem?_eq_getElem h]; rfl
theorem c_keptL {d : Nat} {h : aH} (hs : hS h) {v : Int64} {Q : Option Value → aH → Prop} : ∀ (n j : Nat) (K : Int64) (l5 : Option Value), i_bl 1 - j = n → j ≤ i_bl 1 → Q (some (.int (if kp_go v ((a_byt.getD 1 []).drop j) K then 1 else 0))) h →
    wp (d + 4) mX8_isKept 5 [some (.long v), none, some (.long K), none, some (.int (nI j)), l5] [] h Q := by
  have hb : i_bl 1 = 85 := by decide +kernel
  have hlen : (a_byt.getD 1 []).length = 85 := hb
  intro n
  induction n with
  | zero =>
    intro j K l5 h1 h2 hk
    have : j = i_bl 1 := by omega
    subst this
    rw [sX8_isKept_5]
    rw [List.drop_of_length_le (by omega)] at hk
    simp only [kp_go, decide_eq_true_eq] at hk
    simp only [sX8_isKept_0, sX8_isKept_1, sX8_isKept_2, sX8_isKept_3, sX8_isKept_7, sX8_isKept_9, sX8_isKept_12, sX8_isKept_15, sX8_isKept_17, sX8_isKept_19, sX8_isKept_22, sX8_isKept_24, sX8_isKept_26, sX8_isKept_28, sX8_isKept_31, sX8_isKept_32, sX8_isKept_34, sX8_isKept_35, sX8_isKept_37, sX8_isKept_38, sX8_isKept_39, sX8_isKept_40, sX8_isKept_43, sX8_isKept_44, sX8_isKept_45, sX8_isKept_46, sX8_isKept_49, sX8_isKept_50, sX8_isKept_51, sX8_isKept_52, sX8_isKept_53, sX8_isKept_56, sX8_isKept_59, sX8_isKept_60, sX8_isKept_61, sX8_isKept_62, sX8_isKept_65, sX8_isKept_66, sX8_isKept_69, sX8_isKept_70, e_clrI, e_clrR, e_clrU, e_clrN, e_clrL, e_s0, e_s1, e_s2, e_s3, e_s4, e_z0, e_z1, e_f0, e_f1, e_tl, e_tn, e_q0, e_q1, e_zi, e_zj, true_and, and_true, ↓reduceIte, c_len hs (show 1 < 16 by omega), hS_rc hs (show 1 < 16 by omega), Int32.le_refl, if_true, lg0]
    by_cases he : K = v
    · simp only [he, if_true] at hk ⊢; exact hk
    · simp only [he, if_false] at hk ⊢; exact hk
  | succ n ih =>
    intro j K l5 h1 h2 hk
    have hlt : j < i_bl 1 := by omega
    have hle : ¬ nI (i_bl 1) ≤ nI j := nI_ge hlt (by omega)
    rw [List.drop_eq_getElem_cons (show j < (a_byt.getD 1 []).length by omega)] at hk
    have hc : (a_byt.getD 1 [])[j]'(by omega) = sBy 1 j := by
      exact getD_el _
    rw [hc] at hk
    simp only [kp_go] at hk
    rw [sX8_isKept_5]
    simp only [sX8_isKept_0, sX8_isKept_1, sX8_isKept_2, sX8_isKept_3, sX8_isKept_7, sX8_isKept_9, sX8_isKept_12, sX8_isKept_15, sX8_isKept_17, sX8_isKept_19, sX8_isKept_22, sX8_isKept_24, sX8_isKept_26, sX8_isKept_28, sX8_isKept_31, sX8_isKept_32, sX8_isKept_34, sX8_isKept_35, sX8_isKept_37, sX8_isKept_38, sX8_isKept_39, sX8_isKept_40, sX8_isKept_43, sX8_isKept_44, sX8_isKept_45, sX8_isKept_46, sX8_isKept_49, sX8_isKept_50, sX8_isKept_51, sX8_isKept_52, sX8_isKept_53, sX8_isKept_56, sX8_isKept_59, sX8_isKept_60, sX8_isKept_61, sX8_isKept_62, sX8_isKept_65, sX8_isKept_66, sX8_isKept_69, sX8_isKept_70, e_clrI, e_clrR, e_clrU, e_clrN, e_clrL, e_s0, e_s1, e_s2, e_s3, e_s4, e_z0, e_z1, e_f0, e_f1, e_tl, e_tn, e_q0, e_q1, e_zi, e_zj, true_and, and_true, ↓reduceIte, c_len hs (show 1 < 16 by omega), c_charAt hs (show 1 < 16 by omega) hlt, hS_rc hs (show 1 < 16 by omega), hle, if_false, lg0, nI_1]
    by_cases h32 : sBy 1 j = 32
    · simp only [h32, if_true] at hk ⊢
      by_cases he : K = v
      · simp only [he, if_true] at hk ⊢; exact hk
      · simp only [he, if_false] at hk ⊢
        exact ih (j + 1) 0 _ (by omega) (by omega) hk
    · simp only [h32, if_false] at hk ⊢
      exact ih (j + 1) _ _ (by omega) (by omega) hk
theorem c_isKept {d : Nat} {h : aH} (hs : hS h) {v : Int64} {Q : Option Value → aH → Prop} : wp (d + 4) mX8_isKept 0 [some (.long v), none, none, none, none, none] [] h Q ↔ Q (some (.int (if p_word v = 4 then 0 else 1))) h := by
  refine wp_iff ?_
  simp only [sX8_isKept_0, sX8_isKept_1, sX8_isKept_2, sX8_isKept_3, sX8_isKept_7, sX8_isKept_9, sX8_isKept_12, sX8_isKept_15, sX8_isKept_17, sX8_isKept_19, sX8_isKept_22, sX8_isKept_24, sX8_isKept_26, sX8_isKept_28, sX8_isKept_31, sX8_isKept_32, sX8_isKept_34, sX8_isKept_35, sX8_isKept_37, sX8_isKept_38, sX8_isKept_39, sX8_isKept_40, sX8_isKept_43, sX8_isKept_44, sX8_isKept_45, sX8_isKept_46, sX8_isKept_49, sX8_isKept_50, sX8_isKept_51, sX8_isKept_52, sX8_isKept_53, sX8_isKept_56, sX8_isKept_59, sX8_isKept_60, sX8_isKept_61, sX8_isKept_62, sX8_isKept_65, sX8_isKept_66, sX8_isKept_69, sX8_isKept_70, e_clrI, e_clrR, e_clrU, e_clrN, e_clrL, e_s0, e_s1, e_s2, e_s3, e_s4, e_z0, e_z1, e_f0, e_f1, e_tl, e_tn, e_q0, e_q1, e_zi, e_zj, true_and, and_true, ↓reduceIte]
  refine c_keptL hs _ 0 0 _ rfl (Nat.zero_le _) ?_
  rw [List.drop_zero, kp_all]
  rw [show (if decide (¬ p_word v = 4) = true then (1 : Int32) else 0) = if p_word v = 4 then 0 else 1 by by_cases h : p_word v = 4 <;> simp [h]]
  exact ⟨rfl, rfl⟩
