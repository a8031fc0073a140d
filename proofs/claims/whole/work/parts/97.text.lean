/-! ===== texts: letters and digits put, both sides ===== -/
def dgs : Nat → Nat → List Nat
  | 0, _ => []
  | f + 1, n => if n = 0 then [] else dgs f (n / 256) ++ [n % 256]
/-- a word's letters -/
def lsW (v : Int64) : List Nat := dgs 8 v.toBitVec.toNat
theorem npack_lt : ∀ (ls : List Nat), (∀ c ∈ ls, c < 256) → npack ls < 256 ^ ls.length := by
  intro ls
  rw [← List.reverse_reverse ls]
  generalize ls.reverse = r
  induction r with
  | nil => intro _; exact Nat.zero_lt_one
  | cons c r ih =>
    intro h
    rw [List.reverse_cons, npack_c, List.length_append, List.length_singleton, Nat.pow_succ]
    rw [List.reverse_cons] at h
    have h1 := ih (fun c hc => h c (List.mem_append_left _ hc))
    have h2 := h c (List.mem_append_right _ (List.mem_singleton.mpr rfl))
    omega
theorem dgs_p : ∀ (f : Nat) (ls : List Nat), ls.length ≤ f → (∀ c ∈ ls, 97 ≤ c ∧ c ≤ 122) → dgs f (npack ls) = ls := by
  intro f
  induction f with
  | zero => intro ls h _; have : ls = [] := List.length_eq_zero_iff.mp (by omega); subst this; rfl
  | succ f ih =>
    intro ls h hl
    rcases List.eq_nil_or_concat ls with rfl | ⟨l, c, rfl⟩
    · rfl
    · rw [List.concat_eq_append] at *
      rw [npack_c]
      have hc := hl c (List.mem_append_right _ (List.mem_singleton.mpr rfl))
      unfold dgs
      rw [if_neg (by omega), show (npack l * 256 + c) / 256 = npack l by omega, show (npack l * 256 + c) % 256 = c by omega]
      rw [ih l (by simp at h; omega) (fun c hc => hl c (List.mem_append_left _ hc))]
theorem isW_f {v : Int64} (h : isW v) : v = lN (npack (lsW v)) ∧ 1 ≤ (lsW v).length ∧ (lsW v).length ≤ 8 ∧ (∀ c ∈ lsW v, 97 ≤ c ∧ c ≤ 122) := by
  obtain ⟨bs, h1, h2, h3, rfl⟩ := h
  have hb : npack bs < 2 ^ 64 := by
    have := npack_lt bs (fun c hc => by have := h3 c hc; omega)
    have h8 : 256 ^ bs.length ≤ 256 ^ 8 := Nat.pow_le_pow_right (by omega) h2
    rw [show (256 : Nat) ^ 8 = 2 ^ 64 by decide] at h8
    omega
  have e : lsW (Int64.ofNat (npack bs)) = bs := by
    unfold lsW
    rw [show (Int64.ofNat (npack bs)).toBitVec.toNat = npack bs by
      show (lN (npack bs)).toBitVec.toNat = _
      rw [b6_bv, BitVec.toNat_ofNat, Nat.mod_eq_of_lt hb]]
    exact dgs_p 8 bs h2 h3
  rw [e]
  exact ⟨rfl, h1, h2, h3⟩
theorem npack_div {ls : List Nat} (h : ∀ c ∈ ls, c < 256) : ∀ j, npack ls / 256 ^ j = npack (ls.take (ls.length - j)) := by
  intro j
  induction j with
  | zero => simp
  | succ j ih =>
    rw [Nat.pow_succ, ← Nat.div_div_eq_div_mul, ih]
    by_cases hj : ls.length - j = 0
    · rw [hj, show ls.length - (j + 1) = 0 by omega]; simp [npack]
    · obtain ⟨m, hm⟩ : ∃ m, ls.length - j = m + 1 := ⟨ls.length - j - 1, by omega⟩
      rw [hm, show ls.length - (j + 1) = m by omega]
      have hml : m < ls.length := by omega
      rw [List.take_add_one, List.getElem?_eq_getElem hml]
      show npack (ls.take m ++ [ls[m]]) / 256 = _
      rw [npack_c]
      have := h ls[m] (List.getElem_mem hml)
      omega
/-- digit j of a word, from the back: none, or a letter -/
theorem npack_at {ls : List Nat} (h : ∀ c ∈ ls, 97 ≤ c ∧ c ≤ 122) {j : Nat} (hj : j < ls.length) : npack ls / 256 ^ j % 256 = ls[ls.length - 1 - j]'(by omega) ∧ 0 < npack ls / 256 ^ j := by
  have hm : ls.length - j = (ls.length - 1 - j) + 1 := by omega
  have hml : ls.length - 1 - j < ls.length := by omega
  rw [npack_div (fun c hc => by have := h c hc; omega), hm, List.take_add_one, List.getElem?_eq_getElem hml]
  show npack (ls.take _ ++ [_]) % 256 = _ ∧ 0 < npack (ls.take _ ++ [_])
  rw [npack_c]
  have := h _ (List.getElem_mem hml)
  omega
theorem npack_o {ls : List Nat} (h : ∀ c ∈ ls, 97 ≤ c ∧ c ≤ 122) {j : Nat} (hj : ls.length ≤ j) : npack ls / 256 ^ j = 0 := by
  rw [npack_div (fun c hc => by have := h c hc; omega), show ls.length - j = 0 by omega]; simp [npack]
/-- the reference's text -/
def tA (al : Nat → Int32) (t : List Nat) : Nat → Int32 := fun j => if 62 ≤ j ∧ j < 62 + t.length then nI (t.getD (j - 62) 0) else if j = 10 then nI t.length else al j
/-- the class's text -/
def tX (tx : Nat → Int32) (t : List Nat) : Nat → Int32 := fun j => if j < t.length then nI (t.getD j 0) else tx j
theorem getD_l {t : List Nat} {c j : Nat} (h : j < t.length) : (t ++ [c]).getD j 0 = t.getD j 0 := by rw [List.getD_eq_getElem?_getD, List.getD_eq_getElem?_getD, List.getElem?_append_left h]
theorem getD_r {t : List Nat} {c : Nat} : (t ++ [c]).getD t.length 0 = c := by rw [List.getD_eq_getElem?_getD, List.getElem?_append_right (Nat.le_refl _)]; simp
theorem tA_s {al : Nat → Int32} {t : List Nat} {c : Nat} : upd (upd (tA al t) (62 + t.length) (nI c)) 10 (nI (t.length + 1)) = tA al (t ++ [c]) := by
  funext j
  unfold upd tA
  rw [List.length_append, List.length_singleton]
  by_cases h1 : j = 10
  · subst h1
    rw [if_pos rfl, if_neg (by omega), if_pos rfl]
  · rw [if_neg h1]
    by_cases h2 : j = 62 + t.length
    · subst h2
      rw [if_pos rfl, if_pos (by omega), show 62 + t.length - 62 = t.length by omega, getD_r]
    · rw [if_neg h2]
      by_cases h3 : 62 ≤ j ∧ j < 62 + t.length
      · rw [if_pos h3, if_pos (by omega), getD_l (by omega)]
      · rw [if_neg h3, if_neg h1, if_neg (show ¬ (62 ≤ j ∧ j < 62 + (t.length + 1)) by omega), if_neg h1]
theorem tX_s {tx : Nat → Int32} {t : List Nat} {c : Nat} : upd (tX tx t) t.length (nI c) = tX tx (t ++ [c]) := by
  funext j
  unfold upd tX
  rw [List.length_append, List.length_singleton]
  by_cases h2 : j = t.length
  · subst h2
    rw [if_pos rfl, if_pos (by omega), getD_r]
  · rw [if_neg h2]
    by_cases h3 : j < t.length
    · rw [if_pos h3, if_pos (by omega), getD_l h3]
    · rw [if_neg h3, if_neg (by omega)]
theorem tA_10 {al : Nat → Int32} {t : List Nat} : tA al t 10 = nI t.length := by unfold tA; rw [if_neg (by omega), if_pos rfl]
theorem tA_o {al : Nat → Int32} {t : List Nat} {j : Nat} (h : ¬ (62 ≤ j ∧ j < 62 + t.length)) (h1 : j ≠ 10) : tA al t j = al j := by unfold tA; rw [if_neg h, if_neg h1]
theorem m_put {d : Nat} {g : aH} {al : Nat → Int32} {wd : Nat → Int64} {hs : Nat → Int32} {vx : Int32} {vy : Int32} {vz : Int32} {vi : Int32} {an : Nat → Int32} {sz : Int32} {nx : Int32} {wh : Int32} {tk : Int32} {td : Int32} {wr : Int32} {rw : Nat → Int32} {sn : Int32} {ak : Int32} {n0 : Int32} {n1 : Int32} {t : List Nat} (ht : t.length < 1000) {c : Nat} {Q : Option Value → aH → Prop} : wp d mX11_puts 0 [some (.ref 35), some (.int (nI c))] [] (HM g (tA al t) wd hs vx vy vz vi an sz nx wh tk td wr rw sn ak n0 n1) Q ↔ Q none (HM g (tA al (t ++ [c])) wd hs vx vy vz vi an sz nx wh tk td wr rw sn ak n0 n1) := by
  have e : 62 + nI t.length = nI (62 + t.length) := nI_add 62 t.length
  have u : upd (tA al t) (62 + t.length) (nI c) 10 = nI t.length := by rw [pk_un (by omega), tA_10]
  simp only [sX11_puts_0, sX11_puts_1, sX11_puts_4, sX11_puts_6, sX11_puts_7, sX11_puts_10, sX11_puts_12, sX11_puts_13, sX11_puts_14, sX11_puts_15, sX11_puts_16, sX11_puts_17, sX11_puts_20, sX11_puts_22, sX11_puts_23, sX11_puts_24, sX11_puts_25, sX11_puts_26, sX11_puts_27, e_clrI, e_clrR, e_clrU, e_clrN, e_clrL, e_s0, e_s1, e_s2, e_s3, e_s4, e_z0, e_z1, e_f0, e_f1, e_tl, e_tn, e_q0, e_q1, e_zi, e_zj, true_and, and_true, ↓reduceIte, hM_rc, hM_g0, hM_g1, hM_g2, hM_g3, hM_g4, hM_g5, hM_g6, hM_g7, hM_g8, hM_g9, hM_g10, hM_g11, hM_g12, hM_g13, hM_g14, hM_g15, hM_g16, hM_g17, hM_g18, hM_p3, hM_p4, hM_p5, hM_p6, hM_p8, hM_p9, hM_p10, hM_p11, hM_p12, hM_p13, hM_p15, hM_p16, hM_p17, hM_p18, hM_l36, hM_l37, hM_l38, hM_l39, hM_l40, hM_s36, hM_s37, hM_s38, hM_s39, hM_s40, e_c0, e_c1, e_c2, e_c3, e_c4, e_c5, e_c6, e_c7, e_c8, e_c9, e_c10, e_c11, e_c12, e_c13, e_c14, e_c15, e_c16, e_c17, e_c18, e_c19, e_c20, e_c21, e_c22, e_c23, e_c24, e_c25, e_c26, e_c27, e_c28, e_c29, e_c30, e_c31, e_c32, e_c33, e_c34, e_c35, e_c36, e_c37, e_c38, e_c39, e_c40, e_c41, e_c42, e_c43, e_c44, e_c45, e_c46, e_c47, e_c48, e_c49, e_c50, e_c51, e_c52, e_c53, e_c54, e_c55, e_c56, e_c57, e_c58, e_c59, e_c60, e_c61, e_c62, e_c63, e_c64, e_c65, e_c66, e_c67, e_c68, e_c69, e_c70, e_i3848_0, e_i3848_1, e_i3848_2, e_i3848_3, e_i3848_4, e_i3848_5, e_i3848_6, e_i3848_7, e_i3848_8, e_i3848_9, e_i3848_10, e_i3848_11, e_i3848_12, e_i3848_13, e_i3848_14, e_i3848_15, e_i3848_16, e_i3848_17, e_i3848_18, e_i3848_19, e_i3848_20, e_i3848_21, e_i3848_22, e_i3848_23, e_i3848_24, e_i3848_25, e_i3848_26, e_i3848_27, e_i3848_28, e_i3848_29, e_i3848_30, e_i3848_31, e_i3848_32, e_i3848_33, e_i3848_34, e_i3848_35, e_i3848_36, e_i3848_37, e_i3848_38, e_i3848_39, e_i3848_40, e_i3848_41, e_i3848_42, e_i3848_43, e_i3848_44, e_i3848_45, e_i3848_46, e_i3848_47, e_i3848_48, e_i3848_49, e_i3848_50, e_i3848_51, e_i3848_52, e_i3848_53, e_i3848_54, e_i3848_55, e_i3848_56, e_i3848_57, e_i3848_58, e_i3848_59, e_i3848_60, e_i3848_61, e_i3848_62, e_i3848_63, e_i3848_64, e_i3848_65, e_i3848_66, e_i3848_67, e_i3848_68, e_i3848_69, e_i3848_70, e_i35_0, e_i35_1, e_i35_2, e_i35_3, e_i35_4, e_i35_5, e_i35_6, e_i35_7, e_i35_8, e_i35_9, e_i35_10, e_i35_11, e_i35_12, e_i35_13, e_i35_14, e_i35_15, e_i35_16, e_i35_17, e_i35_18, e_i35_19, e_i35_20, e_i35_21, e_i35_22, e_i35_23, e_i35_24, e_i35_25, e_i35_26, e_i35_27, e_i35_28, e_i35_29, e_i35_30, e_i35_31, e_i35_32, e_i35_33, e_i35_34, e_i20_0, e_i20_1, e_i20_2, e_i20_3, e_i20_4, e_i20_5, e_i20_6, e_i20_7, e_i20_8, e_i20_9, e_i20_10, e_i20_11, e_i20_12, e_i20_13, e_i20_14, e_i20_15, e_i20_16, e_i20_17, e_i20_18, e_i20_19, e_i48_0, e_i48_1, e_i48_2, e_i48_3, e_i48_4, e_i48_5, e_i48_6, e_i48_7, e_i48_8, e_i48_9, e_i48_10, e_i48_11, e_i48_12, e_i3_0, e_i3_1, e_i3_2, e_i4_0, e_i4_1, e_i4_2, e_i4_3, e_i6_0, e_i6_1, e_i6_2, e_i6_3, e_i6_4, e_i6_5, e_i11_0, e_i11_1, e_i11_2, e_i11_3, e_i11_4, e_i11_5, e_i11_6, e_i11_7, e_i11_8, e_i11_9, e_i11_10, e_i12_0, e_i12_1, e_i12_2, e_i12_3, e_i12_4, e_i12_5, e_i12_6, e_i12_7, e_i12_8, e_i12_9, e_i12_10, e_i12_11, tA_10, e, vp_in_nI (show 62 + t.length < 3848 by omega) (by omega), nI_clamp (show 62 + t.length < 2 ^ 31 by omega), u, nI_1, tA_s]
/-- what stands ahead of a word -/
def sep (t : List Nat) : List Nat := if t = [] then [] else [32]
theorem sep_len (t : List Nat) : (sep t).length ≤ 1 := by unfold sep; split <;> simp
theorem m_blank {d : Nat} {g : aH} {al : Nat → Int32} {wd : Nat → Int64} {hs : Nat → Int32} {vx : Int32} {vy : Int32} {vz : Int32} {vi : Int32} {an : Nat → Int32} {sz : Int32} {nx : Int32} {wh : Int32} {tk : Int32} {td : Int32} {wr : Int32} {rw : Nat → Int32} {sn : Int32} {ak : Int32} {n0 : Int32} {n1 : Int32} {t : List Nat} (ht : t.length < 1000) {Q : Option Value → aH → Prop} : wp (d + 1) mX11_blank 0 [some (.ref 35)] [] (HM g (tA al t) wd hs vx vy vz vi an sz nx wh tk td wr rw sn ak n0 n1) Q ↔ Q none (HM g (tA al (t ++ sep t)) wd hs vx vy vz vi an sz nx wh tk td wr rw sn ak n0 n1) := by
  have hp := m_put (d := d) (g := g) (al := al) (wd := wd) (hs := hs) (vx := vx) (vy := vy) (vz := vz) (vi := vi) (an := an) (sz := sz) (nx := nx) (wh := wh) (tk := tk) (td := td) (wr := wr) (rw := rw) (sn := sn) (ak := ak) (n0 := n0) (n1 := n1) (t := t) ht (c := 32) (Q := fun v g => wp (d + 1) mX11_blank 16 [some (.ref 35)] (v.toList ++ []) g Q)
  unfold sep
  by_cases h : t = []
  · subst h
    simp only [sX11_blank_0, sX11_blank_1, sX11_blank_4, sX11_blank_6, sX11_blank_7, sX11_blank_10, sX11_blank_11, sX11_blank_13, sX11_blank_16, e_clrI, e_clrR, e_clrU, e_clrN, e_clrL, e_s0, e_s1, e_s2, e_s3, e_s4, e_z0, e_z1, e_f0, e_f1, e_tl, e_tn, e_q0, e_q1, e_zi, e_zj, true_and, and_true, ↓reduceIte, hM_rc, hM_g0, hM_g1, hM_g2, hM_g3, hM_g4, hM_g5, hM_g6, hM_g7, hM_g8, hM_g9, hM_g10, hM_g11, hM_g12, hM_g13, hM_g14, hM_g15, hM_g16, hM_g17, hM_g18, hM_p3, hM_p4, hM_p5, hM_p6, hM_p8, hM_p9, hM_p10, hM_p11, hM_p12, hM_p13, hM_p15, hM_p16, hM_p17, hM_p18, hM_l36, hM_l37, hM_l38, hM_l39, hM_l40, hM_s36, hM_s37, hM_s38, hM_s39, hM_s40, e_c0, e_c1, e_c2, e_c3, e_c4, e_c5, e_c6, e_c7, e_c8, e_c9, e_c10, e_c11, e_c12, e_c13, e_c14, e_c15, e_c16, e_c17, e_c18, e_c19, e_c20, e_c21, e_c22, e_c23, e_c24, e_c25, e_c26, e_c27, e_c28, e_c29, e_c30, e_c31, e_c32, e_c33, e_c34, e_c35, e_c36, e_c37, e_c38, e_c39, e_c40, e_c41, e_c42, e_c43, e_c44, e_c45, e_c46, e_c47, e_c48, e_c49, e_c50, e_c51, e_c52, e_c53, e_c54, e_c55, e_c56, e_c57, e_c58, e_c59, e_c60, e_c61, e_c62, e_c63, e_c64, e_c65, e_c66, e_c67, e_c68, e_c69, e_c70, e_i3848_0, e_i3848_1, e_i3848_2, e_i3848_3, e_i3848_4, e_i3848_5, e_i3848_6, e_i3848_7, e_i3848_8, e_i3848_9, e_i3848_10, e_i3848_11, e_i3848_12, e_i3848_13, e_i3848_14, e_i3848_15, e_i3848_16, e_i3848_17, e_i3848_18, e_i3848_19, e_i3848_20, e_i3848_21, e_i3848_22, e_i3848_23, e_i3848_24, e_i3848_25, e_i3848_26, e_i3848_27, e_i3848_28, e_i3848_29, e_i3848_30, e_i3848_31, e_i3848_32, e_i3848_33, e_i3848_34, e_i3848_35, e_i3848_36, e_i3848_37, e_i3848_38, e_i3848_39, e_i3848_40, e_i3848_41, e_i3848_42, e_i3848_43, e_i3848_44, e_i3848_45, e_i3848_46, e_i3848_47, e_i3848_48, e_i3848_49, e_i3848_50, e_i3848_51, e_i3848_52, e_i3848_53, e_i3848_54, e_i3848_55, e_i3848_56, e_i3848_57, e_i3848_58, e_i3848_59, e_i3848_60, e_i3848_61, e_i3848_62, e_i3848_63, e_i3848_64, e_i3848_65, e_i3848_66, e_i3848_67, e_i3848_68, e_i3848_69, e_i3848_70, e_i35_0, e_i35_1, e_i35_2, e_i35_3, e_i35_4, e_i35_5, e_i35_6, e_i35_7, e_i35_8, e_i35_9, e_i35_10, e_i35_11, e_i35_12, e_i35_13, e_i35_14, e_i35_15, e_i35_16, e_i35_17, e_i35_18, e_i35_19, e_i35_20, e_i35_21, e_i35_22, e_i35_23, e_i35_24, e_i35_25, e_i35_26, e_i35_27, e_i35_28, e_i35_29, e_i35_30, e_i35_31, e_i35_32, e_i35_33, e_i35_34, e_i20_0, e_i20_1, e_i20_2, e_i20_3, e_i20_4, e_i20_5, e_i20_6, e_i20_7, e_i20_8, e_i20_9, e_i20_10, e_i20_11, e_i20_12, e_i20_13, e_i20_14, e_i20_15, e_i20_16, e_i20_17, e_i20_18, e_i20_19, e_i48_0, e_i48_1, e_i48_2, e_i48_3, e_i48_4, e_i48_5, e_i48_6, e_i48_7, e_i48_8, e_i48_9, e_i48_10, e_i48_11, e_i48_12, e_i3_0, e_i3_1, e_i3_2, e_i4_0, e_i4_1, e_i4_2, e_i4_3, e_i6_0, e_i6_1, e_i6_2, e_i6_3, e_i6_4, e_i6_5, e_i11_0, e_i11_1, e_i11_2, e_i11_3, e_i11_4, e_i11_5, e_i11_6, e_i11_7, e_i11_8, e_i11_9, e_i11_10, e_i12_0, e_i12_1, e_i12_2, e_i12_3, e_i12_4, e_i12_5, e_i12_6, e_i12_7, e_i12_8, e_i12_9, e_i12_10, e_i12_11, tA_10, List.length_nil, nI_0, Int32.le_refl, if_true, List.append_nil]
  · have hl : ¬ nI t.length ≤ 0 := nI_nle (by have := List.length_pos_iff.mpr h; omega) (by omega)
    simp only [sX11_blank_0, sX11_blank_1, sX11_blank_4, sX11_blank_6, sX11_blank_7, sX11_blank_10, sX11_blank_11, sX11_blank_13, e_clrI, e_clrR, e_clrU, e_clrN, e_clrL, e_s0, e_s1, e_s2, e_s3, e_s4, e_z0, e_z1, e_f0, e_f1, e_tl, e_tn, e_q0, e_q1, e_zi, e_zj, true_and, and_true, ↓reduceIte, hM_rc, hM_g0, hM_g1, hM_g2, hM_g3, hM_g4, hM_g5, hM_g6, hM_g7, hM_g8, hM_g9, hM_g10, hM_g11, hM_g12, hM_g13, hM_g14, hM_g15, hM_g16, hM_g17, hM_g18, hM_p3, hM_p4, hM_p5, hM_p6, hM_p8, hM_p9, hM_p10, hM_p11, hM_p12, hM_p13, hM_p15, hM_p16, hM_p17, hM_p18, hM_l36, hM_l37, hM_l38, hM_l39, hM_l40, hM_s36, hM_s37, hM_s38, hM_s39, hM_s40, e_c0, e_c1, e_c2, e_c3, e_c4, e_c5, e_c6, e_c7, e_c8, e_c9, e_c10, e_c11, e_c12, e_c13, e_c14, e_c15, e_c16, e_c17, e_c18, e_c19, e_c20, e_c21, e_c22, e_c23, e_c24, e_c25, e_c26, e_c27, e_c28, e_c29, e_c30, e_c31, e_c32, e_c33, e_c34, e_c35, e_c36, e_c37, e_c38, e_c39, e_c40, e_c41, e_c42, e_c43, e_c44, e_c45, e_c46, e_c47, e_c48, e_c49, e_c50, e_c51, e_c52, e_c53, e_c54, e_c55, e_c56, e_c57, e_c58, e_c59, e_c60, e_c61, e_c62, e_c63, e_c64, e_c65, e_c66, e_c67, e_c68, e_c69, e_c70, e_i3848_0, e_i3848_1, e_i3848_2, e_i3848_3, e_i3848_4, e_i3848_5, e_i3848_6, e_i3848_7, e_i3848_8, e_i3848_9, e_i3848_10, e_i3848_11, e_i3848_12, e_i3848_13, e_i3848_14, e_i3848_15, e_i3848_16, e_i3848_17, e_i3848_18, e_i3848_19, e_i3848_20, e_i3848_21, e_i3848_22, e_i3848_23, e_i3848_24, e_i3848_25, e_i3848_26, e_i3848_27, e_i3848_28, e_i3848_29, e_i3848_30, e_i3848_31, e_i3848_32, e_i3848_33, e_i3848_34, e_i3848_35, e_i3848_36, e_i3848_37, e_i3848_38, e_i3848_39, e_i3848_40, e_i3848_41, e_i3848_42, e_i3848_43, e_i3848_44, e_i3848_45, e_i3848_46, e_i3848_47, e_i3848_48, e_i3848_49, e_i3848_50, e_i3848_51, e_i3848_52, e_i3848_53, e_i3848_54, e_i3848_55, e_i3848_56, e_i3848_57, e_i3848_58, e_i3848_59, e_i3848_60, e_i3848_61, e_i3848_62, e_i3848_63, e_i3848_64, e_i3848_65, e_i3848_66, e_i3848_67, e_i3848_68, e_i3848_69, e_i3848_70, e_i35_0, e_i35_1, e_i35_2, e_i35_3, e_i35_4, e_i35_5, e_i35_6, e_i35_7, e_i35_8, e_i35_9, e_i35_10, e_i35_11, e_i35_12, e_i35_13, e_i35_14, e_i35_15, e_i35_16, e_i35_17, e_i35_18, e_i35_19, e_i35_20, e_i35_21, e_i35_22, e_i35_23, e_i35_24, e_i35_25, e_i35_26, e_i35_27, e_i35_28, e_i35_29, e_i35_30, e_i35_31, e_i35_32, e_i35_33, e_i35_34, e_i20_0, e_i20_1, e_i20_2, e_i20_3, e_i20_4, e_i20_5, e_i20_6, e_i20_7, e_i20_8, e_i20_9, e_i20_10, e_i20_11, e_i20_12, e_i20_13, e_i20_14, e_i20_15, e_i20_16, e_i20_17, e_i20_18, e_i20_19, e_i48_0, e_i48_1, e_i48_2, e_i48_3, e_i48_4, e_i48_5, e_i48_6, e_i48_7, e_i48_8, e_i48_9, e_i48_10, e_i48_11, e_i48_12, e_i3_0, e_i3_1, e_i3_2, e_i4_0, e_i4_1, e_i4_2, e_i4_3, e_i6_0, e_i6_1, e_i6_2, e_i6_3, e_i6_4, e_i6_5, e_i11_0, e_i11_1, e_i11_2, e_i11_3, e_i11_4, e_i11_5, e_i11_6, e_i11_7, e_i11_8, e_i11_9, e_i11_10, e_i12_0, e_i12_1, e_i12_2, e_i12_3, e_i12_4, e_i12_5, e_i12_6, e_i12_7, e_i12_8, e_i12_9, e_i12_10, e_i12_11, tA_10, hl, if_false, h, show (32 : Int32) = nI 32 from rfl]
    rw [hp]
    simp only [sX11_blank_0, sX11_blank_1, sX11_blank_4, sX11_blank_6, sX11_blank_7, sX11_blank_10, sX11_blank_11, sX11_blank_13, sX11_blank_16, e_clrI, e_clrR, e_clrU, e_clrN, e_clrL, e_s0, e_s1, e_s2, e_s3, e_s4, e_z0, e_z1, e_f0, e_f1, e_tl, e_tn, e_q0, e_q1, e_zi, e_zj, true_and, and_true, ↓reduceIte]
