/-! ===== the law's loop ===== -/
theorem INV_f {f : Nat → Option va_E} {h : aH} (H : INV f h) : w_rc (h.2.2 0) 10 ∧ h.2.2 (aRO + 60) = f (aRO + 60) := by
  refine INV_el (P := fun h => w_rc (h.2.2 0) 10 ∧ h.2.2 (aRO + 60) = f (aRO + 60)) H (fun n s c na th nw tw mo le gr to sh pn pm pt pi pj nu sa ss tx tl tq ql fa fu fp wn te lo hi mt me tt ix ov su wx wy wz wi wa im t0 t1 t2 t3 t4 rn rp ro ra rs rt rk r1 r2 r3 rc qs fs fh fd fi fn fm ft al wd hs vx vy vz vi an sz nx wh tk td wr rw sn ak n0 n1 hs0 hm hr hJ hI => ⟨rfl, HH_at (by rw [show aRO = 1000000 from rfl]; omega)⟩)
theorem INV_s {f : Nat → Option va_E} {h : aH} (H : INV f h) : h.1 ≤ 89 ∧ h.2.1 ≤ 29000 := by
  refine INV_el (P := fun h => h.1 ≤ 89 ∧ h.2.1 ≤ 29000) H (fun n s c na th nw tw mo le gr to sh pn pm pt pi pj nu sa ss tx tl tq ql fa fu fp wn te lo hi mt me tt ix ov su wx wy wz wi wa im t0 t1 t2 t3 t4 rn rp ro ra rs rt rk r1 r2 r3 rc qs fs fh fd fi fn fm ft al wd hs vx vy vz vi an sz nx wh tk td wr rw sn ak n0 n1 hs0 hm hr hJ hI => ?_)
  have hn := hI.1
  have e1 : ((KI n c (41 + 16 * n, s, f)).1 = 41 + 16 * n) ∧ ((KI n c (41 + 16 * n, s, f)).2.1 = s) := KI_1
  refine ⟨?_, ?_⟩
  · show (KI n c (41 + 16 * n, s, f)).1 ≤ 89
    rw [e1.1]
    omega
  · show (KI n c (41 + 16 * n, s, f)).2.1 ≤ 29000
    rw [e1.2]
    exact Nat.le_trans hs0 (Nat.add_le_add_left (Nat.mul_le_mul_left 3000 hn) 20000)
theorem sc_al {h : aH} {L : Nat} {xs : Nat → Int32} (e : h.2.2 (aRO + 60) = some (.inl (0, L, .inl xs))) {x : Int32} {K : Value → Prop} : w_al (h.2.2 (aRO + 60)) (aRO + 60) (fun t => t == 0) x K ↔ (vp_in x L ∧ K (.int (xs x.toNatClampNeg))) := by
  rw [e]
  exact ⟨fun q => ⟨q.1.2.1, q.2⟩, fun q => ⟨⟨rfl, q.1, Or.inl (by decide)⟩, q.2⟩⟩
theorem sc_len {h : aH} {L : Nat} {xs : Nat → Int32} (e : h.2.2 (aRO + 60) = some (.inl (0, L, .inl xs))) {K : Value → Prop} : w_len (h.2.2 (aRO + 60)) (aRO + 60) K ↔ K (.int (nI L)) := by
  rw [e]
  exact ⟨fun q => q.2, fun q => ⟨⟨by decide, Or.inr (Or.inl rfl), Or.inl (Nat.le_add_right _ _)⟩, q⟩⟩
theorem nI_5' {n : Nat} : nI n + 5 = nI (n + 5) := nI_add n 5
theorem nI_6' {n : Nat} : nI n + 6 = nI (n + 6) := nI_add n 6
theorem nI_7' {n : Nat} : nI n + 7 = nI (n + 7) := nI_add n 7
theorem lw_name {f : Nat → Option va_E} {L : Nat} {xs : Nat → Int32} (hf : hS (0, 0, f)) (hsc : f (aRO + 60) = some (.inl (0, L, .inl xs))) (hL : L ≤ 3584) {i : Nat} (hi : i + 7 ≤ L) {Q : Option Value → aH → Prop} (hN : ∀ h, INV f h → wp 11 mL_law 823 [some (.ref (aRO + 60)), some (.ref 0), some (.ref 35), some (.int (nI i))] [] h Q) {h : aH} (H : INV f h) : wp 11 mL_law 132 [some (.ref (aRO + 60)), some (.ref 0), some (.ref 35), some (.int (nI i))] [] h Q := by
  obtain ⟨h0, hs⟩ := INV_f H
  rw [hsc] at hs
  simp only [sL_law_132, sL_law_133, sL_law_134, sL_law_135, sL_law_136, sL_law_137, sL_law_138, sL_law_139, sL_law_141, sL_law_142, sL_law_143, sL_law_144, sL_law_145, sL_law_146, sL_law_147, sL_law_148, sL_law_151, sL_law_152, sL_law_153, e_clrI, e_clrR, e_clrU, e_clrN, e_clrL, e_s0, e_s1, e_s2, e_s3, e_s4, e_z0, e_z1, e_f0, e_f1, e_tl, e_tn, e_q0, e_q1, e_zi, e_zj, true_and, and_true, ↓reduceIte, sc_al hs, h0, nI_1, nI_2', nI_3', nI_4', nI_5', nI_6', vp_in_nI (show i + 1 < L by omega) (by omega), nI_clamp (show i + 1 < 2 ^ 31 by omega), vp_in_nI (show i + 2 < L by omega) (by omega), nI_clamp (show i + 2 < 2 ^ 31 by omega), vp_in_nI (show i + 3 < L by omega) (by omega), nI_clamp (show i + 3 < 2 ^ 31 by omega), vp_in_nI (show i + 4 < L by omega) (by omega), nI_clamp (show i + 4 < 2 ^ 31 by omega), vp_in_nI (show i + 5 < L by omega) (by omega), nI_clamp (show i + 5 < 2 ^ 31 by omega), vp_in_nI (show i + 6 < L by omega) (by omega), nI_clamp (show i + 6 < 2 ^ 31 by omega)]
  refine wp_mono (fun r g hp => ?_) (st_name hf H)
  obtain ⟨x, rfl, hrc, hg, hw⟩ := hp
  rw [hsc] at hg
  simp only [sL_law_156, sL_law_157, sL_law_158, sL_law_159, sL_law_160, sL_law_161, sL_law_162, sL_law_163, sL_law_165, sL_law_166, sL_law_167, sL_law_168, sL_law_169, sL_law_170, sL_law_171, sL_law_172, sL_law_175, sL_law_176, sL_law_177, e_clrI, e_clrR, e_clrU, e_clrN, e_clrL, e_s0, e_s1, e_s2, e_s3, e_s4, e_z0, e_z1, e_f0, e_f1, e_tl, e_tn, e_q0, e_q1, e_zi, e_zj, true_and, and_true, ↓reduceIte, sc_al hg, hrc, nI_1, nI_2', nI_3', nI_4', nI_5', nI_6', vp_in_nI (show i + 1 < L by omega) (by omega), nI_clamp (show i + 1 < 2 ^ 31 by omega), vp_in_nI (show i + 2 < L by omega) (by omega), nI_clamp (show i + 2 < 2 ^ 31 by omega), vp_in_nI (show i + 3 < L by omega) (by omega), nI_clamp (show i + 3 < 2 ^ 31 by omega), vp_in_nI (show i + 4 < L by omega) (by omega), nI_clamp (show i + 4 < 2 ^ 31 by omega), vp_in_nI (show i + 5 < L by omega) (by omega), nI_clamp (show i + 5 < 2 ^ 31 by omega), vp_in_nI (show i + 6 < L by omega) (by omega), nI_clamp (show i + 6 < 2 ^ 31 by omega)]
  refine wp_mono (fun r' g' hp' => ?_) hw
  obtain ⟨rfl, hI⟩ := hp'
  simp only [sL_law_180, sL_law_183, sL_law_184, e_clrI, e_clrR, e_clrU, e_clrN, e_clrL, e_s0, e_s1, e_s2, e_s3, e_s4, e_z0, e_z1, e_f0, e_f1, e_tl, e_tn, e_q0, e_q1, e_zi, e_zj, true_and, and_true, ↓reduceIte, if_true]
  exact hN g' hI
theorem lw_thing {f : Nat → Option va_E} {L : Nat} {xs : Nat → Int32} (hf : hS (0, 0, f)) (hsc : f (aRO + 60) = some (.inl (0, L, .inl xs))) (hL : L ≤ 3584) {i : Nat} (hi : i + 7 ≤ L) {Q : Option Value → aH → Prop} (hN : ∀ h, INV f h → wp 11 mL_law 823 [some (.ref (aRO + 60)), some (.ref 0), some (.ref 35), some (.int (nI i))] [] h Q) {h : aH} (H : INV f h) : wp 11 mL_law 185 [some (.ref (aRO + 60)), some (.ref 0), some (.ref 35), some (.int (nI i))] [] h Q := by
  obtain ⟨h0, hs⟩ := INV_f H
  rw [hsc] at hs
  simp only [sL_law_185, sL_law_186, sL_law_187, sL_law_188, sL_law_189, sL_law_190, sL_law_191, sL_law_192, sL_law_194, sL_law_195, sL_law_196, sL_law_197, sL_law_198, sL_law_199, sL_law_200, sL_law_201, sL_law_204, sL_law_205, sL_law_206, sL_law_207, sL_law_208, sL_law_209, sL_law_210, sL_law_211, e_clrI, e_clrR, e_clrU, e_clrN, e_clrL, e_s0, e_s1, e_s2, e_s3, e_s4, e_z0, e_z1, e_f0, e_f1, e_tl, e_tn, e_q0, e_q1, e_zi, e_zj, true_and, and_true, ↓reduceIte, sc_al hs, h0, nI_1, nI_2', nI_3', nI_4', nI_5', nI_6', vp_in_nI (show i + 1 < L by omega) (by omega), nI_clamp (show i + 1 < 2 ^ 31 by omega), vp_in_nI (show i + 2 < L by omega) (by omega), nI_clamp (show i + 2 < 2 ^ 31 by omega), vp_in_nI (show i + 3 < L by omega) (by omega), nI_clamp (show i + 3 < 2 ^ 31 by omega), vp_in_nI (show i + 4 < L by omega) (by omega), nI_clamp (show i + 4 < 2 ^ 31 by omega), vp_in_nI (show i + 5 < L by omega) (by omega), nI_clamp (show i + 5 < 2 ^ 31 by omega), vp_in_nI (show i + 6 < L by omega) (by omega), nI_clamp (show i + 6 < 2 ^ 31 by omega)]
  refine wp_mono (fun r g hp => ?_) (st_thing hf H)
  obtain ⟨x, rfl, hrc, hg, hw⟩ := hp
  rw [hsc] at hg
  simp only [sL_law_214, sL_law_215, sL_law_216, sL_law_217, sL_law_218, sL_law_219, sL_law_220, sL_law_221, sL_law_223, sL_law_224, sL_law_225, sL_law_226, sL_law_227, sL_law_228, sL_law_229, sL_law_230, sL_law_233, sL_law_234, sL_law_235, sL_law_236, sL_law_237, sL_law_238, sL_law_239, sL_law_240, e_clrI, e_clrR, e_clrU, e_clrN, e_clrL, e_s0, e_s1, e_s2, e_s3, e_s4, e_z0, e_z1, e_f0, e_f1, e_tl, e_tn, e_q0, e_q1, e_zi, e_zj, true_and, and_true, ↓reduceIte, sc_al hg, hrc, nI_1, nI_2', nI_3', nI_4', nI_5', nI_6', vp_in_nI (show i + 1 < L by omega) (by omega), nI_clamp (show i + 1 < 2 ^ 31 by omega), vp_in_nI (show i + 2 < L by omega) (by omega), nI_clamp (show i + 2 < 2 ^ 31 by omega), vp_in_nI (show i + 3 < L by omega) (by omega), nI_clamp (show i + 3 < 2 ^ 31 by omega), vp_in_nI (show i + 4 < L by omega) (by omega), nI_clamp (show i + 4 < 2 ^ 31 by omega), vp_in_nI (show i + 5 < L by omega) (by omega), nI_clamp (show i + 5 < 2 ^ 31 by omega), vp_in_nI (show i + 6 < L by omega) (by omega), nI_clamp (show i + 6 < 2 ^ 31 by omega)]
  refine wp_mono (fun r' g' hp' => ?_) hw
  obtain ⟨rfl, hI⟩ := hp'
  simp only [sL_law_243, sL_law_246, sL_law_247, e_clrI, e_clrR, e_clrU, e_clrN, e_clrL, e_s0, e_s1, e_s2, e_s3, e_s4, e_z0, e_z1, e_f0, e_f1, e_tl, e_tn, e_q0, e_q1, e_zi, e_zj, true_and, and_true, ↓reduceIte, if_true]
  exact hN g' hI
theorem lw_span {f : Nat → Option va_E} {L : Nat} {xs : Nat → Int32} (hf : hS (0, 0, f)) (hsc : f (aRO + 60) = some (.inl (0, L, .inl xs))) (hL : L ≤ 3584) {i : Nat} (hi : i + 7 ≤ L) {Q : Option Value → aH → Prop} (hN : ∀ h, INV f h → wp 11 mL_law 823 [some (.ref (aRO + 60)), some (.ref 0), some (.ref 35), some (.int (nI i))] [] h Q) {h : aH} (H : INV f h) : wp 11 mL_law 248 [some (.ref (aRO + 60)), some (.ref 0), some (.ref 35), some (.int (nI i))] [] h Q := by
  obtain ⟨h0, hs⟩ := INV_f H
  rw [hsc] at hs
  simp only [sL_law_248, sL_law_249, sL_law_250, sL_law_251, sL_law_252, sL_law_253, sL_law_254, sL_law_255, sL_law_256, sL_law_257, sL_law_258, sL_law_259, sL_law_260, sL_law_261, sL_law_262, sL_law_263, sL_law_264, e_clrI, e_clrR, e_clrU, e_clrN, e_clrL, e_s0, e_s1, e_s2, e_s3, e_s4, e_z0, e_z1, e_f0, e_f1, e_tl, e_tn, e_q0, e_q1, e_zi, e_zj, true_and, and_true, ↓reduceIte, sc_al hs, h0, nI_1, nI_2', nI_3', nI_4', nI_5', nI_6', vp_in_nI (show i + 1 < L by omega) (by omega), nI_clamp (show i + 1 < 2 ^ 31 by omega), vp_in_nI (show i + 2 < L by omega) (by omega), nI_clamp (show i + 2 < 2 ^ 31 by omega), vp_in_nI (show i + 3 < L by omega) (by omega), nI_clamp (show i + 3 < 2 ^ 31 by omega), vp_in_nI (show i + 4 < L by omega) (by omega), nI_clamp (show i + 4 < 2 ^ 31 by omega), vp_in_nI (show i + 5 < L by omega) (by omega), nI_clamp (show i + 5 < 2 ^ 31 by omega), vp_in_nI (show i + 6 < L by omega) (by omega), nI_clamp (show i + 6 < 2 ^ 31 by omega)]
  refine wp_mono (fun r g hp => ?_) (st_span hf H)
  obtain ⟨x, rfl, hrc, hg, hw⟩ := hp
  rw [hsc] at hg
  simp only [sL_law_267, sL_law_268, sL_law_269, sL_law_270, sL_law_271, sL_law_272, sL_law_273, sL_law_274, sL_law_275, sL_law_276, sL_law_277, sL_law_278, sL_law_279, sL_law_280, sL_law_281, sL_law_282, sL_law_283, e_clrI, e_clrR, e_clrU, e_clrN, e_clrL, e_s0, e_s1, e_s2, e_s3, e_s4, e_z0, e_z1, e_f0, e_f1, e_tl, e_tn, e_q0, e_q1, e_zi, e_zj, true_and, and_true, ↓reduceIte, sc_al hg, hrc, nI_1, nI_2', nI_3', nI_4', nI_5', nI_6', vp_in_nI (show i + 1 < L by omega) (by omega), nI_clamp (show i + 1 < 2 ^ 31 by omega), vp_in_nI (show i + 2 < L by omega) (by omega), nI_clamp (show i + 2 < 2 ^ 31 by omega), vp_in_nI (show i + 3 < L by omega) (by omega), nI_clamp (show i + 3 < 2 ^ 31 by omega), vp_in_nI (show i + 4 < L by omega) (by omega), nI_clamp (show i + 4 < 2 ^ 31 by omega), vp_in_nI (show i + 5 < L by omega) (by omega), nI_clamp (show i + 5 < 2 ^ 31 by omega), vp_in_nI (show i + 6 < L by omega) (by omega), nI_clamp (show i + 6 < 2 ^ 31 by omega)]
  refine wp_mono (fun r' g' hp' => ?_) hw
  obtain ⟨rfl, hI⟩ := hp'
  simp only [sL_law_286, sL_law_289, sL_law_290, e_clrI, e_clrR, e_clrU, e_clrN, e_clrL, e_s0, e_s1, e_s2, e_s3, e_s4, e_z0, e_z1, e_f0, e_f1, e_tl, e_tn, e_q0, e_q1, e_zi, e_zj, true_and, and_true, ↓reduceIte, if_true]
  exact hN g' hI
theorem lw_ways {f : Nat → Option va_E} {L : Nat} {xs : Nat → Int32} (hf : hS (0, 0, f)) (hsc : f (aRO + 60) = some (.inl (0, L, .inl xs))) (hL : L ≤ 3584) {i : Nat} (hi : i + 7 ≤ L) {Q : Option Value → aH → Prop} (hN : ∀ h, INV f h → wp 11 mL_law 823 [some (.ref (aRO + 60)), some (.ref 0), some (.ref 35), some (.int (nI i))] [] h Q) {h : aH} (H : INV f h) : wp 11 mL_law 291 [some (.ref (aRO + 60)), some (.ref 0), some (.ref 35), some (.int (nI i))] [] h Q := by
  obtain ⟨h0, hs⟩ := INV_f H
  rw [hsc] at hs
  simp only [sL_law_291, sL_law_292, sL_law_293, sL_law_294, sL_law_295, sL_law_296, sL_law_297, e_clrI, e_clrR, e_clrU, e_clrN, e_clrL, e_s0, e_s1, e_s2, e_s3, e_s4, e_z0, e_z1, e_f0, e_f1, e_tl, e_tn, e_q0, e_q1, e_zi, e_zj, true_and, and_true, ↓reduceIte, sc_al hs, h0, nI_1, nI_2', nI_3', nI_4', nI_5', nI_6', vp_in_nI (show i + 1 < L by omega) (by omega), nI_clamp (show i + 1 < 2 ^ 31 by omega), vp_in_nI (show i + 2 < L by omega) (by omega), nI_clamp (show i + 2 < 2 ^ 31 by omega), vp_in_nI (show i + 3 < L by omega) (by omega), nI_clamp (show i + 3 < 2 ^ 31 by omega), vp_in_nI (show i + 4 < L by omega) (by omega), nI_clamp (show i + 4 < 2 ^ 31 by omega), vp_in_nI (show i + 5 < L by omega) (by omega), nI_clamp (show i + 5 < 2 ^ 31 by omega), vp_in_nI (show i + 6 < L by omega) (by omega), nI_clamp (show i + 6 < 2 ^ 31 by omega)]
  refine wp_mono (fun r g hp => ?_) (st_ways hf H)
  obtain ⟨x, rfl, hrc, hg, hw⟩ := hp
  rw [hsc] at hg
  simp only [sL_law_300, sL_law_301, sL_law_302, sL_law_303, sL_law_304, sL_law_305, sL_law_306, e_clrI, e_clrR, e_clrU, e_clrN, e_clrL, e_s0, e_s1, e_s2, e_s3, e_s4, e_z0, e_z1, e_f0, e_f1, e_tl, e_tn, e_q0, e_q1, e_zi, e_zj, true_and, and_true, ↓reduceIte, sc_al hg, hrc, nI_1, nI_2', nI_3', nI_4', nI_5', nI_6', vp_in_nI (show i + 1 < L by omega) (by omega), nI_clamp (show i + 1 < 2 ^ 31 by omega), vp_in_nI (show i + 2 < L by omega) (by omega), nI_clamp (show i + 2 < 2 ^ 31 by omega), vp_in_nI (show i + 3 < L by omega) (by omega), nI_clamp (show i + 3 < 2 ^ 31 by omega), vp_in_nI (show i + 4 < L by omega) (by omega), nI_clamp (show i + 4 < 2 ^ 31 by omega), vp_in_nI (show i + 5 < L by omega) (by omega), nI_clamp (show i + 5 < 2 ^ 31 by omega), vp_in_nI (show i + 6 < L by omega) (by omega), nI_clamp (show i + 6 < 2 ^ 31 by omega)]
  refine wp_mono (fun r' g' hp' => ?_) hw
  obtain ⟨rfl, hI⟩ := hp'
  simp only [sL_law_309, sL_law_312, sL_law_313, e_clrI, e_clrR, e_clrU, e_clrN, e_clrL, e_s0, e_s1, e_s2, e_s3, e_s4, e_z0, e_z1, e_f0, e_f1, e_tl, e_tn, e_q0, e_q1, e_zi, e_zj, true_and, and_true, ↓reduceIte, if_true]
  exact hN g' hI
theorem lw_choose {f : Nat → Option va_E} {L : Nat} {xs : Nat → Int32} (hf : hS (0, 0, f)) (hsc : f (aRO + 60) = some (.inl (0, L, .inl xs))) (hL : L ≤ 3584) {i : Nat} (hi : i + 7 ≤ L) {Q : Option Value → aH → Prop} (hN : ∀ h, INV f h → wp 11 mL_law 823 [some (.ref (aRO + 60)), some (.ref 0), some (.ref 35), some (.int (nI i))] [] h Q) {h : aH} (H : INV f h) : wp 11 mL_law 314 [some (.ref (aRO + 60)), some (.ref 0), some (.ref 35), some (.int (nI i))] [] h Q := by
  obtain ⟨h0, hs⟩ := INV_f H
  rw [hsc] at hs
  simp only [sL_law_314, sL_law_315, sL_law_316, sL_law_317, sL_law_318, sL_law_319, sL_law_320, sL_law_321, sL_law_322, sL_law_323, sL_law_324, sL_law_325, sL_law_326, sL_law_327, sL_law_328, sL_law_329, sL_law_330, sL_law_331, sL_law_332, sL_law_333, sL_law_334, sL_law_335, sL_law_336, sL_law_337, sL_law_338, sL_law_339, sL_law_340, sL_law_341, sL_law_342, sL_law_344, sL_law_345, sL_law_346, e_clrI, e_clrR, e_clrU, e_clrN, e_clrL, e_s0, e_s1, e_s2, e_s3, e_s4, e_z0, e_z1, e_f0, e_f1, e_tl, e_tn, e_q0, e_q1, e_zi, e_zj, true_and, and_true, ↓reduceIte, sc_al hs, h0, nI_1, nI_2', nI_3', nI_4', nI_5', nI_6', vp_in_nI (show i + 1 < L by omega) (by omega), nI_clamp (show i + 1 < 2 ^ 31 by omega), vp_in_nI (show i + 2 < L by omega) (by omega), nI_clamp (show i + 2 < 2 ^ 31 by omega), vp_in_nI (show i + 3 < L by omega) (by omega), nI_clamp (show i + 3 < 2 ^ 31 by omega), vp_in_nI (show i + 4 < L by omega) (by omega), nI_clamp (show i + 4 < 2 ^ 31 by omega), vp_in_nI (show i + 5 < L by omega) (by omega), nI_clamp (show i + 5 < 2 ^ 31 by omega), vp_in_nI (show i + 6 < L by omega) (by omega), nI_clamp (show i + 6 < 2 ^ 31 by omega)]
  refine wp_mono (fun r g hp => ?_) (st_choose hf H)
  obtain ⟨x, rfl, hrc, hg, hw⟩ := hp
  rw [hsc] at hg
  simp only [sL_law_349, sL_law_350, sL_law_351, sL_law_352, sL_law_353, sL_law_354, sL_law_355, sL_law_356, sL_law_357, sL_law_358, sL_law_359, sL_law_360, sL_law_361, sL_law_362, sL_law_363, sL_law_364, sL_law_365, sL_law_366, sL_law_367, sL_law_368, sL_law_369, sL_law_370, sL_law_371, sL_law_372, sL_law_373, sL_law_374, sL_law_375, sL_law_376, sL_law_377, sL_law_379, sL_law_380, sL_law_381, e_clrI, e_clrR, e_clrU, e_clrN, e_clrL, e_s0, e_s1, e_s2, e_s3, e_s4, e_z0, e_z1, e_f0, e_f1, e_tl, e_tn, e_q0, e_q1, e_zi, e_zj, true_and, and_true, ↓reduceIte, sc_al hg, hrc, nI_1, nI_2', nI_3', nI_4', nI_5', nI_6', vp_in_nI (show i + 1 < L by omega) (by omega), nI_clamp (show i + 1 < 2 ^ 31 by omega), vp_in_nI (show i + 2 < L by omega) (by omega), nI_clamp (show i + 2 < 2 ^ 31 by omega), vp_in_nI (show i + 3 < L by omega) (by omega), nI_clamp (show i + 3 < 2 ^ 31 by omega), vp_in_nI (show i + 4 < L by omega) (by omega), nI_clamp (show i + 4 < 2 ^ 31 by omega), vp_in_nI (show i + 5 < L by omega) (by omega), nI_clamp (show i + 5 < 2 ^ 31 by omega), vp_in_nI (show i + 6 < L by omega) (by omega), nI_clamp (show i + 6 < 2 ^ 31 by omega)]
  refine wp_mono (fun r' g' hp' => ?_) hw
  obtain ⟨rfl, hI⟩ := hp'
  simp only [sL_law_384, sL_law_387, sL_law_388, e_clrI, e_clrR, e_clrU, e_clrN, e_clrL, e_s0, e_s1, e_s2, e_s3, e_s4, e_z0, e_z1, e_f0, e_f1, e_tl, e_tn, e_q0, e_q1, e_zi, e_zj, true_and, and_true, ↓reduceIte, if_true]
  exact hN g' hI
theorem lw_sets {f : Nat → Option va_E} {L : Nat} {xs : Nat → Int32} (hf : hS (0, 0, f)) (hsc : f (aRO + 60) = some (.inl (0, L, .inl xs))) (hL : L ≤ 3584) {i : Nat} (hi : i + 7 ≤ L) {Q : Option Value → aH → Prop} (hN : ∀ h, INV f h → wp 11 mL_law 823 [some (.ref (aRO + 60)), some (.ref 0), some (.ref 35), some (.int (nI i))] [] h Q) {h : aH} (H : INV f h) : wp 11 mL_law 389 [some (.ref (aRO + 60)), some (.ref 0), some (.ref 35), some (.int (nI i))] [] h Q := by
  obtain ⟨h0, hs⟩ := INV_f H
  rw [hsc] at hs
  simp only [sL_law_389, sL_law_390, e_clrI, e_clrR, e_clrU, e_clrN, e_clrL, e_s0, e_s1, e_s2, e_s3, e_s4, e_z0, e_z1, e_f0, e_f1, e_tl, e_tn, e_q0, e_q1, e_zi, e_zj, true_and, and_true, ↓reduceIte, sc_al hs, h0, nI_1, nI_2', nI_3', nI_4', nI_5', nI_6', vp_in_nI (show i + 1 < L by omega) (by omega), nI_clamp (show i + 1 < 2 ^ 31 by omega), vp_in_nI (show i + 2 < L by omega) (by omega), nI_clamp (show i + 2 < 2 ^ 31 by omega), vp_in_nI (show i + 3 < L by omega) (by omega), nI_clamp (show i + 3 < 2 ^ 31 by omega), vp_in_nI (show i + 4 < L by omega) (by omega), nI_clamp (show i + 4 < 2 ^ 31 by omega), vp_in_nI (show i + 5 < L by omega) (by omega), nI_clamp (show i + 5 < 2 ^ 31 by omega), vp_in_nI (show i + 6 < L by omega) (by omega), nI_clamp (show i + 6 < 2 ^ 31 by omega)]
  refine wp_mono (fun r g hp => ?_) (st_sets hf H)
  obtain ⟨x, rfl, hrc, hg, hw⟩ := hp
  rw [hsc] at hg
  simp only [sL_law_393, sL_law_394, e_clrI, e_clrR, e_clrU, e_clrN, e_clrL, e_s0, e_s1, e_s2, e_s3, e_s4, e_z0, e_z1, e_f0, e_f1, e_tl, e_tn, e_q0, e_q1, e_zi, e_zj, true_and, and_true, ↓reduceIte, sc_al hg, hrc, nI_1, nI_2', nI_3', nI_4', nI_5', nI_6', vp_in_nI (show i + 1 < L by omega) (by omega), nI_clamp (show i + 1 < 2 ^ 31 by omega), vp_in_nI (show i + 2 < L by omega) (by omega), nI_clamp (show i + 2 < 2 ^ 31 by omega), vp_in_nI (show i + 3 < L by omega) (by omega), nI_clamp (show i + 3 < 2 ^ 31 by omega), vp_in_nI (show i + 4 < L by omega) (by omega), nI_clamp (show i + 4 < 2 ^ 31 by omega), vp_in_nI (show i + 5 < L by omega) (by omega), nI_clamp (show i + 5 < 2 ^ 31 by omega), vp_in_nI (show i + 6 < L by omega) (by omega), nI_clamp (show i + 6 < 2 ^ 31 by omega)]
  refine wp_mono (fun r' g' hp' => ?_) hw
  obtain ⟨rfl, hI⟩ := hp'
  simp only [sL_law_397, sL_law_400, sL_law_401, e_clrI, e_clrR, e_clrU, e_clrN, e_clrL, e_s0, e_s1, e_s2, e_s3, e_s4, e_z0, e_z1, e_f0, e_f1, e_tl, e_tn, e_q0, e_q1, e_zi, e_zj, true_and, and_true, ↓reduceIte, if_true]
  exact hN g' hI
theorem lw_set {f : Nat → Option va_E} {L : Nat} {xs : Nat → Int32} (hf : hS (0, 0, f)) (hsc : f (aRO + 60) = some (.inl (0, L, .inl xs))) (hL : L ≤ 3584) {i : Nat} (hi : i + 7 ≤ L) {Q : Option Value → aH → Prop} (hN : ∀ h, INV f h → wp 11 mL_law 823 [some (.ref (aRO + 60)), some (.ref 0), some (.ref 35), some (.int (nI i))] [] h Q) {h : aH} (H : INV f h) : wp 11 mL_law 402 [some (.ref (aRO + 60)), some (.ref 0), some (.ref 35), some (.int (nI i))] [] h Q := by
  obtain ⟨h0, hs⟩ := INV_f H
  rw [hsc] at hs
  simp only [sL_law_402, sL_law_403, sL_law_404, sL_law_405, sL_law_406, sL_law_407, sL_law_408, sL_law_409, sL_law_410, sL_law_411, sL_law_412, sL_law_413, e_clrI, e_clrR, e_clrU, e_clrN, e_clrL, e_s0, e_s1, e_s2, e_s3, e_s4, e_z0, e_z1, e_f0, e_f1, e_tl, e_tn, e_q0, e_q1, e_zi, e_zj, true_and, and_true, ↓reduceIte, sc_al hs, h0, nI_1, nI_2', nI_3', nI_4', nI_5', nI_6', vp_in_nI (show i + 1 < L by omega) (by omega), nI_clamp (show i + 1 < 2 ^ 31 by omega), vp_in_nI (show i + 2 < L by omega) (by omega), nI_clamp (show i + 2 < 2 ^ 31 by omega), vp_in_nI (show i + 3 < L by omega) (by omega), nI_clamp (show i + 3 < 2 ^ 31 by omega), vp_in_nI (show i + 4 < L by omega) (by omega), nI_clamp (show i + 4 < 2 ^ 31 by omega), vp_in_nI (show i + 5 < L by omega) (by omega), nI_clamp (show i + 5 < 2 ^ 31 by omega), vp_in_nI (show i + 6 < L by omega) (by omega), nI_clamp (show i + 6 < 2 ^ 31 by omega)]
  refine wp_mono (fun r g hp => ?_) (st_set hf H)
  obtain ⟨x, rfl, hrc, hg, hw⟩ := hp
  rw [hsc] at hg
  simp only [sL_law_416, sL_law_417, sL_law_418, sL_law_419, sL_law_420, sL_law_421, sL_law_422, sL_law_423, sL_law_424, sL_law_425, sL_law_426, sL_law_427, e_clrI, e_clrR, e_clrU, e_clrN, e_clrL, e_s0, e_s1, e_s2, e_s3, e_s4, e_z0, e_z1, e_f0, e_f1, e_tl, e_tn, e_q0, e_q1, e_zi, e_zj, true_and, and_true, ↓reduceIte, sc_al hg, hrc, nI_1, nI_2', nI_3', nI_4', nI_5', nI_6', vp_in_nI (show i + 1 < L by omega) (by omega), nI_clamp (show i + 1 < 2 ^ 31 by omega), vp_in_nI (show i + 2 < L by omega) (by omega), nI_clamp (show i + 2 < 2 ^ 31 by omega), vp_in_nI (show i + 3 < L by omega) (by omega), nI_clamp (show i + 3 < 2 ^ 31 by omega), vp_in_nI (show i + 4 < L by omega) (by omega), nI_clamp (show i + 4 < 2 ^ 31 by omega), vp_in_nI (show i + 5 < L by omega) (by omega), nI_clamp (show i + 5 < 2 ^ 31 by omega), vp_in_nI (show i + 6 < L by omega) (by omega), nI_clamp (show i + 6 < 2 ^ 31 by omega)]
  refine wp_mono (fun r' g' hp' => ?_) hw
  obtain ⟨rfl, hI⟩ := hp'
  simp only [sL_law_430, sL_law_433, sL_law_434, e_clrI, e_clrR, e_clrU, e_clrN, e_clrL, e_s0, e_s1, e_s2, e_s3, e_s4, e_z0, e_z1, e_f0, e_f1, e_tl, e_tn, e_q0, e_q1, e_zi, e_zj, true_and, and_true, ↓reduceIte, if_true]
  exact hN g' hI
theorem lw_tells {f : Nat → Option va_E} {L : Nat} {xs : Nat → Int32} (hf : hS (0, 0, f)) (hsc : f (aRO + 60) = some (.inl (0, L, .inl xs))) (hL : L ≤ 3584) {i : Nat} (hi : i + 7 ≤ L) {Q : Option Value → aH → Prop} (hN : ∀ h, INV f h → wp 11 mL_law 823 [some (.ref (aRO + 60)), some (.ref 0), some (.ref 35), some (.int (nI i))] [] h Q) {h : aH} (H : INV f h) : wp 11 mL_law 435 [some (.ref (aRO + 60)), some (.ref 0), some (.ref 35), some (.int (nI i))] [] h Q := by
  obtain ⟨h0, hs⟩ := INV_f H
  rw [hsc] at hs
  simp only [sL_law_435, sL_law_436, sL_law_437, sL_law_438, sL_law_439, sL_law_440, sL_law_441, sL_law_442, sL_law_443, sL_law_444, sL_law_445, sL_law_446, e_clrI, e_clrR, e_clrU, e_clrN, e_clrL, e_s0, e_s1, e_s2, e_s3, e_s4, e_z0, e_z1, e_f0, e_f1, e_tl, e_tn, e_q0, e_q1, e_zi, e_zj, true_and, and_true, ↓reduceIte, sc_al hs, h0, nI_1, nI_2', nI_3', nI_4', nI_5', nI_6', vp_in_nI (show i + 1 < L by omega) (by omega), nI_clamp (show i + 1 < 2 ^ 31 by omega), vp_in_nI (show i + 2 < L by omega) (by omega), nI_clamp (show i + 2 < 2 ^ 31 by omega), vp_in_nI (show i + 3 < L by omega) (by omega), nI_clamp (show i + 3 < 2 ^ 31 by omega), vp_in_nI (show i + 4 < L by omega) (by omega), nI_clamp (show i + 4 < 2 ^ 31 by omega), vp_in_nI (show i + 5 < L by omega) (by omega), nI_clamp (show i + 5 < 2 ^ 31 by omega), vp_in_nI (show i + 6 < L by omega) (by omega), nI_clamp (show i + 6 < 2 ^ 31 by omega)]
  refine wp_mono (fun r g hp => ?_) (st_tells hf H)
  obtain ⟨x, rfl, hrc, hg, hw⟩ := hp
  rw [hsc] at hg
  simp only [sL_law_449, sL_law_450, sL_law_451, sL_law_452, sL_law_453, sL_law_454, sL_law_455, sL_law_456, sL_law_457, sL_law_458, sL_law_459, sL_law_460, e_clrI, e_clrR, e_clrU, e_clrN, e_clrL, e_s0, e_s1, e_s2, e_s3, e_s4, e_z0, e_z1, e_f0, e_f1, e_tl, e_tn, e_q0, e_q1, e_zi, e_zj, true_and, and_true, ↓reduceIte, sc_al hg, hrc, nI_1, nI_2', nI_3', nI_4', nI_5', nI_6', vp_in_nI (show i + 1 < L by omega) (by omega), nI_clamp (show i + 1 < 2 ^ 31 by omega), vp_in_nI (show i + 2 < L by omega) (by omega), nI_clamp (show i + 2 < 2 ^ 31 by omega), vp_in_nI (show i + 3 < L by omega) (by omega), nI_clamp (show i + 3 < 2 ^ 31 by omega), vp_in_nI (show i + 4 < L by omega) (by omega), nI_clamp (show i + 4 < 2 ^ 31 by omega), vp_in_nI (show i + 5 < L by omega) (by omega), nI_clamp (show i + 5 < 2 ^ 31 by omega), vp_in_nI (show i + 6 < L by omega) (by omega), nI_clamp (show i + 6 < 2 ^ 31 by omega)]
  refine wp_mono (fun r' g' hp' => ?_) hw
  obtain ⟨rfl, hI⟩ := hp'
  simp only [sL_law_463, sL_law_466, sL_law_467, e_clrI, e_clrR, e_clrU, e_clrN, e_clrL, e_s0, e_s1, e_s2, e_s3, e_s4, e_z0, e_z1, e_f0, e_f1, e_tl, e_tn, e_q0, e_q1, e_zi, e_zj, true_and, and_true, ↓reduceIte, if_true]
  exact hN g' hI
theorem lw_sheet {f : Nat → Option va_E} {L : Nat} {xs : Nat → Int32} (hf : hS (0, 0, f)) (hsc : f (aRO + 60) = some (.inl (0, L, .inl xs))) (hL : L ≤ 3584) {i : Nat} (hi : i + 7 ≤ L) {Q : Option Value → aH → Prop} (hN : ∀ h, INV f h → wp 11 mL_law 823 [some (.ref (aRO + 60)), some (.ref 0), some (.ref 35), some (.int (nI i))] [] h Q) {h : aH} (H : INV f h) : wp 11 mL_law 468 [some (.ref (aRO + 60)), some (.ref 0), some (.ref 35), some (.int (nI i))] [] h Q := by
  obtain ⟨h0, hs⟩ := INV_f H
  rw [hsc] at hs
  simp only [sL_law_468, sL_law_469, sL_law_470, sL_law_471, sL_law_472, sL_law_473, sL_law_474, e_clrI, e_clrR, e_clrU, e_clrN, e_clrL, e_s0, e_s1, e_s2, e_s3, e_s4, e_z0, e_z1, e_f0, e_f1, e_tl, e_tn, e_q0, e_q1, e_zi, e_zj, true_and, and_true, ↓reduceIte, sc_al hs, h0, nI_1, nI_2', nI_3', nI_4', nI_5', nI_6', vp_in_nI (show i + 1 < L by omega) (by omega), nI_clamp (show i + 1 < 2 ^ 31 by omega), vp_in_nI (show i + 2 < L by omega) (by omega), nI_clamp (show i + 2 < 2 ^ 31 by omega), vp_in_nI (show i + 3 < L by omega) (by omega), nI_clamp (show i + 3 < 2 ^ 31 by omega), vp_in_nI (show i + 4 < L by omega) (by omega), nI_clamp (show i + 4 < 2 ^ 31 by omega), vp_in_nI (show i + 5 < L by omega) (by omega), nI_clamp (show i + 5 < 2 ^ 31 by omega), vp_in_nI (show i + 6 < L by omega) (by omega), nI_clamp (show i + 6 < 2 ^ 31 by omega)]
  refine wp_mono (fun r g hp => ?_) (st_sheet hf H)
  obtain ⟨x, rfl, hrc, hg, hw⟩ := hp
  rw [hsc] at hg
  simp only [sL_law_477, sL_law_478, sL_law_479, sL_law_480, sL_law_481, sL_law_482, sL_law_483, e_clrI, e_clrR, e_clrU, e_clrN, e_clrL, e_s0, e_s1, e_s2, e_s3, e_s4, e_z0, e_z1, e_f0, e_f1, e_tl, e_tn, e_q0, e_q1, e_zi, e_zj, true_and, and_true, ↓reduceIte, sc_al hg, hrc, nI_1, nI_2', nI_3', nI_4', nI_5', nI_6', vp_in_nI (show i + 1 < L by omega) (by omega), nI_clamp (show i + 1 < 2 ^ 31 by omega), vp_in_nI (show i + 2 < L by omega) (by omega), nI_clamp (show i + 2 < 2 ^ 31 by omega), vp_in_nI (show i + 3 < L by omega) (by omega), nI_clamp (show i + 3 < 2 ^ 31 by omega), vp_in_nI (show i + 4 < L by omega) (by omega), nI_clamp (show i + 4 < 2 ^ 31 by omega), vp_in_nI (show i + 5 < L by omega) (by omega), nI_clamp (show i + 5 < 2 ^ 31 by omega), vp_in_nI (show i + 6 < L by omega) (by omega), nI_clamp (show i + 6 < 2 ^ 31 by omega)]
  refine wp_mono (fun r' g' hp' => ?_) hw
  obtain ⟨rfl, hI⟩ := hp'
  simp only [sL_law_486, sL_law_489, sL_law_490, e_clrI, e_clrR, e_clrU, e_clrN, e_clrL, e_s0, e_s1, e_s2, e_s3, e_s4, e_z0, e_z1, e_f0, e_f1, e_tl, e_tn, e_q0, e_q1, e_zi, e_zj, true_and, and_true, ↓reduceIte, if_true]
  exact hN g' hI
theorem lw_on {f : Nat → Option va_E} {L : Nat} {xs : Nat → Int32} (hf : hS (0, 0, f)) (hsc : f (aRO + 60) = some (.inl (0, L, .inl xs))) (hL : L ≤ 3584) {i : Nat} (hi : i + 7 ≤ L) {Q : Option Value → aH → Prop} (hN : ∀ h, INV f h → wp 11 mL_law 823 [some (.ref (aRO + 60)), some (.ref 0), some (.ref 35), some (.int (nI i))] [] h Q) {h : aH} (H : INV f h) : wp 11 mL_law 491 [some (.ref (aRO + 60)), some (.ref 0), some (.ref 35), some (.int (nI i))] [] h Q := by
  obtain ⟨h0, hs⟩ := INV_f H
  rw [hsc] at hs
  simp only [sL_law_491, sL_law_492, sL_law_493, sL_law_494, sL_law_495, sL_law_496, sL_law_497, e_clrI, e_clrR, e_clrU, e_clrN, e_clrL, e_s0, e_s1, e_s2, e_s3, e_s4, e_z0, e_z1, e_f0, e_f1, e_tl, e_tn, e_q0, e_q1, e_zi, e_zj, true_and, and_true, ↓reduceIte, sc_al hs, h0, nI_1, nI_2', nI_3', nI_4', nI_5', nI_6', vp_in_nI (show i + 1 < L by omega) (by omega), nI_clamp (show i + 1 < 2 ^ 31 by omega), vp_in_nI (show i + 2 < L by omega) (by omega), nI_clamp (show i + 2 < 2 ^ 31 by omega), vp_in_nI (show i + 3 < L by omega) (by omega), nI_clamp (show i + 3 < 2 ^ 31 by omega), vp_in_nI (show i + 4 < L by omega) (by omega), nI_clamp (show i + 4 < 2 ^ 31 by omega), vp_in_nI (show i + 5 < L by omega) (by omega), nI_clamp (show i + 5 < 2 ^ 31 by omega), vp_in_nI (show i + 6 < L by omega) (by omega), nI_clamp (show i + 6 < 2 ^ 31 by omega)]
  refine wp_mono (fun r g hp => ?_) (st_on hf H)
  obtain ⟨x, rfl, hrc, hg, hw⟩ := hp
  rw [hsc] at hg
  simp only [sL_law_500, sL_law_501, sL_law_502, sL_law_503, sL_law_504, sL_law_505, sL_law_506, e_clrI, e_clrR, e_clrU, e_clrN, e_clrL, e_s0, e_s1, e_s2, e_s3, e_s4, e_z0, e_z1, e_f0, e_f1, e_tl, e_tn, e_q0, e_q1, e_zi, e_zj, true_and, and_true, ↓reduceIte, sc_al hg, hrc, nI_1, nI_2', nI_3', nI_4', nI_5', nI_6', vp_in_nI (show i + 1 < L by omega) (by omega), nI_clamp (show i + 1 < 2 ^ 31 by omega), vp_in_nI (show i + 2 < L by omega) (by omega), nI_clamp (show i + 2 < 2 ^ 31 by omega), vp_in_nI (show i + 3 < L by omega) (by omega), nI_clamp (show i + 3 < 2 ^ 31 by omega), vp_in_nI (show i + 4 < L by omega) (by omega), nI_clamp (show i + 4 < 2 ^ 31 by omega), vp_in_nI (show i + 5 < L by omega) (by omega), nI_clamp (show i + 5 < 2 ^ 31 by omega), vp_in_nI (show i + 6 < L by omega) (by omega), nI_clamp (show i + 6 < 2 ^ 31 by omega)]
  refine wp_mono (fun r' g' hp' => ?_) hw
  obtain ⟨rfl, hI⟩ := hp'
  simp only [sL_law_509, sL_law_512, sL_law_513, e_clrI, e_clrR, e_clrU, e_clrN, e_clrL, e_s0, e_s1, e_s2, e_s3, e_s4, e_z0, e_z1, e_f0, e_f1, e_tl, e_tn, e_q0, e_q1, e_zi, e_zj, true_and, and_true, ↓reduceIte, if_true]
  exact hN g' hI
theorem lw_write {f : Nat → Option va_E} {L : Nat} {xs : Nat → Int32} (hf : hS (0, 0, f)) (hsc : f (aRO + 60) = some (.inl (0, L, .inl xs))) (hL : L ≤ 3584) {i : Nat} (hi : i + 7 ≤ L) {Q : Option Value → aH → Prop} (hN : ∀ h, INV f h → wp 11 mL_law 823 [some (.ref (aRO + 60)), some (.ref 0), some (.ref 35), some (.int (nI i))] [] h Q) {h : aH} (H : INV f h) : wp 11 mL_law 514 [some (.ref (aRO + 60)), some (.ref 0), some (.ref 35), some (.int (nI i))] [] h Q := by
  obtain ⟨h0, hs⟩ := INV_f H
  rw [hsc] at hs
  by_cases hx : xs (i + 2) = 0
  · simp only [sL_law_514, sL_law_515, sL_law_516, sL_law_517, sL_law_518, sL_law_519, sL_law_520, sL_law_521, sL_law_522, sL_law_523, sL_law_524, sL_law_525, sL_law_528, sL_law_529, sL_law_532, sL_law_533, sL_law_534, sL_law_535, sL_law_536, sL_law_537, sL_law_538, e_clrI, e_clrR, e_clrU, e_clrN, e_clrL, e_s0, e_s1, e_s2, e_s3, e_s4, e_z0, e_z1, e_f0, e_f1, e_tl, e_tn, e_q0, e_q1, e_zi, e_zj, true_and, and_true, ↓reduceIte, sc_al hs, h0, nI_1, nI_2', nI_3', nI_4', nI_5', nI_6', vp_in_nI (show i + 1 < L by omega) (by omega), nI_clamp (show i + 1 < 2 ^ 31 by omega), vp_in_nI (show i + 2 < L by omega) (by omega), nI_clamp (show i + 2 < 2 ^ 31 by omega), vp_in_nI (show i + 3 < L by omega) (by omega), nI_clamp (show i + 3 < 2 ^ 31 by omega), vp_in_nI (show i + 4 < L by omega) (by omega), nI_clamp (show i + 4 < 2 ^ 31 by omega), vp_in_nI (show i + 5 < L by omega) (by omega), nI_clamp (show i + 5 < 2 ^ 31 by omega), vp_in_nI (show i + 6 < L by omega) (by omega), nI_clamp (show i + 6 < 2 ^ 31 by omega), iff_true_intro hx, if_true]
    refine wp_mono (fun r g hp => ?_) (st_write (tu := false) hf H)
    obtain ⟨x, rfl, hrc, hg, hw⟩ := hp
    rw [hsc] at hg
    simp only [sL_law_541, sL_law_542, sL_law_543, sL_law_544, sL_law_545, sL_law_546, sL_law_547, sL_law_548, sL_law_549, sL_law_550, sL_law_551, sL_law_552, sL_law_555, sL_law_556, sL_law_559, sL_law_560, sL_law_561, sL_law_562, sL_law_563, sL_law_564, sL_law_565, e_clrI, e_clrR, e_clrU, e_clrN, e_clrL, e_s0, e_s1, e_s2, e_s3, e_s4, e_z0, e_z1, e_f0, e_f1, e_tl, e_tn, e_q0, e_q1, e_zi, e_zj, true_and, and_true, ↓reduceIte, sc_al hg, hrc, nI_1, nI_2', nI_3', nI_4', nI_5', nI_6', vp_in_nI (show i + 1 < L by omega) (by omega), nI_clamp (show i + 1 < 2 ^ 31 by omega), vp_in_nI (show i + 2 < L by omega) (by omega), nI_clamp (show i + 2 < 2 ^ 31 by omega), vp_in_nI (show i + 3 < L by omega) (by omega), nI_clamp (show i + 3 < 2 ^ 31 by omega), vp_in_nI (show i + 4 < L by omega) (by omega), nI_clamp (show i + 4 < 2 ^ 31 by omega), vp_in_nI (show i + 5 < L by omega) (by omega), nI_clamp (show i + 5 < 2 ^ 31 by omega), vp_in_nI (show i + 6 < L by omega) (by omega), nI_clamp (show i + 6 < 2 ^ 31 by omega), iff_true_intro hx, if_true]
    refine wp_mono (fun r' g' hp' => ?_) hw
    obtain ⟨rfl, hI⟩ := hp'
    simp only [sL_law_568, sL_law_571, sL_law_572, e_clrI, e_clrR, e_clrU, e_clrN, e_clrL, e_s0, e_s1, e_s2, e_s3, e_s4, e_z0, e_z1, e_f0, e_f1, e_tl, e_tn, e_q0, e_q1, e_zi, e_zj, true_and, and_true, ↓reduceIte, if_true]
    exact hN g' hI
  · simp only [sL_law_514, sL_law_515, sL_law_516, sL_law_517, sL_law_518, sL_law_519, sL_law_520, sL_law_521, sL_law_522, sL_law_523, sL_law_524, sL_law_525, sL_law_528, sL_law_529, sL_law_532, sL_law_533, sL_law_534, sL_law_535, sL_law_536, sL_law_537, sL_law_538, e_clrI, e_clrR, e_clrU, e_clrN, e_clrL, e_s0, e_s1, e_s2, e_s3, e_s4, e_z0, e_z1, e_f0, e_f1, e_tl, e_tn, e_q0, e_q1, e_zi, e_zj, true_and, and_true, ↓reduceIte, sc_al hs, h0, nI_1, nI_2', nI_3', nI_4', nI_5', nI_6', vp_in_nI (show i + 1 < L by omega) (by omega), nI_clamp (show i + 1 < 2 ^ 31 by omega), vp_in_nI (show i + 2 < L by omega) (by omega), nI_clamp (show i + 2 < 2 ^ 31 by omega), vp_in_nI (show i + 3 < L by omega) (by omega), nI_clamp (show i + 3 < 2 ^ 31 by omega), vp_in_nI (show i + 4 < L by omega) (by omega), nI_clamp (show i + 4 < 2 ^ 31 by omega), vp_in_nI (show i + 5 < L by omega) (by omega), nI_clamp (show i + 5 < 2 ^ 31 by omega), vp_in_nI (show i + 6 < L by omega) (by omega), nI_clamp (show i + 6 < 2 ^ 31 by omega), hx, if_false]
    refine wp_mono (fun r g hp => ?_) (st_write (tu := true) hf H)
    obtain ⟨x, rfl, hrc, hg, hw⟩ := hp
    rw [hsc] at hg
    simp only [sL_law_541, sL_law_542, sL_law_543, sL_law_544, sL_law_545, sL_law_546, sL_law_547, sL_law_548, sL_law_549, sL_law_550, sL_law_551, sL_law_552, sL_law_555, sL_law_556, sL_law_559, sL_law_560, sL_law_561, sL_law_562, sL_law_563, sL_law_564, sL_law_565, e_clrI, e_clrR, e_clrU, e_clrN, e_clrL, e_s0, e_s1, e_s2, e_s3, e_s4, e_z0, e_z1, e_f0, e_f1, e_tl, e_tn, e_q0, e_q1, e_zi, e_zj, true_and, and_true, ↓reduceIte, sc_al hg, hrc, nI_1, nI_2', nI_3', nI_4', nI_5', nI_6', vp_in_nI (show i + 1 < L by omega) (by omega), nI_clamp (show i + 1 < 2 ^ 31 by omega), vp_in_nI (show i + 2 < L by omega) (by omega), nI_clamp (show i + 2 < 2 ^ 31 by omega), vp_in_nI (show i + 3 < L by omega) (by omega), nI_clamp (show i + 3 < 2 ^ 31 by omega), vp_in_nI (show i + 4 < L by omega) (by omega), nI_clamp (show i + 4 < 2 ^ 31 by omega), vp_in_nI (show i + 5 < L by omega) (by omega), nI_clamp (show i + 5 < 2 ^ 31 by omega), vp_in_nI (show i + 6 < L by omega) (by omega), nI_clamp (show i + 6 < 2 ^ 31 by omega), hx, if_false]
    refine wp_mono (fun r' g' hp' => ?_) hw
    obtain ⟨rfl, hI⟩ := hp'
    simp only [sL_law_568, sL_law_571, sL_law_572, e_clrI, e_clrR, e_clrU, e_clrN, e_clrL, e_s0, e_s1, e_s2, e_s3, e_s4, e_z0, e_z1, e_f0, e_f1, e_tl, e_tn, e_q0, e_q1, e_zi, e_zj, true_and, and_true, ↓reduceIte, if_true]
    exact hN g' hI
theorem lw_written {f : Nat → Option va_E} {L : Nat} {xs : Nat → Int32} (hf : hS (0, 0, f)) (hsc : f (aRO + 60) = some (.inl (0, L, .inl xs))) (hL : L ≤ 3584) {i : Nat} (hi : i + 7 ≤ L) {Q : Option Value → aH → Prop} (hN : ∀ h, INV f h → wp 11 mL_law 823 [some (.ref (aRO + 60)), some (.ref 0), some (.ref 35), some (.int (nI i))] [] h Q) {h : aH} (H : INV f h) : wp 11 mL_law 573 [some (.ref (aRO + 60)), some (.ref 0), some (.ref 35), some (.int (nI i))] [] h Q := by
  obtain ⟨h0, hs⟩ := INV_f H
  rw [hsc] at hs
  simp only [sL_law_573, sL_law_574, sL_law_575, sL_law_576, sL_law_577, sL_law_578, sL_law_579, e_clrI, e_clrR, e_clrU, e_clrN, e_clrL, e_s0, e_s1, e_s2, e_s3, e_s4, e_z0, e_z1, e_f0, e_f1, e_tl, e_tn, e_q0, e_q1, e_zi, e_zj, true_and, and_true, ↓reduceIte, sc_al hs, h0, nI_1, nI_2', nI_3', nI_4', nI_5', nI_6', vp_in_nI (show i + 1 < L by omega) (by omega), nI_clamp (show i + 1 < 2 ^ 31 by omega), vp_in_nI (show i + 2 < L by omega) (by omega), nI_clamp (show i + 2 < 2 ^ 31 by omega), vp_in_nI (show i + 3 < L by omega) (by omega), nI_clamp (show i + 3 < 2 ^ 31 by omega), vp_in_nI (show i + 4 < L by omega) (by omega), nI_clamp (show i + 4 < 2 ^ 31 by omega), vp_in_nI (show i + 5 < L by omega) (by omega), nI_clamp (show i + 5 < 2 ^ 31 by omega), vp_in_nI (show i + 6 < L by omega) (by omega), nI_clamp (show i + 6 < 2 ^ 31 by omega)]
  refine wp_mono (fun r g hp => ?_) (st_written hf H)
  obtain ⟨x, rfl, hrc, hg, hw⟩ := hp
  rw [hsc] at hg
  simp only [sL_law_582, sL_law_583, sL_law_584, sL_law_585, sL_law_586, sL_law_587, sL_law_588, e_clrI, e_clrR, e_clrU, e_clrN, e_clrL, e_s0, e_s1, e_s2, e_s3, e_s4, e_z0, e_z1, e_f0, e_f1, e_tl, e_tn, e_q0, e_q1, e_zi, e_zj, true_and, and_true, ↓reduceIte, sc_al hg, hrc, nI_1, nI_2', nI_3', nI_4', nI_5', nI_6', vp_in_nI (show i + 1 < L by omega) (by omega), nI_clamp (show i + 1 < 2 ^ 31 by omega), vp_in_nI (show i + 2 < L by omega) (by omega), nI_clamp (show i + 2 < 2 ^ 31 by omega), vp_in_nI (show i + 3 < L by omega) (by omega), nI_clamp (show i + 3 < 2 ^ 31 by omega), vp_in_nI (show i + 4 < L by omega) (by omega), nI_clamp (show i + 4 < 2 ^ 31 by omega), vp_in_nI (show i + 5 < L by omega) (by omega), nI_clamp (show i + 5 < 2 ^ 31 by omega), vp_in_nI (show i + 6 < L by omega) (by omega), nI_clamp (show i + 6 < 2 ^ 31 by omega)]
  refine wp_mono (fun r' g' hp' => ?_) hw
  obtain ⟨rfl, hI⟩ := hp'
  simp only [sL_law_591, sL_law_594, sL_law_595, e_clrI, e_clrR, e_clrU, e_clrN, e_clrL, e_s0, e_s1, e_s2, e_s3, e_s4, e_z0, e_z1, e_f0, e_f1, e_tl, e_tn, e_q0, e_q1, e_zi, e_zj, true_and, and_true, ↓reduceIte, if_true]
  exact hN g' hI
theorem lw_take {f : Nat → Option va_E} {L : Nat} {xs : Nat → Int32} (hf : hS (0, 0, f)) (hsc : f (aRO + 60) = some (.inl (0, L, .inl xs))) (hL : L ≤ 3584) {i : Nat} (hi : i + 7 ≤ L) {Q : Option Value → aH → Prop} (hN : ∀ h, INV f h → wp 11 mL_law 823 [some (.ref (aRO + 60)), some (.ref 0), some (.ref 35), some (.int (nI i))] [] h Q) {h : aH} (H : INV f h) : wp 11 mL_law 596 [some (.ref (aRO + 60)), some (.ref 0), some (.ref 35), some (.int (nI i))] [] h Q := by
  obtain ⟨h0, hs⟩ := INV_f H
  rw [hsc] at hs
  simp only [sL_law_596, sL_law_597, e_clrI, e_clrR, e_clrU, e_clrN, e_clrL, e_s0, e_s1, e_s2, e_s3, e_s4, e_z0, e_z1, e_f0, e_f1, e_tl, e_tn, e_q0, e_q1, e_zi, e_zj, true_and, and_true, ↓reduceIte, sc_al hs, h0, nI_1, nI_2', nI_3', nI_4', nI_5', nI_6', vp_in_nI (show i + 1 < L by omega) (by omega), nI_clamp (show i + 1 < 2 ^ 31 by omega), vp_in_nI (show i + 2 < L by omega) (by omega), nI_clamp (show i + 2 < 2 ^ 31 by omega), vp_in_nI (show i + 3 < L by omega) (by omega), nI_clamp (show i + 3 < 2 ^ 31 by omega), vp_in_nI (show i + 4 < L by omega) (by omega), nI_clamp (show i + 4 < 2 ^ 31 by omega), vp_in_nI (show i + 5 < L by omega) (by omega), nI_clamp (show i + 5 < 2 ^ 31 by omega), vp_in_nI (show i + 6 < L by omega) (by omega), nI_clamp (show i + 6 < 2 ^ 31 by omega)]
  refine wp_mono (fun r g hp => ?_) (st_take hf H)
  obtain ⟨x, rfl, hrc, hg, hw⟩ := hp
  rw [hsc] at hg
  simp only [sL_law_600, sL_law_601, e_clrI, e_clrR, e_clrU, e_clrN, e_clrL, e_s0, e_s1, e_s2, e_s3, e_s4, e_z0, e_z1, e_f0, e_f1, e_tl, e_tn, e_q0, e_q1, e_zi, e_zj, true_and, and_true, ↓reduceIte, sc_al hg, hrc, nI_1, nI_2', nI_3', nI_4', nI_5', nI_6', vp_in_nI (show i + 1 < L by omega) (by omega), nI_clamp (show i + 1 < 2 ^ 31 by omega), vp_in_nI (show i + 2 < L by omega) (by omega), nI_clamp (show i + 2 < 2 ^ 31 by omega), vp_in_nI (show i + 3 < L by omega) (by omega), nI_clamp (show i + 3 < 2 ^ 31 by omega), vp_in_nI (show i + 4 < L by omega) (by omega), nI_clamp (show i + 4 < 2 ^ 31 by omega), vp_in_nI (show i + 5 < L by omega) (by omega), nI_clamp (show i + 5 < 2 ^ 31 by omega), vp_in_nI (show i + 6 < L by omega) (by omega), nI_clamp (show i + 6 < 2 ^ 31 by omega)]
  refine wp_mono (fun r' g' hp' => ?_) hw
  obtain ⟨rfl, hI⟩ := hp'
  simp only [sL_law_604, sL_law_607, sL_law_608, e_clrI, e_clrR, e_clrU, e_clrN, e_clrL, e_s0, e_s1, e_s2, e_s3, e_s4, e_z0, e_z1, e_f0, e_f1, e_tl, e_tn, e_q0, e_q1, e_zi, e_zj, true_and, and_true, ↓reduceIte, if_true]
  exact hN g' hI
theorem lw_feed {f : Nat → Option va_E} {L : Nat} {xs : Nat → Int32} (hf : hS (0, 0, f)) (hsc : f (aRO + 60) = some (.inl (0, L, .inl xs))) (hL : L ≤ 3584) {i : Nat} (hi : i + 7 ≤ L) {Q : Option Value → aH → Prop} (hN : ∀ h, INV f h → wp 11 mL_law 823 [some (.ref (aRO + 60)), some (.ref 0), some (.ref 35), some (.int (nI i))] [] h Q) {h : aH} (H : INV f h) : wp 11 mL_law 609 [some (.ref (aRO + 60)), some (.ref 0), some (.ref 35), some (.int (nI i))] [] h Q := by
  obtain ⟨h0, hs⟩ := INV_f H
  rw [hsc] at hs
  simp only [sL_law_609, sL_law_610, sL_law_611, sL_law_612, sL_law_613, sL_law_614, sL_law_615, sL_law_616, sL_law_617, sL_law_618, sL_law_619, sL_law_620, sL_law_621, sL_law_622, sL_law_623, sL_law_624, sL_law_625, sL_law_626, sL_law_627, sL_law_628, sL_law_629, sL_law_630, sL_law_631, sL_law_632, sL_law_633, sL_law_634, sL_law_635, e_clrI, e_clrR, e_clrU, e_clrN, e_clrL, e_s0, e_s1, e_s2, e_s3, e_s4, e_z0, e_z1, e_f0, e_f1, e_tl, e_tn, e_q0, e_q1, e_zi, e_zj, true_and, and_true, ↓reduceIte, sc_al hs, h0, nI_1, nI_2', nI_3', nI_4', nI_5', nI_6', vp_in_nI (show i + 1 < L by omega) (by omega), nI_clamp (show i + 1 < 2 ^ 31 by omega), vp_in_nI (show i + 2 < L by omega) (by omega), nI_clamp (show i + 2 < 2 ^ 31 by omega), vp_in_nI (show i + 3 < L by omega) (by omega), nI_clamp (show i + 3 < 2 ^ 31 by omega), vp_in_nI (show i + 4 < L by omega) (by omega), nI_clamp (show i + 4 < 2 ^ 31 by omega), vp_in_nI (show i + 5 < L by omega) (by omega), nI_clamp (show i + 5 < 2 ^ 31 by omega), vp_in_nI (show i + 6 < L by omega) (by omega), nI_clamp (show i + 6 < 2 ^ 31 by omega)]
  refine wp_mono (fun r g hp => ?_) (st_feed hf H)
  obtain ⟨x, rfl, hrc, hg, hw⟩ := hp
  rw [hsc] at hg
  simp only [sL_law_638, sL_law_639, sL_law_640, sL_law_641, sL_law_642, sL_law_643, sL_law_644, sL_law_645, sL_law_646, sL_law_647, sL_law_648, sL_law_649, sL_law_650, sL_law_651, sL_law_652, sL_law_653, sL_law_654, sL_law_655, sL_law_656, sL_law_657, sL_law_658, sL_law_659, sL_law_660, sL_law_661, sL_law_662, sL_law_663, sL_law_664, e_clrI, e_clrR, e_clrU, e_clrN, e_clrL, e_s0, e_s1, e_s2, e_s3, e_s4, e_z0, e_z1, e_f0, e_f1, e_tl, e_tn, e_q0, e_q1, e_zi, e_zj, true_and, and_true, ↓reduceIte, sc_al hg, hrc, nI_1, nI_2', nI_3', nI_4', nI_5', nI_6', vp_in_nI (show i + 1 < L by omega) (by omega), nI_clamp (show i + 1 < 2 ^ 31 by omega), vp_in_nI (show i + 2 < L by omega) (by omega), nI_clamp (show i + 2 < 2 ^ 31 by omega), vp_in_nI (show i + 3 < L by omega) (by omega), nI_clamp (show i + 3 < 2 ^ 31 by omega), vp_in_nI (show i + 4 < L by omega) (by omega), nI_clamp (show i + 4 < 2 ^ 31 by omega), vp_in_nI (show i + 5 < L by omega) (by omega), nI_clamp (show i + 5 < 2 ^ 31 by omega), vp_in_nI (show i + 6 < L by omega) (by omega), nI_clamp (show i + 6 < 2 ^ 31 by omega)]
  refine wp_mono (fun r' g' hp' => ?_) hw
  obtain ⟨rfl, hI⟩ := hp'
  simp only [sL_law_667, sL_law_670, sL_law_671, e_clrI, e_clrR, e_clrU, e_clrN, e_clrL, e_s0, e_s1, e_s2, e_s3, e_s4, e_z0, e_z1, e_f0, e_f1, e_tl, e_tn, e_q0, e_q1, e_zi, e_zj, true_and, and_true, ↓reduceIte, if_true]
  exact hN g' hI
theorem lw_end {f : Nat → Option va_E} {L : Nat} {xs : Nat → Int32} (hf : hS (0, 0, f)) (hsc : f (aRO + 60) = some (.inl (0, L, .inl xs))) (hL : L ≤ 3584) {i : Nat} (hi : i + 7 ≤ L) {Q : Option Value → aH → Prop} (hN : ∀ h, INV f h → wp 11 mL_law 823 [some (.ref (aRO + 60)), some (.ref 0), some (.ref 35), some (.int (nI i))] [] h Q) {h : aH} (H : INV f h) : wp 11 mL_law 672 [some (.ref (aRO + 60)), some (.ref 0), some (.ref 35), some (.int (nI i))] [] h Q := by
  obtain ⟨h0, hs⟩ := INV_f H
  rw [hsc] at hs
  simp only [sL_law_672, sL_law_673, sL_law_674, sL_law_675, sL_law_676, sL_law_677, sL_law_678, e_clrI, e_clrR, e_clrU, e_clrN, e_clrL, e_s0, e_s1, e_s2, e_s3, e_s4, e_z0, e_z1, e_f0, e_f1, e_tl, e_tn, e_q0, e_q1, e_zi, e_zj, true_and, and_true, ↓reduceIte, sc_al hs, h0, nI_1, nI_2', nI_3', nI_4', nI_5', nI_6', vp_in_nI (show i + 1 < L by omega) (by omega), nI_clamp (show i + 1 < 2 ^ 31 by omega), vp_in_nI (show i + 2 < L by omega) (by omega), nI_clamp (show i + 2 < 2 ^ 31 by omega), vp_in_nI (show i + 3 < L by omega) (by omega), nI_clamp (show i + 3 < 2 ^ 31 by omega), vp_in_nI (show i + 4 < L by omega) (by omega), nI_clamp (show i + 4 < 2 ^ 31 by omega), vp_in_nI (show i + 5 < L by omega) (by omega), nI_clamp (show i + 5 < 2 ^ 31 by omega), vp_in_nI (show i + 6 < L by omega) (by omega), nI_clamp (show i + 6 < 2 ^ 31 by omega)]
  refine wp_mono (fun r g hp => ?_) (st_end hf H)
  obtain ⟨x, rfl, hrc, hg, hw⟩ := hp
  rw [hsc] at hg
  simp only [sL_law_681, sL_law_682, sL_law_683, sL_law_684, sL_law_685, sL_law_686, sL_law_687, e_clrI, e_clrR, e_clrU, e_clrN, e_clrL, e_s0, e_s1, e_s2, e_s3, e_s4, e_z0, e_z1, e_f0, e_f1, e_tl, e_tn, e_q0, e_q1, e_zi, e_zj, true_and, and_true, ↓reduceIte, sc_al hg, hrc, nI_1, nI_2', nI_3', nI_4', nI_5', nI_6', vp_in_nI (show i + 1 < L by omega) (by omega), nI_clamp (show i + 1 < 2 ^ 31 by omega), vp_in_nI (show i + 2 < L by omega) (by omega), nI_clamp (show i + 2 < 2 ^ 31 by omega), vp_in_nI (show i + 3 < L by omega) (by omega), nI_clamp (show i + 3 < 2 ^ 31 by omega), vp_in_nI (show i + 4 < L by omega) (by omega), nI_clamp (show i + 4 < 2 ^ 31 by omega), vp_in_nI (show i + 5 < L by omega) (by omega), nI_clamp (show i + 5 < 2 ^ 31 by omega), vp_in_nI (show i + 6 < L by omega) (by omega), nI_clamp (show i + 6 < 2 ^ 31 by omega)]
  refine wp_mono (fun r' g' hp' => ?_) hw
  obtain ⟨rfl, hI⟩ := hp'
  simp only [sL_law_690, sL_law_693, sL_law_694, e_clrI, e_clrR, e_clrU, e_clrN, e_clrL, e_s0, e_s1, e_s2, e_s3, e_s4, e_z0, e_z1, e_f0, e_f1, e_tl, e_tn, e_q0, e_q1, e_zi, e_zj, true_and, and_true, ↓reduceIte, if_true]
  exact hN g' hI
theorem lw_read {f : Nat → Option va_E} {L : Nat} {xs : Nat → Int32} (hf : hS (0, 0, f)) (hsc : f (aRO + 60) = some (.inl (0, L, .inl xs))) (hL : L ≤ 3584) {i : Nat} (hi : i + 7 ≤ L) {Q : Option Value → aH → Prop} (hN : ∀ h, INV f h → wp 11 mL_law 823 [some (.ref (aRO + 60)), some (.ref 0), some (.ref 35), some (.int (nI i))] [] h Q) {h : aH} (H : INV f h) : wp 11 mL_law 695 [some (.ref (aRO + 60)), some (.ref 0), some (.ref 35), some (.int (nI i))] [] h Q := by
  obtain ⟨h0, hs⟩ := INV_f H
  rw [hsc] at hs
  simp only [sL_law_695, sL_law_696, e_clrI, e_clrR, e_clrU, e_clrN, e_clrL, e_s0, e_s1, e_s2, e_s3, e_s4, e_z0, e_z1, e_f0, e_f1, e_tl, e_tn, e_q0, e_q1, e_zi, e_zj, true_and, and_true, ↓reduceIte, sc_al hs, h0, nI_1, nI_2', nI_3', nI_4', nI_5', nI_6', vp_in_nI (show i + 1 < L by omega) (by omega), nI_clamp (show i + 1 < 2 ^ 31 by omega), vp_in_nI (show i + 2 < L by omega) (by omega), nI_clamp (show i + 2 < 2 ^ 31 by omega), vp_in_nI (show i + 3 < L by omega) (by omega), nI_clamp (show i + 3 < 2 ^ 31 by omega), vp_in_nI (show i + 4 < L by omega) (by omega), nI_clamp (show i + 4 < 2 ^ 31 by omega), vp_in_nI (show i + 5 < L by omega) (by omega), nI_clamp (show i + 5 < 2 ^ 31 by omega), vp_in_nI (show i + 6 < L by omega) (by omega), nI_clamp (show i + 6 < 2 ^ 31 by omega)]
  refine wp_mono (fun r g hp => ?_) (st_read hf H)
  obtain ⟨x, rfl, hrc, hg, hw⟩ := hp
  rw [hsc] at hg
  simp only [sL_law_699, sL_law_700, e_clrI, e_clrR, e_clrU, e_clrN, e_clrL, e_s0, e_s1, e_s2, e_s3, e_s4, e_z0, e_z1, e_f0, e_f1, e_tl, e_tn, e_q0, e_q1, e_zi, e_zj, true_and, and_true, ↓reduceIte, sc_al hg, hrc, nI_1, nI_2', nI_3', nI_4', nI_5', nI_6', vp_in_nI (show i + 1 < L by omega) (by omega), nI_clamp (show i + 1 < 2 ^ 31 by omega), vp_in_nI (show i + 2 < L by omega) (by omega), nI_clamp (show i + 2 < 2 ^ 31 by omega), vp_in_nI (show i + 3 < L by omega) (by omega), nI_clamp (show i + 3 < 2 ^ 31 by omega), vp_in_nI (show i + 4 < L by omega) (by omega), nI_clamp (show i + 4 < 2 ^ 31 by omega), vp_in_nI (show i + 5 < L by omega) (by omega), nI_clamp (show i + 5 < 2 ^ 31 by omega), vp_in_nI (show i + 6 < L by omega) (by omega), nI_clamp (show i + 6 < 2 ^ 31 by omega)]
  refine wp_mono (fun r' g' hp' => ?_) hw
  obtain ⟨rfl, hI⟩ := hp'
  simp only [sL_law_703, sL_law_706, sL_law_707, e_clrI, e_clrR, e_clrU, e_clrN, e_clrL, e_s0, e_s1, e_s2, e_s3, e_s4, e_z0, e_z1, e_f0, e_f1, e_tl, e_tn, e_q0, e_q1, e_zi, e_zj, true_and, and_true, ↓reduceIte, if_true]
  exact hN g' hI
theorem lw_fault {f : Nat → Option va_E} {L : Nat} {xs : Nat → Int32} (hf : hS (0, 0, f)) (hsc : f (aRO + 60) = some (.inl (0, L, .inl xs))) (hL : L ≤ 3584) {i : Nat} (hi : i + 7 ≤ L) {Q : Option Value → aH → Prop} (hN : ∀ h, INV f h → wp 11 mL_law 823 [some (.ref (aRO + 60)), some (.ref 0), some (.ref 35), some (.int (nI i))] [] h Q) {h : aH} (H : INV f h) : wp 11 mL_law 708 [some (.ref (aRO + 60)), some (.ref 0), some (.ref 35), some (.int (nI i))] [] h Q := by
  obtain ⟨h0, hs⟩ := INV_f H
  rw [hsc] at hs
  simp only [sL_law_708, sL_law_709, sL_law_710, sL_law_711, sL_law_712, sL_law_713, sL_law_714, e_clrI, e_clrR, e_clrU, e_clrN, e_clrL, e_s0, e_s1, e_s2, e_s3, e_s4, e_z0, e_z1, e_f0, e_f1, e_tl, e_tn, e_q0, e_q1, e_zi, e_zj, true_and, and_true, ↓reduceIte, sc_al hs, h0, nI_1, nI_2', nI_3', nI_4', nI_5', nI_6', vp_in_nI (show i + 1 < L by omega) (by omega), nI_clamp (show i + 1 < 2 ^ 31 by omega), vp_in_nI (show i + 2 < L by omega) (by omega), nI_clamp (show i + 2 < 2 ^ 31 by omega), vp_in_nI (show i + 3 < L by omega) (by omega), nI_clamp (show i + 3 < 2 ^ 31 by omega), vp_in_nI (show i + 4 < L by omega) (by omega), nI_clamp (show i + 4 < 2 ^ 31 by omega), vp_in_nI (show i + 5 < L by omega) (by omega), nI_clamp (show i + 5 < 2 ^ 31 by omega), vp_in_nI (show i + 6 < L by omega) (by omega), nI_clamp (show i + 6 < 2 ^ 31 by omega)]
  refine wp_mono (fun r g hp => ?_) (st_fault hf H)
  obtain ⟨x, rfl, hrc, hg, hw⟩ := hp
  rw [hsc] at hg
  simp only [sL_law_717, sL_law_718, sL_law_719, sL_law_720, sL_law_721, sL_law_722, sL_law_723, e_clrI, e_clrR, e_clrU, e_clrN, e_clrL, e_s0, e_s1, e_s2, e_s3, e_s4, e_z0, e_z1, e_f0, e_f1, e_tl, e_tn, e_q0, e_q1, e_zi, e_zj, true_and, and_true, ↓reduceIte, sc_al hg, hrc, nI_1, nI_2', nI_3', nI_4', nI_5', nI_6', vp_in_nI (show i + 1 < L by omega) (by omega), nI_clamp (show i + 1 < 2 ^ 31 by omega), vp_in_nI (show i + 2 < L by omega) (by omega), nI_clamp (show i + 2 < 2 ^ 31 by omega), vp_in_nI (show i + 3 < L by omega) (by omega), nI_clamp (show i + 3 < 2 ^ 31 by omega), vp_in_nI (show i + 4 < L by omega) (by omega), nI_clamp (show i + 4 < 2 ^ 31 by omega), vp_in_nI (show i + 5 < L by omega) (by omega), nI_clamp (show i + 5 < 2 ^ 31 by omega), vp_in_nI (show i + 6 < L by omega) (by omega), nI_clamp (show i + 6 < 2 ^ 31 by omega)]
  refine wp_mono (fun r' g' hp' => ?_) hw
  obtain ⟨rfl, hI⟩ := hp'
  simp only [sL_law_726, sL_law_729, sL_law_730, e_clrI, e_clrR, e_clrU, e_clrN, e_clrL, e_s0, e_s1, e_s2, e_s3, e_s4, e_z0, e_z1, e_f0, e_f1, e_tl, e_tn, e_q0, e_q1, e_zi, e_zj, true_and, and_true, ↓reduceIte, if_true]
  exact hN g' hI
theorem lw_got {f : Nat → Option va_E} {L : Nat} {xs : Nat → Int32} (hf : hS (0, 0, f)) (hsc : f (aRO + 60) = some (.inl (0, L, .inl xs))) (hL : L ≤ 3584) {i : Nat} (hi : i + 7 ≤ L) {Q : Option Value → aH → Prop} (hN : ∀ h, INV f h → wp 11 mL_law 823 [some (.ref (aRO + 60)), some (.ref 0), some (.ref 35), some (.int (nI i))] [] h Q) {h : aH} (H : INV f h) : wp 11 mL_law 731 [some (.ref (aRO + 60)), some (.ref 0), some (.ref 35), some (.int (nI i))] [] h Q := by
  obtain ⟨h0, hs⟩ := INV_f H
  rw [hsc] at hs
  simp only [sL_law_731, sL_law_732, sL_law_733, sL_law_734, sL_law_735, sL_law_736, sL_law_737, e_clrI, e_clrR, e_clrU, e_clrN, e_clrL, e_s0, e_s1, e_s2, e_s3, e_s4, e_z0, e_z1, e_f0, e_f1, e_tl, e_tn, e_q0, e_q1, e_zi, e_zj, true_and, and_true, ↓reduceIte, sc_al hs, h0, nI_1, nI_2', nI_3', nI_4', nI_5', nI_6', vp_in_nI (show i + 1 < L by omega) (by omega), nI_clamp (show i + 1 < 2 ^ 31 by omega), vp_in_nI (show i + 2 < L by omega) (by omega), nI_clamp (show i + 2 < 2 ^ 31 by omega), vp_in_nI (show i + 3 < L by omega) (by omega), nI_clamp (show i + 3 < 2 ^ 31 by omega), vp_in_nI (show i + 4 < L by omega) (by omega), nI_clamp (show i + 4 < 2 ^ 31 by omega), vp_in_nI (show i + 5 < L by omega) (by omega), nI_clamp (show i + 5 < 2 ^ 31 by omega), vp_in_nI (show i + 6 < L by omega) (by omega), nI_clamp (show i + 6 < 2 ^ 31 by omega)]
  refine wp_mono (fun r g hp => ?_) (st_got hf H)
  obtain ⟨x, rfl, hrc, hg, hw⟩ := hp
  rw [hsc] at hg
  simp only [sL_law_740, sL_law_741, sL_law_742, sL_law_743, sL_law_744, sL_law_745, sL_law_746, e_clrI, e_clrR, e_clrU, e_clrN, e_clrL, e_s0, e_s1, e_s2, e_s3, e_s4, e_z0, e_z1, e_f0, e_f1, e_tl, e_tn, e_q0, e_q1, e_zi, e_zj, true_and, and_true, ↓reduceIte, sc_al hg, hrc, nI_1, nI_2', nI_3', nI_4', nI_5', nI_6', vp_in_nI (show i + 1 < L by omega) (by omega), nI_clamp (show i + 1 < 2 ^ 31 by omega), vp_in_nI (show i + 2 < L by omega) (by omega), nI_clamp (show i + 2 < 2 ^ 31 by omega), vp_in_nI (show i + 3 < L by omega) (by omega), nI_clamp (show i + 3 < 2 ^ 31 by omega), vp_in_nI (show i + 4 < L by omega) (by omega), nI_clamp (show i + 4 < 2 ^ 31 by omega), vp_in_nI (show i + 5 < L by omega) (by omega), nI_clamp (show i + 5 < 2 ^ 31 by omega), vp_in_nI (show i + 6 < L by omega) (by omega), nI_clamp (show i + 6 < 2 ^ 31 by omega)]
  refine wp_mono (fun r' g' hp' => ?_) hw
  obtain ⟨rfl, hI⟩ := hp'
  simp only [sL_law_749, sL_law_752, sL_law_753, e_clrI, e_clrR, e_clrU, e_clrN, e_clrL, e_s0, e_s1, e_s2, e_s3, e_s4, e_z0, e_z1, e_f0, e_f1, e_tl, e_tn, e_q0, e_q1, e_zi, e_zj, true_and, and_true, ↓reduceIte, if_true]
  exact hN g' hI
theorem lw_count {f : Nat → Option va_E} {L : Nat} {xs : Nat → Int32} (hf : hS (0, 0, f)) (hsc : f (aRO + 60) = some (.inl (0, L, .inl xs))) (hL : L ≤ 3584) {i : Nat} (hi : i + 7 ≤ L) {Q : Option Value → aH → Prop} (hN : ∀ h, INV f h → wp 11 mL_law 823 [some (.ref (aRO + 60)), some (.ref 0), some (.ref 35), some (.int (nI i))] [] h Q) {h : aH} (H : INV f h) : wp 11 mL_law 754 [some (.ref (aRO + 60)), some (.ref 0), some (.ref 35), some (.int (nI i))] [] h Q := by
  obtain ⟨h0, hs⟩ := INV_f H
  rw [hsc] at hs
  simp only [sL_law_754, sL_law_755, sL_law_756, sL_law_757, sL_law_758, sL_law_759, sL_law_760, e_clrI, e_clrR, e_clrU, e_clrN, e_clrL, e_s0, e_s1, e_s2, e_s3, e_s4, e_z0, e_z1, e_f0, e_f1, e_tl, e_tn, e_q0, e_q1, e_zi, e_zj, true_and, and_true, ↓reduceIte, sc_al hs, h0, nI_1, nI_2', nI_3', nI_4', nI_5', nI_6', vp_in_nI (show i + 1 < L by omega) (by omega), nI_clamp (show i + 1 < 2 ^ 31 by omega), vp_in_nI (show i + 2 < L by omega) (by omega), nI_clamp (show i + 2 < 2 ^ 31 by omega), vp_in_nI (show i + 3 < L by omega) (by omega), nI_clamp (show i + 3 < 2 ^ 31 by omega), vp_in_nI (show i + 4 < L by omega) (by omega), nI_clamp (show i + 4 < 2 ^ 31 by omega), vp_in_nI (show i + 5 < L by omega) (by omega), nI_clamp (show i + 5 < 2 ^ 31 by omega), vp_in_nI (show i + 6 < L by omega) (by omega), nI_clamp (show i + 6 < 2 ^ 31 by omega)]
  refine wp_mono (fun r g hp => ?_) (st_count hf H)
  obtain ⟨x, rfl, hrc, hg, hw⟩ := hp
  rw [hsc] at hg
  simp only [sL_law_763, sL_law_764, sL_law_765, sL_law_766, sL_law_767, sL_law_768, sL_law_769, e_clrI, e_clrR, e_clrU, e_clrN, e_clrL, e_s0, e_s1, e_s2, e_s3, e_s4, e_z0, e_z1, e_f0, e_f1, e_tl, e_tn, e_q0, e_q1, e_zi, e_zj, true_and, and_true, ↓reduceIte, sc_al hg, hrc, nI_1, nI_2', nI_3', nI_4', nI_5', nI_6', vp_in_nI (show i + 1 < L by omega) (by omega), nI_clamp (show i + 1 < 2 ^ 31 by omega), vp_in_nI (show i + 2 < L by omega) (by omega), nI_clamp (show i + 2 < 2 ^ 31 by omega), vp_in_nI (show i + 3 < L by omega) (by omega), nI_clamp (show i + 3 < 2 ^ 31 by omega), vp_in_nI (show i + 4 < L by omega) (by omega), nI_clamp (show i + 4 < 2 ^ 31 by omega), vp_in_nI (show i + 5 < L by omega) (by omega), nI_clamp (show i + 5 < 2 ^ 31 by omega), vp_in_nI (show i + 6 < L by omega) (by omega), nI_clamp (show i + 6 < 2 ^ 31 by omega)]
  refine wp_mono (fun r' g' hp' => ?_) hw
  obtain ⟨rfl, hI⟩ := hp'
  simp only [sL_law_772, sL_law_775, sL_law_776, e_clrI, e_clrR, e_clrU, e_clrN, e_clrL, e_s0, e_s1, e_s2, e_s3, e_s4, e_z0, e_z1, e_f0, e_f1, e_tl, e_tn, e_q0, e_q1, e_zi, e_zj, true_and, and_true, ↓reduceIte, if_true]
  exact hN g' hI
theorem lw_image {f : Nat → Option va_E} {L : Nat} {xs : Nat → Int32} (hf : hS (0, 0, f)) (hsc : f (aRO + 60) = some (.inl (0, L, .inl xs))) (hL : L ≤ 3584) {i : Nat} (hi : i + 7 ≤ L) {Q : Option Value → aH → Prop} (hN : ∀ h, INV f h → wp 11 mL_law 823 [some (.ref (aRO + 60)), some (.ref 0), some (.ref 35), some (.int (nI i))] [] h Q) {h : aH} (H : INV f h) : wp 11 mL_law 777 [some (.ref (aRO + 60)), some (.ref 0), some (.ref 35), some (.int (nI i))] [] h Q := by
  obtain ⟨h0, hs⟩ := INV_f H
  rw [hsc] at hs
  simp only [sL_law_777, sL_law_778, sL_law_779, sL_law_780, sL_law_781, sL_law_782, sL_law_783, e_clrI, e_clrR, e_clrU, e_clrN, e_clrL, e_s0, e_s1, e_s2, e_s3, e_s4, e_z0, e_z1, e_f0, e_f1, e_tl, e_tn, e_q0, e_q1, e_zi, e_zj, true_and, and_true, ↓reduceIte, sc_al hs, h0, nI_1, nI_2', nI_3', nI_4', nI_5', nI_6', vp_in_nI (show i + 1 < L by omega) (by omega), nI_clamp (show i + 1 < 2 ^ 31 by omega), vp_in_nI (show i + 2 < L by omega) (by omega), nI_clamp (show i + 2 < 2 ^ 31 by omega), vp_in_nI (show i + 3 < L by omega) (by omega), nI_clamp (show i + 3 < 2 ^ 31 by omega), vp_in_nI (show i + 4 < L by omega) (by omega), nI_clamp (show i + 4 < 2 ^ 31 by omega), vp_in_nI (show i + 5 < L by omega) (by omega), nI_clamp (show i + 5 < 2 ^ 31 by omega), vp_in_nI (show i + 6 < L by omega) (by omega), nI_clamp (show i + 6 < 2 ^ 31 by omega)]
  refine wp_mono (fun r g hp => ?_) (st_image hf H)
  obtain ⟨x, rfl, hrc, hg, hw⟩ := hp
  rw [hsc] at hg
  simp only [sL_law_786, sL_law_787, sL_law_788, sL_law_789, sL_law_790, sL_law_791, sL_law_792, e_clrI, e_clrR, e_clrU, e_clrN, e_clrL, e_s0, e_s1, e_s2, e_s3, e_s4, e_z0, e_z1, e_f0, e_f1, e_tl, e_tn, e_q0, e_q1, e_zi, e_zj, true_and, and_true, ↓reduceIte, sc_al hg, hrc, nI_1, nI_2', nI_3', nI_4', nI_5', nI_6', vp_in_nI (show i + 1 < L by omega) (by omega), nI_clamp (show i + 1 < 2 ^ 31 by omega), vp_in_nI (show i + 2 < L by omega) (by omega), nI_clamp (show i + 2 < 2 ^ 31 by omega), vp_in_nI (show i + 3 < L by omega) (by omega), nI_clamp (show i + 3 < 2 ^ 31 by omega), vp_in_nI (show i + 4 < L by omega) (by omega), nI_clamp (show i + 4 < 2 ^ 31 by omega), vp_in_nI (show i + 5 < L by omega) (by omega), nI_clamp (show i + 5 < 2 ^ 31 by omega), vp_in_nI (show i + 6 < L by omega) (by omega), nI_clamp (show i + 6 < 2 ^ 31 by omega)]
  refine wp_mono (fun r' g' hp' => ?_) hw
  obtain ⟨rfl, hI⟩ := hp'
  simp only [sL_law_795, sL_law_798, sL_law_799, e_clrI, e_clrR, e_clrU, e_clrN, e_clrL, e_s0, e_s1, e_s2, e_s3, e_s4, e_z0, e_z1, e_f0, e_f1, e_tl, e_tn, e_q0, e_q1, e_zi, e_zj, true_and, and_true, ↓reduceIte, if_true]
  exact hN g' hI
theorem lw_again {f : Nat → Option va_E} {L : Nat} {xs : Nat → Int32} (hf : hS (0, 0, f)) (hsc : f (aRO + 60) = some (.inl (0, L, .inl xs))) (hL : L ≤ 3584) {i : Nat} (hi : i + 7 ≤ L) {Q : Option Value → aH → Prop} (hN : ∀ h, INV f h → wp 11 mL_law 823 [some (.ref (aRO + 60)), some (.ref 0), some (.ref 35), some (.int (nI i))] [] h Q) {h : aH} (H : INV f h) : wp 11 mL_law 800 [some (.ref (aRO + 60)), some (.ref 0), some (.ref 35), some (.int (nI i))] [] h Q := by
  obtain ⟨h0, hs⟩ := INV_f H
  rw [hsc] at hs
  simp only [sL_law_800, sL_law_801, sL_law_802, sL_law_803, sL_law_804, sL_law_805, sL_law_806, e_clrI, e_clrR, e_clrU, e_clrN, e_clrL, e_s0, e_s1, e_s2, e_s3, e_s4, e_z0, e_z1, e_f0, e_f1, e_tl, e_tn, e_q0, e_q1, e_zi, e_zj, true_and, and_true, ↓reduceIte, sc_al hs, h0, nI_1, nI_2', nI_3', nI_4', nI_5', nI_6', vp_in_nI (show i + 1 < L by omega) (by omega), nI_clamp (show i + 1 < 2 ^ 31 by omega), vp_in_nI (show i + 2 < L by omega) (by omega), nI_clamp (show i + 2 < 2 ^ 31 by omega), vp_in_nI (show i + 3 < L by omega) (by omega), nI_clamp (show i + 3 < 2 ^ 31 by omega), vp_in_nI (show i + 4 < L by omega) (by omega), nI_clamp (show i + 4 < 2 ^ 31 by omega), vp_in_nI (show i + 5 < L by omega) (by omega), nI_clamp (show i + 5 < 2 ^ 31 by omega), vp_in_nI (show i + 6 < L by omega) (by omega), nI_clamp (show i + 6 < 2 ^ 31 by omega)]
  refine wp_mono (fun r g hp => ?_) (st_again hf H)
  obtain ⟨x, rfl, hrc, hg, hw⟩ := hp
  rw [hsc] at hg
  simp only [sL_law_809, sL_law_810, sL_law_811, sL_law_812, sL_law_813, sL_law_814, sL_law_815, e_clrI, e_clrR, e_clrU, e_clrN, e_clrL, e_s0, e_s1, e_s2, e_s3, e_s4, e_z0, e_z1, e_f0, e_f1, e_tl, e_tn, e_q0, e_q1, e_zi, e_zj, true_and, and_true, ↓reduceIte, sc_al hg, hrc, nI_1, nI_2', nI_3', nI_4', nI_5', nI_6', vp_in_nI (show i + 1 < L by omega) (by omega), nI_clamp (show i + 1 < 2 ^ 31 by omega), vp_in_nI (show i + 2 < L by omega) (by omega), nI_clamp (show i + 2 < 2 ^ 31 by omega), vp_in_nI (show i + 3 < L by omega) (by omega), nI_clamp (show i + 3 < 2 ^ 31 by omega), vp_in_nI (show i + 4 < L by omega) (by omega), nI_clamp (show i + 4 < 2 ^ 31 by omega), vp_in_nI (show i + 5 < L by omega) (by omega), nI_clamp (show i + 5 < 2 ^ 31 by omega), vp_in_nI (show i + 6 < L by omega) (by omega), nI_clamp (show i + 6 < 2 ^ 31 by omega)]
  refine wp_mono (fun r' g' hp' => ?_) hw
  obtain ⟨rfl, hI⟩ := hp'
  simp only [sL_law_818, sL_law_821, sL_law_822, e_clrI, e_clrR, e_clrU, e_clrN, e_clrL, e_s0, e_s1, e_s2, e_s3, e_s4, e_z0, e_z1, e_f0, e_f1, e_tl, e_tn, e_q0, e_q1, e_zi, e_zj, true_and, and_true, ↓reduceIte, if_true]
  exact hN g' hI
theorem ite_i {c P R : Prop} {_ : Decidable c} (h1 : c → P) (h2 : ¬ c → R) : if c then P else R := by
  by_cases h : c
  · rw [if_pos h]; exact h1 h
  · rw [if_neg h]; exact h2 h
theorem lw_cmp {i L : Nat} (hL : L ≤ 3584) (hi : i ≤ 4000) : (nI L - 7 < nI i) ↔ ¬ i + 7 ≤ L := by
  by_cases h7 : 7 ≤ L
  · have e : nI L - 7 = nI (L - 7) := nI_sub (b := 7) h7
    rw [e, nI_ltI (by omega) (by omega)]
    omega
  · have h0 : nI L - 7 < 0 := by
      have : L = 0 ∨ L = 1 ∨ L = 2 ∨ L = 3 ∨ L = 4 ∨ L = 5 ∨ L = 6 := by omega
      rcases this with rfl | rfl | rfl | rfl | rfl | rfl | rfl <;> decide
    exact ⟨fun _ => by omega, fun _ => Int32.lt_of_lt_of_le h0 (nI_pos' (by omega))⟩
theorem law_L {f : Nat → Option va_E} {L : Nat} {xs : Nat → Int32} (hf : hS (0, 0, f)) (hsc : f (aRO + 60) = some (.inl (0, L, .inl xs))) (hL : L ≤ 3584) {Q : Option Value → aH → Prop} (hQ : ∀ h, INV f h → Q (some (.int 1)) h) :
    ∀ (r i : Nat) (h : aH), L + 7 - i ≤ r → i ≤ L + 7 → INV f h → wp 11 mL_law 18 [some (.ref (aRO + 60)), some (.ref 0), some (.ref 35), some (.int (nI i))] [] h Q := by
  intro r
  induction r with
  | zero =>
    intro i h h1 h2 H
    obtain ⟨h0, hs⟩ := INV_f H
    rw [hsc] at hs
    have hc := (lw_cmp (i := i) hL (by omega)).mpr (by omega)
    rw [sL_law_18]
    simp only [sL_law_19, sL_law_20, sL_law_21, sL_law_23, sL_law_24, sL_law_829, sL_law_830, e_clrI, e_clrR, e_clrU, e_clrN, e_clrL, e_s0, e_s1, e_s2, e_s3, e_s4, e_z0, e_z1, e_f0, e_f1, e_tl, e_tn, e_q0, e_q1, e_zi, e_zj, true_and, and_true, ↓reduceIte, sc_len hs, iff_true_intro hc, if_true]
    exact hQ h H
  | succ r ih =>
    intro i h h1 h2 H
    obtain ⟨h0, hs⟩ := INV_f H
    rw [hsc] at hs
    rw [sL_law_18]
    by_cases hi : i + 7 ≤ L
    · have hc : ¬ (nI L - 7 < nI i) := fun q => (lw_cmp (i := i) hL (by omega)).mp q hi
      have hN : ∀ h, INV f h → wp 11 mL_law 823 [some (.ref (aRO + 60)), some (.ref 0), some (.ref 35), some (.int (nI i))] [] h Q := by
        intro h' H'
        simp only [sL_law_823, sL_law_826, e_clrI, e_clrR, e_clrU, e_clrN, e_clrL, e_s0, e_s1, e_s2, e_s3, e_s4, e_z0, e_z1, e_f0, e_f1, e_tl, e_tn, e_q0, e_q1, e_zi, e_zj, true_and, and_true, ↓reduceIte, nI_7']
        exact ih (i + 7) h' (by omega) (by omega) H'
      simp only [sL_law_19, sL_law_20, sL_law_21, sL_law_23, sL_law_24, sL_law_27, sL_law_28, sL_law_29, sL_law_30, sL_law_32, sL_law_33, e_clrI, e_clrR, e_clrU, e_clrN, e_clrL, e_s0, e_s1, e_s2, e_s3, e_s4, e_z0, e_z1, e_f0, e_f1, e_tl, e_tn, e_q0, e_q1, e_zi, e_zj, true_and, and_true, ↓reduceIte, sc_len hs, sc_al hs, hc, if_false, vp_in_nI (show i < L by omega) (by omega), nI_clamp (show i < 2 ^ 31 by omega)]
      refine ite_i (fun _ => lw_name hf hsc hL hi hN H) (fun _ => ?_)
      refine ite_i (fun _ => lw_thing hf hsc hL hi hN H) (fun _ => ?_)
      refine ite_i (fun _ => lw_span hf hsc hL hi hN H) (fun _ => ?_)
      refine ite_i (fun _ => lw_ways hf hsc hL hi hN H) (fun _ => ?_)
      refine ite_i (fun _ => lw_choose hf hsc hL hi hN H) (fun _ => ?_)
      refine ite_i (fun _ => lw_sets hf hsc hL hi hN H) (fun _ => ?_)
      refine ite_i (fun _ => lw_set hf hsc hL hi hN H) (fun _ => ?_)
      refine ite_i (fun _ => lw_tells hf hsc hL hi hN H) (fun _ => ?_)
      refine ite_i (fun _ => lw_sheet hf hsc hL hi hN H) (fun _ => ?_)
      refine ite_i (fun _ => lw_on hf hsc hL hi hN H) (fun _ => ?_)
      refine ite_i (fun _ => lw_write hf hsc hL hi hN H) (fun _ => ?_)
      refine ite_i (fun _ => lw_written hf hsc hL hi hN H) (fun _ => ?_)
      refine ite_i (fun _ => lw_take hf hsc hL hi hN H) (fun _ => ?_)
      refine ite_i (fun _ => lw_feed hf hsc hL hi hN H) (fun _ => ?_)
      refine ite_i (fun _ => lw_end hf hsc hL hi hN H) (fun _ => ?_)
      refine ite_i (fun _ => lw_read hf hsc hL hi hN H) (fun _ => ?_)
      refine ite_i (fun _ => lw_fault hf hsc hL hi hN H) (fun _ => ?_)
      refine ite_i (fun _ => lw_got hf hsc hL hi hN H) (fun _ => ?_)
      refine ite_i (fun _ => lw_count hf hsc hL hi hN H) (fun _ => ?_)
      refine ite_i (fun _ => lw_image hf hsc hL hi hN H) (fun _ => ?_)
      refine ite_i (fun _ => lw_again hf hsc hL hi hN H) (fun _ => ?_)
      exact hN h H
    · have hc := (lw_cmp (i := i) hL (by omega)).mpr hi
      simp only [sL_law_19, sL_law_20, sL_law_21, sL_law_23, sL_law_24, sL_law_829, sL_law_830, e_clrI, e_clrR, e_clrU, e_clrN, e_clrL, e_s0, e_s1, e_s2, e_s3, e_s4, e_z0, e_z1, e_f0, e_f1, e_tl, e_tn, e_q0, e_q1, e_zi, e_zj, true_and, and_true, ↓reduceIte, sc_len hs, iff_true_intro hc, if_true]
      exact hQ h H
