/-! ===== the law from its start ===== -/
theorem mI_0 : mI (i2A 4) (fun _ => 0) PW := by
  have hno : ∀ k : Nat, k < 6 → ¬ nI k < (0 : Int32) := fun k hk => nI_pos (by omega)
  refine mI.mk ⟨0, by omega, rfl⟩ ⟨0, by omega, rfl⟩ (fun k hk => ⟨1, 20, ?_, ?_, by omega, by omega, by omega, by omega⟩) (fun k hk h => absurd h (hno k hk)) (Or.inl rfl) ⟨0, by omega, rfl⟩ ⟨0, by omega, rfl⟩ ⟨0, by omega, rfl⟩ ⟨0, by omega, rfl⟩ (fun k n h1 h2 h3 => ?_) (fun k n h1 h2 h3 => ?_) (fun k hk h => absurd h (hno k hk)) (fun k hk h => absurd h (hno k hk)) (fun k j hk h _ _ => absurd h (hno k hk))
  · have : k = 0 ∨ k = 1 ∨ k = 2 ∨ k = 3 := by omega
    rcases this with rfl | rfl | rfl | rfl <;> rfl
  · have : k = 0 ∨ k = 1 ∨ k = 2 ∨ k = 3 := by omega
    rcases this with rfl | rfl | rfl | rfl <;> rfl
  · have e : i2A 4 11 = nI 0 := rfl
    rw [e, nI_eq (by omega) (by omega)] at h1
    omega
  · have e : i2A 4 10 = nI 0 := rfl
    rw [e, nI_eq (by omega) (by omega)] at h1
    omega
theorem i2_m : ∀ k, k < 6 → (0 : Int32) = i2A 4 (22 + k) := by decide +kernel
theorem i2_f : ∀ k, k < 11 → (-1 : Int32) = i2A 4 (30 + k) := by decide +kernel
theorem i2_l : ∀ k, k < 4 → (1 : Int32) = i2A 4 (14 + 2 * k) := by decide +kernel
theorem i2_g : ∀ k, k < 4 → (20 : Int32) = i2A 4 (15 + 2 * k) := by decide +kernel
theorem kR_0 {le gr fa : Nat → Int32} (h1 : ∀ i, i < 4 → le i = 1) (h2 : ∀ i, i < 4 → gr i = 20) (h3 : ∀ i, i < 11 → fa i = -1) : kR (i2A 4) (fun _ => 0) 0 0 (fun _ => 0) (fun _ => 0) (fun _ => 0) le gr 0 (-1) (-1) (-1) (-1) (-1) (-1) (fun _ => 0) 0 (fun _ => 0) 0 (fun _ => 0) 0 fa 0 (-1) := by
  have z : ∀ {n j : Nat}, i2A 4 j = 0 → i2A 4 j = nI n → n ≤ 400 → n = 0 := fun {n j} e h hn => by
    rw [e, show (0 : Int32) = nI 0 from rfl, nI_eq (by omega) (by omega)] at h
    exact h.symm
  refine kR.mk rfl rfl (fun k hk => rfl) (fun k hk => rfl) i2_m (fun k hk => (h1 k hk).trans (i2_l k hk)) (fun k hk => (h2 k hk).trans (i2_g k hk)) rfl rfl (fun h => absurd rfl h) (fun k n a b e => ?_) rfl (fun k n a b e => ?_) rfl (fun k n a b e => ?_) rfl (fun k hk => (h3 k hk).trans (i2_f k hk)) rfl rfl
  · have := z (j := 9) rfl e (by omega); omega
  · have := z (j := 10) rfl e (by omega); omega
  · have := z (j := 11) rfl e (by omega); omega
theorem iR_0 {c : Nat → CS} : iR (i2A 4) (fun _ => 0) (fun _ => 0) (fun _ => none) 0 c := ⟨by omega, fun j => j, fun j hj => by omega, fun k hk => Or.inl ⟨rfl, rfl⟩⟩
theorem hS_0f {L : Nat} {xs : Nat → Int32} {fv : Value} (hv : fv = .null ∨ fv = .ref (aRO + 70)) : hS (i_h0 L xs fv) := by
  have e : ∀ j, (i_h0 L xs fv).2.2 (aRO + j) = i_ro L xs fv j := fun j => by
    show (if aRO + j < aRO then none else i_ro L xs fv (aRO + j - aRO)) = _
    rw [if_neg (by omega), Nat.add_sub_cancel_left]
  refine ⟨fun k hk => ?_, fun k hk => ?_, fv, hv, ?_⟩
  · rw [e]; unfold i_ro; rw [if_pos hk]
  · rw [e]; unfold i_ro
    rw [if_neg (by omega), if_neg (by omega), if_neg (by omega), if_pos (by omega), Nat.add_sub_cancel_left]
    rfl
  · show (i_h0 L xs fv).2.2 (aRO + 50) = _
    rw [e]; rfl
theorem new_KC {g : aH} {b s n : Nat} {e : va_E} (h1 : g.1 = b) (h2 : g.2.1 = s) : a_new g n e = KC g b (s + n) [e] := by
  have h := KC_0 (g := g)
  rw [h1, h2] at h
  conv => lhs; rw [h]
  exact KC_nw
theorem pure_ok : pure_law := by
  intro L xs fv hL hfv
  have hS0 : hS (i_h0 L xs fv) := hS_0f hfv
  obtain ⟨f, hfe⟩ : ∃ f, f = (i_h0 L xs fv).2.2 := ⟨_, rfl⟩
  have hh : i_h0 L xs fv = (0, 0, f) := by rw [hfe]; rfl
  have hsc : f (aRO + 60) = some (.inl (0, L, .inl xs)) := by
    rw [hfe]
    show (if aRO + 60 < aRO then none else i_ro L xs fv (aRO + 60 - aRO)) = _
    rw [if_neg (by omega), Nat.add_sub_cancel_left]
    rfl
  rw [hh] at hS0 ⊢
  rw [sL_law_0]
  refine ⟨by show 0 < 1000000; omega, ?_⟩
  rw [new_KC (b := 0) (s := 0) rfl rfl]
  simp only [sL_law_3, sL_law_3i, sL_law_4, e_clrI, e_clrR, e_clrU, e_clrN, e_clrL, e_s0, e_s1, e_s2, e_s3, e_s4, e_z0, e_z1, e_f0, e_f1, e_tl, e_tn, e_q0, e_q1, e_zi, e_zj, true_and, and_true, ↓reduceIte]
  refine c_new (b := 0) (s := 0) hS0 (by omega) (fun s' le gr fa hs' h1 h2 h3 => ?_)
  rw [new_lay]
  simp only [sL_law_7, e_clrI, e_clrR, e_clrU, e_clrN, e_clrL, e_s0, e_s1, e_s2, e_s3, e_s4, e_z0, e_z1, e_f0, e_f1, e_tl, e_tn, e_q0, e_q1, e_zi, e_zj, true_and, and_true, ↓reduceIte]
  rw [sL_law_8]
  refine ⟨by show 35 < 1000000; omega, ?_⟩
  rw [new_KC (b := 35) (s := s') rfl rfl]
  simp only [sL_law_11, sL_law_11i, sL_law_12, e_clrI, e_clrR, e_clrU, e_clrN, e_clrL, e_s0, e_s1, e_s2, e_s3, e_s4, e_z0, e_z1, e_f0, e_f1, e_tl, e_tn, e_q0, e_q1, e_zi, e_zj, true_and, and_true, ↓reduceIte]
  refine m_new (s := s') (fun s2 hs2 => ?_)
  simp only [sL_law_15, sL_law_16, sL_law_17, e_clrI, e_clrR, e_clrU, e_clrN, e_clrL, e_s0, e_s1, e_s2, e_s3, e_s4, e_z0, e_z1, e_f0, e_f1, e_tl, e_tn, e_q0, e_q1, e_zi, e_zj, true_and, and_true, ↓reduceIte]
  have hI : INV f (HM (KW (KS1 (K0 (KT (KR (KQ (KF (41, s2, f) 0 0 0 0 0 0 0) (fun _ => 0)) 0 0 0 0 0 0 0 0 0 0 (fun _ => 0)) 0 0 0 0 0) (fun _ => none)) 0 0 (fun _ => 0) (fun _ => 0) (fun _ => 0) le gr 0 (-1) (-1) (-1) (-1) (-1) (-1) (fun _ => 0) (fun _ => 0) 0 (fun _ => 0) 0 (fun _ => 0) 0 fa 0 (-1)) (fun _ => 0) (fun _ => 0) (fun _ => 0) (fun _ => 0) 0 0 (-1) (-1) 1 0 0 0 0 0 0) (i2A 4) (fun _ => 0) (fun _ => 0) 0 0 0 0 (fun _ => 0) 0 0 0 0 0 0 (fun _ => 0) 0 0 0 0) :=
    INV_mk (n := 0) (c := fun _ => (fun _ => 0, fun _ _ => 0, fun _ _ => 0)) (Nat.le_trans hs2 (Nat.le_trans (Nat.add_le_add_right hs' 5000) (by decide))) mI_0 (kR_0 h1 h2 h3) (fun h => absurd rfl h) iR_0
  refine law_L hS0 hsc hL (fun h H => ⟨rfl, ?_, ?_⟩) (L + 7) 0 _ (by omega) (by omega) hI
  · exact Nat.le_trans (INV_s H).1 (by decide)
  · exact Nat.le_trans (INV_s H).2 (by decide)
