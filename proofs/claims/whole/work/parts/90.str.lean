/-! ===== the texts of the class ===== -/
def sBy (k i : Nat) : Int32 := (a_byt.getD k []).getD i 0
def hS (h : aH) : Prop := (∀ k, k < 16 → h.2.2 (aRO + k) = some (.inr (20, [.ref (aRO + (100 + k)), .int 0]))) ∧ (∀ k, k < 16 → h.2.2 (aRO + (100 + k)) = some (.inl (5, i_bl k, .inl (sBy k)))) ∧ ∃ fv : Value, (fv = .null ∨ fv = .ref (aRO + 70)) ∧ h.2.2 aST = some (.inr (30, [.int 1, fv]))
theorem sBy_a : ∀ k, k < 16 → ∀ i, i < i_bl k → (((sBy k i) &&& 255).toUInt32 % 65536).toInt32 = sBy k i := by decide +kernel
theorem bl_le : ∀ k, k < 16 → i_bl k < 100 := by decide +kernel
theorem hS_f {h : aH} (hs : hS h) {K : Value → Prop} : w_gf (h.2.2 aST) 30 0 K ↔ K (.int 1) := by
  obtain ⟨_, _, fv, _, e⟩ := hs
  rw [e]; exact ⟨fun q => q.2, fun q => ⟨rfl, q⟩⟩
theorem hS_f1 {h : aH} (hs : hS h) : ∃ fv : Value, (fv = .null ∨ fv = .ref (aRO + 70)) ∧ ∀ K : Value → Prop, w_gf (h.2.2 aST) 30 1 K ↔ K fv := by
  obtain ⟨_, _, fv, f, e⟩ := hs
  exact ⟨fv, f, fun K => by rw [e]; exact ⟨fun q => q.2, fun q => ⟨rfl, q⟩⟩⟩
theorem hS_g0 {h : aH} (hs : hS h) {k : Nat} (hk : k < 16) {K : Value → Prop} : w_gf (h.2.2 (aRO + k)) 20 0 K ↔ K (.ref (aRO + (100 + k))) := by
  rw [hs.1 k hk]; exact ⟨fun q => q.2, fun q => ⟨rfl, q⟩⟩
theorem hS_g1 {h : aH} (hs : hS h) {k : Nat} (hk : k < 16) {K : Value → Prop} : w_gf (h.2.2 (aRO + k)) 20 1 K ↔ K (.int 0) := by
  rw [hs.1 k hk]; exact ⟨fun q => q.2, fun q => ⟨rfl, q⟩⟩
theorem hS_rc {h : aH} (hs : hS h) {k : Nat} (hk : k < 16) : w_rc (h.2.2 (aRO + k)) 20 ↔ True := by
  rw [hs.1 k hk]; exact ⟨fun _ => trivial, fun _ => rfl⟩
theorem hS_len {h : aH} (hs : hS h) {k : Nat} (hk : k < 16) {K : Value → Prop} : w_len (h.2.2 (aRO + (100 + k))) (aRO + (100 + k)) K ↔ K (.int (nI (i_bl k))) := by
  rw [hs.2.1 k hk]; exact ⟨fun q => q.2, fun q => ⟨⟨by decide, Or.inr (Or.inr rfl), Or.inl (Nat.le_add_right _ _)⟩, q⟩⟩
theorem hS_al {h : aH} (hs : hS h) {k : Nat} (hk : k < 16) {x : Int32} {K : Value → Prop} : w_al (h.2.2 (aRO + (100 + k))) (aRO + (100 + k)) (fun t => t == 2 || t == 5) x K ↔ (vp_in x (i_bl k) ∧ K (.int (sBy k x.toNatClampNeg))) := by
  rw [hs.2.1 k hk]; exact ⟨fun q => ⟨q.1.2.1, q.2⟩, fun q => ⟨⟨rfl, q.1, Or.inr (Nat.le_add_right _ _)⟩, q.2⟩⟩
theorem c_len {d : Nat} {h : aH} (hs : hS h) {k : Nat} (hk : k < 16) {Q : Option Value → aH → Prop} : wp (d + 1) mJ0_length_8abf5 0 [some (.ref (aRO + k))] [] h Q ↔ Q (some (.int (nI (i_bl k)))) h := by
  have e : nI (i_bl k) >>> ((0 : Int32) &&& 31) = nI (i_bl k) := by
    rw [pk_shrN (by have := bl_le k hk; omega) _ 0 (by decide)]; simp
  simp only [sJ0_length_8abf5_0, sJ0_length_8abf5_1, sJ0_length_8abf5_4, sJ0_length_8abf5_5, sJ0_length_8abf5_6, sJ0_length_8abf5_9, sJ0_length_8abf5_10, sJ0_coder_7d493_0, sJ0_coder_7d493_3, sJ0_coder_7d493_6, sJ0_coder_7d493_7, sJ0_coder_7d493_10, sJ0_coder_7d493_13, sJ0_coder_7d493_14, e_clrI, e_clrR, e_clrU, e_clrN, e_clrL, e_s0, e_s1, e_s2, e_s3, e_s4, e_z0, e_z1, e_f0, e_f1, e_tl, e_tn, e_q0, e_q1, e_zi, e_zj, true_and, and_true, ↓reduceIte, hS_g0 hs hk, hS_g1 hs hk, hS_rc hs hk, hS_len hs hk, hS_f hs]
  simp +decide only [if_true, if_false, true_and, e]
theorem c_charAt {d : Nat} {h : aH} (hs : hS h) {k : Nat} (hk : k < 16) {i : Nat} (hi : i < i_bl k) {Q : Option Value → aH → Prop} : wp (d + 3) mJ0_charAt_5068e 0 [some (.ref (aRO + k)), some (.int (nI i))] [] h Q ↔ Q (some (.int (sBy k i))) h := by
  have hb := bl_le k hk
  obtain ⟨fv, hfv, hf⟩ := hS_f1 hs
  have i0 : ¬ nI i < 0 := nI_pos (by omega)
  have i1 : nI i < nI (i_bl k) := nI_lt hi (by omega)
  have iin : vp_in (nI i) (i_bl k) := vp_in_nI hi (by omega)
  have ic : (nI i).toNatClampNeg = i := nI_clamp (by omega)
  rcases hfv with rfl | rfl
  · simp only [sJ0_charAt_5068e_0, sJ0_charAt_5068e_1, sJ0_charAt_5068e_4, sJ0_charAt_5068e_7, sJ0_charAt_5068e_8, sJ0_charAt_5068e_11, sJ0_charAt_5068e_12, sJ0_charAt_5068e_15, sJ0_charAt_5068e_16, sJ0_charAt_5068e_17, sJ0_charAt_5068e_20, sJ0_charAt_5068e_21, sJ0_charAt_5068e_24, sJ0_isLatin1_aae02_0, sJ0_isLatin1_aae02_3, sJ0_isLatin1_aae02_6, sJ0_isLatin1_aae02_7, sJ0_isLatin1_aae02_10, sJ0_isLatin1_aae02_13, sJ0_isLatin1_aae02_14, sJ0_isLatin1_aae02_17, sJ0_isLatin1_aae02_18, sJ1_charAt_3b067_0, sJ1_charAt_3b067_1, sJ1_charAt_3b067_2, sJ1_charAt_3b067_3, sJ1_charAt_3b067_6, sJ1_charAt_3b067_7, sJ1_charAt_3b067_8, sJ1_charAt_3b067_9, sJ1_charAt_3b067_12, sJ1_charAt_3b067_13, sJ1_charAt_3b067_14, sJ0_checkIndex_df160_0, sJ0_checkIndex_df160_1, sJ0_checkIndex_df160_2, sJ0_checkIndex_df160_5, sJ0_checkIndex_df160_5n, sJ0_checkIndex_df160_8, sJ0_checkIndex_df160_9, sJ3_checkIndex_8e157_0, sJ3_checkIndex_8e157_1, sJ3_checkIndex_8e157_4, sJ3_checkIndex_8e157_5, sJ3_checkIndex_8e157_6, sJ3_checkIndex_8e157_9, sJ3_checkIndex_8e157_10, sJ3_checkIndex_8e157_11, sJ3_checkIndex_8e157_16, sJ3_checkIndex_8e157_17, e_clrI, e_clrR, e_clrU, e_clrN, e_clrL, e_s0, e_s1, e_s2, e_s3, e_s4, e_z0, e_z1, e_f0, e_f1, e_tl, e_tn, e_q0, e_q1, e_zi, e_zj, true_and, and_true, ↓reduceIte, hS_g0 hs hk, hS_g1 hs hk, hS_rc hs hk, hS_len hs hk, hS_f hs, hS_al hs hk, hf, i0, i1, iin, ic, if_true, if_false, sBy_a k hk i hi]
    simp +decide only [if_true, if_false, true_and]
    have := pk_nc (sBy k i &&& 255)
    rw [sBy_a k hk i hi] at this
    simp only [this, true_and]
  · simp only [sJ0_charAt_5068e_0, sJ0_charAt_5068e_1, sJ0_charAt_5068e_4, sJ0_charAt_5068e_7, sJ0_charAt_5068e_8, sJ0_charAt_5068e_11, sJ0_charAt_5068e_12, sJ0_charAt_5068e_15, sJ0_charAt_5068e_16, sJ0_charAt_5068e_17, sJ0_charAt_5068e_20, sJ0_charAt_5068e_21, sJ0_charAt_5068e_24, sJ0_isLatin1_aae02_0, sJ0_isLatin1_aae02_3, sJ0_isLatin1_aae02_6, sJ0_isLatin1_aae02_7, sJ0_isLatin1_aae02_10, sJ0_isLatin1_aae02_13, sJ0_isLatin1_aae02_14, sJ0_isLatin1_aae02_17, sJ0_isLatin1_aae02_18, sJ1_charAt_3b067_0, sJ1_charAt_3b067_1, sJ1_charAt_3b067_2, sJ1_charAt_3b067_3, sJ1_charAt_3b067_6, sJ1_charAt_3b067_7, sJ1_charAt_3b067_8, sJ1_charAt_3b067_9, sJ1_charAt_3b067_12, sJ1_charAt_3b067_13, sJ1_charAt_3b067_14, sJ0_checkIndex_df160_0, sJ0_checkIndex_df160_1, sJ0_checkIndex_df160_2, sJ0_checkIndex_df160_5, sJ0_checkIndex_df160_5n, sJ0_checkIndex_df160_8, sJ0_checkIndex_df160_9, sJ3_checkIndex_8e157_0, sJ3_checkIndex_8e157_1, sJ3_checkIndex_8e157_4, sJ3_checkIndex_8e157_5, sJ3_checkIndex_8e157_6, sJ3_checkIndex_8e157_9, sJ3_checkIndex_8e157_10, sJ3_checkIndex_8e157_11, sJ3_checkIndex_8e157_16, sJ3_checkIndex_8e157_17, e_clrI, e_clrR, e_clrU, e_clrN, e_clrL, e_s0, e_s1, e_s2, e_s3, e_s4, e_z0, e_z1, e_f0, e_f1, e_tl, e_tn, e_q0, e_q1, e_zi, e_zj, true_and, and_true, ↓reduceIte, hS_g0 hs hk, hS_g1 hs hk, hS_rc hs hk, hS_len hs hk, hS_f hs, hS_al hs hk, hf, i0, i1, iin, ic, if_true, if_false, sBy_a k hk i hi]
    simp +decide only [if_true, if_false, true_and]
    have := pk_nc (sBy k i &&& 255)
    rw [sBy_a k hk i hi] at this
    simp only [this, true_and]
