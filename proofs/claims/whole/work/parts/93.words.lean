/-! ===== name, thing: both sides ===== -/
theorem wI_c {al al' : Nat → Int32} {b : Nat → Nat} {sh pi : Int32} {wn : Nat → Int32} {te : Nat → Int32} {lo : Nat → Int32} {hi : Nat → Int32} {mt : Int32} {me : Int32} {tt : Int32} {ix : Int32} {ov : Int32} {su : Int32} {wx : Int32} {wy : Int32} {wz : Int32} {wi : Int32} {wa : Int32} (h2 : al' 2 = al 2) (h5 : al' 5 = al 5) (h6 : al' 6 = al 6) (h7 : al' 7 = al 7) (h8 : al' 8 = al 8) (ht : al' (22 + al 5).toNatClampNeg = al (22 + al 5).toNatClampNeg) (hj : ¬ al 6 < 0 → al' (22 + al 7).toNatClampNeg = al (22 + al 7).toNatClampNeg) (h : wI al b sh pi wn te lo hi mt me tt ix ov su wx wy wz wi wa) : wI al' b sh pi wn te lo hi mt me tt ix ov su wx wy wz wi wa := by
  have eT : wT al' = wT al := by funext w; unfold wT; rw [h2, h6, h8]
  have eW : wW al' = wW al := by funext x y z i w; unfold wW; rw [h2]
  have eA : wA al' = wA al := by funext x y z; unfold wA; rw [h2]
  have ez : q_zr al' = q_zr al := by funext x y z; unfold q_zr; rw [h2, h5, ht]
  have es : w_su al' = w_su al := by funext x y z; unfold w_su; rw [ez, eT, eW, eA]
  have ei : w_id al' = w_id al := by
    funext x y z i
    unfold w_id
    rw [eT, eW, eA, h6, h7]
    by_cases q : al 6 < 0
    · simp only [q, decide_true, Bool.true_or]
    · rw [hj q]
  have ep : p_idl al' = p_idl al := by
    funext x y z i
    unfold p_idl
    rw [h2, h6, h7, h8]
    by_cases q : al 6 < 0
    · simp only [q, decide_true, Bool.true_or]
    · rw [hj q]
  have eqz : q_z al' = q_z al := by funext; unfold q_z q_i; rw [ez, ep]
  have eqy : q_y al' = q_y al := by funext; unfold q_y; rw [eqz]
  have eqx : q_x al' = q_x al := by funext; unfold q_x; rw [eqy]
  have ea : q_all al' = q_all al := by funext; unfold q_all; rw [eqx]
  have er : q_rest al' = q_rest al := by funext; unfold q_rest; rw [es, ei, eqz, eqy, eqx]
  unfold wI wOK wC wP wB at *
  rw [ea, er, es, ei, eT, eW, eA, h2, h5, h6, h7, ht]
  obtain ⟨⟨a1, a2, a3, a4, a5, a6, a7, a8⟩, a9⟩ := h
  exact ⟨⟨a1, a2, a3, a4, fun q => by rw [hj q]; exact a5 q, a6, a7, a8⟩, a9⟩
theorem wJ_c {al al' : Nat → Int32} {wd : Nat → Int64} {P : Int64 → Prop} (hm : mI al wd P) {sh pi : Int32} {wn : Nat → Int32} {te : Nat → Int32} {lo : Nat → Int32} {hi : Nat → Int32} {mt : Int32} {me : Int32} {tt : Int32} {ix : Int32} {ov : Int32} {su : Int32} {wx : Int32} {wy : Int32} {wz : Int32} {wi : Int32} {wa : Int32} (hsh : sh = al 2) (h2 : al' 2 = al 2) (h58 : ∀ j, 5 ≤ j → j ≤ 8 → al' j = al j) (hb : ∀ j, 14 ≤ j → j < 22 → al' j = al j) (ht : ∀ k : Nat, k < 6 → nI k < al 1 → al' (22 + k) = al (22 + k)) (h : wJ al sh pi wn te lo hi mt me tt ix ov su wx wy wz wi wa) : wJ al' sh pi wn te lo hi mt me tt ix ov su wx wy wz wi wa := by
  intro hs
  have hI := h hs
  have hs2 : al 2 ≠ -1 := hsh ▸ hs
  have e : ∀ j, (j = 2 ∨ (5 ≤ j ∧ j ≤ 8) ∨ (14 ≤ j ∧ j < 22)) → ac al' j = ac al j := by
    intro j hj
    rw [ac_in (by omega), ac_in (by omega)]
    rcases hj with rfl | hj | hj
    · exact h2
    · exact h58 j hj.1 hj.2
    · exact hb j hj.1 hj.2
  have eb : bA al' = bA al := by
    funext j
    unfold bA bq
    by_cases hj : j < 8
    · rw [e 2 (by omega), e 6 (by omega), e (14 + j) (by omega)]
    · rw [e 2 (by omega), e 6 (by omega)]
      have j4 : ¬ j < 4 := by omega
      have j6 : ¬ j < 6 := by omega
      simp only [j4, j6, hj, if_false]
  rw [eb]
  obtain ⟨⟨t, t6, e5, c5, _⟩, hj⟩ := ac_mo hm hs2
  have l5 : nI t < al 1 := by
    rcases hm.pl with h1 | ⟨s, n, t', hs8, hn, ht', e2, e3, l3, e5', l5, _⟩
    · exact absurd h1 hs2
    · rw [← e5, e5']; exact l5
  refine wI_c (e 2 (by omega)) (e 5 (by omega)) (e 6 (by omega)) (e 7 (by omega)) (e 8 (by omega)) ?_ ?_ hI
  · rw [ac_in (j := 5) (by omega), c5, ac_in (j := 22 + t) (by omega), ac_in (j := 22 + t) (by omega)]
    exact ht t t6 l5
  · rw [ac_in (j := 6) (by omega), ac_in (j := 7) (by omega)]
    intro q
    obtain ⟨j, j6, e7, c7, _⟩ := hj q
    rw [c7, ac_in (j := 22 + j) (by omega), ac_in (j := 22 + j) (by omega)]
    refine ht j j6 ?_
    rcases hm.pl with h1 | ⟨s, n, t', hs8, hn, ht', e2, e3, l3, e5', l5, _, _, hi⟩
    · exact absurd h1 hs2
    · rcases hi with ⟨h7, _⟩ | ⟨i, j', hi, hj', f6, _, _, f7, l7, _⟩
      · rw [h7] at q; exact absurd (by decide) q
      · rw [← e7, f7]; exact l7
/-- the words that may be told -/
def PW (v : Int64) : Prop := isW v ∧ p_word v = 4
theorem p_free_f {wd : Nat → Int64} {a b : Nat} (ha : a ≤ 6) (hb : b ≤ 6) {v : Int64} (h : p_free wd a b v = true) : PW v ∧ (∀ j, j < a → wd j ≠ v) ∧ (∀ j, j < b → wd (6 + j) ≠ v) := by
  unfold p_free at h
  simp only [Bool.and_eq_true, decide_eq_true_eq] at h
  obtain ⟨h1, h2, h3, h4⟩ := h
  exact ⟨⟨p_isw_W h1, h2⟩, fun j hj => p_fnd_n a 0 (by omega) h3 j (by omega) (by omega), fun j hj => p_fnd_n (f := fun k => wd (6 + k)) b 0 (by omega) h4 j (by omega) (by omega)⟩
theorem mI_name {al : Nat → Int32} {wd : Nat → Int64} (hm : mI al wd PW) {a b : Nat} (ha : a < 6) (hb : b ≤ 6) (e0 : al 0 = nI a) (e1 : al 1 = nI b) {v : Int64} (hf : p_free wd a b v = true) : mI (upd al 0 (nI (a + 1))) (vp_updL wd a v) PW := by
  obtain ⟨f1, f2, f3⟩ := p_free_f (by omega) hb hf
  have E : ∀ j, j ≠ 0 → upd al 0 (nI (a + 1)) j = al j := fun j hj => pk_un hj
  have up : ∀ k : Nat, k < 6 → nI k < al 0 → nI k < upd al 0 (nI (a + 1)) 0 := by
    intro k hk h
    rw [pk_us]
    rw [e0, nI_ltI (by omega) (by omega)] at h
    exact nI_lt (by omega) (by omega)
  refine mI.mk ⟨a + 1, by omega, pk_us⟩ ?_ ?_ ?_ ?_ ?_ ?_ ?_ ?_ ?_ ?_ ?_ ?_ ?_
  · rw [E 1 (by omega)]; exact hm.n1
  · intro k hk; rw [E _ (by omega), E _ (by omega)]; exact hm.sp k hk
  · intro k hk; rw [E 1 (by omega), E _ (by omega)]; exact hm.mo k hk
  · rw [E 1 (by omega), E 2 (by omega), E 3 (by omega), E 4 (by omega), E 5 (by omega), E 6 (by omega), E 7 (by omega)]
    rcases hm.pl with h1 | ⟨s, n, t, q1, q2, q3, q4, q5, q6, q7, q8, q9, q10, q11⟩
    · exact Or.inl h1
    · refine Or.inr ⟨s, n, t, q1, q2, q3, q4, q5, up n q2 q6, q7, q8, fun h => ?_, q10, ?_⟩
      · obtain ⟨m, m1, m2, m3, m4⟩ := q9 h
        exact ⟨m, m1, m2, up m m1 m3, m4⟩
      · rcases q11 with h | ⟨i, j, i1, i2, i3, i4, i5⟩
        · exact Or.inl h
        · exact Or.inr ⟨i, j, i1, i2, i3, up i i1 i4, i5⟩
  · rw [E 8 (by omega)]; exact hm.wy
  · rw [E 9 (by omega)]; exact hm.s9
  · rw [E 10 (by omega)]; exact hm.s10
  · rw [E 11 (by omega)]; exact hm.s11
  · intro k n h1 h2 h3; rw [E 11 (by omega)] at h1; rw [E _ (by omega)]; exact hm.tp k n h1 h2 h3
  · intro k n h1 h2 h3; rw [E 10 (by omega)] at h1; rw [E _ (by omega)]; exact hm.tx k n h1 h2 h3
  · intro k hk h
    rw [pk_us, nI_ltI (by omega) (by omega)] at h
    by_cases hka : k = a
    · subst hka; rw [pk_uLs]; exact f1
    · rw [pk_uLn hka]; exact hm.wn k hk (by rw [e0]; exact nI_lt (by omega) (by omega))
  · intro k hk h; rw [E 1 (by omega)] at h; rw [pk_uLn (by omega)]; exact hm.wt k hk h
  · intro k j hk h hj h2
    rw [pk_us, nI_ltI (by omega) (by omega)] at h
    rw [E 1 (by omega)] at h2
    rw [pk_uLn (j := 6 + j) (by omega)]
    by_cases hka : k = a
    · subst hka; rw [pk_uLs]
      rw [e1, nI_ltI (by omega) (by omega)] at h2
      exact fun q => f3 j h2 q.symm
    · rw [pk_uLn hka]; exact hm.wu k j hk (by rw [e0]; exact nI_lt (by omega) (by omega)) hj h2
theorem mI_thing {al : Nat → Int32} {wd : Nat → Int64} (hm : mI al wd PW) {a b : Nat} (ha : a ≤ 6) (hb : b < 6) (e0 : al 0 = nI a) (e1 : al 1 = nI b) {v : Int64} (hf : p_free wd a b v = true) {m : Nat} (h1 : 1 ≤ m) (h9 : m ≤ 9999) : mI (upd (upd al (22 + b) (nI m)) 1 (nI (b + 1))) (vp_updL wd (6 + b) v) PW := by
  obtain ⟨f1, f2, f3⟩ := p_free_f ha (by omega) hf
  have E : ∀ j, j ≠ 1 → j ≠ 22 + b → upd (upd al (22 + b) (nI m)) 1 (nI (b + 1)) j = al j := fun j hj hj2 => by rw [pk_un hj, pk_un hj2]
  have up : ∀ k : Nat, k < 6 → nI k < al 1 → nI k < upd (upd al (22 + b) (nI m)) 1 (nI (b + 1)) 1 := by
    intro k hk h
    rw [pk_us]
    rw [e1, nI_ltI (by omega) (by omega)] at h
    exact nI_lt (by omega) (by omega)
  refine mI.mk ?_ ⟨b + 1, by omega, pk_us⟩ ?_ ?_ ?_ ?_ ?_ ?_ ?_ ?_ ?_ ?_ ?_ ?_
  · rw [E 0 (by omega) (by omega)]; exact hm.n0
  · intro k hk; rw [E _ (by omega) (by omega), E _ (by omega) (by omega)]; exact hm.sp k hk
  · intro k hk h
    rw [pk_us, nI_ltI (by omega) (by omega)] at h
    by_cases hkb : k = b
    · subst hkb; exact ⟨m, h1, h9, by rw [pk_un (by omega), pk_us]⟩
    · rw [E _ (by omega) (by omega)]; exact hm.mo k hk (by rw [e1]; exact nI_lt (by omega) (by omega))
  · rw [E 0 (by omega) (by omega), E 2 (by omega) (by omega), E 3 (by omega) (by omega), E 4 (by omega) (by omega), E 5 (by omega) (by omega), E 6 (by omega) (by omega), E 7 (by omega) (by omega)]
    rcases hm.pl with h1 | ⟨s, n, t, q1, q2, q3, q4, q5, q6, q7, q8, q9, q10, q11⟩
    · exact Or.inl h1
    · refine Or.inr ⟨s, n, t, q1, q2, q3, q4, q5, q6, q7, up t q3 q8, q9, q10, ?_⟩
      rcases q11 with h | ⟨i, j, i1, i2, i3, i4, i5, i6, i7, i8⟩
      · exact Or.inl h
      · exact Or.inr ⟨i, j, i1, i2, i3, i4, i5, i6, up j i2 i7, i8⟩
  · rw [E 8 (by omega) (by omega)]; exact hm.wy
  · rw [E 9 (by omega) (by omega)]; exact hm.s9
  · rw [E 10 (by omega) (by omega)]; exact hm.s10
  · rw [E 11 (by omega) (by omega)]; exact hm.s11
  · intro k n h1 h2 h3; rw [E 11 (by omega) (by omega)] at h1; rw [E _ (by omega) (by omega)]; exact hm.tp k n h1 h2 h3
  · intro k n h1 h2 h3; rw [E 10 (by omega) (by omega)] at h1; rw [E _ (by omega) (by omega)]; exact hm.tx k n h1 h2 h3
  · intro k hk h; rw [E 0 (by omega) (by omega)] at h; rw [pk_uLn (by omega)]; exact hm.wn k hk h
  · intro k hk h
    rw [pk_us, nI_ltI (by omega) (by omega)] at h
    by_cases hkb : k = b
    · subst hkb; rw [pk_uLs]; exact f1
    · rw [pk_uLn (by omega)]; exact hm.wt k hk (by rw [e1]; exact nI_lt (by omega) (by omega))
  · intro k j hk h hj h2
    rw [E 0 (by omega) (by omega)] at h
    rw [pk_us, nI_ltI (by omega) (by omega)] at h2
    rw [pk_uLn (j := k) (by omega)]
    by_cases hjb : j = b
    · subst hjb; rw [pk_uLs]
      rw [e0, nI_ltI (by omega) (by omega)] at h
      exact f2 k h
    · rw [pk_uLn (by omega)]; exact hm.wu k j hk h hj (by rw [e1]; exact nI_lt (by omega) (by omega))
