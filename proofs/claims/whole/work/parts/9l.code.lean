/-! ===== a token's code and the class's readings of it ===== -/
def kwl (K : Nat) : List Nat := [[104, 97, 115], [98, 111, 120, 101, 115], [103, 101, 116, 115], [108, 111, 115, 101, 115], [112, 117, 116, 115], [116, 104, 101, 109], [105, 110, 116, 111], [105, 110], [97], [98, 111, 120], [97, 114, 101], [109, 111, 114, 101], [116, 104, 97, 110], [110, 111, 119], [104, 111, 119], [109, 97, 110, 121], [104, 97, 118, 101], [98, 111, 116, 104], [104, 97, 100]].getD (K - 10) []
theorem p_word_c (v : Int64) : p_word v = 4 ∨ ∃ i : Nat, i < 19 ∧ v = lN (npack (kwl (10 + i))) ∧ p_word v = nI (10 + i) := by
  by_cases h0 : v = 6840691
  · exact Or.inr ⟨0, by omega, by rw [h0]; decide, by rw [h0]; decide⟩
  by_cases h1 : v = 422776956275
  · exact Or.inr ⟨1, by omega, by rw [h1]; decide, by rw [h1]; decide⟩
  by_cases h2 : v = 1734702195
  · exact Or.inr ⟨2, by omega, by rw [h2]; decide, by rw [h2]; decide⟩
  by_cases h3 : v = 465726301555
  · exact Or.inr ⟨3, by omega, by rw [h3]; decide, by rw [h3]; decide⟩
  by_cases h4 : v = 1886745715
  · exact Or.inr ⟨4, by omega, by rw [h4]; decide, by rw [h4]; decide⟩
  by_cases h5 : v = 1952998765
  · exact Or.inr ⟨5, by omega, by rw [h5]; decide, by rw [h5]; decide⟩
  by_cases h6 : v = 1768846447
  · exact Or.inr ⟨6, by omega, by rw [h6]; decide, by rw [h6]; decide⟩
  by_cases h7 : v = 26990
  · exact Or.inr ⟨7, by omega, by rw [h7]; decide, by rw [h7]; decide⟩
  by_cases h8 : v = 97
  · exact Or.inr ⟨8, by omega, by rw [h8]; decide, by rw [h8]; decide⟩
  by_cases h9 : v = 6451064
  · exact Or.inr ⟨9, by omega, by rw [h9]; decide, by rw [h9]; decide⟩
  by_cases h10 : v = 6386277
  · exact Or.inr ⟨10, by omega, by rw [h10]; decide, by rw [h10]; decide⟩
  by_cases h11 : v = 1836020325
  · exact Or.inr ⟨11, by omega, by rw [h11]; decide, by rw [h11]; decide⟩
  by_cases h12 : v = 1952997742
  · exact Or.inr ⟨12, by omega, by rw [h12]; decide, by rw [h12]; decide⟩
  by_cases h13 : v = 7237495
  · exact Or.inr ⟨13, by omega, by rw [h13]; decide, by rw [h13]; decide⟩
  by_cases h14 : v = 6844279
  · exact Or.inr ⟨14, by omega, by rw [h14]; decide, by rw [h14]; decide⟩
  by_cases h15 : v = 1835101817
  · exact Or.inr ⟨15, by omega, by rw [h15]; decide, by rw [h15]; decide⟩
  by_cases h16 : v = 1751217765
  · exact Or.inr ⟨16, by omega, by rw [h16]; decide, by rw [h16]; decide⟩
  by_cases h17 : v = 1651471464
  · exact Or.inr ⟨17, by omega, by rw [h17]; decide, by rw [h17]; decide⟩
  by_cases h18 : v = 6840676
  · exact Or.inr ⟨18, by omega, by rw [h18]; decide, by rw [h18]; decide⟩
  left
  unfold p_word
  rw [if_neg h0, if_neg h1, if_neg h2, if_neg h3, if_neg h4, if_neg h5, if_neg h6, if_neg h7, if_neg h8, if_neg h9, if_neg h10, if_neg h11, if_neg h12, if_neg h13, if_neg h14, if_neg h15, if_neg h16, if_neg h17, if_neg h18]
theorem kwl_ok : ∀ i, i < 19 → 1 ≤ (kwl (10 + i)).length ∧ (kwl (10 + i)).length ≤ 8 ∧ ∀ c ∈ kwl (10 + i), 97 ≤ c ∧ c ≤ 122 := by decide
theorem npack_inj {x y : List Nat} (hx : ∀ c ∈ x, 97 ≤ c ∧ c ≤ 122) (hx8 : x.length ≤ 8) (hy : ∀ c ∈ y, 97 ≤ c ∧ c ≤ 122) (hy8 : y.length ≤ 8) (h : lN (npack x) = lN (npack y)) : x = y := by
  have h1 := npack_b hx hx8
  have h2 := npack_b hy hy8
  rw [b6_eq (by omega) (by omega)] at h
  rw [← dgs_p 8 x hx8 hx, h, dgs_p 8 y hy8 hy]
theorem p_word_k {v : Int64} {K : Nat} (h1 : 10 ≤ K) (h2 : K ≤ 28) : p_word v = nI K ↔ v = lN (npack (kwl K)) := by
  constructor
  · intro h
    rcases p_word_c v with q | ⟨i, hi, q1, q2⟩
    · rw [h] at q
      exact absurd ((nI_eq (b := 4) (by omega) (by omega)).mp q) (by omega)
    · rw [h, nI_eq (by omega) (by omega)] at q2
      rw [q2]; exact q1
  · intro h
    obtain ⟨i, hi, rfl⟩ : ∃ i, i < 19 ∧ K = 10 + i := ⟨K - 10, by omega, by omega⟩
    have : ∀ i, i < 19 → p_word (lN (npack (kwl (10 + i)))) = nI (10 + i) := by decide +kernel
    rw [h]; exact this i hi
/-- the words that are told, as the reader needs them -/
def wdR (wd : Nat → Int64) (a b : Nat) : Prop := a ≤ 6 ∧ b ≤ 6 ∧ (∀ k, k < a → p_word (wd k) = 4) ∧ (∀ k, k < b → p_word (wd (6 + k)) = 4) ∧ (∀ k j, k < a → j < b → wd k ≠ wd (6 + j))
theorem wdR_m {al : Nat → Int32} {wd : Nat → Int64} (hm : mI al wd PW) {a b : Nat} (ha : a ≤ 6) (hb : b ≤ 6) (e0 : al 0 = nI a) (e1 : al 1 = nI b) : wdR wd a b := by
  refine ⟨ha, hb, fun k hk => (hm.wn k (by omega) (by rw [e0]; exact nI_lt hk (by omega))).2, fun k hk => (hm.wt k (by omega) (by rw [e1]; exact nI_lt hk (by omega))).2, fun k j hk hj => hm.wu k j (by omega) (by rw [e0]; exact nI_lt hk (by omega)) (by omega) (by rw [e1]; exact nI_lt hj (by omega))⟩
def nmC (c : Nat) : Int32 := if 40 ≤ c ∧ c ≤ 45 then nI (c - 40) else -1
def tgC (c : Nat) : Int32 := if 50 ≤ c ∧ c ≤ 55 then nI (c - 50) else -1
theorem p_fnd_e {f : Nat → Int64} {v : Int64} {n : Nat} (h : ∀ j, j < n → f j ≠ v) : p_fnd f v n 0 = -1 := by
  rcases p_fnd_r (f := f) (v := v) n 0 with q | ⟨j, _, h2, _, h4⟩
  · exact q
  · exact absurd h4 (h j (by omega))
theorem tok_w {wd : Nat → Int64} {a b : Nat} (hw : wdR wd a b) (v : Int64) : ∃ c : Nat, c < 61 ∧ cW wd a b v = nI c ∧ (c = 4 ∨ (10 ≤ c ∧ c ≤ 28) ∨ (40 ≤ c ∧ c ≤ 45) ∨ (50 ≤ c ∧ c ≤ 55)) ∧ p_fnd wd v a 0 = nmC c ∧ p_fnd (fun k => wd (6 + k)) v b 0 = tgC c ∧ ∀ K, 10 ≤ K → K ≤ 28 → (c = K ↔ v = lN (npack (kwl K))) := by
  obtain ⟨ha, hb, hn, ht, hu⟩ := hw
  unfold cW
  rcases p_word_c v with q | ⟨i, hi, q1, q2⟩
  · rw [if_pos q]
    have hk : ∀ K, 10 ≤ K → K ≤ 28 → ¬ v = lN (npack (kwl K)) := fun K h1 h2 h => by
      have := (p_word_k h1 h2).mpr h
      rw [q] at this
      exact absurd ((nI_eq (a := 4) (by omega) (by omega)).mp this) (by omega)
    unfold p_named
    rcases p_fnd_r (f := wd) (v := v) a 0 with f | ⟨j, _, f2, f3, f4⟩
    · rw [f, if_pos rfl]
      rcases p_fnd_r (f := fun k => wd (6 + k)) (v := v) b 0 with g | ⟨j, _, g2, g3, g4⟩
      · rw [g, if_pos rfl]
        exact ⟨4, by omega, rfl, Or.inl rfl, rfl, rfl, fun K h1 h2 => ⟨fun h => by omega, fun h => absurd h (hk K h1 h2)⟩⟩
      · rw [g3, if_neg (nI_m1 (by omega))]
        refine ⟨50 + j, by omega, nI_add 50 j, Or.inr (Or.inr (Or.inr (by omega))), ?_, ?_, fun K h1 h2 => ⟨fun h => by omega, fun h => absurd h (hk K h1 h2)⟩⟩
        · unfold nmC; rw [if_neg (by omega)]
        · unfold tgC; rw [if_pos (by omega)]; congr 1; omega
    · rw [f3, if_neg (nI_m1 (by omega))]
      refine ⟨40 + j, by omega, nI_add 40 j, Or.inr (Or.inr (Or.inl (by omega))), ?_, ?_, fun K h1 h2 => ⟨fun h => by omega, fun h => absurd h (hk K h1 h2)⟩⟩
      · unfold nmC; rw [if_pos (by omega)]; congr 1; omega
      · unfold tgC; rw [if_neg (by omega)]
        exact p_fnd_e (fun i hi h => hu j i (by omega) hi (by rw [f4]; exact h.symm))
  · have hne : ¬ p_word v = 4 := by
      rw [q2]; intro h
      exact absurd ((nI_eq (b := 4) (by omega) (by omega)).mp h) (by omega)
    rw [if_neg hne]
    refine ⟨10 + i, by omega, q2, Or.inr (Or.inl (by omega)), ?_, ?_, fun K h1 h2 => ?_⟩
    · unfold nmC; rw [if_neg (by omega)]
      exact p_fnd_e (fun j hj h => hne (by rw [← h]; exact hn j hj))
    · unfold tgC; rw [if_neg (by omega)]
      exact p_fnd_e (fun j hj h => hne (by rw [← h]; exact ht j hj))
    · rw [← p_word_k h1 h2, q2, nI_eq (by omega) (by omega)]
