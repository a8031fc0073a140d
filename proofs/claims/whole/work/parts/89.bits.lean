/-! ===== long numbers as natural ones ===== -/
theorem b6_bv (n : Nat) : (lN n).toBitVec = BitVec.ofNat 64 n := rfl
theorem b6_inj {a b : Int64} (h : a.toBitVec = b.toBitVec) : a = b := Int64.toBitVec_inj.mp h
theorem b6_of (x : Int64) : ∃ n, n < 2 ^ 64 ∧ x = lN n := ⟨x.toBitVec.toNat, x.toBitVec.isLt, b6_inj (by rw [b6_bv]; simp)⟩
theorem b6_eq {a b : Nat} (ha : a < 2 ^ 64) (hb : b < 2 ^ 64) : lN a = lN b ↔ a = b := by
  constructor
  · intro h
    have h2 := congrArg (fun x : Int64 => x.toBitVec.toNat) h
    simp only [b6_bv, BitVec.toNat_ofNat] at h2
    omega
  · intro h; rw [h]
theorem b6_us {n : Nat} (hn : n < 2 ^ 64) : ((lN n).toUInt64 >>> ((8 : Int32).toInt64.toUInt64 &&& Int64.toUInt64 63)).toInt64 = lN (n / 256) := by
  rw [show ((8 : Int32).toInt64.toUInt64 &&& Int64.toUInt64 63) = UInt64.ofNat 8 by decide]
  apply b6_inj
  apply BitVec.eq_of_toNat_eq
  show ((lN n).toUInt64 >>> UInt64.ofNat 8).toNat = _
  rw [UInt64.toNat_shiftRight, b6_bv, BitVec.toNat_ofNat]
  show (BitVec.ofNat 64 n).toNat >>> (8 % 64) = _
  rw [BitVec.toNat_ofNat, Nat.shiftRight_eq_div_pow, show (2 : Nat) ^ (8 % 64) = 256 by decide]
  omega
theorem b6_sm : ∀ k, k < 64 → (((nI k).toInt64 &&& 63).toBitVec.smod 64).toNat = k := by decide +kernel
theorem b6_ti {m : Nat} (h : m < 2 ^ 63) : (lN m).toInt = (m : Int) := pk_lT h
theorem b6_sh {n k : Nat} (hn : n < 2 ^ 63) (hk : k < 64) : lN n >>> ((nI k).toInt64 &&& 63) = lN (n / 2 ^ k) := by
  have hd : n / 2 ^ k ≤ n := Nat.div_le_self _ _
  apply Int64.toInt_inj.mp
  have e : (lN n >>> ((nI k).toInt64 &&& 63)).toInt = (lN n).toInt >>> k := by
    have := BitVec.toInt_sshiftRight (x := (lN n).toBitVec) (n := (((nI k).toInt64 &&& 63).toBitVec.smod 64).toNat)
    rw [b6_sm k hk] at this
    rw [show (lN n >>> ((nI k).toInt64 &&& 63)).toInt = ((lN n).toBitVec.sshiftRight (((nI k).toInt64 &&& 63).toBitVec.smod 64).toNat).toInt from rfl, b6_sm k hk]
    exact this
  rw [e, Int.shiftRight_eq_div_pow, b6_ti hn, b6_ti (by omega)]
  rfl
theorem b6_an (n : Nat) : (lN n &&& 255).toInt32 = nI (n % 256) := by
  have e : lN n &&& 255 = lN (n % 256) := by
    apply b6_inj
    apply BitVec.eq_of_toNat_eq
    rw [Int64.toBitVec_and, b6_bv, b6_bv, BitVec.toNat_and, BitVec.toNat_ofNat, BitVec.toNat_ofNat]
    show n % 2 ^ 64 &&& 255 = _
    rw [show (255 : Nat) = 2 ^ 8 - 1 from rfl, Nat.and_two_pow_sub_one_eq_mod]
    omega
  rw [e, lN_i]
theorem b6_sl (n : Nat) : lN n <<< ((8 : Int32).toInt64 &&& 63) = lN (n * 256) := by
  apply b6_inj
  rw [Int64.toBitVec_shiftLeft, b6_bv, b6_bv]
  rw [show ((8 : Int32).toInt64 &&& 63).toBitVec.smod 64 = BitVec.ofNat 64 8 by decide]
  apply BitVec.eq_of_toNat_eq
  rw [BitVec.shiftLeft_eq', BitVec.toNat_shiftLeft, BitVec.toNat_ofNat, BitVec.toNat_ofNat, Nat.shiftLeft_eq]
  rw [BitVec.toNat_ofNat]
  show n % 2 ^ 64 * 2 ^ 8 % 2 ^ 64 = _
  omega
theorem b6_or {n c : Nat} (hc : c < 256) (hn : n * 256 + c < 2 ^ 64) : lN (n * 256) ||| lN c = lN (n * 256 + c) := by
  apply b6_inj
  apply BitVec.eq_of_toNat_eq
  rw [Int64.toBitVec_or, b6_bv, b6_bv, b6_bv, BitVec.toNat_or, BitVec.toNat_ofNat, BitVec.toNat_ofNat, BitVec.toNat_ofNat]
  have h1 : n * 256 < 2 ^ 64 := Nat.lt_of_le_of_lt (Nat.le_add_right _ _) hn
  have h2 : c < 2 ^ 64 := Nat.lt_of_le_of_lt (Nat.le_add_left _ _) hn
  rw [Nat.mod_eq_of_lt h1, Nat.mod_eq_of_lt h2, Nat.mod_eq_of_lt hn]
  rw [Nat.mul_comm n 256, show (256 : Nat) * n = 2 ^ 8 * n from rfl]
  exact (Nat.two_pow_add_eq_or_of_lt (i := 8) hc n).symm
theorem lg0 {x z : Int64} : lg_cmp x z = 0 ↔ x = z := by
  unfold lg_cmp
  by_cases h1 : x > z
  · rw [if_pos h1]
    exact ⟨fun q => absurd q (by decide), fun q => absurd h1 (by rw [q]; exact Int64.lt_irrefl)⟩
  · rw [if_neg h1]
    by_cases h2 : x = z
    · rw [if_pos h2]; exact ⟨fun _ => h2, fun _ => rfl⟩
    · rw [if_neg h2]; exact ⟨fun q => absurd q (by decide), fun q => absurd q h2⟩
theorem lg_le {x z : Int64} : lg_cmp x z ≤ 0 ↔ ¬ z < x := by
  unfold lg_cmp
  by_cases h1 : x > z
  · rw [if_pos h1]; exact ⟨fun q => absurd q (by decide), fun q => absurd h1 q⟩
  · rw [if_neg h1]
    refine ⟨fun _ => h1, fun _ => ?_⟩
    split <;> decide
theorem lz_pos {n : Nat} (h : n < 2 ^ 63) : (0 : Int64) < lN n ↔ 0 < n := pk_lLT (a := 0) (by omega) h
theorem lz_neg {n : Nat} (h : 2 ^ 63 ≤ n) (h2 : n < 2 ^ 64) : ¬ (0 : Int64) < lN n := by
  rw [Int64.lt_iff_toInt_lt]
  have c := BitVec.toInt_eq_toNat_cond (lN n).toBitVec
  rw [b6_bv, BitVec.toNat_ofNat, Nat.mod_eq_of_lt h2] at c
  rw [show (lN n).toInt = (BitVec.ofNat 64 n).toInt from rfl, c, if_neg (by omega)]
  show ¬ (0 : Int) < _
  omega
/-- the letters of a number, lowest first -/
def p_lt : Nat → Nat → Bool
  | 0, _ => true
  | f + 1, n => decide (n = 0) || (decide (97 ≤ n % 256 ∧ n % 256 ≤ 122) && p_lt f (n / 256))
theorem p_lt_top : ∀ (f n : Nat), n < 256 ^ (f + 1) → p_lt (f + 1) n = true → 2 * n < 256 ^ (f + 1)
  | 0, n => by
    intro h1 h2
    unfold p_lt at h2
    simp only [Bool.or_eq_true, decide_eq_true_eq, Bool.and_eq_true] at h2
    omega
  | f + 1, n => by
    intro h1 h2
    unfold p_lt at h2
    simp only [Bool.or_eq_true, decide_eq_true_eq, Bool.and_eq_true] at h2
    have hp : 0 < 256 ^ (f + 1) := Nat.pow_pos (by omega)
    have he : 256 ^ (f + 1 + 1) = 256 * 256 ^ (f + 1) := by rw [Nat.pow_succ, Nat.mul_comm]
    have he2 : 256 ^ (f + 1) = 256 * 256 ^ f := by rw [Nat.pow_succ, Nat.mul_comm]
    rcases h2 with h2 | ⟨h2, h3⟩
    · rw [h2, he]; omega
    · have := p_lt_top f (n / 256) (by rw [he] at h1; omega) h3
      rw [he]
      omega
theorem p_lt_z (f : Nat) : p_lt f 0 = true := by cases f <;> simp [p_lt]
theorem npack_c (bs : List Nat) (c : Nat) : npack (bs ++ [c]) = npack bs * 256 + c := by unfold npack; rw [List.foldl_append]; rfl
theorem p_lt_w : ∀ (f n : Nat), n < 256 ^ f → p_lt f n = true → 0 < n → ∃ bs : List Nat, 1 ≤ bs.length ∧ bs.length ≤ f ∧ (∀ c ∈ bs, 97 ≤ c ∧ c ≤ 122) ∧ n = npack bs
  | 0, n => by intro h1; simp at h1; omega
  | f + 1, n => by
    intro h1 h2 h3
    unfold p_lt at h2
    simp only [Bool.or_eq_true, decide_eq_true_eq, Bool.and_eq_true] at h2
    rcases h2 with h2 | ⟨h2, h4⟩
    · omega
    · by_cases hq : n / 256 = 0
      · refine ⟨[n % 256], by simp, by simp, ?_, ?_⟩
        · intro c hc; simp at hc; omega
        · show n = 0 * 256 + n % 256; omega
      · have he : 256 ^ (f + 1) = 256 * 256 ^ f := by rw [Nat.pow_succ, Nat.mul_comm]
        obtain ⟨bs, g1, g2, g3, g4⟩ := p_lt_w f (n / 256) (by rw [he] at h1; omega) h4 (by omega)
        refine ⟨bs ++ [n % 256], by simp, by simpa using g2, ?_, ?_⟩
        · intro c hc
          rw [List.mem_append, List.mem_singleton] at hc
          rcases hc with hc | hc
          · exact g3 c hc
          · rw [hc]; exact h2
        · rw [npack_c, ← g4]; omega
theorem isW_of {n : Nat} (h : n < 2 ^ 64) (h1 : p_lt 8 n = true) (h0 : 0 < n) : isW (lN n) := by
  obtain ⟨bs, g1, g2, g3, g4⟩ := p_lt_w 8 n (by rw [show (256 : Nat) ^ 8 = 2 ^ 64 by decide]; exact h) h1 h0
  exact ⟨bs, g1, g2, g3, by rw [← g4]; rfl⟩
