/-! ===== the class's run is the reference's: the proof ===== -/
def mrun (cd nx vl : Nat → Nat) : Nat → Nat → List (Nat × Int32 × Int32 × Int32 × Int32) → Nat ⊕ (List (Nat × Int32 × Int32 × Int32 × Int32) × (Nat × Int32 × Int32) × Nat)
  | 0, _, _ => .inl 0
  | f + 1, s, S => if cd s = 24 then sQue cd nx s (fun q => .inr (S, q, s)) else sSen cd nx vl s (fun t s' => mrun cd nx vl f s' (S ++ [t]))
def mpq : Nat ⊕ (List (Nat × Int32 × Int32 × Int32 × Int32) × (Nat × Int32 × Int32) × Nat) → Nat ⊕ (List (Nat × Int32 × Int32 × Int32 × Int32) × (Nat × Int32 × Int32 × Int32 × Int32) × Nat)
  | .inl x => .inl x
  | .inr (S, q, pl) => .inr (S, (q.1, q.2.1, -1, q.2.2, -1), pl)
theorem run_st {L : Nat} {B : Nat → Nat} {wd : Nat → Int64} {a b f p s : Nat} (hw : wdR wd a b) (hs : sk L B p = s) (hp : p ≤ L) (hf : L - p < f) (hc : ¬ cdS L B wd a b s = 0) : nxt L B s ≤ L ∧ L - nxt L B s < f - 1 ∧ L - nxt L B s < L - p := by
  have hskb : p ≤ sk L B p ∧ sk L B p ≤ p + (L - p) := scn_b _ _
  rw [hs] at hskb
  obtain ⟨c, hc61, hcod, _, _, _, _, k5⟩ := tok_c (L := L) (B := B) (s := s) hw
  rw [cdS_e hc61 hcod] at hc
  have hlt : s < L := by
    rcases Nat.lt_or_ge s L with h | h
    · exact h
    · exact absurd (k5.mpr h) hc
  have := nxt_b (B := B) (show s ≤ L by omega)
  omega
theorem nmC_p {c : Nat} (h : 40 ≤ c ∧ c ≤ 45) : nmC c = nI (c - 40) := by unfold nmC; rw [if_pos h]
theorem nmC_n {c : Nat} (h : ¬ (40 ≤ c ∧ c ≤ 45)) : nmC c = -1 := by unfold nmC; rw [if_neg h]
theorem tgC_p {c : Nat} (h : 50 ≤ c ∧ c ≤ 55) : tgC c = nI (c - 50) := by unfold tgC; rw [if_pos h]
theorem tgC_n {c : Nat} (h : ¬ (50 ≤ c ∧ c ≤ 55)) : tgC c = -1 := by unfold tgC; rw [if_neg h]
theorem nuC_p {L : Nat} {B : Nat → Nat} {c s : Nat} (h : c = 1) : nuC L B c s = nI (vld L B s) := by unfold nuC; rw [if_pos h]
theorem fwx_0 {r1 r2 r3 x1 x2 x3 x4 : Int32} : fws r1 r2 r3 [2] (x1, x2, x3, x4) = (x1, x2, x3, x4) := rfl
theorem fwx_1 {r1 r2 r3 x1 x2 x3 x4 : Int32} : fws r1 r2 r3 [2, 21] (x1, x2, x3, x4) = (x1, x2, x3, x4) := rfl
theorem fwx_2 {r1 r2 r3 x1 x2 x3 x4 : Int32} : fws r1 r2 r3 [3] (x1, x2, x3, x4) = (x1, x2, x3, x4) := rfl
theorem fwx_3 {r1 r2 r3 x1 x2 x3 x4 : Int32} : fws r1 r2 r3 [10] (x1, x2, x3, x4) = (x1, x2, x3, x4) := rfl
theorem fwx_4 {r1 r2 r3 x1 x2 x3 x4 : Int32} : fws r1 r2 r3 [10, 10, 12, 13, 14, 10] (x1, x2, x3, x4) = (x1, x2, x3, x4) := rfl
theorem fwx_5 {r1 r2 r3 x1 x2 x3 x4 : Int32} : fws r1 r2 r3 [10, 20, 26, 28] (x1, x2, x3, x4) = (x1, x2, x3, x4) := rfl
theorem fwx_6 {r1 r2 r3 x1 x2 x3 x4 : Int32} : fws r1 r2 r3 [11] (x1, x2, x3, x4) = (x1, x2, x3, x4) := rfl
theorem fwx_7 {r1 r2 r3 x1 x2 x3 x4 : Int32} : fws r1 r2 r3 [15] (x1, x2, x3, x4) = (x1, x2, x3, x4) := rfl
theorem fwx_8 {r1 r2 r3 x1 x2 x3 x4 : Int32} : fws r1 r2 r3 [16] (x1, x2, x3, x4) = (x1, x2, x3, x4) := rfl
theorem fwx_9 {r1 r2 r3 x1 x2 x3 x4 : Int32} : fws r1 r2 r3 [17] (x1, x2, x3, x4) = (x1, x2, x3, x4) := rfl
theorem fwx_10 {r1 r2 r3 x1 x2 x3 x4 : Int32} : fws r1 r2 r3 [18] (x1, x2, x3, x4) = (x1, x2, x3, x4) := rfl
theorem fwx_11 {r1 r2 r3 x1 x2 x3 x4 : Int32} : fws r1 r2 r3 [19] (x1, x2, x3, x4) = (x1, x2, x3, x4) := rfl
theorem fwx_12 {r1 r2 r3 x1 x2 x3 x4 : Int32} : fws r1 r2 r3 [20] (x1, x2, x3, x4) = (x1, x2, x3, x4) := rfl
theorem fwx_13 {r1 r2 r3 x1 x2 x3 x4 : Int32} : fws r1 r2 r3 [22] (x1, x2, x3, x4) = (x1, x2, x3, x4) := rfl
theorem fwx_14 {r1 r2 r3 x1 x2 x3 x4 : Int32} : fws r1 r2 r3 [25, 25, 25, 25] (x1, x2, x3, x4) = (x1, x2, x3, x4) := rfl
theorem fwx_15 {r1 r2 r3 x1 x2 x3 x4 : Int32} : fws r1 r2 r3 [27] (x1, x2, x3, x4) = (x1, x2, x3, x4) := rfl
theorem fwx_16 {r1 r2 r3 x1 x2 x3 x4 : Int32} : fws r1 r2 r3 [78] (x1, x2, x3, x4) = (r1, x2, x3, x4) := rfl
theorem fwx_17 {r1 r2 r3 x1 x2 x3 x4 : Int32} : fws r1 r2 r3 [78, 78, 78, 78, 78, 17, 78, 23, 24, 24, 24, 24] (x1, x2, x3, x4) = (r1, x2, x3, x4) := rfl
theorem fwx_18 {r1 r2 r3 x1 x2 x3 x4 : Int32} : fws r1 r2 r3 [79] (x1, x2, x3, x4) = (x1, r1, x3, x4) := rfl
theorem fwx_19 {r1 r2 r3 x1 x2 x3 x4 : Int32} : fws r1 r2 r3 [84] (x1, x2, x3, x4) = (x1, x2, r2, x4) := rfl
theorem fwx_20 {r1 r2 r3 x1 x2 x3 x4 : Int32} : fws r1 r2 r3 [84, 11, 84] (x1, x2, x3, x4) = (x1, x2, r2, x4) := rfl
theorem fwx_21 {r1 r2 r3 x1 x2 x3 x4 : Int32} : fws r1 r2 r3 [84, 84, 84, 84] (x1, x2, x3, x4) = (x1, x2, r2, x4) := rfl
theorem fwx_22 {r1 r2 r3 x1 x2 x3 x4 : Int32} : fws r1 r2 r3 [88] (x1, x2, x3, x4) = (x1, x2, x3, r3) := rfl
theorem fwx_23 {r1 r2 r3 x1 x2 x3 x4 : Int32} : fws r1 r2 r3 [88, 88, 88] (x1, x2, x3, x4) = (x1, x2, x3, r3) := rfl
theorem run_eq {L : Nat} {B : Nat → Nat} {wd : Nat → Int64} {a b : Nat} (hw : wdR wd a b) : ∀ (n p : Nat) (S : List (Nat × Int32 × Int32 × Int32 × Int32)) (f f' pl : Nat), L - p ≤ n → p ≤ L → L - p < f → L - p < f' → crun L B wd a b f p S (-1, -1, -1, -1) Rn0 true pl = mpq (mrun (cdS L B wd a b) (nxS L B) (vld L B) f' (sk L B p) S) := by
  intro n
  induction n using Nat.strongRecOn with
  | ind n ih =>
    intro p S f f' pl hn hp0 hf0 hf'
    replace ih : ∀ m, m < L - p → ∀ (q : Nat) (S : List (Nat × Int32 × Int32 × Int32 × Int32)) (f f' pl : Nat), L - q ≤ m → q ≤ L → L - q < f → L - q < f' → crun L B wd a b f q S (-1, -1, -1, -1) Rn0 true pl = mpq (mrun (cdS L B wd a b) (nxS L B) (vld L B) f' (sk L B q) S) := fun m hm => ih m (by omega)
    cases f' with
    | zero => omega
    | succ f' =>
      simp only [mrun, sSen, sNam, sF, sHas, sQue, eK, eN, eT, eX, if_true]
      rw [cn0 hw rfl hf0]
      by_cases hk : cdS L B wd a b (sk L B p) = 17
      · simp only [(show (cdS L B wd a b (sk L B p) = 17) ↔ True from iff_true_intro hk), (show (cdS L B wd a b (sk L B p) = 23) ↔ False from iff_false_intro (by omega)), (show (cdS L B wd a b (sk L B p) = 24) ↔ False from iff_false_intro (by omega)), (show (40 ≤ cdS L B wd a b (sk L B p) ∧ cdS L B wd a b (sk L B p) ≤ 45) ↔ False from iff_false_intro (by omega)), if_true, if_false]
        obtain ⟨hp1, hf1, hd1⟩ := run_st (s := sk L B p) hw rfl hp0 hf0 (by omega)
        rw [fwx_17, nmC_n (c := cdS L B wd a b (sk L B p)) (by omega)]
        rw [cn1 (s := nxS L B (sk L B p)) hw rfl hf1]
        by_cases hk : cdS L B wd a b (nxS L B (sk L B p)) = 18
        · simp only [(show (cdS L B wd a b (nxS L B (sk L B p)) = 18) ↔ True from iff_true_intro hk), if_true, if_false]
          obtain ⟨hp2, hf2, hd2⟩ := run_st (s := nxS L B (sk L B p)) hw rfl hp1 hf1 (by omega)
          rw [fwx_10]
          rw [cn2 (s := nxS L B (nxS L B (sk L B p))) hw rfl hf2]
          by_cases hk : cdS L B wd a b (nxS L B (nxS L B (sk L B p))) = 19
          · simp only [(show (cdS L B wd a b (nxS L B (nxS L B (sk L B p))) = 19) ↔ True from iff_true_intro hk), if_true, if_false]
            obtain ⟨hp3, hf3, hd3⟩ := run_st (s := nxS L B (nxS L B (sk L B p))) hw rfl hp2 hf2 (by omega)
            rw [fwx_11]
            rw [cn3 (s := nxS L B (nxS L B (nxS L B (sk L B p)))) hw rfl hf3]
            by_cases hk : cdS L B wd a b (nxS L B (nxS L B (nxS L B (sk L B p)))) = 20
            · simp only [(show (cdS L B wd a b (nxS L B (nxS L B (nxS L B (sk L B p)))) = 20) ↔ True from iff_true_intro hk), if_true, if_false]
              obtain ⟨hp4, hf4, hd4⟩ := run_st (s := nxS L B (nxS L B (nxS L B (sk L B p)))) hw rfl hp3 hf3 (by omega)
              rw [fwx_12]
              rw [cn4 (s := nxS L B (nxS L B (nxS L B (nxS L B (sk L B p))))) hw rfl hf4]
              by_cases hk : cdS L B wd a b (nxS L B (nxS L B (nxS L B (nxS L B (sk L B p))))) = 1
              · simp only [(show (cdS L B wd a b (nxS L B (nxS L B (nxS L B (nxS L B (sk L B p))))) = 1) ↔ True from iff_true_intro hk), if_true, if_false]
                obtain ⟨hp5, hf5, hd5⟩ := run_st (s := nxS L B (nxS L B (nxS L B (nxS L B (sk L B p))))) hw rfl hp4 hf4 (by omega)
                rw [fwx_22, nuC_p (s := nxS L B (nxS L B (nxS L B (nxS L B (sk L B p))))) hk]
                rw [cn5 (s := nxS L B (nxS L B (nxS L B (nxS L B (nxS L B (sk L B p)))))) hw rfl hf5]
                by_cases hk : 50 ≤ cdS L B wd a b (nxS L B (nxS L B (nxS L B (nxS L B (nxS L B (sk L B p)))))) ∧ cdS L B wd a b (nxS L B (nxS L B (nxS L B (nxS L B (nxS L B (sk L B p)))))) ≤ 55
                · simp only [(show (50 ≤ cdS L B wd a b (nxS L B (nxS L B (nxS L B (nxS L B (nxS L B (sk L B p)))))) ∧ cdS L B wd a b (nxS L B (nxS L B (nxS L B (nxS L B (nxS L B (sk L B p)))))) ≤ 55) ↔ True from iff_true_intro hk), if_true, if_false]
                  obtain ⟨hp6, hf6, hd6⟩ := run_st (s := nxS L B (nxS L B (nxS L B (nxS L B (nxS L B (sk L B p)))))) hw rfl hp5 hf5 (by omega)
                  rw [fwx_19, tgC_p hk]
                  rw [cn6 (s := nxS L B (nxS L B (nxS L B (nxS L B (nxS L B (nxS L B (sk L B p))))))) hw rfl hf6]
                  by_cases hk : cdS L B wd a b (nxS L B (nxS L B (nxS L B (nxS L B (nxS L B (nxS L B (sk L B p))))))) = 2
                  · simp only [(show (cdS L B wd a b (nxS L B (nxS L B (nxS L B (nxS L B (nxS L B (nxS L B (sk L B p))))))) = 2) ↔ True from iff_true_intro hk), if_true, if_false]
                    obtain ⟨hp7, hf7, hd7⟩ := run_st (s := nxS L B (nxS L B (nxS L B (nxS L B (nxS L B (nxS L B (sk L B p))))))) hw rfl hp6 hf6 (by omega)
                    rw [fwx_0]
                    exact ih (L - nxt L B (nxS L B (nxS L B (nxS L B (nxS L B (nxS L B (nxS L B (sk L B p)))))))) (by omega) (nxt L B (nxS L B (nxS L B (nxS L B (nxS L B (nxS L B (nxS L B (sk L B p)))))))) _ _ _ _ (Nat.le_refl _) hp7 hf7 (by omega)
                  · skip
                    have hn6_2 := hk
                    simp only [(show (cdS L B wd a b (nxS L B (nxS L B (nxS L B (nxS L B (nxS L B (nxS L B (sk L B p))))))) = 2) ↔ False from iff_false_intro hn6_2), if_false]
                    rfl
                · skip
                  have hn5_T := hk
                  simp only [(show (50 ≤ cdS L B wd a b (nxS L B (nxS L B (nxS L B (nxS L B (nxS L B (sk L B p)))))) ∧ cdS L B wd a b (nxS L B (nxS L B (nxS L B (nxS L B (nxS L B (sk L B p)))))) ≤ 55) ↔ False from iff_false_intro hn5_T), if_false]
                  rfl
              · skip
                have hn4_1 := hk
                simp only [(show (cdS L B wd a b (nxS L B (nxS L B (nxS L B (nxS L B (sk L B p))))) = 1) ↔ False from iff_false_intro hn4_1), if_false]
                rfl
            · skip
              have hn3_20 := hk
              simp only [(show (cdS L B wd a b (nxS L B (nxS L B (nxS L B (sk L B p)))) = 20) ↔ False from iff_false_intro hn3_20), if_false]
              rfl
          · skip
            have hn2_19 := hk
            simp only [(show (cdS L B wd a b (nxS L B (nxS L B (sk L B p))) = 19) ↔ False from iff_false_intro hn2_19), if_false]
            rfl
        · skip
          have hn1_18 := hk
          simp only [(show (cdS L B wd a b (nxS L B (sk L B p)) = 18) ↔ False from iff_false_intro hn1_18), if_false]
          rfl
      · skip
        have hn0_17 := hk
        by_cases hk : cdS L B wd a b (sk L B p) = 23
        · simp only [(show (cdS L B wd a b (sk L B p) = 17) ↔ False from iff_false_intro (by omega)), (show (cdS L B wd a b (sk L B p) = 23) ↔ True from iff_true_intro hk), (show (cdS L B wd a b (sk L B p) = 24) ↔ False from iff_false_intro (by omega)), (show (40 ≤ cdS L B wd a b (sk L B p) ∧ cdS L B wd a b (sk L B p) ≤ 45) ↔ False from iff_false_intro (by omega)), if_true, if_false]
          obtain ⟨hp1, hf1, hd1⟩ := run_st (s := sk L B p) hw rfl hp0 hf0 (by omega)
          rw [fwx_17, nmC_n (c := cdS L B wd a b (sk L B p)) (by omega)]
          rw [cn7 (s := nxS L B (sk L B p)) hw rfl hf1]
          by_cases hk : 40 ≤ cdS L B wd a b (nxS L B (sk L B p)) ∧ cdS L B wd a b (nxS L B (sk L B p)) ≤ 45
          · simp only [(show (40 ≤ cdS L B wd a b (nxS L B (sk L B p)) ∧ cdS L B wd a b (nxS L B (sk L B p)) ≤ 45) ↔ True from iff_true_intro hk), if_true, if_false]
            obtain ⟨hp2, hf2, hd2⟩ := run_st (s := nxS L B (sk L B p)) hw rfl hp1 hf1 (by omega)
            rw [fwx_16, nmC_p hk]
            rw [cn8 (s := nxS L B (nxS L B (sk L B p))) hw rfl hf2]
            by_cases hk : cdS L B wd a b (nxS L B (nxS L B (sk L B p))) = 10
            · simp only [(show (cdS L B wd a b (nxS L B (nxS L B (sk L B p))) = 10) ↔ True from iff_true_intro hk), if_true, if_false]
              obtain ⟨hp3, hf3, hd3⟩ := run_st (s := nxS L B (nxS L B (sk L B p))) hw rfl hp2 hf2 (by omega)
              rw [fwx_3]
              rw [cn9 (s := nxS L B (nxS L B (nxS L B (sk L B p)))) hw rfl hf3]
              by_cases hk : cdS L B wd a b (nxS L B (nxS L B (nxS L B (sk L B p)))) = 1
              · simp only [(show (cdS L B wd a b (nxS L B (nxS L B (nxS L B (sk L B p)))) = 1) ↔ True from iff_true_intro hk), if_true, if_false]
                obtain ⟨hp4, hf4, hd4⟩ := run_st (s := nxS L B (nxS L B (nxS L B (sk L B p)))) hw rfl hp3 hf3 (by omega)
                rw [fwx_22, nuC_p (s := nxS L B (nxS L B (nxS L B (sk L B p)))) hk]
                rw [cn10 (s := nxS L B (nxS L B (nxS L B (nxS L B (sk L B p))))) hw rfl hf4]
                by_cases hk : 50 ≤ cdS L B wd a b (nxS L B (nxS L B (nxS L B (nxS L B (sk L B p))))) ∧ cdS L B wd a b (nxS L B (nxS L B (nxS L B (nxS L B (sk L B p))))) ≤ 55
                · simp only [(show (50 ≤ cdS L B wd a b (nxS L B (nxS L B (nxS L B (nxS L B (sk L B p))))) ∧ cdS L B wd a b (nxS L B (nxS L B (nxS L B (nxS L B (sk L B p))))) ≤ 55) ↔ True from iff_true_intro hk), if_true, if_false]
                  obtain ⟨hp5, hf5, hd5⟩ := run_st (s := nxS L B (nxS L B (nxS L B (nxS L B (sk L B p))))) hw rfl hp4 hf4 (by omega)
                  rw [fwx_19, tgC_p hk]
                  rw [cn11 (s := nxS L B (nxS L B (nxS L B (nxS L B (nxS L B (sk L B p)))))) hw rfl hf5]
                  by_cases hk : cdS L B wd a b (nxS L B (nxS L B (nxS L B (nxS L B (nxS L B (sk L B p)))))) = 2
                  · simp only [(show (cdS L B wd a b (nxS L B (nxS L B (nxS L B (nxS L B (nxS L B (sk L B p)))))) = 2) ↔ True from iff_true_intro hk), if_true, if_false]
                    obtain ⟨hp6, hf6, hd6⟩ := run_st (s := nxS L B (nxS L B (nxS L B (nxS L B (nxS L B (sk L B p)))))) hw rfl hp5 hf5 (by omega)
                    rw [fwx_0]
                    exact ih (L - nxt L B (nxS L B (nxS L B (nxS L B (nxS L B (nxS L B (sk L B p))))))) (by omega) (nxt L B (nxS L B (nxS L B (nxS L B (nxS L B (nxS L B (sk L B p))))))) _ _ _ _ (Nat.le_refl _) hp6 hf6 (by omega)
                  · skip
                    have hn5_2 := hk
                    simp only [(show (cdS L B wd a b (nxS L B (nxS L B (nxS L B (nxS L B (nxS L B (sk L B p)))))) = 2) ↔ False from iff_false_intro hn5_2), if_false]
                    rfl
                · skip
                  have hn4_T := hk
                  simp only [(show (50 ≤ cdS L B wd a b (nxS L B (nxS L B (nxS L B (nxS L B (sk L B p))))) ∧ cdS L B wd a b (nxS L B (nxS L B (nxS L B (nxS L B (sk L B p))))) ≤ 55) ↔ False from iff_false_intro hn4_T), if_false]
                  rfl
              · skip
                have hn3_1 := hk
                simp only [(show (cdS L B wd a b (nxS L B (nxS L B (nxS L B (sk L B p)))) = 1) ↔ False from iff_false_intro hn3_1), if_false]
                rfl
            · skip
              have hn2_10 := hk
              simp only [(show (cdS L B wd a b (nxS L B (nxS L B (sk L B p))) = 10) ↔ False from iff_false_intro hn2_10), if_false]
              rfl
          · skip
            have hn1_N := hk
            simp only [(show (40 ≤ cdS L B wd a b (nxS L B (sk L B p)) ∧ cdS L B wd a b (nxS L B (sk L B p)) ≤ 45) ↔ False from iff_false_intro hn1_N), if_false]
            rfl
        · skip
          have hn0_23 := hk
          by_cases hk : cdS L B wd a b (sk L B p) = 24
          · simp only [(show (cdS L B wd a b (sk L B p) = 17) ↔ False from iff_false_intro (by omega)), (show (cdS L B wd a b (sk L B p) = 23) ↔ False from iff_false_intro (by omega)), (show (cdS L B wd a b (sk L B p) = 24) ↔ True from iff_true_intro hk), (show (40 ≤ cdS L B wd a b (sk L B p) ∧ cdS L B wd a b (sk L B p) ≤ 45) ↔ False from iff_false_intro (by omega)), if_true, if_false]
            obtain ⟨hp1, hf1, hd1⟩ := run_st (s := sk L B p) hw rfl hp0 hf0 (by omega)
            rw [fwx_17, nmC_n (c := cdS L B wd a b (sk L B p)) (by omega)]
            rw [cn12 (s := nxS L B (sk L B p)) hw rfl hf1]
            by_cases hk : cdS L B wd a b (nxS L B (sk L B p)) = 25
            · simp only [(show (cdS L B wd a b (nxS L B (sk L B p)) = 25) ↔ True from iff_true_intro hk), if_true, if_false]
              obtain ⟨hp2, hf2, hd2⟩ := run_st (s := nxS L B (sk L B p)) hw rfl hp1 hf1 (by omega)
              rw [fwx_14]
              rw [cn13 (s := nxS L B (nxS L B (sk L B p))) hw rfl hf2]
              by_cases hk : 50 ≤ cdS L B wd a b (nxS L B (nxS L B (sk L B p))) ∧ cdS L B wd a b (nxS L B (nxS L B (sk L B p))) ≤ 55
              · simp only [(show (50 ≤ cdS L B wd a b (nxS L B (nxS L B (sk L B p))) ∧ cdS L B wd a b (nxS L B (nxS L B (sk L B p))) ≤ 55) ↔ True from iff_true_intro hk), if_true, if_false]
                obtain ⟨hp3, hf3, hd3⟩ := run_st (s := nxS L B (nxS L B (sk L B p))) hw rfl hp2 hf2 (by omega)
                rw [fwx_21, tgC_p hk]
                rw [cn14 (s := nxS L B (nxS L B (nxS L B (sk L B p)))) hw rfl hf3]
                by_cases hk : cdS L B wd a b (nxS L B (nxS L B (nxS L B (sk L B p)))) = 10
                · simp only [(show (cdS L B wd a b (nxS L B (nxS L B (nxS L B (sk L B p)))) = 10) ↔ True from iff_true_intro hk), (show (cdS L B wd a b (nxS L B (nxS L B (nxS L B (sk L B p)))) = 20) ↔ False from iff_false_intro (by omega)), (show (cdS L B wd a b (nxS L B (nxS L B (nxS L B (sk L B p)))) = 26) ↔ False from iff_false_intro (by omega)), (show (cdS L B wd a b (nxS L B (nxS L B (nxS L B (sk L B p)))) = 28) ↔ False from iff_false_intro (by omega)), if_true, if_false]
                  obtain ⟨hp4, hf4, hd4⟩ := run_st (s := nxS L B (nxS L B (nxS L B (sk L B p)))) hw rfl hp3 hf3 (by omega)
                  rw [fwx_5]
                  rw [cn15 (s := nxS L B (nxS L B (nxS L B (nxS L B (sk L B p))))) hw rfl hf4]
                  by_cases hk : 40 ≤ cdS L B wd a b (nxS L B (nxS L B (nxS L B (nxS L B (sk L B p))))) ∧ cdS L B wd a b (nxS L B (nxS L B (nxS L B (nxS L B (sk L B p))))) ≤ 45
                  · simp only [(show (40 ≤ cdS L B wd a b (nxS L B (nxS L B (nxS L B (nxS L B (sk L B p))))) ∧ cdS L B wd a b (nxS L B (nxS L B (nxS L B (nxS L B (sk L B p))))) ≤ 45) ↔ True from iff_true_intro hk), if_true, if_false]
                    obtain ⟨hp5, hf5, hd5⟩ := run_st (s := nxS L B (nxS L B (nxS L B (nxS L B (sk L B p))))) hw rfl hp4 hf4 (by omega)
                    rw [fwx_16, nmC_p hk]
                    rw [cn16 (s := nxS L B (nxS L B (nxS L B (nxS L B (nxS L B (sk L B p)))))) hw rfl hf5]
                    by_cases hk : cdS L B wd a b (nxS L B (nxS L B (nxS L B (nxS L B (nxS L B (sk L B p)))))) = 3
                    · simp only [(show (cdS L B wd a b (nxS L B (nxS L B (nxS L B (nxS L B (nxS L B (sk L B p)))))) = 3) ↔ True from iff_true_intro hk), if_true, if_false]
                      obtain ⟨hp6, hf6, hd6⟩ := run_st (s := nxS L B (nxS L B (nxS L B (nxS L B (nxS L B (sk L B p)))))) hw rfl hp5 hf5 (by omega)
                      rw [fwx_2]
                      by_cases hz : cdS L B wd a b (nxS L B (nxS L B (nxS L B (nxS L B (nxS L B (nxS L B (sk L B p))))))) = 0
                      · rw [if_pos hz, if_pos hz]; rfl
                      · rw [if_neg hz, if_neg hz]; rfl
                    · skip
                      have hn5_3 := hk
                      simp only [(show (cdS L B wd a b (nxS L B (nxS L B (nxS L B (nxS L B (nxS L B (sk L B p)))))) = 3) ↔ False from iff_false_intro hn5_3), if_false]
                      rfl
                  · skip
                    have hn4_N := hk
                    simp only [(show (40 ≤ cdS L B wd a b (nxS L B (nxS L B (nxS L B (nxS L B (sk L B p))))) ∧ cdS L B wd a b (nxS L B (nxS L B (nxS L B (nxS L B (sk L B p))))) ≤ 45) ↔ False from iff_false_intro hn4_N), if_false]
                    rfl
                · skip
                  have hn3_10 := hk
                  by_cases hk : cdS L B wd a b (nxS L B (nxS L B (nxS L B (sk L B p)))) = 20
                  · simp only [(show (cdS L B wd a b (nxS L B (nxS L B (nxS L B (sk L B p)))) = 10) ↔ False from iff_false_intro (by omega)), (show (cdS L B wd a b (nxS L B (nxS L B (nxS L B (sk L B p)))) = 20) ↔ True from iff_true_intro hk), (show (cdS L B wd a b (nxS L B (nxS L B (nxS L B (sk L B p)))) = 26) ↔ False from iff_false_intro (by omega)), (show (cdS L B wd a b (nxS L B (nxS L B (nxS L B (sk L B p)))) = 28) ↔ False from iff_false_intro (by omega)), if_true, if_false]
                    obtain ⟨hp4, hf4, hd4⟩ := run_st (s := nxS L B (nxS L B (nxS L B (sk L B p)))) hw rfl hp3 hf3 (by omega)
                    rw [fwx_5]
                    rw [cn17 (s := nxS L B (nxS L B (nxS L B (nxS L B (sk L B p))))) hw rfl hf4]
                    by_cases hk : cdS L B wd a b (nxS L B (nxS L B (nxS L B (nxS L B (sk L B p))))) = 17
                    · simp only [(show (cdS L B wd a b (nxS L B (nxS L B (nxS L B (nxS L B (sk L B p))))) = 17) ↔ True from iff_true_intro hk), if_true, if_false]
                      obtain ⟨hp5, hf5, hd5⟩ := run_st (s := nxS L B (nxS L B (nxS L B (nxS L B (sk L B p))))) hw rfl hp4 hf4 (by omega)
                      rw [fwx_9]
                      rw [cn18 (s := nxS L B (nxS L B (nxS L B (nxS L B (nxS L B (sk L B p)))))) hw rfl hf5]
                      by_cases hk : cdS L B wd a b (nxS L B (nxS L B (nxS L B (nxS L B (nxS L B (sk L B p)))))) = 18
                      · simp only [(show (cdS L B wd a b (nxS L B (nxS L B (nxS L B (nxS L B (nxS L B (sk L B p)))))) = 18) ↔ True from iff_true_intro hk), if_true, if_false]
                        obtain ⟨hp6, hf6, hd6⟩ := run_st (s := nxS L B (nxS L B (nxS L B (nxS L B (nxS L B (sk L B p)))))) hw rfl hp5 hf5 (by omega)
                        rw [fwx_10]
                        rw [cn19 (s := nxS L B (nxS L B (nxS L B (nxS L B (nxS L B (nxS L B (sk L B p))))))) hw rfl hf6]
                        by_cases hk : cdS L B wd a b (nxS L B (nxS L B (nxS L B (nxS L B (nxS L B (nxS L B (sk L B p))))))) = 19
                        · simp only [(show (cdS L B wd a b (nxS L B (nxS L B (nxS L B (nxS L B (nxS L B (nxS L B (sk L B p))))))) = 19) ↔ True from iff_true_intro hk), if_true, if_false]
                          obtain ⟨hp7, hf7, hd7⟩ := run_st (s := nxS L B (nxS L B (nxS L B (nxS L B (nxS L B (nxS L B (sk L B p))))))) hw rfl hp6 hf6 (by omega)
                          rw [fwx_11]
                          rw [cn20 (s := nxS L B (nxS L B (nxS L B (nxS L B (nxS L B (nxS L B (nxS L B (sk L B p)))))))) hw rfl hf7]
                          by_cases hk : cdS L B wd a b (nxS L B (nxS L B (nxS L B (nxS L B (nxS L B (nxS L B (nxS L B (sk L B p)))))))) = 3
                          · simp only [(show (cdS L B wd a b (nxS L B (nxS L B (nxS L B (nxS L B (nxS L B (nxS L B (nxS L B (sk L B p)))))))) = 3) ↔ True from iff_true_intro hk), if_true, if_false]
                            obtain ⟨hp8, hf8, hd8⟩ := run_st (s := nxS L B (nxS L B (nxS L B (nxS L B (nxS L B (nxS L B (nxS L B (sk L B p)))))))) hw rfl hp7 hf7 (by omega)
                            rw [fwx_2]
                            by_cases hz : cdS L B wd a b (nxS L B (nxS L B (nxS L B (nxS L B (nxS L B (nxS L B (nxS L B (nxS L B (sk L B p))))))))) = 0
                            · rw [if_pos hz, if_pos hz]; rfl
                            · rw [if_neg hz, if_neg hz]; rfl
                          · skip
                            have hn7_3 := hk
                            simp only [(show (cdS L B wd a b (nxS L B (nxS L B (nxS L B (nxS L B (nxS L B (nxS L B (nxS L B (sk L B p)))))))) = 3) ↔ False from iff_false_intro hn7_3), if_false]
                            rfl
                        · skip
                          have hn6_19 := hk
                          simp only [(show (cdS L B wd a b (nxS L B (nxS L B (nxS L B (nxS L B (nxS L B (nxS L B (sk L B p))))))) = 19) ↔ False from iff_false_intro hn6_19), if_false]
                          rfl
                      · skip
                        have hn5_18 := hk
                        simp only [(show (cdS L B wd a b (nxS L B (nxS L B (nxS L B (nxS L B (nxS L B (sk L B p)))))) = 18) ↔ False from iff_false_intro hn5_18), if_false]
                        rfl
                    · skip
                      have hn4_17 := hk
                      simp only [(show (cdS L B wd a b (nxS L B (nxS L B (nxS L B (nxS L B (sk L B p))))) = 17) ↔ False from iff_false_intro hn4_17), if_false]
                      rfl
                  · skip
                    have hn3_20 := hk
                    by_cases hk : cdS L B wd a b (nxS L B (nxS L B (nxS L B (sk L B p)))) = 26
                    · simp only [(show (cdS L B wd a b (nxS L B (nxS L B (nxS L B (sk L B p)))) = 10) ↔ False from iff_false_intro (by omega)), (show (cdS L B wd a b (nxS L B (nxS L B (nxS L B (sk L B p)))) = 20) ↔ False from iff_false_intro (by omega)), (show (cdS L B wd a b (nxS L B (nxS L B (nxS L B (sk L B p)))) = 26) ↔ True from iff_true_intro hk), (show (cdS L B wd a b (nxS L B (nxS L B (nxS L B (sk L B p)))) = 28) ↔ False from iff_false_intro (by omega)), if_true, if_false]
                      obtain ⟨hp4, hf4, hd4⟩ := run_st (s := nxS L B (nxS L B (nxS L B (sk L B p)))) hw rfl hp3 hf3 (by omega)
                      rw [fwx_5]
                      rw [cn21 (s := nxS L B (nxS L B (nxS L B (nxS L B (sk L B p))))) hw rfl hf4]
                      by_cases hk : cdS L B wd a b (nxS L B (nxS L B (nxS L B (nxS L B (sk L B p))))) = 27
                      · simp only [(show (cdS L B wd a b (nxS L B (nxS L B (nxS L B (nxS L B (sk L B p))))) = 27) ↔ True from iff_true_intro hk), if_true, if_false]
                        obtain ⟨hp5, hf5, hd5⟩ := run_st (s := nxS L B (nxS L B (nxS L B (nxS L B (sk L B p))))) hw rfl hp4 hf4 (by omega)
                        rw [fwx_15]
                        rw [cn22 (s := nxS L B (nxS L B (nxS L B (nxS L B (nxS L B (sk L B p)))))) hw rfl hf5]
                        by_cases hk : cdS L B wd a b (nxS L B (nxS L B (nxS L B (nxS L B (nxS L B (sk L B p)))))) = 3
                        · simp only [(show (cdS L B wd a b (nxS L B (nxS L B (nxS L B (nxS L B (nxS L B (sk L B p)))))) = 3) ↔ True from iff_true_intro hk), if_true, if_false]
                          obtain ⟨hp6, hf6, hd6⟩ := run_st (s := nxS L B (nxS L B (nxS L B (nxS L B (nxS L B (sk L B p)))))) hw rfl hp5 hf5 (by omega)
                          rw [fwx_2]
                          by_cases hz : cdS L B wd a b (nxS L B (nxS L B (nxS L B (nxS L B (nxS L B (nxS L B (sk L B p))))))) = 0
                          · rw [if_pos hz, if_pos hz]; rfl
                          · rw [if_neg hz, if_neg hz]; rfl
                        · skip
                          have hn5_3 := hk
                          simp only [(show (cdS L B wd a b (nxS L B (nxS L B (nxS L B (nxS L B (nxS L B (sk L B p)))))) = 3) ↔ False from iff_false_intro hn5_3), if_false]
                          rfl
                      · skip
                        have hn4_27 := hk
                        simp only [(show (cdS L B wd a b (nxS L B (nxS L B (nxS L B (nxS L B (sk L B p))))) = 27) ↔ False from iff_false_intro hn4_27), if_false]
                        rfl
                    · skip
                      have hn3_26 := hk
                      by_cases hk : cdS L B wd a b (nxS L B (nxS L B (nxS L B (sk L B p)))) = 28
                      · simp only [(show (cdS L B wd a b (nxS L B (nxS L B (nxS L B (sk L B p)))) = 10) ↔ False from iff_false_intro (by omega)), (show (cdS L B wd a b (nxS L B (nxS L B (nxS L B (sk L B p)))) = 20) ↔ False from iff_false_intro (by omega)), (show (cdS L B wd a b (nxS L B (nxS L B (nxS L B (sk L B p)))) = 26) ↔ False from iff_false_intro (by omega)), (show (cdS L B wd a b (nxS L B (nxS L B (nxS L B (sk L B p)))) = 28) ↔ True from iff_true_intro hk), if_true, if_false]
                        obtain ⟨hp4, hf4, hd4⟩ := run_st (s := nxS L B (nxS L B (nxS L B (sk L B p)))) hw rfl hp3 hf3 (by omega)
                        rw [fwx_5]
                        rw [cn23 (s := nxS L B (nxS L B (nxS L B (nxS L B (sk L B p))))) hw rfl hf4]
                        by_cases hk : 40 ≤ cdS L B wd a b (nxS L B (nxS L B (nxS L B (nxS L B (sk L B p))))) ∧ cdS L B wd a b (nxS L B (nxS L B (nxS L B (nxS L B (sk L B p))))) ≤ 45
                        · simp only [(show (40 ≤ cdS L B wd a b (nxS L B (nxS L B (nxS L B (nxS L B (sk L B p))))) ∧ cdS L B wd a b (nxS L B (nxS L B (nxS L B (nxS L B (sk L B p))))) ≤ 45) ↔ True from iff_true_intro hk), if_true, if_false]
                          obtain ⟨hp5, hf5, hd5⟩ := run_st (s := nxS L B (nxS L B (nxS L B (nxS L B (sk L B p))))) hw rfl hp4 hf4 (by omega)
                          rw [fwx_16, nmC_p hk]
                          rw [cn24 (s := nxS L B (nxS L B (nxS L B (nxS L B (nxS L B (sk L B p)))))) hw rfl hf5]
                          by_cases hk : cdS L B wd a b (nxS L B (nxS L B (nxS L B (nxS L B (nxS L B (sk L B p)))))) = 3
                          · simp only [(show (cdS L B wd a b (nxS L B (nxS L B (nxS L B (nxS L B (nxS L B (sk L B p)))))) = 3) ↔ True from iff_true_intro hk), if_true, if_false]
                            obtain ⟨hp6, hf6, hd6⟩ := run_st (s := nxS L B (nxS L B (nxS L B (nxS L B (nxS L B (sk L B p)))))) hw rfl hp5 hf5 (by omega)
                            rw [fwx_2]
                            by_cases hz : cdS L B wd a b (nxS L B (nxS L B (nxS L B (nxS L B (nxS L B (nxS L B (sk L B p))))))) = 0
                            · rw [if_pos hz, if_pos hz]; rfl
                            · rw [if_neg hz, if_neg hz]; rfl
                          · skip
                            have hn5_3 := hk
                            simp only [(show (cdS L B wd a b (nxS L B (nxS L B (nxS L B (nxS L B (nxS L B (sk L B p)))))) = 3) ↔ False from iff_false_intro hn5_3), if_false]
                            rfl
                        · skip
                          have hn4_N := hk
                          simp only [(show (40 ≤ cdS L B wd a b (nxS L B (nxS L B (nxS L B (nxS L B (sk L B p))))) ∧ cdS L B wd a b (nxS L B (nxS L B (nxS L B (nxS L B (sk L B p))))) ≤ 45) ↔ False from iff_false_intro hn4_N), if_false]
                          rfl
                      · skip
                        have hn3_28 := hk
                        simp only [(show (cdS L B wd a b (nxS L B (nxS L B (nxS L B (sk L B p)))) = 10) ↔ False from iff_false_intro hn3_10), (show (cdS L B wd a b (nxS L B (nxS L B (nxS L B (sk L B p)))) = 20) ↔ False from iff_false_intro hn3_20), (show (cdS L B wd a b (nxS L B (nxS L B (nxS L B (sk L B p)))) = 26) ↔ False from iff_false_intro hn3_26), (show (cdS L B wd a b (nxS L B (nxS L B (nxS L B (sk L B p)))) = 28) ↔ False from iff_false_intro hn3_28), if_false]
                        rfl
              · skip
                have hn2_T := hk
                simp only [(show (50 ≤ cdS L B wd a b (nxS L B (nxS L B (sk L B p))) ∧ cdS L B wd a b (nxS L B (nxS L B (sk L B p))) ≤ 55) ↔ False from iff_false_intro hn2_T), if_false]
                rfl
            · skip
              have hn1_25 := hk
              simp only [(show (cdS L B wd a b (nxS L B (sk L B p)) = 25) ↔ False from iff_false_intro hn1_25), if_false]
              rfl
          · skip
            have hn0_24 := hk
            by_cases hk : 40 ≤ cdS L B wd a b (sk L B p) ∧ cdS L B wd a b (sk L B p) ≤ 45
            · simp only [(show (cdS L B wd a b (sk L B p) = 17) ↔ False from iff_false_intro (by omega)), (show (cdS L B wd a b (sk L B p) = 23) ↔ False from iff_false_intro (by omega)), (show (cdS L B wd a b (sk L B p) = 24) ↔ False from iff_false_intro (by omega)), (show (40 ≤ cdS L B wd a b (sk L B p) ∧ cdS L B wd a b (sk L B p) ≤ 45) ↔ True from iff_true_intro hk), if_true, if_false]
              obtain ⟨hp1, hf1, hd1⟩ := run_st (s := sk L B p) hw rfl hp0 hf0 (by omega)
              rw [fwx_17, nmC_p hk]
              rw [cn25 (s := nxS L B (sk L B p)) hw rfl hf1]
              by_cases hk : cdS L B wd a b (nxS L B (sk L B p)) = 10
              · simp only [(show (cdS L B wd a b (nxS L B (sk L B p)) = 10) ↔ True from iff_true_intro hk), (show (cdS L B wd a b (nxS L B (sk L B p)) = 12) ↔ False from iff_false_intro (by omega)), (show (cdS L B wd a b (nxS L B (sk L B p)) = 13) ↔ False from iff_false_intro (by omega)), (show (cdS L B wd a b (nxS L B (sk L B p)) = 14) ↔ False from iff_false_intro (by omega)), if_true, if_false]
                obtain ⟨hp2, hf2, hd2⟩ := run_st (s := nxS L B (sk L B p)) hw rfl hp1 hf1 (by omega)
                rw [fwx_4]
                rw [cn26 (s := nxS L B (nxS L B (sk L B p))) hw rfl hf2]
                by_cases hk : cdS L B wd a b (nxS L B (nxS L B (sk L B p))) = 1
                · simp only [(show (cdS L B wd a b (nxS L B (nxS L B (sk L B p))) = 1) ↔ True from iff_true_intro hk), if_true, if_false]
                  obtain ⟨hp3, hf3, hd3⟩ := run_st (s := nxS L B (nxS L B (sk L B p))) hw rfl hp2 hf2 (by omega)
                  rw [fwx_23, nuC_p (s := nxS L B (nxS L B (sk L B p))) hk]
                  rw [cn27 (s := nxS L B (nxS L B (nxS L B (sk L B p)))) hw rfl hf3]
                  by_cases hk : cdS L B wd a b (nxS L B (nxS L B (nxS L B (sk L B p)))) = 11
                  · simp only [(show (cdS L B wd a b (nxS L B (nxS L B (nxS L B (sk L B p)))) = 11) ↔ True from iff_true_intro hk), (show (50 ≤ cdS L B wd a b (nxS L B (nxS L B (nxS L B (sk L B p)))) ∧ cdS L B wd a b (nxS L B (nxS L B (nxS L B (sk L B p)))) ≤ 55) ↔ False from iff_false_intro (by omega)), if_true, if_false]
                    obtain ⟨hp4, hf4, hd4⟩ := run_st (s := nxS L B (nxS L B (nxS L B (sk L B p)))) hw rfl hp3 hf3 (by omega)
                    rw [fwx_20, tgC_n (c := cdS L B wd a b (nxS L B (nxS L B (nxS L B (sk L B p))))) (by omega)]
                    rw [cn28 (s := nxS L B (nxS L B (nxS L B (nxS L B (sk L B p))))) hw rfl hf4]
                    by_cases hk : cdS L B wd a b (nxS L B (nxS L B (nxS L B (nxS L B (sk L B p))))) = 2
                    · simp only [(show (cdS L B wd a b (nxS L B (nxS L B (nxS L B (nxS L B (sk L B p))))) = 2) ↔ True from iff_true_intro hk), if_true, if_false]
                      obtain ⟨hp5, hf5, hd5⟩ := run_st (s := nxS L B (nxS L B (nxS L B (nxS L B (sk L B p))))) hw rfl hp4 hf4 (by omega)
                      rw [fwx_0]
                      exact ih (L - nxt L B (nxS L B (nxS L B (nxS L B (nxS L B (sk L B p)))))) (by omega) (nxt L B (nxS L B (nxS L B (nxS L B (nxS L B (sk L B p)))))) _ _ _ _ (Nat.le_refl _) hp5 hf5 (by omega)
                    · skip
                      have hn4_2 := hk
                      simp only [(show (cdS L B wd a b (nxS L B (nxS L B (nxS L B (nxS L B (sk L B p))))) = 2) ↔ False from iff_false_intro hn4_2), if_false]
                      rfl
                  · skip
                    have hn3_11 := hk
                    by_cases hk : 50 ≤ cdS L B wd a b (nxS L B (nxS L B (nxS L B (sk L B p)))) ∧ cdS L B wd a b (nxS L B (nxS L B (nxS L B (sk L B p)))) ≤ 55
                    · simp only [(show (cdS L B wd a b (nxS L B (nxS L B (nxS L B (sk L B p)))) = 11) ↔ False from iff_false_intro (by omega)), (show (50 ≤ cdS L B wd a b (nxS L B (nxS L B (nxS L B (sk L B p)))) ∧ cdS L B wd a b (nxS L B (nxS L B (nxS L B (sk L B p)))) ≤ 55) ↔ True from iff_true_intro hk), if_true, if_false]
                      obtain ⟨hp4, hf4, hd4⟩ := run_st (s := nxS L B (nxS L B (nxS L B (sk L B p)))) hw rfl hp3 hf3 (by omega)
                      rw [fwx_20, tgC_p hk]
                      rw [cn29 (s := nxS L B (nxS L B (nxS L B (nxS L B (sk L B p))))) hw rfl hf4]
                      by_cases hk : cdS L B wd a b (nxS L B (nxS L B (nxS L B (nxS L B (sk L B p))))) = 2
                      · simp only [(show (cdS L B wd a b (nxS L B (nxS L B (nxS L B (nxS L B (sk L B p))))) = 2) ↔ True from iff_true_intro hk), (show (cdS L B wd a b (nxS L B (nxS L B (nxS L B (nxS L B (sk L B p))))) = 21) ↔ False from iff_false_intro (by omega)), if_true, if_false]
                        obtain ⟨hp5, hf5, hd5⟩ := run_st (s := nxS L B (nxS L B (nxS L B (nxS L B (sk L B p))))) hw rfl hp4 hf4 (by omega)
                        rw [fwx_0]
                        exact ih (L - nxt L B (nxS L B (nxS L B (nxS L B (nxS L B (sk L B p)))))) (by omega) (nxt L B (nxS L B (nxS L B (nxS L B (nxS L B (sk L B p)))))) _ _ _ _ (Nat.le_refl _) hp5 hf5 (by omega)
                      · skip
                        have hn4_2 := hk
                        by_cases hk : cdS L B wd a b (nxS L B (nxS L B (nxS L B (nxS L B (sk L B p))))) = 21
                        · simp only [(show (cdS L B wd a b (nxS L B (nxS L B (nxS L B (nxS L B (sk L B p))))) = 2) ↔ False from iff_false_intro (by omega)), (show (cdS L B wd a b (nxS L B (nxS L B (nxS L B (nxS L B (sk L B p))))) = 21) ↔ True from iff_true_intro hk), if_true, if_false]
                          obtain ⟨hp5, hf5, hd5⟩ := run_st (s := nxS L B (nxS L B (nxS L B (nxS L B (sk L B p))))) hw rfl hp4 hf4 (by omega)
                          rw [fwx_1]
                          rw [cn30 (s := nxS L B (nxS L B (nxS L B (nxS L B (nxS L B (sk L B p)))))) hw rfl hf5]
                          by_cases hk : cdS L B wd a b (nxS L B (nxS L B (nxS L B (nxS L B (nxS L B (sk L B p)))))) = 22
                          · simp only [(show (cdS L B wd a b (nxS L B (nxS L B (nxS L B (nxS L B (nxS L B (sk L B p)))))) = 22) ↔ True from iff_true_intro hk), if_true, if_false]
                            obtain ⟨hp6, hf6, hd6⟩ := run_st (s := nxS L B (nxS L B (nxS L B (nxS L B (nxS L B (sk L B p)))))) hw rfl hp5 hf5 (by omega)
                            rw [fwx_13]
                            rw [cn31 (s := nxS L B (nxS L B (nxS L B (nxS L B (nxS L B (nxS L B (sk L B p))))))) hw rfl hf6]
                            by_cases hk : 40 ≤ cdS L B wd a b (nxS L B (nxS L B (nxS L B (nxS L B (nxS L B (nxS L B (sk L B p))))))) ∧ cdS L B wd a b (nxS L B (nxS L B (nxS L B (nxS L B (nxS L B (nxS L B (sk L B p))))))) ≤ 45
                            · simp only [(show (40 ≤ cdS L B wd a b (nxS L B (nxS L B (nxS L B (nxS L B (nxS L B (nxS L B (sk L B p))))))) ∧ cdS L B wd a b (nxS L B (nxS L B (nxS L B (nxS L B (nxS L B (nxS L B (sk L B p))))))) ≤ 45) ↔ True from iff_true_intro hk), if_true, if_false]
                              obtain ⟨hp7, hf7, hd7⟩ := run_st (s := nxS L B (nxS L B (nxS L B (nxS L B (nxS L B (nxS L B (sk L B p))))))) hw rfl hp6 hf6 (by omega)
                              rw [fwx_18, nmC_p hk]
                              rw [cn32 (s := nxS L B (nxS L B (nxS L B (nxS L B (nxS L B (nxS L B (nxS L B (sk L B p)))))))) hw rfl hf7]
                              by_cases hk : cdS L B wd a b (nxS L B (nxS L B (nxS L B (nxS L B (nxS L B (nxS L B (nxS L B (sk L B p)))))))) = 2
                              · simp only [(show (cdS L B wd a b (nxS L B (nxS L B (nxS L B (nxS L B (nxS L B (nxS L B (nxS L B (sk L B p)))))))) = 2) ↔ True from iff_true_intro hk), if_true, if_false]
                                obtain ⟨hp8, hf8, hd8⟩ := run_st (s := nxS L B (nxS L B (nxS L B (nxS L B (nxS L B (nxS L B (nxS L B (sk L B p)))))))) hw rfl hp7 hf7 (by omega)
                                rw [fwx_0]
                                exact ih (L - nxt L B (nxS L B (nxS L B (nxS L B (nxS L B (nxS L B (nxS L B (nxS L B (sk L B p))))))))) (by omega) (nxt L B (nxS L B (nxS L B (nxS L B (nxS L B (nxS L B (nxS L B (nxS L B (sk L B p))))))))) _ _ _ _ (Nat.le_refl _) hp8 hf8 (by omega)
                              · skip
                                have hn7_2 := hk
                                simp only [(show (cdS L B wd a b (nxS L B (nxS L B (nxS L B (nxS L B (nxS L B (nxS L B (nxS L B (sk L B p)))))))) = 2) ↔ False from iff_false_intro hn7_2), if_false]
                                rfl
                            · skip
                              have hn6_N := hk
                              simp only [(show (40 ≤ cdS L B wd a b (nxS L B (nxS L B (nxS L B (nxS L B (nxS L B (nxS L B (sk L B p))))))) ∧ cdS L B wd a b (nxS L B (nxS L B (nxS L B (nxS L B (nxS L B (nxS L B (sk L B p))))))) ≤ 45) ↔ False from iff_false_intro hn6_N), if_false]
                              rfl
                          · skip
                            have hn5_22 := hk
                            simp only [(show (cdS L B wd a b (nxS L B (nxS L B (nxS L B (nxS L B (nxS L B (sk L B p)))))) = 22) ↔ False from iff_false_intro hn5_22), if_false]
                            rfl
                        · skip
                          have hn4_21 := hk
                          simp only [(show (cdS L B wd a b (nxS L B (nxS L B (nxS L B (nxS L B (sk L B p))))) = 2) ↔ False from iff_false_intro hn4_2), (show (cdS L B wd a b (nxS L B (nxS L B (nxS L B (nxS L B (sk L B p))))) = 21) ↔ False from iff_false_intro hn4_21), if_false]
                          rfl
                    · skip
                      have hn3_T := hk
                      simp only [(show (cdS L B wd a b (nxS L B (nxS L B (nxS L B (sk L B p)))) = 11) ↔ False from iff_false_intro hn3_11), (show (50 ≤ cdS L B wd a b (nxS L B (nxS L B (nxS L B (sk L B p)))) ∧ cdS L B wd a b (nxS L B (nxS L B (nxS L B (sk L B p)))) ≤ 55) ↔ False from iff_false_intro hn3_T), if_false]
                      rfl
                · skip
                  have hn2_1 := hk
                  simp only [(show (cdS L B wd a b (nxS L B (nxS L B (sk L B p))) = 1) ↔ False from iff_false_intro hn2_1), if_false]
                  rfl
              · skip
                have hn1_10 := hk
                by_cases hk : cdS L B wd a b (nxS L B (sk L B p)) = 12
                · simp only [(show (cdS L B wd a b (nxS L B (sk L B p)) = 10) ↔ False from iff_false_intro (by omega)), (show (cdS L B wd a b (nxS L B (sk L B p)) = 12) ↔ True from iff_true_intro hk), (show (cdS L B wd a b (nxS L B (sk L B p)) = 13) ↔ False from iff_false_intro (by omega)), (show (cdS L B wd a b (nxS L B (sk L B p)) = 14) ↔ False from iff_false_intro (by omega)), if_true, if_false]
                  obtain ⟨hp2, hf2, hd2⟩ := run_st (s := nxS L B (sk L B p)) hw rfl hp1 hf1 (by omega)
                  rw [fwx_4]
                  rw [cn33 (s := nxS L B (nxS L B (sk L B p))) hw rfl hf2]
                  by_cases hk : cdS L B wd a b (nxS L B (nxS L B (sk L B p))) = 1
                  · simp only [(show (cdS L B wd a b (nxS L B (nxS L B (sk L B p))) = 1) ↔ True from iff_true_intro hk), if_true, if_false]
                    obtain ⟨hp3, hf3, hd3⟩ := run_st (s := nxS L B (nxS L B (sk L B p))) hw rfl hp2 hf2 (by omega)
                    rw [fwx_22, nuC_p (s := nxS L B (nxS L B (sk L B p))) hk]
                    rw [cn34 (s := nxS L B (nxS L B (nxS L B (sk L B p)))) hw rfl hf3]
                    by_cases hk : 50 ≤ cdS L B wd a b (nxS L B (nxS L B (nxS L B (sk L B p)))) ∧ cdS L B wd a b (nxS L B (nxS L B (nxS L B (sk L B p)))) ≤ 55
                    · simp only [(show (50 ≤ cdS L B wd a b (nxS L B (nxS L B (nxS L B (sk L B p)))) ∧ cdS L B wd a b (nxS L B (nxS L B (nxS L B (sk L B p)))) ≤ 55) ↔ True from iff_true_intro hk), if_true, if_false]
                      obtain ⟨hp4, hf4, hd4⟩ := run_st (s := nxS L B (nxS L B (nxS L B (sk L B p)))) hw rfl hp3 hf3 (by omega)
                      rw [fwx_19, tgC_p hk]
                      rw [cn35 (s := nxS L B (nxS L B (nxS L B (nxS L B (sk L B p))))) hw rfl hf4]
                      by_cases hk : cdS L B wd a b (nxS L B (nxS L B (nxS L B (nxS L B (sk L B p))))) = 2
                      · simp only [(show (cdS L B wd a b (nxS L B (nxS L B (nxS L B (nxS L B (sk L B p))))) = 2) ↔ True from iff_true_intro hk), if_true, if_false]
                        obtain ⟨hp5, hf5, hd5⟩ := run_st (s := nxS L B (nxS L B (nxS L B (nxS L B (sk L B p))))) hw rfl hp4 hf4 (by omega)
                        rw [fwx_0]
                        exact ih (L - nxt L B (nxS L B (nxS L B (nxS L B (nxS L B (sk L B p)))))) (by omega) (nxt L B (nxS L B (nxS L B (nxS L B (nxS L B (sk L B p)))))) _ _ _ _ (Nat.le_refl _) hp5 hf5 (by omega)
                      · skip
                        have hn4_2 := hk
                        simp only [(show (cdS L B wd a b (nxS L B (nxS L B (nxS L B (nxS L B (sk L B p))))) = 2) ↔ False from iff_false_intro hn4_2), if_false]
                        rfl
                    · skip
                      have hn3_T := hk
                      simp only [(show (50 ≤ cdS L B wd a b (nxS L B (nxS L B (nxS L B (sk L B p)))) ∧ cdS L B wd a b (nxS L B (nxS L B (nxS L B (sk L B p)))) ≤ 55) ↔ False from iff_false_intro hn3_T), if_false]
                      rfl
                  · skip
                    have hn2_1 := hk
                    simp only [(show (cdS L B wd a b (nxS L B (nxS L B (sk L B p))) = 1) ↔ False from iff_false_intro hn2_1), if_false]
                    rfl
                · skip
                  have hn1_12 := hk
                  by_cases hk : cdS L B wd a b (nxS L B (sk L B p)) = 13
                  · simp only [(show (cdS L B wd a b (nxS L B (sk L B p)) = 10) ↔ False from iff_false_intro (by omega)), (show (cdS L B wd a b (nxS L B (sk L B p)) = 12) ↔ False from iff_false_intro (by omega)), (show (cdS L B wd a b (nxS L B (sk L B p)) = 13) ↔ True from iff_true_intro hk), (show (cdS L B wd a b (nxS L B (sk L B p)) = 14) ↔ False from iff_false_intro (by omega)), if_true, if_false]
                    obtain ⟨hp2, hf2, hd2⟩ := run_st (s := nxS L B (sk L B p)) hw rfl hp1 hf1 (by omega)
                    rw [fwx_4]
                    rw [cn36 (s := nxS L B (nxS L B (sk L B p))) hw rfl hf2]
                    by_cases hk : cdS L B wd a b (nxS L B (nxS L B (sk L B p))) = 1
                    · simp only [(show (cdS L B wd a b (nxS L B (nxS L B (sk L B p))) = 1) ↔ True from iff_true_intro hk), if_true, if_false]
                      obtain ⟨hp3, hf3, hd3⟩ := run_st (s := nxS L B (nxS L B (sk L B p))) hw rfl hp2 hf2 (by omega)
                      rw [fwx_22, nuC_p (s := nxS L B (nxS L B (sk L B p))) hk]
                      rw [cn37 (s := nxS L B (nxS L B (nxS L B (sk L B p)))) hw rfl hf3]
                      by_cases hk : 50 ≤ cdS L B wd a b (nxS L B (nxS L B (nxS L B (sk L B p)))) ∧ cdS L B wd a b (nxS L B (nxS L B (nxS L B (sk L B p)))) ≤ 55
                      · simp only [(show (50 ≤ cdS L B wd a b (nxS L B (nxS L B (nxS L B (sk L B p)))) ∧ cdS L B wd a b (nxS L B (nxS L B (nxS L B (sk L B p)))) ≤ 55) ↔ True from iff_true_intro hk), if_true, if_false]
                        obtain ⟨hp4, hf4, hd4⟩ := run_st (s := nxS L B (nxS L B (nxS L B (sk L B p)))) hw rfl hp3 hf3 (by omega)
                        rw [fwx_19, tgC_p hk]
                        rw [cn38 (s := nxS L B (nxS L B (nxS L B (nxS L B (sk L B p))))) hw rfl hf4]
                        by_cases hk : cdS L B wd a b (nxS L B (nxS L B (nxS L B (nxS L B (sk L B p))))) = 2
                        · simp only [(show (cdS L B wd a b (nxS L B (nxS L B (nxS L B (nxS L B (sk L B p))))) = 2) ↔ True from iff_true_intro hk), if_true, if_false]
                          obtain ⟨hp5, hf5, hd5⟩ := run_st (s := nxS L B (nxS L B (nxS L B (nxS L B (sk L B p))))) hw rfl hp4 hf4 (by omega)
                          rw [fwx_0]
                          exact ih (L - nxt L B (nxS L B (nxS L B (nxS L B (nxS L B (sk L B p)))))) (by omega) (nxt L B (nxS L B (nxS L B (nxS L B (nxS L B (sk L B p)))))) _ _ _ _ (Nat.le_refl _) hp5 hf5 (by omega)
                        · skip
                          have hn4_2 := hk
                          simp only [(show (cdS L B wd a b (nxS L B (nxS L B (nxS L B (nxS L B (sk L B p))))) = 2) ↔ False from iff_false_intro hn4_2), if_false]
                          rfl
                      · skip
                        have hn3_T := hk
                        simp only [(show (50 ≤ cdS L B wd a b (nxS L B (nxS L B (nxS L B (sk L B p)))) ∧ cdS L B wd a b (nxS L B (nxS L B (nxS L B (sk L B p)))) ≤ 55) ↔ False from iff_false_intro hn3_T), if_false]
                        rfl
                    · skip
                      have hn2_1 := hk
                      simp only [(show (cdS L B wd a b (nxS L B (nxS L B (sk L B p))) = 1) ↔ False from iff_false_intro hn2_1), if_false]
                      rfl
                  · skip
                    have hn1_13 := hk
                    by_cases hk : cdS L B wd a b (nxS L B (sk L B p)) = 14
                    · simp only [(show (cdS L B wd a b (nxS L B (sk L B p)) = 10) ↔ False from iff_false_intro (by omega)), (show (cdS L B wd a b (nxS L B (sk L B p)) = 12) ↔ False from iff_false_intro (by omega)), (show (cdS L B wd a b (nxS L B (sk L B p)) = 13) ↔ False from iff_false_intro (by omega)), (show (cdS L B wd a b (nxS L B (sk L B p)) = 14) ↔ True from iff_true_intro hk), if_true, if_false]
                      obtain ⟨hp2, hf2, hd2⟩ := run_st (s := nxS L B (sk L B p)) hw rfl hp1 hf1 (by omega)
                      rw [fwx_4]
                      rw [cn39 (s := nxS L B (nxS L B (sk L B p))) hw rfl hf2]
                      by_cases hk : cdS L B wd a b (nxS L B (nxS L B (sk L B p))) = 15
                      · simp only [(show (cdS L B wd a b (nxS L B (nxS L B (sk L B p))) = 15) ↔ True from iff_true_intro hk), if_true, if_false]
                        obtain ⟨hp3, hf3, hd3⟩ := run_st (s := nxS L B (nxS L B (sk L B p))) hw rfl hp2 hf2 (by omega)
                        rw [fwx_7]
                        rw [cn40 (s := nxS L B (nxS L B (nxS L B (sk L B p)))) hw rfl hf3]
                        by_cases hk : cdS L B wd a b (nxS L B (nxS L B (nxS L B (sk L B p)))) = 16
                        · simp only [(show (cdS L B wd a b (nxS L B (nxS L B (nxS L B (sk L B p)))) = 16) ↔ True from iff_true_intro hk), if_true, if_false]
                          obtain ⟨hp4, hf4, hd4⟩ := run_st (s := nxS L B (nxS L B (nxS L B (sk L B p)))) hw rfl hp3 hf3 (by omega)
                          rw [fwx_8]
                          rw [cn41 (s := nxS L B (nxS L B (nxS L B (nxS L B (sk L B p))))) hw rfl hf4]
                          by_cases hk : cdS L B wd a b (nxS L B (nxS L B (nxS L B (nxS L B (sk L B p))))) = 1
                          · simp only [(show (cdS L B wd a b (nxS L B (nxS L B (nxS L B (nxS L B (sk L B p))))) = 1) ↔ True from iff_true_intro hk), if_true, if_false]
                            obtain ⟨hp5, hf5, hd5⟩ := run_st (s := nxS L B (nxS L B (nxS L B (nxS L B (sk L B p))))) hw rfl hp4 hf4 (by omega)
                            rw [fwx_22, nuC_p (s := nxS L B (nxS L B (nxS L B (nxS L B (sk L B p))))) hk]
                            rw [cn42 (s := nxS L B (nxS L B (nxS L B (nxS L B (nxS L B (sk L B p)))))) hw rfl hf5]
                            by_cases hk : cdS L B wd a b (nxS L B (nxS L B (nxS L B (nxS L B (nxS L B (sk L B p)))))) = 11
                            · simp only [(show (cdS L B wd a b (nxS L B (nxS L B (nxS L B (nxS L B (nxS L B (sk L B p)))))) = 11) ↔ True from iff_true_intro hk), if_true, if_false]
                              obtain ⟨hp6, hf6, hd6⟩ := run_st (s := nxS L B (nxS L B (nxS L B (nxS L B (nxS L B (sk L B p)))))) hw rfl hp5 hf5 (by omega)
                              rw [fwx_6]
                              rw [cn43 (s := nxS L B (nxS L B (nxS L B (nxS L B (nxS L B (nxS L B (sk L B p))))))) hw rfl hf6]
                              by_cases hk : cdS L B wd a b (nxS L B (nxS L B (nxS L B (nxS L B (nxS L B (nxS L B (sk L B p))))))) = 2
                              · simp only [(show (cdS L B wd a b (nxS L B (nxS L B (nxS L B (nxS L B (nxS L B (nxS L B (sk L B p))))))) = 2) ↔ True from iff_true_intro hk), if_true, if_false]
                                obtain ⟨hp7, hf7, hd7⟩ := run_st (s := nxS L B (nxS L B (nxS L B (nxS L B (nxS L B (nxS L B (sk L B p))))))) hw rfl hp6 hf6 (by omega)
                                rw [fwx_0]
                                exact ih (L - nxt L B (nxS L B (nxS L B (nxS L B (nxS L B (nxS L B (nxS L B (sk L B p)))))))) (by omega) (nxt L B (nxS L B (nxS L B (nxS L B (nxS L B (nxS L B (nxS L B (sk L B p)))))))) _ _ _ _ (Nat.le_refl _) hp7 hf7 (by omega)
                              · skip
                                have hn6_2 := hk
                                simp only [(show (cdS L B wd a b (nxS L B (nxS L B (nxS L B (nxS L B (nxS L B (nxS L B (sk L B p))))))) = 2) ↔ False from iff_false_intro hn6_2), if_false]
                                rfl
                            · skip
                              have hn5_11 := hk
                              simp only [(show (cdS L B wd a b (nxS L B (nxS L B (nxS L B (nxS L B (nxS L B (sk L B p)))))) = 11) ↔ False from iff_false_intro hn5_11), if_false]
                              rfl
                          · skip
                            have hn4_1 := hk
                            simp only [(show (cdS L B wd a b (nxS L B (nxS L B (nxS L B (nxS L B (sk L B p))))) = 1) ↔ False from iff_false_intro hn4_1), if_false]
                            rfl
                        · skip
                          have hn3_16 := hk
                          simp only [(show (cdS L B wd a b (nxS L B (nxS L B (nxS L B (sk L B p)))) = 16) ↔ False from iff_false_intro hn3_16), if_false]
                          rfl
                      · skip
                        have hn2_15 := hk
                        simp only [(show (cdS L B wd a b (nxS L B (nxS L B (sk L B p))) = 15) ↔ False from iff_false_intro hn2_15), if_false]
                        rfl
                    · skip
                      have hn1_14 := hk
                      simp only [(show (cdS L B wd a b (nxS L B (sk L B p)) = 10) ↔ False from iff_false_intro hn1_10), (show (cdS L B wd a b (nxS L B (sk L B p)) = 12) ↔ False from iff_false_intro hn1_12), (show (cdS L B wd a b (nxS L B (sk L B p)) = 13) ↔ False from iff_false_intro hn1_13), (show (cdS L B wd a b (nxS L B (sk L B p)) = 14) ↔ False from iff_false_intro hn1_14), if_false]
                      rfl
            · skip
              have hn0_N := hk
              simp only [(show (cdS L B wd a b (sk L B p) = 17) ↔ False from iff_false_intro hn0_17), (show (cdS L B wd a b (sk L B p) = 23) ↔ False from iff_false_intro hn0_23), (show (cdS L B wd a b (sk L B p) = 24) ↔ False from iff_false_intro hn0_24), (show (40 ≤ cdS L B wd a b (sk L B p) ∧ cdS L B wd a b (sk L B p) ≤ 45) ↔ False from iff_false_intro hn0_N), if_false]
              rfl
