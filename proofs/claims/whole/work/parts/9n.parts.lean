/-! ===== parts of forms ===== -/
/-- the place of a part, what it is, the place behind it -/
def prt (k : Nat) : List (Nat × Nat × Nat) := ([[(0, 78, 2), (2, 10, 6), (6, 88, 8), (8, 84, 9), (9, 2, 10)], [(0, 78, 2), (2, 10, 6), (6, 88, 8), (8, 11, 13), (13, 2, 14)], [(0, 78, 2), (2, 12, 7), (7, 88, 9), (9, 84, 10), (10, 2, 11)], [(0, 78, 2), (2, 13, 8), (8, 88, 10), (10, 84, 11), (11, 2, 12)], [(0, 78, 2), (2, 14, 7), (7, 15, 12), (12, 16, 17), (17, 88, 19), (19, 11, 24), (24, 2, 25)], [(0, 17, 3), (3, 18, 5), (5, 19, 9), (9, 20, 13), (13, 88, 15), (15, 84, 16), (16, 2, 17)], [(0, 78, 2), (2, 10, 6), (6, 88, 8), (8, 84, 10), (10, 21, 15), (15, 22, 20), (20, 79, 21), (21, 2, 22)], [(0, 23, 4), (4, 78, 6), (6, 10, 10), (10, 88, 12), (12, 84, 13), (13, 2, 14)], [(0, 24, 4), (4, 25, 9), (9, 84, 11), (11, 10, 15), (15, 78, 16), (16, 3, 17)], [(0, 24, 4), (4, 25, 9), (9, 84, 11), (11, 20, 15), (15, 17, 18), (18, 18, 20), (20, 19, 23), (23, 3, 24)], [(0, 24, 4), (4, 25, 9), (9, 84, 11), (11, 26, 16), (16, 27, 20), (20, 3, 21)], [(0, 24, 4), (4, 25, 9), (9, 84, 11), (11, 28, 15), (15, 78, 16), (16, 3, 17)]]).getD k []
def pNx (k q : Nat) : Nat := if q < i_bl (k + 2) ∧ sBy (k + 2) q = 32 then q + 1 else q
theorem prt_a : ∀ k, k < 12 → ∀ e ∈ prt k, e.1 < i_bl (k + 2) ∧ e.2.2 ≤ i_bl (k + 2) ∧ e.2.1 < 100 ∧ 0 < e.2.2 := by decide +kernel
theorem prt_n : ∀ k, k < 12 → ∀ e ∈ prt k, (e.2.1 = 78 ∨ e.2.1 = 79 ∨ e.2.1 = 84 ∨ e.2.1 = 88) → sBy (k + 2) e.1 = nI e.2.1 ∧ pNx k (e.1 + 1) = e.2.2 := by decide +kernel
theorem prt_k1 : ∀ k, k < 12 → ∀ e ∈ prt k, 10 ≤ e.2.1 → e.2.1 ≤ 28 → (97 ≤ sBy (k + 2) e.1 ∧ sBy (k + 2) e.1 ≤ 122) ∧ e.1 + (kwl e.2.1).length ≤ i_bl (k + 2) ∧ pNx k (e.1 + (kwl e.2.1).length) = e.2.2 := by decide +kernel
theorem prt_k2 : ∀ k, k < 12 → ∀ e ∈ prt k, 10 ≤ e.2.1 → e.2.1 ≤ 28 → ∀ j, j < (kwl e.2.1).length → sBy (k + 2) (e.1 + j) = nI ((kwl e.2.1).getD j 0) := by decide +kernel
theorem prt_k3 : ∀ k, k < 12 → ∀ e ∈ prt k, 10 ≤ e.2.1 → e.2.1 ≤ 28 → (e.1 + (kwl e.2.1).length = i_bl (k + 2) ∨ ¬ (97 ≤ sBy (k + 2) (e.1 + (kwl e.2.1).length) ∧ sBy (k + 2) (e.1 + (kwl e.2.1).length) ≤ 122)) := by decide +kernel
theorem prt_s : ∀ k, k < 12 → ∀ e ∈ prt k, (e.2.1 = 2 ∨ e.2.1 = 3) → ((e.2.1 = 2 ∧ sBy (k + 2) e.1 = 46) ∨ (e.2.1 = 3 ∧ sBy (k + 2) e.1 = 63)) ∧ e.1 + 1 = i_bl (k + 2) ∧ pNx k (e.1 + 1) = e.2.2 := by decide +kernel
theorem prt_c : ∀ k, k < 12 → ∀ e ∈ prt k, (e.2.1 = 78 ∨ e.2.1 = 79 ∨ e.2.1 = 84 ∨ e.2.1 = 88) ∨ (10 ≤ e.2.1 ∧ e.2.1 ≤ 28) ∨ (e.2.1 = 2 ∨ e.2.1 = 3) := by decide +kernel
theorem wl_get {B : Nat → Nat} {s n j : Nat} (h : j < n) : (wl B s n)[j]? = some (B (s + j)) := by
  unfold wl
  rw [List.getElem?_map, List.getElem?_range' (by omega)]
  simp
theorem wl_eq {B : Nat → Nat} {s n : Nat} {W : List Nat} : wl B s n = W ↔ (n = W.length ∧ ∀ j, j < n → B (s + j) = W.getD j 0) := by
  constructor
  · rintro rfl
    refine ⟨wl_len.symm, fun j hj => ?_⟩
    rw [List.getD_eq_getElem?_getD, wl_get hj]; rfl
  · rintro ⟨hn, h⟩
    refine List.ext_getElem? (fun j => ?_)
    by_cases hj : j < n
    · rw [wl_get hj, h j hj, List.getD_eq_getElem?_getD, List.getElem?_eq_getElem (by omega)]; rfl
    · rw [List.getElem?_eq_none (by rw [wl_len]; omega), List.getElem?_eq_none (by omega)]
theorem wE_in {L : Nat} {B : Nat → Nat} {s j : Nat} (h : s + j < wE L B s) : s + j < L ∧ isLt (B (s + j)) = true := by
  have := scn_in (pr := fun q => decide (q < L) && isLt (B q)) (L - s) s (s + j) (by omega) h
  simpa using this
theorem ltI_n {c : Nat} (h : c < 256) : (97 ≤ nI c ∧ nI c ≤ 122) ↔ isLt c = true := by
  unfold isLt
  rw [show (97 : Int32) = nI 97 from rfl, show (122 : Int32) = nI 122 from rfl, nI_leI (by omega) (by omega), nI_leI (by omega) (by omega), decide_eq_true_eq]
theorem smp_w {L : Nat} {B : Nat → Nat} {wd : Nat → Int64} {a b s k r K : Nat} (hw : wdR wd a b) (hb : ∀ p, p < L → B p < 256) (hs : s ≤ L) (hK1 : 10 ≤ K) (hK2 : K ≤ 28)
    (p1 : 97 ≤ sBy k r ∧ sBy k r ≤ 122) (p2 : r + (kwl K).length ≤ i_bl k) (p3 : ∀ j, j < (kwl K).length → sBy k (r + j) = nI ((kwl K).getD j 0)) (p4 : r + (kwl K).length = i_bl k ∨ ¬ (97 ≤ sBy k (r + (kwl K).length) ∧ sBy k (r + (kwl K).length) ≤ 122)) :
    (smp L B k r s = true ↔ cod L B wd a b s = nI K) ∧ (smp L B k r s = true → nxt L B s - s = (kwl K).length) := by
  obtain ⟨i, hi, rfl⟩ : ∃ i, i < 19 ∧ K = 10 + i := ⟨K - 10, by omega, by omega⟩
  obtain ⟨q1, q2, q3⟩ := kwl_ok i hi
  have key : ∀ (c : Int32), cod L B wd a b s = c → (∃ n : Nat, n < 10 ∧ c = nI n) → smp L B k r s = false → (smp L B k r s = true ↔ cod L B wd a b s = nI (10 + i)) ∧ (smp L B k r s = true → nxt L B s - s = (kwl (10 + i)).length) := by
    rintro c hc ⟨n, hn, rfl⟩ hf
    refine ⟨⟨fun h => (by rw [hf] at h; cases h), fun h => ?_⟩, fun h => (by rw [hf] at h; cases h)⟩
    rw [hc, nI_eq (by omega) (by omega)] at h
    omega
  have hkf : (¬ kkd L B s = 1 ∧ ¬ kkd L B s = 3) → smp L B k r s = false := by
    rintro ⟨h1, h3⟩
    unfold smp
    rw [decide_eq_false_iff_not]
    exact fun q => q.1.elim h1 h3
  by_cases hend : L ≤ s
  · refine key 0 (by unfold cod; rw [if_pos hend]) ⟨0, by omega, rfl⟩ (hkf ?_)
    unfold kkd
    rw [if_pos hend]; decide
  · have hlt : s < L := by omega
    by_cases hl : isLt (B s) = true
    · have hkk : kkd L B s = 1 := by unfold kkd; rw [if_neg hend, if_pos hl]
      have hnx : nxt L B s = wE L B s := by unfold nxt; rw [if_neg hend, if_pos hl]
      have hnb := nxt_b (B := B) hs
      rw [hnx] at hnb
      have hle : ∀ j, j < wE L B s - s → s + j < L ∧ isLt (B (s + j)) = true := fun j hj => wE_in (by omega)
      have hsm : smp L B k r s = true ↔ wl B s (wE L B s - s) = kwl (10 + i) := by
        unfold smp
        rw [decide_eq_true_eq, hnx, wl_eq]
        have k3 : ¬ kkd L B s = 3 := by rw [hkk]; decide
        have hB : ∀ j, j < wE L B s - s → tB L B (s + j) = nI (B (s + j)) := fun j hj => by unfold tB; rw [if_pos (hle j hj).1]
        constructor
        · rintro ⟨_, h2, h3, h4⟩
          have h4 : r + (wE L B s - s) = i_bl k ∨ ¬ (97 ≤ sBy k (r + (wE L B s - s)) ∧ sBy k (r + (wE L B s - s)) ≤ 122) := h4.resolve_left k3
          have hn : wE L B s - s = (kwl (10 + i)).length := by
            rcases Nat.lt_trichotomy (wE L B s - s) (kwl (10 + i)).length with h | h | h
            · exfalso
              rcases h4 with h5 | h5
              · omega
              · have hm := q3 ((kwl (10 + i)).getD (wE L B s - s) 0) (by rw [List.getD_eq_getElem?_getD, List.getElem?_eq_getElem h]; exact List.getElem_mem h)
                rw [p3 _ h] at h5
                exact h5 ((ltI_n (by omega)).mpr (by unfold isLt; rw [decide_eq_true_eq]; exact hm))
            · exact h
            · exfalso
              have h6 := h3 _ h
              rw [hB _ h] at h6
              rcases p4 with h5 | h5
              · omega
              · rw [h6] at h5
                exact h5 ((ltI_n (hb _ (hle _ h).1)).mpr (hle _ h).2)
          refine ⟨hn, fun j hj => ?_⟩
          have h6 := h3 j hj
          rw [hB j hj, p3 j (by omega), nI_eq] at h6
          · exact h6.symm
          · have := q3 ((kwl (10 + i)).getD j 0) (by rw [List.getD_eq_getElem?_getD, List.getElem?_eq_getElem (by omega)]; exact List.getElem_mem _)
            omega
          · have := hb _ (hle j hj).1; omega
        · rintro ⟨hn, h⟩
          refine ⟨Or.inl hkk, by omega, fun j hj => ?_, Or.inr (by rw [hn]; exact p4)⟩
          rw [hB j hj, h j hj]; exact p3 j (by omega)
      refine ⟨?_, fun h => by rw [hnx, ← wl_len (B := B) (s := s) (k := wE L B s - s), hsm.mp h]⟩
      rw [hsm]
      unfold cod
      rw [if_neg hend, if_pos hl]
      by_cases h8 : 8 < wE L B s - s
      · rw [if_pos h8]
        constructor
        · intro h
          have := congrArg List.length h
          rw [wl_len] at this
          omega
        · intro h
          exact absurd ((nI_eq (a := 4) (by omega) (by omega)).mp h) (by omega)
      · rw [if_neg h8]
        obtain ⟨c, c1, c2, _, _, _, c3⟩ := tok_w hw (lN (npack (wl B s (wE L B s - s))))
        have hwl : ∀ c ∈ wl B s (wE L B s - s), 97 ≤ c ∧ c ≤ 122 := by
          intro c hc
          unfold wl at hc
          rw [List.mem_map] at hc
          obtain ⟨p, hp, rfl⟩ := hc
          rw [List.mem_range'_1] at hp
          have := (hle (p - s) (by omega)).2
          rw [show s + (p - s) = p by omega] at this
          unfold isLt at this
          simpa using this
        rw [c2, nI_eq (by omega) (by omega), c3 _ hK1 hK2]
        constructor
        · intro h; rw [h]
        · intro h; exact npack_inj hwl (by rw [wl_len]; omega) q3 q2 h
    · by_cases hd : isDg (B s) = true
      · refine key _ rfl ?_ (hkf ?_)
        · unfold cod
          rw [if_neg hend, if_neg hl, if_pos hd]
          split
          · exact ⟨4, by omega, rfl⟩
          · exact ⟨1, by omega, rfl⟩
        · unfold kkd
          rw [if_neg hend, if_neg hl, if_pos hd]
          split <;> decide
      · refine key _ rfl ?_ ?_
        · unfold cod
          rw [if_neg hend, if_neg hl, if_neg hd]
          split
          · exact ⟨2, by omega, rfl⟩
          · split
            · exact ⟨3, by omega, rfl⟩
            · exact ⟨4, by omega, rfl⟩
        · have hnx : nxt L B s = s + 1 := by unfold nxt; rw [if_neg hend, if_neg hl, if_neg hd]
          unfold smp
          rw [decide_eq_false_iff_not, hnx]
          intro q
          have h0 := q.2.2.1 0 (by omega)
          rw [Nat.add_zero, Nat.add_zero] at h0
          unfold tB at h0
          rw [if_pos hlt] at h0
          rw [h0] at p1
          exact hl ((ltI_n (hb s hlt)).mp p1)
theorem smp_s {L : Nat} {B : Nat → Nat} {wd : Nat → Int64} {a b s k r K : Nat} (hw : wdR wd a b) (hb : ∀ p, p < L → B p < 256) (hs : s ≤ L) (hK : (K = 2 ∧ sBy k r = 46) ∨ (K = 3 ∧ sBy k r = 63)) (p2 : r + 1 = i_bl k) :
    (smp L B k r s = true ↔ cod L B wd a b s = nI K) ∧ (smp L B k r s = true → nxt L B s - s = 1) := by
  have hkf : (¬ kkd L B s = 1 ∧ ¬ kkd L B s = 3) → smp L B k r s = false := by
    rintro ⟨h1, h3⟩
    unfold smp
    rw [decide_eq_false_iff_not]
    exact fun q => q.1.elim h1 h3
  have key : ∀ n : Nat, cod L B wd a b s = nI n → n < 100 → n ≠ 2 → n ≠ 3 → smp L B k r s = false → (smp L B k r s = true ↔ cod L B wd a b s = nI K) ∧ (smp L B k r s = true → nxt L B s - s = 1) := by
    intro n hc hn n2 n3 hf
    refine ⟨⟨fun h => (by rw [hf] at h; cases h), fun h => ?_⟩, fun h => (by rw [hf] at h; cases h)⟩
    rw [hc, nI_eq (by omega) (by omega)] at h
    omega
  have hv : sBy k r = 46 ∨ sBy k r = 63 := hK.elim (fun h => Or.inl h.2) (fun h => Or.inr h.2)
  by_cases hend : L ≤ s
  · refine key 0 (by unfold cod; rw [if_pos hend]; rfl) (by omega) (by omega) (by omega) (hkf ?_)
    unfold kkd
    rw [if_pos hend]; decide
  · have hlt : s < L := by omega
    have h256 := hb s hlt
    by_cases hl : isLt (B s) = true
    · have hnb := nxt_b (B := B) hs
      have hf : smp L B k r s = false := by
        unfold smp
        rw [decide_eq_false_iff_not]
        intro q
        have h0 := q.2.2.1 0 (by omega)
        rw [Nat.add_zero, Nat.add_zero] at h0
        unfold tB at h0
        rw [if_pos hlt] at h0
        have h1 := (ltI_n h256).mpr hl
        rw [← h0] at h1
        rcases hv with h | h <;> rw [h] at h1 <;> exact absurd h1 (by decide)
      unfold cod at key ⊢
      rw [if_neg hend, if_pos hl] at key ⊢
      by_cases h8 : 8 < wE L B s - s
      · rw [if_pos h8] at key ⊢
        exact key 4 rfl (by omega) (by omega) (by omega) hf
      · rw [if_neg h8] at key ⊢
        obtain ⟨c, c1, c2, c3, _⟩ := tok_w hw (lN (npack (wl B s (wE L B s - s))))
        exact key c c2 (by omega) (by omega) (by omega) hf
    · by_cases hd : isDg (B s) = true
      · have hf : smp L B k r s = false := by
          refine hkf ?_
          unfold kkd
          rw [if_neg hend, if_neg hl, if_pos hd]
          split <;> decide
        unfold cod at key ⊢
        rw [if_neg hend, if_neg hl, if_pos hd] at key ⊢
        by_cases h4 : 4 < dE L B s - s ∨ B s = 48
        · rw [if_pos h4] at key ⊢; exact key 4 rfl (by omega) (by omega) (by omega) hf
        · rw [if_neg h4] at key ⊢; exact key 1 rfl (by omega) (by omega) (by omega) hf
      · have hnx : nxt L B s = s + 1 := by unfold nxt; rw [if_neg hend, if_neg hl, if_neg hd]
        have ht : tB L B s = nI (B s) := by unfold tB; rw [if_pos hlt]
        have hkk : kkd L B s = if B s = 46 ∨ B s = 63 then 3 else 4 := by unfold kkd; rw [if_neg hend, if_neg hl, if_neg hd]
        have hcod : cod L B wd a b s = if B s = 46 then 2 else if B s = 63 then 3 else 4 := by unfold cod; rw [if_neg hend, if_neg hl, if_neg hd]
        have hsm : smp L B k r s = true ↔ ((B s = 46 ∨ B s = 63) ∧ sBy k r = nI (B s)) := by
          unfold smp
          rw [decide_eq_true_eq, hnx, hkk, show s + 1 - s = 1 by omega]
          constructor
          · rintro ⟨h1, h2, h3, _⟩
            have h0 := h3 0 (by omega)
            rw [Nat.add_zero, Nat.add_zero, ht] at h0
            refine ⟨?_, h0⟩
            by_cases h : B s = 46 ∨ B s = 63
            · exact h
            · rw [if_neg h] at h1; exact absurd h1 (by decide)
          · rintro ⟨h1, h2⟩
            rw [if_pos h1]
            refine ⟨Or.inr rfl, by omega, fun j hj => ?_, Or.inl rfl⟩
            rw [show j = 0 by omega, Nat.add_zero, Nat.add_zero, ht]; exact h2
        refine ⟨?_, fun _ => by rw [hnx]; omega⟩
        rw [hsm, hcod]
        have e46 : (46 : Int32) = nI (B s) ↔ 46 = B s := nI_eq (a := 46) (by omega) (by omega)
        have e63 : (63 : Int32) = nI (B s) ↔ 63 = B s := nI_eq (a := 63) (by omega) (by omega)
        rcases hK with ⟨rfl, hr⟩ | ⟨rfl, hr⟩
        · rw [hr, e46]
          by_cases h1 : B s = 46
          · rw [if_pos h1, h1]; simp; rfl
          · rw [if_neg h1]
            constructor
            · intro q; exact absurd q.2.symm h1
            · intro q; split at q <;> exact absurd q (by decide)
        · rw [hr, e63]
          by_cases h1 : B s = 46
          · rw [if_pos h1, h1]
            constructor
            · intro q; omega
            · intro q; exact absurd q (by decide)
          · rw [if_neg h1]
            by_cases h2 : B s = 63
            · rw [if_pos h2, h2]; simp; rfl
            · rw [if_neg h2]
              constructor
              · intro q; exact absurd q.2.symm h2
              · intro q; exact absurd q (by decide)
