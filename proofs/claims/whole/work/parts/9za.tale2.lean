/-! ===== the reference's fold tells a tale ===== -/
theorem kd_c : ∀ s, s < 8 → (kd s 0 = 0 ∨ kd s 0 = 1 ∨ kd s 0 = 2) ∧ (kd s 1 = 2 ∨ kd s 1 = 3 ∨ kd s 1 = 4 ∨ kd s 1 = 5 ∨ kd s 1 = 6 ∨ kd s 1 = 7) ∧ (kd s 1 = 6 ↔ s = 4 ∨ s = 5) ∧ (s = 7 → kd s 2 = 4) := by decide +kernel
theorem it_4 {u : Sn} {n m t : Int32} (hn : ¬ n < 0) : ((itS 4 (true, n, m) u t).1 = true ↔ wdS 4 u n m t) ∧ ((itS 4 (true, n, m) u t).1 = true → (itS 4 (true, n, m) u t).2 = (n, m)) := by
  simp [itS, wdS, hn]
  grind
theorem it_F {S : List Sn} {q : Nat × Int32 × Int32} {s : Nat} {ia : Option Nat} {tu : Bool} (hs : s < 8) (hS : ∀ t ∈ S, wfS t) (hl : S.length = bdy s + (if ia.isSome then 1 else 0)) :
    ((itF S q s ia tu (bdy s)).1 = true ↔ ∀ k, k < bdy s → wdS (kd s k) (uV S q (ptx ia (wj tu k))) (tNn S q ia tu) (tNm S q s ia tu) q.2.2) ∧ ((itF S q s ia tu (bdy s)).1 = true → (itF S q s ia tu (bdy s)).2 = (tNn S q ia tu, tNm S q s ia tu)) := by
  have hb := bdy_b s
  obtain ⟨k0, k1, k6, k7⟩ := kd_c s hs
  have hpx : ∀ k, k < bdy s → ptx ia (wj tu k) < S.length := by
    intro k hk
    have h1 : wj tu k < bdy s := by unfold wj; split <;> omega
    rw [hl]
    cases ia with
    | none => exact h1
    | some p => unfold ptx; dsimp only [Option.isSome]; rw [if_pos rfl]; split <;> omega
  have hm : tNm S q s ia tu = if kd s 1 = 6 then (uV S q (ptx ia (wj tu 1))).2.1 else -1 := by
    unfold tNm
    simp only [k6]
  have h2 := it_two (t := q.2.2) k0 k1 (uV_wf (q := q) hS (hpx 0 (by omega))) hm
  have hpw : (uV S q (ptx ia (wj tu 0))).1 = kd s 0 → ¬ (uV S q (ptx ia (wj tu 0))).2.1 < 0 := fun h => wf_pos (uV_wf (q := q) hS (hpx 0 (by omega))) (by omega)
  by_cases h7 : s = 7
  · have e3 : bdy s = 3 := by rw [h7]; rfl
    rw [e3]
    have hk2 := k7 h7
    have ef : itF S q s ia tu 3 = itS 4 (itS (kd s 1) (itS (kd s 0) (true, -1, -1) (uV S q (ptx ia (wj tu 0))) q.2.2) (uV S q (ptx ia (wj tu 1))) q.2.2) (uV S q (ptx ia (wj tu 2))) q.2.2 := by
      rw [← hk2]; rfl
    rw [ef]
    generalize hx : itS (kd s 1) (itS (kd s 0) (true, -1, -1) (uV S q (ptx ia (wj tu 0))) q.2.2) (uV S q (ptx ia (wj tu 1))) q.2.2 = x at h2
    obtain ⟨x1, x2, x3⟩ := x
    have hall : (∀ k, k < 3 → wdS (kd s k) (uV S q (ptx ia (wj tu k))) (tNn S q ia tu) (tNm S q s ia tu) q.2.2) ↔ (wdS (kd s 0) (uV S q (ptx ia (wj tu 0))) (tNn S q ia tu) (tNm S q s ia tu) q.2.2 ∧ wdS (kd s 1) (uV S q (ptx ia (wj tu 1))) (tNn S q ia tu) (tNm S q s ia tu) q.2.2) ∧ wdS 4 (uV S q (ptx ia (wj tu 2))) (tNn S q ia tu) (tNm S q s ia tu) q.2.2 := by
      refine ⟨fun h => ⟨⟨h 0 (by omega), h 1 (by omega)⟩, by rw [← hk2]; exact h 2 (by omega)⟩, fun h k hk => ?_⟩
      match k, hk with
      | 0, _ => exact h.1.1
      | 1, _ => exact h.1.2
      | 2, _ => rw [hk2]; exact h.2
      | n + 3, h => exact absurd h (by omega)
    rw [hall]
    unfold tNn at *
    cases x1 with
    | false =>
      have hn : ¬ (wdS (kd s 0) (uV S q (ptx ia (wj tu 0))) (uV S q (ptx ia (wj tu 0))).2.1 (tNm S q s ia tu) q.2.2 ∧ wdS (kd s 1) (uV S q (ptx ia (wj tu 1))) (uV S q (ptx ia (wj tu 0))).2.1 (tNm S q s ia tu) q.2.2) := fun h => (by have := h2.1.mpr h; cases this)
      simp [itS, hn]
    | true =>
      have hy := h2.1.mp rfl
      have hv := h2.2 rfl
      injection hv with hv1 hv2
      subst hv1 hv2
      have hps := hpw hy.1.1
      have h4 := it_4 (u := uV S q (ptx ia (wj tu 2))) (m := tNm S q s ia tu) (t := q.2.2) hps
      exact ⟨h4.1.trans ⟨fun h => ⟨hy, h⟩, fun h => h.2⟩, h4.2⟩
  · have e2 : bdy s = 2 := by unfold bdy; rw [if_neg h7]
    rw [e2]
    have ef : itF S q s ia tu 2 = itS (kd s 1) (itS (kd s 0) (true, -1, -1) (uV S q (ptx ia (wj tu 0))) q.2.2) (uV S q (ptx ia (wj tu 1))) q.2.2 := rfl
    rw [ef]
    refine ⟨?_, h2.2⟩
    rw [h2.1]
    refine ⟨fun h k hk => ?_, fun h => ⟨h 0 (by omega), h 1 (by omega)⟩⟩
    match k, hk with
    | 0, _ => exact h.1
    | 1, _ => exact h.2
    | n + 2, h => exact absurd h (by omega)
theorem it_C {S : List Sn} {q : Nat × Int32 × Int32} {s : Nat} {ia : Option Nat} {tu : Bool} (hs : s < 8) (hS : ∀ t ∈ S, wfS t) (hl : S.length = bdy s + (if ia.isSome then 1 else 0)) (hp : ∀ p, ia = some p → p ≤ bdy s) (htu : tu = true → 3 ≤ s ∧ s ≤ 5) (hq : q.1 = kd s (bdy s)) :
    (itA S q s ia (itF S q s ia tu (bdy s)) = true ↔ tC S q s ia tu) ∧ (tC S q s ia tu → (itF S q s ia tu (bdy s)).2 = (tNn S q ia tu, tNm S q s ia tu)) := by
  obtain ⟨f1, f2⟩ := it_F (q := q) (tu := tu) hs hS hl
  generalize hx : itF S q s ia tu (bdy s) = x at f1 f2
  obtain ⟨x1, x2, x3⟩ := x
  refine ⟨?_, fun h => f2 (f1.mpr h.wds)⟩
  cases x1 with
  | false => exact ⟨fun h => (by simp [itA] at h), fun h => (by have := f1.mpr h.wds; cases this)⟩
  | true =>
    have hw := f1.mp rfl
    have hv := f2 rfl
    injection hv with hv1 hv2
    subst hv1 hv2
    unfold itA
    cases ia with
    | none =>
      simp only [Bool.and_eq_true, Bool.or_eq_true, decide_eq_true_eq, true_and, and_true]
      exact ⟨fun h => tC.mk hl hp htu hq hw h.1 (by rcases h.2 with (h | h) | h; exact Or.inl h; exact Or.inr (Or.inl h); exact Or.inr (Or.inr h)) (fun p h => by cases h), fun h => ⟨h.nm, by rcases h.qn with h | h | h; exact Or.inl (Or.inl h); exact Or.inl (Or.inr h); exact Or.inr h⟩⟩
    | some p =>
      simp only [Bool.and_eq_true, Bool.or_eq_true, decide_eq_true_eq, true_and, and_true]
      exact ⟨fun h => tC.mk hl hp htu hq hw h.1.1 (by rcases h.1.2 with (h | h) | h; exact Or.inl h; exact Or.inr (Or.inl h); exact Or.inr (Or.inr h)) (fun p' hp' => by injection hp' with hp'; subst hp'; exact ⟨h.2.1.1.1, h.2.1.1.2, h.2.1.2, h.2.2⟩), fun h => ⟨⟨h.nm, by rcases h.qn with h | h | h; exact Or.inl (Or.inl h); exact Or.inl (Or.inr h); exact Or.inr h⟩, by obtain ⟨a, b, c, e⟩ := h.idl p rfl; exact ⟨⟨⟨a, b⟩, c⟩, e⟩⟩⟩
/-- a sentence's words, as the class sees them -/
def cwd (s : Nat) (u : Sn) (n m t : Int32) : Prop := (u.2.1 = -1 ∨ u.2.1 = if u.1 = 6 ∨ (u.1 = 8 ∧ s = 4) then m else n) ∧ (u.2.2.1 = -1 ∨ u.2.2.1 = n) ∧ (u.2.2.2.1 = -1 ∨ u.2.2.2.1 = t)
theorem cwd_S {K s : Nat} {u : Sn} {n m t : Int32} (hw : wfS u) (hK : K < 8) : (u.1 = K ∧ cwd s u n m t) ↔ wdS K u n m t := by
  unfold cwd wdS
  refine ⟨fun ⟨h1, h2⟩ => ⟨h1, ?_⟩, fun ⟨h1, h2⟩ => ⟨h1, ?_⟩⟩
  · obtain ⟨n1, o1, t1, v, hn, ho, ht, _, _, _, h⟩ := hw
    have m1 : nI n1 ≠ -1 := nI_m1 (by omega)
    have m2 : nI o1 ≠ -1 := nI_m1 (by omega)
    have m3 : nI t1 ≠ -1 := nI_m1 (by omega)
    grind
  · obtain ⟨n1, o1, t1, v, hn, ho, ht, _, _, _, h⟩ := hw
    have m1 : nI n1 ≠ -1 := nI_m1 (by omega)
    have m2 : nI o1 ≠ -1 := nI_m1 (by omega)
    have m3 : nI t1 ≠ -1 := nI_m1 (by omega)
    grind
/-- the class's question -/
theorem c_C {S : List Sn} {q : Nat × Int32 × Int32} {s : Nat} {ia : Option Nat} {tu : Bool} (hs : s < 8) (hS : ∀ t ∈ S, wfS t) (hqw : wfQ q) (hl : S.length = bdy s + (if ia.isSome then 1 else 0)) (hp : ∀ p, ia = some p → p ≤ bdy s) (htu : tu = true → 3 ≤ s ∧ s ≤ 5) :
    ((∀ j, j ≤ bdy s → (uV S q (ptx ia j)).1 = kd s (wj tu j)) ∧ (∀ j, j ≤ bdy s → cwd s (uV S q (ptx ia j)) (tNn S q ia tu) (tNm S q s ia tu) q.2.2) ∧ tNm S q s ia tu ≠ tNn S q ia tu ∧ (∀ p, ia = some p → (uV S q p).1 = 0 ∧ (uV S q p).2.1 ≠ tNn S q ia tu ∧ (uV S q p).2.1 ≠ tNm S q s ia tu ∧ (uV S q p).2.2.2.1 ≠ q.2.2)) ↔ tC S q s ia tu := by
  have hb := bdy_b s
  have hpx : ∀ k, k < bdy s → ptx ia k < S.length := by
    intro k hk
    rw [hl]
    cases ia with
    | none => exact hk
    | some p => unfold ptx; dsimp only [Option.isSome]; rw [if_pos rfl]; split <;> omega
  have hpe : ptx ia (bdy s) = S.length := by
    rw [hl]
    cases ia with
    | none => rfl
    | some p => unfold ptx; dsimp only [Option.isSome]; rw [if_pos rfl, if_pos (hp p rfl)]
  have hqe : uV S q (ptx ia (bdy s)) = (q.1, q.2.1, -1, q.2.2, -1) := by
    unfold uV
    rw [hpe, List.getD_eq_getElem?_getD, List.getElem?_eq_none (Nat.le_refl _)]
    rfl
  have hwb : wj tu (bdy s) = bdy s := by unfold wj; rw [if_neg (by omega)]
  have hwl : ∀ k, k < bdy s → wj tu k < bdy s := fun k hk => by unfold wj; split <;> omega
  have hqq : (q.1 = kd s (bdy s) ∧ cwd s (q.1, q.2.1, -1, q.2.2, -1) (tNn S q ia tu) (tNm S q s ia tu) q.2.2) ↔ (q.1 = kd s (bdy s) ∧ (q.1 = 9 ∨ q.1 = 10 ∨ q.2.1 = if s = 4 then tNm S q s ia tu else tNn S q ia tu)) := by
    obtain ⟨n, t, hn, ht, h1, h2⟩ := hqw
    have m1 : nI n ≠ -1 := nI_m1 (by omega)
    have h4 := kd_4 s hs
    unfold cwd
    dsimp only
    refine ⟨fun ⟨h, h'⟩ => ⟨h, ?_⟩, fun ⟨h, h'⟩ => ⟨h, ?_, Or.inl rfl, Or.inr rfl⟩⟩
    · rw [← h] at h4
      have hk6 : q.1 ≠ 6 := by have := kd_q s hs; omega
      have := h'.1
      simp only [hk6, false_or, h4] at this
      rcases h2 with ⟨h2, h3⟩ | ⟨h2, h3⟩
      · right; right
        rcases this with h | h
        · exact absurd (h3 ▸ h) m1
        · exact h
      · rcases h2 with h2 | h2
        · exact Or.inl h2
        · exact Or.inr (Or.inl h2)
    · rw [← h] at h4
      have hk6 : q.1 ≠ 6 := by have := kd_q s hs; omega
      simp only [hk6, false_or, h4]
      rcases h2 with ⟨h2, h3⟩ | ⟨h2, h3⟩
      · right
        rcases h' with h' | h' | h'
        · omega
        · omega
        · exact h'
      · exact Or.inl h3
  constructor
  · intro ⟨h1, h2, h3, h4⟩
    have e1 := h1 (bdy s) (Nat.le_refl _)
    have e2 := h2 (bdy s) (Nat.le_refl _)
    rw [hqe, hwb] at e1
    rw [hqe] at e2
    obtain ⟨e3, e4⟩ := hqq.mp ⟨e1, e2⟩
    refine tC.mk hl hp htu e3 (fun k hk => ?_) (Ne.symm h3) e4 h4
    have f1 := h1 (wj tu k) (Nat.le_of_lt (hwl k hk))
    have f2 := h2 (wj tu k) (Nat.le_of_lt (hwl k hk))
    rw [wj_wj] at f1
    exact (cwd_S (uV_wf hS (hpx _ (hwl k hk))) (kd_s s hs k hk)).mp ⟨f1, f2⟩
  · intro h
    have e := hqq.mpr ⟨h.qk, h.qn⟩
    have hj : ∀ j, j < bdy s → (uV S q (ptx ia j)).1 = kd s (wj tu j) ∧ cwd s (uV S q (ptx ia j)) (tNn S q ia tu) (tNm S q s ia tu) q.2.2 := by
      intro j hj
      have := h.wds (wj tu j) (hwl j hj)
      rw [wj_wj] at this
      exact (cwd_S (uV_wf hS (hpx j hj)) (kd_s s hs _ (hwl j hj))).mpr this
    refine ⟨fun j hjl => ?_, fun j hjl => ?_, Ne.symm h.nm, h.idl⟩
    · rcases Nat.lt_or_ge j (bdy s) with h' | h'
      · exact (hj j h').1
      · have : j = bdy s := by omega
        subst this
        rw [hqe, hwb]; exact e.1
    · rcases Nat.lt_or_ge j (bdy s) with h' | h'
      · exact (hj j h').2
      · have : j = bdy s := by omega
        subst this
        rw [hqe]; exact e.2
