/-! ===== what a tale is ===== -/
abbrev Sn := Nat × Int32 × Int32 × Int32 × Int32
/-- sentence i, or the question -/
def uV (S : List Sn) (q : Nat × Int32 × Int32) (i : Nat) : Sn := S.getD i (q.1, q.2.1, -1, q.2.2, -1)
/-- where sentence k stands, past the idle one -/
def ptx (ia : Option Nat) (k : Nat) : Nat := match ia with
  | none => k
  | some p => if p ≤ k then k + 1 else k
def io (ia : Option Nat) : Int32 := match ia with
  | none => -1
  | some p => nI p
theorem ptx_le {ia : Option Nat} {k : Nat} : k ≤ ptx ia k ∧ ptx ia k ≤ k + 1 := by
  cases ia with
  | none => exact ⟨Nat.le_refl _, Nat.le_succ _⟩
  | some p => unfold ptx; dsimp only; split <;> omega
def tNn (S : List Sn) (q : Nat × Int32 × Int32) (ia : Option Nat) (tu : Bool) : Int32 := (uV S q (ptx ia (wj tu 0))).2.1
def tNm (S : List Sn) (q : Nat × Int32 × Int32) (s : Nat) (ia : Option Nat) (tu : Bool) : Int32 := if s = 4 ∨ s = 5 then (uV S q (ptx ia (wj tu 1))).2.1 else -1
/-- the words of a sentence of form K -/
def wdS (K : Nat) (u : Sn) (n m t : Int32) : Prop := u.1 = K ∧ (if K = 6 then u.2.1 = m ∧ u.2.2.1 = n ∧ u.2.2.2.1 = t else if K = 1 ∨ K = 4 then u.2.1 = n else if K = 5 then u.2.2.2.1 = t else u.2.1 = n ∧ u.2.2.2.1 = t)
def tC (S : List Sn) (q : Nat × Int32 × Int32) (s : Nat) (ia : Option Nat) (tu : Bool) : Prop := (S.length = bdy s + (if ia.isSome then 1 else 0)) ∧ (∀ p, ia = some p → p ≤ bdy s) ∧ (tu = true → 3 ≤ s ∧ s ≤ 5) ∧ (q.1 = kd s (bdy s)) ∧ (∀ k, k < bdy s → wdS (kd s k) (uV S q (ptx ia (wj tu k))) (tNn S q ia tu) (tNm S q s ia tu) q.2.2) ∧ (tNn S q ia tu ≠ tNm S q s ia tu) ∧ (q.1 = 9 ∨ q.1 = 10 ∨ q.2.1 = if s = 4 then tNm S q s ia tu else tNn S q ia tu) ∧ (∀ p, ia = some p → (uV S q p).1 = 0 ∧ (uV S q p).2.1 ≠ tNn S q ia tu ∧ (uV S q p).2.1 ≠ tNm S q s ia tu ∧ (uV S q p).2.2.2.1 ≠ q.2.2)
theorem tC.len {S : List Sn} {q : Nat × Int32 × Int32} {s : Nat} {ia : Option Nat} {tu : Bool} (h : tC S q s ia tu) : S.length = bdy s + (if ia.isSome then 1 else 0) := h.1
theorem tC.ple {S : List Sn} {q : Nat × Int32 × Int32} {s : Nat} {ia : Option Nat} {tu : Bool} (h : tC S q s ia tu) : ∀ p, ia = some p → p ≤ bdy s := h.2.1
theorem tC.trn {S : List Sn} {q : Nat × Int32 × Int32} {s : Nat} {ia : Option Nat} {tu : Bool} (h : tC S q s ia tu) : tu = true → 3 ≤ s ∧ s ≤ 5 := h.2.2.1
theorem tC.qk {S : List Sn} {q : Nat × Int32 × Int32} {s : Nat} {ia : Option Nat} {tu : Bool} (h : tC S q s ia tu) : q.1 = kd s (bdy s) := h.2.2.2.1
theorem tC.wds {S : List Sn} {q : Nat × Int32 × Int32} {s : Nat} {ia : Option Nat} {tu : Bool} (h : tC S q s ia tu) : ∀ k, k < bdy s → wdS (kd s k) (uV S q (ptx ia (wj tu k))) (tNn S q ia tu) (tNm S q s ia tu) q.2.2 := h.2.2.2.2.1
theorem tC.nm {S : List Sn} {q : Nat × Int32 × Int32} {s : Nat} {ia : Option Nat} {tu : Bool} (h : tC S q s ia tu) : tNn S q ia tu ≠ tNm S q s ia tu := h.2.2.2.2.2.1
theorem tC.qn {S : List Sn} {q : Nat × Int32 × Int32} {s : Nat} {ia : Option Nat} {tu : Bool} (h : tC S q s ia tu) : q.1 = 9 ∨ q.1 = 10 ∨ q.2.1 = if s = 4 then tNm S q s ia tu else tNn S q ia tu := h.2.2.2.2.2.2.1
theorem tC.idl {S : List Sn} {q : Nat × Int32 × Int32} {s : Nat} {ia : Option Nat} {tu : Bool} (h : tC S q s ia tu) : ∀ p, ia = some p → (uV S q p).1 = 0 ∧ (uV S q p).2.1 ≠ tNn S q ia tu ∧ (uV S q p).2.1 ≠ tNm S q s ia tu ∧ (uV S q p).2.2.2.1 ≠ q.2.2 := h.2.2.2.2.2.2.2
theorem tC.mk {S : List Sn} {q : Nat × Int32 × Int32} {s : Nat} {ia : Option Nat} {tu : Bool} (h0 : S.length = bdy s + (if ia.isSome then 1 else 0)) (h1 : ∀ p, ia = some p → p ≤ bdy s) (h2 : tu = true → 3 ≤ s ∧ s ≤ 5) (h3 : q.1 = kd s (bdy s)) (h4 : ∀ k, k < bdy s → wdS (kd s k) (uV S q (ptx ia (wj tu k))) (tNn S q ia tu) (tNm S q s ia tu) q.2.2) (h5 : tNn S q ia tu ≠ tNm S q s ia tu) (h6 : q.1 = 9 ∨ q.1 = 10 ∨ q.2.1 = if s = 4 then tNm S q s ia tu else tNn S q ia tu) (h7 : ∀ p, ia = some p → (uV S q p).1 = 0 ∧ (uV S q p).2.1 ≠ tNn S q ia tu ∧ (uV S q p).2.1 ≠ tNm S q s ia tu ∧ (uV S q p).2.2.2.1 ≠ q.2.2) : tC S q s ia tu := ⟨h0, h1, h2, h3, h4, h5, h6, h7⟩
theorem bdy_b (s : Nat) : 2 ≤ bdy s ∧ bdy s ≤ 3 := by unfold bdy; split <;> omega
theorem bdy_t {s : Nat} (h : 3 ≤ s ∧ s ≤ 5) : bdy s = 2 := by unfold bdy; rw [if_neg (by omega)]
theorem kd_tu : ∀ s, s < 8 → 3 ≤ s → s ≤ 5 → kd s 0 ≠ kd s 1 := by decide +kernel
theorem kd_0 : ∀ s, s < 8 → ∀ k, k < bdy s → kd s k = 0 → ∀ (u : Sn) (n m t : Int32), wdS (kd s k) u n m t → u.2.2.2.1 = t := by
  intro s _ k _ h u n m t hw
  unfold wdS at hw
  rw [h] at hw
  have := hw.2
  simp at this
  exact this.2
theorem wj_wj {tu : Bool} {i : Nat} : wj tu (wj tu i) = i := by
  unfold wj
  by_cases h : tu = true ∧ i < 2
  · rw [if_pos h, if_pos ⟨h.1, by omega⟩]; omega
  · rw [if_neg h, if_neg h]
theorem ptx_sur {p i : Nat} (h : i ≠ p) : ∃ k, ptx (some p) k = i ∧ ((i = k ∧ i < p) ∨ (i = k + 1 ∧ p < i)) := by
  unfold ptx
  rcases Nat.lt_or_ge i p with h1 | h1
  · exact ⟨i, by dsimp only; rw [if_neg (by omega)], Or.inl ⟨rfl, h1⟩⟩
  · exact ⟨i - 1, by dsimp only; rw [if_pos (by omega)]; omega, Or.inr ⟨by omega, by omega⟩⟩
/-- a shape's tale is one in one way -/
theorem tC_u {S : List Sn} {q : Nat × Int32 × Int32} {s : Nat} {ia ib : Option Nat} {tu tv : Bool} (hs : s < 8) (h1 : tC S q s ia tu) (h2 : tC S q s ib tv) : ia = ib ∧ tu = tv := by
  have hb := bdy_b s
  have hii : ia = ib := by
    have l1 := h1.len
    have l2 := h2.len
    cases ia with
    | none =>
      cases ib with
      | none => rfl
      | some p => simp at l1 l2; omega
    | some p =>
      cases ib with
      | none => simp at l1 l2; omega
      | some p2 =>
        have hp1 := h1.ple p rfl
        have hp2 := h2.ple p2 rfl
        by_cases hpp : p = p2
        · rw [hpp]
        · exfalso
          obtain ⟨k, hk, hk2⟩ := ptx_sur hpp
          have hkb : k < bdy s := by omega
          have hw := h2.wds (wj tv k) (by
            unfold wj
            split <;> omega)
          rw [wj_wj, hk] at hw
          obtain ⟨i1, i2, i3, i4⟩ := h1.idl p rfl
          have hk0 : kd s (wj tv k) = 0 := by rw [← hw.1]; exact i1
          exact i4 (kd_0 s hs _ (by unfold wj; split <;> omega) hk0 _ _ _ _ hw)
  subst hii
  refine ⟨rfl, ?_⟩
  have t0 := h1.wds 0 (by omega)
  have t1 := h1.wds 1 (by omega)
  have v0 := h2.wds 0 (by omega)
  have v1 := h2.wds 1 (by omega)
  cases tu with
  | false =>
    cases tv with
    | false => rfl
    | true =>
      exfalso
      have hq := h2.trn rfl
      have : kd s 0 = kd s 1 := by rw [← t0.1, ← v1.1]; rfl
      exact kd_tu s hs hq.1 hq.2 this
  | true =>
    cases tv with
    | true => rfl
    | false =>
      exfalso
      have hq := h1.trn rfl
      have : kd s 0 = kd s 1 := by rw [← v0.1, ← t1.1]; rfl
      exact kd_tu s hs hq.1 hq.2 this
/-- a shape is the row's -/
def tE (S : List Sn) (q : Nat × Int32 × Int32) (s : Nat) : Prop := ∃ ia tu, tC S q s ia tu
/-- the reference's fold -/
def itS (K : Nat) (x : Bool × Int32 × Int32) (u : Sn) (t : Int32) : Bool × Int32 × Int32 :=
  if K = 6 then (x.1 && decide (u.1 = K) && decide (u.2.2.2.1 = t) && decide (u.2.2.1 = x.2.1), x.2.1, u.2.1)
  else if K = 5 then (x.1 && decide (u.1 = K) && decide (u.2.2.2.1 = t), x.2.1, x.2.2)
  else (x.1 && decide (u.1 = K) && (decide (u.2.2.2.1 = t) || decide (K = 1) || decide (K = 4)) && (decide (x.2.1 < 0) || decide (x.2.1 = u.2.1)), u.2.1, x.2.2)
def itF (S : List Sn) (q : Nat × Int32 × Int32) (s : Nat) (ia : Option Nat) (tu : Bool) : Nat → Bool × Int32 × Int32
  | 0 => (true, -1, -1)
  | k + 1 => itS (kd s k) (itF S q s ia tu k) (uV S q (ptx ia (wj tu k))) q.2.2
/-- the reference's answer -/
def itA (S : List Sn) (q : Nat × Int32 × Int32) (s : Nat) (ia : Option Nat) (x : Bool × Int32 × Int32) : Bool :=
  x.1 && decide (x.2.1 ≠ x.2.2) && (decide (q.1 = 9) || decide (q.1 = 10) || decide (q.2.1 = if s = 4 then x.2.2 else x.2.1)) &&
  (match ia with | none => true | some p => decide ((uV S q p).1 = 0) && decide ((uV S q p).2.1 ≠ x.2.1) && decide ((uV S q p).2.1 ≠ x.2.2) && decide ((uV S q p).2.2.2.1 ≠ q.2.2))
theorem wf_pos {u : Sn} (h : wfS u) (h5 : u.1 ≠ 5) : ¬ u.2.1 < 0 := by
  obtain ⟨n, o, t, v, hn, _, _, _, _, _, h⟩ := h
  rcases h with ⟨_, h, _⟩ | ⟨_, h, _⟩ | ⟨h, _⟩ | ⟨_, h, _⟩
  · rw [h]; exact nI_pos (by omega)
  · rw [h]; exact nI_pos (by omega)
  · exact absurd h h5
  · rw [h]; exact nI_pos (by omega)
theorem uV_wf {S : List Sn} {q : Nat × Int32 × Int32} {i : Nat} (h : ∀ t ∈ S, wfS t) (hi : i < S.length) : wfS (uV S q i) := by
  unfold uV
  rw [List.getD_eq_getElem?_getD, List.getElem?_eq_getElem hi]
  exact h _ (List.getElem_mem hi)
theorem it_two {K0 K1 : Nat} {u0 u1 : Sn} {t : Int32} (h0 : K0 = 0 ∨ K0 = 1 ∨ K0 = 2) (h1 : K1 = 2 ∨ K1 = 3 ∨ K1 = 4 ∨ K1 = 5 ∨ K1 = 6 ∨ K1 = 7) (w0 : wfS u0) {m : Int32} (hm : m = if K1 = 6 then u1.2.1 else -1) :
    ((itS K1 (itS K0 (true, -1, -1) u0 t) u1 t).1 = true ↔ wdS K0 u0 u0.2.1 m t ∧ wdS K1 u1 u0.2.1 m t) ∧ ((itS K1 (itS K0 (true, -1, -1) u0 t) u1 t).1 = true → (itS K1 (itS K0 (true, -1, -1) u0 t) u1 t).2 = (u0.2.1, m)) := by
  have hp : u0.1 = K0 → ¬ u0.2.1 < 0 := fun h => wf_pos w0 (by omega)
  have hm1 : ((-1 : Int32) < 0) = True := by decide
  subst hm
  by_cases hk : u0.1 = K0
  · have hp' := hp hk
    rcases h0 with h0 | h0 | h0 <;> subst h0 <;> rcases h1 with h1 | h1 | h1 | h1 | h1 | h1 <;> subst h1 <;> simp [itS, wdS, hk, hm1, hp'] <;> grind
  · rcases h0 with h0 | h0 | h0 <;> subst h0 <;> rcases h1 with h1 | h1 | h1 | h1 | h1 | h1 <;> subst h1 <;> simp [itS, wdS, hk]
