/-! ===== what a sentence that was read is like ===== -/
def el {α β : Type} (g : α → Nat ⊕ β) (x : Nat ⊕ α) : Nat ⊕ β := match x with
  | .inl n => .inl n
  | .inr y => g y
theorem el_ite {α β : Type} {g : α → Nat ⊕ β} {c : Prop} [Decidable c] {x y : Nat ⊕ α} : el g (if c then x else y) = if c then el g x else el g y := by split <;> rfl
theorem el_inl {α β : Type} {g : α → Nat ⊕ β} {n : Nat} : el g (.inl n) = .inl n := rfl
theorem el_inr {α β : Type} {g : α → Nat ⊕ β} {y : α} : el g (.inr y) = g y := rfl
theorem sSen_nat {α : Type} {cd nx vl : Nat → Nat} {s : Nat} {k : Nat × Int32 × Int32 × Int32 × Int32 → Nat → Nat ⊕ α} : sSen cd nx vl s k = el (fun x : (Nat × Int32 × Int32 × Int32 × Int32) × Nat => k x.1 x.2) (sSen cd nx vl s (fun t s' => .inr (t, s'))) := by
  simp only [sSen, sNam, sHas, sF, eK, eN, eT, eX, el_ite, el_inl, el_inr]
/-- a sentence's fields are those of its kind -/
def wfS (t : Nat × Int32 × Int32 × Int32 × Int32) : Prop := ∃ n o h v : Nat, n < 6 ∧ o < 6 ∧ h < 6 ∧ 1 ≤ v ∧ v < 10000 ∧ t.2.2.2.2 = nI v ∧ (((t.1 = 0 ∨ t.1 = 2 ∨ t.1 = 3 ∨ t.1 = 7) ∧ t.2.1 = nI n ∧ t.2.2.1 = -1 ∧ t.2.2.2.1 = nI h) ∨ ((t.1 = 1 ∨ t.1 = 4) ∧ t.2.1 = nI n ∧ t.2.2.1 = -1 ∧ t.2.2.2.1 = -1) ∨ (t.1 = 5 ∧ t.2.1 = -1 ∧ t.2.2.1 = -1 ∧ t.2.2.2.1 = nI h) ∨ (t.1 = 6 ∧ t.2.1 = nI n ∧ t.2.2.1 = nI o ∧ t.2.2.2.1 = nI h))
theorem nv_d : ∀ (l : List Nat), (∀ c ∈ l, 48 ≤ c ∧ c ≤ 57) → nv l < 10 ^ l.length := by
  intro l
  rw [← List.reverse_reverse l]
  generalize l.reverse = r
  induction r with
  | nil => intro _; exact Nat.zero_lt_one
  | cons c r ih =>
    intro h
    rw [List.reverse_cons, nv_c, List.length_append, List.length_singleton, Nat.pow_succ]
    rw [List.reverse_cons] at h
    have h1 := ih (fun c hc => h c (List.mem_append_left _ hc))
    have h2 := h c (List.mem_append_right _ (List.mem_singleton.mpr rfl))
    omega
theorem nv_pos {B : Nat → Nat} {s : Nat} (h : 49 ≤ B s) : ∀ k, 1 ≤ nv (wl B s (k + 1))
  | 0 => by rw [wl_s, nv_c]; show 1 ≤ nv (wl B s 0) * 10 + (B (s + 0) - 48); rw [Nat.add_zero]; omega
  | k + 1 => by
    rw [wl_s, nv_c]
    have := nv_pos h k
    omega
theorem vl_ok {L : Nat} {B : Nat → Nat} {wd : Nat → Int64} {a b s : Nat} (hw : wdR wd a b) (h : cdS L B wd a b s = 1) : 1 ≤ vld L B s ∧ vld L B s < 10000 := by
  obtain ⟨c, hc61, hcod, _⟩ := tok_c (L := L) (B := B) (s := s) hw
  rw [cdS_e hc61 hcod] at h
  subst h
  unfold cod at hcod
  by_cases hend : L ≤ s
  · rw [if_pos hend] at hcod; exact absurd hcod (by decide)
  · rw [if_neg hend] at hcod
    by_cases hl : isLt (B s) = true
    · exfalso
      rw [if_pos hl] at hcod
      by_cases h8 : 8 < wE L B s - s
      · rw [if_pos h8] at hcod; exact absurd hcod (by decide)
      · rw [if_neg h8] at hcod
        obtain ⟨c', d1, d2, d3, _⟩ := tok_w hw (lN (npack (wl B s (wE L B s - s))))
        rw [d2, nI_eq (by omega) (by omega)] at hcod
        omega
    · rw [if_neg hl] at hcod
      by_cases hd : isDg (B s) = true
      · rw [if_pos hd] at hcod
        by_cases h4 : 4 < dE L B s - s ∨ B s = 48
        · rw [if_pos h4] at hcod; exact absurd hcod (by decide)
        · have hq : s ≤ dE L B s ∧ dE L B s ≤ s + (L - s) := scn_b _ _
          have hgt : s < dE L B s := by
            unfold dE
            rw [show L - s = (L - s - 1) + 1 by omega, scn_s, if_pos (by simp [hd]; omega)]
            have := scn_b (pr := fun q => decide (q < L) && isDg (B q)) (L - s - 1) (s + 1)
            omega
          have hdg : 48 ≤ B s ∧ B s ≤ 57 := by unfold isDg at hd; simpa using hd
          unfold vld
          rw [show min 4 (dE L B s - s) = (dE L B s - s - 1) + 1 by omega]
          refine ⟨nv_pos (by omega) _, ?_⟩
          have hall : ∀ c ∈ wl B s (dE L B s - s - 1 + 1), 48 ≤ c ∧ c ≤ 57 := by
            intro c hc
            unfold wl at hc
            rw [List.mem_map] at hc
            obtain ⟨i, hi, rfl⟩ := hc
            rw [List.mem_range'_1] at hi
            have := scn_in (pr := fun q => decide (q < L) && isDg (B q)) (L - s) s i hi.1 (show i < dE L B s by omega)
            rw [Bool.and_eq_true] at this
            unfold isDg at this
            simpa using this.2
          have h1 := nv_d _ hall
          rw [wl_len] at h1
          have h2 : 10 ^ (dE L B s - s - 1 + 1) ≤ 10 ^ 4 := Nat.pow_le_pow_right (by omega) (by omega)
          rw [show (10 : Nat) ^ 4 = 10000 by decide] at h2
          omega
      · exfalso
        rw [if_neg hd] at hcod
        by_cases x1 : B s = 46
        · rw [if_pos x1] at hcod; exact absurd hcod (by decide)
        · rw [if_neg x1] at hcod
          split at hcod <;> exact absurd hcod (by decide)
theorem nx_gt {L : Nat} {B : Nat → Nat} {wd : Nat → Int64} {a b s : Nat} (hw : wdR wd a b) (hs : s ≤ L) (h : ¬ cdS L B wd a b s = 0) : s < nxS L B s ∧ nxS L B s ≤ L := by
  obtain ⟨c, hc61, hcod, _, _, _, _, k5⟩ := tok_c (L := L) (B := B) (s := s) hw
  rw [cdS_e hc61 hcod] at h
  have hlt : s < L := by
    rcases Nat.lt_or_ge s L with h' | h'
    · exact h'
    · exact absurd (k5.mpr h') h
  have hnb := nxt_b (B := B) hs
  have hskb : nxt L B s ≤ sk L B (nxt L B s) ∧ sk L B (nxt L B s) ≤ nxt L B s + (L - nxt L B s) := scn_b _ _
  unfold nxS
  omega
theorem gK {α : Type} {L : Nat} {B : Nat → Nat} {wd : Nat → Int64} {a b s K : Nat} (hw : wdR wd a b) (hs : s ≤ L) (hK : K ≠ 0) {P : Nat ⊕ α → Prop} (hP : ∀ n, P (.inl n)) {k : Nat → Nat ⊕ α} (h : s < nxS L B s → nxS L B s ≤ L → P (k (nxS L B s))) : P (eK (cdS L B wd a b) (nxS L B) K s k) := by
  unfold eK
  by_cases hc : cdS L B wd a b s = K
  · rw [if_pos hc]
    obtain ⟨h1, h2⟩ := nx_gt (B := B) (s := s) hw hs (by omega)
    exact h h1 h2
  · rw [if_neg hc]; exact hP _
theorem gI {α : Type} {L : Nat} {B : Nat → Nat} {wd : Nat → Int64} {a b s K : Nat} (hw : wdR wd a b) (hs : s ≤ L) (hK : K ≠ 0) {P : Nat ⊕ α → Prop} {x y : Nat ⊕ α} (h1 : s < nxS L B s → nxS L B s ≤ L → P x) (h2 : P y) : P (if cdS L B wd a b s = K then x else y) := by
  by_cases hc : cdS L B wd a b s = K
  · rw [if_pos hc]
    obtain ⟨g1, g2⟩ := nx_gt (B := B) (s := s) hw hs (by omega)
    exact h1 g1 g2
  · rw [if_neg hc]; exact h2
theorem gN {α : Type} {L : Nat} {B : Nat → Nat} {wd : Nat → Int64} {a b s : Nat} (hw : wdR wd a b) (hs : s ≤ L) {P : Nat ⊕ α → Prop} (hP : ∀ n, P (.inl n)) {k : Int32 → Nat → Nat ⊕ α} (h : ∀ n : Nat, n < 6 → s < nxS L B s → nxS L B s ≤ L → P (k (nI n) (nxS L B s))) : P (eN (cdS L B wd a b) (nxS L B) s k) := by
  unfold eN
  by_cases hc : 40 ≤ cdS L B wd a b s ∧ cdS L B wd a b s ≤ 45
  · rw [if_pos hc]
    obtain ⟨h1, h2⟩ := nx_gt (B := B) (s := s) hw hs (by omega)
    exact h _ (by omega) h1 h2
  · rw [if_neg hc]; exact hP _
theorem gT {α : Type} {L : Nat} {B : Nat → Nat} {wd : Nat → Int64} {a b s : Nat} (hw : wdR wd a b) (hs : s ≤ L) {P : Nat ⊕ α → Prop} (hP : ∀ n, P (.inl n)) {k : Int32 → Nat → Nat ⊕ α} (h : ∀ n : Nat, n < 6 → s < nxS L B s → nxS L B s ≤ L → P (k (nI n) (nxS L B s))) : P (eT (cdS L B wd a b) (nxS L B) s k) := by
  unfold eT
  by_cases hc : 50 ≤ cdS L B wd a b s ∧ cdS L B wd a b s ≤ 55
  · rw [if_pos hc]
    obtain ⟨h1, h2⟩ := nx_gt (B := B) (s := s) hw hs (by omega)
    exact h _ (by omega) h1 h2
  · rw [if_neg hc]; exact hP _
theorem gX {α : Type} {L : Nat} {B : Nat → Nat} {wd : Nat → Int64} {a b s : Nat} (hw : wdR wd a b) (hs : s ≤ L) {P : Nat ⊕ α → Prop} (hP : ∀ n, P (.inl n)) {k : Int32 → Nat → Nat ⊕ α} (h : ∀ v : Nat, 1 ≤ v → v < 10000 → s < nxS L B s → nxS L B s ≤ L → P (k (nI v) (nxS L B s))) : P (eX (cdS L B wd a b) (nxS L B) (vld L B) s k) := by
  unfold eX
  by_cases hc : cdS L B wd a b s = 1
  · rw [if_pos hc]
    obtain ⟨h1, h2⟩ := nx_gt (B := B) (s := s) hw hs (by omega)
    obtain ⟨v1, v2⟩ := vl_ok hw hc
    exact h _ v1 v2 h1 h2
  · rw [if_neg hc]; exact hP _
theorem sF_g {α : Type} {L : Nat} {B : Nat → Nat} {wd : Nat → Int64} {a b s : Nat} (hw : wdR wd a b) (hs : s ≤ L) {P : Nat ⊕ α → Prop} (hP : ∀ n, P (.inl n)) {k : Nat × Int32 × Int32 × Int32 × Int32 → Nat → Nat ⊕ α} (h : ∀ t s', s < s' → s' ≤ L → wfS t → P (k t s')) : P (sF (cdS L B wd a b) (nxS L B) (vld L B) s k) := by
  unfold sF
  exact gK hw hs (by omega) hP (fun a1 b1 => gK hw b1 (by omega) hP (fun a2 b2 => gK hw b2 (by omega) hP (fun a3 b3 => gK hw b3 (by omega) hP (fun a4 b4 => gX hw b4 hP (fun v v1 v2 a5 b5 => gT hw b5 hP (fun t t1 a6 b6 => h _ _ (by omega) b6 ⟨0, 0, t, v, by omega, by omega, t1, v1, v2, rfl, Or.inr (Or.inr (Or.inl ⟨rfl, rfl, rfl, rfl⟩))⟩))))))
theorem sHas_g {α : Type} {L : Nat} {B : Nat → Nat} {wd : Nat → Int64} {a b s n : Nat} (hw : wdR wd a b) (hs : s ≤ L) (hn : n < 6) {P : Nat ⊕ α → Prop} (hP : ∀ n, P (.inl n)) {k : Nat × Int32 × Int32 × Int32 × Int32 → Nat → Nat ⊕ α} (h : ∀ t s', s < s' → s' ≤ L → wfS t → P (k t s')) : P (sHas (cdS L B wd a b) (nxS L B) (vld L B) (nI n) s k) := by
  unfold sHas
  exact gX hw hs hP (fun v v1 v2 a1 b1 => gI hw b1 (by omega) (fun a2 b2 => h _ _ (by omega) b2 ⟨n, 0, 0, v, hn, by omega, by omega, v1, v2, rfl, Or.inr (Or.inl ⟨Or.inl rfl, rfl, rfl, rfl⟩)⟩) (gT hw b1 hP (fun t t1 a2 b2 => gI hw b2 (by omega) (fun a3 b3 => gK hw b3 (by omega) hP (fun a4 b4 => gN hw b4 hP (fun o o1 a5 b5 => h _ _ (by omega) b5 ⟨n, o, t, v, hn, o1, t1, v1, v2, rfl, Or.inr (Or.inr (Or.inr ⟨rfl, rfl, rfl, rfl⟩))⟩))) (h _ _ (by omega) b2 ⟨n, 0, t, v, hn, by omega, t1, v1, v2, rfl, Or.inl ⟨Or.inl rfl, rfl, rfl, rfl⟩⟩))))
theorem sNam_g {α : Type} {L : Nat} {B : Nat → Nat} {wd : Nat → Int64} {a b s : Nat} (hw : wdR wd a b) (hs : s ≤ L) {P : Nat ⊕ α → Prop} (hP : ∀ n, P (.inl n)) {k : Nat × Int32 × Int32 × Int32 × Int32 → Nat → Nat ⊕ α} (h : ∀ t s', s < s' → s' ≤ L → wfS t → P (k t s')) : P (sNam (cdS L B wd a b) (nxS L B) (vld L B) s k) := by
  unfold sNam
  exact gN hw hs hP (fun n n1 a1 b1 => gI hw b1 (by omega) (fun a2 b2 => sHas_g hw b2 n1 hP (fun t s' c1 c2 c3 => h t s' (by omega) c2 c3)) (gI hw b1 (by omega) (fun a2 b2 => gX hw b2 hP (fun v v1 v2 a3 b3 => gT hw b3 hP (fun t t1 a4 b4 => h _ _ (by omega) b4 ⟨n, 0, t, v, n1, by omega, t1, v1, v2, rfl, Or.inl ⟨Or.inr (Or.inl rfl), rfl, rfl, rfl⟩⟩))) (gI hw b1 (by omega) (fun a2 b2 => gX hw b2 hP (fun v v1 v2 a3 b3 => gT hw b3 hP (fun t t1 a4 b4 => h _ _ (by omega) b4 ⟨n, 0, t, v, n1, by omega, t1, v1, v2, rfl, Or.inl ⟨Or.inr (Or.inr (Or.inl rfl)), rfl, rfl, rfl⟩⟩))) (gK hw b1 (by omega) hP (fun a2 b2 => gK hw b2 (by omega) hP (fun a3 b3 => gK hw b3 (by omega) hP (fun a4 b4 => gX hw b4 hP (fun v v1 v2 a5 b5 => gK hw b5 (by omega) hP (fun a6 b6 => h _ _ (by omega) b6 ⟨n, 0, 0, v, n1, by omega, by omega, v1, v2, rfl, Or.inr (Or.inl ⟨Or.inr rfl, rfl, rfl, rfl⟩)⟩)))))))))
theorem sSen_g {α : Type} {L : Nat} {B : Nat → Nat} {wd : Nat → Int64} {a b s : Nat} (hw : wdR wd a b) (hs : s ≤ L) {P : Nat ⊕ α → Prop} (hP : ∀ n, P (.inl n)) {k : Nat × Int32 × Int32 × Int32 × Int32 → Nat → Nat ⊕ α} (h : ∀ t s', s < s' → s' ≤ L → wfS t → P (k t s')) : P (sSen (cdS L B wd a b) (nxS L B) (vld L B) s k) := by
  unfold sSen
  exact gI hw hs (by omega) (fun _ _ => sF_g hw hs hP (fun t s' c1 c2 c3 => gK hw c2 (by omega) hP (fun a2 b2 => h t _ (by omega) b2 c3))) (gI hw hs (by omega) (fun a1 b1 => gN hw b1 hP (fun n n1 a2 b2 => gK hw b2 (by omega) hP (fun a3 b3 => gX hw b3 hP (fun v v1 v2 a4 b4 => gT hw b4 hP (fun t t1 a5 b5 => gK hw b5 (by omega) hP (fun a6 b6 => h _ _ (by omega) b6 ⟨n, 0, t, v, n1, by omega, t1, v1, v2, rfl, Or.inl ⟨Or.inr (Or.inr (Or.inr rfl)), rfl, rfl, rfl⟩⟩)))))) (sNam_g hw hs hP (fun t s' c1 c2 c3 => gK hw c2 (by omega) hP (fun a2 b2 => h t _ (by omega) b2 c3))))
theorem sSen_r {L : Nat} {B : Nat → Nat} {wd : Nat → Int64} {a b s : Nat} (hw : wdR wd a b) (hs : s ≤ L) {t : Nat × Int32 × Int32 × Int32 × Int32} {s' : Nat} (h : sSen (cdS L B wd a b) (nxS L B) (vld L B) s (fun t s' => (.inr (t, s') : Nat ⊕ ((Nat × Int32 × Int32 × Int32 × Int32) × Nat))) = .inr (t, s')) : s < s' ∧ s' ≤ L ∧ wfS t := by
  have := sSen_g (B := B) (P := fun x => ∀ t s', x = .inr (t, s') → s < s' ∧ s' ≤ L ∧ wfS t) hw hs (fun n t s' q => (by cases q)) (k := fun t s' => (.inr (t, s') : Nat ⊕ ((Nat × Int32 × Int32 × Int32 × Int32) × Nat))) (fun t s' h1 h2 h3 t' s'' q => (by injection q with q; injection q with q1 q2; subst q1 q2; exact ⟨h1, h2, h3⟩))
  exact this t s' h
def wfQ (q : Nat × Int32 × Int32) : Prop := ∃ n h : Nat, n < 6 ∧ h < 6 ∧ q.2.2 = nI h ∧ (((q.1 = 8 ∨ q.1 = 11) ∧ q.2.1 = nI n) ∨ ((q.1 = 9 ∨ q.1 = 10) ∧ q.2.1 = -1))
theorem gZ {α : Type} {L : Nat} {B : Nat → Nat} {wd : Nat → Int64} {a b s : Nat} {P : Nat ⊕ α → Prop} (hP : ∀ n, P (.inl n)) {x : Nat ⊕ α} (h : P x) : P (if cdS L B wd a b s = 0 then x else .inl s) := by
  split
  · exact h
  · exact hP _
theorem sQue_g {α : Type} {L : Nat} {B : Nat → Nat} {wd : Nat → Int64} {a b s : Nat} (hw : wdR wd a b) (hs : s ≤ L) {P : Nat ⊕ α → Prop} (hP : ∀ n, P (.inl n)) {k : Nat × Int32 × Int32 → Nat ⊕ α} (h : ∀ q, wfQ q → P (k q)) : P (sQue (cdS L B wd a b) (nxS L B) s k) := by
  unfold sQue
  exact gK hw hs (by omega) hP (fun a1 b1 => gK hw b1 (by omega) hP (fun a2 b2 => gT hw b2 hP (fun t t1 a3 b3 =>
    gI hw b3 (by omega) (fun a4 b4 => gN hw b4 hP (fun n n1 a5 b5 => gK hw b5 (by omega) hP (fun a6 b6 => gZ hP (h _ ⟨n, t, n1, t1, rfl, Or.inl ⟨Or.inl rfl, rfl⟩⟩))))
    (gI hw b3 (by omega) (fun a4 b4 => gN hw b4 hP (fun n n1 a5 b5 => gK hw b5 (by omega) hP (fun a6 b6 => gZ hP (h _ ⟨n, t, n1, t1, rfl, Or.inl ⟨Or.inr rfl, rfl⟩⟩))))
    (gI hw b3 (by omega) (fun a4 b4 => gK hw b4 (by omega) hP (fun a5 b5 => gK hw b5 (by omega) hP (fun a6 b6 => gZ hP (h _ ⟨0, t, by omega, t1, rfl, Or.inr ⟨Or.inr rfl, rfl⟩⟩))))
    (gK hw b3 (by omega) hP (fun a4 b4 => gK hw b4 (by omega) hP (fun a5 b5 => gK hw b5 (by omega) hP (fun a6 b6 => gK hw b6 (by omega) hP (fun a7 b7 => gK hw b7 (by omega) hP (fun a8 b8 => gZ hP (h _ ⟨0, t, by omega, t1, rfl, Or.inr ⟨Or.inl rfl, rfl⟩⟩)))))))))))) 
theorem mrun_wf {L : Nat} {B : Nat → Nat} {wd : Nat → Int64} {a b : Nat} (hw : wdR wd a b) : ∀ (f s : Nat) (S : List (Nat × Int32 × Int32 × Int32 × Int32)), s ≤ L → (∀ t ∈ S, wfS t) → ∀ S' q s', mrun (cdS L B wd a b) (nxS L B) (vld L B) f s S = .inr (S', q, s') → (∀ t ∈ S', wfS t) ∧ wfQ q ∧ s' ≤ L
  | 0, s, S => fun _ _ S' q s' h => (by cases h)
  | f + 1, s, S => by
    intro hs hS S' q s' h
    unfold mrun at h
    by_cases hc : cdS L B wd a b s = 24
    · rw [if_pos hc] at h
      have := sQue_g (B := B) (P := fun x => ∀ S' q s', x = .inr (S', q, s') → (∀ t ∈ S', wfS t) ∧ wfQ q ∧ s' ≤ L) hw hs (fun n S' q s' z => (by cases z)) (k := fun q => (.inr (S, q, s) : Nat ⊕ (List (Nat × Int32 × Int32 × Int32 × Int32) × (Nat × Int32 × Int32) × Nat))) (fun q hq S' q' s' z => (by injection z with z; injection z with z1 z2; injection z2 with z2 z3; subst z1 z2 z3; exact ⟨hS, hq, hs⟩))
      exact this S' q s' h
    · rw [if_neg hc, sSen_nat] at h
      cases hx : sSen (cdS L B wd a b) (nxS L B) (vld L B) s (fun t s' => (.inr (t, s') : Nat ⊕ ((Nat × Int32 × Int32 × Int32 × Int32) × Nat))) with
      | inl n => rw [hx] at h; cases h
      | inr y =>
        obtain ⟨t, s1⟩ := y
        obtain ⟨r1, r2, r3⟩ := sSen_r hw hs hx
        rw [hx] at h
        exact mrun_wf hw f s1 (S ++ [t]) r2 (fun u hu => by
          rw [List.mem_append, List.mem_singleton] at hu
          rcases hu with hu | hu
          · exact hS u hu
          · rw [hu]; exact r3) S' q s' h
