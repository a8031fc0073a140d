theorem a_go_mono {C C' : aM → List Value → aH → Option aR} (hC : ∀ y as h r, C y as h = some r → C' y as h = some r) {x : aL} {as st : List Value} {h : aH} {pc : Nat} {l : List (Option Value)} {z : aS ⊕ aR} (e : a_go C x as st h pc l = some z) : a_go C' x as st h pc l = some z := by
  unfold a_go at e ⊢
  split at e
  · cases e
  · rename_i hn
    rw [if_neg hn]
    cases hc : C x.2.2 as h with
    | none => rw [hc] at e; cases e
    | some r => rw [hc] at e; rw [hC _ _ _ _ hc]; exact e
theorem a_iv_mono {C C' : aM → List Value → aH → Option aR} (hC : ∀ y as h r, C y as h = some r → C' y as h = some r) {y : aM} {k pc : Nat} {l : List (Option Value)} {st : List Value} {h : aH} {z : aS ⊕ aR} (e : a_iv C y k pc l st h = some z) : a_iv C' y k pc l st h = some z := by
  unfold a_iv at e ⊢
  cases hm : a_Mt y.1 k with
  | none => rw [hm] at e; cases e
  | some x =>
    simp only [hm] at e ⊢
    cases hd : st.drop x.2.1 with
    | nil => rw [hd] at e; cases e
    | cons b rest =>
      simp only [hd] at e ⊢
      cases b <;> first | (cases e; done) | skip
      rename_i b
      dsimp only at e ⊢
      by_cases hc : x.1 < 2 ∧ x.2.1 ≤ st.length ∧ a_rc h b x.2.2.1 = true
      · rw [if_pos hc] at e ⊢
        exact a_go_mono hC e
      · rw [if_neg hc] at e
        cases e
theorem a_is_mono {C C' : aM → List Value → aH → Option aR} (hC : ∀ y as h r, C y as h = some r → C' y as h = some r) {y : aM} {k pc : Nat} {l : List (Option Value)} {st : List Value} {h : aH} {z : aS ⊕ aR} (e : a_is C y k pc l st h = some z) : a_is C' y k pc l st h = some z := by
  unfold a_is at e ⊢
  cases hm : a_Mt y.1 k with
  | none => rw [hm] at e; cases e
  | some x =>
    simp only [hm] at e ⊢
    by_cases h7 : x.1 = 7
    · rw [if_pos h7] at e ⊢
      exact e
    · rw [if_neg h7] at e ⊢
      by_cases h8 : 8 ≤ x.1
      · rw [if_pos h8] at e ⊢
        exact e
      · rw [if_neg h8] at e ⊢
        by_cases hc : (x.1 = 2 ∨ x.1 = 3) ∧ x.2.1 ≤ st.length
        · rw [if_pos hc] at e ⊢
          exact a_go_mono hC e
        · rw [if_neg hc] at e
          cases e
theorem a_ip_mono {C C' : aM → List Value → aH → Option aR} (hC : ∀ y as h r, C y as h = some r → C' y as h = some r) {y : aM} {k pc : Nat} {l : List (Option Value)} {st : List Value} {h : aH} {z : aS ⊕ aR} (e : a_ip C y k pc l st h = some z) : a_ip C' y k pc l st h = some z := by
  unfold a_ip at e ⊢
  cases hm : a_Mt y.1 k with
  | none => rw [hm] at e; cases e
  | some x =>
    simp only [hm] at e ⊢
    cases hd : st.drop x.2.1 with
    | nil => rw [hd] at e; cases e
    | cons b rest =>
      simp only [hd] at e ⊢
      cases b <;> first | (cases e; done) | skip
      rename_i b
      dsimp only at e ⊢
      by_cases h6 : x.1 = 6 ∧ x.2.1 = 0 ∧ a_sum rest ≤ 8
      · rw [if_pos h6] at e ⊢
        exact e
      · rw [if_neg h6] at e ⊢
        by_cases hc : (x.1 = 4 ∨ x.1 = 5) ∧ x.2.1 ≤ st.length
        · rw [if_pos hc] at e ⊢
          exact a_go_mono hC e
        · rw [if_neg hc] at e
          cases e
theorem a_w_mono {c : Bool} {x x' : Option (aS ⊕ aR)} {z : aS ⊕ aR} (hx : x = some z → x' = some z) (e : a_w c x = some z) : a_w c x' = some z := by
  unfold a_w at e ⊢
  split at e
  · rename_i h
    rw [if_pos h]
    exact hx e
  · cases e
set_option maxHeartbeats 4000000 in
theorem a_i_mono {C C' : aM → List Value → aH → Option aR} (hC : ∀ y as h r, C y as h = some r → C' y as h = some r) {y : aM} {i : Instr} {n pc : Nat} {l : List (Option Value)} {st : List Value} {h : aH} {z : aS ⊕ aR} (e : a_i C y i n pc l st h = some z) : a_i C' y i n pc l st h = some z := by
  cases i
  case invokevirtual k => exact a_w_mono (a_iv_mono hC) e
  case invokestatic k => exact a_w_mono (a_is_mono hC) e
  case invokespecial k => exact a_w_mono (a_ip_mono hC) e
  all_goals exact e
theorem a_step_mono {C C' : aM → List Value → aH → Option aR} (hC : ∀ y as h r, C y as h = some r → C' y as h = some r) {y : aM} {s : aS} {z : aS ⊕ aR} (e : a_step C y s = some z) : a_step C' y s = some z := by
  unfold a_step at e ⊢
  cases hd : decode y.2.2.1 s.1 with
  | error _ => rw [hd] at e; cases e
  | ok q =>
    rw [hd] at e
    obtain ⟨i, n⟩ := q
    exact a_i_mono hC e
theorem a_run_mono {C C' : aM → List Value → aH → Option aR} (hC : ∀ y as h r, C y as h = some r → C' y as h = some r) {y : aM} : ∀ (f f' : Nat) (s : aS) (r : aR), f ≤ f' → a_run C y f s = some r → a_run C' y f' s = some r
  | 0, _, _, _, _, e => by simp [a_run] at e
  | f + 1, 0, _, _, hf, _ => absurd hf (by omega)
  | f + 1, f' + 1, s, r, hf, e => by
    simp only [a_run] at e ⊢
    cases hs : a_step C y s with
    | none => rw [hs] at e; cases e
    | some x =>
      rw [hs] at e
      rw [a_step_mono hC hs]
      cases x with
      | inl t => exact a_run_mono hC f f' t r (by omega) e
      | inr q => exact e
theorem a_ev_mono {f f' : Nat} (hf : f ≤ f') : ∀ (d : Nat) (y : aM) (as : List Value) (h : aH) (r : aR), a_ev f d y as h = some r → a_ev f' d y as h = some r
  | 0, _, _, _, _, e => by simp [a_ev] at e
  | d + 1, y, as, h, r, e => by
    simp only [a_ev] at e ⊢
    exact a_run_mono (a_ev_mono hf d) f f' _ r hf e
theorem wp_mono {d : Nat} {y : aM} {pc : Nat} {l : List (Option Value)} {st : List Value} {h : aH} {Q Q' : Option Value → aH → Prop} (hQ : ∀ v g, Q v g → Q' v g) (k : wp d y pc l st h Q) : wp d y pc l st h Q' := by
  obtain ⟨f, r, e, q⟩ := k
  exact ⟨f, r, e, hQ _ _ q⟩
theorem wp_nx {d : Nat} {y : aM} {pc pc' : Nat} {l l' : List (Option Value)} {st st' : List Value} {h h' : aH} {Q : Option Value → aH → Prop} (hs : ∀ C, a_step C y (pc, l, st, h) = some (.inl (pc', l', st', h'))) : wp d y pc l st h Q ↔ wp d y pc' l' st' h' Q := by
  constructor
  · rintro ⟨f, r, e, q⟩
    cases f with
    | zero => simp [a_run] at e
    | succ f =>
      simp only [a_run, hs] at e
      exact ⟨f + 1, r, a_run_mono (fun _ _ _ _ z => z) f (f + 1) _ r (by omega) e, q⟩
  · rintro ⟨f, r, e, q⟩
    refine ⟨f + 1, r, ?_, q⟩
    simp only [a_run, hs]
    exact a_run_mono (a_ev_mono (by omega) d) f f _ r (by omega) e
theorem wp_rt {d : Nat} {y : aM} {pc : Nat} {l : List (Option Value)} {st : List Value} {h : aH} {r : aR} {Q : Option Value → aH → Prop} (hs : ∀ C, a_step C y (pc, l, st, h) = some (.inr r)) : wp d y pc l st h Q ↔ Q r.1 r.2 := by
  constructor
  · rintro ⟨f, r', e, q⟩
    cases f with
    | zero => simp [a_run] at e
    | succ f =>
      simp only [a_run, hs] at e
      cases e
      exact q
  · intro q
    exact ⟨1, r, by simp only [a_run, hs], q⟩
theorem wp_no {d : Nat} {y : aM} {pc : Nat} {l : List (Option Value)} {st : List Value} {h : aH} {Q : Option Value → aH → Prop} (hs : ∀ C, a_step C y (pc, l, st, h) = none) : wp d y pc l st h Q ↔ False := by
  constructor
  · rintro ⟨f, r', e, q⟩
    cases f with
    | zero => simp [a_run] at e
    | succ f =>
      simp only [a_run, hs] at e
      cases e
  · exact False.elim
theorem wp_cl {d : Nat} {y z : aM} {pc : Nat} {l : List (Option Value)} {st as rest : List Value} {h : aH} {Q : Option Value → aH → Prop} (hs : ∀ C, a_step C y (pc, l, st, h) = a_back (C z as h) pc l rest) : wp (d + 1) y pc l st h Q ↔ wp d z 0 (a_ent as z.2.2.2.1) [] h (fun v g => wp (d + 1) y (pc + 3) l (v.toList ++ rest) g Q) := by
  constructor
  · rintro ⟨f, r, e, q⟩
    cases f with
    | zero => simp [a_run] at e
    | succ f =>
      simp only [a_run, hs] at e
      cases hc : a_ev (f + 1) (d + 1) z as h with
      | none => simp only [hc, a_back] at e; cases e
      | some w =>
        simp only [hc, a_back, a_nx] at e
        simp only [a_ev] at hc
        exact ⟨f + 1, w, hc, f + 1, r, a_run_mono (fun _ _ _ _ z => z) f (f + 1) _ r (by omega) e, q⟩
  · rintro ⟨f1, w, e1, f2, r, e2, q⟩
    refine ⟨f1 + f2 + 1, r, ?_, q⟩
    have h1 : a_ev (f1 + f2 + 1) (d + 1) z as h = some w := by
      simp only [a_ev]
      exact a_run_mono (a_ev_mono (by omega) d) f1 _ _ w (by omega) e1
    simp only [a_run, hs, h1, a_back, a_nx]
    exact a_run_mono (a_ev_mono (by omega) (d + 1)) f2 _ _ r (by omega) e2
