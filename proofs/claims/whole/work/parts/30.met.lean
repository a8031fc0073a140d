/-! the counts only grow -/
def s_up (C : aM → List Value → aH → Option aR) : Prop := ∀ (z : aM) (as : List Value) (h : aH) (r : aR), C z as h = some r → h.1 ≤ r.2.1 ∧ h.2.1 ≤ r.2.2.1
def a_upz (h : aH) (z : aS ⊕ aR) : Prop := match z with
  | .inl t => h.1 ≤ t.2.2.2.1 ∧ h.2.1 ≤ t.2.2.2.2.1
  | .inr r => h.1 ≤ r.2.1 ∧ h.2.1 ≤ r.2.2.1
theorem up_nx {pc : Nat} {l : List (Option Value)} {st : List Value} {h h' : aH} {z : aS ⊕ aR} (hh : h.1 ≤ h'.1 ∧ h.2.1 ≤ h'.2.1) (e : a_nx pc l st h' = some z) : a_upz h z := by
  unfold a_nx at e
  injection e with e
  subst e
  exact hh
theorem up_gt {pc : Nat} {off : Int} {l : List (Option Value)} {st : List Value} {h : aH} {z : aS ⊕ aR} (e : a_gt pc off l st h = some z) : a_upz h z := by
  unfold a_gt at e
  split at e
  · cases e
  · injection e with e
    subst e
    exact ⟨Nat.le_refl _, Nat.le_refl _⟩
theorem up_go {C : aM → List Value → aH → Option aR} (hC : s_up C) {x : aL} {as st : List Value} {h : aH} {pc : Nat} {l : List (Option Value)} {z : aS ⊕ aR} (e : a_go C x as st h pc l = some z) : a_upz h z := by
  unfold a_go at e
  split at e
  · cases e
  · cases hc : C x.2.2 as h with
    | none => rw [hc] at e; cases e
    | some r => rw [hc] at e; exact up_nx (hC _ _ _ _ hc) e
theorem up_if {cd : Jvm.ClassFile.Cond} {off : Int} {pc : Nat} {l : List (Option Value)} {x y : Int32} {st : List Value} {h : aH} {z : aS ⊕ aR} (e : a_if cd off pc l x y st h = some z) : a_upz h z := by
  unfold a_if at e
  split at e
  · cases e
  · cases cd <;> dsimp only at e <;> split at e <;> first | exact up_gt e | exact up_nx ⟨Nat.le_refl _, Nat.le_refl _⟩ e
set_option maxHeartbeats 8000000 in
theorem up_i {C : aM → List Value → aH → Option aR} (hC : s_up C) {y : aM} {i : Instr} {n pc : Nat} {l : List (Option Value)} {st : List Value} {h : aH} {z : aS ⊕ aR} (e : a_i C y i n pc l st h = some z) : a_upz h z := by
  have rr : h.1 ≤ h.1 ∧ h.2.1 ≤ h.2.1 := ⟨Nat.le_refl _, Nat.le_refl _⟩
  cases i
  case ifCond cd off => obtain ⟨-, e⟩ := a_w_inv e; split at e <;> first | exact up_if e | cases e
  case if_icmp cd off => obtain ⟨-, e⟩ := a_w_inv e; split at e <;> first | exact up_if e | cases e
  case invokevirtual k =>
    obtain ⟨-, e⟩ := a_w_inv e
    unfold a_iv at e
    repeat' (split at e)
    all_goals first | exact up_go hC e | cases e
  case invokestatic k =>
    obtain ⟨-, e⟩ := a_w_inv e
    unfold a_is a_cpy a_mt at e
    repeat' (split at e)
    all_goals first | exact up_go hC e | (refine up_nx ?_ e; exact ⟨Nat.le_refl _, Nat.le_refl _⟩) | cases e
  case invokespecial k =>
    obtain ⟨-, e⟩ := a_w_inv e
    unfold a_ip at e
    repeat' (split at e)
    all_goals first | exact up_go hC e | (refine up_nx ?_ e; exact ⟨Nat.le_refl _, Nat.le_refl _⟩) | cases e
  case new k =>
    obtain ⟨-, e⟩ := a_w_inv e
    unfold a_nw at e
    repeat' (split at e)
    all_goals first | exact up_nx ⟨Nat.le_succ _, Nat.le_add_right _ _⟩ e | cases e
  case newarray k =>
    obtain ⟨-, e⟩ := a_w_inv e
    unfold a_na at e
    repeat' (split at e)
    all_goals first | exact up_nx ⟨Nat.le_succ _, Nat.le_add_right _ _⟩ e | cases e
  case anewarray k =>
    obtain ⟨-, e⟩ := a_w_inv e
    unfold a_nr at e
    repeat' (split at e)
    all_goals first | exact up_nx ⟨Nat.le_succ _, Nat.le_add_right _ _⟩ e | cases e
  case tableswitch df lo hi offs =>
    have e2 : a_sw df lo hi offs pc l st h = some z := e
    unfold a_sw at e2
    repeat' (split at e2)
    all_goals first | exact up_gt e2 | cases e2
  case lookupswitch df ps =>
    have e2 : a_lk df ps pc l st h = some z := e
    unfold a_lk at e2
    repeat' (split at e2)
    all_goals first | exact up_gt e2 | cases e2
  case goto off => obtain ⟨-, e⟩ := a_w_inv e; exact up_gt e
  case ifnonnull off => obtain ⟨-, e⟩ := a_w_inv e; split at e <;> first | exact up_gt e | (refine up_nx ?_ e; exact ⟨Nat.le_refl _, Nat.le_refl _⟩) | cases e
  case ireturn =>
    obtain ⟨-, e⟩ := a_w_inv e
    unfold a_rt at e
    repeat' (split at e)
    all_goals first | (cases e; exact rr) | cases e
  case lreturn => obtain ⟨-, e⟩ := a_w_inv e; split at e <;> first | (cases e; exact rr) | cases e
  case areturn => obtain ⟨-, e⟩ := a_w_inv e; split at e <;> first | (cases e; exact rr) | cases e
  case return_ => obtain ⟨-, e⟩ := a_w_inv e; split at e <;> first | (cases e; exact rr) | cases e
  case getfield k => obtain ⟨-, e⟩ := a_w_inv e; unfold a_gf at e; repeat' (split at e)
                     all_goals first | (refine up_nx ?_ e; exact ⟨Nat.le_refl _, Nat.le_refl _⟩) | cases e
  case putfield k => obtain ⟨-, e⟩ := a_w_inv e; unfold a_pf at e; repeat' (split at e)
                     all_goals first | (refine up_nx ?_ e; exact ⟨Nat.le_refl _, Nat.le_refl _⟩) | cases e
  case iaload => obtain ⟨-, e⟩ := a_w_inv e; unfold a_al at e; repeat' (split at e)
                 all_goals first | (refine up_nx ?_ e; exact ⟨Nat.le_refl _, Nat.le_refl _⟩) | cases e
  case baload => obtain ⟨-, e⟩ := a_w_inv e; unfold a_al at e; repeat' (split at e)
                 all_goals first | (refine up_nx ?_ e; exact ⟨Nat.le_refl _, Nat.le_refl _⟩) | cases e
  case laload => obtain ⟨-, e⟩ := a_w_inv e; unfold a_all at e; repeat' (split at e)
                 all_goals first | (refine up_nx ?_ e; exact ⟨Nat.le_refl _, Nat.le_refl _⟩) | cases e
  case aaload => obtain ⟨-, e⟩ := a_w_inv e; unfold a_alr at e; repeat' (split at e)
                 all_goals first | (refine up_nx ?_ e; exact ⟨Nat.le_refl _, Nat.le_refl _⟩) | cases e
  case iastore => obtain ⟨-, e⟩ := a_w_inv e; unfold a_as at e; repeat' (split at e)
                  all_goals first | (refine up_nx ?_ e; exact ⟨Nat.le_refl _, Nat.le_refl _⟩) | cases e
  case bastore => obtain ⟨-, e⟩ := a_w_inv e; unfold a_asz at e; repeat' (split at e)
                  all_goals first | (refine up_nx ?_ e; exact ⟨Nat.le_refl _, Nat.le_refl _⟩) | cases e
  case lastore => obtain ⟨-, e⟩ := a_w_inv e; unfold a_asl at e; repeat' (split at e)
                  all_goals first | (refine up_nx ?_ e; exact ⟨Nat.le_refl _, Nat.le_refl _⟩) | cases e
  case aastore => obtain ⟨-, e⟩ := a_w_inv e; unfold a_asr at e; repeat' (split at e)
                  all_goals first | (refine up_nx ?_ e; exact ⟨Nat.le_refl _, Nat.le_refl _⟩) | cases e
  case arraylength => obtain ⟨-, e⟩ := a_w_inv e; unfold a_len at e; repeat' (split at e)
                      all_goals first | (refine up_nx ?_ e; exact ⟨Nat.le_refl _, Nat.le_refl _⟩) | cases e
  all_goals first
    | (cases e; done)
    | (obtain ⟨-, e⟩ := a_w_inv e; refine up_nx ?_ e; exact ⟨Nat.le_refl _, Nat.le_refl _⟩)
    | (obtain ⟨-, e⟩ := a_w_inv e; unfold a_lod at e; repeat' (split at e)
       all_goals first | (refine up_nx ?_ e; exact ⟨Nat.le_refl _, Nat.le_refl _⟩) | cases e
       done)
    | (obtain ⟨-, e⟩ := a_w_inv e; unfold a_sto at e; repeat' (split at e)
       all_goals first | (refine up_nx ?_ e; exact ⟨Nat.le_refl _, Nat.le_refl _⟩) | cases e
       done)
    | (obtain ⟨-, e⟩ := a_w_inv e; unfold a_stL at e; repeat' (split at e)
       all_goals first | (refine up_nx ?_ e; exact ⟨Nat.le_refl _, Nat.le_refl _⟩) | cases e
       done)
    | (obtain ⟨-, e⟩ := a_w_inv e; unfold a_ii at e; repeat' (split at e)
       all_goals first | (refine up_nx ?_ e; exact ⟨Nat.le_refl _, Nat.le_refl _⟩) | cases e
       done)
    | (obtain ⟨-, e⟩ := a_w_inv e; unfold a_dv at e; repeat' (split at e)
       all_goals first | (refine up_nx ?_ e; exact ⟨Nat.le_refl _, Nat.le_refl _⟩) | cases e
       done)
    | (obtain ⟨-, e⟩ := a_w_inv e; unfold a_ll at e; repeat' (split at e)
       all_goals first | (refine up_nx ?_ e; exact ⟨Nat.le_refl _, Nat.le_refl _⟩) | cases e
       done)
    | (obtain ⟨-, e⟩ := a_w_inv e; unfold a_li at e; repeat' (split at e)
       all_goals first | (refine up_nx ?_ e; exact ⟨Nat.le_refl _, Nat.le_refl _⟩) | cases e
       done)
    | (obtain ⟨-, e⟩ := a_w_inv e; repeat' (split at e)
       all_goals first | (refine up_nx ?_ e; exact ⟨Nat.le_refl _, Nat.le_refl _⟩) | cases e
       done)
theorem up_step {C : aM → List Value → aH → Option aR} (hC : s_up C) {y : aM} {s : aS} {z : aS ⊕ aR} (e : a_step C y s = some z) : a_upz s.2.2.2 z := by
  unfold a_step at e
  cases hd : decode y.2.2.1 s.1 with
  | error _ => rw [hd] at e; cases e
  | ok q => rw [hd] at e; obtain ⟨i, n⟩ := q; exact up_i hC e
theorem up_run {C : aM → List Value → aH → Option aR} (hC : s_up C) {y : aM} : ∀ (f : Nat) (s : aS) (r : aR), a_run C y f s = some r → s.2.2.2.1 ≤ r.2.1 ∧ s.2.2.2.2.1 ≤ r.2.2.1
  | 0, _, _, e => by simp [a_run] at e
  | f + 1, s, r, e => by
    simp only [a_run] at e
    cases hs : a_step C y s with
    | none => rw [hs] at e; cases e
    | some x =>
      rw [hs] at e
      have hu := up_step hC hs
      cases x with
      | inl t =>
        have := up_run hC f t r e
        exact ⟨Nat.le_trans hu.1 this.1, Nat.le_trans hu.2 this.2⟩
      | inr q => cases e; exact hu
theorem up_ev (f : Nat) : ∀ d, s_up (a_ev f d)
  | 0 => fun z as h r e => by simp [a_ev] at e
  | d + 1 => fun z as h r e => by
    simp only [a_ev] at e
    exact up_run (up_ev f d) f _ r e
