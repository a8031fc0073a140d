set_option maxHeartbeats 4000000 in
/-- an int is answered by ireturn alone -/
theorem i_end {C : aM → List Value → aH → Option aR} {y : aM} {pc : Nat} {lv : List (Option Value)} {st : List Value} {h rh : aH} {v : Int32} (e1 : a_step C y (pc, lv, st, h) = some (.inr (some (.int v), rh))) : decode y.2.2.1 pc = .ok (.ireturn, 1) ∧ st = [.int v] ∧ h = rh := by
  unfold a_step at e1
  dsimp only at e1
  cases hd : decode y.2.2.1 pc with
  | error _ => rw [hd] at e1; cases e1
  | ok q =>
    rw [hd] at e1
    obtain ⟨i, n⟩ := q
    dsimp only at e1
    have nonx : ∀ {r : aR} {pc' : Nat} {l' : List (Option Value)} {st' : List Value} {h' : aH}, a_nx pc' l' st' h' = some (.inr r) → False := by
      intro r pc' l' st' h' e2
      unfold a_nx at e2
      injection e2 with e2
      cases e2
    have nogt : ∀ {r : aR} {pc' : Nat} {o' : Int} {l' : List (Option Value)} {st' : List Value} {h' : aH}, a_gt pc' o' l' st' h' = some (.inr r) → False := by
      intro r pc' o' l' st' h' e2
      unfold a_gt at e2
      split at e2
      · cases e2
      · injection e2 with e2
        cases e2
    have nogo : ∀ {r : aR} {x : aL} {as st' : List Value} {h' : aH} {pc' : Nat} {l' : List (Option Value)}, a_go C x as st' h' pc' l' = some (.inr r) → False := by
      intro r x as st' h' pc' l' e2
      unfold a_go a_back at e2
      split at e2
      · cases e2
      · split at e2
        · exact nonx e2
        · cases e2
    cases i
    case ireturn =>
      obtain ⟨rfl, e2⟩ := a_w_n e1
      unfold a_rt at e2
      split at e2
      · split at e2
        · cases e2
          exact ⟨rfl, rfl, rfl⟩
        · cases e2
      · cases e2
    case lreturn =>
      obtain ⟨rfl, e2⟩ := a_w_n e1
      split at e2 <;> cases e2
    case areturn =>
      obtain ⟨rfl, e2⟩ := a_w_n e1
      split at e2 <;> cases e2
    case return_ =>
      obtain ⟨rfl, e2⟩ := a_w_n e1
      split at e2 <;> cases e2
    case tableswitch df lo hi offs =>
      exfalso
      have e2 : a_sw df lo hi offs pc lv st h = some (.inr _) := e1
      unfold a_sw at e2
      repeat' (split at e2)
      all_goals first | exact nogt e2 | cases e2
    case lookupswitch df ps =>
      exfalso
      have e2 : a_lk df ps pc lv st h = some (.inr _) := e1
      unfold a_lk at e2
      repeat' (split at e2)
      all_goals first | exact nogt e2 | cases e2
    case ifCond cd off =>
      exfalso
      obtain ⟨-, e2⟩ := a_w_inv e1
      split at e2
      · unfold a_if at e2
        split at e2
        · cases e2
        · cases cd <;> dsimp only at e2 <;> split at e2 <;> first | exact nogt e2 | exact nonx e2
      · cases e2
    case if_icmp cd off =>
      exfalso
      obtain ⟨-, e2⟩ := a_w_inv e1
      split at e2
      · unfold a_if at e2
        split at e2
        · cases e2
        · cases cd <;> dsimp only at e2 <;> split at e2 <;> first | exact nogt e2 | exact nonx e2
      · cases e2
    all_goals exfalso
    all_goals first
      | (cases e1; done)
      | (obtain ⟨-, e2⟩ := a_w_inv e1
         first | exact nonx e2 | exact nogt e2
               | (unfold a_iv at e2; repeat' (split at e2)
                  all_goals first | exact nogo e2 | cases e2
                  done)
               | (unfold a_is a_cpy a_mt at e2; repeat' (split at e2)
                  all_goals first | exact nogo e2 | exact nonx e2 | cases e2
                  done)
               | (unfold a_ip at e2; repeat' (split at e2)
                  all_goals first | exact nogo e2 | exact nonx e2 | cases e2
                  done)
               | (first | unfold a_lod at e2 | unfold a_sto at e2 | unfold a_stL at e2 | unfold a_ii at e2 | unfold a_dv at e2 | unfold a_ll at e2 | unfold a_li at e2 | unfold a_gf at e2 | unfold a_pf at e2 | unfold a_al at e2 | unfold a_all at e2 | unfold a_alr at e2 | unfold a_as at e2 | unfold a_asz at e2 | unfold a_asl at e2 | unfold a_asr at e2 | unfold a_len at e2 | unfold a_na at e2 | unfold a_nr at e2 | unfold a_nw at e2 | skip
                  repeat' (split at e2)
                  all_goals first | exact nonx e2 | exact nogt e2 | cases e2
                  done))
