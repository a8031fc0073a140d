section SR
variable {p : Program} {l : Launch} {e : Env} {R : Room} {s : State} {m : MethodId} {args : Array Value} {below : List Frame} {meth : Method} {c : Code} {Q : State → Prop} {G : aG} {y : aM} {n0 s0 d : Nat} {C : aM → List Value → aH → Option aR}
theorem s_run (cx : s_cx p s m args meth c G y) (hC : s_ok l G d C) (hU : s_up C) (hRf : d + 1 ≤ R.frames ∧ 37 * (d + 1) ≤ R.locals) (r : aR) (hR : r.2.1 - n0 ≤ R.cells ∧ r.2.2.1 - s0 ≤ R.slots)
    (hret : ∀ x : aS, a_step C y x = some (.inr r) → s_W p l e R s m args below meth c Q G y n0 s0 x) : ∀ (f : Nat) (x : aS), a_run C y f x = some r → s_W p l e R s m args below meth c Q G y n0 s0 x
  | 0, _, e1 => by simp [a_run] at e1
  | f + 1, x, e1 => by
    simp only [a_run] at e1
    cases hs : a_step C y x with
    | none => rw [hs] at e1; cases e1
    | some z =>
      rw [hs] at e1
      cases z with
      | inr q => cases e1; exact hret x hs
      | inl t =>
        have ih := s_run cx hC hU hRf r hR hret f t e1
        have hu := up_run hU f t r e1
        unfold a_step at hs
        cases hd : decode y.2.2.1 x.1 with
        | error _ => rw [hd] at hs; cases hs
        | ok q =>
          rw [hd] at hs
          obtain ⟨i, n⟩ := q
          exact s_i cx hC hRf hd hs (by omega) ih
set_option maxHeartbeats 4000000 in
theorem s_ret {r : aR} {x : aS} (cx : s_cx p s m args meth c G y) (hlocks : meth.locks = false) (hr : meth.sig.returnType = y.2.2.2.2) (e1 : a_step C y x = some (.inr r)) :
    s_W p l e R s m args below meth c (MQ below (s_Qc G r) args s (r.2.1 - n0) (r.2.2.1 - s0) (s_A G)) G y n0 s0 x := by
  obtain ⟨pc, lv, st, h⟩ := x
  have hx := cx.1
  have hb := cx.2.1
  unfold a_step at e1
  dsimp only at e1
  cases hd : decode y.2.2.1 pc with
  | error _ => rw [hd] at e1; cases e1
  | ok q =>
    rw [hd] at e1
    obtain ⟨i, n⟩ := q
    dsimp only at e1
    have nonx : ∀ {pc' : Nat} {l' : List (Option Value)} {st' : List Value} {h' : aH}, a_nx pc' l' st' h' = some (.inr r) → False := by
      intro pc' l' st' h' e2
      unfold a_nx at e2
      injection e2 with e2
      cases e2
    have nogt : ∀ {pc' : Nat} {o' : Int} {l' : List (Option Value)} {st' : List Value} {h' : aH}, a_gt pc' o' l' st' h' = some (.inr r) → False := by
      intro pc' o' l' st' h' e2
      unfold a_gt at e2
      split at e2
      · cases e2
      · injection e2 with e2
        cases e2
    have nogo : ∀ {x : aL} {as st' : List Value} {h' : aH} {pc' : Nat} {l' : List (Option Value)}, a_go C x as st' h' pc' l' = some (.inr r) → False := by
      intro x as st' h' pc' l' e2
      unfold a_go a_back at e2
      split at e2
      · cases e2
      · split at e2
        · exact nonx e2
        · cases e2
    cases i
    case ireturn =>
      obtain ⟨rfl, e2⟩ := a_w_n e1
      unfold a_rt at e2
      split at e2
      · rename_i v ty hty
        split at e2
        · rename_i hn
          cases e2
          intro H locs ls g1 g2 g3 g4 g5
          exact W.zret hx hb (hr.trans hty) hn (fun t ht hW => ⟨rfl, by rw [ht]; exact g1⟩) g3 hd hlocks
        · cases e2
      · cases e2
    case lreturn =>
      obtain ⟨rfl, e2⟩ := a_w_n e1
      split at e2
      · rename_i v hty
        cases e2
        intro H locs ls g1 g2 g3 g4 g5
        exact W.lret hx hb (hr.trans hty) (fun t ht hW => ⟨rfl, by rw [ht]; exact g1⟩) g3 hd hlocks
      · cases e2
    case areturn =>
      obtain ⟨rfl, e2⟩ := a_w_n e1
      split at e2
      · rename_i v nn hty
        cases e2
        intro H locs ls g1 g2 g3 g4 g5
        exact W.aret hx hb (hr.trans hty) (Or.inl ⟨_, rfl⟩) (Or.inr ⟨_, rfl⟩) (fun t ht hW => ⟨rfl, by rw [ht]; exact g1⟩) g3 hd hlocks
      · cases e2
    case return_ =>
      obtain ⟨rfl, e2⟩ := a_w_n e1
      split at e2
      · rename_i hty
        cases e2
        intro H locs ls g1 g2 g3 g4 g5
        exact W.vret hx hb (hr.trans hty) (fun t ht hW => ⟨rfl, by rw [ht]; exact g1⟩) g3 hd hlocks
      · cases e2
    case tableswitch df lo hi offs =>
      exfalso
      have e2 : a_sw df lo hi offs pc lv st h = some (.inr r) := e1
      unfold a_sw at e2
      repeat' (split at e2)
      all_goals first | exact nogt e2 | cases e2
    case lookupswitch df ps =>
      exfalso
      have e2 : a_lk df ps pc lv st h = some (.inr r) := e1
      unfold a_lk at e2
      repeat' (split at e2)
      all_goals first | exact nogt e2 | cases e2
    case ifCond cd off =>
      exfalso
      obtain ⟨-, e2⟩ := a_w_inv e1
      split at e2
      · unfold a_if at e2
        split at e2
        · cases e2
        · cases cd <;> dsimp only at e2 <;> split at e2 <;> first | exact nogt e2 | exact nonx e2
      · cases e2
    case if_icmp cd off =>
      exfalso
      obtain ⟨-, e2⟩ := a_w_inv e1
      split at e2
      · unfold a_if at e2
        split at e2
        · cases e2
        · cases cd <;> dsimp only at e2 <;> split at e2 <;> first | exact nogt e2 | exact nonx e2
      · cases e2
    all_goals exfalso
    all_goals first
      | (cases e1; done)
      | (obtain ⟨-, e2⟩ := a_w_inv e1
         first | exact nonx e2 | exact nogt e2
               | (unfold a_iv at e2; repeat' (split at e2)
                  all_goals first | exact nogo e2 | cases e2
                  done)
               | (unfold a_is a_cpy a_mt at e2; repeat' (split at e2)
                  all_goals first | exact nogo e2 | exact nonx e2 | cases e2
                  done)
               | (unfold a_ip at e2; repeat' (split at e2)
                  all_goals first | exact nogo e2 | exact nonx e2 | cases e2
                  done)
               | (first | unfold a_lod at e2 | unfold a_sto at e2 | unfold a_stL at e2 | unfold a_ii at e2 | unfold a_dv at e2 | unfold a_ll at e2 | unfold a_li at e2 | unfold a_gf at e2 | unfold a_pf at e2 | unfold a_al at e2 | unfold a_all at e2 | unfold a_alr at e2 | unfold a_as at e2 | unfold a_asz at e2 | unfold a_asl at e2 | unfold a_asr at e2 | unfold a_len at e2 | unfold a_na at e2 | unfold a_nr at e2 | unfold a_nw at e2 | skip
                  repeat' (split at e2)
                  all_goals first | exact nonx e2 | exact nogt e2 | cases e2
                  done))
end SR
set_option maxHeartbeats 4000000 in
/-- SOUNDNESS: what the abstract machine answers, the machine answers -/
theorem s_ev (l : Launch) (G : aG) (f : Nat) : ∀ d, s_ok l G d (a_ev f d)
  | 0 => fun z as h r e1 => by simp [a_ev] at e1
  | d + 1 => fun z as h r e1 hok hen h18 => by
    have hup := up_ev f (d + 1) z as h r e1
    refine ⟨hup.1, hup.2, ?_⟩
    obtain ⟨q1, q2, q3, q4⟩ := a_okM_inv hok
    refine Met.ofW (cc := z.2.2.1) (maxL := z.2.2.2.1) (ret := z.2.2.2.2) q1 rfl ?_
    intro p e s m args below meth c s₁ B hml hv
    obtain ⟨rfl, hh, henv⟩ := hv
    have hts := atoms_spec (ws := s_ws z) B.pre
    have hown : s.vm.findClass (a_nm z.1) = some m.cls := by rw [q2]; exact findClass_of_methodNamed B.named
    have hlocks := B.notSynchronized
    have hin : z.2.1.name = "<init>" → meth.name = "<init>" := fun h9 => (name_of_methodNamed B.named B.method).1.trans h9
    have cx : s_cx p s m ((as.map (s_v G)).toArray) meth c G z := ⟨B.exec, B.bytes, hml, hown, fun w hw => hts w (List.mem_cons_of_mem _ hw), henv, hin⟩
    simp only [a_ev] at e1
    rw [lg_entry_eq]
    have key := s_run (e := e) (below := below) (n0 := h.1) (s0 := h.2.1) (R := { frames := d + 1, cells := r.2.1 - h.1, slots := r.2.2.1 - h.2.1, locals := 37 * (d + 1) }) (Q := MQ below (s_Qc G r) ((as.map (s_v G)).toArray) s (r.2.1 - h.1) (r.2.2.1 - h.2.1) (s_A G)) cx (s_ev l G f d) (up_ev f d) ⟨Nat.le_refl _, Nat.le_refl _⟩ r ⟨Nat.le_refl _, Nat.le_refl _⟩ (fun x hx => s_ret cx hlocks B.returns hx) f _ e1
    have K := key s.heap [] _ hh (s_lv.entry G as hen) (fun q hq => by cases hq) (Nat.le_refl _) (Nat.le_refl _)
    exact s_cs (Nat.sub_self _).symm (Nat.sub_self _).symm K
