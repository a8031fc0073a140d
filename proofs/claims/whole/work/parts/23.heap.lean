theorem a_F_inv {o i ci k kd : Nat} (h : a_F o i = some (ci, k, kd)) : ∃ p, (o, i, ci, k, kd, p) ∈ a_tF ∧ a_kF (o, i, ci, k, kd, p) = true := by
  unfold a_F at h
  cases hf : a_tF.find? (fun q => q.1 == o && q.2.1 == i) with
  | none => rw [hf] at h; cases h
  | some q =>
    rw [hf] at h
    have hm := List.mem_of_find?_eq_some hf
    have hp := List.find?_some hf
    obtain ⟨o', i', ci', k', kd', p⟩ := q
    simp only [Bool.and_eq_true, beq_iff_eq] at hp
    simp only [Option.map_some, Option.some.injEq, Prod.mk.injEq] at h
    obtain ⟨rfl, rfl⟩ := hp
    obtain ⟨rfl, rfl, rfl⟩ := h
    exact ⟨p, hm, List.all_eq_true.mp a_cF _ hm⟩
theorem s_heap.put {G : aG} {h : aH} {H H' : Heap} {i : Nat} {e : va_E} (hh : s_heap G h H) (hi : i < aRO) (hn : i < h.1) (hz : H'.size = H.size) (ho : ∀ q : Nat, q ≠ (s_H0 G).size + i → H'[q]? = H[q]?) (hat : va_at (s_D G) aCl ((s_H0 G).size + i, s_e G e) H') : s_heap G (a_put h i e) H' := by
  refine ⟨by rw [hz]; exact hh.1, fun q hq => (ho q (by omega)).trans (hh.2.1 q hq), fun j e' he => ?_⟩
  simp only [a_put, va_up] at he
  by_cases hj : j = i
  · subst hj
    rw [if_pos rfl] at he
    cases he
    exact Or.inl ⟨hi, hn, hat⟩
  · rw [if_neg hj] at he
    rcases hh.2.2 j e' he with ⟨h1, h2, h3⟩ | h1
    · exact Or.inl ⟨h1, h2, h3.kept (ho _ (by show (s_H0 G).size + j ≠ _; omega))⟩
    · exact Or.inr h1
theorem s_heap.new {G : aG} {h : aH} {H H' : Heap} {n : Nat} {e : va_E} (hh : s_heap G h H) (hi : h.1 < aRO) (hz : H'.size = H.size + 1) (ho : ∀ q : Nat, q < H.size → H'[q]? = H[q]?) (hat : va_at (s_D G) aCl ((s_H0 G).size + h.1, s_e G e) H') : s_heap G (a_new h n e) H' := by
  have hs := hh.1
  refine ⟨by rw [hz, hs]; simp only [a_new]; omega, fun q hq => (ho q (by omega)).trans (hh.2.1 q hq), fun j e' he => ?_⟩
  simp only [a_new, va_up] at he ⊢
  by_cases hj : j = h.1
  · subst hj
    rw [if_pos rfl] at he
    cases he
    exact Or.inl ⟨hi, by omega, hat⟩
  · rw [if_neg hj] at he
    rcases hh.2.2 j e' he with ⟨h1, h2, h3⟩ | h1
    · exact Or.inl ⟨h1, by omega, h3.kept (ho _ (by show (s_H0 G).size + j < _; omega))⟩
    · exact Or.inr h1
/-- a made cell -/
theorem s_heap.made {G : aG} {h : aH} {H : Heap} (hh : s_heap G h H) {i : Nat} (hi : i < aRO) {e : va_E} (he : h.2.2 i = some e) : i < h.1 ∧ s_ad G i = (s_H0 G).size + i ∧ va_at (s_D G) aCl ((s_H0 G).size + i, s_e G e) H := by
  rcases hh.2.2 i e he with ⟨h1, h2, h3⟩ | h1
  · exact ⟨h2, by unfold s_ad; rw [if_pos hi], h3⟩
  · omega
theorem s_heap.old {G : aG} {h : aH} {H : Heap} (hh : s_heap G h H) : ∀ a : Nat, a < (s_H0 G).size → ¬ s_A G a → H[a]? = (s_H0 G)[a]? := fun a ha _ => hh.2.1 a ha
theorem s_P1 {D : va_G} {cl : List vw_C} {q : Nat × va_E} {H : Heap} (h : va_at D cl q H) : va_P D cl [q] H := by
  intro k q' hk
  match k, hk with
  | 0, hk => cases hk; exact h
theorem a_cl20 (c : Nat) (h : 12 ≤ c) : aCl[c]? = none := by
  rw [List.getElem?_eq_none_iff]
  exact h
section SH
variable {p : Program} {l : Launch} {e : Env} {R : Room} {s : State} {m : MethodId} {args : Array Value} {below : List Frame} {meth : Method} {c : Code} {Q : State → Prop} {G : aG} {y : aM} {n0 s0 : Nat}
theorem a_gf_inv {idx pc : Nat} {lv : List (Option Value)} {st : List Value} {h : aH} {t : aS} (e1 : a_gf y idx pc lv st h = some (.inl t)) : ∃ a st' ci k kd fs v, st = .ref a :: st' ∧ a_F y.1 idx = some (ci, k, kd) ∧ h.2.2 a = some (.inr (ci, fs)) ∧ fs[k]? = some v ∧ t = (pc + 3, lv, v :: st', h) := by
  unfold a_gf at e1
  split at e1
  · split at e1
    · rename_i h1 h2
      split at e1
      · rename_i h3
        split at e1
        · rename_i h4
          subst h4
          exact ⟨_, _, _, _, _, _, _, rfl, h1, h2, h3, a_nx_inv e1⟩
        · cases e1
      · cases e1
    · cases e1
  · cases e1
set_option maxHeartbeats 1000000 in
theorem s_gf (cx : s_cx p s m args meth c G y) {idx pc : Nat} {lv : List (Option Value)} {st : List Value} {h : aH} {t : aS} (hd : decode y.2.2.1 pc = .ok (.getfield idx, 3)) (e1 : a_gf y idx pc lv st h = some (.inl t))
    (kk : s_W p l e R s m args below meth c Q G y n0 s0 t) : s_W p l e R s m args below meth c Q G y n0 s0 (pc, lv, st, h) := by
  obtain ⟨hx, hb, hml, hown, hts, henv, hin⟩ := cx
  obtain ⟨a, st', ci, k, kd, fs, v, rfl, hF, hc, hv, rfl⟩ := a_gf_inv e1
  obtain ⟨pp, hmem, hok⟩ := a_F_inv hF
  intro H locs ls g1 g2 g3 g4 g5
  have K := kk H locs ls g1 g2 g3 g4 g5
  have hvm : (fs.map (s_v G))[k]? = some (s_v G v) := by rw [List.getElem?_map, hv]; rfl
  show W p l e R s m args below meth c H locs _ _ Q (F0 m pc ls (.ref (s_ad G a) :: st'.map (s_v G)))
  unfold a_kF at hok
  dsimp only at hok
  by_cases h20 : ci = 20
  · subst h20
    simp only [Bool.and_eq_true, decide_eq_true_eq, if_true] at hok
    obtain ⟨⟨hk2, rfl⟩, hw⟩ := hok
    rw [if_neg (by decide)] at hw
    simp only [Bool.and_eq_true, decide_eq_true_eq, true_and] at hw
    rcases g1.2.2 a _ hc with ⟨-, -, r, hr, -⟩ | ⟨ha, hro⟩
    · exfalso
      have h0 : aCl[20]? = some r := hr
      rw [a_cl20 20 (by omega)] at h0
      cases h0
    · have hr := henv.2.1 _ _ hro
      have had : s_ad G a = s_ra G (a - aRO) := by unfold s_ad; rw [if_neg (by omega)]
      rw [had]
      match fs, hv, hr with
      | [v0, v1], hv, hr =>
        obtain ⟨-, r1, r2⟩ := hr
        match k, hk2, hv, hw with
        | 0, _, hv, hw =>
          cases hv
          obtain ⟨cf, kf, fi, f, cell, q1, q2, q3, q4, q5, q6⟩ := r1.kept g1.old
          exact W.getf hx hb hown (hts _ (a_gw_of hw)) q1 q2 q3 q4 q5 rfl rfl hd K
        | 1, _, hv, hw =>
          cases hv
          obtain ⟨cf, kf, fi, f, cell, q1, q2, q3, q4, q5, q6⟩ := r2.kept g1.old
          exact W.getf hx hb hown (hts _ (a_gw_of hw)) q1 q2 q3 q4 q5 rfl rfl hd K
        | k + 2, hk2, _, _ => omega
  · rw [if_neg h20] at hok
    simp only [Bool.and_eq_true, decide_eq_true_eq] at hok
    obtain ⟨⟨hci, hk⟩, hw⟩ := hok
    rcases g1.2.2 a _ hc with ⟨ha, hlt, hat⟩ | ⟨ha, hro⟩
    · have had : s_ad G a = (s_H0 G).size + a := by unfold s_ad; rw [if_pos ha]
      rw [had]
      have hP := s_P1 hat
      by_cases hkd : kd = 1
      · subst hkd
        have hz : va_Nw (.fieldLinkNest (a_nm y.1) idx (a_T ci k).1 (a_T ci k).2.1 (a_T ci k).2.2.1 "SumsInWords") s := henv.2.2.2.1 (y.1, idx, ci, k, 1, pp) hmem rfl
        have hz2 : (Cond.fieldLinkNest (a_nm y.1) idx (a_T ci k).1 (a_T ci k).2.1 (a_T ci k).2.2.1 "SumsInWords").before args s = true := va_Nw.use (A := args) rfl hz
        exact va_getN (D := s_D G) (C := a_nm ci) (T := a_T ci) (N := a_N ci) hx hb hts (a_uin hci) hown henv.1 hP 0 rfl (a_cl ci hci) k hk hz2 (fun _ h9 => h9) hvm hd K
      · rw [if_neg hkd] at hw
        simp only [Bool.and_eq_true, decide_eq_true_eq] at hw
        have hw2 := hts _ (a_gw_of hw.2)
        unfold a_wF at hw2
        rw [if_neg h20, if_neg hkd] at hw2
        exact va_get (D := s_D G) (C := a_nm ci) (T := a_T ci) (N := a_N ci) hx hb hts (a_uin hci) hown henv.1 hP 0 rfl (a_cl ci hci) k hk hw2 (fun _ h9 => h9) hvm hd K
    · exfalso
      have hr := henv.2.1 _ _ hro
      unfold s_ro at hr
      split at hr
      · rename_i h9; cases h9; omega
      · rename_i h9; cases h9; omega
      · rename_i h9; cases h9
      · rename_i h9; cases h9
      · exact hr
theorem a_pf_inv {idx pc : Nat} {lv : List (Option Value)} {st : List Value} {h : aH} {t : aS} (e1 : a_pf y idx pc lv st h = some (.inl t)) : ∃ v a st' ci k fs, st = v :: .ref a :: st' ∧ a_F y.1 idx = some (ci, k, 0) ∧ h.2.2 a = some (.inr (ci, fs)) ∧ (a < aRO ∧ k < fs.length ∧ narrow (a_ty ci k) v = v ∧ fits (a_ty ci k) v = true ∧ ((a_T ci k).2.2.2 = false ∨ (y.2.1.name = "<init>" ∧ y.1 = ci))) ∧ t = (pc + 3, lv, st', a_put h a (.inr (ci, fs.set k v))) := by
  unfold a_pf at e1
  split at e1
  · split at e1
    · rename_i h1 h2
      split at e1
      · rename_i h3
        obtain ⟨rfl, rfl, h3⟩ := h3
        exact ⟨_, _, _, _, _, _, rfl, h1, h2, h3, a_nx_inv e1⟩
      · cases e1
    · cases e1
  · cases e1
set_option maxHeartbeats 1000000 in
theorem s_pf (cx : s_cx p s m args meth c G y) {idx pc : Nat} {lv : List (Option Value)} {st : List Value} {h : aH} {t : aS} (hd : decode y.2.2.1 pc = .ok (.putfield idx, 3)) (e1 : a_pf y idx pc lv st h = some (.inl t))
    (kk : s_W p l e R s m args below meth c Q G y n0 s0 t) : s_W p l e R s m args below meth c Q G y n0 s0 (pc, lv, st, h) := by
  obtain ⟨hx, hb, hml, hown, hts, henv, hin⟩ := cx
  obtain ⟨v, a, st', ci, k, fs, rfl, hF, hc, ⟨ha, hkl, hnar, hfit, hfin⟩, rfl⟩ := a_pf_inv e1
  obtain ⟨pp, hmem, hok⟩ := a_F_inv hF
  intro H locs ls g1 g2 g3 g4 g5
  obtain ⟨hlt, had, hat⟩ := g1.made ha hc
  show W p l e R s m args below meth c H locs _ _ Q (F0 m pc ls (s_v G v :: .ref (s_ad G a) :: st'.map (s_v G)))
  rw [had]
  unfold a_kF at hok
  dsimp only at hok
  by_cases h20 : ci = 20
  · exfalso
    subst h20
    obtain ⟨r, hr, -⟩ := hat
    have h0 : aCl[20]? = some r := hr
    rw [a_cl20 20 (by omega)] at h0
    cases h0
  rw [if_neg h20] at hok
  simp only [Bool.and_eq_true, decide_eq_true_eq] at hok
  obtain ⟨⟨hci, hk⟩, hw⟩ := hok
  have hfm : (fs.map (s_v G)).set k (s_v G v) = (fs.set k v).map (s_v G) := (List.map_set).symm
  have hkl' : k < (fs.map (s_v G)).length := by rw [List.length_map]; exact hkl
  have hap := va_apart (own := a_nm y.1) hts (a_uin hci) (a_ty ci) (a_typ ci hci) (a_nmd ci hci) henv.1 (a_cl ci hci)
  obtain ⟨r, h1, cell, q1, q2, q3, q4⟩ := hat
  have hr : r = (a_nm ci, a_T ci, a_N ci) := Option.some.inj (h1.symm.trans (a_cl ci hci))
  subst hr
  obtain ⟨hS, hfc, kC, hkC, hkind⟩ := henv.1.1 ci _ (a_cl ci hci)
  obtain ⟨cf, kf, fi, f, hi, hsl⟩ := hS k hk
  have hty := a_typ ci hci k hk
  have hst := (u_facts hfc hkC (u_lays hts (a_uin hci) hk) hi).1
  have hlay := hts _ (a_uin hci _ (u_in_lay hk))
  have fin : ∀ (H' : Heap) (locs' : List Loc), H'[(s_H0 G).size + a]? = some (cell.setSlot (((s_D G).2 ci) k) (s_v G v)) → H'.size = H.size → (∀ q, q ≠ (s_H0 G).size + a → H'[q]? = H[q]?) → (∀ q ∈ locs', s_A G q.base) → W p l e R s m args below meth c H' locs' (h.1 - n0) (h.2.1 - s0) Q (F0 m (pc + 3) ls (st'.map (s_v G))) := by
    intro H' locs' e1 e2 e3 e4
    refine kk H' locs' ls (g1.put ha hlt e2 e3 ?_) g2 e4 g4 g5
    refine ⟨_, a_cl ci hci, ?_⟩
    show t_OB _ _ _ _ _ (vp_V ((fs.set k v).map (s_v G)))
    rw [← hfm]
    exact t_OB.to (V := updV (vp_V (fs.map (s_v G))) k (s_v G v)) ⟨_, e1, q2, q3, t_set q4 hap hk (s_v G v)⟩ (fun j _ => vp_updV_set hkl' (s_v G v) j)
  have flocs : ∀ (k' : Nat), ∀ q ∈ locs ++ [(⟨(s_H0 G).size + a, k'⟩ : Loc)], s_A G q.base := by
    intro k' q hq
    rcases List.mem_append.mp hq with h9 | h9
    · exact g3 q h9
    · rw [List.mem_singleton.mp h9]; exact Nat.le_add_right _ _
  have hlink : (Cond.fieldLink (a_nm y.1) idx (a_T ci k).1 (a_T ci k).2.1 (a_T ci k).2.2.1).before args s = true := by
    rw [if_neg (by decide)] at hw
    simp only [Bool.and_eq_true, decide_eq_true_eq] at hw
    have hw2 := hts _ (a_gw_of hw.2)
    unfold a_wF at hw2
    rw [if_neg h20, if_neg (by decide)] at hw2
    exact hw2
  by_cases hff : (a_T ci k).2.2.2 = false
  · unfold u_lay at hlay
    rw [if_neg (by rw [hff]; decide)] at hlay
    have h6 := u_store hfc hkC hkind hlay hi hty (s_v_nar G _ v hnar) (s_v_fit G _ v hfit)
    refine W.putK hx hb (f := f) ⟨hown, hlink, ⟨_, _, _, hi⟩, hst⟩ (by rw [q2]; exact h6) q1 q3 (by rw [hsl]; exact k2_hasslot (q4 k hk)) rfl rfl hd fun H' e1 e2 e3 => ?_
    rw [hsl] at e1 ⊢
    exact fin H' _ e1 e2 e3 (flocs _)
  · have hft : (a_T ci k).2.2.2 = true := by simpa using hff
    obtain ⟨hn, ho⟩ := hfin.resolve_left hff
    unfold u_lay at hlay
    rw [if_pos hft] at hlay
    have hcf : m.cls = cf := by
      obtain ⟨_, _, c', _, _, _, -, -, hf', -, -, -, hown2, -⟩ := Cond.laysFinal_spec hlay
      have e1 : c' = cf := by have := hi.symm.trans hf'; simp at this; exact this.1.symm
      rw [a_dcl ci hci k hk, ← ho] at hown2
      rw [← e1]; exact Option.some.inj (hown.symm.trans hown2)
    have h6 := u_fits hfc hkC hkind (Or.inr hlay) hi hty (s_v_nar G _ v hnar) (s_v_fit G _ v hfit)
    refine W.putFinK hx hb hown hlink hi hst hcf (hin hn) (by rw [q2]; exact h6) q1 q3 (by rw [hsl]; exact k2_hasslot (q4 k hk)) rfl rfl hd fun H' e1 e2 e3 => ?_
    rw [hsl] at e1 ⊢
    exact fin H' _ e1 e2 e3 (flocs _)
end SH
