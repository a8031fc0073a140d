theorem s_tA {G : aG} {s : State} (henv : s_env G s) {t : Nat} {ty : FieldType} (ht : (s_tys G)[t]? = some (s_dA G t, ty)) : ArrOfT s (s_dA G t) ty ∧ va_RA s (s_dA G t) ty := henv.1.2 t _ ht
section SA
variable {p : Program} {l : Launch} {e : Env} {R : Room} {s : State} {m : MethodId} {args : Array Value} {below : List Frame} {meth : Method} {c : Code} {Q : State → Prop} {G : aG} {y : aM} {n0 s0 : Nat}
theorem s_flocs {locs : List Loc} (g3 : ∀ q ∈ locs, s_A G q.base) (a k : Nat) : ∀ q ∈ locs ++ [(⟨(s_H0 G).size + a, k⟩ : Loc)], s_A G q.base := by
  intro q hq
  rcases List.mem_append.mp hq with h9 | h9
  · exact g3 q h9
  · rw [List.mem_singleton.mp h9]; exact Nat.le_add_right _ _
theorem a_al_inv {tt : Nat → Bool} {pc : Nat} {lv : List (Option Value)} {st : List Value} {h : aH} {t : aS} (e1 : a_al tt pc lv st h = some (.inl t)) : ∃ i a st' tg n f, st = .int i :: .ref a :: st' ∧ h.2.2 a = some (.inl (tg, n, .inl f)) ∧ tt tg = true ∧ vp_in i n ∧ t = (pc + 1, lv, .int (f i.toNatClampNeg) :: st', h) := by
  unfold a_al at e1
  split at e1
  · split at e1
    · rename_i h1
      split at e1
      · rename_i h2
        exact ⟨_, _, _, _, _, _, rfl, h1, h2.1, h2.2.1, a_nx_inv e1⟩
      · cases e1
    · cases e1
  · cases e1
set_option maxHeartbeats 1000000 in
theorem s_iald (cx : s_cx p s m args meth c G y) {pc : Nat} {lv : List (Option Value)} {st : List Value} {h : aH} {t : aS} (hd : decode y.2.2.1 pc = .ok (.iaload, 1)) (e1 : a_al (fun t => t == 0) pc lv st h = some (.inl t))
    (kk : s_W p l e R s m args below meth c Q G y n0 s0 t) : s_W p l e R s m args below meth c Q G y n0 s0 (pc, lv, st, h) := by
  obtain ⟨hx, hb, hml, hown, hts, henv, hin⟩ := cx
  obtain ⟨i, a, st', tg, n, f, rfl, hc, ht, hin2, rfl⟩ := a_al_inv e1
  have ht : tg = 0 := by simpa using ht
  subst ht
  intro H locs ls g1 g2 g3 g4 g5
  have K := kk H locs ls g1 g2 g3 g4 g5
  show W p l e R s m args below meth c H locs _ _ Q (F0 m pc ls (.int i :: .ref (s_ad G a) :: st'.map (s_v G)))
  rcases g1.2.2 a _ hc with ⟨ha, hlt, hat⟩ | ⟨ha, hro⟩
  · have had : s_ad G a = (s_H0 G).size + a := by unfold s_ad; rw [if_pos ha]
    rw [had]
    exact va_iald (D := s_D G) hx hb henv.1 (s_P1 hat) 0 0 rfl rfl hin2 hd K
  · have hr : va_T .int (s_ra G (a - aRO)) n (fun i => .int (f i)) (s_A G) s (s_H0 G) := henv.2.1 _ _ hro
    have had : s_ad G a = s_ra G (a - aRO) := by unfold s_ad; rw [if_neg (by omega)]
    rw [had]
    obtain ⟨cell, r1, r2, r3, r4, r5, r6, r7⟩ := hr.kept g1.old
    have hlt : i.toNatClampNeg < n := Nat.not_le.mp fun q => hin2 (Or.inr q)
    exact W.iald (v := .int (f i.toNatClampNeg)) hx hb r1 r2 r3 (fun z => hin2 (z.elim Or.inl (fun z => absurd z (by omega)))) (r6 _ hlt) rfl rfl hd K
set_option maxHeartbeats 1000000 in
theorem s_bald (cx : s_cx p s m args meth c G y) {pc : Nat} {lv : List (Option Value)} {st : List Value} {h : aH} {t : aS} (hd : decode y.2.2.1 pc = .ok (.baload, 1)) (e1 : a_al (fun t => t == 2 || t == 5) pc lv st h = some (.inl t))
    (kk : s_W p l e R s m args below meth c Q G y n0 s0 t) : s_W p l e R s m args below meth c Q G y n0 s0 (pc, lv, st, h) := by
  obtain ⟨hx, hb, hml, hown, hts, henv, hin⟩ := cx
  obtain ⟨i, a, st', tg, n, f, rfl, hc, ht, hin2, rfl⟩ := a_al_inv e1
  have ht : tg = 2 ∨ tg = 5 := by simpa using ht
  have h5 : tg = 5 → aRO ≤ a := fun z => by
    subst z
    unfold a_al at e1
    simp only [hc] at e1
    split at e1
    · rename_i h9; exact h9.2.2.resolve_left (by decide)
    · cases e1
  intro H locs ls g1 g2 g3 g4 g5
  have K := kk H locs ls g1 g2 g3 g4 g5
  show W p l e R s m args below meth c H locs _ _ Q (F0 m pc ls (.int i :: .ref (s_ad G a) :: st'.map (s_v G)))
  rcases g1.2.2 a _ hc with ⟨ha, hlt, hat⟩ | ⟨ha, hro⟩
  · have had : s_ad G a = (s_H0 G).size + a := by unfold s_ad; rw [if_pos ha]
    rw [had]
    rcases ht with rfl | rfl
    · exact va_zald (D := s_D G) hx hb henv.1 (s_P1 hat) 0 2 rfl rfl hin2 hd K
    · exact absurd (h5 rfl) (by omega)
  · have had : s_ad G a = s_ra G (a - aRO) := by unfold s_ad; rw [if_neg (by omega)]
    rw [had]
    rcases ht with rfl | rfl
    · have hr : s_ro G s (a - aRO) (.inl (2, n, .inl f)) := henv.2.1 _ _ hro
      exact hr.elim
    · have hr : va_T .byte (s_ra G (a - aRO)) n (fun i => .int (f i)) (s_A G) s (s_H0 G) := henv.2.1 _ _ hro
      obtain ⟨cell, r1, r2, r3, r4, r5, r6, r7⟩ := hr.kept g1.old
      have hlt : i.toNatClampNeg < n := Nat.not_le.mp fun q => hin2 (Or.inr q)
      exact W.bald (v := .int (f i.toNatClampNeg)) hx hb r1 r2 r3 (fun z => hin2 (z.elim Or.inl (fun z => absurd z (by omega)))) (r6 _ hlt) rfl rfl hd K
theorem s_lald (cx : s_cx p s m args meth c G y) {pc : Nat} {lv : List (Option Value)} {st : List Value} {h : aH} {t : aS} (hd : decode y.2.2.1 pc = .ok (.laload, 1)) (e1 : a_all pc lv st h = some (.inl t))
    (kk : s_W p l e R s m args below meth c Q G y n0 s0 t) : s_W p l e R s m args below meth c Q G y n0 s0 (pc, lv, st, h) := by
  obtain ⟨hx, hb, hml, hown, hts, henv, hin⟩ := cx
  unfold a_all at e1
  split at e1
  · rename_i i a st'
    split at e1
    · rename_i n f hc
      split at e1
      · rename_i hin2
        cases a_nx_inv e1
        intro H locs ls g1 g2 g3 g4 g5
        have K := kk H locs ls g1 g2 g3 g4 g5
        show W p l e R s m args below meth c H locs _ _ Q (F0 m pc ls (.int i :: .ref (s_ad G a) :: st'.map (s_v G)))
        rcases g1.2.2 a _ hc with ⟨ha, hlt, hat⟩ | ⟨ha, hro⟩
        · have had : s_ad G a = (s_H0 G).size + a := by unfold s_ad; rw [if_pos ha]
          rw [had]
          exact va_lald (D := s_D G) hx hb henv.1 (s_P1 hat) 0 1 rfl rfl hin2 hd K
        · have hr : s_ro G s (a - aRO) (.inl (1, n, .inr (.inl f))) := henv.2.1 _ _ hro
          exact hr.elim
      · cases e1
    · cases e1
  · cases e1
theorem s_rf (G : aG) (r : Option Nat) : va_rf (r.map (s_ad G)) = s_v G (va_rf r) := by cases r <;> rfl
set_option maxHeartbeats 1000000 in
theorem s_aald (cx : s_cx p s m args meth c G y) {pc : Nat} {lv : List (Option Value)} {st : List Value} {h : aH} {t : aS} (hd : decode y.2.2.1 pc = .ok (.aaload, 1)) (e1 : a_alr pc lv st h = some (.inl t))
    (kk : s_W p l e R s m args below meth c Q G y n0 s0 t) : s_W p l e R s m args below meth c Q G y n0 s0 (pc, lv, st, h) := by
  obtain ⟨hx, hb, hml, hown, hts, henv, hin⟩ := cx
  unfold a_alr at e1
  split at e1
  · rename_i i a st'
    split at e1
    · rename_i tg n f hc
      split at e1
      · rename_i hq
        obtain ⟨htg, ha, hin2⟩ := hq
        cases a_nx_inv e1
        intro H locs ls g1 g2 g3 g4 g5
        have K := kk H locs ls g1 g2 g3 g4 g5
        have K : W p l e R s m args below meth c H locs _ _ Q (F0 m (pc + 1) ls (s_v G (va_rf (f i.toNatClampNeg)) :: st'.map (s_v G))) := K
        rw [← s_rf] at K
        show W p l e R s m args below meth c H locs _ _ Q (F0 m pc ls (.int i :: .ref (s_ad G a) :: st'.map (s_v G)))
        obtain ⟨hlt, had, hat⟩ := g1.made ha hc
        rw [had]
        rcases htg with rfl | rfl
        · exact va_aldq (D := s_D G) (C := "SumsInWords$State") hx hb henv.1 (s_P1 hat) 0 3 rfl rfl hin2 hd K
        · exact va_aldq (D := s_D G) (C := "SumsInWords$Sentence") hx hb henv.1 (s_P1 hat) 0 4 rfl rfl hin2 hd K
      · cases e1
    · cases e1
  · cases e1
set_option maxHeartbeats 1000000 in
theorem s_iast (cx : s_cx p s m args meth c G y) {pc : Nat} {lv : List (Option Value)} {st : List Value} {h : aH} {t : aS} (hd : decode y.2.2.1 pc = .ok (.iastore, 1)) (e1 : a_as pc lv st h = some (.inl t))
    (kk : s_W p l e R s m args below meth c Q G y n0 s0 t) : s_W p l e R s m args below meth c Q G y n0 s0 (pc, lv, st, h) := by
  obtain ⟨hx, hb, hml, hown, hts, henv, hin⟩ := cx
  unfold a_as at e1
  split at e1
  · rename_i x i a st'
    split at e1
    · rename_i n f hc
      split at e1
      · rename_i hq
        obtain ⟨ha, hin2⟩ := hq
        cases a_nx_inv e1
        intro H locs ls g1 g2 g3 g4 g5
        show W p l e R s m args below meth c H locs _ _ Q (F0 m pc ls (.int x :: .int i :: .ref (s_ad G a) :: st'.map (s_v G)))
        obtain ⟨hlt, had, hat⟩ := g1.made ha hc
        rw [had]
        refine W.iast hx hb hat ((s_tA henv (t := 0) rfl).1 n (fun j => .int (f j))) (fun q => by cases q) (by show ¬ (i < 0 ∨ (arrV _ _ _).slots.size ≤ _); rw [arrV_size]; exact hin2) rfl rfl hd fun H1 e z oq => ?_
        refine kk H1 _ ls (g1.put ha hlt z oq ?_) g2 (s_flocs g3 a _) g4 g5
        show H1[(s_H0 G).size + a]? = some (vp_cell (s_dA G 0) (n, .inl (upd f i.toNatClampNeg x)))
        rw [e]
        show some (Cell.setSlot (vp_cell (s_dA G 0) (n, .inl f)) _ _) = _
        rw [vp_cell_i, vp_cell_i, arrV_store]
        congr 2
        funext q
        by_cases hq : q = i.toNatClampNeg
        · subst hq
          simp [updV, upd]
        · simp [updV, upd, hq]
      · cases e1
    · cases e1
  · cases e1
set_option maxHeartbeats 1000000 in
theorem s_zast (cx : s_cx p s m args meth c G y) {pc : Nat} {lv : List (Option Value)} {st : List Value} {h : aH} {t : aS} (hd : decode y.2.2.1 pc = .ok (.bastore, 1)) (e1 : a_asz pc lv st h = some (.inl t))
    (kk : s_W p l e R s m args below meth c Q G y n0 s0 t) : s_W p l e R s m args below meth c Q G y n0 s0 (pc, lv, st, h) := by
  obtain ⟨hx, hb, hml, hown, hts, henv, hin⟩ := cx
  unfold a_asz at e1
  split at e1
  · rename_i x i a st'
    split at e1
    · rename_i n f hc
      split at e1
      · rename_i hq
        obtain ⟨ha, hin2⟩ := hq
        cases a_nx_inv e1
        intro H locs ls g1 g2 g3 g4 g5
        show W p l e R s m args below meth c H locs _ _ Q (F0 m pc ls (.int x :: .int i :: .ref (s_ad G a) :: st'.map (s_v G)))
        obtain ⟨hlt, had, hat⟩ := g1.made ha hc
        rw [had]
        refine W.zast hx hb hat ((s_tA henv (t := 2) rfl).1 n (fun j => .int (f j))) (fun q => by cases q) (by show ¬ (i < 0 ∨ (arrV _ _ _).slots.size ≤ _); rw [arrV_size]; exact hin2) rfl rfl hd fun H1 e z oq => ?_
        refine kk H1 _ ls (g1.put ha hlt z oq ?_) g2 (s_flocs g3 a _) g4 g5
        show H1[(s_H0 G).size + a]? = some (vp_cell (s_dA G 2) (n, .inl (upd f i.toNatClampNeg (vp_nar .boolean x))))
        rw [e]
        show some (Cell.setSlot (vp_cell (s_dA G 2) (n, .inl f)) _ _) = _
        rw [vp_cell_i, vp_cell_i, arrV_store]
        congr 2
        funext q
        by_cases hq : q = i.toNatClampNeg
        · subst hq
          simp [updV, upd, vp_nar]
          try rfl
        · simp [updV, upd, hq]
      · cases e1
    · cases e1
  · cases e1
set_option maxHeartbeats 1000000 in
theorem s_last (cx : s_cx p s m args meth c G y) {pc : Nat} {lv : List (Option Value)} {st : List Value} {h : aH} {t : aS} (hd : decode y.2.2.1 pc = .ok (.lastore, 1)) (e1 : a_asl pc lv st h = some (.inl t))
    (kk : s_W p l e R s m args below meth c Q G y n0 s0 t) : s_W p l e R s m args below meth c Q G y n0 s0 (pc, lv, st, h) := by
  obtain ⟨hx, hb, hml, hown, hts, henv, hin⟩ := cx
  unfold a_asl at e1
  split at e1
  · rename_i x i a st'
    split at e1
    · rename_i n f hc
      split at e1
      · rename_i hq
        obtain ⟨ha, hin2⟩ := hq
        cases a_nx_inv e1
        intro H locs ls g1 g2 g3 g4 g5
        show W p l e R s m args below meth c H locs _ _ Q (F0 m pc ls (.long x :: .int i :: .ref (s_ad G a) :: st'.map (s_v G)))
        obtain ⟨hlt, had, hat⟩ := g1.made ha hc
        rw [had]
        refine W.last hx hb hat ((s_tA henv (t := 1) rfl).1 n (fun j => .long (f j))) (fun q => by cases q) (by show ¬ (i < 0 ∨ (arrV _ _ _).slots.size ≤ _); rw [arrV_size]; exact hin2) rfl rfl hd fun H1 e z oq => ?_
        refine kk H1 _ ls (g1.put ha hlt z oq ?_) g2 (s_flocs g3 a _) g4 g5
        show H1[(s_H0 G).size + a]? = some (vp_cell (s_dA G 1) (n, .inr (.inl (vp_updL f i.toNatClampNeg x))))
        rw [e]
        show some (Cell.setSlot (vp_cell (s_dA G 1) (n, .inr (.inl f))) _ _) = _
        rw [vp_cell_l, vp_cell_l, arrV_store]
        congr 2
        funext q
        by_cases hq : q = i.toNatClampNeg
        · subst hq
          simp [updV, vp_updL]
        · simp [updV, vp_updL, hq]
      · cases e1
    · cases e1
  · cases e1
set_option maxHeartbeats 1000000 in
theorem s_aast (cx : s_cx p s m args meth c G y) {pc : Nat} {lv : List (Option Value)} {st : List Value} {h : aH} {t : aS} (hd : decode y.2.2.1 pc = .ok (.aastore, 1)) (e1 : a_asr pc lv st h = some (.inl t))
    (kk : s_W p l e R s m args below meth c Q G y n0 s0 t) : s_W p l e R s m args below meth c Q G y n0 s0 (pc, lv, st, h) := by
  obtain ⟨hx, hb, hml, hown, hts, henv, hin⟩ := cx
  unfold a_asr at e1
  split at e1
  · rename_i b i a st'
    split at e1
    · rename_i tg n f cj vs hc hcb
      split at e1
      · rename_i hq
        obtain ⟨htg, hcj, ha, hbr, hin2⟩ := hq
        cases a_nx_inv e1
        intro H locs ls g1 g2 g3 g4 g5
        show W p l e R s m args below meth c H locs _ _ Q (F0 m pc ls (.ref (s_ad G b) :: .int i :: .ref (s_ad G a) :: st'.map (s_v G)))
        obtain ⟨hlt, had, hat⟩ := g1.made ha hc
        obtain ⟨hltb, hadb, hatb⟩ := g1.made hbr hcb
        have hci : cj < 12 := by rcases htg with rfl | rfl <;> (rw [← hcj]; decide)
        have hlt2 : i.toNatClampNeg < n := Nat.not_le.mp fun q => hin2 (Or.inr q)
        have h0 : ¬ i < 0 := fun q => hin2 (Or.inl q)
        obtain ⟨r', hr', cellV, q1, q2, q3, -⟩ := hatb
        have hcls := (henv.1.1 cj _ (a_cl cj hci)).2
        obtain ⟨kA, comp, k1, k2, k3, ktg⟩ : ∃ (kA : Class) (comp : ClassId), s.vm.classes[s_dA G tg]? = some kA ∧ kA.kind = .array comp (.object (a_nm cj)) ∧ s.vm.findClass (a_nm cj) = some comp ∧ True := by
          rcases htg with rfl | rfl
          · subst hcj
            obtain ⟨kA, comp, k1, k2, k3, -⟩ := (s_tA henv (t := 3) rfl).2
            exact ⟨kA, comp, k1, k2, k3, trivial⟩
          · subst hcj
            obtain ⟨kA, comp, k1, k2, k3, -⟩ := (s_tA henv (t := 4) rfl).2
            exact ⟨kA, comp, k1, k2, k3, trivial⟩
        have hcomp : comp = (s_D G).1 cj := Option.some.inj (k3.symm.trans hcls.1)
        subst hcomp
        obtain ⟨kC, hkC, -⟩ := id hcls.2
        rw [had]
        refine W.aast hx hb hat (fun q h => by cases h) (fun h => by cases h) k1 k2 rfl hkC ⟨h0, by show _ < (arrV _ _ _).slots.size; rw [arrV_size]; exact hlt2⟩ (by rw [hadb]; exact q1) (fun q h => by rw [q3] at h; cases h) (by rw [q2]; exact hkC) (by rw [q2]; exact va_assign hcls) rfl rfl hd fun H1 e z oq => ?_
        refine kk H1 _ ls (g1.put ha hlt z oq ?_) g2 (s_flocs g3 a _) g4 g5
        show H1[(s_H0 G).size + a]? = some (vp_cell (s_dA G tg) (n, .inr (.inr (.inr (.inr (fun j => (va_up f i.toNatClampNeg (some b) j).map (s_ad G)))))))
        rw [e]
        show some (Cell.setSlot (vp_cell (s_dA G tg) (n, .inr (.inr (.inr (.inr (fun j => (f j).map (s_ad G))))))) _ _) = _
        rw [vp_cell_q, vp_cell_q, arrV_store]
        congr 2
        funext q
        by_cases hq : q = i.toNatClampNeg
        · subst hq
          simp [updV, va_up, va_rf]
        · simp [updV, va_up, hq]
      · cases e1
    · cases e1
  · cases e1
set_option maxHeartbeats 1000000 in
theorem s_len (cx : s_cx p s m args meth c G y) {pc : Nat} {lv : List (Option Value)} {st : List Value} {h : aH} {t : aS} (hd : decode y.2.2.1 pc = .ok (.arraylength, 1)) (e1 : a_len pc lv st h = some (.inl t))
    (kk : s_W p l e R s m args below meth c Q G y n0 s0 t) : s_W p l e R s m args below meth c Q G y n0 s0 (pc, lv, st, h) := by
  obtain ⟨hx, hb, hml, hown, hts, henv, hin⟩ := cx
  unfold a_len at e1
  split at e1
  · rename_i a st'
    split at e1
    · rename_i tg n x hc
      split at e1
      · rename_i hq
        obtain ⟨htg, -, hro5⟩ := hq
        cases a_nx_inv e1
        intro H locs ls g1 g2 g3 g4 g5
        have K := kk H locs ls g1 g2 g3 g4 g5
        show W p l e R s m args below meth c H locs _ _ Q (F0 m pc ls (.ref (s_ad G a) :: st'.map (s_v G)))
        rcases g1.2.2 a _ hc with ⟨ha, hlt, hat⟩ | ⟨ha2, hro⟩
        · have had : s_ad G a = (s_H0 G).size + a := by unfold s_ad; rw [if_pos ha]
          rw [had]
          have key : ∀ (ty : FieldType), (s_tys G)[tg]? = some (s_dA G tg, ty) → W p l e R s m args below meth c H locs (h.1 - n0) (h.2.1 - s0) Q (F0 m pc ls (.ref ((s_H0 G).size + a) :: st'.map (s_v G))) := by
            intro ty hty
            obtain f | f | f | f | f := x
            all_goals exact va_alen (D := s_D G) hx hb henv.1 (s_P1 hat) 0 tg rfl hty rfl hd K
          have htg5 : tg < 5 := hro5.resolve_left (by omega)
          match tg, htg5, key with
          | 0, _, key => exact key _ rfl
          | 1, _, key => exact key _ rfl
          | 2, _, key => exact key _ rfl
          | 3, _, key => exact key _ rfl
          | 4, _, key => exact key _ rfl
          | n + 5, h9, _ => exact absurd h9 (Nat.not_lt.mpr (Nat.le_add_left 5 n))
        · have had : s_ad G a = s_ra G (a - aRO) := by unfold s_ad; rw [if_neg (by omega)]
          rw [had]
          have hr := henv.2.1 _ _ hro
          have key : ∀ (ty : FieldType) (f : Nat → Int32), va_T ty (s_ra G (a - aRO)) n (fun i => .int (f i)) (s_A G) s (s_H0 G) → W p l e R s m args below meth c H locs (h.1 - n0) (h.2.1 - s0) Q (F0 m pc ls (.ref (s_ra G (a - aRO)) :: st'.map (s_v G))) := by
            intro ty f hr
            obtain ⟨cell, r1, r2, r3, r4, r5, r6, r7⟩ := hr.kept g1.old
            exact W.alen (n := Int32.ofNat n) hx hb r1 r2 r5 rfl rfl hd K
          unfold s_ro at hr
          split at hr
          · rename_i h9; cases h9
          · rename_i h9; cases h9
          · rename_i h9; cases h9; exact key _ _ hr
          · rename_i h9; cases h9; exact key _ _ hr
          · exact hr.elim
      · cases e1
    · cases e1
  · cases e1
end SA
