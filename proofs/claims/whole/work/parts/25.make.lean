theorem a_Mt_inv {o i : Nat} {x : aL} (h : a_Mt o i = some x) : ∃ kd np j p1 p2 p3 p4, (o, i, kd, np, j, p1, p2, p3, p4) ∈ a_tM ∧ a_kM (o, i, kd, np, j, p1, p2, p3, p4) = true ∧ x = (kd, np, a_m j) := by
  unfold a_Mt at h
  cases hf : a_tM.find? (fun q => q.1 == o && q.2.1 == i) with
  | none => rw [hf] at h; cases h
  | some q =>
    rw [hf] at h
    have hm := List.mem_of_find?_eq_some hf
    have hp := List.find?_some hf
    obtain ⟨o', i', kd, np, j, p1, p2, p3, p4⟩ := q
    simp only [Bool.and_eq_true, beq_iff_eq] at hp
    simp only [Option.map_some, Option.some.injEq] at h
    obtain ⟨rfl, rfl⟩ := hp
    exact ⟨kd, np, j, p1, p2, p3, p4, hm, a_cM _ hm, h.symm⟩
theorem a_C_inv {o i ci : Nat} (h : a_C o i = some ci) : ci < 12 ∧ Cond.classLink (a_nm o) i (a_nm ci) ∈ aGd ∧ Cond.instantiable (a_nm ci) (a_N ci) ∈ aGd ∧ Cond.initialized (a_nm ci) ∈ aGd := by
  unfold a_C at h
  cases hf : a_tC.find? (fun q => q.1 == o && q.2.1 == i) with
  | none => rw [hf] at h; cases h
  | some q =>
    rw [hf] at h
    have hm := List.mem_of_find?_eq_some hf
    have hp := List.find?_some hf
    obtain ⟨o', i', ci', p1, p2, p3⟩ := q
    simp only [Bool.and_eq_true, beq_iff_eq] at hp
    simp only [Option.map_some, Option.some.injEq] at h
    obtain ⟨rfl, rfl⟩ := hp
    subst h
    have hk := List.all_eq_true.mp a_cC _ hm
    simp only [a_kC, Bool.and_eq_true, decide_eq_true_eq] at hk
    exact ⟨hk.1.1.1, a_gw_of hk.1.1.2, a_gw_of hk.1.2, a_gw_of hk.2⟩
theorem a_A_inv {o i t : Nat} (h : a_A o i = some t) : (t = 3 ∨ t = 4) ∧ Cond.classLink (a_nm o) i (a_an t) ∈ aGd := by
  unfold a_A at h
  cases hf : a_tA.find? (fun q => q.1 == o && q.2.1 == i) with
  | none => rw [hf] at h; cases h
  | some q =>
    rw [hf] at h
    have hm := List.mem_of_find?_eq_some hf
    have hp := List.find?_some hf
    obtain ⟨o', i', t', p1⟩ := q
    simp only [Bool.and_eq_true, beq_iff_eq] at hp
    simp only [Option.map_some, Option.some.injEq] at h
    obtain ⟨rfl, rfl⟩ := hp
    subst h
    have hk := List.all_eq_true.mp a_cA _ hm
    simp only [a_kA, Bool.and_eq_true, Bool.or_eq_true, decide_eq_true_eq] at hk
    exact ⟨hk.1, a_gw_of hk.2⟩
theorem a_L_inv {o i : Nat} {v : Int64} (h : a_L o i = some v) : Cond.constantLong (a_nm o) i v ∈ aGd := by
  unfold a_L at h
  cases hf : a_tL.find? (fun q => q.1 == o && q.2.1 == i) with
  | none => rw [hf] at h; cases h
  | some q =>
    rw [hf] at h
    have hm := List.mem_of_find?_eq_some hf
    have hp := List.find?_some hf
    obtain ⟨o', i', t', p1⟩ := q
    simp only [Bool.and_eq_true, beq_iff_eq] at hp
    simp only [Option.map_some, Option.some.injEq] at h
    obtain ⟨rfl, rfl⟩ := hp
    subst h
    exact a_gw_of (List.all_eq_true.mp a_cL _ hm)
theorem a_I_inv {o i : Nat} {v : Value} (h : a_I o i = some v) : (∃ x : Int32, v = .int x ∧ Cond.constant (a_nm o) i x ∈ aGd) ∨ ∃ k p, (o, i, k, p) ∈ a_tS ∧ v = .ref (aRO + k) := by
  unfold a_I at h
  cases hf : a_tI.find? (fun q => q.1 == o && q.2.1 == i) with
  | some q =>
    rw [hf] at h
    have hm := List.mem_of_find?_eq_some hf
    have hp := List.find?_some hf
    obtain ⟨o', i', t', p1⟩ := q
    simp only [Bool.and_eq_true, beq_iff_eq] at hp
    simp only [Option.some.injEq] at h
    obtain ⟨rfl, rfl⟩ := hp
    exact Or.inl ⟨t', h.symm, a_gw_of (List.all_eq_true.mp a_cI _ hm)⟩
  | none =>
    rw [hf] at h
    dsimp only at h
    cases hg : a_tS.find? (fun q => q.1 == o && q.2.1 == i) with
    | none => rw [hg] at h; cases h
    | some q =>
      rw [hg] at h
      have hm := List.mem_of_find?_eq_some hg
      have hp := List.find?_some hg
      obtain ⟨o', i', t', p1⟩ := q
      simp only [Bool.and_eq_true, beq_iff_eq] at hp
      simp only [Option.map_some, Option.some.injEq] at h
      obtain ⟨rfl, rfl⟩ := hp
      exact Or.inr ⟨t', p1, hm, h.symm⟩
theorem a_Gs_inv {o i j : Nat} (h : a_Gs o i = some j) : j < 2 ∧ a_wG o i j ∈ aGd := by
  unfold a_Gs at h
  cases hf : a_tG.find? (fun q => q.1 == o && q.2.1 == i) with
  | none => rw [hf] at h; cases h
  | some q =>
    rw [hf] at h
    have hm := List.mem_of_find?_eq_some hf
    have hp := List.find?_some hf
    obtain ⟨o', i', t', p1⟩ := q
    simp only [Bool.and_eq_true, beq_iff_eq] at hp
    simp only [Option.map_some, Option.some.injEq] at h
    obtain ⟨rfl, rfl⟩ := hp
    subst h
    have hk := List.all_eq_true.mp a_cG _ hm
    simp only [Bool.and_eq_true, decide_eq_true_eq] at hk
    exact ⟨hk.2, a_gw_of hk.1⟩
theorem a_df_map (G : aG) : ∀ ci, ci < 12 → (a_df ci).map (s_v G) = a_df ci
  | 0, _ => rfl | 1, _ => rfl | 2, _ => rfl | 3, _ => rfl | 4, _ => rfl | 5, _ => rfl | 6, _ => rfl | 7, _ => rfl | 8, _ => rfl | 9, _ => rfl | 10, _ => rfl | 11, _ => rfl
  | n + 12, h => absurd h (by omega)
section SM
variable {p : Program} {l : Launch} {e : Env} {R : Room} {s : State} {m : MethodId} {args : Array Value} {below : List Frame} {meth : Method} {c : Code} {Q : State → Prop} {G : aG} {y : aM} {n0 s0 : Nat}
theorem s_cs {H : Heap} {locs : List Loc} {a b a' b' : Nat} {g : JFrame} (ha : a = a') (hb : b = b') (k : W p l e R s m args below meth c H locs a' b' Q g) : W p l e R s m args below meth c H locs a b Q g := by subst ha; subst hb; exact k
set_option maxHeartbeats 1000000 in
theorem s_nw (cx : s_cx p s m args meth c G y) {idx pc : Nat} {lv : List (Option Value)} {st : List Value} {h : aH} {t : aS} (hd : decode y.2.2.1 pc = .ok (.new idx, 3)) (e1 : a_nw y idx pc lv st h = some (.inl t))
    (hR : t.2.2.2.1 - n0 ≤ R.cells ∧ t.2.2.2.2.1 - s0 ≤ R.slots)
    (kk : s_W p l e R s m args below meth c Q G y n0 s0 t) : s_W p l e R s m args below meth c Q G y n0 s0 (pc, lv, st, h) := by
  obtain ⟨hx, hb, hml, hown, hts, henv, hin⟩ := cx
  unfold a_nw at e1
  split at e1
  · rename_i ci hci
    split at e1
    · cases e1
    · rename_i hro
      cases a_nx_inv e1
      obtain ⟨hc12, w1, w2, w3⟩ := a_C_inv hci
      dsimp only [a_new] at hR
      intro H locs ls g1 g2 g3 g4 g5
      dsimp only at g4 g5 g1
      have hKn := henv.1.1 ci _ (a_cl ci hc12)
      refine W.newcK hx hb hown (hts _ w1) (hts _ w2) (hts _ w3) rfl hd (by dsimp only; omega) (by dsimp only; omega) hKn.2.1 rfl fun H1 kC hkC e1 z1 o1 => ?_
      have had : s_ad G h.1 = H.size := by unfold s_ad; rw [if_pos (by omega), g1.1]
      have K := kk H1 locs ls (g1.new (by omega) z1 o1 ?_) g2 g3 (by dsimp only [a_new]; omega) (by dsimp only [a_new]; omega)
      · have K : W p l e R s m args below meth c H1 locs (h.1 + 1 - n0) (h.2.1 + a_N ci - s0) Q (F0 m (pc + 3) ls (.ref (s_ad G h.1) :: st.map (s_v G))) := K
        rw [had] at K
        exact s_cs (by dsimp only; omega) (by dsimp only; omega) K
      · rw [← g1.1]
        refine ⟨_, a_cl ci hc12, ?_⟩
        have hb0 := u_born (a_ty ci) hts (a_uin hc12) hKn hkC e1 (a_typ ci hc12)
        refine hb0.to (fun k hk => ?_)
        rw [a_dfv ci hc12 k hk]
        have : (a_df ci).map (s_v G) = a_df ci := a_df_map G ci hc12
        show vp_V (a_df ci) k = vp_V ((a_df ci).map (s_v G)) k
        rw [this]
  · cases e1
set_option maxHeartbeats 1000000 in
theorem s_na (cx : s_cx p s m args meth c G y) {at' : ArrayType} {pc : Nat} {lv : List (Option Value)} {st : List Value} {h : aH} {t : aS} (hd : decode y.2.2.1 pc = .ok (.newarray at', 2)) (e1 : a_na at' pc lv st h = some (.inl t))
    (hR : t.2.2.2.1 - n0 ≤ R.cells ∧ t.2.2.2.2.1 - s0 ≤ R.slots)
    (kk : s_W p l e R s m args below meth c Q G y n0 s0 t) : s_W p l e R s m args below meth c Q G y n0 s0 (pc, lv, st, h) := by
  obtain ⟨hx, hb, hml, hown, hts, henv, hin⟩ := cx
  unfold a_na at e1
  split at e1
  · rename_i n st'
    split at e1
    · cases e1
    · rename_i hq
      have hn : ¬ n < 0 := fun z => hq (Or.inl z)
      have hN : n.toNatClampNeg ≤ 10000 := Nat.not_lt.mp (fun z => hq (Or.inr (Or.inl z)))
      have hro : h.1 < aRO := Nat.not_le.mp (fun z => hq (Or.inr (Or.inr z)))
      have key : ∀ (ty : FieldType) (tg : Nat) (e0 : va_E), newarray.typeOf at' = ty → (s_tys G)[tg]? = some (s_dA G tg, ty) → componentBytes ty ≤ 8 → Cond.arrayClass ty ∈ aGd → (∀ cA : ClassId, s.vm.findClass ("[" ++ ty.toString) = some cA → cA = s_dA G tg) → (∀ H1 : Heap, H1[(s_H0 G).size + h.1]? = some (arrV (s_dA G tg) n.toNatClampNeg (fun _ => defaultValue ty)) → va_at (s_D G) aCl ((s_H0 G).size + h.1, s_e G e0) H1) → t = (pc + 2, lv, .ref h.1 :: st', a_new h n.toNatClampNeg e0) → s_W p l e R s m args below meth c Q G y n0 s0 (pc, lv, .int n :: st', h) := by
        intro ty tg e0 hty htg hcb hac hfc hat ht
        subst ht
        dsimp only [a_new] at hR
        intro H locs ls g1 g2 g3 g4 g5
        dsimp only at g4 g5 g1
        refine va_newaK hx hb (by rw [hty]; exact hts _ hac) rfl hd rfl hn rfl (by rw [hty]; exact Nat.le_trans (Nat.mul_le_mul hN hcb) (by decide)) (by dsimp only; omega) (by dsimp only; omega) rfl fun H1 cA e1 z1 o1 hAr hNm => ?_
        rw [hty] at e1 hNm
        have hcA := hfc cA hNm
        subst hcA
        have had : s_ad G h.1 = H.size := by unfold s_ad; rw [if_pos hro, g1.1]
        have K := kk H1 locs ls (g1.new hro z1 o1 (hat H1 (by rw [← g1.1]; exact e1))) g2 g3 (by dsimp only [a_new]; omega) (by dsimp only [a_new]; omega)
        have K : W p l e R s m args below meth c H1 locs (h.1 + 1 - n0) (h.2.1 + n.toNatClampNeg - s0) Q (F0 m (pc + 2) ls (.ref (s_ad G h.1) :: st'.map (s_v G))) := K
        rw [had] at K
        exact s_cs (by dsimp only; omega) (by dsimp only; omega) K
      have cls : ∀ (q : FieldType × Nat), q ∈ a_pA → Cond.arrayClass q.1 ∈ aGd := fun q hq => a_gw_of (List.all_eq_true.mp a_cP q hq)
      split at e1
      · refine key .int 0 (.inl (0, n.toNatClampNeg, .inl (fun _ => 0))) rfl rfl (by decide) (cls _ (List.mem_of_getElem? (i := 0) rfl)) (fun cA hcA => ?_) (fun H1 h9 => h9) (a_nx_inv e1)
        exact Option.some.inj (hcA.symm.trans (s_tA henv (t := 0) rfl).2)
      · refine key .long 1 (.inl (1, n.toNatClampNeg, .inr (.inl (fun _ => 0)))) rfl rfl (by decide) (cls _ (List.mem_of_getElem? (i := 1) rfl)) (fun cA hcA => ?_) (fun H1 h9 => h9) (a_nx_inv e1)
        exact Option.some.inj (hcA.symm.trans (s_tA henv (t := 1) rfl).2)
      · refine key .boolean 2 (.inl (2, n.toNatClampNeg, .inl (fun _ => 0))) rfl rfl (by decide) (cls _ (List.mem_of_getElem? (i := 2) rfl)) (fun cA hcA => ?_) (fun H1 h9 => h9) (a_nx_inv e1)
        exact Option.some.inj (hcA.symm.trans (s_tA henv (t := 2) rfl).2)
      · cases e1
  · cases e1
set_option maxHeartbeats 1000000 in
theorem s_nr (cx : s_cx p s m args meth c G y) {idx pc : Nat} {lv : List (Option Value)} {st : List Value} {h : aH} {t : aS} (hd : decode y.2.2.1 pc = .ok (.anewarray idx, 3)) (e1 : a_nr y idx pc lv st h = some (.inl t))
    (hR : t.2.2.2.1 - n0 ≤ R.cells ∧ t.2.2.2.2.1 - s0 ≤ R.slots)
    (kk : s_W p l e R s m args below meth c Q G y n0 s0 t) : s_W p l e R s m args below meth c Q G y n0 s0 (pc, lv, st, h) := by
  obtain ⟨hx, hb, hml, hown, hts, henv, hin⟩ := cx
  unfold a_nr at e1
  split at e1
  · rename_i n st'
    split at e1
    · cases e1
    · rename_i hq
      have hn : ¬ n < 0 := fun z => hq (Or.inl z)
      have hN : n.toNatClampNeg ≤ 10000 := Nat.not_lt.mp (fun z => hq (Or.inr (Or.inl z)))
      have hro : h.1 < aRO := Nat.not_le.mp (fun z => hq (Or.inr (Or.inr z)))
      split at e1
      · rename_i tg htg
        cases a_nx_inv e1
        obtain ⟨ht34, hcl⟩ := a_A_inv htg
        dsimp only [a_new] at hR
        intro H locs ls g1 g2 g3 g4 g5
        dsimp only at g4 g5 g1
        have hover : va_AO (a_an tg) s := by rcases ht34 with rfl | rfl; exact henv.2.2.2.2.1.1; exact henv.2.2.2.2.1.2
        have hra : s.vm.findClass ("[" ++ (FieldType.object (a_an tg)).toString) = some (s_dA G tg) := by
          rcases ht34 with rfl | rfl
          · obtain ⟨kA, comp, k1, k2, k3, k4⟩ := (s_tA henv (t := 3) rfl).2
            exact k4
          · obtain ⟨kA, comp, k1, k2, k3, k4⟩ := (s_tA henv (t := 4) rfl).2
            exact k4
        refine W.anew hx hb hown (hts _ hcl) (va_AO.use hover) rfl hd rfl hn (by omega) (by dsimp only; omega) (by dsimp only; omega) fun cA kA comp f1 f2 f3 f4 => ?_
        have hcA : cA = s_dA G tg := Option.some.inj (f1.symm.trans hra)
        subst hcA
        generalize hH1 : H.push ({ cls := s_dA G tg, slots := Array.replicate n.toNatClampNeg .null, vm := .none } : Cell) = H1
        have z1 : H1.size = H.size + 1 := by rw [← hH1, Array.size_push]
        have e1 : H1[H.size]? = some (arrV (s_dA G tg) n.toNatClampNeg (fun _ => .null)) := by rw [← hH1, Array.getElem?_push_size, ← arrV_new]
        have o1 : ∀ q : Nat, q < H.size → H1[q]? = H[q]? := fun q hq => by rw [← hH1, Array.getElem?_push, if_neg (Nat.ne_of_lt hq)]
        have had : s_ad G h.1 = H.size := by unfold s_ad; rw [if_pos hro, g1.1]
        have K := kk H1 locs ls (g1.new hro z1 o1 (by rw [← g1.1]; exact e1)) g2 g3 (by dsimp only [a_new]; omega) (by dsimp only [a_new]; omega)
        have K : W p l e R s m args below meth c H1 locs (h.1 + 1 - n0) (h.2.1 + n.toNatClampNeg - s0) Q (F0 m (pc + 3) ls (.ref (s_ad G h.1) :: st'.map (s_v G))) := K
        rw [had] at K
        exact s_cs (by dsimp only; omega) (by dsimp only; omega) K
      · cases e1
  · cases e1
set_option maxHeartbeats 1000000 in
theorem s_gs (cx : s_cx p s m args meth c G y) {idx pc : Nat} {lv : List (Option Value)} {st : List Value} {h : aH} {j : Nat} {fs : List Value} {v : Value} (hd : decode y.2.2.1 pc = .ok (.getstatic idx, 3)) (hg : a_Gs y.1 idx = some j) (hc : h.2.2 aST = some (.inr (30, fs))) (hv : fs[j]? = some v)
    (kk : s_W p l e R s m args below meth c Q G y n0 s0 (pc + 3, lv, v :: st, h)) : s_W p l e R s m args below meth c Q G y n0 s0 (pc, lv, st, h) := by
  obtain ⟨hx, hb, hml, hown, hts, henv, hin⟩ := cx
  obtain ⟨hj, hw⟩ := a_Gs_inv hg
  have hw := hts _ hw
  intro H locs ls g1 g2 g3 g4 g5
  have K := kk H locs ls g1 g2 g3 g4 g5
  rcases g1.2.2 aST _ hc with ⟨ha, -⟩ | ⟨ha, hro⟩
  · exact absurd ha (by decide)
  · have hr := henv.2.1 _ _ hro
    match fs, hv, hr with
    | [v0, v1], hv, hr =>
      obtain ⟨r1, r2⟩ := hr
      match j, hj, hv, hw with
      | 0, _, hv, hw =>
        cases hv
        obtain ⟨cf, kf, fi, f, a, cell, h1, h2, h3, h4, h5, h6, h7, h8⟩ := r1.kept g1.old
        exact W.gets hx hb hown hw h1 h2 h3 h4 h5 (fun e => by rw [e] at h6; cases h6) h7 rfl hd K
      | 1, _, hv, hw =>
        cases hv
        obtain ⟨cf, kf, fi, f, a, cell, h1, h2, h3, h4, h5, h6, h7, h8⟩ := r2.kept g1.old
        exact W.gets hx hb hown hw h1 h2 h3 h4 h5 (fun e => by rw [e] at h6; cases h6) h7 rfl hd K
      | j + 2, h9, _, _ => omega
theorem s_ldc (cx : s_cx p s m args meth c G y) {idx pc : Nat} {lv : List (Option Value)} {st : List Value} {h : aH} {v : Value} (hd : decode y.2.2.1 pc = .ok (.ldc idx, 2)) (hg : a_I y.1 idx = some v)
    (kk : s_W p l e R s m args below meth c Q G y n0 s0 (pc + 2, lv, v :: st, h)) : s_W p l e R s m args below meth c Q G y n0 s0 (pc, lv, st, h) := by
  obtain ⟨hx, hb, hml, hown, hts, henv, hin⟩ := cx
  intro H locs ls g1 g2 g3 g4 g5
  have K := kk H locs ls g1 g2 g3 g4 g5
  rcases a_I_inv hg with ⟨x, rfl, hw⟩ | ⟨k, pp, hm, rfl⟩
  · exact lv_ldc hx hb hown (hts _ hw) hd K
  · have hz := henv.2.2.2.2.2 _ hm
    have had : s_ad G (aRO + k) = s_ra G k := by unfold s_ad; rw [if_neg (by omega), Nat.add_sub_cancel_left]
    have K : W p l e R s m args below meth c H locs _ _ Q (F0 m (pc + 2) ls (.ref (s_ad G (aRO + k)) :: st.map (s_v G))) := K
    rw [had] at K
    exact va_ldcS hx hb hown hz hd K
end SM
