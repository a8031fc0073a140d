theorem a_kM_inv {o i kd np j p1 p2 p3 p4 : Nat} (h : a_kM (o, i, kd, np, j, p1, p2, p3, p4) = true) (hk : kd < 6) : j < 215 ∧ a_okM (a_m j) = true ∧ (parseMethodDescriptor (a_m j).2.1.desc).map (fun d => d.parameters.length) = some np ∧ (¬ (kd = 1 ∨ kd = 3 ∨ kd = 5) → Cond.methodLink (a_nm o) i (a_m j).2.1 ∈ aGd) ∧ ((kd = 2 ∨ kd = 3) → Cond.static (a_m j).2.1 ∈ aGd) ∧ (¬ (kd = 2 ∨ kd = 3) → Cond.instanceMethod (a_m j).2.1 ∈ aGd) ∧ (kd < 2 → Cond.selects (a_m j).2.1.cls (a_m j).2.1 (a_m j).2.1 ∈ aGd) ∧ ((kd = 4 ∨ kd = 5) → (a_m j).2.1.name = "<init>" ∧ (a_m j).2.2.2.2 = none) ∧ Cond.initialized (a_m j).2.1.cls ∈ aGd := by
  unfold a_kM at h
  dsimp only at h
  rw [if_neg (by omega), if_neg (by omega), if_neg (by omega), if_neg (by omega), if_neg (by omega)] at h
  simp only [Bool.and_eq_true, decide_eq_true_eq] at h
  obtain ⟨⟨⟨⟨⟨⟨⟨⟨h1, h2⟩, h3⟩, h4⟩, h5⟩, h6⟩, h7⟩, h8⟩, h9⟩ := h
  refine ⟨h2, h3, h4, fun hc => ?_, fun hc => ?_, fun hc => ?_, fun hc => ?_, fun hc => ?_, a_gw_of h9⟩
  · rw [if_neg hc] at h5
    have := a_gw_of h5
    unfold a_lM at this
    rw [if_neg hc] at this
    exact this
  · rw [if_pos hc] at h6
    exact a_gw_of h6
  · rw [if_neg hc] at h6
    exact a_gw_of h6
  · rw [if_pos hc] at h7
    exact a_gw_of h7
  · rw [if_pos hc] at h8
    simp only [Bool.and_eq_true, decide_eq_true_eq] at h8
    exact h8
set_option maxRecDepth 100000 in
theorem a_no30 : ∀ j, j < 215 → (a_m j).1 ≠ 30 := by decide +kernel
section SI
variable {p : Program} {l : Launch} {e : Env} {R : Room} {s : State} {m : MethodId} {args : Array Value} {below : List Frame} {meth : Method} {c : Code} {Q : State → Prop} {G : aG} {y : aM} {n0 s0 d : Nat} {C : aM → List Value → aH → Option aR}
theorem s_spl {np : Nat} {st rest : List Value} {v : Value} (hd : st.drop np = v :: rest) : st.map (s_v G) = (((st.take np).reverse).map (s_v G)).reverse ++ s_v G v :: rest.map (s_v G) := by
  conv => lhs; rw [← List.take_append_drop np st, hd]
  rw [List.map_append, List.map_cons, List.map_reverse, List.reverse_reverse]
theorem s_spl0 {np : Nat} {st : List Value} : st.map (s_v G) = (((st.take np).reverse).map (s_v G)).reverse ++ (st.drop np).map (s_v G) := by
  conv => lhs; rw [← List.take_append_drop np st]
  rw [List.map_append, List.map_reverse, List.reverse_reverse]
set_option maxHeartbeats 2000000 in
theorem s_iv (cx : s_cx p s m args meth c G y) (hC : s_ok l G d C) (hRf : d + 1 ≤ R.frames ∧ 37 * (d + 1) ≤ R.locals) {idx pc : Nat} {lv : List (Option Value)} {st : List Value} {h : aH} {t : aS} (hd : decode y.2.2.1 pc = .ok (.invokevirtual idx, 3)) (e1 : a_iv C y idx pc lv st h = some (.inl t))
    (hR : t.2.2.2.1 - n0 ≤ R.cells ∧ t.2.2.2.2.1 - s0 ≤ R.slots)
    (kk : s_W p l e R s m args below meth c Q G y n0 s0 t) : s_W p l e R s m args below meth c Q G y n0 s0 (pc, lv, st, h) := by
  obtain ⟨hx, hb, hml, hown, hts, henv, hin⟩ := cx
  unfold a_iv at e1
  cases hm : a_Mt y.1 idx with
  | none => rw [hm] at e1; cases e1
  | some x =>
    simp only [hm] at e1
    cases hdr : st.drop x.2.1 with
    | nil => rw [hdr] at e1; cases e1
    | cons b rest =>
      simp only [hdr] at e1
      cases b <;> first | (cases e1; done) | skip
      rename_i b
      dsimp only at e1
      split at e1
      · rename_i hc
        obtain ⟨hk2, hlen, hrc⟩ := hc
        obtain ⟨h8, hen, h18, r, hr, rfl⟩ := a_go_inv e1
        obtain ⟨kd, np, j, p1, p2, p3, p4, hmem, hok, rfl⟩ := a_Mt_inv hm
        dsimp only at hk2 hlen hrc hen h18 hr hdr hR ⊢
        obtain ⟨hj, hokm, hnp, wl, ws2, wi, wsel, wini, wn⟩ := a_kM_inv hok (by omega)
        obtain ⟨q1, q2, q3, q4⟩ := a_okM_inv hokm
        obtain ⟨m1, m2, hM⟩ := hC _ _ _ _ hr hokm hen h18
        have hcd := a_cd hj
        have hsel := wsel hk2
        intro H locs ls g1 g2 g3 g4 g5
        dsimp only at g1 g4 g5
        have hst : st.map (s_v G) = (((st.take np).reverse).map (s_v G)).reverse ++ .ref (s_ad G b) :: rest.map (s_v G) := s_spl hdr
        show W p l e R s m args below meth c H locs (h.1 - n0) (h.2.1 - s0) Q (F0 m pc ls (st.map (s_v G)))
        have hrecv := s_recv henv g1 (a_no30 j hj) hrc
        rw [q2] at hrecv
        have hpre : PreV s H (a_m j).2.1.cls (s_ad G b) (s_Pc G (.ref b :: (st.take np).reverse) h) (((st.take np).reverse).map (s_v G)) := ⟨s_blind G _ h, hrecv, fun U hU hW => ⟨rfl, by rw [hU]; exact g1, henv.warm hW⟩⟩
        have hlen2 : (((st.take np).reverse).map (s_v G)).length = np := by
          rw [List.length_map, List.length_reverse, List.length_take]; omega
        have hroom : d + 1 ≤ R.frames ∧ 8 + ((a_m j).2.2.2.1 + 11) + 37 * d ≤ R.locals := ⟨hRf.1, by omega⟩
        have hsum : 2 * (F0 m pc ls (st.map (s_v G))).monitorRoom + ((rest.map (s_v G)).map fun v => v.category).sum ≤ 8 := lv_room (by rw [s_sum]; exact h8)
        have hf : h.1 - n0 + (r.2.1 - h.1) ≤ R.cells ∧ h.2.1 - s0 + (r.2.2.1 - h.2.1) ≤ R.slots := by omega
        have hfin : ∀ (H1 : Heap) (locs1 : List Loc), s_heap G r.2 H1 → (∀ q ∈ locs1, s_A G q.base) → W p l e R s m args below meth c H1 locs1 (h.1 - n0 + (r.2.1 - h.1)) (h.2.1 - s0 + (r.2.2.1 - h.2.1)) Q (F0 m (pc + 3) ls ((r.1.toList ++ rest).map (s_v G))) := by
          intro H1 locs1 hh hl
          have K : W p l e R s m args below meth c H1 locs1 (r.2.1 - n0) (r.2.2.1 - s0) Q (F0 m (pc + 3) ls ((r.1.toList ++ rest).map (s_v G))) := kk H1 locs1 ls hh g2 hl (by dsimp only; omega) (by dsimp only; omega)
          exact s_cs (by omega) (by omega) K
        by_cases hk1 : kd = 1
        · subst hk1
          have hnest : va_Nw (.methodLinkNest (a_nm y.1) idx (a_m j).2.1 "SumsInWords") s := henv.2.2.1 (y.1, idx, 1, np, j, p1, p2, p3, p4) hmem (Or.inl rfl)
          have cw := va_cnB (R := R) (rm := { frames := d, cells := r.2.1 - h.1, slots := r.2.2.1 - h.2.1, locals := 37 * d }) (bytes := (a_m j).2.2.1) (maxL := (a_m j).2.2.2.1) (ret := (a_m j).2.2.2.2) (mc := r.2.1 - h.1) (ms := r.2.2.1 - h.2.1) np hts (s_goodG hcd) rfl rfl rfl hnest (hts _ wn) ⟨q3, q4, hnp⟩ hroom
          have hrun := va_runVN (e := e) (below := below) (meth := meth) (locs := locs) (cells := h.1 - n0) (slots := h.2.1 - s0) (g := F0 m pc ls (st.map (s_v G))) (rest := rest.map (s_v G)) (nL := y.2.2.2.1) ⟨hx, hb, hml, hown, hts⟩ hM ⟨cw, hts _ (wi (by omega)), hts _ hsel⟩ hpre rfl hlen2 g2.2.1 hst hsum hd hf
          exact s_behind hrun g3 hfin
        · have cw := callB_of (R := R) (rm := { frames := d, cells := r.2.1 - h.1, slots := r.2.2.1 - h.2.1, locals := 37 * d }) (bytes := (a_m j).2.2.1) (maxL := (a_m j).2.2.2.1) (ret := (a_m j).2.2.2.2) (mc := r.2.1 - h.1) (ms := r.2.2.1 - h.2.1) np hts (s_goodG hcd) rfl rfl rfl (hts _ wn) (hts _ (wl (by omega))) ⟨q3, q4, hnp⟩ hroom
          have hrun := va_runV (e := e) (below := below) (meth := meth) (locs := locs) (cells := h.1 - n0) (slots := h.2.1 - s0) (g := F0 m pc ls (st.map (s_v G))) (rest := rest.map (s_v G)) (nL := y.2.2.2.1) ⟨hx, hb, hml, hown, hts⟩ hM ⟨cw, hts _ (wi (by omega)), hts _ hsel⟩ hpre rfl hlen2 g2.2.1 hst hsum hd hf
          exact s_behind hrun g3 hfin
      · cases e1
set_option maxHeartbeats 2000000 in
theorem s_cpy (cx : s_cx p s m args meth c G y) (hRf : d + 1 ≤ R.frames ∧ 37 * (d + 1) ≤ R.locals) {idx pc : Nat} {lv : List (Option Value)} {st : List Value} {h : aH} {t : aS} {x : aL} (hm : a_Mt y.1 idx = some x) (h7 : x.1 = 7) (hd : decode y.2.2.1 pc = .ok (.invokestatic idx, 3)) (e1 : a_cpy pc lv st h = some (.inl t))
    (kk : s_W p l e R s m args below meth c Q G y n0 s0 t) : s_W p l e R s m args below meth c Q G y n0 s0 (pc, lv, st, h) := by
  obtain ⟨hx, hb, hml, hown, hts, henv, hin⟩ := cx
  obtain ⟨kd, np, j, p1, p2, p3, p4, hmem, hok, rfl⟩ := a_Mt_inv hm
  dsimp only at h7
  subst h7
  unfold a_kM at hok
  dsimp only at hok
  rw [if_neg (by decide), if_pos rfl] at hok
  simp only [Bool.and_eq_true] at hok
  obtain ⟨⟨⟨w1, w2⟩, w3⟩, w4⟩ := hok
  unfold a_cpy at e1
  split at e1
  · rename_i n dp b sp a st'
    split at e1
    · cases e1
    · rename_i hq
      have hn : ¬ n < 0 := fun z => hq (Or.inl z)
      have hdp : ¬ dp < 0 := fun z => hq (Or.inr (Or.inl z))
      have hsp : ¬ sp < 0 := fun z => hq (Or.inr (Or.inr (Or.inl z)))
      have ha : a < aRO := Nat.not_le.mp (fun z => hq (Or.inr (Or.inr (Or.inr (Or.inl z)))))
      have hbr : b < aRO := Nat.not_le.mp (fun z => hq (Or.inr (Or.inr (Or.inr (Or.inr (Or.inl z))))))
      have h8 : a_sum st' ≤ 8 := Nat.not_lt.mp (fun z => hq (Or.inr (Or.inr (Or.inr (Or.inr (Or.inr z))))))
      have hloc : ((st'.map (s_v G)).map fun v => v.category).sum + (nativeFrameWords "java/lang/System" "arraycopy" 5 + 11) ≤ R.locals := by
        rw [s_sum]
        have : nativeFrameWords "java/lang/System" "arraycopy" 5 = 7 := by decide
        omega
      split at e1
      · rename_i n0' f n1' g hca hcb
        split at e1
        · rename_i hle
          cases a_nx_inv e1
          intro H locs ls g1 g2 g3 g4 g5
          show W p l e R s m args below meth c H locs _ _ Q (F0 m pc ls (.int n :: .int dp :: .ref (s_ad G b) :: .int sp :: .ref (s_ad G a) :: st'.map (s_v G)))
          obtain ⟨hlt, had, hat⟩ := g1.made ha hca
          obtain ⟨hltb, hadb, hatb⟩ := g1.made hbr hcb
          rw [had, hadb]
          refine s_copy hx hb (by rw [hml]; exact g2.2.1.symm) hown (hts _ (a_gw_of w1)) (hts _ (a_gw_of w3)) (hts _ (a_gw_of w2)) (hts _ (a_gw_of w4)) (fun z => .int z) hat hatb (s_tA henv (t := 0) rfl).1 rfl (fun v => ⟨(fun z => by cases z), (fun q z => by cases z)⟩) hsp hdp hn hle.1 hle.2 (fun i hi => rfl) (by omega) hloc hd (fun H1 L z1 o1 e1 hL => ?_)
          refine kk H1 _ ls (g1.put hbr hltb z1 o1 e1) g2 (fun q hq => ?_) g4 g5
          rcases List.mem_append.mp hq with h9 | h9
          · exact g3 q h9
          · rw [hL q h9]; exact Nat.le_add_right _ _
        · cases e1
      · rename_i n0' f n1' g hca hcb
        split at e1
        · rename_i hle
          cases a_nx_inv e1
          intro H locs ls g1 g2 g3 g4 g5
          show W p l e R s m args below meth c H locs _ _ Q (F0 m pc ls (.int n :: .int dp :: .ref (s_ad G b) :: .int sp :: .ref (s_ad G a) :: st'.map (s_v G)))
          obtain ⟨hlt, had, hat⟩ := g1.made ha hca
          obtain ⟨hltb, hadb, hatb⟩ := g1.made hbr hcb
          rw [had, hadb]
          refine s_copy hx hb (by rw [hml]; exact g2.2.1.symm) hown (hts _ (a_gw_of w1)) (hts _ (a_gw_of w3)) (hts _ (a_gw_of w2)) (hts _ (a_gw_of w4)) (fun z => .long z) hat hatb (s_tA henv (t := 1) rfl).1 rfl (fun v => ⟨(fun z => by cases z), (fun q z => by cases z)⟩) hsp hdp hn hle.1 hle.2 (fun i hi => rfl) (by omega) hloc hd (fun H1 L z1 o1 e1 hL => ?_)
          refine kk H1 _ ls (g1.put hbr hltb z1 o1 e1) g2 (fun q hq => ?_) g4 g5
          rcases List.mem_append.mp hq with h9 | h9
          · exact g3 q h9
          · rw [hL q h9]; exact Nat.le_add_right _ _
        · cases e1
      · cases e1
  · cases e1
set_option maxHeartbeats 2000000 in
theorem s_mth (cx : s_cx p s m args meth c G y) (hRf : d + 1 ≤ R.frames ∧ 37 * (d + 1) ≤ R.locals) {idx pc : Nat} {lv : List (Option Value)} {st : List Value} {h : aH} {t : aS} {x : aL} (hm : a_Mt y.1 idx = some x) (h8k : 8 ≤ x.1) (hd : decode y.2.2.1 pc = .ok (.invokestatic idx, 3)) (e1 : a_mt x.1 pc lv st h = some (.inl t))
    (hR : t.2.2.2.1 - n0 ≤ R.cells ∧ t.2.2.2.2.1 - s0 ≤ R.slots)
    (kk : s_W p l e R s m args below meth c Q G y n0 s0 t) : s_W p l e R s m args below meth c Q G y n0 s0 (pc, lv, st, h) := by
  obtain ⟨hx, hb, hml, hown, hts, henv, hin⟩ := cx
  obtain ⟨kd, np, j, p1, p2, p3, p4, hmem, hok, rfl⟩ := a_Mt_inv hm
  dsimp only at h8k e1
  unfold a_kM at hok
  dsimp only at hok
  rw [if_neg (by omega), if_neg (by omega)] at hok
  unfold a_mt at e1
  split at e1
  · rename_i yv st'
    by_cases h10 : kd = 10
    · subst h10
      rw [if_pos rfl] at e1
      rw [if_neg (by decide), if_neg (by decide), if_pos rfl] at hok
      simp only [Bool.and_eq_true] at hok
      obtain ⟨⟨⟨w1, w2⟩, w3⟩, w4⟩ := hok
      split at e1
      · rename_i h8
        cases a_nx_inv e1
        intro H locs ls g1 g2 g3 g4 g5
        dsimp only at hR
        exact va_mabs hx hb (by rw [hml]; exact g2.2.1.symm) hown (hts _ (a_gw_of w1)) (hts _ (a_gw_of w2)) (hts _ (a_gw_of w4)) (hts _ (a_gw_of w3)) (by omega) (by rw [s_sum]; omega) hR.1 hR.2 hd (kk H locs ls g1 g2 g3 g4 g5)
      · cases e1
    · rw [if_neg h10] at e1
      split at e1
      · rename_i xv st'
        split at e1
        · cases e1
        · rename_i h8
          split at e1
          · rename_i h9
            subst h9
            rw [if_pos rfl] at hok
            simp only [Bool.and_eq_true] at hok
            obtain ⟨⟨⟨w1, w2⟩, w3⟩, w4⟩ := hok
            cases a_nx_inv e1
            intro H locs ls g1 g2 g3 g4 g5
            dsimp only at hR
            exact va_mmax hx hb (by rw [hml]; exact g2.2.1.symm) hown (hts _ (a_gw_of w1)) (hts _ (a_gw_of w2)) (hts _ (a_gw_of w4)) (hts _ (a_gw_of w3)) (by omega) (by rw [s_sum]; omega) hR.1 hR.2 hd (kk H locs ls g1 g2 g3 g4 g5)
          · split at e1
            · rename_i h9
              subst h9
              rw [if_neg (by decide), if_pos rfl] at hok
              simp only [Bool.and_eq_true] at hok
              obtain ⟨⟨⟨w1, w2⟩, w3⟩, w4⟩ := hok
              cases a_nx_inv e1
              intro H locs ls g1 g2 g3 g4 g5
              dsimp only at hR
              exact va_mmin hx hb (by rw [hml]; exact g2.2.1.symm) hown (hts _ (a_gw_of w1)) (hts _ (a_gw_of w2)) (hts _ (a_gw_of w4)) (hts _ (a_gw_of w3)) (by omega) (by rw [s_sum]; omega) hR.1 hR.2 hd (kk H locs ls g1 g2 g3 g4 g5)
            · cases e1
      · cases e1
  · cases e1
set_option maxHeartbeats 2000000 in
theorem s_is (cx : s_cx p s m args meth c G y) (hC : s_ok l G d C) (hRf : d + 1 ≤ R.frames ∧ 37 * (d + 1) ≤ R.locals) {idx pc : Nat} {lv : List (Option Value)} {st : List Value} {h : aH} {t : aS} (hd : decode y.2.2.1 pc = .ok (.invokestatic idx, 3)) (e1 : a_is C y idx pc lv st h = some (.inl t))
    (hR : t.2.2.2.1 - n0 ≤ R.cells ∧ t.2.2.2.2.1 - s0 ≤ R.slots)
    (kk : s_W p l e R s m args below meth c Q G y n0 s0 t) : s_W p l e R s m args below meth c Q G y n0 s0 (pc, lv, st, h) := by
  have cx0 := cx
  obtain ⟨hx, hb, hml, hown, hts, henv, hin⟩ := cx
  unfold a_is at e1
  cases hm : a_Mt y.1 idx with
  | none => rw [hm] at e1; cases e1
  | some x =>
    simp only [hm] at e1
    by_cases h7 : x.1 = 7
    · rw [if_pos h7] at e1
      exact s_cpy cx0 hRf hm h7 hd e1 kk
    rw [if_neg h7] at e1
    by_cases h8 : 8 ≤ x.1
    · rw [if_pos h8] at e1
      exact s_mth cx0 hRf hm h8 hd e1 hR kk
    rw [if_neg h8] at e1
    split at e1
    · rename_i hc
      obtain ⟨hk2, hlen⟩ := hc
      obtain ⟨h8, hen, h18, r, hr, rfl⟩ := a_go_inv e1
      obtain ⟨kd, np, j, p1, p2, p3, p4, hmem, hok, rfl⟩ := a_Mt_inv hm
      dsimp only at hk2 hlen hen h18 hr hR ⊢
      obtain ⟨hj, hokm, hnp, wl, ws2, wi, wsel, wini, wn⟩ := a_kM_inv hok (by omega)
      obtain ⟨q1, q2, q3, q4⟩ := a_okM_inv hokm
      obtain ⟨m1, m2, hM⟩ := hC _ _ _ _ hr hokm hen h18
      have hcd := a_cd hj
      intro H locs ls g1 g2 g3 g4 g5
      dsimp only at g1 g4 g5
      have hst : st.map (s_v G) = (((st.take np).reverse).map (s_v G)).reverse ++ (st.drop np).map (s_v G) := s_spl0
      show W p l e R s m args below meth c H locs (h.1 - n0) (h.2.1 - s0) Q (F0 m pc ls (st.map (s_v G)))
      have hpre : PreS s H (s_Pc G ((st.take np).reverse) h) (((st.take np).reverse).map (s_v G)) := s_preS henv g1 _
      have hlen2 : (((st.take np).reverse).map (s_v G)).length = np := by
        rw [List.length_map, List.length_reverse, List.length_take]; omega
      have hroom : d + 1 ≤ R.frames ∧ 8 + ((a_m j).2.2.2.1 + 11) + 37 * d ≤ R.locals := ⟨hRf.1, by omega⟩
      have hsum : 2 * (F0 m pc ls (st.map (s_v G))).monitorRoom + (((st.drop np).map (s_v G)).map fun v => v.category).sum ≤ 8 := lv_room (by rw [s_sum]; exact h8)
      have hf : h.1 - n0 + (r.2.1 - h.1) ≤ R.cells ∧ h.2.1 - s0 + (r.2.2.1 - h.2.1) ≤ R.slots := by omega
      have hfin : ∀ (H1 : Heap) (locs1 : List Loc), s_heap G r.2 H1 → (∀ q ∈ locs1, s_A G q.base) → W p l e R s m args below meth c H1 locs1 (h.1 - n0 + (r.2.1 - h.1)) (h.2.1 - s0 + (r.2.2.1 - h.2.1)) Q (F0 m (pc + 3) ls ((r.1.toList ++ st.drop np).map (s_v G))) := by
        intro H1 locs1 hh hl
        have K : W p l e R s m args below meth c H1 locs1 (r.2.1 - n0) (r.2.2.1 - s0) Q (F0 m (pc + 3) ls ((r.1.toList ++ st.drop np).map (s_v G))) := kk H1 locs1 ls hh g2 hl (by dsimp only; omega) (by dsimp only; omega)
        exact s_cs (by omega) (by omega) K
      by_cases hk3 : kd = 3
      · subst hk3
        have hnest : va_Nw (.methodLinkNest (a_nm y.1) idx (a_m j).2.1 "SumsInWords") s := henv.2.2.1 (y.1, idx, 3, np, j, p1, p2, p3, p4) hmem (Or.inr (Or.inl rfl))
        have cw := va_cnB (R := R) (rm := { frames := d, cells := r.2.1 - h.1, slots := r.2.2.1 - h.2.1, locals := 37 * d }) (bytes := (a_m j).2.2.1) (maxL := (a_m j).2.2.2.1) (ret := (a_m j).2.2.2.2) (mc := r.2.1 - h.1) (ms := r.2.2.1 - h.2.1) np hts (s_goodG hcd) rfl rfl rfl hnest (hts _ wn) ⟨q3, q4, hnp⟩ hroom
        have hrun := va_runSN (e := e) (below := below) (meth := meth) (locs := locs) (cells := h.1 - n0) (slots := h.2.1 - s0) (g := F0 m pc ls (st.map (s_v G))) (rest := (st.drop np).map (s_v G)) (nL := y.2.2.2.1) ⟨hx, hb, hml, hown, hts⟩ hM ⟨cw, hts _ (ws2 hk2), trivial⟩ hpre rfl hlen2 g2.2.1 hst hsum hd hf
        exact s_behind hrun g3 hfin
      · have cw := callB_of (R := R) (rm := { frames := d, cells := r.2.1 - h.1, slots := r.2.2.1 - h.2.1, locals := 37 * d }) (bytes := (a_m j).2.2.1) (maxL := (a_m j).2.2.2.1) (ret := (a_m j).2.2.2.2) (mc := r.2.1 - h.1) (ms := r.2.2.1 - h.2.1) np hts (s_goodG hcd) rfl rfl rfl (hts _ wn) (hts _ (wl (by omega))) ⟨q3, q4, hnp⟩ hroom
        have hrun := va_runS (e := e) (below := below) (meth := meth) (locs := locs) (cells := h.1 - n0) (slots := h.2.1 - s0) (g := F0 m pc ls (st.map (s_v G))) (rest := (st.drop np).map (s_v G)) (nL := y.2.2.2.1) ⟨hx, hb, hml, hown, hts⟩ hM ⟨cw, hts _ (ws2 hk2)⟩ hpre rfl hlen2 g2.2.1 hst hsum hd hf
        exact s_behind hrun g3 hfin
    · cases e1
set_option maxHeartbeats 2000000 in
theorem s_ip (cx : s_cx p s m args meth c G y) (hC : s_ok l G d C) (hRf : d + 1 ≤ R.frames ∧ 37 * (d + 1) ≤ R.locals) {idx pc : Nat} {lv : List (Option Value)} {st : List Value} {h : aH} {t : aS} (hd : decode y.2.2.1 pc = .ok (.invokespecial idx, 3)) (e1 : a_ip C y idx pc lv st h = some (.inl t))
    (hR : t.2.2.2.1 - n0 ≤ R.cells ∧ t.2.2.2.2.1 - s0 ≤ R.slots)
    (kk : s_W p l e R s m args below meth c Q G y n0 s0 t) : s_W p l e R s m args below meth c Q G y n0 s0 (pc, lv, st, h) := by
  obtain ⟨hx, hb, hml, hown, hts, henv, hin⟩ := cx
  unfold a_ip at e1
  cases hm : a_Mt y.1 idx with
  | none => rw [hm] at e1; cases e1
  | some x =>
    simp only [hm] at e1
    cases hdr : st.drop x.2.1 with
    | nil => rw [hdr] at e1; cases e1
    | cons b rest =>
      simp only [hdr] at e1
      cases b <;> first | (cases e1; done) | skip
      rename_i b
      dsimp only at e1
      by_cases h6 : x.1 = 6 ∧ x.2.1 = 0 ∧ a_sum rest ≤ 8
      · rw [if_pos h6] at e1
        cases a_nx_inv e1
        obtain ⟨kd, np, j, p1, p2, p3, p4, hmem, hok, rfl⟩ := a_Mt_inv hm
        obtain ⟨h6, h0, hs8⟩ := h6
        dsimp only at h6 h0 hdr
        subst h6; subst h0
        simp only [List.drop_zero] at hdr
        subst hdr
        unfold a_kM at hok
        dsimp only at hok
        rw [if_pos rfl] at hok
        simp only [Bool.and_eq_true, decide_eq_true_eq] at hok
        obtain ⟨⟨⟨-, w1⟩, w2⟩, w3⟩ := hok
        intro H locs ls g1 g2 g3 g4 g5
        have K := kk H locs ls g1 g2 g3 g4 g5
        refine W.objInit hx hb hown (hts _ (a_gw_of w1)) (hts _ (a_gw_of w2)) (hts _ (a_gw_of w3)) rfl (by rw [hml]; exact g2.2.1) rfl hd (by omega) ?_ K
        show 2 * 0 + ((rest.map (s_v G)).map fun v => v.category).sum + 12 ≤ R.locals
        rw [s_sum]
        omega
      · rw [if_neg h6] at e1
        split at e1
        · rename_i hc
          obtain ⟨hk2, hlen⟩ := hc
          obtain ⟨h8, hen, h18, r, hr, rfl⟩ := a_go_inv e1
          obtain ⟨kd, np, j, p1, p2, p3, p4, hmem, hok, rfl⟩ := a_Mt_inv hm
          dsimp only at hk2 hlen hen h18 hr hdr hR ⊢
          obtain ⟨hj, hokm, hnp, wl, ws2, wi, wsel, wini, wn⟩ := a_kM_inv hok (by omega)
          obtain ⟨hin1, hin2⟩ := wini hk2
          obtain ⟨q1, q2, q3, q4⟩ := a_okM_inv hokm
          obtain ⟨m1, m2, hM⟩ := hC _ _ _ _ hr hokm hen h18
          have hcd := a_cd hj
          intro H locs ls g1 g2 g3 g4 g5
          dsimp only at g1 g4 g5
          have hst : st.map (s_v G) = (((st.take np).reverse).map (s_v G)).reverse ++ .ref (s_ad G b) :: rest.map (s_v G) := s_spl hdr
          show W p l e R s m args below meth c H locs (h.1 - n0) (h.2.1 - s0) Q (F0 m pc ls (st.map (s_v G)))
          have hpre : PreS s H (s_Pc G (.ref b :: (st.take np).reverse) h) (.ref (s_ad G b) :: ((st.take np).reverse).map (s_v G)) := s_preS henv g1 _
          have hlen2 : (((st.take np).reverse).map (s_v G)).length = np := by
            rw [List.length_map, List.length_reverse, List.length_take]; omega
          have hroom : d + 1 ≤ R.frames ∧ 8 + ((a_m j).2.2.2.1 + 11) + 37 * d ≤ R.locals := ⟨hRf.1, by omega⟩
          have hsum : 2 * (F0 m pc ls (st.map (s_v G))).monitorRoom + ((rest.map (s_v G)).map fun v => v.category).sum ≤ 8 := lv_room (by rw [s_sum]; exact h8)
          have hf : h.1 - n0 + (r.2.1 - h.1) ≤ R.cells ∧ h.2.1 - s0 + (r.2.2.1 - h.2.1) ≤ R.slots := by omega
          have hfin : ∀ (H1 : Heap) (locs1 : List Loc), s_heap G r.2 H1 → (∀ q ∈ locs1, s_A G q.base) → W p l e R s m args below meth c H1 locs1 (h.1 - n0 + (r.2.1 - h.1)) (h.2.1 - s0 + (r.2.2.1 - h.2.1)) Q (F0 m (pc + 3) ls ((r.1.toList ++ rest).map (s_v G))) := by
            intro H1 locs1 hh hl
            have K : W p l e R s m args below meth c H1 locs1 (r.2.1 - n0) (r.2.2.1 - s0) Q (F0 m (pc + 3) ls ((r.1.toList ++ rest).map (s_v G))) := kk H1 locs1 ls hh g2 hl (by dsimp only; omega) (by dsimp only; omega)
            exact s_cs (by omega) (by omega) K
          have hcd2 : s_ws (a_m j) = Cond.code (a_m j).2.1 (a_m j).2.2.1 (a_m j).2.2.2.1 none :: aGd := by
            unfold s_ws a_wC
            rw [hin2]
          by_cases hk5 : kd = 5
          · subst hk5
            have hnest : va_Nw (.methodLinkNest (a_nm y.1) idx (a_m j).2.1 "SumsInWords") s := henv.2.2.1 (y.1, idx, 5, np, j, p1, p2, p3, p4) hmem (Or.inr (Or.inr rfl))
            have cw := va_cnB (R := R) (rm := { frames := d, cells := r.2.1 - h.1, slots := r.2.2.1 - h.2.1, locals := 37 * d }) (bytes := (a_m j).2.2.1) (maxL := (a_m j).2.2.2.1) (ret := none) (mc := r.2.1 - h.1) (ms := r.2.2.1 - h.2.1) np hts (s_goodG hcd) hcd2 rfl rfl hnest (hts _ wn) ⟨q3, q4, hnp⟩ hroom
            have hrun := va_runIN (e := e) (below := below) (meth := meth) (locs := locs) (cells := h.1 - n0) (slots := h.2.1 - s0) (g := F0 m pc ls (st.map (s_v G))) (rest := rest.map (s_v G)) (nL := y.2.2.2.1) ⟨hx, hb, hml, hown, hts⟩ hM ⟨cw, hin1, hts _ (wi (by omega))⟩ hpre rfl hlen2 g2.2.1 hst hsum hd hf
            exact s_behind hrun g3 hfin
          · have cw := callB_of (R := R) (rm := { frames := d, cells := r.2.1 - h.1, slots := r.2.2.1 - h.2.1, locals := 37 * d }) (bytes := (a_m j).2.2.1) (maxL := (a_m j).2.2.2.1) (ret := none) (mc := r.2.1 - h.1) (ms := r.2.2.1 - h.2.1) np hts (s_goodG hcd) hcd2 rfl rfl (hts _ wn) (hts _ (wl (by omega))) ⟨q3, q4, hnp⟩ hroom
            have hrun := va_runI (e := e) (below := below) (meth := meth) (locs := locs) (cells := h.1 - n0) (slots := h.2.1 - s0) (g := F0 m pc ls (st.map (s_v G))) (rest := rest.map (s_v G)) (nL := y.2.2.2.1) ⟨hx, hb, hml, hown, hts⟩ hM ⟨cw, hin1, hts _ (wi (by omega))⟩ hpre rfl hlen2 g2.2.1 hst hsum hd hf
            exact s_behind hrun g3 hfin
        · cases e1
end SI
