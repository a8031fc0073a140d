theorem aGd_tbl {w : Cond} (h : w ∈ aGd) : w ∈ lw_tbl := (List.mem_filter.mp h).1
set_option maxHeartbeats 4000000 in
theorem i_env {s : State} {args : Array Value} {b L : Nat} {xs : Nat → Int32} (hts : ∀ w ∈ lw_tbl, w.before args s = true) (hX : va_X b L xs s s.heap) (hbl : b < s.heap.size) (hgv : (Jvm.Cond.and given_1 narrow_1).before args s = true) (hLs : L < 2 ^ 31) :
    ∃ (G : aG) (fv : Value), (fv = .null ∨ fv = .ref (aRO + 70)) ∧ s_H0 G = s.heap ∧ s_rc G = i_ro L xs fv ∧ s_ra G 60 = b ∧ s_env G s := by
  have hs := flat_of_before _ hgv
  have hA : ∀ a : Nat, a < s.heap.size → ¬ (fun q : Nat => s.heap.size ≤ q) a := fun a h h2 => Nat.not_le.mpr h h2
  -- classes
  have hcl : ∀ c : Nat, ∃ q : ClassId × (Nat → Nat), c < 12 → u_Kn s (a_nm c) (a_T c) (a_N c) q.1 q.2 := by
    intro c
    by_cases hc : c < 12
    · obtain ⟨cC, iS, h⟩ := u_known (C := a_nm c) (T := a_T c) (N := a_N c) (n := a_N c) (ws := lw_tbl) hts (fun w hw => aGd_tbl (a_uin hc w hw)) (hts _ (i_n6 c hc))
      exact ⟨(cC, iS), fun _ => h⟩
    · exact ⟨(0, fun _ => 0), fun h => absurd h hc⟩
  obtain ⟨dK, hdK⟩ := Classical.axiomOfChoice hcl
  -- array classes
  have harr : ∀ q ∈ a_pA, ∃ cA : ClassId, ArrOfT s cA q.1 ∧ s.vm.findClass ("[" ++ q.1.toString) = some cA := by
    intro q hq
    obtain ⟨cA, kA, comp, h1, h2, h3⟩ := Cond.arrayClass_spec (hts _ (aGd_tbl (a_gw_of (List.all_eq_true.mp a_cP q hq))))
    exact ⟨cA, fun n z => ⟨fun k h => (by cases h), kA, h2, comp, h3⟩, h1⟩
  obtain ⟨c0, h0a, h0b⟩ := harr (.int, _) (List.mem_of_getElem? (i := 0) rfl)
  obtain ⟨c1, h1a, h1b⟩ := harr (.long, _) (List.mem_of_getElem? (i := 1) rfl)
  obtain ⟨c2, h2a, h2b⟩ := harr (.boolean, _) (List.mem_of_getElem? (i := 2) rfl)
  have hao : ∀ C : String, Cond.arrayOver (.object C) ∈ lw_tbl → ∃ cA : ClassId, ArrOfT s cA (.object C) ∧ va_RA s cA (.object C) := by
    intro C hC
    obtain ⟨comp, c, k, f1, f2, f3, f4, f5⟩ := Cond.arrayOver_spec (hts _ hC)
    exact ⟨c, fun n z => ⟨fun k h => (by cases h), k, f3, comp, f4⟩, k, comp, f3, f4, f1, f5⟩
  obtain ⟨c3, h3a, h3b⟩ := hao _ i_n5.2.2.2.2.1
  obtain ⟨c4, h4a, h4b⟩ := hao _ i_n5.2.2.2.2.2
  -- texts
  obtain ⟨adK, adV, hK, hKe⟩ := vk_Sof (args := args) (s := s) (N := 16) (tm := i_tm) (len := (List.range 16).map i_bl) (byt := a_byt) (A := fun q : Nat => s.heap.size ≤ q) (fun i hi => by rw [i_len i hi]; exact i_bl31 i hi) (fun i hi => hs _ (i_n1 i hi).1) (fun i hi => hs _ (i_n1 i hi).2.1) (fun i hi => hs _ (i_n1 i hi).2.2.1) (fun i hi => by rw [i_len i hi]; exact hs _ (i_n1 i hi).2.2.2) (fun i hi j hj => hs _ (i_n2 i hi j (by rw [i_len i hi] at hj; exact hj))) (fun i j hi hj hij => (i_n3 i hi j hj hij).elim (fun h => Or.inl (hs _ h)) (fun h => Or.inr (hs _ h))) hA
  -- statics
  have hz1 := va_Zof (A := fun q : Nat => s.heap.size ≤ q) (hts _ i_n5.1) (hts _ i_n5.2.1) (va_eqi (hs _ i_n4.1)) hA
  have hz2 := va_Zqof (A := fun q : Nat => s.heap.size ≤ q) (hts _ i_n5.2.2.1) (hts _ i_n5.2.2.2.1) (hs _ i_n4.2) hA
  obtain ⟨fv, fa, hfv, hz2⟩ : ∃ (fv : Value) (fa : Nat), (fv = .null ∨ fv = .ref (aRO + 70)) ∧ va_Z "jdk/internal/util/Preconditions" "SIOOBE_FORMATTER" "Ljava/util/function/BiFunction;" (match fv with | .ref _ => .ref fa | v => v) (fun q : Nat => s.heap.size ≤ q) s s.heap := by
    rcases hz2 with h | ⟨t, h⟩
    · exact ⟨.null, 0, Or.inl rfl, h⟩
    · exact ⟨.ref (aRO + 70), t, Or.inr rfl, h⟩
  let G : aG := ((fun c => (dK c).1, fun c => (dK c).2), fun t => if t = 0 then c0 else if t = 1 then c1 else if t = 2 then c2 else if t = 3 then c3 else c4, fun j => if j < 16 then adK j else if j = 60 then b else if j = 70 then fa else adV (j - 100), i_ro L xs fv, s.heap)
  refine ⟨G, fv, hfv, rfl, rfl, rfl, ?_⟩
  have hcase : ∀ c (q : vw_C), aCl[c]? = some q → c < 12 ∧ q = (a_nm c, a_T c, a_N c) := by
    intro c q hq
    by_cases hc : c < 12
    · exact ⟨hc, Option.some.inj (hq.symm.trans (a_cl c hc))⟩
    · rw [a_cl20 c (by omega)] at hq; cases hq
  refine ⟨⟨fun c q hq => ?_, fun k q hq => ?_⟩, fun j e he => ?_, fun q hq hk => ?_, fun q hq hk => ?_, ⟨va_AO.of (hts _ i_n5.2.2.2.2.1), va_AO.of (hts _ i_n5.2.2.2.2.2)⟩, fun q hq => ?_⟩
  · obtain ⟨hc, rfl⟩ := hcase c q hq
    exact hdK c hc
  · match k, hq with
    | 0, hq => cases hq; exact ⟨h0a, h0b⟩
    | 1, hq => cases hq; exact ⟨h1a, h1b⟩
    | 2, hq => cases hq; exact ⟨h2a, h2b⟩
    | 3, hq => cases hq; exact ⟨h3a, h3b⟩
    | 4, hq => cases hq; exact ⟨h4a, h4b⟩
    | k + 5, hq => cases hq
  · have he : i_ro L xs fv j = some e := he
    unfold i_ro at he
    split at he
    · rename_i hj
      cases he
      obtain ⟨k1, k2, k3, k4⟩ := hK.1 j hj
      have e1 : s_ra G j = adK j := if_pos hj
      have e2 : s_ad G (aRO + (100 + j)) = adV j := by
        unfold s_ad
        rw [if_neg (by omega), Nat.add_sub_cancel_left]
        show (if 100 + j < 16 then adK (100 + j) else if 100 + j = 60 then b else if 100 + j = 70 then fa else adV (100 + j - 100)) = adV j
        rw [if_neg (by omega), if_neg (by omega), if_neg (by omega), Nat.add_sub_cancel_left]
      show va_O "java/lang/String" (s_ra G j) (s_A G) s (s_H0 G) ∧ va_OF "java/lang/String" "value" "[B" (.ref (s_ad G (aRO + (100 + j)))) (s_ra G j) (s_A G) s (s_H0 G) ∧ va_OF "java/lang/String" "coder" "B" (.int 0) (s_ra G j) (s_A G) s (s_H0 G)
      rw [e1, e2]
      exact ⟨k1, k3, k2⟩
    · split at he
      · rename_i hj
        subst hj
        cases he
        show va_Z _ _ _ (.int 1) _ _ _ ∧ va_Z _ _ _ (s_v G fv) _ _ _
        refine ⟨hz1, ?_⟩
        rcases hfv with rfl | rfl
        · exact hz2
        · exact hz2
      · split at he
        · rename_i hj
          subst hj
          cases he
          obtain ⟨scr, r1, r2, r3, r4, r5⟩ := hX
          show va_T .int b L (fun i => .int (xs i)) (s_A G) s (s_H0 G)
          refine ⟨scr, r1, r2, r3, Nat.le_of_eq r4.symm, by rw [r4], r5, fun z => ?_⟩
          have z : s.heap.size ≤ b := z
          omega
        · split at he
          · rename_i hj
            cases he
            obtain ⟨k1, k2, k3, k4⟩ := hK.1 (j - 100) (by omega)
            have e1 : s_ra G j = adV (j - 100) := by
              show (if j < 16 then adK j else if j = 60 then b else if j = 70 then fa else adV (j - 100)) = _
              rw [if_neg (by omega), if_neg (by omega), if_neg (by omega)]
            rw [i_len _ (by omega)] at k4
            show va_T .byte (s_ra G j) (i_bl (j - 100)) (fun i => .int ((a_byt.getD (j - 100) []).getD i 0)) (s_A G) s (s_H0 G)
            rw [e1]
            exact k4
          · cases he
  · have hk2 := a_cM q hq
    obtain ⟨o, i, kd, np, j, p1, p2, p3, p4⟩ := q
    unfold a_kM at hk2
    dsimp only at hk2 hk
    rw [if_neg (by omega), if_neg (by omega), if_neg (by omega), if_neg (by omega), if_neg (by omega)] at hk2
    simp only [Bool.and_eq_true] at hk2
    have h5 := hk2.1.1.1.1.2
    rw [if_pos hk] at h5
    have := hts _ (a_pw_of h5)
    unfold a_lM at this
    rw [if_pos hk] at this
    exact va_Nw.of rfl this
  · have hk2 := List.all_eq_true.mp a_cF q hq
    obtain ⟨o, i, ci, k, kd, pp⟩ := q
    unfold a_kF at hk2
    dsimp only at hk2 hk
    subst hk
    simp only [Bool.and_eq_true] at hk2
    obtain ⟨h1, h2⟩ := hk2
    rw [if_pos trivial] at h2
    have h20 : ¬ ci = 20 := by
      intro z
      subst z
      simp at h1
    have := hts _ (a_pw_of h2)
    unfold a_wF at this
    rw [if_neg h20, if_pos rfl] at this
    exact va_Nw.of rfl this
  · have hk2 := List.all_eq_true.mp a_cS q hq
    simp only [Bool.and_eq_true, decide_eq_true_eq] at hk2
    obtain ⟨⟨⟨h1, h2⟩, h3⟩, h4⟩ := hk2
    have e1 : s_ra G q.2.2.1 = adK q.2.2.1 := if_pos h2
    rw [e1]
    refine vk_R.of (hts _ (a_pw_of h1)) ?_
    have := hKe q.2.2.1 h2
    unfold i_tm at this
    rw [← h3, ← h4] at this
    exact this
set_option maxHeartbeats 4000000 in
/-- THE LAW, from its entry, out of the pure statement -/
theorem whole_open (hp : pure_law) {p : Program} {e : Env} {s : State} {m : MethodId} {below : List Frame} {meth : Method} {c : Code} (l : Launch) {b L : Nat} {xs : Nat → Int32} (hL : L ≤ 3584) (C0 : lw_At p s m meth c b L xs) : W p l e room_1 s m #[Value.ref b] below meth c s.heap [] 0 0 (lw_Z below #[Value.ref b] s) (entryFrame m ([Value.ref b] : List Value).toArray 4) := by
  obtain ⟨hx, hb, hr, hml, hown, hts, hX, hbl, hlocks, hgv⟩ := C0
  obtain ⟨G, fv, hfv, hH0, hrc, hra, henv⟩ := i_env hts hX hbl hgv (by omega)
  obtain ⟨f, r, hrun, hv, hc, hsl⟩ := hp L xs fv hL hfv
  have had : s_ad G (aRO + 60) = b := by unfold s_ad; rw [if_neg (by omega), Nat.add_sub_cancel_left]; exact hra
  have cx : s_cx p s m #[Value.ref b] meth c G mL_law := ⟨hx, hb, hml, hown, fun w hw => hts w (aGd_tbl hw), henv, fun h9 => absurd h9 (by decide)⟩
  have hheap : s_heap G (i_h0 L xs fv) s.heap := by
    refine ⟨by rw [hH0]; rfl, fun q hq => by rw [hH0], fun i e he => ?_⟩
    have he : (if i < aRO then none else i_ro L xs fv (i - aRO)) = some e := he
    split at he
    · cases he
    · rename_i hi
      exact Or.inr ⟨by omega, by rw [hrc]; exact he⟩
  have key := s_run (e := e) (below := below) (n0 := 0) (s0 := 0) (R := room_1) (Q := lw_Z below #[Value.ref b] s) cx (s_ev l G f 11) (up_ev f 11) (by decide) r ⟨by show r.2.1 - 0 ≤ room_1.cells; omega, by show r.2.2.1 - 0 ≤ room_1.slots; omega⟩ (fun x hx2 => ?_) f _ hrun
  · have he := s_lv.entry G [.ref (aRO + 60)] (n := 4) (by decide)
    have hvs : ([Value.ref (aRO + 60)] : List Value).map (s_v G) = [Value.ref b] := by
      show [Value.ref (s_ad G (aRO + 60))] = _
      rw [had]
    rw [hvs] at he
    have K := key s.heap [] _ hheap he (fun q hq => by cases hq) (Nat.zero_le _) (Nat.zero_le _)
    rw [lg_entry_eq]
    exact K
  · obtain ⟨pc, lv, st, h⟩ := x
    obtain ⟨rv, rh⟩ := r
    dsimp only at hv hc hsl
    subst hv
    intro H locs ls g1 g2 g3 g4 g5
    dsimp only at g1
    -- the law's only ends are ireturn
    have hst : decode mL_law.2.2.1 pc = .ok (.ireturn, 1) ∧ st = [.int 1] ∧ h = rh := by
      have hr2 : a_step (a_ev f 11) mL_law (pc, lv, st, h) = some (.inr (some (.int 1), rh)) := hx2
      exact i_end hr2
    obtain ⟨hd, rfl, rfl⟩ := hst
    refine va_forget (fun q hq => ?_) ?_
    · have := g3 q hq
      unfold s_A at this
      rw [hH0] at this
      exact this
    · refine W.widen (k := room_1.cells) (n := room_1.slots) (by dsimp only; omega) (by dsimp only; omega) ?_
      exact lw_ret hx hb hr hlocks hd
