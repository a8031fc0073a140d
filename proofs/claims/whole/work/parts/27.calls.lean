/-- a method's words: its own code, and all the good words of the tables -/
def s_ws (z : aM) : List Cond := a_wC z :: aGd
def s_Pc (G : aG) (as : List Value) (h : aH) : Array Value → State → Prop := fun v U => v = (as.map (s_v G)).toArray ∧ s_heap G h U.heap ∧ s_env G U
def s_Qc (G : aG) (r : aR) : Array Value → State → Outcome → State → Prop := fun _ _ o t => o = .returned (r.1.map (s_v G)) ∧ s_heap G r.2 t.heap
/-- what callees, d deep, do on the machine -/
def s_ok (l : Launch) (G : aG) (d : Nat) (C : aM → List Value → aH → Option aR) : Prop := ∀ (z : aM) (as : List Value) (h : aH) (r : aR), C z as h = some r → a_okM z = true → (a_en as).length ≤ z.2.2.2.1 → z.2.2.2.1 ≤ 18 →
  h.1 ≤ r.2.1 ∧ h.2.1 ≤ r.2.2.1 ∧ Met l z.2.1 (s_ws z) { frames := d, cells := r.2.1 - h.1, slots := r.2.2.1 - h.2.1, locals := 37 * d } (s_Pc G as h) (s_Qc G r) (r.2.1 - h.1) (r.2.2.1 - h.2.1) (s_A G)
theorem s_blind (G : aG) (as : List Value) (h : aH) : FrameBlind (s_Pc G as h) := fun _ U g mk q => ⟨q.1, q.2.1, q.2.2.same (U := U.calling g mk _) rfl⟩
theorem s_good {z : aM} (hz : a_wC z ∈ aGd) (x : aM) : GoodIn (s_ws x) (s_ws z) := by
  intro w hw
  have h1 : w ∈ aGd := by
    rcases List.mem_cons.mp hw with rfl | h
    · exact hz
    · exact h
  exact ⟨List.mem_cons_of_mem _ h1, good_of_word (List.mem_filter.mp h1).2⟩
theorem s_goodG {z : aM} (hz : a_wC z ∈ aGd) : GoodIn aGd (s_ws z) := by
  intro w hw
  have h1 : w ∈ aGd := by
    rcases List.mem_cons.mp hw with rfl | h
    · exact hz
    · exact h
  exact ⟨h1, good_of_word (List.mem_filter.mp h1).2⟩
section SC
variable {p : Program} {l : Launch} {e : Env} {R : Room} {s : State} {m : MethodId} {args : Array Value} {below : List Frame} {meth : Method} {c : Code} {Q : State → Prop} {G : aG} {y : aM} {n0 s0 : Nat}
theorem s_preS {H : Heap} {h : aH} (henv : s_env G s) (g1 : s_heap G h H) (as : List Value) : PreS s H (s_Pc G as h) (as.map (s_v G)) := ⟨s_blind G as h, fun U hU hW => ⟨rfl, by rw [hU]; exact g1, henv.warm hW⟩⟩
theorem s_behind {H : Heap} {locs : List Loc} {cells slots mc ms pc : Nat} {ls : Array Slot} {st0 rest : List Value} {a : Array Value} {r : aR} (hr : va_Run p l e R s m args below meth c H locs cells slots mc ms (F0 m pc ls st0) (rest.map (s_v G)) (s_Qc G r a) (s_A G)) (g3 : ∀ q ∈ locs, s_A G q.base)
    (kk : ∀ (H1 : Heap) (locs1 : List Loc), s_heap G r.2 H1 → (∀ q ∈ locs1, s_A G q.base) → W p l e R s m args below meth c H1 locs1 (cells + mc) (slots + ms) Q (F0 m (pc + 3) ls ((r.1.toList ++ rest).map (s_v G)))) : W p l e R s m args below meth c H locs cells slots Q (F0 m pc ls st0) := by
  intro T hT X
  obtain ⟨v, st₀, t, T', L, h0, X', hL, e1, e2, ⟨hv, hh⟩, st⟩ := hr T hT X
  cases hv
  obtain ⟨t2, a1, b1⟩ := kk T'.heap (locs ++ L) (by rw [e1]; exact hh) (fun q hq => by
      rcases List.mem_append.mp hq with h9 | h9
      · exact g3 q h9
      · exact hL q h9) T' rfl X'
  refine ⟨t2, st t2 ?_, b1⟩
  have : (r.1.map (s_v G)).toList ++ rest.map (s_v G) = (r.1.toList ++ rest).map (s_v G) := by cases r.1 <;> rfl
  show Steps _ _ _ (T'.setTop (F0 m (pc + 3) ls ((r.1.map (s_v G)).toList ++ rest.map (s_v G)))) t2
  rw [this]
  exact a1
theorem a_go_inv {C : aM → List Value → aH → Option aR} {x : aL} {as st : List Value} {h : aH} {pc : Nat} {lv : List (Option Value)} {t : aS} (e1 : a_go C x as st h pc lv = some (.inl t)) : a_sum st ≤ 8 ∧ (a_en as).length ≤ x.2.2.2.2.2.1 ∧ x.2.2.2.2.2.1 ≤ 18 ∧ ∃ r, C x.2.2 as h = some r ∧ t = (pc + 3, lv, r.1.toList ++ st, r.2) := by
  unfold a_go at e1
  split at e1
  · cases e1
  · rename_i hn
    refine ⟨Nat.not_lt.mp (fun z => hn (Or.inl z)), Nat.not_lt.mp (fun z => hn (Or.inr (Or.inl z))), Nat.not_lt.mp (fun z => hn (Or.inr (Or.inr z))), ?_⟩
    cases hc : C x.2.2 as h with
    | none => rw [hc] at e1; cases e1
    | some r =>
      rw [hc] at e1
      exact ⟨r, rfl, a_nx_inv e1⟩
theorem a_okM_inv {z : aM} (h : a_okM z = true) : plainName z.2.1.cls = true ∧ a_nm z.1 = z.2.1.cls ∧ z.2.1.cls ≠ "java/lang/invoke/MethodHandle" ∧ z.2.1.cls ≠ "java/lang/invoke/VarHandle" := by
  simp only [a_okM, Bool.and_eq_true, decide_eq_true_eq] at h
  exact ⟨h.1.1.1, h.1.1.2, h.1.2, h.2⟩
/-- a receiver -/
theorem s_recv {H : Heap} {h : aH} (henv : s_env G s) (g1 : s_heap G h H) {b ci : Nat} (hci : ci ≠ 30) (hrc : a_rc h b ci = true) : ∃ cell : Cell, H[s_ad G b]? = some cell ∧ cell.vm.isStatics = false ∧ s.vm.findClass (a_nm ci) = some cell.cls := by
  unfold a_rc at hrc
  split at hrc
  · rename_i cj fs hc
    have hcj : cj = ci := by simpa using hrc
    subst hcj
    rcases g1.2.2 b _ hc with ⟨ha, hlt, hat⟩ | ⟨ha, hro⟩
    · have had : s_ad G b = (s_H0 G).size + b := by unfold s_ad; rw [if_pos ha]
      rw [had]
      by_cases h12 : cj < 12
      · have := va_recv (q0 := 0) henv.1 (s_P1 hat) (a_cl cj h12) rfl
        exact this
      · exfalso
        obtain ⟨r, hr, -⟩ := hat
        have h0 : aCl[cj]? = some r := hr
        rw [a_cl20 cj (by omega)] at h0
        cases h0
    · have had : s_ad G b = s_ra G (b - aRO) := by unfold s_ad; rw [if_neg (by omega)]
      rw [had]
      have hr := henv.2.1 _ _ hro
      unfold s_ro at hr
      split at hr
      · rename_i h9
        cases h9
        obtain ⟨cell, q1, q2, q3, -⟩ := hr.1.kept g1.old
        exact ⟨cell, q1, q2, q3⟩
      · rename_i h9
        cases h9
        exact absurd rfl hci
      · rename_i h9; cases h9
      · rename_i h9; cases h9
      · exact hr.elim
  · cases hrc
end SC
