/-! ===== what the abstract machine's state means on the machine ===== -/
/-- classes' numbers and slots; array classes by tag; addresses of what nobody writes; its contents; the heap at the start -/
abbrev aG : Type := va_G × (Nat → ClassId) × (Nat → Nat) × (Nat → Option va_E) × Heap
def s_D (G : aG) : va_G := G.1
def s_dA (G : aG) : Nat → ClassId := G.2.1
def s_ra (G : aG) : Nat → Nat := G.2.2.1
def s_rc (G : aG) : Nat → Option va_E := G.2.2.2.1
def s_H0 (G : aG) : Heap := G.2.2.2.2
def s_A (G : aG) : Nat → Prop := fun q => (s_H0 G).size ≤ q
def s_ad (G : aG) (i : Nat) : Nat := if i < aRO then (s_H0 G).size + i else s_ra G (i - aRO)
def s_v (G : aG) (v : Value) : Value := match v with
  | .ref a => .ref (s_ad G a)
  | v => v
def s_e (G : aG) (e : va_E) : va_E := match e with
  | .inl (t, n, .inl f) => .inl (s_dA G t, n, .inl f)
  | .inl (t, n, .inr (.inl f)) => .inl (s_dA G t, n, .inr (.inl f))
  | .inl (t, n, .inr (.inr (.inl f))) => .inl (s_dA G t, n, .inr (.inr (.inl f)))
  | .inl (t, n, .inr (.inr (.inr (.inl f)))) => .inl (s_dA G t, n, .inr (.inr (.inr (.inl f))))
  | .inl (t, n, .inr (.inr (.inr (.inr f)))) => .inl (s_dA G t, n, .inr (.inr (.inr (.inr (fun j => (f j).map (s_ad G))))))
  | .inr (c, fs) => .inr (c, fs.map (s_v G))
def s_tys (G : aG) : List (ClassId × FieldType) := [(s_dA G 0, .int), (s_dA G 1, .long), (s_dA G 2, .boolean), (s_dA G 3, .object "SumsInWords$State"), (s_dA G 4, .object "SumsInWords$Sentence")]
/-- a cell that nobody writes -/
def s_ro (G : aG) (U : State) (j : Nat) (e : va_E) : Prop := match e with
  | .inr (20, [v, w]) => va_O "java/lang/String" (s_ra G j) (s_A G) U (s_H0 G) ∧ va_OF "java/lang/String" "value" "[B" (s_v G v) (s_ra G j) (s_A G) U (s_H0 G) ∧ va_OF "java/lang/String" "coder" "B" (s_v G w) (s_ra G j) (s_A G) U (s_H0 G)
  | .inr (30, [v, w]) => va_Z "java/lang/String" "COMPACT_STRINGS" "Z" (s_v G v) (s_A G) U (s_H0 G) ∧ va_Z "jdk/internal/util/Preconditions" "SIOOBE_FORMATTER" "Ljava/util/function/BiFunction;" (s_v G w) (s_A G) U (s_H0 G)
  | .inl (0, n, .inl f) => va_T .int (s_ra G j) n (fun i => .int (f i)) (s_A G) U (s_H0 G)
  | .inl (5, n, .inl f) => va_T .byte (s_ra G j) n (fun i => .int (f i)) (s_A G) U (s_H0 G)
  | _ => False
/-- what holds of the tables and of the old heap, at any state of the run -/
def s_env (G : aG) (U : State) : Prop := va_K (s_D G) aCl (s_tys G) U ∧ (∀ j e, s_rc G j = some e → s_ro G U j e) ∧
  (∀ q ∈ a_tM, (q.2.2.1 = 1 ∨ q.2.2.1 = 3 ∨ q.2.2.1 = 5) → va_Nw (.methodLinkNest (a_nm q.1) q.2.1 (a_m q.2.2.2.2.1).2.1 "SumsInWords") U) ∧
  (∀ q ∈ a_tF, q.2.2.2.2.1 = 1 → va_Nw (.fieldLinkNest (a_nm q.1) q.2.1 (a_T q.2.2.1 q.2.2.2.1).1 (a_T q.2.2.1 q.2.2.2.1).2.1 (a_T q.2.2.1 q.2.2.2.1).2.2.1 "SumsInWords") U) ∧
  (va_AO "SumsInWords$State" U ∧ va_AO "SumsInWords$Sentence" U) ∧
  (∀ q ∈ a_tS, vk_R (a_nm q.1) q.2.1 (a_str.getD q.2.2.1 ("", 0, "")).2.2 (s_ra G q.2.2.1) U)
theorem s_ro.moved {G : aG} {u U : State} (hvm : u.vm.Alike U.vm) {j : Nat} {e : va_E} (h : s_ro G u j e) : s_ro G U j e := by
  unfold s_ro at h ⊢
  split at h
  · exact ⟨va_O.moved hvm h.1, va_OF.moved hvm h.2.1, va_OF.moved hvm h.2.2⟩
  · exact ⟨va_Z.moved hvm h.1, va_Z.moved hvm h.2⟩
  · exact va_T.moved hvm h
  · exact va_T.moved hvm h
  · exact h.elim
theorem s_env.warm {G : aG} {s U : State} (hW : s.WarmedH U.vm) (h : s_env G s) : s_env G U :=
  ⟨va_K.moved hW.alike h.1, fun j e he => (h.2.1 j e he).moved hW.alike, fun q hq hk => va_Nw.warmM hW (h.2.2.1 q hq hk), fun q hq hk => va_Nw.warmF hW (h.2.2.2.1 q hq hk), ⟨va_AO.moved hW.alike h.2.2.2.2.1.1, va_AO.moved hW.alike h.2.2.2.2.1.2⟩, fun q hq => vk_R.warm hW (h.2.2.2.2.2 q hq)⟩
theorem s_env.same {G : aG} {s U : State} (hv : s.vm = U.vm) (h : s_env G s) : s_env G U := by
  have ha : s.vm.Alike U.vm := by rw [← hv]; exact Vm.Alike.refl s.vm
  exact ⟨va_K.moved ha h.1, fun j e he => (h.2.1 j e he).moved ha, fun q hq hk => va_Nw.same rfl hv (h.2.2.1 q hq hk), fun q hq hk => va_Nw.same rfl hv (h.2.2.2.1 q hq hk), ⟨va_AO.moved ha h.2.2.2.2.1.1, va_AO.moved ha h.2.2.2.2.1.2⟩, fun q hq => vk_R.same hv.symm (h.2.2.2.2.2 q hq)⟩
/-- the heap -/
def s_heap (G : aG) (h : aH) (H : Heap) : Prop := H.size = (s_H0 G).size + h.1 ∧ (∀ q : Nat, q < (s_H0 G).size → H[q]? = (s_H0 G)[q]?) ∧ ∀ (i : Nat) (e : va_E), h.2.2 i = some e → (i < aRO ∧ i < h.1 ∧ va_at (s_D G) aCl ((s_H0 G).size + i, s_e G e) H) ∨ (aRO ≤ i ∧ s_rc G (i - aRO) = some e)
/-- the locals -/
def s_lv (G : aG) (ls : Array Slot) (nL : Nat) (l : List (Option Value)) : Prop := l.length ≤ nL ∧ ls.size = nL ∧ lv_wf ls ∧ ∀ (i : Nat) (v : Value), a_ld l i = some v → ls[i]? = some (.val (s_v G v))
theorem s_v_cat (G : aG) (v : Value) : (s_v G v).category = v.category := by cases v <;> rfl
theorem s_v_nar (G : aG) (ty : FieldType) (v : Value) (h : narrow ty v = v) : narrow ty (s_v G v) = s_v G v := by
  cases v <;> cases ty <;> first | exact h | rfl
theorem s_v_fit (G : aG) (ty : FieldType) (v : Value) (h : fits ty v = true) : fits ty (s_v G v) = true := by
  cases v <;> cases ty <;> first | exact h | rfl
theorem s_sum (G : aG) : ∀ st : List Value, ((st.map (s_v G)).map fun v => v.category).sum = a_sum st
  | [] => rfl
  | v :: st => by
    have ih := s_sum G st
    simp only [a_sum, List.map_cons, List.sum_cons] at ih ⊢
    rw [ih, s_v_cat]
theorem a_ld_lt : ∀ (l : List (Option Value)) (i : Nat) (v : Value), a_ld l i = some v → i < l.length
  | [], _, _, h => by simp [a_ld] at h
  | a :: l, 0, v, h => by simp
  | a :: l, i + 1, v, h => by
    have := a_ld_lt l i v h
    simp; omega
theorem a_ld_clr {a : Option Value} {w : Value} (h : a_clr a = some w) : a = some w ∧ w.category ≠ 2 := by
  unfold a_clr at h
  split at h
  · split at h
    · cases h
    · cases h; exact ⟨rfl, by assumption⟩
  · cases h
theorem a_ld_st : ∀ (l : List (Option Value)) (i : Nat) (v : Value) (j : Nat) (w : Value), a_ld (a_st l i v) j = some w → (j = i ∧ w = v) ∨ (j ≠ i ∧ a_ld l j = some w ∧ ¬ (j + 1 = i ∧ w.category = 2))
  | [], i, v, j, w, h => by simp [a_st, a_ld] at h
  | a :: l, 0, v, 0, w, h => by simp only [a_st, a_ld, Option.some.injEq] at h; exact Or.inl ⟨rfl, h.symm⟩
  | a :: l, 0, v, j + 1, w, h => by simp only [a_st, a_ld] at h; exact Or.inr ⟨by omega, h, by omega⟩
  | a :: l, 1, v, 0, w, h => by
    simp only [a_st, a_ld] at h
    obtain ⟨h1, h2⟩ := a_ld_clr h
    exact Or.inr ⟨by omega, h1, fun q => h2 q.2⟩
  | a :: l, 1, v, j + 1, w, h => by
    simp only [a_st, a_ld] at h
    rcases a_ld_st l 0 v j w h with ⟨h1, h2⟩ | ⟨h1, h2, h3⟩
    · exact Or.inl ⟨by omega, h2⟩
    · exact Or.inr ⟨by omega, h2, by omega⟩
  | a :: l, i + 2, v, 0, w, h => by simp only [a_st, a_ld] at h; exact Or.inr ⟨by omega, h, by omega⟩
  | a :: l, i + 2, v, j + 1, w, h => by
    simp only [a_st, a_ld] at h
    rcases a_ld_st l (i + 1) v j w h with ⟨h1, h2⟩ | ⟨h1, h2, h3⟩
    · exact Or.inl ⟨by omega, h2⟩
    · exact Or.inr ⟨by omega, h2, fun q => h3 ⟨by omega, q.2⟩⟩
theorem a_ld_un : ∀ (l : List (Option Value)) (i j : Nat) (w : Value), a_ld (a_un l i) j = some w → j ≠ i ∧ a_ld l j = some w
  | [], i, j, w, h => by simp [a_un, a_ld] at h
  | a :: l, 0, 0, w, h => by simp [a_un, a_ld] at h
  | a :: l, 0, j + 1, w, h => by simp only [a_un, a_ld] at h; exact ⟨by omega, h⟩
  | a :: l, i + 1, 0, w, h => by simp only [a_un, a_ld] at h; exact ⟨by omega, h⟩
  | a :: l, i + 1, j + 1, w, h => by
    simp only [a_un, a_ld] at h
    obtain ⟨h1, h2⟩ := a_ld_un l i j w h
    exact ⟨by omega, h2⟩
theorem a_st_len : ∀ (l : List (Option Value)) (i : Nat) (v : Value), (a_st l i v).length = l.length
  | [], _, _ => rfl
  | a :: l, 0, v => rfl
  | a :: l, 1, v => by simp only [a_st, List.length_cons, a_st_len l 0 v]
  | a :: l, i + 2, v => by simp only [a_st, List.length_cons, a_st_len l (i + 1) v]
theorem a_un_len : ∀ (l : List (Option Value)) (i : Nat), (a_un l i).length = l.length
  | [], _ => rfl
  | a :: l, 0 => rfl
  | a :: l, i + 1 => by simp only [a_un, List.length_cons, a_un_len l i]
/-- the locals as the kit lists them -/
def s_li (G : aG) (l : List (Option Value)) : List (Nat × Value) := (List.range l.length).filterMap (fun i => (a_ld l i).map (fun v => (i, s_v G v)))
theorem s_li_mem {G : aG} {l : List (Option Value)} {i : Nat} {v : Value} (h : a_ld l i = some v) : (i, s_v G v) ∈ s_li G l :=
  List.mem_filterMap.mpr ⟨i, List.mem_range.mpr (a_ld_lt l i v h), by rw [h]; rfl⟩
theorem s_li_of {G : aG} {l : List (Option Value)} {q : Nat × Value} (h : q ∈ s_li G l) : ∃ v, a_ld l q.1 = some v ∧ q.2 = s_v G v := by
  obtain ⟨i, -, hi⟩ := List.mem_filterMap.mp h
  cases hl : a_ld l i with
  | none => rw [hl] at hi; cases hi
  | some v =>
    rw [hl] at hi
    cases hi
    exact ⟨v, hl, rfl⟩
theorem s_lv.has {G : aG} {ls : Array Slot} {nL : Nat} {l : List (Option Value)} (h : s_lv G ls nL l) : lv_has ls nL (s_li G l) := by
  refine ⟨h.2.1, h.2.2.1, fun q hq => ?_⟩
  obtain ⟨v, h1, h2⟩ := s_li_of hq
  rw [h2]
  exact h.2.2.2 _ _ h1
theorem s_lv.st {G : aG} {ls : Array Slot} {nL : Nat} {l : List (Option Value)} {i : Nat} {v : Value} (h : s_lv G ls nL l) {ls' : Array Slot}
    (h' : lv_has ls' nL ((i, s_v G v) :: (s_li G l).filter (fun q => !(q.1 == i) && !(q.1 + 1 == i && q.2.category == 2)))) : s_lv G ls' nL (a_st l i v) := by
  refine ⟨by rw [a_st_len]; exact h.1, h'.1, h'.2.1, fun j w hj => ?_⟩
  rcases a_ld_st l i v j w hj with ⟨rfl, rfl⟩ | ⟨h1, h2, h3⟩
  · exact h'.2.2 _ List.mem_cons_self
  · refine h'.2.2 (j, s_v G w) (List.mem_cons_of_mem _ (List.mem_filter.mpr ⟨s_li_mem h2, ?_⟩))
    simp only [s_v_cat, Bool.and_eq_true, Bool.not_eq_true', beq_eq_false_iff_ne, ne_eq, Bool.and_eq_false_iff]
    refine ⟨h1, ?_⟩
    by_cases q : j + 1 = i
    · exact Or.inr (fun z => h3 ⟨q, z⟩)
    · exact Or.inl q
theorem s_lv.stL {G : aG} {ls : Array Slot} {nL : Nat} {l : List (Option Value)} {i : Nat} {x : Int64} (h : s_lv G ls nL l) {ls' : Array Slot}
    (h' : lv_has ls' nL ((i, Value.long x) :: (s_li G l).filter (fun q => !(q.1 == i) && (!(q.1 == i + 1) && !(q.1 + 1 == i && q.2.category == 2))))) : s_lv G ls' nL (a_un (a_st l i (.long x)) (i + 1)) := by
  refine ⟨by rw [a_un_len, a_st_len]; exact h.1, h'.1, h'.2.1, fun j w hj => ?_⟩
  obtain ⟨h0, hj⟩ := a_ld_un _ _ _ _ hj
  rcases a_ld_st l i (.long x) j w hj with ⟨rfl, rfl⟩ | ⟨h1, h2, h3⟩
  · exact h'.2.2 _ List.mem_cons_self
  · refine h'.2.2 (j, s_v G w) (List.mem_cons_of_mem _ (List.mem_filter.mpr ⟨s_li_mem h2, ?_⟩))
    simp only [s_v_cat, Bool.and_eq_true, Bool.not_eq_true', beq_eq_false_iff_ne, ne_eq, Bool.and_eq_false_iff]
    refine ⟨h1, h0, ?_⟩
    by_cases q : j + 1 = i
    · exact Or.inr (fun z => h3 ⟨q, z⟩)
    · exact Or.inl q
theorem a_en_len (vs : List Value) : (a_en vs).length = (lg_sl vs).length := by
  induction vs with
  | nil => rfl
  | cons v vs ih =>
    simp only [a_en, lg_sl, List.flatMap_cons, List.length_append] at ih ⊢
    split
    · simp only [List.length_cons, ih, List.length_nil]; omega
    · simp only [List.length_cons, ih, List.length_nil]; omega
theorem a_ld_en : ∀ (vs : List Value) (n i k : Nat) (v : Value), a_ld (a_en vs ++ List.replicate n none) i = some v → (k + i, v) ∈ lv_args k vs
  | [], n, i, k, v, h => by
    exfalso
    have : ∀ (n i : Nat), a_ld (List.replicate n none) i = none := by
      intro n
      induction n with
      | zero => intro i; rfl
      | succ n ih => intro i; cases i with
        | zero => rfl
        | succ i => exact ih i
    rw [a_en, List.nil_append, this n i] at h
    cases h
  | w :: vs, n, i, k, v, h => by
    simp only [a_en, lv_args] at h ⊢
    by_cases hc : w.category = 2
    · rw [if_pos hc] at h ⊢
      match i, h with
      | 0, h => simp only [List.cons_append, a_ld, Option.some.injEq] at h; rw [h]; exact List.mem_cons_self
      | 1, h => simp only [List.cons_append, a_ld] at h; cases h
      | i + 2, h =>
        simp only [List.cons_append, a_ld] at h
        have := a_ld_en vs n i (k + 2) v h
        rw [show k + (i + 2) = k + 2 + i by omega]
        exact List.mem_cons_of_mem _ this
    · rw [if_neg hc] at h ⊢
      match i, h with
      | 0, h => simp only [List.cons_append, a_ld, Option.some.injEq] at h; rw [h]; exact List.mem_cons_self
      | i + 1, h =>
        simp only [List.cons_append, a_ld] at h
        have := a_ld_en vs n i (k + 1) v h
        rw [show k + (i + 1) = k + 1 + i by omega]
        exact List.mem_cons_of_mem _ this
theorem lv_args_map (G : aG) : ∀ (vs : List Value) (k : Nat), lv_args k (vs.map (s_v G)) = (lv_args k vs).map (fun q => (q.1, s_v G q.2))
  | [], _ => rfl
  | v :: vs, k => by
    simp only [List.map_cons, lv_args, s_v_cat]
    rw [lv_args_map G vs]
theorem s_lv.entry (G : aG) (vs : List Value) {n : Nat} (hn : (a_en vs).length ≤ n) : s_lv G ((lg_sl (vs.map (s_v G)) ++ List.replicate (n - (lg_sl (vs.map (s_v G))).length) Slot.unset).toArray) n (a_ent vs n) := by
  have hlen : (lg_sl (vs.map (s_v G))).length = (a_en vs).length := by
    rw [a_en_len]
    induction vs with
    | nil => rfl
    | cons v vs ih =>
      simp only [a_en] at hn
      have h2 : (lg_sl (List.map (s_v G) vs)).length = (lg_sl vs).length := ih (by split at hn <;> simp only [List.length_cons] at hn <;> omega)
      simp only [lg_sl, List.map_cons, List.flatMap_cons, List.length_append, s_v_cat] at h2 ⊢
      rw [h2]
      split <;> rfl
  have h := lv_entry (vs.map (s_v G)) (n := n) (by omega)
  refine ⟨by simp only [a_ent, List.length_append, List.length_replicate]; omega, h.1, h.2.1, fun i v hv => ?_⟩
  have h1 := a_ld_en vs _ i 0 v hv
  rw [Nat.zero_add] at h1
  refine h.2.2 (i, s_v G v) ?_
  rw [lv_args_map]
  exact List.mem_map.mpr ⟨(i, v), h1, rfl⟩
