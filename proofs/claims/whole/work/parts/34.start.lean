/-! ===== the law's start ===== -/
def i_bl (k : Nat) : Nat := (a_byt.getD k []).length
def i_ro (L : Nat) (xs : Nat → Int32) (fv : Value) (j : Nat) : Option va_E :=
  if j < 16 then some (.inr (20, [.ref (aRO + (100 + j)), .int 0])) else if j = 50 then some (.inr (30, [.int 1, fv])) else if j = 60 then some (.inl (0, L, .inl xs)) else if 100 ≤ j ∧ j < 116 then some (.inl (5, i_bl (j - 100), .inl (fun k => (a_byt.getD (j - 100) []).getD k 0))) else none
def i_h0 (L : Nat) (xs : Nat → Int32) (fv : Value) : aH := (0, 0, fun i => if i < aRO then none else i_ro L xs fv (i - aRO))
/-- WHAT IS LEFT: the abstract machine's run of the law answers 1 -/
def pure_law : Prop := ∀ (L : Nat) (xs : Nat → Int32) (fv : Value), L ≤ 3584 → (fv = .null ∨ fv = .ref (aRO + 70)) →
  wp 11 mL_law 0 [some (.ref (aRO + 60)), none, none, none] [] (i_h0 L xs fv) (fun v h => v = some (.int 1) ∧ h.1 ≤ room_1.cells ∧ h.2.1 ≤ room_1.slots)
def i_tm (i : Nat) : Term := .string (a_str.getD i ("", 0, "")).1 (a_str.getD i ("", 0, "")).2.1
abbrev i_F : List Jvm.Cond := flatC (Jvm.Cond.and given_1 narrow_1)
def i_blk (i : Nat) : List Jvm.Cond := [Cond.exactly (i_tm i) "java/lang/String", Cond.eq (.field (i_tm i) "java/lang/String" "coder" "B") (.int 0), Cond.arrayOf (.field (i_tm i) "java/lang/String" "value" "[B") .byte, Cond.eq (.length (.field (i_tm i) "java/lang/String" "value" "[B")) (.int (Int32.ofNat (i_bl i)))] ++ ((List.range (i_bl i)).map (fun j => Cond.eq (.elem (.field (i_tm i) "java/lang/String" "value" "[B") (.int (Int32.ofNat j))) (.int ((a_byt.getD i []).getD j 0))) ++ (List.range i).map (fun j => Cond.not (Cond.eq (i_tm j) (i_tm i))))
set_option maxRecDepth 100000 in
theorem i_all : (i_F.drop 9 == (List.range 16).flatMap i_blk) = true := by decide +kernel
theorem i_in {i : Nat} (h : i < 16) {w : Jvm.Cond} (hw : w ∈ i_blk i) : w ∈ i_F := by
  have h1 : i_F.drop 9 = (List.range 16).flatMap i_blk := by simpa using i_all
  refine List.mem_of_mem_drop (i := 9) ?_
  rw [h1]
  exact List.mem_flatMap.mpr ⟨i, List.mem_range.mpr h, hw⟩
theorem i_n1 : ∀ i, i < 16 → Cond.exactly (i_tm i) "java/lang/String" ∈ i_F ∧ Cond.eq (.field (i_tm i) "java/lang/String" "coder" "B") (.int 0) ∈ i_F ∧ Cond.arrayOf (.field (i_tm i) "java/lang/String" "value" "[B") .byte ∈ i_F ∧ Cond.eq (.length (.field (i_tm i) "java/lang/String" "value" "[B")) (.int (Int32.ofNat (i_bl i))) ∈ i_F :=
  fun i h => ⟨i_in h (List.mem_append_left _ (List.mem_of_getElem? (i := 0) rfl)), i_in h (List.mem_append_left _ (List.mem_of_getElem? (i := 1) rfl)), i_in h (List.mem_append_left _ (List.mem_of_getElem? (i := 2) rfl)), i_in h (List.mem_append_left _ (List.mem_of_getElem? (i := 3) rfl))⟩
theorem i_n2 : ∀ i, i < 16 → ∀ j, j < i_bl i → Cond.eq (.elem (.field (i_tm i) "java/lang/String" "value" "[B") (.int (Int32.ofNat j))) (.int ((a_byt.getD i []).getD j 0)) ∈ i_F :=
  fun i h j hj => i_in h (List.mem_append_right _ (List.mem_append_left _ (List.mem_map.mpr ⟨j, List.mem_range.mpr hj, rfl⟩)))
theorem i_n3 : ∀ i, i < 16 → ∀ j, j < 16 → i ≠ j → Cond.not (Cond.eq (i_tm i) (i_tm j)) ∈ i_F ∨ Cond.not (Cond.eq (i_tm j) (i_tm i)) ∈ i_F := by
  intro i hi j hj hij
  rcases Nat.lt_or_gt_of_ne hij with h | h
  · exact Or.inl (i_in hj (List.mem_append_right _ (List.mem_append_right _ (List.mem_map.mpr ⟨i, List.mem_range.mpr h, rfl⟩))))
  · exact Or.inr (i_in hi (List.mem_append_right _ (List.mem_append_right _ (List.mem_map.mpr ⟨j, List.mem_range.mpr h, rfl⟩))))
theorem i_n4 : Cond.eq (.static "java/lang/String" "COMPACT_STRINGS" "Z") (.int 1) ∈ i_F ∧ Cond.isRef (.static "jdk/internal/util/Preconditions" "SIOOBE_FORMATTER" "Ljava/util/function/BiFunction;") ∈ i_F := by
  have h : (i_F[4]? == some (Cond.eq (.static "java/lang/String" "COMPACT_STRINGS" "Z") (.int 1)) && i_F[5]? == some (Cond.isRef (.static "jdk/internal/util/Preconditions" "SIOOBE_FORMATTER" "Ljava/util/function/BiFunction;"))) = true := by decide +kernel
  simp only [Bool.and_eq_true, beq_iff_eq] at h
  exact ⟨List.mem_of_getElem? h.1, List.mem_of_getElem? h.2⟩
set_option maxRecDepth 100000 in
theorem i_n5b : (a_pw 418 (.laysStatic "java/lang/String" "COMPACT_STRINGS" "Z") && a_pw 92 (.initialized "java/lang/String") && a_pw 522 (.laysStatic "jdk/internal/util/Preconditions" "SIOOBE_FORMATTER" "Ljava/util/function/BiFunction;") && a_pw 95 (.initialized "jdk/internal/util/Preconditions") && a_pw 254 (.arrayOver (.object "SumsInWords$State")) && a_pw 381 (.arrayOver (.object "SumsInWords$Sentence"))) = true := by decide +kernel
theorem i_n5 : Cond.laysStatic "java/lang/String" "COMPACT_STRINGS" "Z" ∈ lw_tbl ∧ Cond.initialized "java/lang/String" ∈ lw_tbl ∧ Cond.laysStatic "jdk/internal/util/Preconditions" "SIOOBE_FORMATTER" "Ljava/util/function/BiFunction;" ∈ lw_tbl ∧ Cond.initialized "jdk/internal/util/Preconditions" ∈ lw_tbl ∧ Cond.arrayOver (.object "SumsInWords$State") ∈ lw_tbl ∧ Cond.arrayOver (.object "SumsInWords$Sentence") ∈ lw_tbl := by
  have h := i_n5b
  simp only [Bool.and_eq_true] at h
  obtain ⟨⟨⟨⟨⟨h1, h2⟩, h3⟩, h4⟩, h5⟩, h6⟩ := h
  exact ⟨a_pw_of h1, a_pw_of h2, a_pw_of h3, a_pw_of h4, a_pw_of h5, a_pw_of h6⟩
def i_pI : List Nat := [205, 140, 369, 322, 256, 375, 188, 108, 114, 316, 100, 1008]
set_option maxRecDepth 100000 in
theorem i_n6b : (List.range 12).all (fun c => a_pw (i_pI.getD c 0) (.instantiable (a_nm c) (a_N c))) = true := by decide +kernel
theorem i_n6 : ∀ c, c < 12 → Cond.instantiable (a_nm c) (a_N c) ∈ lw_tbl := fun c h => a_pw_of (List.all_eq_true.mp i_n6b c (List.mem_range.mpr h))
theorem i_bl31 : ∀ i, i < 16 → i_bl i < 2 ^ 31 := by decide +kernel
theorem i_len (i : Nat) (h : i < 16) : ((List.range 16).map i_bl).getD i 0 = i_bl i := by
  match i, h with
  | 0, _ => rfl | 1, _ => rfl | 2, _ => rfl | 3, _ => rfl | 4, _ => rfl | 5, _ => rfl | 6, _ => rfl | 7, _ => rfl | 8, _ => rfl | 9, _ => rfl | 10, _ => rfl | 11, _ => rfl | 12, _ => rfl | 13, _ => rfl | 14, _ => rfl | 15, _ => rfl
  | n + 16, h => exact absurd h (by omega)
