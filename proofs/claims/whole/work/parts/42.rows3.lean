section RY
variable {d : Nat} {y : aM} {pc : Nat} {l : List (Option Value)} {st : List Value} {h : aH} {Q : Option Value → aH → Prop}
theorem r_gs {k j : Nat} (hd : decode y.2.2.1 pc = .ok (.getstatic k, 3)) (hF : a_Gs y.1 k = some j) : wp d y pc l st h Q ↔ w_gf (h.2.2 aST) 30 j (fun v => wp d y (pc + 3) l (v :: st) h Q) := by
  rw [wp_o (fun C => r_st hd C)]
  show w_o d y (a_w true (match a_Gs y.1 k, h.2.2 aST with | some j, some (.inr (30, fs)) => (match fs[j]? with | some v => a_nx (pc + 3) l (v :: st) h | none => none) | _, _ => none)) Q ↔ _
  unfold w_gf
  rw [hF]
  show w_o d y (match some j, h.2.2 aST with | some j, some (.inr (30, fs)) => (match fs[j]? with | some v => a_nx (pc + 3) l (v :: st) h | none => none) | _, _ => none) Q ↔ _
  split
  · rename_i j' fs h1 heq
    cases h1
    rw [heq]
    dsimp only
    cases hv : fs[j]? with
    | none => exact Iff.rfl
    | some v => exact ⟨fun q => ⟨rfl, q⟩, fun q => q.2⟩
  · rename_i hne
    split
    · rename_i cj fs heq
      split
      · constructor
        · exact False.elim
        · rintro ⟨rfl, -⟩
          exact (hne _ _ rfl heq).elim
      · exact Iff.rfl
    · exact Iff.rfl
theorem r_al {i : Instr} {a : Nat} {x : Int32} {t : Nat → Bool} (hd : decode y.2.2.1 pc = .ok (i, 1)) (hi : ∀ C, a_i C y i 1 pc l (.int x :: .ref a :: st) h = a_al t pc l (.int x :: .ref a :: st) h) : wp d y pc l (.int x :: .ref a :: st) h Q ↔ w_al (h.2.2 a) a t x (fun v => wp d y (pc + 1) l (v :: st) h Q) := by
  rw [wp_o (fun C => (r_st hd C).trans (hi C))]
  unfold a_al w_al
  dsimp only
  split
  · rename_i heq
    rw [heq]
    try dsimp only
    split
    · rename_i h3; exact ⟨fun q => ⟨h3, q⟩, fun q => q.2⟩
    · rename_i h3; exact ⟨False.elim, fun q => h3 q.1⟩
  · rename_i hne
    split
    · rename_i heq
      exact (hne _ _ _ heq).elim
    · exact Iff.rfl
theorem r_all {a : Nat} {x : Int32} (hd : decode y.2.2.1 pc = .ok (.laload, 1)) : wp d y pc l (.int x :: .ref a :: st) h Q ↔ w_all (h.2.2 a) x (fun v => wp d y (pc + 1) l (v :: st) h Q) := by
  rw [wp_o (fun C => r_st hd C)]
  show w_o d y (a_all pc l (.int x :: .ref a :: st) h) Q ↔ _
  unfold a_all w_all
  dsimp only
  split
  · rename_i heq
    rw [heq]
    try dsimp only
    split
    · rename_i h3; exact ⟨fun q => ⟨h3, q⟩, fun q => q.2⟩
    · rename_i h3; exact ⟨False.elim, fun q => h3 q.1⟩
  · rename_i hne
    split
    · rename_i heq
      exact (hne _ _ heq).elim
    · exact Iff.rfl
theorem r_alr {a : Nat} {x : Int32} (hd : decode y.2.2.1 pc = .ok (.aaload, 1)) : wp d y pc l (.int x :: .ref a :: st) h Q ↔ w_alr (h.2.2 a) a x (fun v => wp d y (pc + 1) l (v :: st) h Q) := by
  rw [wp_o (fun C => r_st hd C)]
  show w_o d y (a_alr pc l (.int x :: .ref a :: st) h) Q ↔ _
  unfold a_alr w_alr
  dsimp only
  split
  · rename_i heq
    rw [heq]
    try dsimp only
    split
    · rename_i h3; exact ⟨fun q => ⟨h3, q⟩, fun q => q.2⟩
    · rename_i h3; exact ⟨False.elim, fun q => h3 q.1⟩
  · rename_i hne
    split
    · rename_i heq
      exact (hne _ _ _ heq).elim
    · exact Iff.rfl
theorem r_as {a : Nat} {x v : Int32} (hd : decode y.2.2.1 pc = .ok (.iastore, 1)) : wp d y pc l (.int v :: .int x :: .ref a :: st) h Q ↔ w_as h a x v (fun g => wp d y (pc + 1) l st g Q) := by
  rw [wp_o (fun C => r_st hd C)]
  show w_o d y (a_as pc l (.int v :: .int x :: .ref a :: st) h) Q ↔ _
  unfold a_as w_as
  dsimp only
  split
  · rename_i heq
    rw [heq]
    try dsimp only
    split
    · rename_i h3; exact ⟨fun q => ⟨h3, q⟩, fun q => q.2⟩
    · rename_i h3; exact ⟨False.elim, fun q => h3 q.1⟩
  · rename_i hne
    split
    · rename_i heq
      exact (hne _ _ heq).elim
    · exact Iff.rfl
theorem r_asz {a : Nat} {x v : Int32} (hd : decode y.2.2.1 pc = .ok (.bastore, 1)) : wp d y pc l (.int v :: .int x :: .ref a :: st) h Q ↔ w_asz h a x v (fun g => wp d y (pc + 1) l st g Q) := by
  rw [wp_o (fun C => r_st hd C)]
  show w_o d y (a_asz pc l (.int v :: .int x :: .ref a :: st) h) Q ↔ _
  unfold a_asz w_asz
  dsimp only
  split
  · rename_i heq
    rw [heq]
    try dsimp only
    split
    · rename_i h3; exact ⟨fun q => ⟨h3, q⟩, fun q => q.2⟩
    · rename_i h3; exact ⟨False.elim, fun q => h3 q.1⟩
  · rename_i hne
    split
    · rename_i heq
      exact (hne _ _ heq).elim
    · exact Iff.rfl
theorem r_asl {a : Nat} {x : Int32} {v : Int64} (hd : decode y.2.2.1 pc = .ok (.lastore, 1)) : wp d y pc l (.long v :: .int x :: .ref a :: st) h Q ↔ w_asl h a x v (fun g => wp d y (pc + 1) l st g Q) := by
  rw [wp_o (fun C => r_st hd C)]
  show w_o d y (a_asl pc l (.long v :: .int x :: .ref a :: st) h) Q ↔ _
  unfold a_asl w_asl
  dsimp only
  split
  · rename_i heq
    rw [heq]
    try dsimp only
    split
    · rename_i h3; exact ⟨fun q => ⟨h3, q⟩, fun q => q.2⟩
    · rename_i h3; exact ⟨False.elim, fun q => h3 q.1⟩
  · rename_i hne
    split
    · rename_i heq
      exact (hne _ _ heq).elim
    · exact Iff.rfl
theorem r_asr {a b : Nat} {x : Int32} (hd : decode y.2.2.1 pc = .ok (.aastore, 1)) : wp d y pc l (.ref b :: .int x :: .ref a :: st) h Q ↔ w_asr h a b x (fun g => wp d y (pc + 1) l st g Q) := by
  rw [wp_o (fun C => r_st hd C)]
  show w_o d y (a_asr pc l (.ref b :: .int x :: .ref a :: st) h) Q ↔ _
  unfold a_asr w_asr
  dsimp only
  split
  · rename_i heq heq2
    rw [heq, heq2]
    dsimp only
    split
    · rename_i h3; exact ⟨fun q => ⟨h3, q⟩, fun q => q.2⟩
    · rename_i h3; exact ⟨False.elim, fun q => h3 q.1⟩
  · rename_i hne
    split
    · rename_i heq heq2
      exact (hne _ _ _ _ _ heq heq2).elim
    · exact Iff.rfl
theorem r_len {a : Nat} (hd : decode y.2.2.1 pc = .ok (.arraylength, 1)) : wp d y pc l (.ref a :: st) h Q ↔ w_len (h.2.2 a) a (fun v => wp d y (pc + 1) l (v :: st) h Q) := by
  rw [wp_o (fun C => r_st hd C)]
  show w_o d y (a_len pc l (.ref a :: st) h) Q ↔ _
  unfold a_len w_len
  dsimp only
  split
  · rename_i heq
    rw [heq]
    try dsimp only
    split
    · rename_i h3; exact ⟨fun q => ⟨h3, q⟩, fun q => q.2⟩
    · rename_i h3; exact ⟨False.elim, fun q => h3 q.1⟩
  · rename_i hne
    split
    · rename_i heq
      exact (hne _ _ _ heq).elim
    · exact Iff.rfl
theorem r_nw {k ci : Nat} (hd : decode y.2.2.1 pc = .ok (.new k, 3)) (hC : a_C y.1 k = some ci) : wp d y pc l st h Q ↔ (h.1 < aRO ∧ wp d y (pc + 3) l (.ref h.1 :: st) (a_new h (a_N ci) (.inr (ci, a_df ci))) Q) := by
  rw [wp_o (fun C => r_st hd C)]
  show w_o d y (a_nw y k pc l st h) Q ↔ _
  unfold a_nw
  rw [hC]
  dsimp only
  split
  · rename_i h3; exact ⟨False.elim, fun q => absurd q.1 (by omega)⟩
  · rename_i h3; exact ⟨fun q => ⟨by omega, q⟩, fun q => q.2⟩
theorem r_na {tt : ArrayType} {n : Int32} {c0 : va_E} (hd : decode y.2.2.1 pc = .ok (.newarray tt, 2)) (hc : (match tt with | .int => some (.inl (0, n.toNatClampNeg, .inl (fun _ => 0))) | .long => some (.inl (1, n.toNatClampNeg, .inr (.inl (fun _ => 0)))) | .boolean => some (.inl (2, n.toNatClampNeg, .inl (fun _ => 0))) | _ => (none : Option va_E)) = some c0) : wp d y pc l (.int n :: st) h Q ↔ (¬ (n < 0 ∨ 10000 < n.toNatClampNeg ∨ aRO ≤ h.1) ∧ wp d y (pc + 2) l (.ref h.1 :: st) (a_new h n.toNatClampNeg c0) Q) := by
  rw [wp_o (fun C => r_st hd C)]
  show w_o d y (a_na tt pc l (.int n :: st) h) Q ↔ _
  unfold a_na
  dsimp only
  split
  · rename_i h3; exact ⟨False.elim, fun q => absurd h3 q.1⟩
  · rename_i h3
    cases tt <;> cases hc <;> exact ⟨fun q => ⟨h3, q⟩, fun q => q.2⟩
theorem r_nr {k t : Nat} {n : Int32} (hd : decode y.2.2.1 pc = .ok (.anewarray k, 3)) (hC : a_A y.1 k = some t) : wp d y pc l (.int n :: st) h Q ↔ (¬ (n < 0 ∨ 10000 < n.toNatClampNeg ∨ aRO ≤ h.1) ∧ wp d y (pc + 3) l (.ref h.1 :: st) (a_new h n.toNatClampNeg (.inl (t, n.toNatClampNeg, .inr (.inr (.inr (.inr (fun _ => none))))))) Q) := by
  rw [wp_o (fun C => r_st hd C)]
  show w_o d y (a_nr y k pc l (.int n :: st) h) Q ↔ _
  unfold a_nr
  rw [hC]
  dsimp only
  split
  · rename_i h3; exact ⟨False.elim, fun q => absurd h3 q.1⟩
  · rename_i h3; exact ⟨fun q => ⟨h3, q⟩, fun q => q.2⟩
/-- returns -/
theorem r_ri {v : Int32} (hd : decode y.2.2.1 pc = .ok (.ireturn, 1)) (hr : y.2.2.2.2 = some .int) : wp d y pc l [.int v] h Q ↔ Q (some (.int v)) h := wp_rt (r := (some (.int v), h)) (fun C => by rw [r_st hd]; show a_w true (a_rt y [.int v] h) = _; unfold a_rt a_w; rw [hr]; exact (if_pos rfl).trans (if_pos (show narrow .int (.int v) = .int v from rfl)))
theorem r_rz {v : Int32} {ty : FieldType} (hd : decode y.2.2.1 pc = .ok (.ireturn, 1)) (hr : y.2.2.2.2 = some ty) : wp d y pc l [.int v] h Q ↔ (narrow ty (.int v) = .int v ∧ Q (some (.int v)) h) := by
  rw [wp_o (fun C => r_st hd C)]
  show w_o d y (a_w true (a_rt y [.int v] h)) Q ↔ _
  unfold a_rt
  rw [hr]
  dsimp only [a_w, if_true]
  simp only [if_true]
  split
  · rename_i h3; exact ⟨fun q => ⟨h3, q⟩, fun q => q.2⟩
  · rename_i h3; exact ⟨False.elim, fun q => absurd q.1 h3⟩
theorem r_rl {v : Int64} (hd : decode y.2.2.1 pc = .ok (.lreturn, 1)) (hr : y.2.2.2.2 = some .long) : wp d y pc l [.long v] h Q ↔ Q (some (.long v)) h := wp_rt (r := (some (.long v), h)) (fun C => by rw [r_st hd]; show a_w true (match [Value.long v], y.2.2.2.2 with | [.long v], some .long => some (.inr (some (.long v), h)) | _, _ => none) = _; rw [hr]; rfl)
theorem r_ra {v : Nat} {n : String} (hd : decode y.2.2.1 pc = .ok (.areturn, 1)) (hr : y.2.2.2.2 = some (.object n)) : wp d y pc l [.ref v] h Q ↔ Q (some (.ref v)) h := wp_rt (r := (some (.ref v), h)) (fun C => by rw [r_st hd]; show a_w true (match [Value.ref v], y.2.2.2.2 with | [.ref v], some (.object _) => some (.inr (some (.ref v), h)) | _, _ => none) = _; rw [hr]; rfl)
theorem r_rv (hd : decode y.2.2.1 pc = .ok (.return_, 1)) (hr : y.2.2.2.2 = none) : wp d y pc l [] h Q ↔ Q none h := wp_rt (r := (none, h)) (fun C => by rw [r_st hd]; show a_w true (match ([] : List Value), y.2.2.2.2 with | [], none => some (.inr (none, h)) | _, _ => none) = _; rw [hr]; rfl)
/-- calls -/
theorem w_rc_iff {b ci : Nat} : a_rc h b ci = true ↔ w_rc (h.2.2 b) ci := by
  unfold a_rc w_rc
  cases hc : h.2.2 b with
  | none => simp
  | some e => cases e with
    | inl x => simp
    | inr x => simp
theorem r_go {z : aM} {as rest st0 : List Value} {kd np : Nat} {P : Prop} (hP : ∀ C, P → a_step C y (pc, l, st0, h) = a_go C (kd, np, z) as rest h pc l) (hN : ¬ P → ∀ C, a_step C y (pc, l, st0, h) = none) (h1 : (a_en as).length ≤ z.2.2.2.1 ∧ z.2.2.2.1 ≤ 18) : wp (d + 1) y pc l st0 h Q ↔ (P ∧ a_sum rest ≤ 8 ∧ wp d z 0 (a_ent as z.2.2.2.1) [] h (fun v g => wp (d + 1) y (pc + 3) l (v.toList ++ rest) g Q)) := by
  by_cases hp : P
  · by_cases h8 : a_sum rest ≤ 8
    · rw [wp_cl (z := z) (as := as) (rest := rest) (fun C => by
        rw [hP C hp]
        unfold a_go
        rw [if_neg (by dsimp only; omega)])]
      exact ⟨fun q => ⟨hp, h8, q⟩, fun q => q.2.2⟩
    · rw [wp_no (fun C => by
        rw [hP C hp]
        unfold a_go
        rw [if_pos (Or.inl (by omega))])]
      exact ⟨False.elim, fun q => absurd q.2.1 h8⟩
  · rw [wp_no (hN hp)]
    exact ⟨False.elim, fun q => absurd q.1 hp⟩
theorem r_iv {z : aM} {as rest st0 : List Value} {k kd np b : Nat} (hd : decode y.2.2.1 pc = .ok (.invokevirtual k, 3)) (hM : a_Mt y.1 k = some (kd, np, z)) (hk : kd < 2) (hs : st0.drop np = .ref b :: rest) (hl : np ≤ st0.length) (ha : .ref b :: (st0.take np).reverse = as) (h1 : (a_en as).length ≤ z.2.2.2.1 ∧ z.2.2.2.1 ≤ 18) : wp (d + 1) y pc l st0 h Q ↔ (w_rc (h.2.2 b) z.1 ∧ a_sum rest ≤ 8 ∧ wp d z 0 (a_ent as z.2.2.2.1) [] h (fun v g => wp (d + 1) y (pc + 3) l (v.toList ++ rest) g Q)) := by
  rw [← w_rc_iff]
  have e0 : ∀ C, a_step C y (pc, l, st0, h) = if kd < 2 ∧ np ≤ st0.length ∧ a_rc h b z.1 = true then a_go C (kd, np, z) as rest h pc l else none := fun C => by
    rw [r_st hd]
    show a_w true (a_iv C y k pc l st0 h) = _
    unfold a_iv
    rw [hM]
    simp only [hs, ha, a_w, if_true]
  exact r_go (P := a_rc h b z.1 = true) (fun C hp => by rw [e0, if_pos ⟨hk, hl, hp⟩]) (fun hp C => by rw [e0, if_neg (fun q => hp q.2.2)]) h1
theorem r_is {z : aM} {as st0 : List Value} {k kd np : Nat} (hd : decode y.2.2.1 pc = .ok (.invokestatic k, 3)) (hM : a_Mt y.1 k = some (kd, np, z)) (hk : kd = 2 ∨ kd = 3) (hl : np ≤ st0.length) (ha : (st0.take np).reverse = as) (h1 : (a_en as).length ≤ z.2.2.2.1 ∧ z.2.2.2.1 ≤ 18) : wp (d + 1) y pc l st0 h Q ↔ (a_sum (st0.drop np) ≤ 8 ∧ wp d z 0 (a_ent as z.2.2.2.1) [] h (fun v g => wp (d + 1) y (pc + 3) l (v.toList ++ st0.drop np) g Q)) := by
  have e0 : ∀ C, a_step C y (pc, l, st0, h) = a_go C (kd, np, z) as (st0.drop np) h pc l := fun C => by
    rw [r_st hd]
    show a_w true (a_is C y k pc l st0 h) = _
    unfold a_is
    rw [hM]
    dsimp only
    rw [if_neg (by omega), if_neg (by omega), if_pos ⟨hk, hl⟩, ha]
    rfl
  have := r_go (d := d) (Q := Q) (P := True) (fun C _ => e0 C) (fun hp => absurd trivial hp) h1
  rw [this]
  exact ⟨fun q => q.2, fun q => ⟨trivial, q⟩⟩
theorem r_ip {z : aM} {as rest st0 : List Value} {k kd np b : Nat} (hd : decode y.2.2.1 pc = .ok (.invokespecial k, 3)) (hM : a_Mt y.1 k = some (kd, np, z)) (hk : kd = 4 ∨ kd = 5) (hs : st0.drop np = .ref b :: rest) (hl : np ≤ st0.length) (ha : .ref b :: (st0.take np).reverse = as) (h1 : (a_en as).length ≤ z.2.2.2.1 ∧ z.2.2.2.1 ≤ 18) : wp (d + 1) y pc l st0 h Q ↔ (a_sum rest ≤ 8 ∧ wp d z 0 (a_ent as z.2.2.2.1) [] h (fun v g => wp (d + 1) y (pc + 3) l (v.toList ++ rest) g Q)) := by
  have e0 : ∀ C, a_step C y (pc, l, st0, h) = a_go C (kd, np, z) as rest h pc l := fun C => by
    rw [r_st hd]
    show a_w true (a_ip C y k pc l st0 h) = _
    unfold a_ip
    rw [hM]
    simp only [hs, a_w, if_true]
    rw [if_neg (by omega), if_pos ⟨hk, hl⟩, ha]
  have := r_go (d := d) (Q := Q) (P := True) (fun C _ => e0 C) (fun hp => absurd trivial hp) h1
  rw [this]
  exact ⟨fun q => q.2, fun q => ⟨trivial, q⟩⟩
theorem r_oi {k b : Nat} {z : aM} (hd : decode y.2.2.1 pc = .ok (.invokespecial k, 3)) (hM : a_Mt y.1 k = some (6, 0, z)) : wp d y pc l (.ref b :: st) h Q ↔ (a_sum st ≤ 8 ∧ wp d y (pc + 3) l st h Q) := by
  rw [wp_o (x := if a_sum st ≤ 8 then some (.inl (pc + 3, l, st, h)) else none) (fun C => by
    rw [r_st hd]
    show a_w true (a_ip C y k pc l (.ref b :: st) h) = _
    unfold a_ip
    rw [hM]
    simp only [List.drop_zero, a_w, if_true]
    by_cases h8 : a_sum st ≤ 8
    · rw [if_pos ⟨trivial, trivial, h8⟩, if_pos h8]; rfl
    · rw [if_neg (fun q => h8 q.2.2), if_neg (fun q => by omega), if_neg h8])]
  by_cases h8 : a_sum st ≤ 8
  · rw [if_pos h8]
    exact ⟨fun q => ⟨h8, q⟩, fun q => q.2⟩
  · rw [if_neg h8]
    exact ⟨False.elim, fun q => absurd q.1 h8⟩
theorem r_cp {k np : Nat} {z : aM} (hd : decode y.2.2.1 pc = .ok (.invokestatic k, 3)) (hM : a_Mt y.1 k = some (7, np, z)) : wp d y pc l st h Q ↔ w_o d y (a_cpy pc l st h) Q := wp_o (fun C => by
  rw [r_st hd]
  show a_w true (a_is C y k pc l st h) = _
  unfold a_is
  rw [hM]
  rfl)
theorem r_max {k np : Nat} {z : aM} {x v : Int32} (hd : decode y.2.2.1 pc = .ok (.invokestatic k, 3)) (hM : a_Mt y.1 k = some (8, np, z)) : wp d y pc l (.int v :: .int x :: st) h Q ↔ (a_sum st ≤ 8 ∧ wp d y (pc + 3) l (.int (if x < v then v else x) :: st) h Q) := by
  rw [wp_o (x := a_mt 8 pc l (.int v :: .int x :: st) h) (fun C => by
    rw [r_st hd]
    show a_w true (a_is C y k pc l (.int v :: .int x :: st) h) = _
    unfold a_is
    rw [hM]
    rfl)]
  unfold a_mt
  dsimp only
  rw [if_neg (by decide)]
  by_cases h8 : a_sum st ≤ 8
  · rw [if_neg (by omega), if_pos rfl]
    exact ⟨fun q => ⟨h8, q⟩, fun q => q.2⟩
  · rw [if_pos (by omega)]
    exact ⟨False.elim, fun q => absurd q.1 h8⟩
theorem r_min {k np : Nat} {z : aM} {x v : Int32} (hd : decode y.2.2.1 pc = .ok (.invokestatic k, 3)) (hM : a_Mt y.1 k = some (9, np, z)) : wp d y pc l (.int v :: .int x :: st) h Q ↔ (a_sum st ≤ 8 ∧ wp d y (pc + 3) l (.int (if v < x then v else x) :: st) h Q) := by
  rw [wp_o (x := a_mt 9 pc l (.int v :: .int x :: st) h) (fun C => by
    rw [r_st hd]
    show a_w true (a_is C y k pc l (.int v :: .int x :: st) h) = _
    unfold a_is
    rw [hM]
    rfl)]
  unfold a_mt
  dsimp only
  rw [if_neg (by decide)]
  by_cases h8 : a_sum st ≤ 8
  · rw [if_neg (by omega), if_neg (by decide), if_pos rfl]
    exact ⟨fun q => ⟨h8, q⟩, fun q => q.2⟩
  · rw [if_pos (by omega)]
    exact ⟨False.elim, fun q => absurd q.1 h8⟩
theorem r_abs {k np : Nat} {z : aM} {v : Int32} (hd : decode y.2.2.1 pc = .ok (.invokestatic k, 3)) (hM : a_Mt y.1 k = some (10, np, z)) : wp d y pc l (.int v :: st) h Q ↔ (a_sum st ≤ 8 ∧ wp d y (pc + 3) l (.int (if 0 ≤ v then v else 0 - v) :: st) h Q) := by
  rw [wp_o (x := a_mt 10 pc l (.int v :: st) h) (fun C => by
    rw [r_st hd]
    show a_w true (a_is C y k pc l (.int v :: st) h) = _
    unfold a_is
    rw [hM]
    rfl)]
  unfold a_mt
  dsimp only
  rw [if_pos rfl]
  by_cases h8 : a_sum st ≤ 8
  · rw [if_pos h8]
    exact ⟨fun q => ⟨h8, q⟩, fun q => q.2⟩
  · rw [if_neg h8]
    exact ⟨False.elim, fun q => absurd q.1 h8⟩
def a_cons : Int → List (Int32 × Nat) → Bool
  | _, [] => true
  | L, q :: ts => decide (q.1.toInt = L) && a_cons (L + 1) ts
theorem w_lk_eq {x : Int32} {K : Nat → Prop} {D : Prop} : ∀ (ts : List (Int32 × Nat)) (L : Int), a_cons L ts = true → ((x.toInt < L ∨ L + ts.length - 1 < x.toInt) → (w_lk x ts K D ↔ D)) ∧ (¬ (x.toInt < L ∨ L + ts.length - 1 < x.toInt) → ∃ t, ts[(x.toInt - L).toNat]? = some t ∧ (w_lk x ts K D ↔ K t.2))
  | [], L, _ => ⟨fun _ => Iff.rfl, fun hn => by simp only [List.length_nil] at hn; omega⟩
  | t :: ts, L, hb => by
    simp only [a_cons, Bool.and_eq_true, decide_eq_true_eq] at hb
    have ih := w_lk_eq (x := x) (K := K) (D := D) ts (L + 1) hb.2
    by_cases hx : x = t.1
    · have hxe : x.toInt = L := by rw [hx, hb.1]
      refine ⟨fun hn => ?_, fun _ => ⟨t, ?_, ?_⟩⟩
      · simp only [List.length_cons] at hn; omega
      · rw [hxe, Int.sub_self]; rfl
      · simp only [w_lk, if_pos hx]
    · have hxe : x.toInt ≠ L := fun q => hx (Int32.toInt_inj.mp (q.trans hb.1.symm))
      simp only [w_lk, if_neg hx, List.length_cons]
      refine ⟨fun hn => ih.1 (by omega), fun hn => ?_⟩
      obtain ⟨t', h2, h3⟩ := ih.2 (by omega)
      refine ⟨t', ?_, h3⟩
      rw [show (x.toInt - L).toNat = (x.toInt - (L + 1)).toNat + 1 by omega]
      exact h2
theorem r_swk {df lo hi : Int} {offs : Array Int} {n dt : Nat} {x : Int32} (ts : List (Int32 × Nat)) (hd : decode y.2.2.1 pc = .ok (.tableswitch df lo hi offs, n)) (hc : a_cons lo ts = true) (hhi : hi = lo + ts.length - 1) (hdt : (pc : Int) + df = (dt : Int)) (hts : offs.toList.map (fun o => (pc : Int) + o) = ts.map (fun t : Int32 × Nat => (t.2 : Int))) : wp d y pc l (.int x :: st) h Q ↔ w_lk x ts (fun t => wp d y t l st h Q) (wp d y dt l st h Q) := by
  have key := w_lk_eq (x := x) (K := fun t => wp d y t l st h Q) (D := wp d y dt l st h Q) ts lo hc
  by_cases hc : x.toInt < lo ∨ hi < x.toInt
  · rw [key.1 (by rw [← hhi]; exact hc)]
    refine wp_nx (fun C => ?_)
    rw [r_st hd]
    show a_sw df lo hi offs pc l (.int x :: st) h = _
    simp only [a_sw]
    rw [if_pos hc]
    exact r_tg hdt
  · obtain ⟨t, h1, h2⟩ := key.2 (by rw [← hhi]; exact hc)
    rw [h2]
    have h3 : (offs.toList.map (fun o => (pc : Int) + o))[(x.toInt - lo).toNat]? = some (t.2 : Int) := by rw [hts, List.getElem?_map, h1]; rfl
    rw [List.getElem?_map, Array.getElem?_toList] at h3
    cases ho : offs[(x.toInt - lo).toNat]? with
    | none => rw [ho] at h3; cases h3
    | some o =>
      rw [ho] at h3
      have h3 : (pc : Int) + o = (t.2 : Int) := Option.some.inj h3
      refine wp_nx (fun C => ?_)
      rw [r_st hd]
      show a_sw df lo hi offs pc l (.int x :: st) h = _
      simp only [a_sw]
      rw [if_neg hc, ho]
      exact r_tg h3
end RY
