/-! ===== the class's walk: the rest of the list ===== -/
abbrev wT (al : Nat → Int32) (w : Nat) : Bool := p_tem (al 8) (nI w) (al 2) (al 6)
abbrev wW (al : Nat → Int32) (x y z i w : Nat) : Int32 := p_way (nI w) (al 2) (nI x) (nI y) (nI z) (nI i)
abbrev wA (al : Nat → Int32) (x y z : Nat) : Int32 := p_ans (al 2) (nI x) (nI y) (nI z)
/-- does a sum fit, whatever I is -/
def w_su (al : Nat → Int32) (x y z : Nat) : Bool := q_zr al x y z && k_unr (wT al) (wW al x y z 0) (wA al x y z) 0 2
/-- does I fit then -/
def w_id (al : Nat → Int32) (x y z i : Nat) : Bool := (decide (al 6 < 0) || !decide (al (22 + al 7).toNatClampNeg < nI i)) && k_unr (wT al) (wW al x y z i) (wA al x y z) 3 5
theorem wW_3 {al : Nat → Int32} {x y z i j w : Nat} (h : w < 3) : wW al x y z i w = wW al x y z j w := by
  have : w = 0 ∨ w = 1 ∨ w = 2 := by omega
  rcases this with rfl | rfl | rfl <;> rfl
theorem k_unr_c {T : Nat → Bool} {V W : Nat → Int32} {A : Int32} {a t : Nat} (h : ∀ v, v < t + 1 → V v = W v) : k_unr T V A a t = k_unr T W A a t := by
  unfold k_unr
  rw [Bool.eq_iff_iff]
  simp only [decide_eq_true_eq]
  constructor
  · intro q w h1 h2 h3
    have := q w h1 h2 h3
    rw [h w h1] at this
    exact ⟨this.1, by rw [← p_inn_c (fun v hv _ => h v (by omega)) h3]; exact this.2⟩
  · intro q w h1 h2 h3
    have := q w h1 h2 h3
    rw [← h w h1] at this
    exact ⟨this.1, by rw [p_inn_c (fun v hv _ => h v (by omega)) h3]; exact this.2⟩
theorem p_unl_36 {T : Nat → Bool} {W : Nat → Int32} {A : Int32} : p_unl T W A 0 = (k_unr T W A 0 2 && k_unr T W A 3 5) := by
  unfold p_unl k_unr
  rw [Bool.eq_iff_iff]
  simp only [List.all_eq_true, Bool.and_eq_true, Bool.or_eq_true, decide_eq_true_eq, List.mem_range, Bool.not_eq_true']
  constructor
  · intro q
    refine ⟨fun w h1 h2 h3 => ?_, fun w h1 h2 h3 => ?_⟩
    all_goals
      rcases q w (by omega) with (h | h) | h
      · omega
      · rw [h] at h3; cases h3
      · exact h
  · rintro ⟨q1, q2⟩ w hw
    cases hT : T w with
    | false => exact Or.inl (Or.inr rfl)
    | true =>
      refine Or.inr ?_
      rcases Nat.lt_or_ge w 3 with h | h
      · exact q1 w h (by omega) hT
      · exact q2 w (by omega) h hT
/-- what comes behind a place -/
def q_rest (al : Nat → Int32) (b : Nat → Nat) (x y z ni : Nat) : List (Nat × Nat × Nat × Nat) :=
  (if w_su al x y z then ((List.range' ni (b 7 + 1 - ni)).filter (w_id al x y z)).map (fun i => (x, y, z, i)) else []) ++ (q_z al (b 6) (b 7) x y (z + 1) (b 5 - z) ++ (q_y al (b 4) (b 5) (b 6) (b 7) x (y + 1) (b 3 - y) ++ q_x al (b 2) (b 3) (b 4) (b 5) (b 6) (b 7) (x + 1) (b 1 - x)))
theorem q_i_w {al : Nat → Int32} {li hi x y z : Nat} : (if q_zr al x y z then q_i al li hi x y z else []) = if w_su al x y z then ((List.range' li (hi + 1 - li)).filter (w_id al x y z)).map (fun i => (x, y, z, i)) else [] := by
  have hp : ∀ i, p_idl al x y z i = (k_unr (wT al) (wW al x y z 0) (wA al x y z) 0 2 && w_id al x y z i) := by
    intro i
    unfold p_idl w_id
    rw [p_unl_36, k_unr_c (V := fun v => p_way (nI v) (al 2) (nI x) (nI y) (nI z) (nI i)) (W := wW al x y z 0) (t := 2) (fun v h => wW_3 h)]
    cases k_unr (wT al) (wW al x y z 0) (wA al x y z) 0 2 <;> simp
  unfold q_i q_fits w_su
  cases hz : q_zr al x y z
  · simp
  · cases hk : k_unr (wT al) (wW al x y z 0) (wA al x y z) 0 2
    · have : (List.range' li (hi + 1 - li)).filter (p_idl al x y z) = [] := by
        rw [List.filter_eq_nil_iff]; intro a _; rw [hp, hk]; simp
      rw [this]; simp
    · have : p_idl al x y z = w_id al x y z := by funext i; rw [hp, hk, Bool.true_and]
      rw [this]; simp
theorem q_rest_i {al : Nat → Int32} {b : Nat → Nat} {x y z ni : Nat} (hs : w_su al x y z = true) (hn : ni ≤ b 7) : q_rest al b x y z ni = if w_id al x y z ni then (x, y, z, ni) :: q_rest al b x y z (ni + 1) else q_rest al b x y z (ni + 1) := by
  unfold q_rest
  have : b 7 + 1 - ni = (b 7 + 1 - (ni + 1)) + 1 := by omega
  rw [this, List.range'_succ, List.filter_cons]
  simp only [hs, if_true]
  split <;> simp
theorem q_rest_n {al : Nat → Int32} {b : Nat → Nat} {x y z ni : Nat} (h : w_su al x y z = false ∨ b 7 < ni) : q_rest al b x y z ni = q_z al (b 6) (b 7) x y (z + 1) (b 5 - z) ++ (q_y al (b 4) (b 5) (b 6) (b 7) x (y + 1) (b 3 - y) ++ q_x al (b 2) (b 3) (b 4) (b 5) (b 6) (b 7) (x + 1) (b 1 - x)) := by
  unfold q_rest
  rcases h with h | h
  · simp [h]
  · have : b 7 + 1 - ni = 0 := by omega
    rw [this]
    simp
theorem q_rest_z {al : Nat → Int32} {b : Nat → Nat} {x y z ni : Nat} (h : w_su al x y z = false ∨ b 7 < ni) (hz : z < b 5) : q_rest al b x y z ni = q_rest al b x y (z + 1) (b 6) := by
  rw [q_rest_n h]
  have : b 5 - z = (b 5 - (z + 1)) + 1 := by omega
  rw [this, q_z_s, q_i_w]
  unfold q_rest
  simp only [List.append_assoc]
theorem q_rest_y {al : Nat → Int32} {b : Nat → Nat} {x y z ni : Nat} (h : w_su al x y z = false ∨ b 7 < ni) (hz : b 5 ≤ z) (hy : y < b 3) (hb : b 4 ≤ b 5) : q_rest al b x y z ni = q_rest al b x (y + 1) (b 4) (b 6) := by
  rw [q_rest_n h]
  have h1 : b 5 - z = 0 := by omega
  have h2 : b 3 - y = (b 3 - (y + 1)) + 1 := by omega
  have h3 : b 5 + 1 - b 4 = (b 5 - b 4) + 1 := by omega
  rw [h1, h2, q_y_s, h3, q_z_s, q_i_w]
  unfold q_rest
  simp [q_z]
theorem q_rest_x {al : Nat → Int32} {b : Nat → Nat} {x y z ni : Nat} (h : w_su al x y z = false ∨ b 7 < ni) (hz : b 5 ≤ z) (hy : b 3 ≤ y) (hx : x < b 1) (hb : b 4 ≤ b 5) (hc : b 2 ≤ b 3) : q_rest al b x y z ni = q_rest al b (x + 1) (b 2) (b 4) (b 6) := by
  rw [q_rest_n h]
  have h1 : b 5 - z = 0 := by omega
  have h2 : b 3 - y = 0 := by omega
  have h3 : b 1 - x = (b 1 - (x + 1)) + 1 := by omega
  have h4 : b 3 + 1 - b 2 = (b 3 - b 2) + 1 := by omega
  have h5 : b 5 + 1 - b 4 = (b 5 - b 4) + 1 := by omega
  rw [h1, h2, h3, q_x_s, h4, q_y_s, h5, q_z_s, q_i_w]
  unfold q_rest
  simp [q_z, q_y]
theorem q_rest_0 {al : Nat → Int32} {b : Nat → Nat} {x y z ni : Nat} (h : w_su al x y z = false ∨ b 7 < ni) (hz : b 5 ≤ z) (hy : b 3 ≤ y) (hx : b 1 ≤ x) : q_rest al b x y z ni = [] := by
  rw [q_rest_n h]
  have h1 : b 5 - z = 0 := by omega
  have h2 : b 3 - y = 0 := by omega
  have h3 : b 1 - x = 0 := by omega
  rw [h1, h2, h3]
  simp [q_z, q_y, q_x]
/-- all that fit -/
def q_all (al : Nat → Int32) (b : Nat → Nat) : List (Nat × Nat × Nat × Nat) := q_x al (b 2) (b 3) (b 4) (b 5) (b 6) (b 7) (b 0) (b 1 + 1 - b 0)
theorem q_rest_all {al : Nat → Int32} {b : Nat → Nat} (ha : b 0 ≤ b 1) (hb : b 2 ≤ b 3) (hc : b 4 ≤ b 5) : q_rest al b (b 0) (b 2) (b 4) (b 6) = q_all al b := by
  unfold q_all
  have h3 : b 1 + 1 - b 0 = (b 1 - b 0) + 1 := by omega
  have h4 : b 3 + 1 - b 2 = (b 3 - b 2) + 1 := by omega
  have h5 : b 5 + 1 - b 4 = (b 5 - b 4) + 1 := by omega
  rw [h3, q_x_s, h4, q_y_s, h5, q_z_s, q_i_w]
  unfold q_rest
  simp
