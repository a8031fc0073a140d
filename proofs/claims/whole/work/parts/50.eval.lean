theorem e_clrI {x : Int32} : a_clr (some (.int x)) = some (.int x) := rfl
theorem e_clrR {x : Nat} : a_clr (some (.ref x)) = some (.ref x) := rfl
theorem e_clrU : a_clr (some .null) = some .null := rfl
theorem e_clrN : a_clr none = none := rfl
theorem e_clrL {x : Int64} : a_clr (some (.long x)) = none := rfl
theorem e_s0 : (a_sum [] ≤ 8) ↔ True := ⟨fun _ => trivial, fun _ => by decide⟩
theorem e_cat (v : Value) : v.category ≤ 2 := by cases v <;> simp [Value.category]
theorem e_s1 {v : Value} : (a_sum [v] ≤ 8) ↔ True := ⟨fun _ => trivial, fun _ => by have := e_cat v; simp only [a_sum, List.map_cons, List.map_nil, List.sum_cons, List.sum_nil]; omega⟩
theorem e_s2 {v w : Value} : (a_sum [v, w] ≤ 8) ↔ True := ⟨fun _ => trivial, fun _ => by have := e_cat v; have := e_cat w; simp only [a_sum, List.map_cons, List.map_nil, List.sum_cons, List.sum_nil]; omega⟩
theorem e_s3 {v w u : Value} : (a_sum [v, w, u] ≤ 8) ↔ True := ⟨fun _ => trivial, fun _ => by have := e_cat v; have := e_cat w; have := e_cat u; simp only [a_sum, List.map_cons, List.map_nil, List.sum_cons, List.sum_nil]; omega⟩
theorem e_s4 {v w u t : Value} : (a_sum [v, w, u, t] ≤ 8) ↔ True := ⟨fun _ => trivial, fun _ => by have := e_cat v; have := e_cat w; have := e_cat u; have := e_cat t; simp only [a_sum, List.map_cons, List.map_nil, List.sum_cons, List.sum_nil]; omega⟩
theorem e_z0 : (narrow .boolean (.int 0) = .int 0) ↔ True := ⟨fun _ => trivial, fun _ => by decide⟩
theorem e_z1 : (narrow .boolean (.int 1) = .int 1) ↔ True := ⟨fun _ => trivial, fun _ => by decide⟩
theorem e_f0 : (fits .boolean (.int 0) = true) ↔ True := ⟨fun _ => trivial, fun _ => by decide⟩
theorem e_f1 : (fits .boolean (.int 1) = true) ↔ True := ⟨fun _ => trivial, fun _ => by decide⟩
theorem e_zi {c : Prop} (_ : Decidable c) : (narrow .boolean (.int (if c then 1 else 0)) = .int (if c then 1 else 0)) ↔ True := ⟨fun _ => trivial, fun _ => by split <;> decide⟩
theorem e_tl {v : Value} {st : List Value} : (some v).toList ++ st = v :: st := rfl
theorem e_tn {st : List Value} : (none : Option Value).toList ++ st = st := rfl

theorem e_q0 {c : Prop} {_ : Decidable c} : ((if c then (0 : Int32) else 1) = 0) ↔ c := by split <;> simp_all
theorem e_q1 {c : Prop} {_ : Decidable c} : ((if c then (1 : Int32) else 0) = 0) ↔ ¬ c := by split <;> simp_all
theorem e_zj {c : Prop} {_ : Decidable c} : (narrow .boolean (.int (if c then 0 else 1)) = .int (if c then 0 else 1)) ↔ True := ⟨fun _ => trivial, fun _ => by split <;> decide⟩
