/-! ===== pure words ===== -/
def p_lim (v : Int32) : Int32 := if 1 ≤ v then v else -2
def p_rem (a b : Int32) : Int32 := a - a / b * b
def p_ans (s x y z : Int32) : Int32 := p_lim (if s = 0 then x + y else if s = 1 then x - y else if s = 2 then (if p_rem x y = 0 then x / y else 0) else if s = 3 then x * y else if s = 4 then x + y else if s = 5 then 2 * x + y else if s = 6 then x - y else (if p_rem (x + y) z = 0 then (x + y) / z else 0))
/-- no divisor is 0 -/
def p_sf (s y z : Int32) : Prop := (s = 2 → ¬ y = 0) ∧ (¬ s = 0 → ¬ s = 1 → ¬ s = 2 → ¬ s = 3 → ¬ s = 4 → ¬ s = 5 → ¬ s = 6 → ¬ z = 0)
/-- what a way tells -/
def p_way (w s x y z i : Int32) : Int32 := if w = 0 then x + y else if w = 1 then (if y < x then x - y else y - x) else if w = 2 then x * y else if w = 3 then x + y + z + i else if w = 4 then (if (if (if y < x then x else y) < z then z else if y < x then x else y) < i then i else if (if y < x then x else y) < z then z else if y < x then x else y) else p_ans s x y z + i
def p_tem (bits w s id : Int32) : Bool := if (bits >>> (w &&& 31)) &&& 1 = 0 then false else if w = 0 then !(s = 0) && !(s = 4) else if w = 1 then !(s = 1) && !(s = 6) else if w = 2 then !(s = 3) else if w = 3 then !(id < 0) || (!(s = 0) && !(s = 4)) else if w = 4 then true else !(id < 0)
def p_right (s x y z most : Int32) : Bool := decide (0 < p_ans s x y z) && decide (p_ans s x y z ≤ most) && (decide (s = 3) || decide (x ≤ most)) && (decide (s = 2) || decide (y ≤ most)) && ((!decide (s = 7) && !decide (s = 5)) || decide (x + y ≤ most))
/-- A .. H are 0 .. 7, P .. S are 8 .. 11 -/
def p_kind (s k : Int32) : Int32 := if s = 0 then (if k = 0 then 0 else if k = 1 then 2 else 8) else if s = 1 then (if k = 0 then 0 else if k = 1 then 3 else 8) else if s = 2 then (if k = 0 then 0 else if k = 1 then 4 else 9) else if s = 3 then (if k = 0 then 1 else if k = 1 then 5 else 8) else if s = 4 then (if k = 0 then 0 else if k = 1 then 6 else 8) else if s = 5 then (if k = 0 then 0 else if k = 1 then 6 else 10) else if s = 6 then (if k = 0 then 2 else if k = 1 then 7 else 11) else (if k = 0 then 0 else if k = 1 then 2 else if k = 2 then 4 else 9)
/-- a way's number is unlike those ahead of it -/
def p_inn (T : Nat → Bool) (W : Nat → Int32) (a b : Nat) : Bool := decide (∀ v, v < a → b ≤ v → T v = true → W v ≠ W a)
/-- all tempting numbers from a on are unlike the answer and those ahead -/
def p_unl (T : Nat → Bool) (W : Nat → Int32) (A : Int32) (a : Nat) : Bool := (List.range 6).all (fun w => decide (w < a) || !T w || (decide (W w ≠ A) && p_inn T W w 0))
theorem p_unl_s {T : Nat → Bool} {W : Nat → Int32} {A : Int32} {a : Nat} (ha : a < 6) : p_unl T W A a = ((!T a || (decide (W a ≠ A) && p_inn T W a 0)) && p_unl T W A (a + 1)) := by
  unfold p_unl
  rw [Bool.eq_iff_iff]
  simp only [List.all_eq_true, Bool.and_eq_true, Bool.or_eq_true, decide_eq_true_eq, List.mem_range]
  constructor
  · intro q
    refine ⟨?_, fun w hw => ?_⟩
    · rcases q a ha with (h | h) | h
      · omega
      · exact Or.inl h
      · exact Or.inr h
    · rcases q w hw with (h | h) | h
      · exact Or.inl (Or.inl (by omega))
      · exact Or.inl (Or.inr h)
      · exact Or.inr h
  · rintro ⟨q1, q2⟩ w hw
    by_cases hwa : w = a
    · subst hwa
      rcases q1 with h | h
      · exact Or.inl (Or.inr h)
      · exact Or.inr h
    · rcases q2 w hw with (h | h) | h
      · exact Or.inl (Or.inl (by omega))
      · exact Or.inl (Or.inr h)
      · exact Or.inr h
