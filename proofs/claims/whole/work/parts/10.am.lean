/-! locals by their places; a long stands in one place and leaves the next one empty -/
def a_clr (a : Option Value) : Option Value := match a with
  | some w => if w.category = 2 then none else some w
  | none => none
def a_st : List (Option Value) → Nat → Value → List (Option Value)
  | [], _, _ => []
  | _ :: l, 0, v => some v :: l
  | a :: l, 1, v => a_clr a :: a_st l 0 v
  | a :: l, k + 2, v => a :: a_st l (k + 1) v
def a_un : List (Option Value) → Nat → List (Option Value)
  | [], _ => []
  | _ :: l, 0 => none :: l
  | a :: l, k + 1 => a :: a_un l k
def a_ld : List (Option Value) → Nat → Option Value
  | [], _ => none
  | a :: _, 0 => a
  | _ :: l, k + 1 => a_ld l k
def a_en : List Value → List (Option Value)
  | [] => []
  | v :: vs => if v.category = 2 then some v :: none :: a_en vs else some v :: a_en vs
def a_ent (vs : List Value) (n : Nat) : List (Option Value) := a_en vs ++ List.replicate (n - (a_en vs).length) none
def a_sum (vs : List Value) : Nat := (vs.map fun v => v.category).sum
/-! links -/
def a_F (o i : Nat) : Option (Nat × Nat × Nat) := (a_tF.find? (fun q => q.1 == o && q.2.1 == i)).map (fun q => (q.2.2.1, q.2.2.2.1, q.2.2.2.2.1))
def a_Mt (o i : Nat) : Option aL := (a_tM.find? (fun q => q.1 == o && q.2.1 == i)).map (fun q => (q.2.2.1, q.2.2.2.1, a_m q.2.2.2.2.1))
def a_C (o i : Nat) : Option Nat := (a_tC.find? (fun q => q.1 == o && q.2.1 == i)).map (fun q => q.2.2.1)
def a_A (o i : Nat) : Option Nat := (a_tA.find? (fun q => q.1 == o && q.2.1 == i)).map (fun q => q.2.2.1)
def a_I (o i : Nat) : Option Value := match a_tI.find? (fun q => q.1 == o && q.2.1 == i) with
  | some q => some (.int q.2.2.1)
  | none => (a_tS.find? (fun q => q.1 == o && q.2.1 == i)).map (fun q => .ref (aRO + q.2.2.1))
def a_L (o i : Nat) : Option Int64 := (a_tL.find? (fun q => q.1 == o && q.2.1 == i)).map (fun q => q.2.2.1)
def a_Gs (o i : Nat) : Option Nat := (a_tG.find? (fun q => q.1 == o && q.2.1 == i)).map (fun q => q.2.2.1)
/-- the cell of the statics -/
def aST : Nat := aRO + 50
/-! one step -/
def a_nx (pc : Nat) (l : List (Option Value)) (st : List Value) (h : aH) : Option (aS ⊕ aR) := some (.inl (pc, l, st, h))
def a_gt (pc : Nat) (off : Int) (l : List (Option Value)) (st : List Value) (h : aH) : Option (aS ⊕ aR) :=
  if (pc : Int) + off < 0 then none else some (.inl (((pc : Int) + off).toNat, l, st, h))
def a_ii (f : Int32 → Int32 → Int32) (pc : Nat) (l : List (Option Value)) (st : List Value) (h : aH) : Option (aS ⊕ aR) := match st with
  | .int y :: .int x :: st => a_nx (pc + 1) l (.int (f x y) :: st) h
  | _ => none
def a_ll (f : Int64 → Int64 → Int64) (pc : Nat) (l : List (Option Value)) (st : List Value) (h : aH) : Option (aS ⊕ aR) := match st with
  | .long y :: .long x :: st => a_nx (pc + 1) l (.long (f x y) :: st) h
  | _ => none
def a_li (f : Int64 → Int32 → Int64) (pc : Nat) (l : List (Option Value)) (st : List Value) (h : aH) : Option (aS ⊕ aR) := match st with
  | .int y :: .long x :: st => a_nx (pc + 1) l (.long (f x y) :: st) h
  | _ => none
def a_dv (f : Int32 → Int32 → Int32) (pc : Nat) (l : List (Option Value)) (st : List Value) (h : aH) : Option (aS ⊕ aR) := match st with
  | .int y :: .int x :: st => if y = 0 then none else a_nx (pc + 1) l (.int (f x y) :: st) h
  | _ => none
def a_if (c : Jvm.ClassFile.Cond) (off : Int) (pc : Nat) (l : List (Option Value)) (x y : Int32) (st : List Value) (h : aH) : Option (aS ⊕ aR) := if (pc : Int) + off < 0 then none else match c with
  | .eq => if x = y then a_gt pc off l st h else a_nx (pc + 3) l st h
  | .ne => if x = y then a_nx (pc + 3) l st h else a_gt pc off l st h
  | .lt => if x < y then a_gt pc off l st h else a_nx (pc + 3) l st h
  | .ge => if y ≤ x then a_gt pc off l st h else a_nx (pc + 3) l st h
  | .gt => if y < x then a_gt pc off l st h else a_nx (pc + 3) l st h
  | .le => if x ≤ y then a_gt pc off l st h else a_nx (pc + 3) l st h
def a_lod (i n pc : Nat) (ok : Value → Bool) (l : List (Option Value)) (st : List Value) (h : aH) : Option (aS ⊕ aR) := match a_ld l i with
  | some v => if ok v then a_nx (pc + n) l (v :: st) h else none
  | none => none
def a_sto (i n pc : Nat) (ok : Value → Bool) (l : List (Option Value)) (st : List Value) (h : aH) : Option (aS ⊕ aR) := match st with
  | v :: st => if ok v && decide (i < l.length) then a_nx (pc + n) (a_st l i v) st h else none
  | _ => none
def a_stL (i n pc : Nat) (l : List (Option Value)) (st : List Value) (h : aH) : Option (aS ⊕ aR) := match st with
  | .long v :: st => if i + 1 < l.length then a_nx (pc + n) (a_un (a_st l i (.long v)) (i + 1)) st h else none
  | _ => none
def a_isI (v : Value) : Bool := match v with | .int _ => true | _ => false
def a_isL (v : Value) : Bool := match v with | .long _ => true | _ => false
def a_isR (v : Value) : Bool := match v with | .ref _ => true | .null => true | _ => false
def a_put (h : aH) (a : Nat) (e : va_E) : aH := (h.1, h.2.1, va_up h.2.2 a (some e))
def a_new (h : aH) (n : Nat) (e : va_E) : aH := (h.1 + 1, h.2.1 + n, va_up h.2.2 h.1 (some e))
/-- array of ints: the type by its tag -/
def a_at (t : Nat) : FieldType := match t with
  | 0 => .int
  | 1 => .long
  | 2 => .boolean
  | 3 => .object "SumsInWords$State"
  | 4 => .object "SumsInWords$Sentence"
  | _ => .byte
def a_atc (t : Nat) : Nat := match t with
  | 3 => 7
  | 4 => 3
  | _ => 99
def a_gf (y : aM) (idx pc : Nat) (l : List (Option Value)) (st : List Value) (h : aH) : Option (aS ⊕ aR) := match st with
  | .ref a :: st => match a_F y.1 idx, h.2.2 a with
    | some (ci, k, _), some (.inr (cj, fs)) => match fs[k]? with
      | some v => if ci = cj then a_nx (pc + 3) l (v :: st) h else none
      | none => none
    | _, _ => none
  | _ => none
def a_pf (y : aM) (idx pc : Nat) (l : List (Option Value)) (st : List Value) (h : aH) : Option (aS ⊕ aR) := match st with
  | v :: .ref a :: st => match a_F y.1 idx, h.2.2 a with
    | some (ci, k, kd), some (.inr (cj, fs)) =>
      if ci = cj ∧ kd = 0 ∧ a < aRO ∧ k < fs.length ∧ narrow (a_ty ci k) v = v ∧ fits (a_ty ci k) v = true ∧ ((a_T ci k).2.2.2 = false ∨ (y.2.1.name = "<init>" ∧ y.1 = ci)) then a_nx (pc + 3) l st (a_put h a (.inr (ci, fs.set k v))) else none
    | _, _ => none
  | _ => none
def a_al (t : Nat → Bool) (pc : Nat) (l : List (Option Value)) (st : List Value) (h : aH) : Option (aS ⊕ aR) := match st with
  | .int i :: .ref a :: st => match h.2.2 a with
    | some (.inl (tg, n, .inl f)) => if t tg = true ∧ ¬ (i < 0 ∨ n ≤ i.toNatClampNeg) ∧ (tg ≠ 5 ∨ aRO ≤ a) then a_nx (pc + 1) l (.int (f i.toNatClampNeg) :: st) h else none
    | _ => none
  | _ => none
def a_all (pc : Nat) (l : List (Option Value)) (st : List Value) (h : aH) : Option (aS ⊕ aR) := match st with
  | .int i :: .ref a :: st => match h.2.2 a with
    | some (.inl (1, n, .inr (.inl f))) => if ¬ (i < 0 ∨ n ≤ i.toNatClampNeg) then a_nx (pc + 1) l (.long (f i.toNatClampNeg) :: st) h else none
    | _ => none
  | _ => none
def a_alr (pc : Nat) (l : List (Option Value)) (st : List Value) (h : aH) : Option (aS ⊕ aR) := match st with
  | .int i :: .ref a :: st => match h.2.2 a with
    | some (.inl (tg, n, .inr (.inr (.inr (.inr f))))) => if (tg = 3 ∨ tg = 4) ∧ a < aRO ∧ ¬ (i < 0 ∨ n ≤ i.toNatClampNeg) then a_nx (pc + 1) l (va_rf (f i.toNatClampNeg) :: st) h else none
    | _ => none
  | _ => none
def a_as (pc : Nat) (l : List (Option Value)) (st : List Value) (h : aH) : Option (aS ⊕ aR) := match st with
  | .int x :: .int i :: .ref a :: st => match h.2.2 a with
    | some (.inl (0, n, .inl f)) => if a < aRO ∧ ¬ (i < 0 ∨ n ≤ i.toNatClampNeg) then a_nx (pc + 1) l st (a_put h a (.inl (0, n, .inl (upd f i.toNatClampNeg x)))) else none
    | _ => none
  | _ => none
def a_asz (pc : Nat) (l : List (Option Value)) (st : List Value) (h : aH) : Option (aS ⊕ aR) := match st with
  | .int x :: .int i :: .ref a :: st => match h.2.2 a with
    | some (.inl (2, n, .inl f)) => if a < aRO ∧ ¬ (i < 0 ∨ n ≤ i.toNatClampNeg) then a_nx (pc + 1) l st (a_put h a (.inl (2, n, .inl (upd f i.toNatClampNeg (vp_nar .boolean x))))) else none
    | _ => none
  | _ => none
def a_asl (pc : Nat) (l : List (Option Value)) (st : List Value) (h : aH) : Option (aS ⊕ aR) := match st with
  | .long x :: .int i :: .ref a :: st => match h.2.2 a with
    | some (.inl (1, n, .inr (.inl f))) => if a < aRO ∧ ¬ (i < 0 ∨ n ≤ i.toNatClampNeg) then a_nx (pc + 1) l st (a_put h a (.inl (1, n, .inr (.inl (vp_updL f i.toNatClampNeg x))))) else none
    | _ => none
  | _ => none
def a_asr (pc : Nat) (l : List (Option Value)) (st : List Value) (h : aH) : Option (aS ⊕ aR) := match st with
  | .ref b :: .int i :: .ref a :: st => match h.2.2 a, h.2.2 b with
    | some (.inl (tg, n, .inr (.inr (.inr (.inr f))))), some (.inr (cj, _)) => if (tg = 3 ∨ tg = 4) ∧ a_atc tg = cj ∧ a < aRO ∧ b < aRO ∧ ¬ (i < 0 ∨ n ≤ i.toNatClampNeg) then a_nx (pc + 1) l st (a_put h a (.inl (tg, n, .inr (.inr (.inr (.inr (va_up f i.toNatClampNeg (some b)))))))) else none
    | _, _ => none
  | _ => none
def a_len (pc : Nat) (l : List (Option Value)) (st : List Value) (h : aH) : Option (aS ⊕ aR) := match st with
  | .ref a :: st => match h.2.2 a with
    | some (.inl (tg, n, _)) => if tg < 6 ∧ (a < aRO ∨ tg = 0 ∨ tg = 5) ∧ (aRO ≤ a ∨ tg < 5) then a_nx (pc + 1) l (.int (Int32.ofNat n) :: st) h else none
    | _ => none
  | _ => none
def a_na (t : ArrayType) (pc : Nat) (l : List (Option Value)) (st : List Value) (h : aH) : Option (aS ⊕ aR) := match st with
  | .int n :: st => if n < 0 ∨ 10000 < n.toNatClampNeg ∨ aRO ≤ h.1 then none else match t with
    | .int => a_nx (pc + 2) l (.ref h.1 :: st) (a_new h n.toNatClampNeg (.inl (0, n.toNatClampNeg, .inl (fun _ => 0))))
    | .long => a_nx (pc + 2) l (.ref h.1 :: st) (a_new h n.toNatClampNeg (.inl (1, n.toNatClampNeg, .inr (.inl (fun _ => 0)))))
    | .boolean => a_nx (pc + 2) l (.ref h.1 :: st) (a_new h n.toNatClampNeg (.inl (2, n.toNatClampNeg, .inl (fun _ => 0))))
    | _ => none
  | _ => none
def a_nr (y : aM) (idx pc : Nat) (l : List (Option Value)) (st : List Value) (h : aH) : Option (aS ⊕ aR) := match st with
  | .int n :: st => if n < 0 ∨ 10000 < n.toNatClampNeg ∨ aRO ≤ h.1 then none else match a_A y.1 idx with
    | some t => a_nx (pc + 3) l (.ref h.1 :: st) (a_new h n.toNatClampNeg (.inl (t, n.toNatClampNeg, .inr (.inr (.inr (.inr (fun _ => none)))))))
    | none => none
  | _ => none
def a_nw (y : aM) (idx pc : Nat) (l : List (Option Value)) (st : List Value) (h : aH) : Option (aS ⊕ aR) := match a_C y.1 idx with
  | some ci => if aRO ≤ h.1 then none else a_nx (pc + 3) l (.ref h.1 :: st) (a_new h (a_N ci) (.inr (ci, a_df ci)))
  | none => none
/-- the class that a receiver has -/
def a_rc (h : aH) (b ci : Nat) : Bool := match h.2.2 b with
  | some (.inr (cj, _)) => cj == ci
  | _ => false
def a_cpy (pc : Nat) (l : List (Option Value)) (st : List Value) (h : aH) : Option (aS ⊕ aR) := match st with
  | .int n :: .int dp :: .ref b :: .int sp :: .ref a :: st =>
    if n < 0 ∨ dp < 0 ∨ sp < 0 ∨ aRO ≤ a ∨ aRO ≤ b ∨ 8 < a_sum st then none else match h.2.2 a, h.2.2 b with
      | some (.inl (0, n0, .inl f)), some (.inl (0, n1, .inl g)) => if sp.toNatClampNeg + n.toNatClampNeg ≤ n0 ∧ dp.toNatClampNeg + n.toNatClampNeg ≤ n1 then a_nx (pc + 3) l st (a_put h b (.inl (0, n1, .inl (va_cpy f g sp.toNatClampNeg dp.toNatClampNeg n.toNatClampNeg)))) else none
      | some (.inl (1, n0, .inr (.inl f))), some (.inl (1, n1, .inr (.inl g))) => if sp.toNatClampNeg + n.toNatClampNeg ≤ n0 ∧ dp.toNatClampNeg + n.toNatClampNeg ≤ n1 then a_nx (pc + 3) l st (a_put h b (.inl (1, n1, .inr (.inl (va_cpy f g sp.toNatClampNeg dp.toNatClampNeg n.toNatClampNeg))))) else none
      | _, _ => none
  | _ => none
/-- Math.max, min, abs -/
def a_mt (k pc : Nat) (l : List (Option Value)) (st : List Value) (h : aH) : Option (aS ⊕ aR) := match st with
  | .int y :: st => if k = 10 then (if a_sum st ≤ 8 then a_nx (pc + 3) l (.int (if 0 ≤ y then y else 0 - y) :: st) h else none) else match st with
    | .int x :: st => if 8 < a_sum st then none else if k = 8 then a_nx (pc + 3) l (.int (if x < y then y else x) :: st) h else if k = 9 then a_nx (pc + 3) l (.int (if y < x then y else x) :: st) h else none
    | _ => none
  | _ => none
def a_back (r : Option aR) (pc : Nat) (l : List (Option Value)) (st : List Value) : Option (aS ⊕ aR) := match r with
  | some (v, h) => a_nx (pc + 3) l (v.toList ++ st) h
  | none => none
/-- a call: as, the arguments, st, what stands below -/
def a_go (C : aM → List Value → aH → Option aR) (x : aL) (as st : List Value) (h : aH) (pc : Nat) (l : List (Option Value)) : Option (aS ⊕ aR) :=
  if 8 < a_sum st ∨ x.2.2.2.2.2.1 < (a_en as).length ∨ 18 < x.2.2.2.2.2.1 then none else a_back (C x.2.2 as h) pc l st
def a_iv (C : aM → List Value → aH → Option aR) (y : aM) (idx pc : Nat) (l : List (Option Value)) (st : List Value) (h : aH) : Option (aS ⊕ aR) := match a_Mt y.1 idx with
  | some x => match st.drop x.2.1 with
    | .ref b :: rest => if x.1 < 2 ∧ x.2.1 ≤ st.length ∧ a_rc h b x.2.2.1 = true then a_go C x (.ref b :: (st.take x.2.1).reverse) rest h pc l else none
    | _ => none
  | none => none
def a_is (C : aM → List Value → aH → Option aR) (y : aM) (idx pc : Nat) (l : List (Option Value)) (st : List Value) (h : aH) : Option (aS ⊕ aR) := match a_Mt y.1 idx with
  | some x => if x.1 = 7 then a_cpy pc l st h else if 8 ≤ x.1 then a_mt x.1 pc l st h else if (x.1 = 2 ∨ x.1 = 3) ∧ x.2.1 ≤ st.length then a_go C x (st.take x.2.1).reverse (st.drop x.2.1) h pc l else none
  | none => none
def a_ip (C : aM → List Value → aH → Option aR) (y : aM) (idx pc : Nat) (l : List (Option Value)) (st : List Value) (h : aH) : Option (aS ⊕ aR) := match a_Mt y.1 idx with
  | some x => match st.drop x.2.1 with
    | .ref b :: rest => if x.1 = 6 ∧ x.2.1 = 0 ∧ a_sum rest ≤ 8 then a_nx (pc + 3) l rest h else if (x.1 = 4 ∨ x.1 = 5) ∧ x.2.1 ≤ st.length then a_go C x (.ref b :: (st.take x.2.1).reverse) rest h pc l else none
    | _ => none
  | none => none
def a_sw (dflt lo hi : Int) (offs : Array Int) (pc : Nat) (l : List (Option Value)) (st : List Value) (h : aH) : Option (aS ⊕ aR) := match st with
  | .int x :: st => if x.toInt < lo ∨ hi < x.toInt then a_gt pc dflt l st h else match offs[(x.toInt - lo).toNat]? with
    | some off => a_gt pc off l st h
    | none => none
  | _ => none
def a_lk (dflt : Int) (ps : Array (Int × Int)) (pc : Nat) (l : List (Option Value)) (st : List Value) (h : aH) : Option (aS ⊕ aR) := match st with
  | .int x :: st => if (ps.toList.zip (ps.toList.drop 1)).all (fun (a, next) => a.1 < next.1) = true then a_gt pc (Op.lookupswitch.offset ps.toList dflt x.toInt) l st h else none
  | _ => none
def a_rt (y : aM) (st : List Value) (h : aH) : Option (aS ⊕ aR) := match st, y.2.2.2.2 with
  | [.int v], some ty => if narrow ty (.int v) = .int v then some (.inr (some (.int v), h)) else none
  | _, _ => none
