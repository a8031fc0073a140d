/-! ===== wp, instruction by instruction ===== -/
def w_gf (c : Option va_E) (ci k : Nat) (K : Value → Prop) : Prop := match c with
  | some (.inr (cj, fs)) => (match fs[k]? with | some v => ci = cj ∧ K v | none => False)
  | _ => False
def w_pf (h : aH) (a ci k : Nat) (v : Value) (ini : Bool) (K : aH → Prop) : Prop := match h.2.2 a with
  | some (.inr (cj, fs)) => (ci = cj ∧ a < aRO ∧ k < fs.length ∧ narrow (a_ty ci k) v = v ∧ fits (a_ty ci k) v = true ∧ ((a_T ci k).2.2.2 = false ∨ ini = true)) ∧ K (a_put h a (.inr (ci, fs.set k v)))
  | _ => False
def w_al (c : Option va_E) (a : Nat) (t : Nat → Bool) (i : Int32) (K : Value → Prop) : Prop := match c with
  | some (.inl (tg, n, .inl f)) => (t tg = true ∧ ¬ (i < 0 ∨ n ≤ i.toNatClampNeg) ∧ (tg ≠ 5 ∨ aRO ≤ a)) ∧ K (.int (f i.toNatClampNeg))
  | _ => False
def w_all (c : Option va_E) (i : Int32) (K : Value → Prop) : Prop := match c with
  | some (.inl (1, n, .inr (.inl f))) => ¬ (i < 0 ∨ n ≤ i.toNatClampNeg) ∧ K (.long (f i.toNatClampNeg))
  | _ => False
def w_alr (c : Option va_E) (a : Nat) (i : Int32) (K : Value → Prop) : Prop := match c with
  | some (.inl (tg, n, .inr (.inr (.inr (.inr f))))) => ((tg = 3 ∨ tg = 4) ∧ a < aRO ∧ ¬ (i < 0 ∨ n ≤ i.toNatClampNeg)) ∧ K (va_rf (f i.toNatClampNeg))
  | _ => False
def w_as (h : aH) (a : Nat) (i x : Int32) (K : aH → Prop) : Prop := match h.2.2 a with
  | some (.inl (0, n, .inl f)) => (a < aRO ∧ ¬ (i < 0 ∨ n ≤ i.toNatClampNeg)) ∧ K (a_put h a (.inl (0, n, .inl (upd f i.toNatClampNeg x))))
  | _ => False
def w_asz (h : aH) (a : Nat) (i x : Int32) (K : aH → Prop) : Prop := match h.2.2 a with
  | some (.inl (2, n, .inl f)) => (a < aRO ∧ ¬ (i < 0 ∨ n ≤ i.toNatClampNeg)) ∧ K (a_put h a (.inl (2, n, .inl (upd f i.toNatClampNeg (vp_nar .boolean x)))))
  | _ => False
def w_asl (h : aH) (a : Nat) (i : Int32) (x : Int64) (K : aH → Prop) : Prop := match h.2.2 a with
  | some (.inl (1, n, .inr (.inl f))) => (a < aRO ∧ ¬ (i < 0 ∨ n ≤ i.toNatClampNeg)) ∧ K (a_put h a (.inl (1, n, .inr (.inl (vp_updL f i.toNatClampNeg x)))))
  | _ => False
def w_len (c : Option va_E) (a : Nat) (K : Value → Prop) : Prop := match c with
  | some (.inl (tg, n, _)) => (tg < 6 ∧ (a < aRO ∨ tg = 0 ∨ tg = 5) ∧ (aRO ≤ a ∨ tg < 5)) ∧ K (.int (Int32.ofNat n))
  | _ => False
def w_o (d : Nat) (y : aM) (x : Option (aS ⊕ aR)) (Q : Option Value → aH → Prop) : Prop := match x with
  | some (.inl t) => wp d y t.1 t.2.1 t.2.2.1 t.2.2.2 Q
  | some (.inr r) => Q r.1 r.2
  | none => False
section RW
variable {d : Nat} {y : aM} {pc : Nat} {l : List (Option Value)} {st : List Value} {h : aH} {Q : Option Value → aH → Prop}
theorem wp_o {x : Option (aS ⊕ aR)} (hs : ∀ C, a_step C y (pc, l, st, h) = x) : wp d y pc l st h Q ↔ w_o d y x Q := by
  match x, hs with
  | some (.inl t), hs => exact wp_nx hs
  | some (.inr r), hs => exact wp_rt hs
  | none, hs => exact wp_no hs
theorem r_st {i : Instr} {n : Nat} (hd : decode y.2.2.1 pc = .ok (i, n)) (C : aM → List Value → aH → Option aR) : a_step C y (pc, l, st, h) = a_i C y i n pc l st h := by
  unfold a_step
  dsimp only
  rw [hd]
theorem r_iconst {k : Int} {v : Int32} (hd : decode y.2.2.1 pc = .ok (.iconst k, 1)) (hv : Int32.ofInt k = v) : wp d y pc l st h Q ↔ wp d y (pc + 1) l (.int v :: st) h Q := by subst hv; exact wp_nx (fun C => r_st hd C)
theorem r_bipush {k : Int} {v : Int32} (hd : decode y.2.2.1 pc = .ok (.bipush k, 2)) (hv : (Int8.ofInt k).toInt32 = v) : wp d y pc l st h Q ↔ wp d y (pc + 2) l (.int v :: st) h Q := by subst hv; exact wp_nx (fun C => r_st hd C)
theorem r_sipush {k : Int} {v : Int32} (hd : decode y.2.2.1 pc = .ok (.sipush k, 3)) (hv : (Int16.ofInt k).toInt32 = v) : wp d y pc l st h Q ↔ wp d y (pc + 3) l (.int v :: st) h Q := by subst hv; exact wp_nx (fun C => r_st hd C)
theorem r_lconst {k : Fin 2} {v : Int64} (hd : decode y.2.2.1 pc = .ok (.lconst k, 1)) (hv : Int64.ofNat (k : Nat) = v) : wp d y pc l st h Q ↔ wp d y (pc + 1) l (.long v :: st) h Q := by subst hv; exact wp_nx (fun C => r_st hd C)
theorem r_lod {i : Instr} {n k : Nat} {ok : Value → Bool} {v : Value} (hd : decode y.2.2.1 pc = .ok (i, n)) (hi : ∀ C, a_i C y i n pc l st h = a_lod k n pc ok l st h) (hl : a_ld l k = some v) (hv : ok v = true) : wp d y pc l st h Q ↔ wp d y (pc + n) l (v :: st) h Q :=
  wp_nx (fun C => by rw [r_st hd, hi]; simp only [a_lod, hl, hv, if_true]; rfl)
theorem r_sto {i : Instr} {n k : Nat} {ok : Value → Bool} {v : Value} {l' : List (Option Value)} (hd : decode y.2.2.1 pc = .ok (i, n)) (hi : ∀ C, a_i C y i n pc l (v :: st) h = a_sto k n pc ok l (v :: st) h) (hv : (ok v && decide (k < l.length)) = true) (hl : a_st l k v = l') : wp d y pc l (v :: st) h Q ↔ wp d y (pc + n) l' st h Q :=
  wp_nx (fun C => by rw [r_st hd, hi]; simp only [a_sto, hv, if_true, hl]; rfl)
theorem r_stL {i : Instr} {n k : Nat} {v : Int64} {l' : List (Option Value)} (hd : decode y.2.2.1 pc = .ok (i, n)) (hi : ∀ C, a_i C y i n pc l (.long v :: st) h = a_stL k n pc l (.long v :: st) h) (hv : k + 1 < l.length) (hl : a_un (a_st l k (.long v)) (k + 1) = l') : wp d y pc l (.long v :: st) h Q ↔ wp d y (pc + n) l' st h Q :=
  wp_nx (fun C => by rw [r_st hd, hi]; simp only [a_stL, hv, if_true, hl]; rfl)
theorem r_iinc {k : Nat} {c : Int} {x v : Int32} {l' : List (Option Value)} (hd : decode y.2.2.1 pc = .ok (.iinc k c, 3)) (hl : a_ld l k = some (.int x)) (hk : k < l.length) (hv : Int32.ofInt c = v) (hl' : a_st l k (.int (x + v)) = l') : wp d y pc l st h Q ↔ wp d y (pc + 3) l' st h Q :=
  wp_nx (fun C => by subst hv; rw [r_st hd]; show a_w true (match a_ld l k with | some (.int x) => if k < l.length then a_nx (pc + 3) (a_st l k (.int (x + Int32.ofInt c))) st h else none | _ => none) = _; rw [hl]; simp only [a_w, hk, if_true, hl']; rfl)
theorem r_n {i : Instr} {n : Nat} {pc' : Nat} {st' : List Value} (hd : decode y.2.2.1 pc = .ok (i, n)) (hi : ∀ C, a_i C y i n pc l st h = some (.inl (pc', l, st', h))) : wp d y pc l st h Q ↔ wp d y pc' l st' h Q := wp_nx (fun C => by rw [r_st hd, hi])
theorem r_dv {i : Instr} {f : Int32 → Int32 → Int32} {x z : Int32} (hd : decode y.2.2.1 pc = .ok (i, 1)) (hi : ∀ C, a_i C y i 1 pc l (.int z :: .int x :: st) h = if z = 0 then none else some (.inl (pc + 1, l, .int (f x z) :: st, h))) : wp d y pc l (.int z :: .int x :: st) h Q ↔ (¬ z = 0 ∧ wp d y (pc + 1) l (.int (f x z) :: st) h Q) := by
  by_cases hz : z = 0
  · rw [wp_no (fun C => by rw [r_st hd, hi, if_pos hz])]
    exact ⟨False.elim, fun q => q.1 hz⟩
  · rw [wp_nx (fun C => by rw [r_st hd, hi, if_neg hz])]
    exact ⟨fun q => ⟨hz, q⟩, fun q => q.2⟩
/-- a branch -/
theorem r_br {i : Instr} {n tgt : Nat} {st' : List Value} {c : Prop} (_ : Decidable c) (hd : decode y.2.2.1 pc = .ok (i, n)) (ht : c → ∀ C, a_i C y i n pc l st h = some (.inl (tgt, l, st', h))) (hf : ¬ c → ∀ C, a_i C y i n pc l st h = some (.inl (pc + 3, l, st', h))) : wp d y pc l st h Q ↔ if c then wp d y tgt l st' h Q else wp d y (pc + 3) l st' h Q := by
  by_cases hc : c
  · rw [if_pos hc]
    exact wp_nx (fun C => by rw [r_st hd, ht hc])
  · rw [if_neg hc]
    exact wp_nx (fun C => by rw [r_st hd, hf hc])
theorem r_tg {tgt : Nat} {off : Int} {h' : aH} (h : (pc : Int) + off = (tgt : Int)) : a_gt pc off l st h' = some (.inl (tgt, l, st, h')) := by
  unfold a_gt
  rw [if_neg (by omega)]
  simp only [h, Int.toNat_natCast]
end RW
