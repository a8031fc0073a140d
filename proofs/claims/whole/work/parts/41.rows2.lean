def w_rc (c : Option va_E) (ci : Nat) : Prop := match c with
  | some (.inr (cj, _)) => cj = ci
  | _ => False
def w_asr (h : aH) (a b : Nat) (i : Int32) (K : aH → Prop) : Prop := match h.2.2 a, h.2.2 b with
  | some (.inl (tg, n, .inr (.inr (.inr (.inr f))))), some (.inr (cj, _)) => ((tg = 3 ∨ tg = 4) ∧ a_atc tg = cj ∧ a < aRO ∧ b < aRO ∧ ¬ (i < 0 ∨ n ≤ i.toNatClampNeg)) ∧ K (a_put h a (.inl (tg, n, .inr (.inr (.inr (.inr (va_up f i.toNatClampNeg (some b))))))))
  | _, _ => False
def w_sw (x lo : Int32) (ts : List Nat) (K : Nat → Prop) (D : Prop) : Prop := match ts with
  | [] => D
  | t :: ts => if x = lo then K t else w_sw x (lo + 1) ts K D
def w_lk (x : Int32) (ts : List (Int32 × Nat)) (K : Nat → Prop) (D : Prop) : Prop := match ts with
  | [] => D
  | t :: ts => if x = t.1 then K t.2 else w_lk x ts K D
def w_if (cd : Jvm.ClassFile.Cond) (x z : Int32) (T F : Prop) : Prop := match cd with
  | .eq => if x = z then T else F
  | .ne => if x = z then F else T
  | .lt => if x < z then T else F
  | .ge => if z ≤ x then T else F
  | .gt => if z < x then T else F
  | .le => if x ≤ z then T else F
section RX
variable {d : Nat} {y : aM} {pc : Nat} {l : List (Option Value)} {st : List Value} {h : aH} {Q : Option Value → aH → Prop}
theorem r_goto {off : Int} {tgt : Nat} (hd : decode y.2.2.1 pc = .ok (.goto off, 3)) (ht : (pc : Int) + off = (tgt : Int)) : wp d y pc l st h Q ↔ wp d y tgt l st h Q := wp_nx (fun C => by rw [r_st hd]; exact r_tg ht)
theorem r_ifx {cd : Jvm.ClassFile.Cond} {off : Int} {tgt : Nat} {x z : Int32} {i : Instr} {st0 : List Value} (hd : decode y.2.2.1 pc = .ok (i, 3)) (hi : ∀ C, a_i C y i 3 pc l st0 h = a_if cd off pc l x z st h) (ht : (pc : Int) + off = (tgt : Int)) : wp d y pc l st0 h Q ↔ w_if cd x z (wp d y tgt l st h Q) (wp d y (pc + 3) l st h Q) := by
  have hn : ¬ (pc : Int) + off < 0 := by omega
  cases cd <;> dsimp only [w_if] <;> split <;> rename_i hc <;> refine wp_nx (fun C => ?_) <;> rw [r_st hd, hi, a_if, if_neg hn]
  · rw [if_pos hc]; exact r_tg ht
  · rw [if_neg hc]; rfl
  · rw [if_pos hc]; rfl
  · rw [if_neg hc]; exact r_tg ht
  · rw [if_pos hc]; exact r_tg ht
  · rw [if_neg hc]; rfl
  · rw [if_pos hc]; exact r_tg ht
  · rw [if_neg hc]; rfl
  · rw [if_pos hc]; exact r_tg ht
  · rw [if_neg hc]; rfl
  · rw [if_pos hc]; exact r_tg ht
  · rw [if_neg hc]; rfl
theorem r_if {cd : Jvm.ClassFile.Cond} {off : Int} {tgt : Nat} {x : Int32} (hd : decode y.2.2.1 pc = .ok (.ifCond cd off, 3)) (ht : (pc : Int) + off = (tgt : Int)) : wp d y pc l (.int x :: st) h Q ↔ w_if cd x 0 (wp d y tgt l st h Q) (wp d y (pc + 3) l st h Q) := r_ifx (st := st) hd (fun C => rfl) ht
theorem r_icmp {cd : Jvm.ClassFile.Cond} {off : Int} {tgt : Nat} {x z : Int32} (hd : decode y.2.2.1 pc = .ok (.if_icmp cd off, 3)) (ht : (pc : Int) + off = (tgt : Int)) : wp d y pc l (.int z :: .int x :: st) h Q ↔ w_if cd x z (wp d y tgt l st h Q) (wp d y (pc + 3) l st h Q) := r_ifx (st := st) hd (fun C => rfl) ht
theorem r_nnl {off : Int} {tgt a : Nat} (hd : decode y.2.2.1 pc = .ok (.ifnonnull off, 3)) (ht : (pc : Int) + off = (tgt : Int)) : wp d y pc l (.ref a :: st) h Q ↔ wp d y tgt l st h Q := wp_nx (fun C => by rw [r_st hd]; exact r_tg ht)
theorem r_nnlN {off : Int} (hd : decode y.2.2.1 pc = .ok (.ifnonnull off, 3)) : wp d y pc l (.null :: st) h Q ↔ wp d y (pc + 3) l st h Q := wp_nx (fun C => by rw [r_st hd]; rfl)
theorem w_sw_eq {x : Int32} {K : Nat → Prop} {D : Prop} : ∀ (ts : List Nat) (lo : Int32) (L : Int), lo.toInt = L → L + ts.length < 2 ^ 31 → ((x.toInt < L ∨ L + ts.length - 1 < x.toInt) → (w_sw x lo ts K D ↔ D)) ∧ (¬ (x.toInt < L ∨ L + ts.length - 1 < x.toInt) → ∃ t, ts[(x.toInt - L).toNat]? = some t ∧ (w_sw x lo ts K D ↔ K t))
  | [], lo, L, hL, _ => ⟨fun _ => Iff.rfl, fun hn => by simp only [List.length_nil] at hn; omega⟩
  | t :: ts, lo, L, hL, hb => by
    simp only [List.length_cons] at hb
    have h1 : (lo + 1).toInt = L + 1 := by
      have e1 : (1 : Int32).toInt = 1 := by decide
      rw [Int32.toInt_add, hL, e1]
      have := Int32.le_toInt lo
      refine Int.bmod_eq_of_le (by omega) (by omega)
    have ih := w_sw_eq (x := x) (K := K) (D := D) ts (lo + 1) (L + 1) h1 (by omega)
    by_cases hx : x = lo
    · have hxe : x.toInt = L := by rw [hx, hL]
      refine ⟨fun hn => ?_, fun _ => ⟨t, ?_, ?_⟩⟩
      · simp only [List.length_cons] at hn; omega
      · rw [hxe, Int.sub_self]; rfl
      · simp only [w_sw, if_pos hx]
    · have hxe : x.toInt ≠ L := fun q => hx (Int32.toInt_inj.mp (q.trans hL.symm))
      simp only [w_sw, if_neg hx, List.length_cons]
      refine ⟨fun hn => ih.1 (by omega), fun hn => ?_⟩
      obtain ⟨t', h2, h3⟩ := ih.2 (by omega)
      refine ⟨t', ?_, h3⟩
      rw [show (x.toInt - L).toNat = (x.toInt - (L + 1)).toNat + 1 by omega]
      exact h2
theorem r_sw {df lo hi : Int} {offs : Array Int} {n dt : Nat} {x lo' : Int32} {ts : List Nat} (hd : decode y.2.2.1 pc = .ok (.tableswitch df lo hi offs, n)) (hlo : lo'.toInt = lo) (hhi : hi = lo + ts.length - 1) (hb : lo + ts.length < 2 ^ 31) (hdt : (pc : Int) + df = (dt : Int)) (hts : offs.toList.map (fun o => (pc : Int) + o) = ts.map (fun t : Nat => (t : Int))) : wp d y pc l (.int x :: st) h Q ↔ w_sw x lo' ts (fun t => wp d y t l st h Q) (wp d y dt l st h Q) := by
  have key := w_sw_eq (x := x) (K := fun t => wp d y t l st h Q) (D := wp d y dt l st h Q) ts lo' lo hlo hb
  by_cases hc : x.toInt < lo ∨ hi < x.toInt
  · rw [key.1 (by rw [← hhi]; exact hc)]
    refine wp_nx (fun C => ?_)
    rw [r_st hd]
    show a_sw df lo hi offs pc l (.int x :: st) h = _
    simp only [a_sw]
    rw [if_pos hc]
    exact r_tg hdt
  · obtain ⟨t, h1, h2⟩ := key.2 (by rw [← hhi]; exact hc)
    rw [h2]
    have h3 : (offs.toList.map (fun o => (pc : Int) + o))[(x.toInt - lo).toNat]? = some (t : Int) := by rw [hts, List.getElem?_map, h1]; rfl
    rw [List.getElem?_map, Array.getElem?_toList] at h3
    cases ho : offs[(x.toInt - lo).toNat]? with
    | none => rw [ho] at h3; cases h3
    | some o =>
      rw [ho] at h3
      have h3 : (pc : Int) + o = (t : Int) := Option.some.inj h3
      refine wp_nx (fun C => ?_)
      rw [r_st hd]
      show a_sw df lo hi offs pc l (.int x :: st) h = _
      simp only [a_sw]
      rw [if_neg hc, ho]
      exact r_tg h3
theorem r_lk {df : Int} {ps : Array (Int × Int)} {n dt : Nat} {x : Int32} {ts : List (Int32 × Nat)} (hd : decode y.2.2.1 pc = .ok (.lookupswitch df ps, n)) (hp : (ps.toList.zip (ps.toList.drop 1)).all (fun (a, next) => a.1 < next.1) = true) (hdt : (pc : Int) + df = (dt : Int)) (hts : ps.toList.map (fun q => (q.1, (pc : Int) + q.2)) = ts.map (fun q : Int32 × Nat => (q.1.toInt, (q.2 : Int)))) : wp d y pc l (.int x :: st) h Q ↔ w_lk x ts (fun t => wp d y t l st h Q) (wp d y dt l st h Q) := by
  have key : ∀ (ps : List (Int × Int)) (ts : List (Int32 × Nat)), ps.map (fun q => (q.1, (pc : Int) + q.2)) = ts.map (fun q : Int32 × Nat => (q.1.toInt, (q.2 : Int))) → ∃ t : Nat, (pc : Int) + Op.lookupswitch.offset ps df x.toInt = (t : Int) ∧ (w_lk x ts (fun t => wp d y t l st h Q) (wp d y dt l st h Q) ↔ wp d y t l st h Q) := by
    intro ps
    induction ps with
    | nil =>
      intro ts h1
      cases ts with
      | nil => exact ⟨dt, hdt, Iff.rfl⟩
      | cons a b => cases h1
    | cons q ps ih =>
      intro ts h1
      cases ts with
      | nil => cases h1
      | cons t ts =>
        simp only [List.map_cons, List.cons.injEq, Prod.mk.injEq] at h1
        obtain ⟨⟨h2, h3⟩, h4⟩ := h1
        obtain ⟨q1, q2⟩ := q
        dsimp only at h2 h3
        by_cases hx : x = t.1
        · refine ⟨t.2, ?_, by simp only [w_lk, if_pos hx]⟩
          rw [Op.lookupswitch.offset_cons, if_pos (by rw [h2, hx])]
          exact h3
        · obtain ⟨t', h5, h6⟩ := ih ts h4
          refine ⟨t', ?_, by simp only [w_lk, if_neg hx]; exact h6⟩
          rw [lv_osw hx h2.symm]
          exact h5
  obtain ⟨t, h1, h2⟩ := key ps.toList ts hts
  rw [h2]
  refine wp_nx (fun C => ?_)
  rw [r_st hd]
  show a_lk df ps pc l (.int x :: st) h = _
  simp only [a_lk]
  rw [if_pos hp]
  exact r_tg h1
theorem r_ldc {k : Nat} {v : Value} (hd : decode y.2.2.1 pc = .ok (.ldc k, 2)) (hv : a_I y.1 k = some v) : wp d y pc l st h Q ↔ wp d y (pc + 2) l (v :: st) h Q := wp_nx (fun C => by rw [r_st hd]; show a_w true (match a_I y.1 k with | some v => a_nx (pc + 2) l (v :: st) h | none => none) = _; rw [hv]; rfl)
theorem r_ldc2 {k : Nat} {v : Int64} (hd : decode y.2.2.1 pc = .ok (.ldc2_w k, 3)) (hv : a_L y.1 k = some v) : wp d y pc l st h Q ↔ wp d y (pc + 3) l (.long v :: st) h Q := wp_nx (fun C => by rw [r_st hd]; show a_w true (match a_L y.1 k with | some v => a_nx (pc + 3) l (.long v :: st) h | none => none) = _; rw [hv]; rfl)
theorem r_gf {k ci j kd : Nat} {a : Nat} (hd : decode y.2.2.1 pc = .ok (.getfield k, 3)) (hF : a_F y.1 k = some (ci, j, kd)) : wp d y pc l (.ref a :: st) h Q ↔ w_gf (h.2.2 a) ci j (fun v => wp d y (pc + 3) l (v :: st) h Q) := by
  rw [wp_o (fun C => r_st hd C)]
  show w_o d y (a_gf y k pc l (.ref a :: st) h) Q ↔ _
  unfold a_gf w_gf
  simp only [hF]
  cases hc : h.2.2 a with
  | none => exact Iff.rfl
  | some e =>
    cases e with
    | inl x => exact Iff.rfl
    | inr x =>
      obtain ⟨cj, fs⟩ := x
      dsimp only
      cases hv : fs[j]? with
      | none => exact Iff.rfl
      | some v =>
        dsimp only
        by_cases h3 : ci = cj
        · rw [if_pos h3]; exact ⟨fun q => ⟨h3, q⟩, fun q => q.2⟩
        · rw [if_neg h3]; exact ⟨False.elim, fun q => h3 q.1⟩
theorem r_pf {k ci j : Nat} {a : Nat} {v : Value} (ini : Bool) (hd : decode y.2.2.1 pc = .ok (.putfield k, 3)) (hF : a_F y.1 k = some (ci, j, 0)) (hi : (y.2.1.name = "<init>" ∧ y.1 = ci) ↔ ini = true) : wp d y pc l (v :: .ref a :: st) h Q ↔ w_pf h a ci j v ini (fun g => wp d y (pc + 3) l st g Q) := by
  rw [wp_o (fun C => r_st hd C)]
  show w_o d y (a_pf y k pc l (v :: .ref a :: st) h) Q ↔ _
  unfold a_pf w_pf
  simp only [hF]
  cases hc : h.2.2 a with
  | none => exact Iff.rfl
  | some e =>
    cases e with
    | inl x => exact Iff.rfl
    | inr x =>
      obtain ⟨cj, fs⟩ := x
      dsimp only
      split
      · rename_i h3
        exact ⟨fun q => ⟨⟨h3.1, h3.2.2.1, h3.2.2.2.1, h3.2.2.2.2.1, h3.2.2.2.2.2.1, h3.2.2.2.2.2.2.imp id hi.mp⟩, q⟩, fun q => q.2⟩
      · rename_i h3
        exact ⟨False.elim, fun q => h3 ⟨q.1.1, rfl, q.1.2.1, q.1.2.2.1, q.1.2.2.2.1, q.1.2.2.2.2.1, q.1.2.2.2.2.2.imp id hi.mpr⟩⟩
end RX
