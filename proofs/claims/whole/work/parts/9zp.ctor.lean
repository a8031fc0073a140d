/-! ===== cells in a row: what constructors make ===== -/
def adr (b j : Nat) : Nat := b + j
def KC (g : aH) (b s : Nat) (cs : List va_E) : aH := (adr b cs.length, s, fun a => if b ≤ a ∧ a < b + cs.length then cs[a - b]? else g.2.2 a)
theorem adr_lt {b j : Nat} (hb : b < 1000) (h : j < 1000) : adr b j < aRO := by unfold adr; rw [show aRO = 1000000 from rfl]; omega
theorem adr_ge {b j : Nat} (hb : b < 1000) (h : j < 1000) : ¬ aRO ≤ adr b j := by unfold adr; rw [show aRO = 1000000 from rfl]; omega
theorem KC_0 {g : aH} : g = KC g g.1 g.2.1 [] := Prod.ext rfl (Prod.ext rfl (funext fun a => by
  show _ = if g.1 ≤ a ∧ a < g.1 + ([] : List va_E).length then _ else _
  rw [if_neg (by rw [List.length_nil]; omega)]))
theorem KC_1 {g : aH} {b s : Nat} {cs : List va_E} : (KC g b s cs).1 = adr b cs.length := rfl
theorem KC_2 {g : aH} {b s : Nat} {cs : List va_E} : (KC g b s cs).2.1 = s := rfl
theorem KC_at {g : aH} {b s j : Nat} {cs : List va_E} (h : j < cs.length) : (KC g b s cs).2.2 (adr b j) = cs[j]? := by
  show (if b ≤ b + j ∧ b + j < b + cs.length then cs[b + j - b]? else _) = _
  rw [if_pos (by omega), Nat.add_sub_cancel_left]
theorem KC_x {g : aH} {b s a : Nat} {cs : List va_E} (h : ¬ (b ≤ a ∧ a < b + cs.length)) : (KC g b s cs).2.2 a = g.2.2 a := if_neg h
theorem KC_nw {g : aH} {b s n : Nat} {cs : List va_E} {e : va_E} : a_new (KC g b s cs) n e = KC g b (s + n) (cs ++ [e]) := by
  refine Prod.ext ?_ (Prod.ext rfl (funext fun a => ?_))
  · show b + cs.length + 1 = b + (cs ++ [e]).length
    rw [List.length_append, List.length_singleton]; omega
  · show va_up (KC g b s cs).2.2 (b + cs.length) (some e) a = (if b ≤ a ∧ a < b + (cs ++ [e]).length then (cs ++ [e])[a - b]? else g.2.2 a)
    unfold va_up
    by_cases h : a = b + cs.length
    · subst h
      rw [if_pos rfl, if_pos (by rw [List.length_append, List.length_singleton]; omega), Nat.add_sub_cancel_left, List.getElem?_append_right (Nat.le_refl _), Nat.sub_self]
      rfl
    · rw [if_neg h]
      show (if b ≤ a ∧ a < b + cs.length then cs[a - b]? else g.2.2 a) = _
      by_cases h2 : b ≤ a ∧ a < b + cs.length
      · rw [if_pos h2, if_pos (by rw [List.length_append, List.length_singleton]; omega), List.getElem?_append_left (by omega)]
      · rw [if_neg h2, if_neg (by rw [List.length_append, List.length_singleton]; omega)]
theorem KC_pu {g : aH} {b s j : Nat} {cs : List va_E} {e : va_E} (h : j < cs.length) : a_put (KC g b s cs) (adr b j) e = KC g b s (cs.set j e) := by
  refine Prod.ext ?_ (Prod.ext rfl (funext fun a => ?_))
  · show b + cs.length = b + (cs.set j e).length
    rw [List.length_set]
  · show va_up (KC g b s cs).2.2 (b + j) (some e) a = (if b ≤ a ∧ a < b + (cs.set j e).length then (cs.set j e)[a - b]? else g.2.2 a)
    unfold va_up
    rw [List.length_set]
    by_cases h2 : a = b + j
    · subst h2
      rw [if_pos rfl, if_pos (by omega), Nat.add_sub_cancel_left, List.getElem?_set_self (by omega)]
    · rw [if_neg h2]
      show (if b ≤ a ∧ a < b + cs.length then cs[a - b]? else g.2.2 a) = _
      by_cases h3 : b ≤ a ∧ a < b + cs.length
      · rw [if_pos h3, if_pos h3, List.getElem?_set_ne (by omega)]
      · rw [if_neg h3, if_neg h3]
def w_pc (c : Option va_E) (a ci k : Nat) (v : Value) (ini : Bool) (K : va_E → Prop) : Prop := match c with
  | some (.inr (cj, fs)) => (ci = cj ∧ a < aRO ∧ k < fs.length ∧ narrow (a_ty ci k) v = v ∧ fits (a_ty ci k) v = true ∧ ((a_T ci k).2.2.2 = false ∨ ini = true)) ∧ K (.inr (ci, fs.set k v))
  | _ => False
theorem gf_s {cj ci k : Nat} {fs : List Value} {K : Value → Prop} : w_gf (some (.inr (cj, fs))) ci k K ↔ (match fs[k]? with | some v => ci = cj ∧ K v | none => False) := Iff.rfl
theorem pc_s {cj a ci k : Nat} {fs : List Value} {v : Value} {ini : Bool} {K : va_E → Prop} : w_pc (some (.inr (cj, fs))) a ci k v ini K ↔ ((ci = cj ∧ a < aRO ∧ k < fs.length ∧ narrow (a_ty ci k) v = v ∧ fits (a_ty ci k) v = true ∧ ((a_T ci k).2.2.2 = false ∨ ini = true)) ∧ K (.inr (ci, fs.set k v))) := Iff.rfl
theorem KC_pf {g : aH} {b s j ci k : Nat} {cs : List va_E} {v : Value} {ini : Bool} {K : aH → Prop} (h : j < cs.length) : w_pf (KC g b s cs) (adr b j) ci k v ini K ↔ w_pc cs[j]? (adr b j) ci k v ini (fun e => K (KC g b s (cs.set j e))) := by
  unfold w_pf w_pc
  rw [KC_at h]
  cases hc : cs[j]? with
  | none => exact Iff.rfl
  | some e =>
    cases e with
    | inl _ => exact Iff.rfl
    | inr q =>
      obtain ⟨cj, fs⟩ := q
      dsimp only
      rw [KC_pu h]
def w_ac (c e : Option va_E) (a b' : Nat) (i : Int32) (K : va_E → Prop) : Prop := match c, e with
  | some (.inl (tg, n, .inr (.inr (.inr (.inr f))))), some (.inr (cj, _)) => ((tg = 3 ∨ tg = 4) ∧ a_atc tg = cj ∧ a < aRO ∧ b' < aRO ∧ ¬ (i < 0 ∨ n ≤ i.toNatClampNeg)) ∧ K (.inl (tg, n, .inr (.inr (.inr (.inr (va_up f i.toNatClampNeg (some b')))))))
  | _, _ => False
theorem KC_asr {g : aH} {b s j j' : Nat} {cs : List va_E} {i : Int32} {K : aH → Prop} (h : j < cs.length) (h' : j' < cs.length) : w_asr (KC g b s cs) (adr b j) (adr b j') i K ↔ w_ac cs[j]? cs[j']? (adr b j) (adr b j') i (fun e => K (KC g b s (cs.set j e))) := by
  unfold w_asr w_ac
  rw [KC_at h, KC_at h']
  cases hc : cs[j]? with
  | none => exact Iff.rfl
  | some e =>
    cases he : cs[j']? with
    | none => cases e <;> (try exact Iff.rfl) <;> (rename_i q; obtain ⟨x, y, z⟩ := q; rcases z with z | z | z | z | z <;> exact Iff.rfl)
    | some e' =>
      cases e with
      | inr _ => exact Iff.rfl
      | inl q =>
        obtain ⟨x, y, z⟩ := q
        cases e' with
        | inl _ => rcases z with z | z | z | z | z <;> exact Iff.rfl
        | inr q' =>
          obtain ⟨cj, fs⟩ := q'
          rcases z with z | z | z | z | z
          · exact Iff.rfl
          · exact Iff.rfl
          · exact Iff.rfl
          · exact Iff.rfl
          · dsimp only
            rw [KC_pu h]
theorem put_at {h : aH} {a : Nat} {e : va_E} : (a_put h a e).2.2 a = some e := by
  show va_up _ a _ a = _
  unfold va_up
  rw [if_pos rfl]
theorem put_put {h : aH} {a : Nat} {e e' : va_E} : a_put (a_put h a e) a e' = a_put h a e' := Prod.ext rfl (Prod.ext rfl (funext fun b => by
  show va_up (va_up _ a _) a _ b = va_up _ a _ b
  unfold va_up
  by_cases h : b = a
  · rw [if_pos h, if_pos h]
  · rw [if_neg h, if_neg h, if_neg h]))
theorem put_id {h : aH} {a : Nat} {e : va_E} (he : h.2.2 a = some e) : a_put h a e = h := Prod.ext rfl (Prod.ext rfl (funext fun b => by
  show va_up _ a _ b = _
  unfold va_up
  by_cases hb : b = a
  · rw [if_pos hb, hb, he]
  · rw [if_neg hb]))
theorem as_put {h : aH} {a n : Nat} {f : Nat → Int32} {i v : Int32} {K : aH → Prop} : w_as (a_put h a (.inl (0, n, .inl f))) a i v K ↔ ((a < aRO ∧ vp_in i n) ∧ K (a_put h a (.inl (0, n, .inl (upd f i.toNatClampNeg v))))) := by
  unfold w_as
  rw [put_at]
  show ((a < aRO ∧ ¬ (i < 0 ∨ n ≤ i.toNatClampNeg)) ∧ K (a_put (a_put h a (.inl (0, n, .inl f))) a (.inl (0, n, .inl (upd f i.toNatClampNeg v))))) ↔ _
  rw [put_put]
  exact Iff.rfl
theorem len_put {h : aH} {a n : Nat} {f : Nat → Int32} {K : Value → Prop} (ha : a < aRO) : w_len ((a_put h a (.inl (0, n, .inl f))).2.2 a) a K ↔ K (.int (nI n)) := by
  unfold w_len
  rw [put_at]
  exact ⟨fun q => q.2, fun q => ⟨⟨by decide, Or.inl ha, Or.inr (by decide)⟩, q⟩⟩
theorem fill_L {d : Nat} {h : aH} {a n : Nat} {v : Int32} {Q : Option Value → aH → Prop} (ha : a < aRO) (hn : n < 10000) (hk : ∀ f' : Nat → Int32, (∀ i, i < n → f' i = v) → Q none (a_put h a (.inl (0, n, .inl f')))) :
    ∀ (r j : Nat) (f : Nat → Int32), n - j = r → j ≤ n → (∀ i, i < j → f i = v) → wp d mJ7_fill_53178 5 [some (.ref a), some (.int v), some (.int (nI j)), some (.int (nI n))] [] (a_put h a (.inl (0, n, .inl f))) Q := by
  intro r
  induction r with
  | zero =>
    intro j f h1 h2 hall
    have : j = n := by omega
    subst this
    rw [sJ7_fill_53178_5]
    simp only [sJ7_fill_53178_0, sJ7_fill_53178_1, sJ7_fill_53178_2, sJ7_fill_53178_3, sJ7_fill_53178_4, sJ7_fill_53178_6, sJ7_fill_53178_7, sJ7_fill_53178_10, sJ7_fill_53178_11, sJ7_fill_53178_12, sJ7_fill_53178_13, sJ7_fill_53178_14, sJ7_fill_53178_17, sJ7_fill_53178_20, e_clrI, e_clrR, e_clrU, e_clrN, e_clrL, e_s0, e_s1, e_s2, e_s3, e_s4, e_z0, e_z1, e_f0, e_f1, e_tl, e_tn, e_q0, e_q1, e_zi, e_zj, true_and, and_true, ↓reduceIte, Int32.le_refl, if_true]
    exact hk f hall
  | succ r ih =>
    intro j f h1 h2 hall
    have hle : ¬ nI n ≤ nI j := fun q => by have := (nI_leI (a := n) (b := j) (by omega) (by omega)).mp q; omega
    rw [sJ7_fill_53178_5]
    simp only [sJ7_fill_53178_0, sJ7_fill_53178_1, sJ7_fill_53178_2, sJ7_fill_53178_3, sJ7_fill_53178_4, sJ7_fill_53178_6, sJ7_fill_53178_7, sJ7_fill_53178_10, sJ7_fill_53178_11, sJ7_fill_53178_12, sJ7_fill_53178_13, sJ7_fill_53178_14, sJ7_fill_53178_17, sJ7_fill_53178_20, e_clrI, e_clrR, e_clrU, e_clrN, e_clrL, e_s0, e_s1, e_s2, e_s3, e_s4, e_z0, e_z1, e_f0, e_f1, e_tl, e_tn, e_q0, e_q1, e_zi, e_zj, true_and, and_true, ↓reduceIte, hle, if_false, as_put, ha, vp_in_nI (show j < n by omega) (by omega), nI_clamp (show j < 2 ^ 31 by omega), nI_1]
    refine ih (j + 1) _ (by omega) (by omega) (fun i hi => ?_)
    by_cases hij : i = j
    · rw [hij, pk_us]
    · rw [pk_un hij]; exact hall i (by omega)
theorem fill_g {d : Nat} {h : aH} {a n : Nat} {v : Int32} {Q : Option Value → aH → Prop} {f : Nat → Int32} (he : h.2.2 a = some (.inl (0, n, .inl f))) (ha : a < aRO) (hn : n < 10000) (hk : ∀ f' : Nat → Int32, (∀ i, i < n → f' i = v) → Q none (a_put h a (.inl (0, n, .inl f')))) :
    wp d mJ7_fill_53178 0 [some (.ref a), some (.int v), none, none] [] h Q := by
  rw [← put_id he]
  simp only [sJ7_fill_53178_0, sJ7_fill_53178_1, sJ7_fill_53178_2, sJ7_fill_53178_3, sJ7_fill_53178_4, sJ7_fill_53178_6, sJ7_fill_53178_7, sJ7_fill_53178_10, sJ7_fill_53178_11, sJ7_fill_53178_12, sJ7_fill_53178_13, sJ7_fill_53178_14, sJ7_fill_53178_17, sJ7_fill_53178_20, e_clrI, e_clrR, e_clrU, e_clrN, e_clrL, e_s0, e_s1, e_s2, e_s3, e_s4, e_z0, e_z1, e_f0, e_f1, e_tl, e_tn, e_q0, e_q1, e_zi, e_zj, true_and, and_true, ↓reduceIte, len_put ha]
  rw [put_id he]
  have := fill_L (d := d) ha hn hk n 0 f rfl (by omega) (fun i hi => by omega)
  rw [put_id he] at this
  exact this
theorem fill_k {d : Nat} {g : aH} {b s j n : Nat} {cs : List va_E} {v : Int32} {Q : Option Value → aH → Prop} {f : Nat → Int32} (hb : b < 1000) (hj : j < cs.length) (hj2 : j < 1000) (he : cs[j]? = some (.inl (0, n, .inl f))) (hn : n < 10000) (hk : ∀ f' : Nat → Int32, (∀ i, i < n → f' i = v) → Q none (KC g b s (cs.set j (.inl (0, n, .inl f'))))) :
    wp d mJ7_fill_53178 0 [some (.ref (adr b j)), some (.int v), none, none] [] (KC g b s cs) Q :=
  fill_g (f := f) ((KC_at hj).trans he) (adr_lt hb hj2) hn (fun f' h => by rw [KC_pu hj]; exact hk f' h)
theorem nf_7_0 {x : Nat} : (narrow (a_ty 7 0) (.ref x) = .ref x) ↔ True := ⟨fun _ => trivial, fun _ => rfl⟩
theorem ff_7_0 {x : Nat} : (fits (a_ty 7 0) (.ref x) = true) ↔ True := ⟨fun _ => trivial, fun _ => rfl⟩
theorem nf_7_1 {x : Nat} : (narrow (a_ty 7 1) (.ref x) = .ref x) ↔ True := ⟨fun _ => trivial, fun _ => rfl⟩
theorem ff_7_1 {x : Nat} : (fits (a_ty 7 1) (.ref x) = true) ↔ True := ⟨fun _ => trivial, fun _ => rfl⟩
theorem nf_7_2 {x : Nat} : (narrow (a_ty 7 2) (.ref x) = .ref x) ↔ True := ⟨fun _ => trivial, fun _ => rfl⟩
theorem ff_7_2 {x : Nat} : (fits (a_ty 7 2) (.ref x) = true) ↔ True := ⟨fun _ => trivial, fun _ => rfl⟩
theorem nf_7_3 {x : Nat} : (narrow (a_ty 7 3) (.ref x) = .ref x) ↔ True := ⟨fun _ => trivial, fun _ => rfl⟩
theorem ff_7_3 {x : Nat} : (fits (a_ty 7 3) (.ref x) = true) ↔ True := ⟨fun _ => trivial, fun _ => rfl⟩
theorem nf_7_4 {x : Nat} : (narrow (a_ty 7 4) (.ref x) = .ref x) ↔ True := ⟨fun _ => trivial, fun _ => rfl⟩
theorem ff_7_4 {x : Nat} : (fits (a_ty 7 4) (.ref x) = true) ↔ True := ⟨fun _ => trivial, fun _ => rfl⟩
theorem nf_7_5 {x : Nat} : (narrow (a_ty 7 5) (.ref x) = .ref x) ↔ True := ⟨fun _ => trivial, fun _ => rfl⟩
theorem ff_7_5 {x : Nat} : (fits (a_ty 7 5) (.ref x) = true) ↔ True := ⟨fun _ => trivial, fun _ => rfl⟩
theorem nf_8_0 {x : Nat} : (narrow (a_ty 8 0) (.ref x) = .ref x) ↔ True := ⟨fun _ => trivial, fun _ => rfl⟩
theorem ff_8_0 {x : Nat} : (fits (a_ty 8 0) (.ref x) = true) ↔ True := ⟨fun _ => trivial, fun _ => rfl⟩
theorem nf_8_1 {x : Nat} : (narrow (a_ty 8 1) (.ref x) = .ref x) ↔ True := ⟨fun _ => trivial, fun _ => rfl⟩
theorem ff_8_1 {x : Nat} : (fits (a_ty 8 1) (.ref x) = true) ↔ True := ⟨fun _ => trivial, fun _ => rfl⟩
theorem nf_8_2 {x : Nat} : (narrow (a_ty 8 2) (.ref x) = .ref x) ↔ True := ⟨fun _ => trivial, fun _ => rfl⟩
theorem ff_8_2 {x : Nat} : (fits (a_ty 8 2) (.ref x) = true) ↔ True := ⟨fun _ => trivial, fun _ => rfl⟩
theorem nf_1_0 {x : Nat} : (narrow (a_ty 1 0) (.ref x) = .ref x) ↔ True := ⟨fun _ => trivial, fun _ => rfl⟩
theorem ff_1_0 {x : Nat} : (fits (a_ty 1 0) (.ref x) = true) ↔ True := ⟨fun _ => trivial, fun _ => rfl⟩
theorem nf_1_1 {x : Nat} : (narrow (a_ty 1 1) (.ref x) = .ref x) ↔ True := ⟨fun _ => trivial, fun _ => rfl⟩
theorem ff_1_1 {x : Nat} : (fits (a_ty 1 1) (.ref x) = true) ↔ True := ⟨fun _ => trivial, fun _ => rfl⟩
theorem nf_6_0 {x : Nat} : (narrow (a_ty 6 0) (.ref x) = .ref x) ↔ True := ⟨fun _ => trivial, fun _ => rfl⟩
theorem ff_6_0 {x : Nat} : (fits (a_ty 6 0) (.ref x) = true) ↔ True := ⟨fun _ => trivial, fun _ => rfl⟩
theorem nf_6_1 {x : Nat} : (narrow (a_ty 6 1) (.ref x) = .ref x) ↔ True := ⟨fun _ => trivial, fun _ => rfl⟩
theorem ff_6_1 {x : Nat} : (fits (a_ty 6 1) (.ref x) = true) ↔ True := ⟨fun _ => trivial, fun _ => rfl⟩
theorem nf_0_0 {x : Nat} : (narrow (a_ty 0 0) (.ref x) = .ref x) ↔ True := ⟨fun _ => trivial, fun _ => rfl⟩
theorem ff_0_0 {x : Nat} : (fits (a_ty 0 0) (.ref x) = true) ↔ True := ⟨fun _ => trivial, fun _ => rfl⟩
theorem nf_4_0 {x : Nat} : (narrow (a_ty 4 0) (.ref x) = .ref x) ↔ True := ⟨fun _ => trivial, fun _ => rfl⟩
theorem ff_4_0 {x : Nat} : (fits (a_ty 4 0) (.ref x) = true) ↔ True := ⟨fun _ => trivial, fun _ => rfl⟩
theorem nf_4_1 {x : Nat} : (narrow (a_ty 4 1) (.ref x) = .ref x) ↔ True := ⟨fun _ => trivial, fun _ => rfl⟩
theorem ff_4_1 {x : Nat} : (fits (a_ty 4 1) (.ref x) = true) ↔ True := ⟨fun _ => trivial, fun _ => rfl⟩
theorem nf_4_2 {x : Nat} : (narrow (a_ty 4 2) (.ref x) = .ref x) ↔ True := ⟨fun _ => trivial, fun _ => rfl⟩
theorem ff_4_2 {x : Nat} : (fits (a_ty 4 2) (.ref x) = true) ↔ True := ⟨fun _ => trivial, fun _ => rfl⟩
theorem nf_4_3 {x : Nat} : (narrow (a_ty 4 3) (.ref x) = .ref x) ↔ True := ⟨fun _ => trivial, fun _ => rfl⟩
theorem ff_4_3 {x : Nat} : (fits (a_ty 4 3) (.ref x) = true) ↔ True := ⟨fun _ => trivial, fun _ => rfl⟩
theorem nf_4_4 {x : Nat} : (narrow (a_ty 4 4) (.ref x) = .ref x) ↔ True := ⟨fun _ => trivial, fun _ => rfl⟩
theorem ff_4_4 {x : Nat} : (fits (a_ty 4 4) (.ref x) = true) ↔ True := ⟨fun _ => trivial, fun _ => rfl⟩
theorem nf_4_5 {x : Nat} : (narrow (a_ty 4 5) (.ref x) = .ref x) ↔ True := ⟨fun _ => trivial, fun _ => rfl⟩
theorem ff_4_5 {x : Nat} : (fits (a_ty 4 5) (.ref x) = true) ↔ True := ⟨fun _ => trivial, fun _ => rfl⟩
theorem nf_9_0 {x : Nat} : (narrow (a_ty 9 0) (.ref x) = .ref x) ↔ True := ⟨fun _ => trivial, fun _ => rfl⟩
theorem ff_9_0 {x : Nat} : (fits (a_ty 9 0) (.ref x) = true) ↔ True := ⟨fun _ => trivial, fun _ => rfl⟩
theorem nf_9_1 {x : Nat} : (narrow (a_ty 9 1) (.ref x) = .ref x) ↔ True := ⟨fun _ => trivial, fun _ => rfl⟩
theorem ff_9_1 {x : Nat} : (fits (a_ty 9 1) (.ref x) = true) ↔ True := ⟨fun _ => trivial, fun _ => rfl⟩
theorem nf_9_2 {x : Nat} : (narrow (a_ty 9 2) (.ref x) = .ref x) ↔ True := ⟨fun _ => trivial, fun _ => rfl⟩
theorem ff_9_2 {x : Nat} : (fits (a_ty 9 2) (.ref x) = true) ↔ True := ⟨fun _ => trivial, fun _ => rfl⟩
theorem nf_2_0 {x : Nat} : (narrow (a_ty 2 0) (.ref x) = .ref x) ↔ True := ⟨fun _ => trivial, fun _ => rfl⟩
theorem ff_2_0 {x : Nat} : (fits (a_ty 2 0) (.ref x) = true) ↔ True := ⟨fun _ => trivial, fun _ => rfl⟩
theorem nf_2_1 {x : Nat} : (narrow (a_ty 2 1) (.ref x) = .ref x) ↔ True := ⟨fun _ => trivial, fun _ => rfl⟩
theorem ff_2_1 {x : Nat} : (fits (a_ty 2 1) (.ref x) = true) ↔ True := ⟨fun _ => trivial, fun _ => rfl⟩
theorem nf_2_2 {x : Nat} : (narrow (a_ty 2 2) (.ref x) = .ref x) ↔ True := ⟨fun _ => trivial, fun _ => rfl⟩
theorem ff_2_2 {x : Nat} : (fits (a_ty 2 2) (.ref x) = true) ↔ True := ⟨fun _ => trivial, fun _ => rfl⟩
theorem nf_2_3 {x : Nat} : (narrow (a_ty 2 3) (.ref x) = .ref x) ↔ True := ⟨fun _ => trivial, fun _ => rfl⟩
theorem ff_2_3 {x : Nat} : (fits (a_ty 2 3) (.ref x) = true) ↔ True := ⟨fun _ => trivial, fun _ => rfl⟩
theorem nf_5_0 {x : Nat} : (narrow (a_ty 5 0) (.ref x) = .ref x) ↔ True := ⟨fun _ => trivial, fun _ => rfl⟩
theorem ff_5_0 {x : Nat} : (fits (a_ty 5 0) (.ref x) = true) ↔ True := ⟨fun _ => trivial, fun _ => rfl⟩
theorem nf_10_0 {x : Nat} : (narrow (a_ty 10 0) (.ref x) = .ref x) ↔ True := ⟨fun _ => trivial, fun _ => rfl⟩
theorem ff_10_0 {x : Nat} : (fits (a_ty 10 0) (.ref x) = true) ↔ True := ⟨fun _ => trivial, fun _ => rfl⟩
theorem nf_10_1 {x : Nat} : (narrow (a_ty 10 1) (.ref x) = .ref x) ↔ True := ⟨fun _ => trivial, fun _ => rfl⟩
theorem ff_10_1 {x : Nat} : (fits (a_ty 10 1) (.ref x) = true) ↔ True := ⟨fun _ => trivial, fun _ => rfl⟩
theorem nf_10_2 {x : Nat} : (narrow (a_ty 10 2) (.ref x) = .ref x) ↔ True := ⟨fun _ => trivial, fun _ => rfl⟩
theorem ff_10_2 {x : Nat} : (fits (a_ty 10 2) (.ref x) = true) ↔ True := ⟨fun _ => trivial, fun _ => rfl⟩
theorem nf_10_3 {x : Nat} : (narrow (a_ty 10 3) (.ref x) = .ref x) ↔ True := ⟨fun _ => trivial, fun _ => rfl⟩
theorem ff_10_3 {x : Nat} : (fits (a_ty 10 3) (.ref x) = true) ↔ True := ⟨fun _ => trivial, fun _ => rfl⟩
theorem nf_10_4 {x : Nat} : (narrow (a_ty 10 4) (.ref x) = .ref x) ↔ True := ⟨fun _ => trivial, fun _ => rfl⟩
theorem ff_10_4 {x : Nat} : (fits (a_ty 10 4) (.ref x) = true) ↔ True := ⟨fun _ => trivial, fun _ => rfl⟩
theorem nf_11_0 {x : Nat} : (narrow (a_ty 11 0) (.ref x) = .ref x) ↔ True := ⟨fun _ => trivial, fun _ => rfl⟩
theorem ff_11_0 {x : Nat} : (fits (a_ty 11 0) (.ref x) = true) ↔ True := ⟨fun _ => trivial, fun _ => rfl⟩
theorem nf_11_1 {x : Nat} : (narrow (a_ty 11 1) (.ref x) = .ref x) ↔ True := ⟨fun _ => trivial, fun _ => rfl⟩
theorem ff_11_1 {x : Nat} : (fits (a_ty 11 1) (.ref x) = true) ↔ True := ⟨fun _ => trivial, fun _ => rfl⟩
theorem nf_11_2 {x : Nat} : (narrow (a_ty 11 2) (.ref x) = .ref x) ↔ True := ⟨fun _ => trivial, fun _ => rfl⟩
theorem ff_11_2 {x : Nat} : (fits (a_ty 11 2) (.ref x) = true) ↔ True := ⟨fun _ => trivial, fun _ => rfl⟩
theorem nf_11_7 {x : Nat} : (narrow (a_ty 11 7) (.ref x) = .ref x) ↔ True := ⟨fun _ => trivial, fun _ => rfl⟩
theorem ff_11_7 {x : Nat} : (fits (a_ty 11 7) (.ref x) = true) ↔ True := ⟨fun _ => trivial, fun _ => rfl⟩
theorem nf_11_14 {x : Nat} : (narrow (a_ty 11 14) (.ref x) = .ref x) ↔ True := ⟨fun _ => trivial, fun _ => rfl⟩
theorem ff_11_14 {x : Nat} : (fits (a_ty 11 14) (.ref x) = true) ↔ True := ⟨fun _ => trivial, fun _ => rfl⟩
theorem nf_7_6 {x : Int32} : (narrow (a_ty 7 6) (.int x) = .int x) ↔ True := ⟨fun _ => trivial, fun _ => rfl⟩
theorem ff_7_6 {x : Int32} : (fits (a_ty 7 6) (.int x) = true) ↔ True := ⟨fun _ => trivial, fun _ => rfl⟩
theorem nf_7_7 {x : Int32} : (narrow (a_ty 7 7) (.int x) = .int x) ↔ True := ⟨fun _ => trivial, fun _ => rfl⟩
theorem ff_7_7 {x : Int32} : (fits (a_ty 7 7) (.int x) = true) ↔ True := ⟨fun _ => trivial, fun _ => rfl⟩
theorem nf_1_3 {x : Int32} : (narrow (a_ty 1 3) (.int x) = .int x) ↔ True := ⟨fun _ => trivial, fun _ => rfl⟩
theorem ff_1_3 {x : Int32} : (fits (a_ty 1 3) (.int x) = true) ↔ True := ⟨fun _ => trivial, fun _ => rfl⟩
theorem nf_1_4 {x : Int32} : (narrow (a_ty 1 4) (.int x) = .int x) ↔ True := ⟨fun _ => trivial, fun _ => rfl⟩
theorem ff_1_4 {x : Int32} : (fits (a_ty 1 4) (.int x) = true) ↔ True := ⟨fun _ => trivial, fun _ => rfl⟩
theorem nf_1_5 {x : Int32} : (narrow (a_ty 1 5) (.int x) = .int x) ↔ True := ⟨fun _ => trivial, fun _ => rfl⟩
theorem ff_1_5 {x : Int32} : (fits (a_ty 1 5) (.int x) = true) ↔ True := ⟨fun _ => trivial, fun _ => rfl⟩
theorem nf_1_6 {x : Int32} : (narrow (a_ty 1 6) (.int x) = .int x) ↔ True := ⟨fun _ => trivial, fun _ => rfl⟩
theorem ff_1_6 {x : Int32} : (fits (a_ty 1 6) (.int x) = true) ↔ True := ⟨fun _ => trivial, fun _ => rfl⟩
theorem nf_1_7 {x : Int32} : (narrow (a_ty 1 7) (.int x) = .int x) ↔ True := ⟨fun _ => trivial, fun _ => rfl⟩
theorem ff_1_7 {x : Int32} : (fits (a_ty 1 7) (.int x) = true) ↔ True := ⟨fun _ => trivial, fun _ => rfl⟩
theorem nf_1_8 {x : Int32} : (narrow (a_ty 1 8) (.int x) = .int x) ↔ True := ⟨fun _ => trivial, fun _ => rfl⟩
theorem ff_1_8 {x : Int32} : (fits (a_ty 1 8) (.int x) = true) ↔ True := ⟨fun _ => trivial, fun _ => rfl⟩
theorem nf_4_8 {x : Int32} : (narrow (a_ty 4 8) (.int x) = .int x) ↔ True := ⟨fun _ => trivial, fun _ => rfl⟩
theorem ff_4_8 {x : Int32} : (fits (a_ty 4 8) (.int x) = true) ↔ True := ⟨fun _ => trivial, fun _ => rfl⟩
theorem nf_4_9 {x : Int32} : (narrow (a_ty 4 9) (.int x) = .int x) ↔ True := ⟨fun _ => trivial, fun _ => rfl⟩
theorem ff_4_9 {x : Int32} : (fits (a_ty 4 9) (.int x) = true) ↔ True := ⟨fun _ => trivial, fun _ => rfl⟩
theorem nf_4_10 : (narrow (a_ty 4 10) (.int 1) = .int 1) ↔ True := ⟨fun _ => trivial, fun _ => by decide⟩
theorem ff_4_10 : (fits (a_ty 4 10) (.int 1) = true) ↔ True := ⟨fun _ => trivial, fun _ => by decide⟩
theorem df_0 : a_df 0 = [.null, .int 0] := rfl
theorem df_1 : a_df 1 = [.null, .null, .int 0, .int 0, .int 0, .int 0, .int 0, .int 0, .int 0] := rfl
theorem df_2 : a_df 2 = [.null, .null, .null, .null, .int 0, .int 0, .int 0, .int 0, .int 0, .int 0, .int 0, .int 0, .int 0, .int 0] := rfl
theorem df_3 : a_df 3 = [.int 0, .int 0, .int 0, .int 0, .int 0] := rfl
theorem df_4 : a_df 4 = [.null, .null, .null, .null, .null, .null, .int 0, .int 0, .int 0, .int 0, .int 0, .int 0, .int 0, .int 0, .int 0, .int 0, .int 0] := rfl
theorem df_5 : a_df 5 = [.null, .int 0, .int 0, .int 0, .int 0, .int 0, .int 0, .int 0] := rfl
theorem df_6 : a_df 6 = [.null, .null, .int 0] := rfl
theorem df_7 : a_df 7 = [.null, .null, .null, .null, .null, .null, .int 0, .int 0] := rfl
theorem df_8 : a_df 8 = [.null, .null, .null, .int 0, .int 0] := rfl
theorem df_9 : a_df 9 = [.null, .null, .null] := rfl
theorem df_10 : a_df 10 = [.null, .null, .null, .null, .null] := rfl
theorem df_11 : a_df 11 = [.null, .null, .null, .int 0, .int 0, .int 0, .int 0, .null, .int 0, .int 0, .int 0, .int 0, .int 0, .int 0, .null, .int 0, .int 0, .int 0, .int 0] := rfl
theorem na_3 : ((3 : Int32) < 0) ↔ False := ⟨fun q => absurd q (by decide), False.elim⟩
theorem tn_3 : (3 : Int32).toNatClampNeg = 3 := by decide
theorem na_4 : ((4 : Int32) < 0) ↔ False := ⟨fun q => absurd q (by decide), False.elim⟩
theorem tn_4 : (4 : Int32).toNatClampNeg = 4 := by decide
theorem na_6 : ((6 : Int32) < 0) ↔ False := ⟨fun q => absurd q (by decide), False.elim⟩
theorem tn_6 : (6 : Int32).toNatClampNeg = 6 := by decide
theorem na_11 : ((11 : Int32) < 0) ↔ False := ⟨fun q => absurd q (by decide), False.elim⟩
theorem tn_11 : (11 : Int32).toNatClampNeg = 11 := by decide
theorem na_12 : ((12 : Int32) < 0) ↔ False := ⟨fun q => absurd q (by decide), False.elim⟩
theorem tn_12 : (12 : Int32).toNatClampNeg = 12 := by decide
theorem na_20 : ((20 : Int32) < 0) ↔ False := ⟨fun q => absurd q (by decide), False.elim⟩
theorem tn_20 : (20 : Int32).toNatClampNeg = 20 := by decide
theorem na_35 : ((35 : Int32) < 0) ↔ False := ⟨fun q => absurd q (by decide), False.elim⟩
theorem tn_35 : (35 : Int32).toNatClampNeg = 35 := by decide
theorem na_48 : ((48 : Int32) < 0) ↔ False := ⟨fun q => absurd q (by decide), False.elim⟩
theorem tn_48 : (48 : Int32).toNatClampNeg = 48 := by decide
theorem na_400 : ((400 : Int32) < 0) ↔ False := ⟨fun q => absurd q (by decide), False.elim⟩
theorem tn_400 : (400 : Int32).toNatClampNeg = 400 := by decide
theorem na_3848 : ((3848 : Int32) < 0) ↔ False := ⟨fun q => absurd q (by decide), False.elim⟩
theorem tn_3848 : (3848 : Int32).toNatClampNeg = 3848 := by decide
theorem c_State {d : Nat} {g : aH} {b s : Nat} (hb : b < 1000) {Q : Option Value → aH → Prop}
    (hk : ∀ (s' : Nat) (le gr fa : Nat → Int32), s' ≤ s + 2000 → (∀ i, i < 4 → le i = 1) → (∀ i, i < 4 → gr i = 20) → (∀ i, i < 11 → fa i = -1) → Q none (KC g b s' [.inr (7, [.ref (adr b 1), .ref (adr b 5), .ref (adr b 8), .ref (adr b 11), .ref (adr b 13), .ref (adr b 15), .int 0, .int (-1)]), .inr (8, [.ref (adr b 2), .ref (adr b 3), .ref (adr b 4), .int 0, .int 0]), .inl (1, 6, .inr (.inl (fun _ => 0))), .inl (1, 6, .inr (.inl (fun _ => 0))), .inl (0, 6, .inl (fun _ => 0)), .inr (1, [.ref (adr b 6), .ref (adr b 7), .int 0, .int (-1), .int (-1), .int (-1), .int (-1), .int (-1), .int (-1)]), .inl (0, 4, .inl le), .inl (0, 4, .inl gr), .inr (6, [.ref (adr b 9), .ref (adr b 10), .int 0]), .inl (0, 20, .inl (fun _ => 0)), .inl (0, 20, .inl (fun _ => 0)), .inr (0, [.ref (adr b 12), .int 0]), .inl (0, 400, .inl (fun _ => 0)), .inr (0, [.ref (adr b 14), .int 0]), .inl (0, 400, .inl (fun _ => 0)), .inl (0, 11, .inl fa)])) :
    wp (d + 3) mX7_init 0 [some (.ref (adr b 0))] [] (KC g b (s + a_N 7) [.inr (7, a_df 7)]) Q := by
  simp only [sX7_init_0, sX7_init_1, sX7_init_4, sX7_init_5, sX7_init_8, sX7_init_8i, sX7_init_9, sX7_init_12, sX7_init_15, sX7_init_16, sX7_init_19, sX7_init_19i, sX7_init_20, sX7_init_23, sX7_init_26, sX7_init_27, sX7_init_30, sX7_init_30i, sX7_init_31, sX7_init_34, sX7_init_37, sX7_init_38, sX7_init_41, sX7_init_41i, sX7_init_42, sX7_init_45, sX7_init_48, sX7_init_49, sX7_init_52, sX7_init_52i, sX7_init_53, sX7_init_56, sX7_init_59, sX7_init_60, sX7_init_62, sX7_init_64, sX7_init_67, sX7_init_68, sX7_init_69, sX7_init_72, sX7_init_73, sX7_init_74, sX7_init_77, sX7_init_78, sX7_init_81, sX7_init_82, sX7_init_85, sX8_init_0, sX8_init_1, sX8_init_4, sX8_init_5, sX8_init_7, sX8_init_9, sX8_init_12, sX8_init_13, sX8_init_15, sX8_init_17, sX8_init_20, sX8_init_21, sX8_init_23, sX8_init_25, sX8_init_28, sX1_init_0, sX1_init_1, sX1_init_4, sX1_init_5, sX1_init_6, sX1_init_8, sX1_init_11, sX1_init_12, sX1_init_13, sX1_init_15, sX1_init_18, sX1_init_19, sX1_init_20, sX1_init_23, sX1_init_24, sX1_init_25, sX1_init_28, sX1_init_29, sX1_init_30, sX1_init_33, sX1_init_34, sX1_init_35, sX1_init_38, sX1_init_39, sX1_init_40, sX1_init_43, sX1_init_44, sX1_init_45, sX1_init_48, sX1_init_49, sX1_init_52, sX1_init_53, sX1_init_56, sX1_init_57, sX1_init_60, sX1_init_62, sX1_init_65, e_clrI, e_clrR, e_clrU, e_clrN, e_clrL, e_s0, e_s1, e_s2, e_s3, e_s4, e_z0, e_z1, e_f0, e_f1, e_tl, e_tn, e_q0, e_q1, e_zi, e_zj, true_and, and_true, ↓reduceIte, KC_1, KC_at, KC_nw, KC_pf, pc_s, gf_s, or_false, false_or, or_self, List.length_cons, List.length_nil, List.cons_append, List.nil_append, List.getElem?_cons_zero, List.getElem?_cons_succ, List.set_cons_zero, List.set_cons_succ, Nat.reduceAdd, Nat.reduceLT, Nat.zero_add, or_true, eq_self, Nat.lt_add_left_iff_pos, adr_lt hb, adr_ge hb, not_false_eq_true, not_true_eq_false, nf_7_0, ff_7_0, nf_7_1, ff_7_1, nf_7_2, ff_7_2, nf_7_3, ff_7_3, nf_7_4, ff_7_4, nf_7_5, ff_7_5, nf_8_0, ff_8_0, nf_8_1, ff_8_1, nf_8_2, ff_8_2, nf_1_0, ff_1_0, nf_1_1, ff_1_1, nf_6_0, ff_6_0, nf_6_1, ff_6_1, nf_0_0, ff_0_0, nf_4_0, ff_4_0, nf_4_1, ff_4_1, nf_4_2, ff_4_2, nf_4_3, ff_4_3, nf_4_4, ff_4_4, nf_4_5, ff_4_5, nf_9_0, ff_9_0, nf_9_1, ff_9_1, nf_9_2, ff_9_2, nf_2_0, ff_2_0, nf_2_1, ff_2_1, nf_2_2, ff_2_2, nf_2_3, ff_2_3, nf_5_0, ff_5_0, nf_10_0, ff_10_0, nf_10_1, ff_10_1, nf_10_2, ff_10_2, nf_10_3, ff_10_3, nf_10_4, ff_10_4, nf_11_0, ff_11_0, nf_11_1, ff_11_1, nf_11_2, ff_11_2, nf_11_7, ff_11_7, nf_11_14, ff_11_14, nf_7_6, ff_7_6, nf_7_7, ff_7_7, nf_1_3, ff_1_3, nf_1_4, ff_1_4, nf_1_5, ff_1_5, nf_1_6, ff_1_6, nf_1_7, ff_1_7, nf_1_8, ff_1_8, nf_4_8, ff_4_8, nf_4_9, ff_4_9, nf_4_10, ff_4_10, df_0, df_1, df_2, df_3, df_4, df_5, df_6, df_7, df_8, df_9, df_10, df_11, na_3, tn_3, na_4, tn_4, na_6, tn_6, na_11, tn_11, na_12, tn_12, na_20, tn_20, na_35, tn_35, na_48, tn_48, na_400, tn_400, na_3848, tn_3848]
  refine fill_k (f := fun _ => 0) hb (Nat.le_of_ble_eq_true rfl) (by decide) rfl (by decide) (fun le hle => ?_)
  simp only [sX7_init_0, sX7_init_1, sX7_init_4, sX7_init_5, sX7_init_8, sX7_init_8i, sX7_init_9, sX7_init_12, sX7_init_15, sX7_init_16, sX7_init_19, sX7_init_19i, sX7_init_20, sX7_init_23, sX7_init_26, sX7_init_27, sX7_init_30, sX7_init_30i, sX7_init_31, sX7_init_34, sX7_init_37, sX7_init_38, sX7_init_41, sX7_init_41i, sX7_init_42, sX7_init_45, sX7_init_48, sX7_init_49, sX7_init_52, sX7_init_52i, sX7_init_53, sX7_init_56, sX7_init_59, sX7_init_60, sX7_init_62, sX7_init_64, sX7_init_67, sX7_init_68, sX7_init_69, sX7_init_72, sX7_init_73, sX7_init_74, sX7_init_77, sX7_init_78, sX7_init_81, sX7_init_82, sX7_init_85, sX8_init_0, sX8_init_1, sX8_init_4, sX8_init_5, sX8_init_7, sX8_init_9, sX8_init_12, sX8_init_13, sX8_init_15, sX8_init_17, sX8_init_20, sX8_init_21, sX8_init_23, sX8_init_25, sX8_init_28, sX1_init_0, sX1_init_1, sX1_init_4, sX1_init_5, sX1_init_6, sX1_init_8, sX1_init_11, sX1_init_12, sX1_init_13, sX1_init_15, sX1_init_18, sX1_init_19, sX1_init_20, sX1_init_23, sX1_init_24, sX1_init_25, sX1_init_28, sX1_init_29, sX1_init_30, sX1_init_33, sX1_init_34, sX1_init_35, sX1_init_38, sX1_init_39, sX1_init_40, sX1_init_43, sX1_init_44, sX1_init_45, sX1_init_48, sX1_init_49, sX1_init_52, sX1_init_53, sX1_init_56, sX1_init_57, sX1_init_60, sX1_init_62, sX1_init_65, e_clrI, e_clrR, e_clrU, e_clrN, e_clrL, e_s0, e_s1, e_s2, e_s3, e_s4, e_z0, e_z1, e_f0, e_f1, e_tl, e_tn, e_q0, e_q1, e_zi, e_zj, true_and, and_true, ↓reduceIte, KC_1, KC_at, KC_nw, KC_pf, pc_s, gf_s, or_false, false_or, or_self, List.length_cons, List.length_nil, List.cons_append, List.nil_append, List.getElem?_cons_zero, List.getElem?_cons_succ, List.set_cons_zero, List.set_cons_succ, Nat.reduceAdd, Nat.reduceLT, Nat.zero_add, or_true, eq_self, Nat.lt_add_left_iff_pos, adr_lt hb, adr_ge hb, not_false_eq_true, not_true_eq_false, nf_7_0, ff_7_0, nf_7_1, ff_7_1, nf_7_2, ff_7_2, nf_7_3, ff_7_3, nf_7_4, ff_7_4, nf_7_5, ff_7_5, nf_8_0, ff_8_0, nf_8_1, ff_8_1, nf_8_2, ff_8_2, nf_1_0, ff_1_0, nf_1_1, ff_1_1, nf_6_0, ff_6_0, nf_6_1, ff_6_1, nf_0_0, ff_0_0, nf_4_0, ff_4_0, nf_4_1, ff_4_1, nf_4_2, ff_4_2, nf_4_3, ff_4_3, nf_4_4, ff_4_4, nf_4_5, ff_4_5, nf_9_0, ff_9_0, nf_9_1, ff_9_1, nf_9_2, ff_9_2, nf_2_0, ff_2_0, nf_2_1, ff_2_1, nf_2_2, ff_2_2, nf_2_3, ff_2_3, nf_5_0, ff_5_0, nf_10_0, ff_10_0, nf_10_1, ff_10_1, nf_10_2, ff_10_2, nf_10_3, ff_10_3, nf_10_4, ff_10_4, nf_11_0, ff_11_0, nf_11_1, ff_11_1, nf_11_2, ff_11_2, nf_11_7, ff_11_7, nf_11_14, ff_11_14, nf_7_6, ff_7_6, nf_7_7, ff_7_7, nf_1_3, ff_1_3, nf_1_4, ff_1_4, nf_1_5, ff_1_5, nf_1_6, ff_1_6, nf_1_7, ff_1_7, nf_1_8, ff_1_8, nf_4_8, ff_4_8, nf_4_9, ff_4_9, nf_4_10, ff_4_10, df_0, df_1, df_2, df_3, df_4, df_5, df_6, df_7, df_8, df_9, df_10, df_11, na_3, tn_3, na_4, tn_4, na_6, tn_6, na_11, tn_11, na_12, tn_12, na_20, tn_20, na_35, tn_35, na_48, tn_48, na_400, tn_400, na_3848, tn_3848]
  refine fill_k (f := fun _ => 0) hb (Nat.le_of_ble_eq_true rfl) (by decide) rfl (by decide) (fun gr hgr => ?_)
  simp only [sX7_init_0, sX7_init_1, sX7_init_4, sX7_init_5, sX7_init_8, sX7_init_8i, sX7_init_9, sX7_init_12, sX7_init_15, sX7_init_16, sX7_init_19, sX7_init_19i, sX7_init_20, sX7_init_23, sX7_init_26, sX7_init_27, sX7_init_30, sX7_init_30i, sX7_init_31, sX7_init_34, sX7_init_37, sX7_init_38, sX7_init_41, sX7_init_41i, sX7_init_42, sX7_init_45, sX7_init_48, sX7_init_49, sX7_init_52, sX7_init_52i, sX7_init_53, sX7_init_56, sX7_init_59, sX7_init_60, sX7_init_62, sX7_init_64, sX7_init_67, sX7_init_68, sX7_init_69, sX7_init_72, sX7_init_73, sX7_init_74, sX7_init_77, sX7_init_78, sX7_init_81, sX7_init_82, sX7_init_85, sX8_init_0, sX8_init_1, sX8_init_4, sX8_init_5, sX8_init_7, sX8_init_9, sX8_init_12, sX8_init_13, sX8_init_15, sX8_init_17, sX8_init_20, sX8_init_21, sX8_init_23, sX8_init_25, sX8_init_28, sX1_init_0, sX1_init_1, sX1_init_4, sX1_init_5, sX1_init_6, sX1_init_8, sX1_init_11, sX1_init_12, sX1_init_13, sX1_init_15, sX1_init_18, sX1_init_19, sX1_init_20, sX1_init_23, sX1_init_24, sX1_init_25, sX1_init_28, sX1_init_29, sX1_init_30, sX1_init_33, sX1_init_34, sX1_init_35, sX1_init_38, sX1_init_39, sX1_init_40, sX1_init_43, sX1_init_44, sX1_init_45, sX1_init_48, sX1_init_49, sX1_init_52, sX1_init_53, sX1_init_56, sX1_init_57, sX1_init_60, sX1_init_62, sX1_init_65, sX6_init_0, sX6_init_1, sX6_init_4, sX6_init_5, sX6_init_7, sX6_init_9, sX6_init_12, sX6_init_13, sX6_init_15, sX6_init_17, sX6_init_20, sX0_init_0, sX0_init_1, sX0_init_4, sX0_init_5, sX0_init_8, sX0_init_10, sX0_init_13, e_clrI, e_clrR, e_clrU, e_clrN, e_clrL, e_s0, e_s1, e_s2, e_s3, e_s4, e_z0, e_z1, e_f0, e_f1, e_tl, e_tn, e_q0, e_q1, e_zi, e_zj, true_and, and_true, ↓reduceIte, KC_1, KC_at, KC_nw, KC_pf, pc_s, gf_s, or_false, false_or, or_self, List.length_cons, List.length_nil, List.cons_append, List.nil_append, List.getElem?_cons_zero, List.getElem?_cons_succ, List.set_cons_zero, List.set_cons_succ, Nat.reduceAdd, Nat.reduceLT, Nat.zero_add, or_true, eq_self, Nat.lt_add_left_iff_pos, adr_lt hb, adr_ge hb, not_false_eq_true, not_true_eq_false, nf_7_0, ff_7_0, nf_7_1, ff_7_1, nf_7_2, ff_7_2, nf_7_3, ff_7_3, nf_7_4, ff_7_4, nf_7_5, ff_7_5, nf_8_0, ff_8_0, nf_8_1, ff_8_1, nf_8_2, ff_8_2, nf_1_0, ff_1_0, nf_1_1, ff_1_1, nf_6_0, ff_6_0, nf_6_1, ff_6_1, nf_0_0, ff_0_0, nf_4_0, ff_4_0, nf_4_1, ff_4_1, nf_4_2, ff_4_2, nf_4_3, ff_4_3, nf_4_4, ff_4_4, nf_4_5, ff_4_5, nf_9_0, ff_9_0, nf_9_1, ff_9_1, nf_9_2, ff_9_2, nf_2_0, ff_2_0, nf_2_1, ff_2_1, nf_2_2, ff_2_2, nf_2_3, ff_2_3, nf_5_0, ff_5_0, nf_10_0, ff_10_0, nf_10_1, ff_10_1, nf_10_2, ff_10_2, nf_10_3, ff_10_3, nf_10_4, ff_10_4, nf_11_0, ff_11_0, nf_11_1, ff_11_1, nf_11_2, ff_11_2, nf_11_7, ff_11_7, nf_11_14, ff_11_14, nf_7_6, ff_7_6, nf_7_7, ff_7_7, nf_1_3, ff_1_3, nf_1_4, ff_1_4, nf_1_5, ff_1_5, nf_1_6, ff_1_6, nf_1_7, ff_1_7, nf_1_8, ff_1_8, nf_4_8, ff_4_8, nf_4_9, ff_4_9, nf_4_10, ff_4_10, df_0, df_1, df_2, df_3, df_4, df_5, df_6, df_7, df_8, df_9, df_10, df_11, na_3, tn_3, na_4, tn_4, na_6, tn_6, na_11, tn_11, na_12, tn_12, na_20, tn_20, na_35, tn_35, na_48, tn_48, na_400, tn_400, na_3848, tn_3848]
  refine fill_k (f := fun _ => 0) hb (Nat.le_of_ble_eq_true rfl) (by decide) rfl (by decide) (fun fa hfa => ?_)
  simp only [sX7_init_0, sX7_init_1, sX7_init_4, sX7_init_5, sX7_init_8, sX7_init_8i, sX7_init_9, sX7_init_12, sX7_init_15, sX7_init_16, sX7_init_19, sX7_init_19i, sX7_init_20, sX7_init_23, sX7_init_26, sX7_init_27, sX7_init_30, sX7_init_30i, sX7_init_31, sX7_init_34, sX7_init_37, sX7_init_38, sX7_init_41, sX7_init_41i, sX7_init_42, sX7_init_45, sX7_init_48, sX7_init_49, sX7_init_52, sX7_init_52i, sX7_init_53, sX7_init_56, sX7_init_59, sX7_init_60, sX7_init_62, sX7_init_64, sX7_init_67, sX7_init_68, sX7_init_69, sX7_init_72, sX7_init_73, sX7_init_74, sX7_init_77, sX7_init_78, sX7_init_81, sX7_init_82, sX7_init_85, e_clrI, e_clrR, e_clrU, e_clrN, e_clrL, e_s0, e_s1, e_s2, e_s3, e_s4, e_z0, e_z1, e_f0, e_f1, e_tl, e_tn, e_q0, e_q1, e_zi, e_zj, true_and, and_true, ↓reduceIte, KC_1, KC_at, KC_nw, KC_pf, pc_s, gf_s, or_false, false_or, or_self, List.length_cons, List.length_nil, List.cons_append, List.nil_append, List.getElem?_cons_zero, List.getElem?_cons_succ, List.set_cons_zero, List.set_cons_succ, Nat.reduceAdd, Nat.reduceLT, Nat.zero_add, or_true, eq_self, Nat.lt_add_left_iff_pos, adr_lt hb, adr_ge hb, not_false_eq_true, not_true_eq_false, nf_7_0, ff_7_0, nf_7_1, ff_7_1, nf_7_2, ff_7_2, nf_7_3, ff_7_3, nf_7_4, ff_7_4, nf_7_5, ff_7_5, nf_8_0, ff_8_0, nf_8_1, ff_8_1, nf_8_2, ff_8_2, nf_1_0, ff_1_0, nf_1_1, ff_1_1, nf_6_0, ff_6_0, nf_6_1, ff_6_1, nf_0_0, ff_0_0, nf_4_0, ff_4_0, nf_4_1, ff_4_1, nf_4_2, ff_4_2, nf_4_3, ff_4_3, nf_4_4, ff_4_4, nf_4_5, ff_4_5, nf_9_0, ff_9_0, nf_9_1, ff_9_1, nf_9_2, ff_9_2, nf_2_0, ff_2_0, nf_2_1, ff_2_1, nf_2_2, ff_2_2, nf_2_3, ff_2_3, nf_5_0, ff_5_0, nf_10_0, ff_10_0, nf_10_1, ff_10_1, nf_10_2, ff_10_2, nf_10_3, ff_10_3, nf_10_4, ff_10_4, nf_11_0, ff_11_0, nf_11_1, ff_11_1, nf_11_2, ff_11_2, nf_11_7, ff_11_7, nf_11_14, ff_11_14, nf_7_6, ff_7_6, nf_7_7, ff_7_7, nf_1_3, ff_1_3, nf_1_4, ff_1_4, nf_1_5, ff_1_5, nf_1_6, ff_1_6, nf_1_7, ff_1_7, nf_1_8, ff_1_8, nf_4_8, ff_4_8, nf_4_9, ff_4_9, nf_4_10, ff_4_10, df_0, df_1, df_2, df_3, df_4, df_5, df_6, df_7, df_8, df_9, df_10, df_11, na_3, tn_3, na_4, tn_4, na_6, tn_6, na_11, tn_11, na_12, tn_12, na_20, tn_20, na_35, tn_35, na_48, tn_48, na_400, tn_400, na_3848, tn_3848]
  exact hk _ le gr fa (by simp only [a_N]; omega) hle hgr hfa
