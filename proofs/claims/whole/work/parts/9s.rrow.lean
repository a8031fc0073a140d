/-! ===== readRow, as a run over tokens ===== -/
def fw (r1 r2 r3 : Int32) (pc : Nat) (F : Int32 × Int32 × Int32 × Int32) : Int32 × Int32 × Int32 × Int32 := if pc = 78 then (r1, F.2.1, F.2.2.1, F.2.2.2) else if pc = 79 then (F.1, r1, F.2.2.1, F.2.2.2) else if pc = 84 then (F.1, F.2.1, r2, F.2.2.2) else if pc = 88 then (F.1, F.2.1, F.2.2.1, r3) else F
def fws (r1 r2 r3 : Int32) (ps : List Nat) (F : Int32 × Int32 × Int32 × Int32) : Int32 × Int32 × Int32 × Int32 := ps.foldl (fun F pc => fw r1 r2 r3 pc F) F
def root : List Nat := [0, 0, 0, 0, 0, 0, 0, 0, 0, 0, 0, 0]
def nuC (L : Nat) (B : Nat → Nat) (c s : Nat) : Int32 := if c = 1 then nI (vld L B s) else -1
/-- the class's run: a fault's place, or the sentences, the question, its place -/
def crun (L : Nat) (B : Nat → Nat) (wd : Nat → Int64) (a b : Nat) : Nat → Nat → List (Nat × Int32 × Int32 × Int32 × Int32) → Int32 × Int32 × Int32 × Int32 → List Nat → Bool → Nat → Nat ⊕ (List (Nat × Int32 × Int32 × Int32 × Int32) × (Nat × Int32 × Int32 × Int32 × Int32) × Nat)
  | 0, _, _, _, _, _, _ => .inl 0
  | f + 1, p, S, F, R, op, pl =>
    if (cod L B wd a b (sk L B p)).toNatClampNeg = 0 then .inl (sk L B p) else
    match (vgo (cod L B wd a b (sk L B p)).toNatClampNeg 0 R).1 with
    | none => if (vgo (cod L B wd a b (sk L B p)).toNatClampNeg 0 R).2.1.any (fun r => decide (r ≠ 99)) then crun L B wd a b f (nxt L B (sk L B p)) S (fws (nmC (cod L B wd a b (sk L B p)).toNatClampNeg) (tgC (cod L B wd a b (sk L B p)).toNatClampNeg) (nuC L B (cod L B wd a b (sk L B p)).toNatClampNeg (sk L B p)) (vgo (cod L B wd a b (sk L B p)).toNatClampNeg 0 R).2.2 F) (vgo (cod L B wd a b (sk L B p)).toNatClampNeg 0 R).2.1 false (if op then sk L B p else pl) else .inl (sk L B p)
    | some k => if k < 8 then crun L B wd a b f (nxt L B (sk L B p)) (S ++ [(k, fws (nmC (cod L B wd a b (sk L B p)).toNatClampNeg) (tgC (cod L B wd a b (sk L B p)).toNatClampNeg) (nuC L B (cod L B wd a b (sk L B p)).toNatClampNeg (sk L B p)) (vgo (cod L B wd a b (sk L B p)).toNatClampNeg 0 R).2.2 F)]) (-1, -1, -1, -1) root true (if op then sk L B p else pl)
      else if (cod L B wd a b (sk L B (nxt L B (sk L B p)))).toNatClampNeg = 0 then .inr (S, (k, fws (nmC (cod L B wd a b (sk L B p)).toNatClampNeg) (tgC (cod L B wd a b (sk L B p)).toNatClampNeg) (nuC L B (cod L B wd a b (sk L B p)).toNatClampNeg (sk L B p)) (vgo (cod L B wd a b (sk L B p)).toNatClampNeg 0 R).2.2 F), if op then sk L B p else pl) else .inl (sk L B (nxt L B (sk L B p)))
theorem crun_s {L : Nat} {B : Nat → Nat} {wd : Nat → Int64} {a b f p c s : Nat} {S : List (Nat × Int32 × Int32 × Int32 × Int32)} {F : Int32 × Int32 × Int32 × Int32} {R : List Nat} {op : Bool} {pl : Nat} (hs : sk L B p = s) (hc : cod L B wd a b s = nI c) (hc61 : c < 61) :
    crun L B wd a b (f + 1) p S F R op pl = (if c = 0 then .inl s else match (vgo c 0 R).1 with
      | none => if (vgo c 0 R).2.1.any (fun r => decide (r ≠ 99)) then crun L B wd a b f (nxt L B s) S (fws (nmC c) (tgC c) (nuC L B c s) (vgo c 0 R).2.2 F) (vgo c 0 R).2.1 false (if op then s else pl) else .inl s
      | some k => if k < 8 then crun L B wd a b f (nxt L B s) (S ++ [(k, fws (nmC c) (tgC c) (nuC L B c s) (vgo c 0 R).2.2 F)]) (-1, -1, -1, -1) root true (if op then s else pl)
        else if (cod L B wd a b (sk L B (nxt L B s))).toNatClampNeg = 0 then .inr (S, (k, fws (nmC c) (tgC c) (nuC L B c s) (vgo c 0 R).2.2 F), if op then s else pl) else .inl (sk L B (nxt L B s))) := by
  have e : (cod L B wd a b (sk L B p)).toNatClampNeg = c := by rw [hs, hc, nI_clamp (by omega)]
  show (if (cod L B wd a b (sk L B p)).toNatClampNeg = 0 then _ else _) = _
  rw [e, hs]
def slF (qs : Nat → Int32) (i : Nat) (F : Int32 × Int32 × Int32 × Int32) : Prop := qs (5 * i + 1) = F.1 ∧ qs (5 * i + 2) = F.2.1 ∧ qs (5 * i + 3) = F.2.2.1 ∧ qs (5 * i + 4) = F.2.2.2
def slS (qs : Nat → Int32) (i : Nat) (t : Nat × Int32 × Int32 × Int32 × Int32) : Prop := qs (5 * i) = fch t.1 ∧ slF qs i t.2
/-- the sentences that were read, while there are not too many -/
def qR (qs : Nat → Int32) (S : List (Nat × Int32 × Int32 × Int32 × Int32)) (F : Int32 × Int32 × Int32 × Int32) : Prop := S.length ≤ 5 → (∀ i t, S[i]? = some t → slS qs i t) ∧ slF qs S.length F
theorem qws_o {j k : Nat} {r1 r2 r3 : Int32} (hk : ∀ f, 1 ≤ f → f < 5 → k ≠ 5 * j + f) : ∀ (ps : List Nat) (qs : Nat → Int32), qws j r1 r2 r3 ps qs k = qs k
  | [], _ => rfl
  | pc :: ps, qs => by
    show qws j r1 r2 r3 ps (qw j r1 r2 r3 pc qs) k = _
    rw [qws_o hk ps]
    unfold qw
    have a1 := hk 1 (by omega) (by omega)
    have a2 := hk 2 (by omega) (by omega)
    have a3 := hk 3 (by omega) (by omega)
    have a4 := hk 4 (by omega) (by omega)
    by_cases c1 : pc = 78
    · rw [if_pos c1, pk_un a1]
    · rw [if_neg c1]
      by_cases c2 : pc = 79
      · rw [if_pos c2, pk_un a2]
      · rw [if_neg c2]
        by_cases c3 : pc = 84
        · rw [if_pos c3, pk_un a3]
        · rw [if_neg c3]
          by_cases c4 : pc = 88
          · rw [if_pos c4, pk_un a4]
          · rw [if_neg c4]
theorem qws_f {j : Nat} {r1 r2 r3 : Int32} : ∀ (ps : List Nat) (qs : Nat → Int32) (F : Int32 × Int32 × Int32 × Int32), slF qs j F → slF (qws j r1 r2 r3 ps qs) j (fws r1 r2 r3 ps F)
  | [], _, _ => fun h => h
  | pc :: ps, qs, F => by
    intro h
    show slF (qws j r1 r2 r3 ps (qw j r1 r2 r3 pc qs)) j (fws r1 r2 r3 ps (fw r1 r2 r3 pc F))
    refine qws_f ps _ _ ?_
    obtain ⟨h1, h2, h3, h4⟩ := h
    unfold qw fw slF
    by_cases c1 : pc = 78
    · simp only [c1, if_true]
      exact ⟨pk_us, by rw [pk_un (by omega)]; exact h2, by rw [pk_un (by omega)]; exact h3, by rw [pk_un (by omega)]; exact h4⟩
    · simp only [c1, if_false]
      by_cases c2 : pc = 79
      · simp only [c2, if_true]
        exact ⟨by rw [pk_un (by omega)]; exact h1, pk_us, by rw [pk_un (by omega)]; exact h3, by rw [pk_un (by omega)]; exact h4⟩
      · simp only [c2, if_false]
        by_cases c3 : pc = 84
        · simp only [c3, if_true]
          exact ⟨by rw [pk_un (by omega)]; exact h1, by rw [pk_un (by omega)]; exact h2, pk_us, by rw [pk_un (by omega)]; exact h4⟩
        · simp only [c3, if_false]
          by_cases c4 : pc = 88
          · simp only [c4, if_true]
            exact ⟨by rw [pk_un (by omega)]; exact h1, by rw [pk_un (by omega)]; exact h2, by rw [pk_un (by omega)]; exact h3, pk_us⟩
          · simp only [c4, if_false]
            exact ⟨h1, h2, h3, h4⟩
theorem slt_5 {n : Nat} (h : n ≤ 5) : slt n = n := by unfold slt; omega
theorem qR_w {qs : Nat → Int32} {S : List (Nat × Int32 × Int32 × Int32 × Int32)} {F : Int32 × Int32 × Int32 × Int32} {r1 r2 r3 : Int32} (ps : List Nat) (h : qR qs S F) : qR (qws (slt S.length) r1 r2 r3 ps qs) S (fws r1 r2 r3 ps F) := by
  intro h5
  obtain ⟨h1, h2⟩ := h h5
  rw [slt_5 h5]
  refine ⟨fun i t ht => ?_, qws_f ps qs F h2⟩
  have hi : i < S.length := by
    rcases Nat.lt_or_ge i S.length with h | h
    · exact h
    · rw [List.getElem?_eq_none h] at ht; cases ht
  obtain ⟨a0, a1, a2, a3, a4⟩ := h1 i t ht
  refine ⟨?_, ?_, ?_, ?_, ?_⟩
  · rw [qws_o (fun f h1 h2 => by omega)]; exact a0
  · rw [qws_o (fun f h1 h2 => by omega)]; exact a1
  · rw [qws_o (fun f h1 h2 => by omega)]; exact a2
  · rw [qws_o (fun f h1 h2 => by omega)]; exact a3
  · rw [qws_o (fun f h1 h2 => by omega)]; exact a4
theorem qclr_o {j k : Nat} {qs : Nat → Int32} (h : ∀ f, f < 5 → k ≠ 5 * j + f) : qclr j qs k = qs k := by
  unfold qclr
  rw [pk_un (h 4 (by omega)), pk_un (h 3 (by omega)), pk_un (h 2 (by omega)), pk_un (h 1 (by omega)), pk_un (by have := h 0 (by omega); omega)]
theorem qclr_f {j : Nat} {qs : Nat → Int32} : slF (qclr j qs) j (-1, -1, -1, -1) := by
  unfold qclr slF
  refine ⟨?_, ?_, ?_, ?_⟩
  · rw [pk_un (by omega), pk_un (by omega), pk_un (by omega), pk_us]
  · rw [pk_un (by omega), pk_un (by omega), pk_us]
  · rw [pk_un (by omega), pk_us]
  · rw [pk_us]
theorem qR_c {qs : Nat → Int32} {S : List (Nat × Int32 × Int32 × Int32 × Int32)} {F : Int32 × Int32 × Int32 × Int32} {k : Nat} (h : qR qs S F) : qR (qclr (slt (S.length + 1)) (upd qs (5 * slt S.length) (fch k))) (S ++ [(k, F)]) (-1, -1, -1, -1) := by
  intro h5
  rw [List.length_append, List.length_singleton] at h5 ⊢
  obtain ⟨h1, h2⟩ := h (by omega)
  rw [slt_5 (by omega), slt_5 (by omega)]
  refine ⟨fun i t ht => ?_, qclr_f⟩
  have hi : i < S.length + 1 := by
    rcases Nat.lt_or_ge i (S.length + 1) with h | h
    · exact h
    · rw [List.getElem?_eq_none (by simpa using h)] at ht; cases ht
  have ho : ∀ f, f < 5 → qclr (S.length + 1) (upd qs (5 * S.length) (fch k)) (5 * i + f) = upd qs (5 * S.length) (fch k) (5 * i + f) := fun f hf => qclr_o (fun f' hf' => by omega)
  by_cases hiS : i = S.length
  · subst hiS
    rw [List.getElem?_append_right (Nat.le_refl _)] at ht
    simp at ht
    subst ht
    obtain ⟨a1, a2, a3, a4⟩ := h2
    refine ⟨?_, ?_, ?_, ?_, ?_⟩
    · exact (ho 0 (by omega)).trans pk_us
    · rw [ho 1 (by omega), pk_un (by omega)]; exact a1
    · rw [ho 2 (by omega), pk_un (by omega)]; exact a2
    · rw [ho 3 (by omega), pk_un (by omega)]; exact a3
    · rw [ho 4 (by omega), pk_un (by omega)]; exact a4
  · rw [List.getElem?_append_left (by omega)] at ht
    obtain ⟨a0, a1, a2, a3, a4⟩ := h1 i t ht
    refine ⟨?_, ?_, ?_, ?_, ?_⟩
    · exact (ho 0 (by omega)).trans ((pk_un (show 5 * i + 0 ≠ 5 * S.length by omega)).trans a0)
    · rw [ho 1 (by omega), pk_un (by omega)]; exact a1
    · rw [ho 2 (by omega), pk_un (by omega)]; exact a2
    · rw [ho 3 (by omega), pk_un (by omega)]; exact a3
    · rw [ho 4 (by omega), pk_un (by omega)]; exact a4
theorem prt_x : ∀ j, j < 12 → ∀ e ∈ prt j, e.2.2 = i_bl (j + 2) ∨ (pF j e.2.2).isSome = true := by decide +kernel
theorem vgo_ok {c : Nat} : ∀ (R : List Nat) (j : Nat), j + R.length ≤ 12 → ((vgo c j R).1 = none → (vgo c j R).2.1.length = R.length ∧ vok j (vgo c j R).2.1 = true) ∧ (∀ k, (vgo c j R).1 = some k → k < 12)
  | [], j => fun _ => ⟨fun _ => ⟨rfl, rfl⟩, fun k h => by cases h⟩
  | r :: R, j => by
    intro hj
    have hj2 : j + 1 + R.length ≤ 12 := by simp at hj; omega
    obtain ⟨i1, i2⟩ := vgo_ok (c := c) R (j + 1) hj2
    cases hp : pF j r with
    | none =>
      have hvg : vgo c j (r :: R) = ((vgo c (j + 1) R).1, 99 :: (vgo c (j + 1) R).2.1, (vgo c (j + 1) R).2.2) := by
        show (match pF j r with | none => _ | some e => _) = _
        rw [hp]
      rw [hvg]
      exact ⟨fun h => ⟨by simp [(i1 h).1], by simp [vok, (i1 h).2]⟩, i2⟩
    | some e =>
      obtain ⟨hm, he1, hr⟩ := pF_m hp
      cases hpm : pmt e.2.1 c with
      | false =>
        have hvg : vgo c j (r :: R) = ((vgo c (j + 1) R).1, 99 :: (vgo c (j + 1) R).2.1, e.2.1 :: (vgo c (j + 1) R).2.2) := by
          show (match pF j r with | none => _ | some e => _) = _
          rw [hp]
          dsimp only
          rw [hpm]
          rfl
        rw [hvg]
        exact ⟨fun h => ⟨by simp [(i1 h).1], by simp [vok, (i1 h).2]⟩, i2⟩
      | true =>
        by_cases hfull : e.2.2 = i_bl (j + 2)
        · have hvg : vgo c j (r :: R) = (some j, [e.2.2], [e.2.1]) := by
            show (match pF j r with | none => _ | some e => _) = _
            rw [hp]
            dsimp only
            rw [hpm, if_pos rfl, if_pos hfull]
          rw [hvg]
          exact ⟨fun h => (by cases h), fun k h => (by injection h with h; rw [← h]; simp at hj; omega)⟩
        · have hvg : vgo c j (r :: R) = ((vgo c (j + 1) R).1, e.2.2 :: (vgo c (j + 1) R).2.1, e.2.1 :: (vgo c (j + 1) R).2.2) := by
            show (match pF j r with | none => _ | some e => _) = _
            rw [hp]
            dsimp only
            rw [hpm, if_pos rfl, if_neg hfull]
          rw [hvg]
          have hx := (prt_x j (by simp at hj; omega) e hm).resolve_left hfull
          exact ⟨fun h => ⟨by simp [(i1 h).1], by simp [vok, (i1 h).2, hx]⟩, i2⟩
theorem nv_lt : ∀ (l : List Nat), (∀ c ∈ l, c < 256) → nv l + 256 ≤ 256 * 11 ^ l.length := by
  intro l
  rw [← List.reverse_reverse l]
  generalize l.reverse = r
  induction r with
  | nil => intro _; exact Nat.le_refl _
  | cons c r ih =>
    intro h
    rw [List.reverse_cons, nv_c, List.length_append, List.length_singleton, Nat.pow_succ]
    rw [List.reverse_cons] at h
    have h1 := ih (fun c hc => h c (List.mem_append_left _ hc))
    have h2 := h c (List.mem_append_right _ (List.mem_singleton.mpr rfl))
    omega
theorem vld_lt {L : Nat} {B : Nat → Nat} {s : Nat} (hb : ∀ p, p < L → B p < 256) (hs : s ≤ L) : vld L B s < 4000000 := by
  have hq : s ≤ dE L B s ∧ dE L B s ≤ s + (L - s) := scn_b _ _
  unfold vld
  have h1 := nv_lt (wl B s (min 4 (dE L B s - s))) (wl_lt hb (by omega))
  rw [wl_len] at h1
  have h2 : 11 ^ min 4 (dE L B s - s) ≤ 11 ^ 4 := Nat.pow_le_pow_right (by omega) (by omega)
  rw [show (11 : Nat) ^ 4 = 14641 by decide] at h2
  omega
theorem root_ok : root.length = 12 ∧ vok 0 root = true ∧ ∀ i, i < 12 → root[i]? = some 0 := by decide
theorem c_rr {d : Nat} {g : aH} (hsS : hS g) (hfd : fdR g) {na : Int32} {th : Int32} {nw : Nat → Int64} {tw : Nat → Int64} {mo : Nat → Int32} {le : Nat → Int32} {gr : Nat → Int32} {to : Int32} {sh : Int32} {pn : Int32} {pm : Int32} {pt : Int32} {pi : Int32} {pj : Int32} {nu : Nat → Int32} {sa : Nat → Int32} {ss : Int32} {tx : Nat → Int32} {tl : Int32} {tq : Nat → Int32} {ql : Int32} {fa : Nat → Int32} {fu : Int32} {fp : Int32} {wn : Nat → Int32} {te : Nat → Int32} {lo : Nat → Int32} {hi : Nat → Int32} {mt : Int32} {me : Int32} {tt : Int32} {ix : Int32} {ov : Int32} {su : Int32} {wx : Int32} {wy : Int32} {wz : Int32} {wi : Int32} {wa : Int32}   {L : Nat} {B : Nat → Nat} {wd : Nat → Int64} {a b : Nat} (hw : wdR wd a b) (ea : na = nI a) (eb : th = nI b) (hnw : ∀ k, k < 6 → nw k = wd k) (htw : ∀ k, k < 6 → tw k = wd (6 + k)) (ht : tpK tq L B) (eql : ql = nI L) {Q : Option Value → aH → Prop} {X : Nat ⊕ (List (Nat × Int32 × Int32 × Int32 × Int32) × (Nat × Int32 × Int32 × Int32 × Int32) × Nat)}
    (hinl : ∀ fl, X = .inl fl → ∀ (rn rp ro ra rt rk r1 r2 r3 : Int32) (rc qs : Nat → Int32), Q (some (.int 0)) (KW (KS1 (KR (KQ g qs) rn rp ro ra (nI fl) rt rk r1 r2 r3 rc) na th nw tw mo le gr to sh pn pm pt pi pj nu sa ss tx tl tq ql fa fu fp) wn te lo hi mt me tt ix ov su wx wy wz wi wa))
    (hinr : ∀ S t pl, X = .inr (S, t, pl) → ∀ (ro ra rs rt rk r1 r2 r3 : Int32) (rc qs : Nat → Int32), (S.length ≤ 5 → (∀ i u, S[i]? = some u → slS qs i u) ∧ slS qs S.length t) → S.length < 1000 → Q (some (.int 1)) (KW (KS1 (KR (KQ g qs) (nI S.length) (nI pl) ro ra rs rt rk r1 r2 r3 rc) na th nw tw mo le gr to sh pn pm pt pi pj nu sa ss tx tl tq ql fa fu fp) wn te lo hi mt me tt ix ov su wx wy wz wi wa)) :
    ∀ (f p i : Nat) (S : List (Nat × Int32 × Int32 × Int32 × Int32)) (F : Int32 × Int32 × Int32 × Int32) (R : List Nat) (op : Bool) (pl : Nat) (rs rk r1 r2 r3 : Int32) (rc qs : Nat → Int32), L - p < f → p ≤ L → i + (L - p) ≤ 400 → S.length ≤ i → R.length = 12 → vok 0 R = true → (∀ i r, R[i]? = some r → rc i = enc r) → qR qs S F → X = crun L B wd a b f p S F R op pl →
      wp (d + 7) mX2_readRow 21 [some (.ref 25), some (.int (nI i))] [] (KW (KS1 (KR (KQ g qs) (nI S.length) (nI pl) (if op then 1 else 0) 0 rs (nI p) rk r1 r2 r3 rc) na th nw tw mo le gr to sh pn pm pt pi pj nu sa ss tx tl tq ql fa fu fp) wn te lo hi mt me tt ix ov su wx wy wz wi wa) Q := by
  have hw0 := hw
  obtain ⟨ha, hb6, _⟩ := hw
  have h400 := ht.1
  have hfn : ∀ s, kfd L B nw a s = kfd L B wd a s := by
    intro s; unfold kfd
    split
    · rfl
    · split
      · split
        · rfl
        · exact p_fnd_c a 0 (fun j _ h => hnw j (by omega))
      · rfl
  have hft : ∀ s, kfd L B tw b s = kfd L B (fun k => wd (6 + k)) b s := by
    intro s; unfold kfd
    split
    · rfl
    · split
      · split
        · rfl
        · exact p_fnd_c b 0 (fun j _ h => htw j (by omega))
      · rfl
  intro f
  induction f with
  | zero => intro p i S F R op pl rs rk r1 r2 r3 rc qs h; omega
  | succ f ih =>
    intro p i S F R op pl rs rk r1 r2 r3 rc qs hf hp hi hSi hR hv hrc hq hX
    have hskb : p ≤ sk L B p ∧ sk L B p ≤ p + (L - p) := scn_b _ _
    obtain ⟨c, hc61, hcod, k1, k2, k3, k4, k5⟩ := tok_c (L := L) (B := B) (s := sk L B p) hw0
    rw [crun_s rfl hcod hc61] at hX
    generalize hsk : sk L B p = s at *
    have hsL : s ≤ L := by omega
    have hnb := nxt_b (B := B) hsL
    have hle : ¬ (400 : Int32) < nI i := nI_nlt (a := 400) (by omega) (by omega)
    have hnu : knu L B s = nuC L B c s := k3
    have h1 : nmC c = -1 ↔ ¬ (40 ≤ c ∧ c ≤ 45) := nmC_m hc61
    have h2 : tgC c = -1 ↔ ¬ (50 ≤ c ∧ c ≤ 55) := tgC_m hc61
    have h3 : nuC L B c s = -1 ↔ ¬ c = 1 := by
      unfold nuC
      by_cases hc1 : c = 1
      · rw [if_pos hc1]
        refine ⟨fun q => absurd q (nI_m1 ?_), fun q => absurd hc1 q⟩
        have := vld_lt (fun p hp => (ht.2 p hp).2) hsL
        omega
      · rw [if_neg hc1]; exact ⟨fun _ => hc1, fun _ => rfl⟩
    rw [sX2_readRow_21]
    simp only [sX2_readRow_0, sX2_readRow_1, sX2_readRow_2, sX2_readRow_5, sX2_readRow_6, sX2_readRow_7, sX2_readRow_10, sX2_readRow_11, sX2_readRow_12, sX2_readRow_15, sX2_readRow_16, sX2_readRow_19, sX2_readRow_20, sX2_readRow_22, sX2_readRow_25, sX2_readRow_28, sX2_readRow_29, sX2_readRow_32, sX2_readRow_33, sX2_readRow_36, sX2_readRow_39, sX2_readRow_40, sX2_readRow_43, sX2_readRow_44, sX2_readRow_45, sX2_readRow_48, sX2_readRow_51, sX2_readRow_52, sX2_readRow_53, sX2_readRow_56, sX2_readRow_59, sX2_readRow_60, e_clrI, e_clrR, e_clrU, e_clrN, e_clrL, e_s0, e_s1, e_s2, e_s3, e_s4, e_z0, e_z1, e_f0, e_f1, e_tl, e_tn, e_q0, e_q1, e_zi, e_zj, true_and, and_true, ↓reduceIte, hKW_1, hKW_2, hKW_x, hKW_pu, hKW_xpf, hKW_xas, hKW_xasz, hKW_xasl, hKW_rc18, hKW_g18_0, hKW_g18_1, hKW_g18_2, hKW_g18_3, hKW_g18_4, hKW_g18_5, hKW_g18_6, hKW_u18_6, hKW_p18_6, hKW_g18_7, hKW_u18_7, hKW_p18_7, hKW_g18_8, hKW_u18_8, hKW_p18_8, hKW_g18_9, hKW_u18_9, hKW_p18_9, hKW_g18_10, hKW_u18_10, hKW_p18_10, hKW_g18_11, hKW_u18_11, hKW_p18_11, hKW_g18_12, hKW_u18_12, hKW_p18_12, hKW_g18_13, hKW_u18_13, hKW_p18_13, hKW_g18_14, hKW_u18_14, hKW_p18_14, hKW_g18_15, hKW_u18_15, hKW_p18_15, hKW_g18_16, hKW_u18_16, hKW_p18_16, hKW_n19, hKW_l19, hKW_v19, hKW_s19, hKW_n20, hKW_l20, hKW_v20, hKW_s20, hKW_n21, hKW_l21, hKW_v21, hKW_s21, hKW_n22, hKW_l22, hKW_v22, hKW_s22, hKS1_1, hKS1_2, hKS1_x, hKS1_pu, hKS1_xpf, hKS1_xas, hKS1_xasz, hKS1_xasl, hKS1_rc1, hKS1_g1_0, hKS1_g1_1, hKS1_g1_2, hKS1_g1_3, hKS1_g1_4, hKS1_g1_5, hKS1_g1_6, hKS1_u1_6, hKS1_p1_6, hKS1_g1_7, hKS1_u1_7, hKS1_p1_7, hKS1_rc2, hKS1_g2_0, hKS1_g2_1, hKS1_g2_2, hKS1_g2_3, hKS1_u2_3, hKS1_p2_3, hKS1_g2_4, hKS1_u2_4, hKS1_p2_4, hKS1_n3, hKS1_l3, hKS1_v3, hKS1_s3, hKS1_n4, hKS1_l4, hKS1_v4, hKS1_s4, hKS1_n5, hKS1_l5, hKS1_v5, hKS1_s5, hKS1_rc6, hKS1_g6_0, hKS1_g6_1, hKS1_g6_2, hKS1_u6_2, hKS1_p6_2, hKS1_g6_3, hKS1_u6_3, hKS1_p6_3, hKS1_g6_4, hKS1_u6_4, hKS1_p6_4, hKS1_g6_5, hKS1_u6_5, hKS1_p6_5, hKS1_g6_6, hKS1_u6_6, hKS1_p6_6, hKS1_g6_7, hKS1_u6_7, hKS1_p6_7, hKS1_g6_8, hKS1_u6_8, hKS1_p6_8, hKS1_n7, hKS1_l7, hKS1_v7, hKS1_s7, hKS1_n8, hKS1_l8, hKS1_v8, hKS1_s8, hKS1_rc9, hKS1_g9_0, hKS1_g9_1, hKS1_g9_2, hKS1_u9_2, hKS1_p9_2, hKS1_n10, hKS1_l10, hKS1_v10, hKS1_s10, hKS1_n11, hKS1_l11, hKS1_v11, hKS1_s11, hKS1_rc12, hKS1_g12_0, hKS1_g12_1, hKS1_u12_1, hKS1_p12_1, hKS1_n13, hKS1_l13, hKS1_v13, hKS1_s13, hKS1_rc14, hKS1_g14_0, hKS1_g14_1, hKS1_u14_1, hKS1_p14_1, hKS1_n15, hKS1_l15, hKS1_v15, hKS1_s15, hKS1_n16, hKS1_l16, hKS1_v16, hKS1_s16, hKR_1, hKR_2, hKR_x, hKR_pu, hKR_xpf, hKR_xas, hKR_xasz, hKR_xasl, hKR_rc25, hKR_g25_0, hKR_g25_1, hKR_g25_2, hKR_g25_3, hKR_g25_4, hKR_u25_4, hKR_p25_4, hKR_g25_5, hKR_u25_5, hKR_p25_5, hKR_g25_6, hKR_u25_6, hKR_p25_6, hKR_g25_7, hKR_u25_7, hKR_p25_7, hKR_g25_8, hKR_u25_8, hKR_p25_8, hKR_g25_9, hKR_u25_9, hKR_p25_9, hKR_g25_10, hKR_u25_10, hKR_p25_10, hKR_g25_11, hKR_u25_11, hKR_p25_11, hKR_g25_12, hKR_u25_12, hKR_p25_12, hKR_g25_13, hKR_u25_13, hKR_p25_13, hKR_n27, hKR_l27, hKR_n34, hKR_l34, hKR_v34, hKR_s34, hKQ_1, hKQ_2, hKQ_x, hKQ_pu, hKQ_xpf, hKQ_xas, hKQ_xasz, hKQ_xasl, Nat.reduceLeDiff, Nat.reduceEqDiff, false_and, and_false, or_self, not_false_eq_true, hle, if_false, c_nextToken ht eql hp ha hb6 ea eb, hsk, hfn, hft, k1, k2, hnu, k4]
    by_cases hc0 : c = 0
    · rw [if_pos hc0] at hX
      simp only [iff_true_intro hc0, if_true]
      exact hinl s hX _ _ _ _ _ _ _ _ _ _ _
    · rw [if_neg hc0] at hX
      simp only [hc0, if_false]
      obtain ⟨v1, v2⟩ := vgo_ok (c := c) R 0 (by omega)
      refine c_goOn hsS hfd hw0 ht eql hsL (by omega) hc61 hcod h1 h2 h3 rfl hR hv hrc (fun hn rc' hrc' => ?_) (fun k hk hk8 rc' hrc' => ?_) (fun k hk hk12 hk8 rc' => ?_) v2
      · rw [hn] at hX
        dsimp only at hX
        obtain ⟨v3, v4⟩ := v1 hn
        have hplc : (if op then nI s else nI pl) = nI (if op then s else pl) := by cases op <;> rfl
        by_cases hany : (vgo c 0 R).2.1.any (fun r => decide (r ≠ 99)) = true
        · rw [if_pos hany] at hX
          simp only [hany, if_true, sX2_readRow_0, sX2_readRow_1, sX2_readRow_2, sX2_readRow_5, sX2_readRow_6, sX2_readRow_7, sX2_readRow_10, sX2_readRow_11, sX2_readRow_12, sX2_readRow_15, sX2_readRow_16, sX2_readRow_19, sX2_readRow_20, sX2_readRow_22, sX2_readRow_25, sX2_readRow_28, sX2_readRow_29, sX2_readRow_32, sX2_readRow_33, sX2_readRow_36, sX2_readRow_39, sX2_readRow_40, sX2_readRow_43, sX2_readRow_44, sX2_readRow_45, sX2_readRow_48, sX2_readRow_51, sX2_readRow_52, sX2_readRow_53, sX2_readRow_56, sX2_readRow_59, sX2_readRow_60, e_clrI, e_clrR, e_clrU, e_clrN, e_clrL, e_s0, e_s1, e_s2, e_s3, e_s4, e_z0, e_z1, e_f0, e_f1, e_tl, e_tn, e_q0, e_q1, e_zi, e_zj, true_and, and_true, ↓reduceIte]
          try simp +decide only [if_true, if_false]
          rw [nI_1, hplc]
          exact ih (nxt L B s) (i + 1) S _ _ false _ _ _ _ _ _ rc' _ (by omega) (by omega) (by omega) (by omega) (by omega) v4 hrc' (qR_w _ hq) hX
        · rw [if_neg hany] at hX
          simp only [hany, if_false, sX2_readRow_0, sX2_readRow_1, sX2_readRow_2, sX2_readRow_5, sX2_readRow_6, sX2_readRow_7, sX2_readRow_10, sX2_readRow_11, sX2_readRow_12, sX2_readRow_15, sX2_readRow_16, sX2_readRow_19, sX2_readRow_20, sX2_readRow_22, sX2_readRow_25, sX2_readRow_28, sX2_readRow_29, sX2_readRow_32, sX2_readRow_33, sX2_readRow_36, sX2_readRow_39, sX2_readRow_40, sX2_readRow_43, sX2_readRow_44, sX2_readRow_45, sX2_readRow_48, sX2_readRow_51, sX2_readRow_52, sX2_readRow_53, sX2_readRow_56, sX2_readRow_59, sX2_readRow_60, e_clrI, e_clrR, e_clrU, e_clrN, e_clrL, e_s0, e_s1, e_s2, e_s3, e_s4, e_z0, e_z1, e_f0, e_f1, e_tl, e_tn, e_q0, e_q1, e_zi, e_zj, true_and, and_true, ↓reduceIte]
          try simp +decide only [if_true, if_false]
          exact hinl s hX _ _ _ _ _ _ _ _ _ _ _
      · rw [hk] at hX
        dsimp only at hX
        rw [if_pos hk8] at hX
        have hplc : (if op then nI s else nI pl) = nI (if op then s else pl) := by cases op <;> rfl
        simp only [sX2_readRow_0, sX2_readRow_1, sX2_readRow_2, sX2_readRow_5, sX2_readRow_6, sX2_readRow_7, sX2_readRow_10, sX2_readRow_11, sX2_readRow_12, sX2_readRow_15, sX2_readRow_16, sX2_readRow_19, sX2_readRow_20, sX2_readRow_22, sX2_readRow_25, sX2_readRow_28, sX2_readRow_29, sX2_readRow_32, sX2_readRow_33, sX2_readRow_36, sX2_readRow_39, sX2_readRow_40, sX2_readRow_43, sX2_readRow_44, sX2_readRow_45, sX2_readRow_48, sX2_readRow_51, sX2_readRow_52, sX2_readRow_53, sX2_readRow_56, sX2_readRow_59, sX2_readRow_60, e_clrI, e_clrR, e_clrU, e_clrN, e_clrL, e_s0, e_s1, e_s2, e_s3, e_s4, e_z0, e_z1, e_f0, e_f1, e_tl, e_tn, e_q0, e_q1, e_zi, e_zj, true_and, and_true, ↓reduceIte]
        try simp +decide only [if_true, if_false]
        rw [nI_1, hplc]
        have hlen : ∀ x : Nat × Int32 × Int32 × Int32 × Int32, S.length + 1 = (S ++ [x]).length := fun x => by simp
        have hqc := qR_c (k := k) (qR_w (r1 := nmC c) (r2 := tgC c) (r3 := nuC L B c s) (vgo c 0 R).2.2 hq)
        have hgo := ih (nxt L B s) (i + 1) (S ++ [(k, fws (nmC c) (tgC c) (nuC L B c s) (vgo c 0 R).2.2 F)]) (-1, -1, -1, -1) root true (if op then s else pl) (nI s) (kkd L B s) (nmC c) (tgC c) (nuC L B c s) rc' _ (by omega) (by omega) (by omega) (by simp; omega) root_ok.1 root_ok.2.1 (fun i r h => by
          have hi : i < 12 := by
            rcases Nat.lt_or_ge i 12 with h' | h'
            · exact h'
            · rw [List.getElem?_eq_none (by rw [root_ok.1]; exact h')] at h; cases h
          rw [root_ok.2.2 i hi] at h
          injection h with h
          rw [hrc' i hi, ← h]; rfl) hqc hX
        rw [← hlen] at hgo
        exact hgo
      · rw [hk] at hX
        dsimp only at hX
        rw [if_neg (by omega)] at hX
        have hplc : (if op then nI s else nI pl) = nI (if op then s else pl) := by cases op <;> rfl
        have hskb2 : nxt L B s ≤ sk L B (nxt L B s) ∧ sk L B (nxt L B s) ≤ nxt L B s + (L - nxt L B s) := scn_b _ _
        obtain ⟨c2, hc261, hcod2, j1, j2, j3, j4, j5⟩ := tok_c (L := L) (B := B) (s := sk L B (nxt L B s)) hw0
        rw [hcod2, nI_clamp (by omega)] at hX
        have hslt : s < L := by
          rcases Nat.lt_or_ge s L with h | h
          · exact h
          · exact absurd (k5.mpr h) hc0
        have hle2 : ¬ (400 : Int32) < nI (i + 1) := nI_nlt (a := 400) (by omega) (by omega)
        simp only [sX2_readRow_0, sX2_readRow_1, sX2_readRow_2, sX2_readRow_5, sX2_readRow_6, sX2_readRow_7, sX2_readRow_10, sX2_readRow_11, sX2_readRow_12, sX2_readRow_15, sX2_readRow_16, sX2_readRow_19, sX2_readRow_20, sX2_readRow_22, sX2_readRow_25, sX2_readRow_28, sX2_readRow_29, sX2_readRow_32, sX2_readRow_33, sX2_readRow_36, sX2_readRow_39, sX2_readRow_40, sX2_readRow_43, sX2_readRow_44, sX2_readRow_45, sX2_readRow_48, sX2_readRow_51, sX2_readRow_52, sX2_readRow_53, sX2_readRow_56, sX2_readRow_59, sX2_readRow_60, e_clrI, e_clrR, e_clrU, e_clrN, e_clrL, e_s0, e_s1, e_s2, e_s3, e_s4, e_z0, e_z1, e_f0, e_f1, e_tl, e_tn, e_q0, e_q1, e_zi, e_zj, true_and, and_true, ↓reduceIte]
        try simp +decide only [if_true, if_false]
        rw [nI_1, hplc, sX2_readRow_21]
        simp only [sX2_readRow_0, sX2_readRow_1, sX2_readRow_2, sX2_readRow_5, sX2_readRow_6, sX2_readRow_7, sX2_readRow_10, sX2_readRow_11, sX2_readRow_12, sX2_readRow_15, sX2_readRow_16, sX2_readRow_19, sX2_readRow_20, sX2_readRow_22, sX2_readRow_25, sX2_readRow_28, sX2_readRow_29, sX2_readRow_32, sX2_readRow_33, sX2_readRow_36, sX2_readRow_39, sX2_readRow_40, sX2_readRow_43, sX2_readRow_44, sX2_readRow_45, sX2_readRow_48, sX2_readRow_51, sX2_readRow_52, sX2_readRow_53, sX2_readRow_56, sX2_readRow_59, sX2_readRow_60, e_clrI, e_clrR, e_clrU, e_clrN, e_clrL, e_s0, e_s1, e_s2, e_s3, e_s4, e_z0, e_z1, e_f0, e_f1, e_tl, e_tn, e_q0, e_q1, e_zi, e_zj, true_and, and_true, ↓reduceIte, hKW_1, hKW_2, hKW_x, hKW_pu, hKW_xpf, hKW_xas, hKW_xasz, hKW_xasl, hKW_rc18, hKW_g18_0, hKW_g18_1, hKW_g18_2, hKW_g18_3, hKW_g18_4, hKW_g18_5, hKW_g18_6, hKW_u18_6, hKW_p18_6, hKW_g18_7, hKW_u18_7, hKW_p18_7, hKW_g18_8, hKW_u18_8, hKW_p18_8, hKW_g18_9, hKW_u18_9, hKW_p18_9, hKW_g18_10, hKW_u18_10, hKW_p18_10, hKW_g18_11, hKW_u18_11, hKW_p18_11, hKW_g18_12, hKW_u18_12, hKW_p18_12, hKW_g18_13, hKW_u18_13, hKW_p18_13, hKW_g18_14, hKW_u18_14, hKW_p18_14, hKW_g18_15, hKW_u18_15, hKW_p18_15, hKW_g18_16, hKW_u18_16, hKW_p18_16, hKW_n19, hKW_l19, hKW_v19, hKW_s19, hKW_n20, hKW_l20, hKW_v20, hKW_s20, hKW_n21, hKW_l21, hKW_v21, hKW_s21, hKW_n22, hKW_l22, hKW_v22, hKW_s22, hKS1_1, hKS1_2, hKS1_x, hKS1_pu, hKS1_xpf, hKS1_xas, hKS1_xasz, hKS1_xasl, hKS1_rc1, hKS1_g1_0, hKS1_g1_1, hKS1_g1_2, hKS1_g1_3, hKS1_g1_4, hKS1_g1_5, hKS1_g1_6, hKS1_u1_6, hKS1_p1_6, hKS1_g1_7, hKS1_u1_7, hKS1_p1_7, hKS1_rc2, hKS1_g2_0, hKS1_g2_1, hKS1_g2_2, hKS1_g2_3, hKS1_u2_3, hKS1_p2_3, hKS1_g2_4, hKS1_u2_4, hKS1_p2_4, hKS1_n3, hKS1_l3, hKS1_v3, hKS1_s3, hKS1_n4, hKS1_l4, hKS1_v4, hKS1_s4, hKS1_n5, hKS1_l5, hKS1_v5, hKS1_s5, hKS1_rc6, hKS1_g6_0, hKS1_g6_1, hKS1_g6_2, hKS1_u6_2, hKS1_p6_2, hKS1_g6_3, hKS1_u6_3, hKS1_p6_3, hKS1_g6_4, hKS1_u6_4, hKS1_p6_4, hKS1_g6_5, hKS1_u6_5, hKS1_p6_5, hKS1_g6_6, hKS1_u6_6, hKS1_p6_6, hKS1_g6_7, hKS1_u6_7, hKS1_p6_7, hKS1_g6_8, hKS1_u6_8, hKS1_p6_8, hKS1_n7, hKS1_l7, hKS1_v7, hKS1_s7, hKS1_n8, hKS1_l8, hKS1_v8, hKS1_s8, hKS1_rc9, hKS1_g9_0, hKS1_g9_1, hKS1_g9_2, hKS1_u9_2, hKS1_p9_2, hKS1_n10, hKS1_l10, hKS1_v10, hKS1_s10, hKS1_n11, hKS1_l11, hKS1_v11, hKS1_s11, hKS1_rc12, hKS1_g12_0, hKS1_g12_1, hKS1_u12_1, hKS1_p12_1, hKS1_n13, hKS1_l13, hKS1_v13, hKS1_s13, hKS1_rc14, hKS1_g14_0, hKS1_g14_1, hKS1_u14_1, hKS1_p14_1, hKS1_n15, hKS1_l15, hKS1_v15, hKS1_s15, hKS1_n16, hKS1_l16, hKS1_v16, hKS1_s16, hKR_1, hKR_2, hKR_x, hKR_pu, hKR_xpf, hKR_xas, hKR_xasz, hKR_xasl, hKR_rc25, hKR_g25_0, hKR_g25_1, hKR_g25_2, hKR_g25_3, hKR_g25_4, hKR_u25_4, hKR_p25_4, hKR_g25_5, hKR_u25_5, hKR_p25_5, hKR_g25_6, hKR_u25_6, hKR_p25_6, hKR_g25_7, hKR_u25_7, hKR_p25_7, hKR_g25_8, hKR_u25_8, hKR_p25_8, hKR_g25_9, hKR_u25_9, hKR_p25_9, hKR_g25_10, hKR_u25_10, hKR_p25_10, hKR_g25_11, hKR_u25_11, hKR_p25_11, hKR_g25_12, hKR_u25_12, hKR_p25_12, hKR_g25_13, hKR_u25_13, hKR_p25_13, hKR_n27, hKR_l27, hKR_n34, hKR_l34, hKR_v34, hKR_s34, hKQ_1, hKQ_2, hKQ_x, hKQ_pu, hKQ_xpf, hKQ_xas, hKQ_xasz, hKQ_xasl, Nat.reduceLeDiff, Nat.reduceEqDiff, false_and, and_false, or_self, not_false_eq_true, hle2, if_false, c_nextToken ht eql (show nxt L B s ≤ L by omega) ha hb6 ea eb, j4]
        have hqq := qR_w (r1 := nmC c) (r2 := tgC c) (r3 := nuC L B c s) (vgo c 0 R).2.2 hq
        by_cases h20 : c2 = 0
        · rw [if_pos h20] at hX
          simp only [iff_true_intro h20, if_true]
          refine hinr S _ _ hX _ _ _ _ _ _ _ _ _ _ (fun h5 => ?_) (by omega)
          obtain ⟨q1, q2⟩ := hqq h5
          rw [slt_5 h5] at q1 q2 ⊢
          refine ⟨fun i u hu => ?_, ?_⟩
          · have hi : i < S.length := by
              rcases Nat.lt_or_ge i S.length with h | h
              · exact h
              · rw [List.getElem?_eq_none h] at hu; cases hu
            obtain ⟨a0, a1, a2, a3, a4⟩ := q1 i u hu
            refine ⟨?_, ?_, ?_, ?_, ?_⟩
            · rw [pk_un (by omega)]; exact a0
            · rw [pk_un (by omega)]; exact a1
            · rw [pk_un (by omega)]; exact a2
            · rw [pk_un (by omega)]; exact a3
            · rw [pk_un (by omega)]; exact a4
          · obtain ⟨a1, a2, a3, a4⟩ := q2
            refine ⟨pk_us, ?_, ?_, ?_, ?_⟩
            · rw [pk_un (by omega)]; exact a1
            · rw [pk_un (by omega)]; exact a2
            · rw [pk_un (by omega)]; exact a3
            · rw [pk_un (by omega)]; exact a4
        · rw [if_neg h20] at hX
          simp only [h20, if_false]
          simp only [sX2_readRow_0, sX2_readRow_1, sX2_readRow_2, sX2_readRow_5, sX2_readRow_6, sX2_readRow_7, sX2_readRow_10, sX2_readRow_11, sX2_readRow_12, sX2_readRow_15, sX2_readRow_16, sX2_readRow_19, sX2_readRow_20, sX2_readRow_22, sX2_readRow_25, sX2_readRow_28, sX2_readRow_29, sX2_readRow_32, sX2_readRow_33, sX2_readRow_36, sX2_readRow_39, sX2_readRow_40, sX2_readRow_43, sX2_readRow_44, sX2_readRow_45, sX2_readRow_48, sX2_readRow_51, sX2_readRow_52, sX2_readRow_53, sX2_readRow_56, sX2_readRow_59, sX2_readRow_60, sX2_goOn_0, sX2_goOn_1, sX2_goOn_4, sX2_goOn_7, sX2_goOn_8, sX2_goOn_9, sX2_goOn_10, sX2_goOn_13, sX2_goOn_16, sX2_goOn_17, sX2_goOn_18, sX2_goOn_21, sX2_goOn_24, sX2_goOn_25, sX2_goOn_26, sX2_goOn_29, sX2_goOn_30, sX2_goOn_31, sX2_goOn_32, sX2_goOn_34, sX2_goOn_35, sX2_goOn_38, sX2_goOn_39, sX2_goOn_42, sX2_goOn_43, sX2_goOn_45, sX2_goOn_48, sX2_goOn_51, sX2_goOn_53, sX2_goOn_54, sX2_goOn_57, sX2_goOn_58, sX2_goOn_59, sX2_goOn_62, sX2_goOn_63, sX2_goOn_64, sX2_goOn_65, sX2_goOn_68, sX2_goOn_69, sX2_goOn_72, sX2_goOn_73, sX2_goOn_74, sX2_goOn_77, sX2_goOn_78, sX2_goOn_79, sX2_goOn_82, sX2_goOn_83, sX2_goOn_84, sX2_goOn_85, sX2_goOn_88, sX2_goOn_89, sX2_goOn_90, sX2_goOn_91, sX2_goOn_94, sX2_goOn_95, sX2_goOn_96, sX2_goOn_97, sX2_goOn_100, sX2_goOn_103, sX2_goOn_106, sX2_goOn_107, sX2_goOn_108, sX2_goOn_111, sX2_goOn_112, sX2_goOn_113, sX2_goOn_116, sX2_goOn_119, sX2_goOn_120, e_clrI, e_clrR, e_clrU, e_clrN, e_clrL, e_s0, e_s1, e_s2, e_s3, e_s4, e_z0, e_z1, e_f0, e_f1, e_tl, e_tn, e_q0, e_q1, e_zi, e_zj, true_and, and_true, ↓reduceIte, hKW_1, hKW_2, hKW_x, hKW_pu, hKW_xpf, hKW_xas, hKW_xasz, hKW_xasl, hKW_rc18, hKW_g18_0, hKW_g18_1, hKW_g18_2, hKW_g18_3, hKW_g18_4, hKW_g18_5, hKW_g18_6, hKW_u18_6, hKW_p18_6, hKW_g18_7, hKW_u18_7, hKW_p18_7, hKW_g18_8, hKW_u18_8, hKW_p18_8, hKW_g18_9, hKW_u18_9, hKW_p18_9, hKW_g18_10, hKW_u18_10, hKW_p18_10, hKW_g18_11, hKW_u18_11, hKW_p18_11, hKW_g18_12, hKW_u18_12, hKW_p18_12, hKW_g18_13, hKW_u18_13, hKW_p18_13, hKW_g18_14, hKW_u18_14, hKW_p18_14, hKW_g18_15, hKW_u18_15, hKW_p18_15, hKW_g18_16, hKW_u18_16, hKW_p18_16, hKW_n19, hKW_l19, hKW_v19, hKW_s19, hKW_n20, hKW_l20, hKW_v20, hKW_s20, hKW_n21, hKW_l21, hKW_v21, hKW_s21, hKW_n22, hKW_l22, hKW_v22, hKW_s22, hKS1_1, hKS1_2, hKS1_x, hKS1_pu, hKS1_xpf, hKS1_xas, hKS1_xasz, hKS1_xasl, hKS1_rc1, hKS1_g1_0, hKS1_g1_1, hKS1_g1_2, hKS1_g1_3, hKS1_g1_4, hKS1_g1_5, hKS1_g1_6, hKS1_u1_6, hKS1_p1_6, hKS1_g1_7, hKS1_u1_7, hKS1_p1_7, hKS1_rc2, hKS1_g2_0, hKS1_g2_1, hKS1_g2_2, hKS1_g2_3, hKS1_u2_3, hKS1_p2_3, hKS1_g2_4, hKS1_u2_4, hKS1_p2_4, hKS1_n3, hKS1_l3, hKS1_v3, hKS1_s3, hKS1_n4, hKS1_l4, hKS1_v4, hKS1_s4, hKS1_n5, hKS1_l5, hKS1_v5, hKS1_s5, hKS1_rc6, hKS1_g6_0, hKS1_g6_1, hKS1_g6_2, hKS1_u6_2, hKS1_p6_2, hKS1_g6_3, hKS1_u6_3, hKS1_p6_3, hKS1_g6_4, hKS1_u6_4, hKS1_p6_4, hKS1_g6_5, hKS1_u6_5, hKS1_p6_5, hKS1_g6_6, hKS1_u6_6, hKS1_p6_6, hKS1_g6_7, hKS1_u6_7, hKS1_p6_7, hKS1_g6_8, hKS1_u6_8, hKS1_p6_8, hKS1_n7, hKS1_l7, hKS1_v7, hKS1_s7, hKS1_n8, hKS1_l8, hKS1_v8, hKS1_s8, hKS1_rc9, hKS1_g9_0, hKS1_g9_1, hKS1_g9_2, hKS1_u9_2, hKS1_p9_2, hKS1_n10, hKS1_l10, hKS1_v10, hKS1_s10, hKS1_n11, hKS1_l11, hKS1_v11, hKS1_s11, hKS1_rc12, hKS1_g12_0, hKS1_g12_1, hKS1_u12_1, hKS1_p12_1, hKS1_n13, hKS1_l13, hKS1_v13, hKS1_s13, hKS1_rc14, hKS1_g14_0, hKS1_g14_1, hKS1_u14_1, hKS1_p14_1, hKS1_n15, hKS1_l15, hKS1_v15, hKS1_s15, hKS1_n16, hKS1_l16, hKS1_v16, hKS1_s16, hKR_1, hKR_2, hKR_x, hKR_pu, hKR_xpf, hKR_xas, hKR_xasz, hKR_xasl, hKR_rc25, hKR_g25_0, hKR_g25_1, hKR_g25_2, hKR_g25_3, hKR_g25_4, hKR_u25_4, hKR_p25_4, hKR_g25_5, hKR_u25_5, hKR_p25_5, hKR_g25_6, hKR_u25_6, hKR_p25_6, hKR_g25_7, hKR_u25_7, hKR_p25_7, hKR_g25_8, hKR_u25_8, hKR_p25_8, hKR_g25_9, hKR_u25_9, hKR_p25_9, hKR_g25_10, hKR_u25_10, hKR_p25_10, hKR_g25_11, hKR_u25_11, hKR_p25_11, hKR_g25_12, hKR_u25_12, hKR_p25_12, hKR_g25_13, hKR_u25_13, hKR_p25_13, hKR_n27, hKR_l27, hKR_n34, hKR_l34, hKR_v34, hKR_s34, hKQ_1, hKQ_2, hKQ_x, hKQ_pu, hKQ_xpf, hKQ_xas, hKQ_xasz, hKQ_xasl, Nat.reduceLeDiff, Nat.reduceEqDiff, false_and, and_false, or_self, not_false_eq_true]
          try simp +decide only [if_true, if_false]
          try simp only [sX2_readRow_0, sX2_readRow_1, sX2_readRow_2, sX2_readRow_5, sX2_readRow_6, sX2_readRow_7, sX2_readRow_10, sX2_readRow_11, sX2_readRow_12, sX2_readRow_15, sX2_readRow_16, sX2_readRow_19, sX2_readRow_20, sX2_readRow_22, sX2_readRow_25, sX2_readRow_28, sX2_readRow_29, sX2_readRow_32, sX2_readRow_33, sX2_readRow_36, sX2_readRow_39, sX2_readRow_40, sX2_readRow_43, sX2_readRow_44, sX2_readRow_45, sX2_readRow_48, sX2_readRow_51, sX2_readRow_52, sX2_readRow_53, sX2_readRow_56, sX2_readRow_59, sX2_readRow_60, sX2_goOn_0, sX2_goOn_1, sX2_goOn_4, sX2_goOn_7, sX2_goOn_8, sX2_goOn_9, sX2_goOn_10, sX2_goOn_13, sX2_goOn_16, sX2_goOn_17, sX2_goOn_18, sX2_goOn_21, sX2_goOn_24, sX2_goOn_25, sX2_goOn_26, sX2_goOn_29, sX2_goOn_30, sX2_goOn_31, sX2_goOn_32, sX2_goOn_34, sX2_goOn_35, sX2_goOn_38, sX2_goOn_39, sX2_goOn_42, sX2_goOn_43, sX2_goOn_45, sX2_goOn_48, sX2_goOn_51, sX2_goOn_53, sX2_goOn_54, sX2_goOn_57, sX2_goOn_58, sX2_goOn_59, sX2_goOn_62, sX2_goOn_63, sX2_goOn_64, sX2_goOn_65, sX2_goOn_68, sX2_goOn_69, sX2_goOn_72, sX2_goOn_73, sX2_goOn_74, sX2_goOn_77, sX2_goOn_78, sX2_goOn_79, sX2_goOn_82, sX2_goOn_83, sX2_goOn_84, sX2_goOn_85, sX2_goOn_88, sX2_goOn_89, sX2_goOn_90, sX2_goOn_91, sX2_goOn_94, sX2_goOn_95, sX2_goOn_96, sX2_goOn_97, sX2_goOn_100, sX2_goOn_103, sX2_goOn_106, sX2_goOn_107, sX2_goOn_108, sX2_goOn_111, sX2_goOn_112, sX2_goOn_113, sX2_goOn_116, sX2_goOn_119, sX2_goOn_120, e_clrI, e_clrR, e_clrU, e_clrN, e_clrL, e_s0, e_s1, e_s2, e_s3, e_s4, e_z0, e_z1, e_f0, e_f1, e_tl, e_tn, e_q0, e_q1, e_zi, e_zj, true_and, and_true, ↓reduceIte]
          try simp +decide only [if_true, if_false]
          exact hinl _ hX _ _ _ _ _ _ _ _ _ _ _
