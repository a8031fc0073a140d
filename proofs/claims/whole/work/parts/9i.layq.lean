/-! ===== the reader's sentences: a layer ===== -/
def qSt (qs : Nat → Int32) (j : Nat) : va_E := .inr (3, [.int (qs (5 * j)), .int (qs (5 * j + 1)), .int (qs (5 * j + 2)), .int (qs (5 * j + 3)), .int (qs (5 * j + 4))])
def KQ (g : aH) (qs : Nat → Int32) : aH := (g.1, g.2.1, fun a => if 28 ≤ a ∧ a ≤ 33 then some (qSt qs (a - 28)) else g.2.2 a)
theorem hKQ_1 {g : aH} {qs : Nat → Int32} : (KQ g qs).1 = g.1 := rfl
theorem hKQ_2 {g : aH} {qs : Nat → Int32} : (KQ g qs).2.1 = g.2.1 := rfl
theorem hKQ_x {g : aH} {qs : Nat → Int32} {a : Nat} (h : ¬ (28 ≤ a ∧ a ≤ 33)) : (KQ g qs).2.2 a = g.2.2 a := by
  show (if 28 ≤ a ∧ a ≤ 33 then some (qSt qs (a - 28)) else g.2.2 a) = _
  rw [if_neg h]
theorem hKQ_pu {g : aH} {qs : Nat → Int32} {a : Nat} {e : va_E} (h : ¬ (28 ≤ a ∧ a ≤ 33)) : a_put (KQ g qs) a e = KQ (a_put g a e) qs := Prod.ext rfl (Prod.ext rfl (funext fun b => by
  show va_up _ a _ b = _
  unfold va_up KQ a_put va_up
  dsimp only
  by_cases hb : b = a
  · subst hb; rw [if_pos rfl, if_neg h, if_pos rfl]
  · simp only [hb, if_false]))
theorem hKQ_xpf {g : aH} {qs : Nat → Int32} {a : Nat} {ci k : Nat} {v : Value} {ini : Bool} {K : aH → Prop} (h : ¬ (28 ≤ a ∧ a ≤ 33)) : w_pf (KQ g qs) a ci k v ini K ↔ w_pf g a ci k v ini (fun g => K (KQ g qs)) := by
  unfold w_pf
  rw [hKQ_x h]
  split
  · rw [hKQ_pu h]
  · exact Iff.rfl
theorem hKQ_xas {g : aH} {qs : Nat → Int32} {a : Nat} {i v : Int32} {K : aH → Prop} (h : ¬ (28 ≤ a ∧ a ≤ 33)) : w_as (KQ g qs) a i v K ↔ w_as g a i v (fun g => K (KQ g qs)) := by
  unfold w_as
  rw [hKQ_x h]
  split
  · rw [hKQ_pu h]
  · exact Iff.rfl
theorem hKQ_xasz {g : aH} {qs : Nat → Int32} {a : Nat} {i v : Int32} {K : aH → Prop} (h : ¬ (28 ≤ a ∧ a ≤ 33)) : w_asz (KQ g qs) a i v K ↔ w_asz g a i v (fun g => K (KQ g qs)) := by
  unfold w_asz
  rw [hKQ_x h]
  split
  · rw [hKQ_pu h]
  · exact Iff.rfl
theorem hKQ_xasl {g : aH} {qs : Nat → Int32} {a : Nat} {i : Int32} {v : Int64} {K : aH → Prop} (h : ¬ (28 ≤ a ∧ a ≤ 33)) : w_asl (KQ g qs) a i v K ↔ w_asl g a i v (fun g => K (KQ g qs)) := by
  unfold w_asl
  rw [hKQ_x h]
  split
  · rw [hKQ_pu h]
  · exact Iff.rfl
theorem hKQ_at {g : aH} {qs : Nat → Int32} {r j : Nat} (hr : r = 28 + j) (hj : j < 6) : (KQ g qs).2.2 r = some (qSt qs j) := by
  subst hr
  show (if 28 ≤ 28 + j ∧ 28 + j ≤ 33 then some (qSt qs (28 + j - 28)) else g.2.2 (28 + j)) = _
  rw [if_pos (by omega), show 28 + j - 28 = j by omega]
theorem hKQ_rc {g : aH} {qs : Nat → Int32} {r j : Nat} (hr : r = 28 + j) (hj : j < 6) : w_rc ((KQ g qs).2.2 r) 3 ↔ True := by rw [hKQ_at hr hj]; exact ⟨fun _ => trivial, fun _ => rfl⟩
theorem hKQ_g0 {g : aH} {qs : Nat → Int32} {r j : Nat} (hr : r = 28 + j) (hj : j < 6) {K : Value → Prop} : w_gf ((KQ g qs).2.2 r) 3 0 K ↔ K (.int (qs (5 * j))) := by rw [hKQ_at hr hj]; exact ⟨fun q => q.2, fun q => ⟨rfl, q⟩⟩
theorem hKQ_g1 {g : aH} {qs : Nat → Int32} {r j : Nat} (hr : r = 28 + j) (hj : j < 6) {K : Value → Prop} : w_gf ((KQ g qs).2.2 r) 3 1 K ↔ K (.int (qs (5 * j + 1))) := by rw [hKQ_at hr hj]; exact ⟨fun q => q.2, fun q => ⟨rfl, q⟩⟩
theorem hKQ_g2 {g : aH} {qs : Nat → Int32} {r j : Nat} (hr : r = 28 + j) (hj : j < 6) {K : Value → Prop} : w_gf ((KQ g qs).2.2 r) 3 2 K ↔ K (.int (qs (5 * j + 2))) := by rw [hKQ_at hr hj]; exact ⟨fun q => q.2, fun q => ⟨rfl, q⟩⟩
theorem hKQ_g3 {g : aH} {qs : Nat → Int32} {r j : Nat} (hr : r = 28 + j) (hj : j < 6) {K : Value → Prop} : w_gf ((KQ g qs).2.2 r) 3 3 K ↔ K (.int (qs (5 * j + 3))) := by rw [hKQ_at hr hj]; exact ⟨fun q => q.2, fun q => ⟨rfl, q⟩⟩
theorem hKQ_g4 {g : aH} {qs : Nat → Int32} {r j : Nat} (hr : r = 28 + j) (hj : j < 6) {K : Value → Prop} : w_gf ((KQ g qs).2.2 r) 3 4 K ↔ K (.int (qs (5 * j + 4))) := by rw [hKQ_at hr hj]; exact ⟨fun q => q.2, fun q => ⟨rfl, q⟩⟩
theorem qSt_o {qs : Nat → Int32} {i k : Nat} {v : Int32} (h : ∀ f, f < 5 → 5 * i + f ≠ k) : qSt (upd qs k v) i = qSt qs i := by
  unfold qSt
  rw [pk_un (by have := h 0 (by omega); omega), pk_un (h 1 (by omega)), pk_un (h 2 (by omega)), pk_un (h 3 (by omega)), pk_un (h 4 (by omega))]
theorem hKQ_u {g : aH} {qs : Nat → Int32} {r j f : Nat} (hr : r = 28 + j) (hj : j < 6) (hf : f < 5) {v : Int32} {e : va_E} (he : e = qSt (upd qs (5 * j + f) v) j) : a_put (KQ g qs) r e = KQ g (upd qs (5 * j + f) v) := Prod.ext rfl (Prod.ext rfl (funext fun b => by
  show va_up _ r _ b = _
  unfold va_up
  by_cases hb : b = r
  · rw [if_pos hb, hb, hKQ_at hr hj, he]
  · rw [if_neg hb]
    by_cases hin : 28 ≤ b ∧ b ≤ 33
    · rw [hKQ_at (j := b - 28) (by omega) (by omega), hKQ_at (j := b - 28) (by omega) (by omega), qSt_o (fun q hq => by omega)]
    · rw [hKQ_x hin, hKQ_x hin]))
theorem hKQ_p1 {g : aH} {qs : Nat → Int32} {r j : Nat} (hr : r = 28 + j) (hj : j < 6) {v : Int32} {K : aH → Prop} : w_pf (KQ g qs) r 3 1 (.int v) false K ↔ K (KQ g (upd qs (5 * j + 1) v)) := by
  have hu := hKQ_u (g := g) (qs := qs) (f := 1) hr hj (by omega) (v := v) (e := .inr (3, [.int (qs (5 * j)), .int v, .int (qs (5 * j + 2)), .int (qs (5 * j + 3)), .int (qs (5 * j + 4))])) (by unfold qSt; rw [pk_un (show 5 * j ≠ 5 * j + 1 by omega), pk_us, pk_un (show 5 * j + 2 ≠ 5 * j + 1 by omega), pk_un (show 5 * j + 3 ≠ 5 * j + 1 by omega), pk_un (show 5 * j + 4 ≠ 5 * j + 1 by omega)])
  rw [← hu]
  unfold w_pf
  rw [hKQ_at hr hj]
  have hb : r < aRO := by rw [r1000]; omega
  exact ⟨fun q => q.2, fun q => ⟨⟨rfl, hb, Nat.le_of_ble_eq_true rfl, rfl, rfl, Or.inl rfl⟩, q⟩⟩
theorem hKQ_p2 {g : aH} {qs : Nat → Int32} {r j : Nat} (hr : r = 28 + j) (hj : j < 6) {v : Int32} {K : aH → Prop} : w_pf (KQ g qs) r 3 2 (.int v) false K ↔ K (KQ g (upd qs (5 * j + 2) v)) := by
  have hu := hKQ_u (g := g) (qs := qs) (f := 2) hr hj (by omega) (v := v) (e := .inr (3, [.int (qs (5 * j)), .int (qs (5 * j + 1)), .int v, .int (qs (5 * j + 3)), .int (qs (5 * j + 4))])) (by unfold qSt; rw [pk_un (show 5 * j ≠ 5 * j + 2 by omega), pk_us, pk_un (show 5 * j + 1 ≠ 5 * j + 2 by omega), pk_un (show 5 * j + 3 ≠ 5 * j + 2 by omega), pk_un (show 5 * j + 4 ≠ 5 * j + 2 by omega)])
  rw [← hu]
  unfold w_pf
  rw [hKQ_at hr hj]
  have hb : r < aRO := by rw [r1000]; omega
  exact ⟨fun q => q.2, fun q => ⟨⟨rfl, hb, Nat.le_of_ble_eq_true rfl, rfl, rfl, Or.inl rfl⟩, q⟩⟩
theorem hKQ_p3 {g : aH} {qs : Nat → Int32} {r j : Nat} (hr : r = 28 + j) (hj : j < 6) {v : Int32} {K : aH → Prop} : w_pf (KQ g qs) r 3 3 (.int v) false K ↔ K (KQ g (upd qs (5 * j + 3) v)) := by
  have hu := hKQ_u (g := g) (qs := qs) (f := 3) hr hj (by omega) (v := v) (e := .inr (3, [.int (qs (5 * j)), .int (qs (5 * j + 1)), .int (qs (5 * j + 2)), .int v, .int (qs (5 * j + 4))])) (by unfold qSt; rw [pk_un (show 5 * j ≠ 5 * j + 3 by omega), pk_us, pk_un (show 5 * j + 1 ≠ 5 * j + 3 by omega), pk_un (show 5 * j + 2 ≠ 5 * j + 3 by omega), pk_un (show 5 * j + 4 ≠ 5 * j + 3 by omega)])
  rw [← hu]
  unfold w_pf
  rw [hKQ_at hr hj]
  have hb : r < aRO := by rw [r1000]; omega
  exact ⟨fun q => q.2, fun q => ⟨⟨rfl, hb, Nat.le_of_ble_eq_true rfl, rfl, rfl, Or.inl rfl⟩, q⟩⟩
theorem hKQ_p4 {g : aH} {qs : Nat → Int32} {r j : Nat} (hr : r = 28 + j) (hj : j < 6) {v : Int32} {K : aH → Prop} : w_pf (KQ g qs) r 3 4 (.int v) false K ↔ K (KQ g (upd qs (5 * j + 4) v)) := by
  have hu := hKQ_u (g := g) (qs := qs) (f := 4) hr hj (by omega) (v := v) (e := .inr (3, [.int (qs (5 * j)), .int (qs (5 * j + 1)), .int (qs (5 * j + 2)), .int (qs (5 * j + 3)), .int v])) (by unfold qSt; rw [pk_un (show 5 * j ≠ 5 * j + 4 by omega), pk_us, pk_un (show 5 * j + 1 ≠ 5 * j + 4 by omega), pk_un (show 5 * j + 2 ≠ 5 * j + 4 by omega), pk_un (show 5 * j + 3 ≠ 5 * j + 4 by omega)])
  rw [← hu]
  unfold w_pf
  rw [hKQ_at hr hj]
  have hb : r < aRO := by rw [r1000]; omega
  exact ⟨fun q => q.2, fun q => ⟨⟨rfl, hb, Nat.le_of_ble_eq_true rfl, rfl, rfl, Or.inl rfl⟩, q⟩⟩
theorem hKQ_p0 {g : aH} {qs : Nat → Int32} {r j : Nat} (hr : r = 28 + j) (hj : j < 6) {v : Int32} {K : aH → Prop} : w_pf (KQ g qs) r 3 0 (.int v) false K ↔ ((narrow .char (.int v) = .int v ∧ fits .char (.int v) = true) ∧ K (KQ g (upd qs (5 * j) v))) := by
  have hu : a_put (KQ g qs) r (.inr (3, [.int v, .int (qs (5 * j + 1)), .int (qs (5 * j + 2)), .int (qs (5 * j + 3)), .int (qs (5 * j + 4))])) = KQ g (upd qs (5 * j) v) := hKQ_u (f := 0) hr hj (by omega) (by
    show _ = qSt (upd qs (5 * j) v) j
    unfold qSt
    rw [pk_us, pk_un (show 5 * j + 1 ≠ 5 * j by omega), pk_un (show 5 * j + 2 ≠ 5 * j by omega), pk_un (show 5 * j + 3 ≠ 5 * j by omega), pk_un (show 5 * j + 4 ≠ 5 * j by omega)])
  rw [← hu]
  unfold w_pf
  rw [hKQ_at hr hj]
  have hb : r < aRO := by rw [r1000]; omega
  exact ⟨fun q => ⟨⟨q.1.2.2.2.1, q.1.2.2.2.2.1⟩, q.2⟩, fun q => ⟨⟨rfl, hb, Nat.le_of_ble_eq_true rfl, q.1.1, q.1.2, Or.inl rfl⟩, q.2⟩⟩
theorem hS_Q {g : aH} {qs : Nat → Int32} (hs : hS g) : hS (KQ g qs) := hS_l (fun j => hKQ_x (by rw [r1000]; omega)) hs
/-- the slot of the sentence that is being read -/
def slt (sn : Nat) : Nat := min sn 5
theorem slt_lt (sn : Nat) : slt sn < 6 := by unfold slt; omega
/-- the finder stands in the heap and has its row -/
def fdR (g : aH) : Prop := ∃ l : List Value, g.2.2 26 = some (.inr (5, .ref 27 :: l))
theorem fdR_rc {g : aH} (h : fdR g) : w_rc (g.2.2 26) 5 ↔ True := by
  obtain ⟨l, h⟩ := h
  rw [h]
  exact ⟨fun _ => trivial, fun _ => rfl⟩
theorem fdR_gf {g : aH} (h : fdR g) {K : Value → Prop} : w_gf (g.2.2 26) 5 0 K ↔ K (.ref 27) := by
  obtain ⟨l, h⟩ := h
  rw [h]
  exact ⟨fun q => q.2, fun q => ⟨rfl, q⟩⟩
theorem fdR_F {g : aH} {fs : Int32} {fh : Int32} {fd : Int32} {fi : Int32} {fn : Int32} {fm : Int32} {ft : Int32} : fdR (KF g fs fh fd fi fn fm ft) := ⟨_, rfl⟩
theorem c_sentAt {d : Nat} {g : aH} (hfd : fdR g) {na : Int32} {th : Int32} {nw : Nat → Int64} {tw : Nat → Int64} {mo : Nat → Int32} {le : Nat → Int32} {gr : Nat → Int32} {to : Int32} {sh : Int32} {pn : Int32} {pm : Int32} {pt : Int32} {pi : Int32} {pj : Int32} {nu : Nat → Int32} {sa : Nat → Int32} {ss : Int32} {tx : Nat → Int32} {tl : Int32} {tq : Nat → Int32} {ql : Int32} {fa : Nat → Int32} {fu : Int32} {fp : Int32} {wn : Nat → Int32} {te : Nat → Int32} {lo : Nat → Int32} {hi : Nat → Int32} {mt : Int32} {me : Int32} {tt : Int32} {ix : Int32} {ov : Int32} {su : Int32} {wx : Int32} {wy : Int32} {wz : Int32} {wi : Int32} {wa : Int32} {rn : Int32} {rp : Int32} {ro : Int32} {ra : Int32} {rs : Int32} {rt : Int32} {rk : Int32} {r1 : Int32} {r2 : Int32} {r3 : Int32} {rc : Nat → Int32} {qs : Nat → Int32} {n : Nat} (hn : n < 1000) {Q : Option Value → aH → Prop} : wp d mX5_sentenceAt 0 [some (.ref 26), some (.int (nI n))] [] (KW (KS1 (KR (KQ g qs) rn rp ro ra rs rt rk r1 r2 r3 rc) na th nw tw mo le gr to sh pn pm pt pi pj nu sa ss tx tl tq ql fa fu fp) wn te lo hi mt me tt ix ov su wx wy wz wi wa) Q ↔ Q (some (.ref (28 + slt n))) (KW (KS1 (KR (KQ g qs) rn rp ro ra rs rt rk r1 r2 r3 rc) na th nw tw mo le gr to sh pn pm pt pi pj nu sa ss tx tl tq ql fa fu fp) wn te lo hi mt me tt ix ov su wx wy wz wi wa) := by
  have e1 : (if (5 : Int32) < nI n then (5 : Int32) else nI n) = nI (slt n) := by
    unfold slt
    by_cases h : 5 < n
    · rw [if_pos (c := (5 : Int32) < nI n) (nI_lt (a := 5) h (by omega)), show min n 5 = 5 by omega]; rfl
    · rw [if_neg (c := (5 : Int32) < nI n) (nI_nlt (a := 5) (by omega) (by omega)), show min n 5 = n by omega]
  have e2 : (if (0 : Int32) < nI (slt n) then nI (slt n) else 0) = nI (slt n) := by
    by_cases h : 0 < slt n
    · rw [if_pos (c := (0 : Int32) < nI (slt n)) (nI_lt (a := 0) h (by have := slt_lt n; omega))]
    · rw [if_neg (c := (0 : Int32) < nI (slt n)) (nI_nlt (a := 0) (by omega) (by omega)), show slt n = 0 by omega]; rfl
  have hsl := slt_lt n
  simp only [sX5_sentenceAt_0, sX5_sentenceAt_1, sX5_sentenceAt_4, sX5_sentenceAt_5, sX5_sentenceAt_6, sX5_sentenceAt_7, sX5_sentenceAt_10, sX5_sentenceAt_13, sX5_sentenceAt_14, e_clrI, e_clrR, e_clrU, e_clrN, e_clrL, e_s0, e_s1, e_s2, e_s3, e_s4, e_z0, e_z1, e_f0, e_f1, e_tl, e_tn, e_q0, e_q1, e_zi, e_zj, true_and, and_true, ↓reduceIte, hKW_1, hKW_2, hKW_x, hKW_pu, hKW_xpf, hKW_xas, hKW_xasz, hKW_xasl, hKW_rc18, hKW_g18_0, hKW_g18_1, hKW_g18_2, hKW_g18_3, hKW_g18_4, hKW_g18_5, hKW_g18_6, hKW_u18_6, hKW_p18_6, hKW_g18_7, hKW_u18_7, hKW_p18_7, hKW_g18_8, hKW_u18_8, hKW_p18_8, hKW_g18_9, hKW_u18_9, hKW_p18_9, hKW_g18_10, hKW_u18_10, hKW_p18_10, hKW_g18_11, hKW_u18_11, hKW_p18_11, hKW_g18_12, hKW_u18_12, hKW_p18_12, hKW_g18_13, hKW_u18_13, hKW_p18_13, hKW_g18_14, hKW_u18_14, hKW_p18_14, hKW_g18_15, hKW_u18_15, hKW_p18_15, hKW_g18_16, hKW_u18_16, hKW_p18_16, hKW_n19, hKW_l19, hKW_v19, hKW_s19, hKW_n20, hKW_l20, hKW_v20, hKW_s20, hKW_n21, hKW_l21, hKW_v21, hKW_s21, hKW_n22, hKW_l22, hKW_v22, hKW_s22, hKS1_1, hKS1_2, hKS1_x, hKS1_pu, hKS1_xpf, hKS1_xas, hKS1_xasz, hKS1_xasl, hKS1_rc1, hKS1_g1_0, hKS1_g1_1, hKS1_g1_2, hKS1_g1_3, hKS1_g1_4, hKS1_g1_5, hKS1_g1_6, hKS1_u1_6, hKS1_p1_6, hKS1_g1_7, hKS1_u1_7, hKS1_p1_7, hKS1_rc2, hKS1_g2_0, hKS1_g2_1, hKS1_g2_2, hKS1_g2_3, hKS1_u2_3, hKS1_p2_3, hKS1_g2_4, hKS1_u2_4, hKS1_p2_4, hKS1_n3, hKS1_l3, hKS1_v3, hKS1_s3, hKS1_n4, hKS1_l4, hKS1_v4, hKS1_s4, hKS1_n5, hKS1_l5, hKS1_v5, hKS1_s5, hKS1_rc6, hKS1_g6_0, hKS1_g6_1, hKS1_g6_2, hKS1_u6_2, hKS1_p6_2, hKS1_g6_3, hKS1_u6_3, hKS1_p6_3, hKS1_g6_4, hKS1_u6_4, hKS1_p6_4, hKS1_g6_5, hKS1_u6_5, hKS1_p6_5, hKS1_g6_6, hKS1_u6_6, hKS1_p6_6, hKS1_g6_7, hKS1_u6_7, hKS1_p6_7, hKS1_g6_8, hKS1_u6_8, hKS1_p6_8, hKS1_n7, hKS1_l7, hKS1_v7, hKS1_s7, hKS1_n8, hKS1_l8, hKS1_v8, hKS1_s8, hKS1_rc9, hKS1_g9_0, hKS1_g9_1, hKS1_g9_2, hKS1_u9_2, hKS1_p9_2, hKS1_n10, hKS1_l10, hKS1_v10, hKS1_s10, hKS1_n11, hKS1_l11, hKS1_v11, hKS1_s11, hKS1_rc12, hKS1_g12_0, hKS1_g12_1, hKS1_u12_1, hKS1_p12_1, hKS1_n13, hKS1_l13, hKS1_v13, hKS1_s13, hKS1_rc14, hKS1_g14_0, hKS1_g14_1, hKS1_u14_1, hKS1_p14_1, hKS1_n15, hKS1_l15, hKS1_v15, hKS1_s15, hKS1_n16, hKS1_l16, hKS1_v16, hKS1_s16, hKR_1, hKR_2, hKR_x, hKR_pu, hKR_xpf, hKR_xas, hKR_xasz, hKR_xasl, hKR_rc25, hKR_g25_0, hKR_g25_1, hKR_g25_2, hKR_g25_3, hKR_g25_4, hKR_u25_4, hKR_p25_4, hKR_g25_5, hKR_u25_5, hKR_p25_5, hKR_g25_6, hKR_u25_6, hKR_p25_6, hKR_g25_7, hKR_u25_7, hKR_p25_7, hKR_g25_8, hKR_u25_8, hKR_p25_8, hKR_g25_9, hKR_u25_9, hKR_p25_9, hKR_g25_10, hKR_u25_10, hKR_p25_10, hKR_g25_11, hKR_u25_11, hKR_p25_11, hKR_g25_12, hKR_u25_12, hKR_p25_12, hKR_g25_13, hKR_u25_13, hKR_p25_13, hKR_n27, hKR_l27, hKR_n34, hKR_l34, hKR_v34, hKR_s34, hKQ_1, hKQ_2, hKQ_x, hKQ_pu, hKQ_xpf, hKQ_xas, hKQ_xasz, hKQ_xasl, Nat.reduceLeDiff, Nat.reduceEqDiff, false_and, and_false, or_self, not_false_eq_true, fdR_gf hfd, e1, e2, vp_in_nI (show slt n < 6 by omega) (by omega), nI_clamp (show slt n < 2 ^ 31 by omega), hsl, if_true, va_rf]
