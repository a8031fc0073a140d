/-! ===== the class's putTale ===== -/
theorem c_bodyLength {d : Nat} {v : Int32} {h : aH} {Q : Option Value → aH → Prop} : wp d mX10_bodyLength 0 [some (.int v)] [] h Q ↔ Q (some (.int (if v = 7 then 3 else 2))) h := by
  simp only [sX10_bodyLength_0, sX10_bodyLength_1, sX10_bodyLength_3, sX10_bodyLength_6, sX10_bodyLength_7, sX10_bodyLength_10, sX10_bodyLength_11, e_clrI, e_clrR, e_clrU, e_clrN, e_clrL, e_s0, e_s1, e_s2, e_s3, e_s4, e_z0, e_z1, e_f0, e_f1, e_tl, e_tn, e_q0, e_q1, e_zi, e_zj, true_and, and_true, ↓reduceIte]
  by_cases h7 : v = 7 <;> simp only [h7, if_true, if_false]
theorem c_mayTurn {d : Nat} {v : Int32} {h : aH} {Q : Option Value → aH → Prop} : wp d mX10_mayTurn 0 [some (.int v)] [] h Q ↔ Q (some (.int (if 3 ≤ v ∧ v ≤ 5 then 1 else 0))) h := by
  simp only [sX10_mayTurn_0, sX10_mayTurn_1, sX10_mayTurn_2, sX10_mayTurn_5, sX10_mayTurn_6, sX10_mayTurn_7, sX10_mayTurn_10, sX10_mayTurn_11, sX10_mayTurn_14, sX10_mayTurn_15, e_clrI, e_clrR, e_clrU, e_clrN, e_clrL, e_s0, e_s1, e_s2, e_s3, e_s4, e_z0, e_z1, e_f0, e_f1, e_tl, e_tn, e_q0, e_q1, e_zi, e_zj, true_and, and_true, ↓reduceIte]
  by_cases h1 : v < 3
  · have : ¬ (3 ≤ v ∧ v ≤ 5) := fun q => Int32.not_le.mpr h1 q.1
    simp only [h1, this, if_true, if_false]
  · by_cases h2 : 5 < v
    · have : ¬ (3 ≤ v ∧ v ≤ 5) := fun q => Int32.not_le.mpr h2 q.2
      simp only [h1, h2, this, if_true, if_false]
    · have : 3 ≤ v ∧ v ≤ 5 := ⟨Int32.not_lt.mp h1, Int32.not_lt.mp h2⟩
      simp only [h1, h2, this, if_true, if_false, and_self]
theorem bd_so {s : Nat} (hs : s < 8) : (if nI s = 7 then (3 : Int32) else 2) = nI (bdy s) := by
  unfold bdy
  by_cases h : s = 7
  · subst h; rfl
  · rw [if_neg (c := nI s = 7) (fun q => h ((nI_eq (b := 7) (by omega) (by omega)).mp q)), if_neg h]; rfl
theorem c_unturned {d : Nat} {tu : Bool} {j : Nat} (hj : j < 100) {h : aH} {Q : Option Value → aH → Prop} : wp d mX10_unturned 0 [some (.int (if tu then 1 else 0)), some (.int (nI j))] [] h Q ↔ Q (some (.int (nI (wj tu j)))) h := by
  have e : (2 : Int32) ≤ nI j ↔ 2 ≤ j := nI_leI (a := 2) (by omega) (by omega)
  unfold wj
  cases tu with
  | false => simp only [sX10_unturned_0, sX10_unturned_1, sX10_unturned_4, sX10_unturned_5, sX10_unturned_6, sX10_unturned_9, sX10_unturned_10, sX10_unturned_11, sX10_unturned_12, sX10_unturned_15, sX10_unturned_16, e_clrI, e_clrR, e_clrU, e_clrN, e_clrL, e_s0, e_s1, e_s2, e_s3, e_s4, e_z0, e_z1, e_f0, e_f1, e_tl, e_tn, e_q0, e_q1, e_zi, e_zj, true_and, and_true, ↓reduceIte, Bool.false_eq_true, if_false, not_false_eq_true, if_true, false_and]
  | true =>
    by_cases h2 : 2 ≤ j
    · have : ¬ (True ∧ j < 2) := by omega
      simp only [sX10_unturned_0, sX10_unturned_1, sX10_unturned_4, sX10_unturned_5, sX10_unturned_6, sX10_unturned_9, sX10_unturned_10, sX10_unturned_11, sX10_unturned_12, sX10_unturned_15, sX10_unturned_16, e_clrI, e_clrR, e_clrU, e_clrN, e_clrL, e_s0, e_s1, e_s2, e_s3, e_s4, e_z0, e_z1, e_f0, e_f1, e_tl, e_tn, e_q0, e_q1, e_zi, e_zj, true_and, and_true, ↓reduceIte, if_true, if_false, e, h2, not_true_eq_false, true_and, show ¬ j < 2 by omega]
      simp +decide only [if_false]
    · have e1 : 1 - nI j = nI (1 - j) := nI_sub (a := 1) (by omega)
      simp only [sX10_unturned_0, sX10_unturned_1, sX10_unturned_4, sX10_unturned_5, sX10_unturned_6, sX10_unturned_9, sX10_unturned_10, sX10_unturned_11, sX10_unturned_12, sX10_unturned_15, sX10_unturned_16, e_clrI, e_clrR, e_clrU, e_clrN, e_clrL, e_s0, e_s1, e_s2, e_s3, e_s4, e_z0, e_z1, e_f0, e_f1, e_tl, e_tn, e_q0, e_q1, e_zi, e_zj, true_and, and_true, ↓reduceIte, if_true, if_false, e, h2, not_true_eq_false, true_and, show j < 2 by omega, e1]
      simp +decide only [if_false]
theorem kd_b : ∀ s, s < 8 → ∀ J, J < bdy s + 1 → 4 * s + J < i_bl 15 ∧ sBy 15 (4 * s + J) = fch (kd s J) ∧ kd s J < 12 := by decide +kernel
theorem wj_le {s : Nat} {tu : Bool} {j : Nat} (hj : j ≤ bdy s) : wj tu j ≤ bdy s := by
  have : 2 ≤ bdy s := by unfold bdy; split <;> omega
  unfold wj; split <;> omega
theorem c_formAt {d : Nat} {h : aH} (hs : hS h) {s : Nat} (hs8 : s < 8) {tu : Bool} {j : Nat} (hj : j ≤ bdy s) {Q : Option Value → aH → Prop} : wp (d + 4) mX10_formAt 0 [some (.int (nI s)), some (.int (if tu then 1 else 0)), some (.int (nI j)), none] [] h Q ↔ Q (some (.int (fch (kd s (wj tu j))))) h := by
  have hb : bdy s ≤ 3 := by unfold bdy; split <;> omega
  have hJ := wj_le (tu := tu) hj
  obtain ⟨k1, k2, k3⟩ := kd_b s hs8 (wj tu j) (by omega)
  have hbl := bl_le 15 (by omega)
  have e4 : nI s * 4 = nI (4 * s) := by rw [show (4 : Int32) = nI 4 from rfl, pk_mul]; congr 1; omega
  have i0 : ¬ nI (4 * s + wj tu j) < 0 := nI_pos (by omega)
  have i1 : nI (4 * s + wj tu j) < nI (i_bl 15) := nI_lt k1 (by omega)
  obtain ⟨n1, n2⟩ := sBy_n 15 (by omega) _ k1
  have hnar : narrow .char (.int (sBy 15 (4 * s + wj tu j))) = .int (sBy 15 (4 * s + wj tu j)) := by rw [n1]; exact (pk_charN (by omega)).1
  rw [k2] at hnar
  simp only [sX10_formAt_0, sX10_formAt_1, sX10_formAt_2, sX10_formAt_3, sX10_formAt_4, sX10_formAt_5, sX10_formAt_8, sX10_formAt_9, sX10_formAt_10, sX10_formAt_11, sX10_formAt_14, sX10_formAt_15, sX10_formAt_17, sX10_formAt_20, sX10_formAt_23, sX10_formAt_25, sX10_formAt_28, sX10_formAt_30, sX10_formAt_31, sX10_formAt_34, e_clrI, e_clrR, e_clrU, e_clrN, e_clrL, e_s0, e_s1, e_s2, e_s3, e_s4, e_z0, e_z1, e_f0, e_f1, e_tl, e_tn, e_q0, e_q1, e_zi, e_zj, true_and, and_true, ↓reduceIte, e4, c_unturned (show j < 100 by omega), nI_add, i0, if_false, c_len hs (show 15 < 16 by omega), hS_rc hs (show 15 < 16 by omega), i1, if_true, c_charAt hs (show 15 < 16 by omega) k1, k2, hnar, true_and]
theorem c_numberAt {d : Nat} {h : aH} {s : Nat} (hs8 : s < 8) {tu : Bool} {j : Nat} (hj : j < 100) {Q : Option Value → aH → Prop} : wp (d + 1) mX10_numberAt 0 [some (.int (nI s)), some (.int (if tu then 1 else 0)), some (.int (nI j))] [] h Q ↔ Q (some (.int (nI (wj (tu != decide (s = 6)) j)))) h := by
  have h6 : nI s = 6 ↔ s = 6 := nI_eq (b := 6) (by omega) (by omega)
  have u0 : ∀ {Q : Option Value → aH → Prop}, wp d mX10_unturned 0 [some (.int 0), some (.int (nI j))] [] h Q ↔ Q (some (.int (nI (wj false j)))) h := c_unturned (tu := false) hj
  have u1 : ∀ {Q : Option Value → aH → Prop}, wp d mX10_unturned 0 [some (.int 1), some (.int (nI j))] [] h Q ↔ Q (some (.int (nI (wj true j)))) h := c_unturned (tu := true) hj
  by_cases hs : s = 6
  · cases tu with
    | false => simp only [sX10_numberAt_0, sX10_numberAt_1, sX10_numberAt_2, sX10_numberAt_4, sX10_numberAt_7, sX10_numberAt_8, sX10_numberAt_11, sX10_numberAt_12, sX10_numberAt_15, sX10_numberAt_16, sX10_numberAt_19, sX10_numberAt_20, sX10_numberAt_21, sX10_numberAt_24, e_clrI, e_clrR, e_clrU, e_clrN, e_clrL, e_s0, e_s1, e_s2, e_s3, e_s4, e_z0, e_z1, e_f0, e_f1, e_tl, e_tn, e_q0, e_q1, e_zi, e_zj, true_and, and_true, ↓reduceIte, h6, hs, if_true, Bool.false_eq_true, if_false]; simp +decide [u1, sX10_numberAt_24]
    | true => simp only [sX10_numberAt_0, sX10_numberAt_1, sX10_numberAt_2, sX10_numberAt_4, sX10_numberAt_7, sX10_numberAt_8, sX10_numberAt_11, sX10_numberAt_12, sX10_numberAt_15, sX10_numberAt_16, sX10_numberAt_19, sX10_numberAt_20, sX10_numberAt_21, sX10_numberAt_24, e_clrI, e_clrR, e_clrU, e_clrN, e_clrL, e_s0, e_s1, e_s2, e_s3, e_s4, e_z0, e_z1, e_f0, e_f1, e_tl, e_tn, e_q0, e_q1, e_zi, e_zj, true_and, and_true, ↓reduceIte, h6, hs, if_true]; simp +decide [u0, sX10_numberAt_24]
  · cases tu with
    | false => simp only [sX10_numberAt_0, sX10_numberAt_1, sX10_numberAt_2, sX10_numberAt_4, sX10_numberAt_7, sX10_numberAt_8, sX10_numberAt_11, sX10_numberAt_12, sX10_numberAt_15, sX10_numberAt_16, sX10_numberAt_19, sX10_numberAt_20, sX10_numberAt_21, sX10_numberAt_24, e_clrI, e_clrR, e_clrU, e_clrN, e_clrL, e_s0, e_s1, e_s2, e_s3, e_s4, e_z0, e_z1, e_f0, e_f1, e_tl, e_tn, e_q0, e_q1, e_zi, e_zj, true_and, and_true, ↓reduceIte, h6, hs, if_true, Bool.false_eq_true, if_false]; simp +decide [u0, sX10_numberAt_24]
    | true => simp only [sX10_numberAt_0, sX10_numberAt_1, sX10_numberAt_2, sX10_numberAt_4, sX10_numberAt_7, sX10_numberAt_8, sX10_numberAt_11, sX10_numberAt_12, sX10_numberAt_15, sX10_numberAt_16, sX10_numberAt_19, sX10_numberAt_20, sX10_numberAt_21, sX10_numberAt_24, e_clrI, e_clrR, e_clrU, e_clrN, e_clrL, e_s0, e_s1, e_s2, e_s3, e_s4, e_z0, e_z1, e_f0, e_f1, e_tl, e_tn, e_q0, e_q1, e_zi, e_zj, true_and, and_true, ↓reduceIte, h6, hs, if_true, if_false]; simp +decide [u1, sX10_numberAt_24]
theorem fch_7 : ∀ k, k < 12 → (fch k = 71 ↔ k = 6) ∧ (fch k = 80 ↔ k = 8) ∧ fch k = nI (fch k).toNatClampNeg ∧ (fch k).toNatClampNeg < 256 := by decide +kernel
theorem c_isOfM {d : Nat} {h : aH} {s k : Nat} (hs8 : s < 8) (hk : k < 12) {Q : Option Value → aH → Prop} : wp d mX10_isOfM 0 [some (.int (nI s)), some (.int (fch k))] [] h Q ↔ Q (some (.int (if k = 6 ∨ (k = 8 ∧ s = 4) then 1 else 0))) h := by
  obtain ⟨f1, f2, _⟩ := fch_7 k hk
  have h4 : nI s = 4 ↔ s = 4 := nI_eq (b := 4) (by omega) (by omega)
  simp only [sX10_isOfM_0, sX10_isOfM_1, sX10_isOfM_3, sX10_isOfM_6, sX10_isOfM_7, sX10_isOfM_9, sX10_isOfM_12, sX10_isOfM_13, sX10_isOfM_14, sX10_isOfM_17, sX10_isOfM_18, sX10_isOfM_21, sX10_isOfM_22, e_clrI, e_clrR, e_clrU, e_clrN, e_clrL, e_s0, e_s1, e_s2, e_s3, e_s4, e_z0, e_z1, e_f0, e_f1, e_tl, e_tn, e_q0, e_q1, e_zi, e_zj, true_and, and_true, ↓reduceIte, f1, f2, h4]
  by_cases a1 : k = 6
  · simp [a1]
  · by_cases a2 : k = 8
    · by_cases a3 : s = 4
      · simp [a2, a3]
      · simp [a2, a3]
    · simp [a1, a2]
theorem wN_v {na : Int32} {nw : Nat → Int64} {a n : Nat} (ea : na = nI a) (ha : a ≤ 6) (hn : n < a) : wN na nw (nI n) = nw n := by
  unfold wN
  rw [ea, if_pos ⟨nI_pos' (by omega), nI_lt hn (by omega)⟩, nI_clamp (by omega)]
theorem nbr_c {s x y z j : Nat} {tu : Bool} (hs8 : s < 8) (htu : tu = true → bdy s = 2 ∧ s ≠ 6) (hj : j < bdy s) {wi : Int32} : (if nI (wj (tu != decide (s = 6)) j) = 0 then nI x else if nI (wj (tu != decide (s = 6)) j) = 1 then nI y else if nI (wj (tu != decide (s = 6)) j) = 2 then nI z else wi) = nI (nbr s (wj tu j) x y z) := by
  have hb : 2 ≤ bdy s ∧ bdy s ≤ 3 := by unfold bdy; split <;> omega
  have h7 : bdy s = 3 → s = 7 := by unfold bdy; split <;> omega
  have e : wj (tu != decide (s = 6)) j = if s = 6 then 1 - wj tu j else wj tu j := by
    by_cases h6 : s = 6
    · subst h6
      have : bdy 6 = 2 := rfl
      cases tu with
      | true => exact absurd rfl (htu rfl).2
      | false =>
        unfold wj
        have : j < 2 := by omega
        simp [this]
    · cases tu <;> simp [h6]
  have hle : wj (tu != decide (s = 6)) j < 3 := by
    unfold wj
    split <;> omega
  unfold nbr
  rw [← e]
  generalize wj (tu != decide (s = 6)) j = q at hle
  have q0 : nI q = 0 ↔ q = 0 := nI_eq (b := 0) (by omega) (by omega)
  have q1 : nI q = 1 ↔ q = 1 := nI_eq (b := 1) (by omega) (by omega)
  have q2 : nI q = 2 ↔ q = 2 := nI_eq (b := 2) (by omega) (by omega)
  simp only [q0, q1, q2]
  by_cases a0 : q = 0
  · simp only [a0, if_true]
  · by_cases a1 : q = 1
    · simp only [a1, if_true]; simp
    · have a2 : q = 2 := by omega
      simp only [a2, if_true]; simp
/-- a question has no O and no X -/
theorem exF_q {N O T X O' X' : List Nat} : ∀ k, 8 ≤ k → k < 12 → exF (a_byt.getD (k + 2) []) N O T X = exF (a_byt.getD (k + 2) []) N O' T X' := by
  intro k h1 h2
  match k, h1, h2 with
  | 8, _, _ => rfl
  | 9, _, _ => rfl
  | 10, _, _ => rfl
  | 11, _, _ => rfl
  | n + 12, _, h => exact absurd h (by omega)
theorem c_taleL {d : Nat} {g : aH} (hs : hS g) {na : Int32} {th : Int32} {nw : Nat → Int64} {tw : Nat → Int64} {mo : Nat → Int32} {le : Nat → Int32} {gr : Nat → Int32} {to : Int32} {sh : Int32} {pn : Int32} {pm : Int32} {pt : Int32} {pi : Int32} {pj : Int32} {nu : Nat → Int32} {sa : Nat → Int32} {ss : Int32} {tx : Nat → Int32} {tq : Nat → Int32} {ql : Int32} {fa : Nat → Int32} {fu : Int32} {fp : Int32} {wn : Nat → Int32} {te : Nat → Int32} {lo : Nat → Int32} {hi : Nat → Int32} {mt : Int32} {me : Int32} {tt : Int32} {ix : Int32} {ov : Int32} {su : Int32} {wa : Int32} {im : Nat → Option Nat} {wd : Nat → Int64} {a b s n m t x y z i0 pl il jl : Nat} {plc : Int32} {tu : Bool} (ha : a ≤ 6) (ea : na = nI a) (hb : b ≤ 6) (eb : th = nI b) (hp : plW wd s n m t) (hna : n < a) (htb : t < b) (hma : (s = 4 ∨ s = 5) → m < a ∧ pm = nI m)
    (ew : ∀ k, k < a → nw k = wd k) (et : ∀ k, k < b → tw k = wd (6 + k)) (e2 : sh = nI s) (e3 : pn = nI n) (e5 : pt = nI t) (htu : tu = true → bdy s = 2 ∧ s ≠ 6) (hx : 1 ≤ x ∧ x < 100) (hy : 1 ≤ y ∧ y < 100) (hz : z < 100 ∧ (s = 7 → 1 ≤ z)) (hi0 : i0 < 100)
    (hid : ¬ pi = -1 → (1 ≤ i0 ∧ plc = nI pl ∧ pl < 100 ∧ il < a ∧ jl < b ∧ isW (wd il) ∧ isW (wd (6 + jl)) ∧ pi = nI il ∧ pj = nI jl))
    {Q : Option Value → aH → Prop} {S : Nat → List Nat} {A : List Nat} (hSS : ∀ i, i ≤ bdy s → S i = wSt wd s tu n m t x y z i) (hA : A = exF (a_byt.getD 2 []) (lsW (wd il)) [] (lsW (wd (6 + jl))) (dg i0)) (hAl : A.length ≤ 48) (hSl : ∀ i, (S i).length ≤ 48) {D : Bool} (hD : D = decide (¬ pi = -1))
    (hk : ∀ t0 t1 t2 t3 t4 : Int32, Q none (KW (KS1 (K0 (KT g t0 t1 t2 t3 t4) im) na th nw tw mo le gr to sh pn pm pt pi pj nu sa ss (tX tx (wTx D pl A S (bdy s + 1))) (nI (wTx D pl A S (bdy s + 1)).length) tq ql fa fu fp) wn te lo hi mt me tt ix ov su (nI x) (nI y) (nI z) (nI i0) wa)) :
    ∀ (r i : Nat) (t0 t1 t2 t3 t4 : Int32), bdy s + 1 - i = r → i ≤ bdy s + 1 →
      wp (d + 6) mX9_putTale 20 [some (.ref 23), some (.ref 6), some (.ref 18), some (.int (if tu then 1 else 0)), some (.int plc), some (.int (nI (bdy s))), some (.int (nI i))] [] (KW (KS1 (K0 (KT g t0 t1 t2 t3 t4) im) na th nw tw mo le gr to sh pn pm pt pi pj nu sa ss (tX tx (wTx D pl A S i)) (nI (wTx D pl A S i).length) tq ql fa fu fp) wn te lo hi mt me tt ix ov su (nI x) (nI y) (nI z) (nI i0) wa) Q := by
  have hp0 := hp
  obtain ⟨hs8, hn, ht, hwn, hwt, hm⟩ := hp
  have hbd : 2 ≤ bdy s ∧ bdy s ≤ 3 := by unfold bdy; split <;> omega
  have vn : wN na nw (nI n) = wd n := by rw [wN_v ea ha hna, ew n hna]
  have vt : wN th tw (nI t) = wd (6 + t) := by rw [wN_v eb hb htb, et t htb]
  subst e2 e3 e5
  intro r
  induction r with
  | zero =>
    intro i t0 t1 t2 t3 t4 h1 h2
    have : i = bdy s + 1 := by omega
    subst this
    rw [sX9_putTale_20]
    have hgt : nI (bdy s) < nI (bdy s + 1) := nI_lt (by omega) (by omega)
    simp only [sX9_putTale_0, sX9_putTale_1, sX9_putTale_4, sX9_putTale_5, sX9_putTale_8, sX9_putTale_9, sX9_putTale_12, sX9_putTale_15, sX9_putTale_17, sX9_putTale_18, sX9_putTale_22, sX9_putTale_24, sX9_putTale_27, sX9_putTale_28, sX9_putTale_31, sX9_putTale_34, sX9_putTale_36, sX9_putTale_38, sX9_putTale_41, sX9_putTale_42, sX9_putTale_43, sX9_putTale_44, sX9_putTale_47, sX9_putTale_48, sX9_putTale_51, sX9_putTale_52, sX9_putTale_55, sX9_putTale_56, sX9_putTale_58, sX9_putTale_61, sX9_putTale_64, sX9_putTale_65, sX9_putTale_68, sX9_putTale_69, sX9_putTale_72, sX9_putTale_73, sX9_putTale_76, sX9_putTale_79, sX9_putTale_82, sX9_putTale_85, sX9_putTale_86, sX9_putTale_89, sX9_putTale_92, sX9_putTale_93, sX9_putTale_96, sX9_putTale_99, sX9_putTale_100, sX9_putTale_103, sX9_putTale_104, sX9_putTale_107, sX9_putTale_110, sX9_putTale_111, sX9_putTale_114, sX9_putTale_115, sX9_putTale_118, sX9_putTale_121, sX9_putTale_122, sX9_putTale_125, sX9_putTale_126, sX9_putTale_127, sX9_putTale_130, sX9_putTale_131, sX9_putTale_133, sX9_putTale_136, sX9_putTale_139, sX9_putTale_142, sX9_putTale_143, sX9_putTale_146, sX9_putTale_149, sX9_putTale_152, e_clrI, e_clrR, e_clrU, e_clrN, e_clrL, e_s0, e_s1, e_s2, e_s3, e_s4, e_z0, e_z1, e_f0, e_f1, e_tl, e_tn, e_q0, e_q1, e_zi, e_zj, true_and, and_true, ↓reduceIte, hgt, if_true]
    exact hk _ _ _ _ _
  | succ r ih =>
    intro i t0 t1 t2 t3 t4 h1 h2
    have hle : ¬ nI (bdy s) < nI i := nI_nlt (by omega) (by omega)
    have hSi := hSS i (by omega)
    have hlen := wTx_len (id := D) (pl := pl) hAl hSl i
    have hlen : (wTx D pl A S i).length ≤ 245 := by split at hlen <;> omega
    have hJ := wj_le (tu := tu) (show i ≤ bdy s by omega)
    obtain ⟨_, _, hk12⟩ := kd_b s hs8 (wj tu i) (by omega)
    have hstep : ∀ (u : List Nat) (t0 t1 t2 t3 t4 : Int32), u.length ≤ 300 → wTx D pl A S (i + 1) = u ++ (sep u ++ S i) → wp (d + 6) mX9_putTale 47 [some (.ref 23), some (.ref 6), some (.ref 18), some (.int (if tu then 1 else 0)), some (.int plc), some (.int (nI (bdy s))), some (.int (nI i))] [] (KW (KS1 (K0 (KT g t0 t1 t2 t3 t4) im) na th nw tw mo le gr to (nI s) (nI n) pm (nI t) pi pj nu sa ss (tX tx u) (nI u.length) tq ql fa fu fp) wn te lo hi mt me tt ix ov su (nI x) (nI y) (nI z) (nI i0) wa) Q := by
      intro u t0 t1 t2 t3 t4 hu he
      have hS0 : hS (KW (KS1 (K0 (KT g t0 t1 t2 t3 t4) im) na th nw tw mo le gr to (nI s) (nI n) pm (nI t) pi pj nu sa ss (tX tx u) (nI u.length) tq ql fa fu fp) wn te lo hi mt me tt ix ov su (nI x) (nI y) (nI z) (nI i0) wa) := hS_W (hS_S1 (hS_0 (hS_T hs)))
      obtain ⟨v, hv100, hval, htxt⟩ : ∃ v : Nat, v < 100 ∧ (if nI (wj (tu != decide (s = 6)) i) = 0 then nI x else if nI (wj (tu != decide (s = 6)) i) = 1 then nI y else if nI (wj (tu != decide (s = 6)) i) = 2 then nI z else nI i0) = nI v ∧ ∀ N : List Nat, exF (a_byt.getD (kd s (wj tu i) + 2) []) N (lsW (wd n)) (lsW (wd (6 + t))) (dgK v) = exF (a_byt.getD (kd s (wj tu i) + 2) []) N (lsW (wd n)) (lsW (wd (6 + t))) (dg (nbr s (wj tu i) x y z)) := by
        by_cases hib : i = bdy s
        · have hw : wj tu i = bdy s := by rw [hib]; unfold wj; rw [if_neg (by omega)]
          obtain ⟨q1, q2⟩ := kd_q s hs8
          have hq : ∀ v : Nat, ∀ N : List Nat, exF (a_byt.getD (kd s (wj tu i) + 2) []) N (lsW (wd n)) (lsW (wd (6 + t))) (dgK v) = exF (a_byt.getD (kd s (wj tu i) + 2) []) N (lsW (wd n)) (lsW (wd (6 + t))) (dg (nbr s (wj tu i) x y z)) := fun v N => by rw [hw]; exact exF_q _ q1 q2
          by_cases c0 : nI (wj (tu != decide (s = 6)) i) = 0
          · exact ⟨x, hx.2, by rw [if_pos c0], hq x⟩
          · by_cases c1 : nI (wj (tu != decide (s = 6)) i) = 1
            · exact ⟨y, hy.2, by rw [if_neg c0, if_pos c1], hq y⟩
            · by_cases c2 : nI (wj (tu != decide (s = 6)) i) = 2
              · exact ⟨z, hz.1, by rw [if_neg c0, if_neg c1, if_pos c2], hq z⟩
              · exact ⟨i0, hi0, by rw [if_neg c0, if_neg c1, if_neg c2], hq i0⟩
        · have h7 : bdy s = 3 → s = 7 := by unfold bdy; split <;> omega
          have hJ2 : wj tu i < bdy s := by unfold wj; split <;> omega
          have hnb : 1 ≤ nbr s (wj tu i) x y z ∧ nbr s (wj tu i) x y z < 100 := by
            unfold nbr
            by_cases h6 : s = 6
            · have : bdy 6 = 2 := rfl
              simp only [h6, if_true]
              by_cases a0 : 1 - wj tu i = 0
              · simp only [a0, if_true]; exact hx
              · have a1 : 1 - wj tu i = 1 := by omega
                simp only [a1, if_true]; exact hy
            · simp only [h6, if_false]
              by_cases a0 : wj tu i = 0
              · simp only [a0, if_true]; exact hx
              · by_cases a1 : wj tu i = 1
                · simp only [a1, if_true]; exact hy
                · simp only [a0, a1, if_false]
                  exact ⟨hz.2 (h7 (by omega)), hz.1⟩
          refine ⟨nbr s (wj tu i) x y z, hnb.2, nbr_c hs8 htu (by omega), fun N => ?_⟩
          unfold dgK
          rw [if_neg (by omega)]
      obtain ⟨f1, f2, f3, f4⟩ := fch_7 (kd s (wj tu i)) hk12
      have hch : narrow .char (.int (fch (kd s (wj tu i)))) = .int (fch (kd s (wj tu i))) ∧ fits .char (.int (fch (kd s (wj tu i)))) = true := by rw [f3]; exact pk_charN (by omega)
      have hnext : ∀ t0 t1 t2 t3 t4 : Int32, wp (d + 6) mX9_putTale 146 [some (.ref 23), some (.ref 6), some (.ref 18), some (.int (if tu then 1 else 0)), some (.int plc), some (.int (nI (bdy s))), some (.int (nI i))] [] (KW (KS1 (K0 (KT g t0 t1 t2 t3 t4) im) na th nw tw mo le gr to (nI s) (nI n) pm (nI t) pi pj nu sa ss (tX tx (wTx D pl A S (i + 1))) (nI (wTx D pl A S (i + 1)).length) tq ql fa fu fp) wn te lo hi mt me tt ix ov su (nI x) (nI y) (nI z) (nI i0) wa) Q := by
        intro t0 t1 t2 t3 t4
        simp only [sX9_putTale_0, sX9_putTale_1, sX9_putTale_4, sX9_putTale_5, sX9_putTale_8, sX9_putTale_9, sX9_putTale_12, sX9_putTale_15, sX9_putTale_17, sX9_putTale_18, sX9_putTale_22, sX9_putTale_24, sX9_putTale_27, sX9_putTale_28, sX9_putTale_31, sX9_putTale_34, sX9_putTale_36, sX9_putTale_38, sX9_putTale_41, sX9_putTale_42, sX9_putTale_43, sX9_putTale_44, sX9_putTale_47, sX9_putTale_48, sX9_putTale_51, sX9_putTale_52, sX9_putTale_55, sX9_putTale_56, sX9_putTale_58, sX9_putTale_61, sX9_putTale_64, sX9_putTale_65, sX9_putTale_68, sX9_putTale_69, sX9_putTale_72, sX9_putTale_73, sX9_putTale_76, sX9_putTale_79, sX9_putTale_82, sX9_putTale_85, sX9_putTale_86, sX9_putTale_89, sX9_putTale_92, sX9_putTale_93, sX9_putTale_96, sX9_putTale_99, sX9_putTale_100, sX9_putTale_103, sX9_putTale_104, sX9_putTale_107, sX9_putTale_110, sX9_putTale_111, sX9_putTale_114, sX9_putTale_115, sX9_putTale_118, sX9_putTale_121, sX9_putTale_122, sX9_putTale_125, sX9_putTale_126, sX9_putTale_127, sX9_putTale_130, sX9_putTale_131, sX9_putTale_133, sX9_putTale_136, sX9_putTale_139, sX9_putTale_142, sX9_putTale_143, sX9_putTale_146, sX9_putTale_149, sX9_putTale_152, e_clrI, e_clrR, e_clrU, e_clrN, e_clrL, e_s0, e_s1, e_s2, e_s3, e_s4, e_z0, e_z1, e_f0, e_f1, e_tl, e_tn, e_q0, e_q1, e_zi, e_zj, true_and, and_true, ↓reduceIte, nI_1]
        exact ih (i + 1) _ _ _ _ _ (by omega) (by omega)
      rw [he, hSi] at hnext
      unfold wSt at hnext
      by_cases hof : kd s (wj tu i) = 6 ∨ (kd s (wj tu i) = 8 ∧ s = 4)
      · have h45 : s = 4 ∨ s = 5 := by
          rcases hof with h | h
          · exact kd_6 s hs8 _ (by omega) h
          · exact Or.inl h.2
        obtain ⟨hm1, hm2⟩ := hma h45
        have vm : wN na nw (nI m) = wd m := by rw [wN_v ea ha hm1, ew m hm1]
        subst hm2
        rw [if_pos hof] at hnext
        simp only [sX9_putTale_0, sX9_putTale_1, sX9_putTale_4, sX9_putTale_5, sX9_putTale_8, sX9_putTale_9, sX9_putTale_12, sX9_putTale_15, sX9_putTale_17, sX9_putTale_18, sX9_putTale_22, sX9_putTale_24, sX9_putTale_27, sX9_putTale_28, sX9_putTale_31, sX9_putTale_34, sX9_putTale_36, sX9_putTale_38, sX9_putTale_41, sX9_putTale_42, sX9_putTale_43, sX9_putTale_44, sX9_putTale_47, sX9_putTale_48, sX9_putTale_51, sX9_putTale_52, sX9_putTale_55, sX9_putTale_56, sX9_putTale_58, sX9_putTale_61, sX9_putTale_64, sX9_putTale_65, sX9_putTale_68, sX9_putTale_69, sX9_putTale_72, sX9_putTale_73, sX9_putTale_76, sX9_putTale_79, sX9_putTale_82, sX9_putTale_85, sX9_putTale_86, sX9_putTale_89, sX9_putTale_92, sX9_putTale_93, sX9_putTale_96, sX9_putTale_99, sX9_putTale_100, sX9_putTale_103, sX9_putTale_104, sX9_putTale_107, sX9_putTale_110, sX9_putTale_111, sX9_putTale_114, sX9_putTale_115, sX9_putTale_118, sX9_putTale_121, sX9_putTale_122, sX9_putTale_125, sX9_putTale_126, sX9_putTale_127, sX9_putTale_130, sX9_putTale_131, sX9_putTale_133, sX9_putTale_136, sX9_putTale_139, sX9_putTale_142, sX9_putTale_143, sX9_putTale_149, sX9_putTale_152, e_clrI, e_clrR, e_clrU, e_clrN, e_clrL, e_s0, e_s1, e_s2, e_s3, e_s4, e_z0, e_z1, e_f0, e_f1, e_tl, e_tn, e_q0, e_q1, e_zi, e_zj, true_and, and_true, ↓reduceIte, hKW_1, hKW_2, hKW_x, hKW_pu, hKW_xpf, hKW_xas, hKW_xasz, hKW_xasl, hKW_rc18, hKW_g18_0, hKW_g18_1, hKW_g18_2, hKW_g18_3, hKW_g18_4, hKW_g18_5, hKW_g18_6, hKW_u18_6, hKW_p18_6, hKW_g18_7, hKW_u18_7, hKW_p18_7, hKW_g18_8, hKW_u18_8, hKW_p18_8, hKW_g18_9, hKW_u18_9, hKW_p18_9, hKW_g18_10, hKW_u18_10, hKW_p18_10, hKW_g18_11, hKW_u18_11, hKW_p18_11, hKW_g18_12, hKW_u18_12, hKW_p18_12, hKW_g18_13, hKW_u18_13, hKW_p18_13, hKW_g18_14, hKW_u18_14, hKW_p18_14, hKW_g18_15, hKW_u18_15, hKW_p18_15, hKW_g18_16, hKW_u18_16, hKW_p18_16, hKW_n19, hKW_l19, hKW_v19, hKW_s19, hKW_n20, hKW_l20, hKW_v20, hKW_s20, hKW_n21, hKW_l21, hKW_v21, hKW_s21, hKW_n22, hKW_l22, hKW_v22, hKW_s22, hKS1_1, hKS1_2, hKS1_x, hKS1_pu, hKS1_xpf, hKS1_xas, hKS1_xasz, hKS1_xasl, hKS1_rc1, hKS1_g1_0, hKS1_g1_1, hKS1_g1_2, hKS1_g1_3, hKS1_g1_4, hKS1_g1_5, hKS1_g1_6, hKS1_u1_6, hKS1_p1_6, hKS1_g1_7, hKS1_u1_7, hKS1_p1_7, hKS1_rc2, hKS1_g2_0, hKS1_g2_1, hKS1_g2_2, hKS1_g2_3, hKS1_u2_3, hKS1_p2_3, hKS1_g2_4, hKS1_u2_4, hKS1_p2_4, hKS1_n3, hKS1_l3, hKS1_v3, hKS1_s3, hKS1_n4, hKS1_l4, hKS1_v4, hKS1_s4, hKS1_n5, hKS1_l5, hKS1_v5, hKS1_s5, hKS1_rc6, hKS1_g6_0, hKS1_g6_1, hKS1_g6_2, hKS1_u6_2, hKS1_p6_2, hKS1_g6_3, hKS1_u6_3, hKS1_p6_3, hKS1_g6_4, hKS1_u6_4, hKS1_p6_4, hKS1_g6_5, hKS1_u6_5, hKS1_p6_5, hKS1_g6_6, hKS1_u6_6, hKS1_p6_6, hKS1_g6_7, hKS1_u6_7, hKS1_p6_7, hKS1_g6_8, hKS1_u6_8, hKS1_p6_8, hKS1_n7, hKS1_l7, hKS1_v7, hKS1_s7, hKS1_n8, hKS1_l8, hKS1_v8, hKS1_s8, hKS1_rc9, hKS1_g9_0, hKS1_g9_1, hKS1_g9_2, hKS1_u9_2, hKS1_p9_2, hKS1_n10, hKS1_l10, hKS1_v10, hKS1_s10, hKS1_n11, hKS1_l11, hKS1_v11, hKS1_s11, hKS1_rc12, hKS1_g12_0, hKS1_g12_1, hKS1_u12_1, hKS1_p12_1, hKS1_n13, hKS1_l13, hKS1_v13, hKS1_s13, hKS1_rc14, hKS1_g14_0, hKS1_g14_1, hKS1_u14_1, hKS1_p14_1, hKS1_n15, hKS1_l15, hKS1_v15, hKS1_s15, hKS1_n16, hKS1_l16, hKS1_v16, hKS1_s16, hK0_1, hK0_2, hK0_x, hK0_pu, hK0_xpf, hK0_xas, hK0_xasz, hK0_xasl, hK0_rc0, hK0_g0_0, hK0_g0_1, hK0_g0_2, hK0_g0_3, hK0_g0_4, hK0_n17, hK0_l17, hK0_v17, hKT_1, hKT_2, hKT_x, hKT_pu, hKT_xpf, hKT_xas, hKT_xasz, hKT_xasl, hKT_rc23, hKT_g23_0, hKT_g23_1, hKT_g23_2, hKT_rc24, hKT_g24_0, hKT_u24_0, hKT_p24_0, hKT_g24_1, hKT_u24_1, hKT_p24_1, hKT_g24_2, hKT_u24_2, hKT_p24_2, hKT_g24_3, hKT_u24_3, hKT_p24_3, hKT_g24_4, hKT_u24_4, hKT_p24_4, Nat.reduceLeDiff, Nat.reduceEqDiff, false_and, and_false, or_self, not_false_eq_true, c_formAt hS0 hs8 (show i ≤ bdy s by omega), hch, true_and, c_isOfM hs8 hk12, hof, if_true, c_numberAt hs8 (show i < 100 by omega), c_number, hval]
        try simp +decide only [if_true, if_false]
        rw [c_putSentence hs ha ea hb eb (by rw [vm]; exact lwd_W (hm h45).2) (by rw [vn]; exact lwd_W hwn) (by rw [vt]; exact lwd_W hwt) hv100 hk12 (by omega)]
        simp only [sX9_putTale_0, sX9_putTale_1, sX9_putTale_4, sX9_putTale_5, sX9_putTale_8, sX9_putTale_9, sX9_putTale_12, sX9_putTale_15, sX9_putTale_17, sX9_putTale_18, sX9_putTale_22, sX9_putTale_24, sX9_putTale_27, sX9_putTale_28, sX9_putTale_31, sX9_putTale_34, sX9_putTale_36, sX9_putTale_38, sX9_putTale_41, sX9_putTale_42, sX9_putTale_43, sX9_putTale_44, sX9_putTale_47, sX9_putTale_48, sX9_putTale_51, sX9_putTale_52, sX9_putTale_55, sX9_putTale_56, sX9_putTale_58, sX9_putTale_61, sX9_putTale_64, sX9_putTale_65, sX9_putTale_68, sX9_putTale_69, sX9_putTale_72, sX9_putTale_73, sX9_putTale_76, sX9_putTale_79, sX9_putTale_82, sX9_putTale_85, sX9_putTale_86, sX9_putTale_89, sX9_putTale_92, sX9_putTale_93, sX9_putTale_96, sX9_putTale_99, sX9_putTale_100, sX9_putTale_103, sX9_putTale_104, sX9_putTale_107, sX9_putTale_110, sX9_putTale_111, sX9_putTale_114, sX9_putTale_115, sX9_putTale_118, sX9_putTale_121, sX9_putTale_122, sX9_putTale_125, sX9_putTale_126, sX9_putTale_127, sX9_putTale_130, sX9_putTale_131, sX9_putTale_133, sX9_putTale_136, sX9_putTale_139, sX9_putTale_142, sX9_putTale_143, sX9_putTale_149, sX9_putTale_152, e_clrI, e_clrR, e_clrU, e_clrN, e_clrL, e_s0, e_s1, e_s2, e_s3, e_s4, e_z0, e_z1, e_f0, e_f1, e_tl, e_tn, e_q0, e_q1, e_zi, e_zj, true_and, and_true, ↓reduceIte, vm, vn, vt, htxt]
        exact hnext _ _ _ _ _
      · rw [if_neg hof] at hnext
        simp only [sX9_putTale_0, sX9_putTale_1, sX9_putTale_4, sX9_putTale_5, sX9_putTale_8, sX9_putTale_9, sX9_putTale_12, sX9_putTale_15, sX9_putTale_17, sX9_putTale_18, sX9_putTale_22, sX9_putTale_24, sX9_putTale_27, sX9_putTale_28, sX9_putTale_31, sX9_putTale_34, sX9_putTale_36, sX9_putTale_38, sX9_putTale_41, sX9_putTale_42, sX9_putTale_43, sX9_putTale_44, sX9_putTale_47, sX9_putTale_48, sX9_putTale_51, sX9_putTale_52, sX9_putTale_55, sX9_putTale_56, sX9_putTale_58, sX9_putTale_61, sX9_putTale_64, sX9_putTale_65, sX9_putTale_68, sX9_putTale_69, sX9_putTale_72, sX9_putTale_73, sX9_putTale_76, sX9_putTale_79, sX9_putTale_82, sX9_putTale_85, sX9_putTale_86, sX9_putTale_89, sX9_putTale_92, sX9_putTale_93, sX9_putTale_96, sX9_putTale_99, sX9_putTale_100, sX9_putTale_103, sX9_putTale_104, sX9_putTale_107, sX9_putTale_110, sX9_putTale_111, sX9_putTale_114, sX9_putTale_115, sX9_putTale_118, sX9_putTale_121, sX9_putTale_122, sX9_putTale_125, sX9_putTale_126, sX9_putTale_127, sX9_putTale_130, sX9_putTale_131, sX9_putTale_133, sX9_putTale_136, sX9_putTale_139, sX9_putTale_142, sX9_putTale_143, sX9_putTale_149, sX9_putTale_152, e_clrI, e_clrR, e_clrU, e_clrN, e_clrL, e_s0, e_s1, e_s2, e_s3, e_s4, e_z0, e_z1, e_f0, e_f1, e_tl, e_tn, e_q0, e_q1, e_zi, e_zj, true_and, and_true, ↓reduceIte, hKW_1, hKW_2, hKW_x, hKW_pu, hKW_xpf, hKW_xas, hKW_xasz, hKW_xasl, hKW_rc18, hKW_g18_0, hKW_g18_1, hKW_g18_2, hKW_g18_3, hKW_g18_4, hKW_g18_5, hKW_g18_6, hKW_u18_6, hKW_p18_6, hKW_g18_7, hKW_u18_7, hKW_p18_7, hKW_g18_8, hKW_u18_8, hKW_p18_8, hKW_g18_9, hKW_u18_9, hKW_p18_9, hKW_g18_10, hKW_u18_10, hKW_p18_10, hKW_g18_11, hKW_u18_11, hKW_p18_11, hKW_g18_12, hKW_u18_12, hKW_p18_12, hKW_g18_13, hKW_u18_13, hKW_p18_13, hKW_g18_14, hKW_u18_14, hKW_p18_14, hKW_g18_15, hKW_u18_15, hKW_p18_15, hKW_g18_16, hKW_u18_16, hKW_p18_16, hKW_n19, hKW_l19, hKW_v19, hKW_s19, hKW_n20, hKW_l20, hKW_v20, hKW_s20, hKW_n21, hKW_l21, hKW_v21, hKW_s21, hKW_n22, hKW_l22, hKW_v22, hKW_s22, hKS1_1, hKS1_2, hKS1_x, hKS1_pu, hKS1_xpf, hKS1_xas, hKS1_xasz, hKS1_xasl, hKS1_rc1, hKS1_g1_0, hKS1_g1_1, hKS1_g1_2, hKS1_g1_3, hKS1_g1_4, hKS1_g1_5, hKS1_g1_6, hKS1_u1_6, hKS1_p1_6, hKS1_g1_7, hKS1_u1_7, hKS1_p1_7, hKS1_rc2, hKS1_g2_0, hKS1_g2_1, hKS1_g2_2, hKS1_g2_3, hKS1_u2_3, hKS1_p2_3, hKS1_g2_4, hKS1_u2_4, hKS1_p2_4, hKS1_n3, hKS1_l3, hKS1_v3, hKS1_s3, hKS1_n4, hKS1_l4, hKS1_v4, hKS1_s4, hKS1_n5, hKS1_l5, hKS1_v5, hKS1_s5, hKS1_rc6, hKS1_g6_0, hKS1_g6_1, hKS1_g6_2, hKS1_u6_2, hKS1_p6_2, hKS1_g6_3, hKS1_u6_3, hKS1_p6_3, hKS1_g6_4, hKS1_u6_4, hKS1_p6_4, hKS1_g6_5, hKS1_u6_5, hKS1_p6_5, hKS1_g6_6, hKS1_u6_6, hKS1_p6_6, hKS1_g6_7, hKS1_u6_7, hKS1_p6_7, hKS1_g6_8, hKS1_u6_8, hKS1_p6_8, hKS1_n7, hKS1_l7, hKS1_v7, hKS1_s7, hKS1_n8, hKS1_l8, hKS1_v8, hKS1_s8, hKS1_rc9, hKS1_g9_0, hKS1_g9_1, hKS1_g9_2, hKS1_u9_2, hKS1_p9_2, hKS1_n10, hKS1_l10, hKS1_v10, hKS1_s10, hKS1_n11, hKS1_l11, hKS1_v11, hKS1_s11, hKS1_rc12, hKS1_g12_0, hKS1_g12_1, hKS1_u12_1, hKS1_p12_1, hKS1_n13, hKS1_l13, hKS1_v13, hKS1_s13, hKS1_rc14, hKS1_g14_0, hKS1_g14_1, hKS1_u14_1, hKS1_p14_1, hKS1_n15, hKS1_l15, hKS1_v15, hKS1_s15, hKS1_n16, hKS1_l16, hKS1_v16, hKS1_s16, hK0_1, hK0_2, hK0_x, hK0_pu, hK0_xpf, hK0_xas, hK0_xasz, hK0_xasl, hK0_rc0, hK0_g0_0, hK0_g0_1, hK0_g0_2, hK0_g0_3, hK0_g0_4, hK0_n17, hK0_l17, hK0_v17, hKT_1, hKT_2, hKT_x, hKT_pu, hKT_xpf, hKT_xas, hKT_xasz, hKT_xasl, hKT_rc23, hKT_g23_0, hKT_g23_1, hKT_g23_2, hKT_rc24, hKT_g24_0, hKT_u24_0, hKT_p24_0, hKT_g24_1, hKT_u24_1, hKT_p24_1, hKT_g24_2, hKT_u24_2, hKT_p24_2, hKT_g24_3, hKT_u24_3, hKT_p24_3, hKT_g24_4, hKT_u24_4, hKT_p24_4, Nat.reduceLeDiff, Nat.reduceEqDiff, false_and, and_false, or_self, not_false_eq_true, c_formAt hS0 hs8 (show i ≤ bdy s by omega), hch, true_and, c_isOfM hs8 hk12, hof, if_false, c_numberAt hs8 (show i < 100 by omega), c_number, hval]
        try simp +decide only [if_true, if_false]
        rw [c_putSentence hs ha ea hb eb (by rw [vn]; exact lwd_W hwn) (by rw [vn]; exact lwd_W hwn) (by rw [vt]; exact lwd_W hwt) hv100 hk12 (by omega)]
        simp only [sX9_putTale_0, sX9_putTale_1, sX9_putTale_4, sX9_putTale_5, sX9_putTale_8, sX9_putTale_9, sX9_putTale_12, sX9_putTale_15, sX9_putTale_17, sX9_putTale_18, sX9_putTale_22, sX9_putTale_24, sX9_putTale_27, sX9_putTale_28, sX9_putTale_31, sX9_putTale_34, sX9_putTale_36, sX9_putTale_38, sX9_putTale_41, sX9_putTale_42, sX9_putTale_43, sX9_putTale_44, sX9_putTale_47, sX9_putTale_48, sX9_putTale_51, sX9_putTale_52, sX9_putTale_55, sX9_putTale_56, sX9_putTale_58, sX9_putTale_61, sX9_putTale_64, sX9_putTale_65, sX9_putTale_68, sX9_putTale_69, sX9_putTale_72, sX9_putTale_73, sX9_putTale_76, sX9_putTale_79, sX9_putTale_82, sX9_putTale_85, sX9_putTale_86, sX9_putTale_89, sX9_putTale_92, sX9_putTale_93, sX9_putTale_96, sX9_putTale_99, sX9_putTale_100, sX9_putTale_103, sX9_putTale_104, sX9_putTale_107, sX9_putTale_110, sX9_putTale_111, sX9_putTale_114, sX9_putTale_115, sX9_putTale_118, sX9_putTale_121, sX9_putTale_122, sX9_putTale_125, sX9_putTale_126, sX9_putTale_127, sX9_putTale_130, sX9_putTale_131, sX9_putTale_133, sX9_putTale_136, sX9_putTale_139, sX9_putTale_142, sX9_putTale_143, sX9_putTale_149, sX9_putTale_152, e_clrI, e_clrR, e_clrU, e_clrN, e_clrL, e_s0, e_s1, e_s2, e_s3, e_s4, e_z0, e_z1, e_f0, e_f1, e_tl, e_tn, e_q0, e_q1, e_zi, e_zj, true_and, and_true, ↓reduceIte, vn, vt, htxt]
        exact hnext _ _ _ _ _
    rw [sX9_putTale_20]
    by_cases h6 : pi = -1
    · have hDf : D = false := by rw [hD]; simp [h6]
      have hgo := hstep (wTx D pl A S i) t0 t1 t2 t3 t4 (by omega) (by rw [wTx_s, if_neg (by simp [hDf])])
      simp only [sX9_putTale_0, sX9_putTale_1, sX9_putTale_4, sX9_putTale_5, sX9_putTale_8, sX9_putTale_9, sX9_putTale_12, sX9_putTale_15, sX9_putTale_17, sX9_putTale_18, sX9_putTale_22, sX9_putTale_24, sX9_putTale_27, sX9_putTale_28, sX9_putTale_31, sX9_putTale_34, sX9_putTale_36, sX9_putTale_38, sX9_putTale_41, sX9_putTale_42, sX9_putTale_43, sX9_putTale_44, sX9_putTale_48, sX9_putTale_51, sX9_putTale_52, sX9_putTale_55, sX9_putTale_56, sX9_putTale_58, sX9_putTale_61, sX9_putTale_64, sX9_putTale_65, sX9_putTale_68, sX9_putTale_69, sX9_putTale_72, sX9_putTale_73, sX9_putTale_76, sX9_putTale_79, sX9_putTale_82, sX9_putTale_85, sX9_putTale_86, sX9_putTale_89, sX9_putTale_92, sX9_putTale_93, sX9_putTale_96, sX9_putTale_99, sX9_putTale_100, sX9_putTale_103, sX9_putTale_104, sX9_putTale_107, sX9_putTale_110, sX9_putTale_111, sX9_putTale_114, sX9_putTale_115, sX9_putTale_118, sX9_putTale_121, sX9_putTale_122, sX9_putTale_125, sX9_putTale_126, sX9_putTale_127, sX9_putTale_130, sX9_putTale_131, sX9_putTale_133, sX9_putTale_136, sX9_putTale_139, sX9_putTale_142, sX9_putTale_143, sX9_putTale_146, sX9_putTale_149, sX9_putTale_152, sX1_isIdle_0, sX1_isIdle_1, sX1_isIdle_4, sX1_isIdle_5, sX1_isIdle_8, sX1_isIdle_9, sX1_isIdle_12, sX1_isIdle_13, e_clrI, e_clrR, e_clrU, e_clrN, e_clrL, e_s0, e_s1, e_s2, e_s3, e_s4, e_z0, e_z1, e_f0, e_f1, e_tl, e_tn, e_q0, e_q1, e_zi, e_zj, true_and, and_true, ↓reduceIte, hKW_1, hKW_2, hKW_x, hKW_pu, hKW_xpf, hKW_xas, hKW_xasz, hKW_xasl, hKW_rc18, hKW_g18_0, hKW_g18_1, hKW_g18_2, hKW_g18_3, hKW_g18_4, hKW_g18_5, hKW_g18_6, hKW_u18_6, hKW_p18_6, hKW_g18_7, hKW_u18_7, hKW_p18_7, hKW_g18_8, hKW_u18_8, hKW_p18_8, hKW_g18_9, hKW_u18_9, hKW_p18_9, hKW_g18_10, hKW_u18_10, hKW_p18_10, hKW_g18_11, hKW_u18_11, hKW_p18_11, hKW_g18_12, hKW_u18_12, hKW_p18_12, hKW_g18_13, hKW_u18_13, hKW_p18_13, hKW_g18_14, hKW_u18_14, hKW_p18_14, hKW_g18_15, hKW_u18_15, hKW_p18_15, hKW_g18_16, hKW_u18_16, hKW_p18_16, hKW_n19, hKW_l19, hKW_v19, hKW_s19, hKW_n20, hKW_l20, hKW_v20, hKW_s20, hKW_n21, hKW_l21, hKW_v21, hKW_s21, hKW_n22, hKW_l22, hKW_v22, hKW_s22, hKS1_1, hKS1_2, hKS1_x, hKS1_pu, hKS1_xpf, hKS1_xas, hKS1_xasz, hKS1_xasl, hKS1_rc1, hKS1_g1_0, hKS1_g1_1, hKS1_g1_2, hKS1_g1_3, hKS1_g1_4, hKS1_g1_5, hKS1_g1_6, hKS1_u1_6, hKS1_p1_6, hKS1_g1_7, hKS1_u1_7, hKS1_p1_7, hKS1_rc2, hKS1_g2_0, hKS1_g2_1, hKS1_g2_2, hKS1_g2_3, hKS1_u2_3, hKS1_p2_3, hKS1_g2_4, hKS1_u2_4, hKS1_p2_4, hKS1_n3, hKS1_l3, hKS1_v3, hKS1_s3, hKS1_n4, hKS1_l4, hKS1_v4, hKS1_s4, hKS1_n5, hKS1_l5, hKS1_v5, hKS1_s5, hKS1_rc6, hKS1_g6_0, hKS1_g6_1, hKS1_g6_2, hKS1_u6_2, hKS1_p6_2, hKS1_g6_3, hKS1_u6_3, hKS1_p6_3, hKS1_g6_4, hKS1_u6_4, hKS1_p6_4, hKS1_g6_5, hKS1_u6_5, hKS1_p6_5, hKS1_g6_6, hKS1_u6_6, hKS1_p6_6, hKS1_g6_7, hKS1_u6_7, hKS1_p6_7, hKS1_g6_8, hKS1_u6_8, hKS1_p6_8, hKS1_n7, hKS1_l7, hKS1_v7, hKS1_s7, hKS1_n8, hKS1_l8, hKS1_v8, hKS1_s8, hKS1_rc9, hKS1_g9_0, hKS1_g9_1, hKS1_g9_2, hKS1_u9_2, hKS1_p9_2, hKS1_n10, hKS1_l10, hKS1_v10, hKS1_s10, hKS1_n11, hKS1_l11, hKS1_v11, hKS1_s11, hKS1_rc12, hKS1_g12_0, hKS1_g12_1, hKS1_u12_1, hKS1_p12_1, hKS1_n13, hKS1_l13, hKS1_v13, hKS1_s13, hKS1_rc14, hKS1_g14_0, hKS1_g14_1, hKS1_u14_1, hKS1_p14_1, hKS1_n15, hKS1_l15, hKS1_v15, hKS1_s15, hKS1_n16, hKS1_l16, hKS1_v16, hKS1_s16, hK0_1, hK0_2, hK0_x, hK0_pu, hK0_xpf, hK0_xas, hK0_xasz, hK0_xasl, hK0_rc0, hK0_g0_0, hK0_g0_1, hK0_g0_2, hK0_g0_3, hK0_g0_4, hK0_n17, hK0_l17, hK0_v17, hKT_1, hKT_2, hKT_x, hKT_pu, hKT_xpf, hKT_xas, hKT_xasz, hKT_xasl, hKT_rc23, hKT_g23_0, hKT_g23_1, hKT_g23_2, hKT_rc24, hKT_g24_0, hKT_u24_0, hKT_p24_0, hKT_g24_1, hKT_u24_1, hKT_p24_1, hKT_g24_2, hKT_u24_2, hKT_p24_2, hKT_g24_3, hKT_u24_3, hKT_p24_3, hKT_g24_4, hKT_u24_4, hKT_p24_4, Nat.reduceLeDiff, Nat.reduceEqDiff, false_and, and_false, or_self, not_false_eq_true, hle, if_false, h6, if_true]
      try simp +decide only [if_true, if_false]
      rw [h6] at hgo
      exact hgo
    · obtain ⟨hi1, hplc, hpl9, hil, hjl, hwi, hwj, f6, f7⟩ := hid h6
      have hDt : D = true := by rw [hD]; simp [h6]
      subst f6 f7
      by_cases hip : i = pl
      · have vi : wN na nw (nI il) = wd il := by rw [wN_v ea ha hil, ew il hil]
        have vj : wN th tw (nI jl) = wd (6 + jl) := by rw [wN_v eb hb hjl, et jl hjl]
        have vo : wN na nw (-1) = 0 := by unfold wN; rw [if_neg (fun q => absurd q.1 (by decide))]
        have hAe : exF (a_byt.getD (0 + 2) []) (lsW (wd il)) (lsW 0) (lsW (wd (6 + jl))) (dgK i0) = A := by
          rw [hA]; unfold dgK; rw [if_neg (by omega)]
          show exF (a_byt.getD 2 []) _ _ _ _ = _
          rw [exF_A, exF_A]
        have hch : narrow .char (.int (fch 0)) = .int (fch 0) ∧ fits .char (.int (fch 0)) = true := pk_charN (q := 65) (by omega)
        have hgo := fun t0 t1 t2 t3 t4 => hstep (wTx D pl A S i ++ (sep (wTx D pl A S i) ++ A)) t0 t1 t2 t3 t4 (by rw [List.length_append, List.length_append]; have := sep_len (wTx D pl A S i); omega) (by rw [wTx_s, if_pos ⟨hDt, hip⟩])
        have heq : nI i = plc ↔ True := iff_true_intro (by rw [hplc, hip])
        simp only [sX9_putTale_0, sX9_putTale_1, sX9_putTale_4, sX9_putTale_5, sX9_putTale_8, sX9_putTale_9, sX9_putTale_12, sX9_putTale_15, sX9_putTale_17, sX9_putTale_18, sX9_putTale_22, sX9_putTale_24, sX9_putTale_27, sX9_putTale_28, sX9_putTale_31, sX9_putTale_34, sX9_putTale_36, sX9_putTale_38, sX9_putTale_41, sX9_putTale_42, sX9_putTale_43, sX9_putTale_44, sX9_putTale_48, sX9_putTale_51, sX9_putTale_52, sX9_putTale_55, sX9_putTale_56, sX9_putTale_58, sX9_putTale_61, sX9_putTale_64, sX9_putTale_65, sX9_putTale_68, sX9_putTale_69, sX9_putTale_72, sX9_putTale_73, sX9_putTale_76, sX9_putTale_79, sX9_putTale_82, sX9_putTale_85, sX9_putTale_86, sX9_putTale_89, sX9_putTale_92, sX9_putTale_93, sX9_putTale_96, sX9_putTale_99, sX9_putTale_100, sX9_putTale_103, sX9_putTale_104, sX9_putTale_107, sX9_putTale_110, sX9_putTale_111, sX9_putTale_114, sX9_putTale_115, sX9_putTale_118, sX9_putTale_121, sX9_putTale_122, sX9_putTale_125, sX9_putTale_126, sX9_putTale_127, sX9_putTale_130, sX9_putTale_131, sX9_putTale_133, sX9_putTale_136, sX9_putTale_139, sX9_putTale_142, sX9_putTale_143, sX9_putTale_146, sX9_putTale_149, sX9_putTale_152, sX9_putIdle_0, sX9_putIdle_1, sX9_putIdle_4, sX9_putIdle_6, sX9_putIdle_9, sX9_putIdle_10, sX9_putIdle_13, sX9_putIdle_14, sX9_putIdle_17, sX9_putIdle_20, sX9_putIdle_21, sX9_putIdle_24, sX9_putIdle_25, sX9_putIdle_28, sX9_putIdle_29, sX9_putIdle_32, sX9_putIdle_33, sX9_putIdle_36, sX9_putIdle_39, sX9_putIdle_40, sX9_putIdle_43, sX9_putIdle_44, sX9_putIdle_45, sX9_putIdle_48, sX9_putIdle_51, sX9_putIdle_52, sX9_putIdle_55, sX1_isIdle_0, sX1_isIdle_1, sX1_isIdle_4, sX1_isIdle_5, sX1_isIdle_8, sX1_isIdle_9, sX1_isIdle_12, sX1_isIdle_13, e_clrI, e_clrR, e_clrU, e_clrN, e_clrL, e_s0, e_s1, e_s2, e_s3, e_s4, e_z0, e_z1, e_f0, e_f1, e_tl, e_tn, e_q0, e_q1, e_zi, e_zj, true_and, and_true, ↓reduceIte, hKW_1, hKW_2, hKW_x, hKW_pu, hKW_xpf, hKW_xas, hKW_xasz, hKW_xasl, hKW_rc18, hKW_g18_0, hKW_g18_1, hKW_g18_2, hKW_g18_3, hKW_g18_4, hKW_g18_5, hKW_g18_6, hKW_u18_6, hKW_p18_6, hKW_g18_7, hKW_u18_7, hKW_p18_7, hKW_g18_8, hKW_u18_8, hKW_p18_8, hKW_g18_9, hKW_u18_9, hKW_p18_9, hKW_g18_10, hKW_u18_10, hKW_p18_10, hKW_g18_11, hKW_u18_11, hKW_p18_11, hKW_g18_12, hKW_u18_12, hKW_p18_12, hKW_g18_13, hKW_u18_13, hKW_p18_13, hKW_g18_14, hKW_u18_14, hKW_p18_14, hKW_g18_15, hKW_u18_15, hKW_p18_15, hKW_g18_16, hKW_u18_16, hKW_p18_16, hKW_n19, hKW_l19, hKW_v19, hKW_s19, hKW_n20, hKW_l20, hKW_v20, hKW_s20, hKW_n21, hKW_l21, hKW_v21, hKW_s21, hKW_n22, hKW_l22, hKW_v22, hKW_s22, hKS1_1, hKS1_2, hKS1_x, hKS1_pu, hKS1_xpf, hKS1_xas, hKS1_xasz, hKS1_xasl, hKS1_rc1, hKS1_g1_0, hKS1_g1_1, hKS1_g1_2, hKS1_g1_3, hKS1_g1_4, hKS1_g1_5, hKS1_g1_6, hKS1_u1_6, hKS1_p1_6, hKS1_g1_7, hKS1_u1_7, hKS1_p1_7, hKS1_rc2, hKS1_g2_0, hKS1_g2_1, hKS1_g2_2, hKS1_g2_3, hKS1_u2_3, hKS1_p2_3, hKS1_g2_4, hKS1_u2_4, hKS1_p2_4, hKS1_n3, hKS1_l3, hKS1_v3, hKS1_s3, hKS1_n4, hKS1_l4, hKS1_v4, hKS1_s4, hKS1_n5, hKS1_l5, hKS1_v5, hKS1_s5, hKS1_rc6, hKS1_g6_0, hKS1_g6_1, hKS1_g6_2, hKS1_u6_2, hKS1_p6_2, hKS1_g6_3, hKS1_u6_3, hKS1_p6_3, hKS1_g6_4, hKS1_u6_4, hKS1_p6_4, hKS1_g6_5, hKS1_u6_5, hKS1_p6_5, hKS1_g6_6, hKS1_u6_6, hKS1_p6_6, hKS1_g6_7, hKS1_u6_7, hKS1_p6_7, hKS1_g6_8, hKS1_u6_8, hKS1_p6_8, hKS1_n7, hKS1_l7, hKS1_v7, hKS1_s7, hKS1_n8, hKS1_l8, hKS1_v8, hKS1_s8, hKS1_rc9, hKS1_g9_0, hKS1_g9_1, hKS1_g9_2, hKS1_u9_2, hKS1_p9_2, hKS1_n10, hKS1_l10, hKS1_v10, hKS1_s10, hKS1_n11, hKS1_l11, hKS1_v11, hKS1_s11, hKS1_rc12, hKS1_g12_0, hKS1_g12_1, hKS1_u12_1, hKS1_p12_1, hKS1_n13, hKS1_l13, hKS1_v13, hKS1_s13, hKS1_rc14, hKS1_g14_0, hKS1_g14_1, hKS1_u14_1, hKS1_p14_1, hKS1_n15, hKS1_l15, hKS1_v15, hKS1_s15, hKS1_n16, hKS1_l16, hKS1_v16, hKS1_s16, hK0_1, hK0_2, hK0_x, hK0_pu, hK0_xpf, hK0_xas, hK0_xasz, hK0_xasl, hK0_rc0, hK0_g0_0, hK0_g0_1, hK0_g0_2, hK0_g0_3, hK0_g0_4, hK0_n17, hK0_l17, hK0_v17, hKT_1, hKT_2, hKT_x, hKT_pu, hKT_xpf, hKT_xas, hKT_xasz, hKT_xasl, hKT_rc23, hKT_g23_0, hKT_g23_1, hKT_g23_2, hKT_rc24, hKT_g24_0, hKT_u24_0, hKT_p24_0, hKT_g24_1, hKT_u24_1, hKT_p24_1, hKT_g24_2, hKT_u24_2, hKT_p24_2, hKT_g24_3, hKT_u24_3, hKT_p24_3, hKT_g24_4, hKT_u24_4, hKT_p24_4, Nat.reduceLeDiff, Nat.reduceEqDiff, false_and, and_false, or_self, not_false_eq_true, hle, if_false, h6, heq, if_true, show (65 : Int32) = fch 0 from rfl, hch, true_and, c_number]
        try simp +decide only [if_true, if_false]
        rw [c_putSentence (t := wTx D pl A S i) (k := 0) hs ha ea hb eb (by rw [vi]; exact lwd_W hwi) (by rw [vo]; exact lwd_0) (by rw [vj]; exact lwd_W hwj) hi0 (by omega) (by omega)]
        simp only [sX9_putTale_0, sX9_putTale_1, sX9_putTale_4, sX9_putTale_5, sX9_putTale_8, sX9_putTale_9, sX9_putTale_12, sX9_putTale_15, sX9_putTale_17, sX9_putTale_18, sX9_putTale_22, sX9_putTale_24, sX9_putTale_27, sX9_putTale_28, sX9_putTale_31, sX9_putTale_34, sX9_putTale_36, sX9_putTale_38, sX9_putTale_41, sX9_putTale_42, sX9_putTale_43, sX9_putTale_44, sX9_putTale_48, sX9_putTale_51, sX9_putTale_52, sX9_putTale_55, sX9_putTale_56, sX9_putTale_58, sX9_putTale_61, sX9_putTale_64, sX9_putTale_65, sX9_putTale_68, sX9_putTale_69, sX9_putTale_72, sX9_putTale_73, sX9_putTale_76, sX9_putTale_79, sX9_putTale_82, sX9_putTale_85, sX9_putTale_86, sX9_putTale_89, sX9_putTale_92, sX9_putTale_93, sX9_putTale_96, sX9_putTale_99, sX9_putTale_100, sX9_putTale_103, sX9_putTale_104, sX9_putTale_107, sX9_putTale_110, sX9_putTale_111, sX9_putTale_114, sX9_putTale_115, sX9_putTale_118, sX9_putTale_121, sX9_putTale_122, sX9_putTale_125, sX9_putTale_126, sX9_putTale_127, sX9_putTale_130, sX9_putTale_131, sX9_putTale_133, sX9_putTale_136, sX9_putTale_139, sX9_putTale_142, sX9_putTale_143, sX9_putTale_146, sX9_putTale_149, sX9_putTale_152, sX9_putIdle_0, sX9_putIdle_1, sX9_putIdle_4, sX9_putIdle_6, sX9_putIdle_9, sX9_putIdle_10, sX9_putIdle_13, sX9_putIdle_14, sX9_putIdle_17, sX9_putIdle_20, sX9_putIdle_21, sX9_putIdle_24, sX9_putIdle_25, sX9_putIdle_28, sX9_putIdle_29, sX9_putIdle_32, sX9_putIdle_33, sX9_putIdle_36, sX9_putIdle_39, sX9_putIdle_40, sX9_putIdle_43, sX9_putIdle_44, sX9_putIdle_45, sX9_putIdle_48, sX9_putIdle_51, sX9_putIdle_52, sX9_putIdle_55, e_clrI, e_clrR, e_clrU, e_clrN, e_clrL, e_s0, e_s1, e_s2, e_s3, e_s4, e_z0, e_z1, e_f0, e_f1, e_tl, e_tn, e_q0, e_q1, e_zi, e_zj, true_and, and_true, ↓reduceIte, vi, vo, vj, hAe]
        exact hgo _ _ _ _ _
      · have hip2 : ¬ nI i = plc := fun q => hip ((nI_eq (by omega) (by omega)).mp (q.trans hplc))
        have hgo := hstep (wTx D pl A S i) t0 t1 t2 t3 t4 (by omega) (by rw [wTx_s, if_neg (fun q => hip q.2)])
        simp only [sX9_putTale_0, sX9_putTale_1, sX9_putTale_4, sX9_putTale_5, sX9_putTale_8, sX9_putTale_9, sX9_putTale_12, sX9_putTale_15, sX9_putTale_17, sX9_putTale_18, sX9_putTale_22, sX9_putTale_24, sX9_putTale_27, sX9_putTale_28, sX9_putTale_31, sX9_putTale_34, sX9_putTale_36, sX9_putTale_38, sX9_putTale_41, sX9_putTale_42, sX9_putTale_43, sX9_putTale_44, sX9_putTale_48, sX9_putTale_51, sX9_putTale_52, sX9_putTale_55, sX9_putTale_56, sX9_putTale_58, sX9_putTale_61, sX9_putTale_64, sX9_putTale_65, sX9_putTale_68, sX9_putTale_69, sX9_putTale_72, sX9_putTale_73, sX9_putTale_76, sX9_putTale_79, sX9_putTale_82, sX9_putTale_85, sX9_putTale_86, sX9_putTale_89, sX9_putTale_92, sX9_putTale_93, sX9_putTale_96, sX9_putTale_99, sX9_putTale_100, sX9_putTale_103, sX9_putTale_104, sX9_putTale_107, sX9_putTale_110, sX9_putTale_111, sX9_putTale_114, sX9_putTale_115, sX9_putTale_118, sX9_putTale_121, sX9_putTale_122, sX9_putTale_125, sX9_putTale_126, sX9_putTale_127, sX9_putTale_130, sX9_putTale_131, sX9_putTale_133, sX9_putTale_136, sX9_putTale_139, sX9_putTale_142, sX9_putTale_143, sX9_putTale_146, sX9_putTale_149, sX9_putTale_152, sX1_isIdle_0, sX1_isIdle_1, sX1_isIdle_4, sX1_isIdle_5, sX1_isIdle_8, sX1_isIdle_9, sX1_isIdle_12, sX1_isIdle_13, e_clrI, e_clrR, e_clrU, e_clrN, e_clrL, e_s0, e_s1, e_s2, e_s3, e_s4, e_z0, e_z1, e_f0, e_f1, e_tl, e_tn, e_q0, e_q1, e_zi, e_zj, true_and, and_true, ↓reduceIte, hKW_1, hKW_2, hKW_x, hKW_pu, hKW_xpf, hKW_xas, hKW_xasz, hKW_xasl, hKW_rc18, hKW_g18_0, hKW_g18_1, hKW_g18_2, hKW_g18_3, hKW_g18_4, hKW_g18_5, hKW_g18_6, hKW_u18_6, hKW_p18_6, hKW_g18_7, hKW_u18_7, hKW_p18_7, hKW_g18_8, hKW_u18_8, hKW_p18_8, hKW_g18_9, hKW_u18_9, hKW_p18_9, hKW_g18_10, hKW_u18_10, hKW_p18_10, hKW_g18_11, hKW_u18_11, hKW_p18_11, hKW_g18_12, hKW_u18_12, hKW_p18_12, hKW_g18_13, hKW_u18_13, hKW_p18_13, hKW_g18_14, hKW_u18_14, hKW_p18_14, hKW_g18_15, hKW_u18_15, hKW_p18_15, hKW_g18_16, hKW_u18_16, hKW_p18_16, hKW_n19, hKW_l19, hKW_v19, hKW_s19, hKW_n20, hKW_l20, hKW_v20, hKW_s20, hKW_n21, hKW_l21, hKW_v21, hKW_s21, hKW_n22, hKW_l22, hKW_v22, hKW_s22, hKS1_1, hKS1_2, hKS1_x, hKS1_pu, hKS1_xpf, hKS1_xas, hKS1_xasz, hKS1_xasl, hKS1_rc1, hKS1_g1_0, hKS1_g1_1, hKS1_g1_2, hKS1_g1_3, hKS1_g1_4, hKS1_g1_5, hKS1_g1_6, hKS1_u1_6, hKS1_p1_6, hKS1_g1_7, hKS1_u1_7, hKS1_p1_7, hKS1_rc2, hKS1_g2_0, hKS1_g2_1, hKS1_g2_2, hKS1_g2_3, hKS1_u2_3, hKS1_p2_3, hKS1_g2_4, hKS1_u2_4, hKS1_p2_4, hKS1_n3, hKS1_l3, hKS1_v3, hKS1_s3, hKS1_n4, hKS1_l4, hKS1_v4, hKS1_s4, hKS1_n5, hKS1_l5, hKS1_v5, hKS1_s5, hKS1_rc6, hKS1_g6_0, hKS1_g6_1, hKS1_g6_2, hKS1_u6_2, hKS1_p6_2, hKS1_g6_3, hKS1_u6_3, hKS1_p6_3, hKS1_g6_4, hKS1_u6_4, hKS1_p6_4, hKS1_g6_5, hKS1_u6_5, hKS1_p6_5, hKS1_g6_6, hKS1_u6_6, hKS1_p6_6, hKS1_g6_7, hKS1_u6_7, hKS1_p6_7, hKS1_g6_8, hKS1_u6_8, hKS1_p6_8, hKS1_n7, hKS1_l7, hKS1_v7, hKS1_s7, hKS1_n8, hKS1_l8, hKS1_v8, hKS1_s8, hKS1_rc9, hKS1_g9_0, hKS1_g9_1, hKS1_g9_2, hKS1_u9_2, hKS1_p9_2, hKS1_n10, hKS1_l10, hKS1_v10, hKS1_s10, hKS1_n11, hKS1_l11, hKS1_v11, hKS1_s11, hKS1_rc12, hKS1_g12_0, hKS1_g12_1, hKS1_u12_1, hKS1_p12_1, hKS1_n13, hKS1_l13, hKS1_v13, hKS1_s13, hKS1_rc14, hKS1_g14_0, hKS1_g14_1, hKS1_u14_1, hKS1_p14_1, hKS1_n15, hKS1_l15, hKS1_v15, hKS1_s15, hKS1_n16, hKS1_l16, hKS1_v16, hKS1_s16, hK0_1, hK0_2, hK0_x, hK0_pu, hK0_xpf, hK0_xas, hK0_xasz, hK0_xasl, hK0_rc0, hK0_g0_0, hK0_g0_1, hK0_g0_2, hK0_g0_3, hK0_g0_4, hK0_n17, hK0_l17, hK0_v17, hKT_1, hKT_2, hKT_x, hKT_pu, hKT_xpf, hKT_xas, hKT_xasz, hKT_xasl, hKT_rc23, hKT_g23_0, hKT_g23_1, hKT_g23_2, hKT_rc24, hKT_g24_0, hKT_u24_0, hKT_p24_0, hKT_g24_1, hKT_u24_1, hKT_p24_1, hKT_g24_2, hKT_u24_2, hKT_p24_2, hKT_g24_3, hKT_u24_3, hKT_p24_3, hKT_g24_4, hKT_u24_4, hKT_p24_4, Nat.reduceLeDiff, Nat.reduceEqDiff, false_and, and_false, or_self, not_false_eq_true, hle, if_false, h6, hip2]
        try simp +decide only [if_true, if_false]
        exact hgo
