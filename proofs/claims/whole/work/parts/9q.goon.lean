/-! ===== goOn's loop over the forms ===== -/
def enc (r : Nat) : Int32 := if r = 99 then -1 else nI r
def pF (j r : Nat) : Option (Nat × Nat × Nat) := if r = 99 then none else (prt j).find? (fun e => e.1 == r)
/-- which form is closed; the places reached; the parts tried -/
def vgo (c : Nat) : Nat → List Nat → Option Nat × List Nat × List Nat
  | _, [] => (none, [], [])
  | j, r :: rs => match pF j r with
    | none => ((vgo c (j + 1) rs).1, 99 :: (vgo c (j + 1) rs).2.1, (vgo c (j + 1) rs).2.2)
    | some e => if pmt e.2.1 c then (if e.2.2 = i_bl (j + 2) then (some j, [e.2.2], [e.2.1]) else ((vgo c (j + 1) rs).1, e.2.2 :: (vgo c (j + 1) rs).2.1, e.2.1 :: (vgo c (j + 1) rs).2.2)) else ((vgo c (j + 1) rs).1, 99 :: (vgo c (j + 1) rs).2.1, e.2.1 :: (vgo c (j + 1) rs).2.2)
/-- the places are places of parts -/
def vok : Nat → List Nat → Bool
  | _, [] => true
  | j, r :: rs => (decide (r = 99) || (pF j r).isSome) && vok (j + 1) rs
def qws (j : Nat) (r1 r2 r3 : Int32) (ps : List Nat) (qs : Nat → Int32) : Nat → Int32 := ps.foldl (fun q pc => qw j r1 r2 r3 pc q) qs
theorem fch_0 : ∀ j, j < 12 → sBy 0 j = fch j := by decide +kernel
theorem bl_0 : i_bl 0 = 12 := by decide +kernel
theorem pF_m {j r : Nat} {e : Nat × Nat × Nat} (h : pF j r = some e) : e ∈ prt j ∧ e.1 = r ∧ r ≠ 99 := by
  unfold pF at h
  by_cases hr : r = 99
  · rw [if_pos hr] at h; cases h
  · rw [if_neg hr] at h
    have h1 := List.mem_of_find?_eq_some h
    have h2 := List.find?_some h
    exact ⟨h1, by simpa using h2, hr⟩
theorem c_goL {d : Nat} {g : aH} (hsS : hS g) (hfd : fdR g) {na : Int32} {th : Int32} {nw : Nat → Int64} {tw : Nat → Int64} {mo : Nat → Int32} {le : Nat → Int32} {gr : Nat → Int32} {to : Int32} {sh : Int32} {pn : Int32} {pm : Int32} {pt : Int32} {pi : Int32} {pj : Int32} {nu : Nat → Int32} {sa : Nat → Int32} {ss : Int32} {tx : Nat → Int32} {tl : Int32} {tq : Nat → Int32} {ql : Int32} {fa : Nat → Int32} {fu : Int32} {fp : Int32} {wn : Nat → Int32} {te : Nat → Int32} {lo : Nat → Int32} {hi : Nat → Int32} {mt : Int32} {me : Int32} {tt : Int32} {ix : Int32} {ov : Int32} {su : Int32} {wx : Int32} {wy : Int32} {wz : Int32} {wi : Int32} {wa : Int32} {rp : Int32} {ro : Int32} {ra : Int32} {r1 : Int32} {r2 : Int32} {r3 : Int32}  {L s sn c : Nat} {B : Nat → Nat} {wd : Nat → Int64} {a b : Nat} (hw : wdR wd a b) (ht : tpK tq L B) (eql : ql = nI L) (hs : s ≤ L) (hsn : sn < 1000) (hc : c < 61) (hcod : cod L B wd a b s = nI c) (h1 : r1 = -1 ↔ ¬ (40 ≤ c ∧ c ≤ 45)) (h2 : r2 = -1 ↔ ¬ (50 ≤ c ∧ c ≤ 55)) (h3 : r3 = -1 ↔ ¬ c = 1) {Q : Option Value → aH → Prop} :
    ∀ (R : List Nat) (j : Nat) (gs : Bool) (l3 : Option Value) (qs rc : Nat → Int32), j + R.length = 12 → vok j R = true → (∀ i r, R[i]? = some r → rc (j + i) = enc r) →
      ((vgo c j R).1 = none → ∀ rc' : Nat → Int32, (∀ i, i < j → rc' i = rc i) → (∀ i r, (vgo c j R).2.1[i]? = some r → rc' (j + i) = enc r) → Q (some (.int (if (gs || (vgo c j R).2.1.any (fun r => decide (r ≠ 99))) then 1 else 0))) (KW (KS1 (KR (KQ g (qws (slt sn) r1 r2 r3 (vgo c j R).2.2 qs)) (nI sn) rp ro ra (nI s) (nI (nxt L B s)) (kkd L B s) r1 r2 r3 rc') na th nw tw mo le gr to sh pn pm pt pi pj nu sa ss tx tl tq ql fa fu fp) wn te lo hi mt me tt ix ov su wx wy wz wi wa)) →
      (∀ k, (vgo c j R).1 = some k → ∀ rc' : Nat → Int32, wp (d + 6) mX2_goOn 106 [some (.ref 25), some (.int 1), some (.int (nI k)), some (.int (fch k))] [] (KW (KS1 (KR (KQ g (qws (slt sn) r1 r2 r3 (vgo c j R).2.2 qs)) (nI sn) rp ro ra (nI s) (nI (nxt L B s)) (kkd L B s) r1 r2 r3 rc') na th nw tw mo le gr to sh pn pm pt pi pj nu sa ss tx tl tq ql fa fu fp) wn te lo hi mt me tt ix ov su wx wy wz wi wa) Q) →
      wp (d + 6) mX2_goOn 33 [some (.ref 25), some (.int (if gs then 1 else 0)), some (.int (nI j)), l3] [] (KW (KS1 (KR (KQ g qs) (nI sn) rp ro ra (nI s) (nI (nxt L B s)) (kkd L B s) r1 r2 r3 rc) na th nw tw mo le gr to sh pn pm pt pi pj nu sa ss tx tl tq ql fa fu fp) wn te lo hi mt me tt ix ov su wx wy wz wi wa) Q := by
  intro R
  induction R with
  | nil =>
    intro j gs l3 qs rc hj hv hrc hn hcl
    have : j = 12 := by simpa using hj
    subst this
    have hq := hn rfl rc (fun _ _ => rfl) (fun i r h => by simp [vgo] at h)
    rw [sX2_goOn_33]
    have hle : (12 : Int32) ≤ nI 12 := by decide
    simp only [sX2_goOn_0, sX2_goOn_1, sX2_goOn_4, sX2_goOn_7, sX2_goOn_8, sX2_goOn_9, sX2_goOn_10, sX2_goOn_13, sX2_goOn_16, sX2_goOn_17, sX2_goOn_18, sX2_goOn_21, sX2_goOn_24, sX2_goOn_25, sX2_goOn_26, sX2_goOn_29, sX2_goOn_30, sX2_goOn_31, sX2_goOn_32, sX2_goOn_34, sX2_goOn_35, sX2_goOn_38, sX2_goOn_39, sX2_goOn_42, sX2_goOn_43, sX2_goOn_45, sX2_goOn_48, sX2_goOn_51, sX2_goOn_53, sX2_goOn_54, sX2_goOn_57, sX2_goOn_58, sX2_goOn_59, sX2_goOn_62, sX2_goOn_63, sX2_goOn_64, sX2_goOn_65, sX2_goOn_68, sX2_goOn_69, sX2_goOn_72, sX2_goOn_73, sX2_goOn_74, sX2_goOn_77, sX2_goOn_78, sX2_goOn_79, sX2_goOn_82, sX2_goOn_83, sX2_goOn_84, sX2_goOn_85, sX2_goOn_88, sX2_goOn_89, sX2_goOn_90, sX2_goOn_91, sX2_goOn_94, sX2_goOn_95, sX2_goOn_96, sX2_goOn_97, sX2_goOn_100, sX2_goOn_103, sX2_goOn_106, sX2_goOn_107, sX2_goOn_108, sX2_goOn_111, sX2_goOn_112, sX2_goOn_113, sX2_goOn_116, sX2_goOn_119, sX2_goOn_120, e_clrI, e_clrR, e_clrU, e_clrN, e_clrL, e_s0, e_s1, e_s2, e_s3, e_s4, e_z0, e_z1, e_f0, e_f1, e_tl, e_tn, e_q0, e_q1, e_zi, e_zj, true_and, and_true, ↓reduceIte, hKW_1, hKW_2, hKW_x, hKW_pu, hKW_xpf, hKW_xas, hKW_xasz, hKW_xasl, hKW_rc18, hKW_g18_0, hKW_g18_1, hKW_g18_2, hKW_g18_3, hKW_g18_4, hKW_g18_5, hKW_g18_6, hKW_u18_6, hKW_p18_6, hKW_g18_7, hKW_u18_7, hKW_p18_7, hKW_g18_8, hKW_u18_8, hKW_p18_8, hKW_g18_9, hKW_u18_9, hKW_p18_9, hKW_g18_10, hKW_u18_10, hKW_p18_10, hKW_g18_11, hKW_u18_11, hKW_p18_11, hKW_g18_12, hKW_u18_12, hKW_p18_12, hKW_g18_13, hKW_u18_13, hKW_p18_13, hKW_g18_14, hKW_u18_14, hKW_p18_14, hKW_g18_15, hKW_u18_15, hKW_p18_15, hKW_g18_16, hKW_u18_16, hKW_p18_16, hKW_n19, hKW_l19, hKW_v19, hKW_s19, hKW_n20, hKW_l20, hKW_v20, hKW_s20, hKW_n21, hKW_l21, hKW_v21, hKW_s21, hKW_n22, hKW_l22, hKW_v22, hKW_s22, hKS1_1, hKS1_2, hKS1_x, hKS1_pu, hKS1_xpf, hKS1_xas, hKS1_xasz, hKS1_xasl, hKS1_rc1, hKS1_g1_0, hKS1_g1_1, hKS1_g1_2, hKS1_g1_3, hKS1_g1_4, hKS1_g1_5, hKS1_g1_6, hKS1_u1_6, hKS1_p1_6, hKS1_g1_7, hKS1_u1_7, hKS1_p1_7, hKS1_rc2, hKS1_g2_0, hKS1_g2_1, hKS1_g2_2, hKS1_g2_3, hKS1_u2_3, hKS1_p2_3, hKS1_g2_4, hKS1_u2_4, hKS1_p2_4, hKS1_n3, hKS1_l3, hKS1_v3, hKS1_s3, hKS1_n4, hKS1_l4, hKS1_v4, hKS1_s4, hKS1_n5, hKS1_l5, hKS1_v5, hKS1_s5, hKS1_rc6, hKS1_g6_0, hKS1_g6_1, hKS1_g6_2, hKS1_u6_2, hKS1_p6_2, hKS1_g6_3, hKS1_u6_3, hKS1_p6_3, hKS1_g6_4, hKS1_u6_4, hKS1_p6_4, hKS1_g6_5, hKS1_u6_5, hKS1_p6_5, hKS1_g6_6, hKS1_u6_6, hKS1_p6_6, hKS1_g6_7, hKS1_u6_7, hKS1_p6_7, hKS1_g6_8, hKS1_u6_8, hKS1_p6_8, hKS1_n7, hKS1_l7, hKS1_v7, hKS1_s7, hKS1_n8, hKS1_l8, hKS1_v8, hKS1_s8, hKS1_rc9, hKS1_g9_0, hKS1_g9_1, hKS1_g9_2, hKS1_u9_2, hKS1_p9_2, hKS1_n10, hKS1_l10, hKS1_v10, hKS1_s10, hKS1_n11, hKS1_l11, hKS1_v11, hKS1_s11, hKS1_rc12, hKS1_g12_0, hKS1_g12_1, hKS1_u12_1, hKS1_p12_1, hKS1_n13, hKS1_l13, hKS1_v13, hKS1_s13, hKS1_rc14, hKS1_g14_0, hKS1_g14_1, hKS1_u14_1, hKS1_p14_1, hKS1_n15, hKS1_l15, hKS1_v15, hKS1_s15, hKS1_n16, hKS1_l16, hKS1_v16, hKS1_s16, hKR_1, hKR_2, hKR_x, hKR_pu, hKR_xpf, hKR_xas, hKR_xasz, hKR_xasl, hKR_rc25, hKR_g25_0, hKR_g25_1, hKR_g25_2, hKR_g25_3, hKR_g25_4, hKR_u25_4, hKR_p25_4, hKR_g25_5, hKR_u25_5, hKR_p25_5, hKR_g25_6, hKR_u25_6, hKR_p25_6, hKR_g25_7, hKR_u25_7, hKR_p25_7, hKR_g25_8, hKR_u25_8, hKR_p25_8, hKR_g25_9, hKR_u25_9, hKR_p25_9, hKR_g25_10, hKR_u25_10, hKR_p25_10, hKR_g25_11, hKR_u25_11, hKR_p25_11, hKR_g25_12, hKR_u25_12, hKR_p25_12, hKR_g25_13, hKR_u25_13, hKR_p25_13, hKR_n27, hKR_l27, hKR_n34, hKR_l34, hKR_v34, hKR_s34, Nat.reduceLeDiff, Nat.reduceEqDiff, false_and, and_false, or_self, not_false_eq_true, hle, if_true]
    simp only [vgo, List.any_nil, Bool.or_false, qws, List.foldl_nil] at hq
    cases gs <;> exact hq
  | cons r R ih =>
    intro j gs l3 qs rc hj hv hrc hn hcl
    have hj12 : j < 12 := by simp at hj; omega
    have hj1 : j + 1 + R.length = 12 := by simp at hj; omega
    have hle : ¬ (12 : Int32) ≤ nI j := nI_ge (b := 12) (by omega) (by omega)
    have hle2 : ¬ nI (i_bl 0) ≤ nI j := by rw [bl_0]; exact hle
    have hS0 : ∀ qs rc : Nat → Int32, hS (KW (KS1 (KR (KQ g qs) (nI sn) rp ro ra (nI s) (nI (nxt L B s)) (kkd L B s) r1 r2 r3 rc) na th nw tw mo le gr to sh pn pm pt pi pj nu sa ss tx tl tq ql fa fu fp) wn te lo hi mt me tt ix ov su wx wy wz wi wa) := fun qs rc => hS_W (hS_S1 (hS_R (hS_Q hsS)))
    have hb0 : j < i_bl 0 := by rw [bl_0]; exact hj12
    obtain ⟨f1, f2, f3, f4⟩ := fch_7 j hj12
    have hnar : narrow .char (.int (fch j)) = .int (fch j) := by rw [f3]; exact (pk_charN (by omega)).1
    have hrj : rc j = enc r := by have := hrc 0 r rfl; simpa using this
    have hrR : ∀ (x : Int32) i r', R[i]? = some r' → upd rc j x (j + 1 + i) = enc r' := by
      intro x i r' h
      rw [pk_un (by omega), show j + 1 + i = j + (i + 1) by omega]
      exact hrc (i + 1) r' (by simpa using h)
    have hvR : vok (j + 1) R = true := by
      unfold vok at hv
      rw [Bool.and_eq_true] at hv
      exact hv.2
    rw [sX2_goOn_33]
    simp only [sX2_goOn_0, sX2_goOn_1, sX2_goOn_4, sX2_goOn_7, sX2_goOn_8, sX2_goOn_9, sX2_goOn_10, sX2_goOn_13, sX2_goOn_16, sX2_goOn_17, sX2_goOn_18, sX2_goOn_21, sX2_goOn_24, sX2_goOn_25, sX2_goOn_26, sX2_goOn_29, sX2_goOn_30, sX2_goOn_31, sX2_goOn_32, sX2_goOn_34, sX2_goOn_35, sX2_goOn_38, sX2_goOn_39, sX2_goOn_42, sX2_goOn_43, sX2_goOn_45, sX2_goOn_48, sX2_goOn_51, sX2_goOn_53, sX2_goOn_54, sX2_goOn_57, sX2_goOn_58, sX2_goOn_59, sX2_goOn_62, sX2_goOn_63, sX2_goOn_64, sX2_goOn_65, sX2_goOn_68, sX2_goOn_69, sX2_goOn_72, sX2_goOn_73, sX2_goOn_74, sX2_goOn_77, sX2_goOn_78, sX2_goOn_79, sX2_goOn_82, sX2_goOn_83, sX2_goOn_84, sX2_goOn_85, sX2_goOn_88, sX2_goOn_89, sX2_goOn_90, sX2_goOn_91, sX2_goOn_94, sX2_goOn_95, sX2_goOn_96, sX2_goOn_97, sX2_goOn_100, sX2_goOn_103, sX2_goOn_107, sX2_goOn_108, sX2_goOn_111, sX2_goOn_112, sX2_goOn_113, sX2_goOn_116, sX2_goOn_119, sX2_goOn_120, e_clrI, e_clrR, e_clrU, e_clrN, e_clrL, e_s0, e_s1, e_s2, e_s3, e_s4, e_z0, e_z1, e_f0, e_f1, e_tl, e_tn, e_q0, e_q1, e_zi, e_zj, true_and, and_true, ↓reduceIte, hKW_1, hKW_2, hKW_x, hKW_pu, hKW_xpf, hKW_xas, hKW_xasz, hKW_xasl, hKW_rc18, hKW_g18_0, hKW_g18_1, hKW_g18_2, hKW_g18_3, hKW_g18_4, hKW_g18_5, hKW_g18_6, hKW_u18_6, hKW_p18_6, hKW_g18_7, hKW_u18_7, hKW_p18_7, hKW_g18_8, hKW_u18_8, hKW_p18_8, hKW_g18_9, hKW_u18_9, hKW_p18_9, hKW_g18_10, hKW_u18_10, hKW_p18_10, hKW_g18_11, hKW_u18_11, hKW_p18_11, hKW_g18_12, hKW_u18_12, hKW_p18_12, hKW_g18_13, hKW_u18_13, hKW_p18_13, hKW_g18_14, hKW_u18_14, hKW_p18_14, hKW_g18_15, hKW_u18_15, hKW_p18_15, hKW_g18_16, hKW_u18_16, hKW_p18_16, hKW_n19, hKW_l19, hKW_v19, hKW_s19, hKW_n20, hKW_l20, hKW_v20, hKW_s20, hKW_n21, hKW_l21, hKW_v21, hKW_s21, hKW_n22, hKW_l22, hKW_v22, hKW_s22, hKS1_1, hKS1_2, hKS1_x, hKS1_pu, hKS1_xpf, hKS1_xas, hKS1_xasz, hKS1_xasl, hKS1_rc1, hKS1_g1_0, hKS1_g1_1, hKS1_g1_2, hKS1_g1_3, hKS1_g1_4, hKS1_g1_5, hKS1_g1_6, hKS1_u1_6, hKS1_p1_6, hKS1_g1_7, hKS1_u1_7, hKS1_p1_7, hKS1_rc2, hKS1_g2_0, hKS1_g2_1, hKS1_g2_2, hKS1_g2_3, hKS1_u2_3, hKS1_p2_3, hKS1_g2_4, hKS1_u2_4, hKS1_p2_4, hKS1_n3, hKS1_l3, hKS1_v3, hKS1_s3, hKS1_n4, hKS1_l4, hKS1_v4, hKS1_s4, hKS1_n5, hKS1_l5, hKS1_v5, hKS1_s5, hKS1_rc6, hKS1_g6_0, hKS1_g6_1, hKS1_g6_2, hKS1_u6_2, hKS1_p6_2, hKS1_g6_3, hKS1_u6_3, hKS1_p6_3, hKS1_g6_4, hKS1_u6_4, hKS1_p6_4, hKS1_g6_5, hKS1_u6_5, hKS1_p6_5, hKS1_g6_6, hKS1_u6_6, hKS1_p6_6, hKS1_g6_7, hKS1_u6_7, hKS1_p6_7, hKS1_g6_8, hKS1_u6_8, hKS1_p6_8, hKS1_n7, hKS1_l7, hKS1_v7, hKS1_s7, hKS1_n8, hKS1_l8, hKS1_v8, hKS1_s8, hKS1_rc9, hKS1_g9_0, hKS1_g9_1, hKS1_g9_2, hKS1_u9_2, hKS1_p9_2, hKS1_n10, hKS1_l10, hKS1_v10, hKS1_s10, hKS1_n11, hKS1_l11, hKS1_v11, hKS1_s11, hKS1_rc12, hKS1_g12_0, hKS1_g12_1, hKS1_u12_1, hKS1_p12_1, hKS1_n13, hKS1_l13, hKS1_v13, hKS1_s13, hKS1_rc14, hKS1_g14_0, hKS1_g14_1, hKS1_u14_1, hKS1_p14_1, hKS1_n15, hKS1_l15, hKS1_v15, hKS1_s15, hKS1_n16, hKS1_l16, hKS1_v16, hKS1_s16, hKR_1, hKR_2, hKR_x, hKR_pu, hKR_xpf, hKR_xas, hKR_xasz, hKR_xasl, hKR_rc25, hKR_g25_0, hKR_g25_1, hKR_g25_2, hKR_g25_3, hKR_g25_4, hKR_u25_4, hKR_p25_4, hKR_g25_5, hKR_u25_5, hKR_p25_5, hKR_g25_6, hKR_u25_6, hKR_p25_6, hKR_g25_7, hKR_u25_7, hKR_p25_7, hKR_g25_8, hKR_u25_8, hKR_p25_8, hKR_g25_9, hKR_u25_9, hKR_p25_9, hKR_g25_10, hKR_u25_10, hKR_p25_10, hKR_g25_11, hKR_u25_11, hKR_p25_11, hKR_g25_12, hKR_u25_12, hKR_p25_12, hKR_g25_13, hKR_u25_13, hKR_p25_13, hKR_n27, hKR_l27, hKR_n34, hKR_l34, hKR_v34, hKR_s34, Nat.reduceLeDiff, Nat.reduceEqDiff, false_and, and_false, or_self, not_false_eq_true, hle, if_false, c_len (hS0 qs rc) (show 0 < 16 by omega), hS_rc (hS0 qs rc) (show 0 < 16 by omega), hle2, c_charAt (hS0 qs rc) (show 0 < 16 by omega) hb0, fch_0 j hj12, hnar, true_and, c_textOf hj12, vp_in_nI (show j < 12 by omega) (by omega), nI_clamp (show j < 2 ^ 31 by omega), hrj]
    have hS1 : ∀ qs rc : Nat → Int32, hS (KW (KS1 (KR (KQ g qs) (nI sn) rp ro ra (nI s) (nI (nxt L B s)) (kkd L B s) r1 r2 r3 rc) na th nw tw mo le gr to sh pn pm pt pi pj nu sa ss tx tl tq ql fa fu fp) wn te lo hi mt me tt ix ov su wx wy wz wi wa) := fun qs rc => hS_W (hS_S1 (hS_R (hS_Q hsS)))
    -- a form that is no more
    have hdead : ∀ (qs' : Nat → Int32) (W : List Nat), (vgo c j (r :: R)) = ((vgo c (j + 1) R).1, 99 :: (vgo c (j + 1) R).2.1, W ++ (vgo c (j + 1) R).2.2) → qs' = qws (slt sn) r1 r2 r3 W qs → wp (d + 6) mX2_goOn 77 [some (.ref 25), some (.int (if gs then 1 else 0)), some (.int (nI j)), some (.int (fch j))] [.int (-1), .int (nI j), .ref 34] (KW (KS1 (KR (KQ g qs') (nI sn) rp ro ra (nI s) (nI (nxt L B s)) (kkd L B s) r1 r2 r3 rc) na th nw tw mo le gr to sh pn pm pt pi pj nu sa ss tx tl tq ql fa fu fp) wn te lo hi mt me tt ix ov su wx wy wz wi wa) Q := by
      intro qs' W hvg hq'
      simp only [sX2_goOn_0, sX2_goOn_1, sX2_goOn_4, sX2_goOn_7, sX2_goOn_8, sX2_goOn_9, sX2_goOn_10, sX2_goOn_13, sX2_goOn_16, sX2_goOn_17, sX2_goOn_18, sX2_goOn_21, sX2_goOn_24, sX2_goOn_25, sX2_goOn_26, sX2_goOn_29, sX2_goOn_30, sX2_goOn_31, sX2_goOn_32, sX2_goOn_34, sX2_goOn_35, sX2_goOn_38, sX2_goOn_39, sX2_goOn_42, sX2_goOn_43, sX2_goOn_45, sX2_goOn_48, sX2_goOn_51, sX2_goOn_53, sX2_goOn_54, sX2_goOn_57, sX2_goOn_58, sX2_goOn_59, sX2_goOn_62, sX2_goOn_63, sX2_goOn_64, sX2_goOn_65, sX2_goOn_68, sX2_goOn_69, sX2_goOn_72, sX2_goOn_73, sX2_goOn_74, sX2_goOn_77, sX2_goOn_78, sX2_goOn_79, sX2_goOn_82, sX2_goOn_83, sX2_goOn_84, sX2_goOn_85, sX2_goOn_88, sX2_goOn_89, sX2_goOn_90, sX2_goOn_91, sX2_goOn_94, sX2_goOn_95, sX2_goOn_96, sX2_goOn_97, sX2_goOn_100, sX2_goOn_103, sX2_goOn_107, sX2_goOn_108, sX2_goOn_111, sX2_goOn_112, sX2_goOn_113, sX2_goOn_116, sX2_goOn_119, sX2_goOn_120, e_clrI, e_clrR, e_clrU, e_clrN, e_clrL, e_s0, e_s1, e_s2, e_s3, e_s4, e_z0, e_z1, e_f0, e_f1, e_tl, e_tn, e_q0, e_q1, e_zi, e_zj, true_and, and_true, ↓reduceIte, hKW_1, hKW_2, hKW_x, hKW_pu, hKW_xpf, hKW_xas, hKW_xasz, hKW_xasl, hKW_rc18, hKW_g18_0, hKW_g18_1, hKW_g18_2, hKW_g18_3, hKW_g18_4, hKW_g18_5, hKW_g18_6, hKW_u18_6, hKW_p18_6, hKW_g18_7, hKW_u18_7, hKW_p18_7, hKW_g18_8, hKW_u18_8, hKW_p18_8, hKW_g18_9, hKW_u18_9, hKW_p18_9, hKW_g18_10, hKW_u18_10, hKW_p18_10, hKW_g18_11, hKW_u18_11, hKW_p18_11, hKW_g18_12, hKW_u18_12, hKW_p18_12, hKW_g18_13, hKW_u18_13, hKW_p18_13, hKW_g18_14, hKW_u18_14, hKW_p18_14, hKW_g18_15, hKW_u18_15, hKW_p18_15, hKW_g18_16, hKW_u18_16, hKW_p18_16, hKW_n19, hKW_l19, hKW_v19, hKW_s19, hKW_n20, hKW_l20, hKW_v20, hKW_s20, hKW_n21, hKW_l21, hKW_v21, hKW_s21, hKW_n22, hKW_l22, hKW_v22, hKW_s22, hKS1_1, hKS1_2, hKS1_x, hKS1_pu, hKS1_xpf, hKS1_xas, hKS1_xasz, hKS1_xasl, hKS1_rc1, hKS1_g1_0, hKS1_g1_1, hKS1_g1_2, hKS1_g1_3, hKS1_g1_4, hKS1_g1_5, hKS1_g1_6, hKS1_u1_6, hKS1_p1_6, hKS1_g1_7, hKS1_u1_7, hKS1_p1_7, hKS1_rc2, hKS1_g2_0, hKS1_g2_1, hKS1_g2_2, hKS1_g2_3, hKS1_u2_3, hKS1_p2_3, hKS1_g2_4, hKS1_u2_4, hKS1_p2_4, hKS1_n3, hKS1_l3, hKS1_v3, hKS1_s3, hKS1_n4, hKS1_l4, hKS1_v4, hKS1_s4, hKS1_n5, hKS1_l5, hKS1_v5, hKS1_s5, hKS1_rc6, hKS1_g6_0, hKS1_g6_1, hKS1_g6_2, hKS1_u6_2, hKS1_p6_2, hKS1_g6_3, hKS1_u6_3, hKS1_p6_3, hKS1_g6_4, hKS1_u6_4, hKS1_p6_4, hKS1_g6_5, hKS1_u6_5, hKS1_p6_5, hKS1_g6_6, hKS1_u6_6, hKS1_p6_6, hKS1_g6_7, hKS1_u6_7, hKS1_p6_7, hKS1_g6_8, hKS1_u6_8, hKS1_p6_8, hKS1_n7, hKS1_l7, hKS1_v7, hKS1_s7, hKS1_n8, hKS1_l8, hKS1_v8, hKS1_s8, hKS1_rc9, hKS1_g9_0, hKS1_g9_1, hKS1_g9_2, hKS1_u9_2, hKS1_p9_2, hKS1_n10, hKS1_l10, hKS1_v10, hKS1_s10, hKS1_n11, hKS1_l11, hKS1_v11, hKS1_s11, hKS1_rc12, hKS1_g12_0, hKS1_g12_1, hKS1_u12_1, hKS1_p12_1, hKS1_n13, hKS1_l13, hKS1_v13, hKS1_s13, hKS1_rc14, hKS1_g14_0, hKS1_g14_1, hKS1_u14_1, hKS1_p14_1, hKS1_n15, hKS1_l15, hKS1_v15, hKS1_s15, hKS1_n16, hKS1_l16, hKS1_v16, hKS1_s16, hKR_1, hKR_2, hKR_x, hKR_pu, hKR_xpf, hKR_xas, hKR_xasz, hKR_xasl, hKR_rc25, hKR_g25_0, hKR_g25_1, hKR_g25_2, hKR_g25_3, hKR_g25_4, hKR_u25_4, hKR_p25_4, hKR_g25_5, hKR_u25_5, hKR_p25_5, hKR_g25_6, hKR_u25_6, hKR_p25_6, hKR_g25_7, hKR_u25_7, hKR_p25_7, hKR_g25_8, hKR_u25_8, hKR_p25_8, hKR_g25_9, hKR_u25_9, hKR_p25_9, hKR_g25_10, hKR_u25_10, hKR_p25_10, hKR_g25_11, hKR_u25_11, hKR_p25_11, hKR_g25_12, hKR_u25_12, hKR_p25_12, hKR_g25_13, hKR_u25_13, hKR_p25_13, hKR_n27, hKR_l27, hKR_n34, hKR_l34, hKR_v34, hKR_s34, Nat.reduceLeDiff, Nat.reduceEqDiff, false_and, and_false, or_self, not_false_eq_true, vp_in_nI (show j < 12 by omega) (by omega), nI_clamp (show j < 2 ^ 31 by omega), pk_us, if_true, nI_1]
      rw [hvg] at hn hcl
      dsimp only at hn hcl
      have hfl : ∀ Z, qws (slt sn) r1 r2 r3 (W ++ Z) qs = qws (slt sn) r1 r2 r3 Z qs' := fun Z => by rw [hq']; unfold qws; rw [List.foldl_append]
      rw [hfl] at hn hcl
      refine ih (j + 1) gs _ qs' (upd rc j (-1)) hj1 hvR (hrR _) (fun h0 rc' h4 h5 => ?_) hcl
      have := hn h0 rc' (fun i hi => by rw [h4 i (by omega), pk_un (by omega)]) (fun i r' h => by
        cases i with
        | zero =>
          simp at h
          rw [Nat.add_zero, h4 j (by omega), pk_us, ← h]; rfl
        | succ i =>
          rw [show j + (i + 1) = j + 1 + i by omega]
          exact h5 i r' (by simpa using h))
      simpa using this
    cases hp : pF j r with
    | none =>
      have hr : r = 99 := by
        unfold vok at hv
        rw [hp] at hv
        simp at hv
        exact hv.1
      have hvg : vgo c j (r :: R) = ((vgo c (j + 1) R).1, 99 :: (vgo c (j + 1) R).2.1, [] ++ (vgo c (j + 1) R).2.2) := by
        rw [List.nil_append]
        show (match pF j r with | none => _ | some e => _) = _
        rw [hp]
      have he : enc r = -1 := by unfold enc; rw [if_pos hr]
      rw [he, c_passed_d]
      exact hdead qs [] hvg rfl
    | some e =>
      obtain ⟨hm, he1, hr⟩ := pF_m hp
      obtain ⟨a1, a2, a3, a4⟩ := prt_a j hj12 _ hm
      have hbl := bl_le (j + 2) (by omega)
      have he : enc r = nI e.1 := by unfold enc; rw [if_neg hr, he1]
      rw [he, c_passed hsS hfd hw ht eql hs hsn hc hcod h1 h2 h3 hj12 hm]
      cases hpm : pmt e.2.1 c with
      | false =>
        have hvg : vgo c j (r :: R) = ((vgo c (j + 1) R).1, 99 :: (vgo c (j + 1) R).2.1, [e.2.1] ++ (vgo c (j + 1) R).2.2) := by
          show (match pF j r with | none => _ | some e => _) = _
          rw [hp]
          dsimp only
          rw [hpm]
          rfl
        simp only [Bool.false_eq_true, if_false]
        exact hdead _ [e.2.1] hvg rfl
      | true =>
        have hnm : ¬ nI e.2.2 = -1 := nI_m1 (by omega)
        have hx : pNx j 0 = pNx j 0 := rfl
        simp only [if_true]
        simp only [sX2_goOn_0, sX2_goOn_1, sX2_goOn_4, sX2_goOn_7, sX2_goOn_8, sX2_goOn_9, sX2_goOn_10, sX2_goOn_13, sX2_goOn_16, sX2_goOn_17, sX2_goOn_18, sX2_goOn_21, sX2_goOn_24, sX2_goOn_25, sX2_goOn_26, sX2_goOn_29, sX2_goOn_30, sX2_goOn_31, sX2_goOn_32, sX2_goOn_34, sX2_goOn_35, sX2_goOn_38, sX2_goOn_39, sX2_goOn_42, sX2_goOn_43, sX2_goOn_45, sX2_goOn_48, sX2_goOn_51, sX2_goOn_53, sX2_goOn_54, sX2_goOn_57, sX2_goOn_58, sX2_goOn_59, sX2_goOn_62, sX2_goOn_63, sX2_goOn_64, sX2_goOn_65, sX2_goOn_68, sX2_goOn_69, sX2_goOn_72, sX2_goOn_73, sX2_goOn_74, sX2_goOn_77, sX2_goOn_78, sX2_goOn_79, sX2_goOn_82, sX2_goOn_83, sX2_goOn_84, sX2_goOn_85, sX2_goOn_88, sX2_goOn_89, sX2_goOn_90, sX2_goOn_91, sX2_goOn_94, sX2_goOn_95, sX2_goOn_96, sX2_goOn_97, sX2_goOn_100, sX2_goOn_103, sX2_goOn_107, sX2_goOn_108, sX2_goOn_111, sX2_goOn_112, sX2_goOn_113, sX2_goOn_116, sX2_goOn_119, sX2_goOn_120, e_clrI, e_clrR, e_clrU, e_clrN, e_clrL, e_s0, e_s1, e_s2, e_s3, e_s4, e_z0, e_z1, e_f0, e_f1, e_tl, e_tn, e_q0, e_q1, e_zi, e_zj, true_and, and_true, ↓reduceIte, hKW_1, hKW_2, hKW_x, hKW_pu, hKW_xpf, hKW_xas, hKW_xasz, hKW_xasl, hKW_rc18, hKW_g18_0, hKW_g18_1, hKW_g18_2, hKW_g18_3, hKW_g18_4, hKW_g18_5, hKW_g18_6, hKW_u18_6, hKW_p18_6, hKW_g18_7, hKW_u18_7, hKW_p18_7, hKW_g18_8, hKW_u18_8, hKW_p18_8, hKW_g18_9, hKW_u18_9, hKW_p18_9, hKW_g18_10, hKW_u18_10, hKW_p18_10, hKW_g18_11, hKW_u18_11, hKW_p18_11, hKW_g18_12, hKW_u18_12, hKW_p18_12, hKW_g18_13, hKW_u18_13, hKW_p18_13, hKW_g18_14, hKW_u18_14, hKW_p18_14, hKW_g18_15, hKW_u18_15, hKW_p18_15, hKW_g18_16, hKW_u18_16, hKW_p18_16, hKW_n19, hKW_l19, hKW_v19, hKW_s19, hKW_n20, hKW_l20, hKW_v20, hKW_s20, hKW_n21, hKW_l21, hKW_v21, hKW_s21, hKW_n22, hKW_l22, hKW_v22, hKW_s22, hKS1_1, hKS1_2, hKS1_x, hKS1_pu, hKS1_xpf, hKS1_xas, hKS1_xasz, hKS1_xasl, hKS1_rc1, hKS1_g1_0, hKS1_g1_1, hKS1_g1_2, hKS1_g1_3, hKS1_g1_4, hKS1_g1_5, hKS1_g1_6, hKS1_u1_6, hKS1_p1_6, hKS1_g1_7, hKS1_u1_7, hKS1_p1_7, hKS1_rc2, hKS1_g2_0, hKS1_g2_1, hKS1_g2_2, hKS1_g2_3, hKS1_u2_3, hKS1_p2_3, hKS1_g2_4, hKS1_u2_4, hKS1_p2_4, hKS1_n3, hKS1_l3, hKS1_v3, hKS1_s3, hKS1_n4, hKS1_l4, hKS1_v4, hKS1_s4, hKS1_n5, hKS1_l5, hKS1_v5, hKS1_s5, hKS1_rc6, hKS1_g6_0, hKS1_g6_1, hKS1_g6_2, hKS1_u6_2, hKS1_p6_2, hKS1_g6_3, hKS1_u6_3, hKS1_p6_3, hKS1_g6_4, hKS1_u6_4, hKS1_p6_4, hKS1_g6_5, hKS1_u6_5, hKS1_p6_5, hKS1_g6_6, hKS1_u6_6, hKS1_p6_6, hKS1_g6_7, hKS1_u6_7, hKS1_p6_7, hKS1_g6_8, hKS1_u6_8, hKS1_p6_8, hKS1_n7, hKS1_l7, hKS1_v7, hKS1_s7, hKS1_n8, hKS1_l8, hKS1_v8, hKS1_s8, hKS1_rc9, hKS1_g9_0, hKS1_g9_1, hKS1_g9_2, hKS1_u9_2, hKS1_p9_2, hKS1_n10, hKS1_l10, hKS1_v10, hKS1_s10, hKS1_n11, hKS1_l11, hKS1_v11, hKS1_s11, hKS1_rc12, hKS1_g12_0, hKS1_g12_1, hKS1_u12_1, hKS1_p12_1, hKS1_n13, hKS1_l13, hKS1_v13, hKS1_s13, hKS1_rc14, hKS1_g14_0, hKS1_g14_1, hKS1_u14_1, hKS1_p14_1, hKS1_n15, hKS1_l15, hKS1_v15, hKS1_s15, hKS1_n16, hKS1_l16, hKS1_v16, hKS1_s16, hKR_1, hKR_2, hKR_x, hKR_pu, hKR_xpf, hKR_xas, hKR_xasz, hKR_xasl, hKR_rc25, hKR_g25_0, hKR_g25_1, hKR_g25_2, hKR_g25_3, hKR_g25_4, hKR_u25_4, hKR_p25_4, hKR_g25_5, hKR_u25_5, hKR_p25_5, hKR_g25_6, hKR_u25_6, hKR_p25_6, hKR_g25_7, hKR_u25_7, hKR_p25_7, hKR_g25_8, hKR_u25_8, hKR_p25_8, hKR_g25_9, hKR_u25_9, hKR_p25_9, hKR_g25_10, hKR_u25_10, hKR_p25_10, hKR_g25_11, hKR_u25_11, hKR_p25_11, hKR_g25_12, hKR_u25_12, hKR_p25_12, hKR_g25_13, hKR_u25_13, hKR_p25_13, hKR_n27, hKR_l27, hKR_n34, hKR_l34, hKR_v34, hKR_s34, Nat.reduceLeDiff, Nat.reduceEqDiff, false_and, and_false, or_self, not_false_eq_true, vp_in_nI (show j < 12 by omega) (by omega), nI_clamp (show j < 2 ^ 31 by omega), pk_us, hnm, if_false, c_textOf hj12, c_len (hS1 _ _) (show j + 2 < 16 by omega), hS_rc (hS1 _ _) (show j + 2 < 16 by omega), nI_1]
        by_cases hfull : e.2.2 = i_bl (j + 2)
        · have hvg : vgo c j (r :: R) = (some j, [e.2.2], [e.2.1]) := by
            show (match pF j r with | none => _ | some e => _) = _
            rw [hp]
            dsimp only
            rw [hpm, if_pos rfl, if_pos hfull]
          rw [hvg] at hcl
          have hcl := hcl j rfl (upd rc j (nI e.2.2))
          have hft : nI e.2.2 = nI (i_bl (j + 2)) ↔ True := iff_true_intro (by rw [hfull])
          simp only [hft, if_true]
          exact hcl
        · have hfn : ¬ nI e.2.2 = nI (i_bl (j + 2)) := fun q => hfull ((nI_eq (by omega) (by omega)).mp q)
          have hvg : vgo c j (r :: R) = ((vgo c (j + 1) R).1, e.2.2 :: (vgo c (j + 1) R).2.1, [e.2.1] ++ (vgo c (j + 1) R).2.2) := by
            show (match pF j r with | none => _ | some e => _) = _
            rw [hp]
            dsimp only
            rw [hpm, if_pos rfl, if_neg hfull]
            rfl
          simp only [hfn, if_false]
          rw [hvg] at hn hcl
          dsimp only at hn hcl
          have hfl : ∀ Z, qws (slt sn) r1 r2 r3 ([e.2.1] ++ Z) qs = qws (slt sn) r1 r2 r3 Z (qw (slt sn) r1 r2 r3 e.2.1 qs) := fun Z => rfl
          rw [hfl] at hn hcl
          have hne : e.2.2 ≠ 99 := by omega
          refine ih (j + 1) true _ _ (upd rc j (nI e.2.2)) hj1 hvR (hrR _) (fun h0 rc' h4 h5 => ?_) hcl
          have := hn h0 rc' (fun i hi => by rw [h4 i (by omega), pk_un (by omega)]) (fun i r' h => by
            cases i with
            | zero =>
              simp at h
              rw [Nat.add_zero, h4 j (by omega), pk_us, ← h]
              unfold enc
              rw [if_neg hne]
            | succ i =>
              rw [show j + (i + 1) = j + 1 + i by omega]
              exact h5 i r' (by simpa using h))
          simpa [hne] using this
