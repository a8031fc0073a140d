/-! ===== the world between calls ===== -/
def kRc (al : Nat → Int32) (wd : Nat → Int64) (x : CS) : Prop := kR al wd (x.1 0) (x.1 1) (x.2.2 0) (x.2.2 1) (x.2.1 0) (x.2.1 1) (x.2.1 2) (x.1 2) (x.1 3) (x.1 4) (x.1 5) (x.1 6) (x.1 7) (x.1 8) (x.2.1 3) (x.1 9) (x.2.1 5) (x.1 10) (x.2.1 6) (x.1 11) (x.2.1 7) (x.1 12) (x.1 13)
/-- arrays may differ behind their ends -/
theorem kR_a {al : Nat → Int32} {wd : Nat → Int64} {na : Int32} {th : Int32} {nw : Nat → Int64} {tw : Nat → Int64} {mo : Nat → Int32} {le : Nat → Int32} {gr : Nat → Int32} {to : Int32} {sh : Int32} {pn : Int32} {pm : Int32} {pt : Int32} {pi : Int32} {pj : Int32} {nu : Nat → Int32} {ss : Int32} {tx : Nat → Int32} {tl : Int32} {tq : Nat → Int32} {ql : Int32} {fa : Nat → Int32} {fu : Int32} {fp : Int32} {nw' tw' : Nat → Int64} {mo' le' gr' nu' tx' tq' fa' : Nat → Int32} (hr : kR al wd na th nw tw mo le gr to sh pn pm pt pi pj nu ss tx tl tq ql fa fu fp) (h1 : ∀ k, k < 6 → nw' k = nw k) (h2 : ∀ k, k < 6 → tw' k = tw k) (h3 : ∀ k, k < 6 → mo' k = mo k) (h4 : ∀ k, k < 4 → le' k = le k) (h5 : ∀ k, k < 4 → gr' k = gr k) (h6 : ∀ k, k < 20 → nu' k = nu k) (h7 : ∀ k, k < 400 → tx' k = tx k) (h8 : ∀ k, k < 400 → tq' k = tq k) (h9 : ∀ k, k < 11 → fa' k = fa k) :
    kR al wd na th nw' tw' mo' le' gr' to sh pn pm pt pi pj nu' ss tx' tl tq' ql fa' fu fp :=
  kR.mk hr.na hr.th (fun k hk => (h1 k hk).trans (hr.nw k hk)) (fun k hk => (h2 k hk).trans (hr.tw k hk)) (fun k hk => (h3 k hk).trans (hr.mo k hk)) (fun k hk => (h4 k hk).trans (hr.le k hk)) (fun k hk => (h5 k hk).trans (hr.gr k hk)) hr.to hr.sh hr.pl (fun k n a b e => (h6 k (by omega)).trans (hr.nu k n a b e)) hr.ss (fun k n a b e => (h7 k (by omega)).trans (hr.tx k n a b e)) hr.tl (fun k n a b e => (h8 k (by omega)).trans (hr.tq k n a b e)) hr.ql (fun k hk => (h9 k hk).trans (hr.fa k hk)) hr.fu hr.fp
theorem kR_fr {al : Nat → Int32} {wd : Nat → Int64} {nw : Nat → Int64} {tw : Nat → Int64} {mo : Nat → Int32} {le : Nat → Int32} {gr : Nat → Int32} {nu : Nat → Int32} {tx : Nat → Int32} {tq : Nat → Int32} {fa : Nat → Int32} {x : CS} (hr : kRc al wd x) : kR al wd (x.1 0) (x.1 1) (va_cpy (x.2.2 0) nw 0 0 6) (va_cpy (x.2.2 1) tw 0 0 6) (va_cpy (x.2.1 0) mo 0 0 6) (va_cpy (x.2.1 1) le 0 0 4) (va_cpy (x.2.1 2) gr 0 0 4) (x.1 2) (x.1 3) (x.1 4) (x.1 5) (x.1 6) (x.1 7) (x.1 8) (va_cpy (x.2.1 3) nu 0 0 20) (x.1 9) (va_cpy (x.2.1 5) tx 0 0 400) (x.1 10) (va_cpy (x.2.1 6) tq 0 0 400) (x.1 11) (va_cpy (x.2.1 7) fa 0 0 11) (x.1 12) (x.1 13) :=
  kR_a hr (fun k h => va_c h) (fun k h => va_c h) (fun k h => va_c h) (fun k h => va_c h) (fun k h => va_c h) (fun k h => va_c h) (fun k h => va_c h) (fun k h => va_c h) (fun k h => va_c h)
theorem kR_to {al : Nat → Int32} {wd : Nat → Int64} {na : Int32} {th : Int32} {nw : Nat → Int64} {tw : Nat → Int64} {mo : Nat → Int32} {le : Nat → Int32} {gr : Nat → Int32} {to : Int32} {sh : Int32} {pn : Int32} {pm : Int32} {pt : Int32} {pi : Int32} {pj : Int32} {nu : Nat → Int32} {sa : Nat → Int32} {ss : Int32} {tx : Nat → Int32} {tl : Int32} {tq : Nat → Int32} {ql : Int32} {fa : Nat → Int32} {fu : Int32} {fp : Int32} {x : CS} (hr : kR al wd na th nw tw mo le gr to sh pn pm pt pi pj nu ss tx tl tq ql fa fu fp) : kRc al wd (cpT x na th nw tw mo le gr to sh pn pm pt pi pj nu sa ss tx tl tq ql fa fu fp) :=
  kR_a hr (fun k h => va_c h) (fun k h => va_c h) (fun k h => va_c h) (fun k h => va_c h) (fun k h => va_c h) (fun k h => va_c h) (fun k h => va_c h) (fun k h => va_c h) (fun k h => va_c h)
def iR (al : Nat → Int32) (wd : Nat → Int64) (hs : Nat → Int32) (im : Nat → Option Nat) (n : Nat) (c : Nat → CS) : Prop := n ≤ 3 ∧ ∃ q : Nat → Nat, (∀ j, j < n → q j < 3 ∧ im (q j) = some (41 + 16 * j)) ∧ ∀ k, k < 3 → (im k = none ∧ hs k = 0) ∨ ∃ j, j < n ∧ q j = k ∧ hs k = 1 ∧ mI (fun i => al (962 * (k + 1) + i)) (fun i => wd (12 * (k + 1) + i)) PW ∧ kRc (fun i => al (962 * (k + 1) + i)) (fun i => wd (12 * (k + 1) + i)) (c j)
theorem iR_e {al al' : Nat → Int32} {wd wd' : Nat → Int64} {hs : Nat → Int32} {im : Nat → Option Nat} {n : Nat} {c : Nat → CS} (h : iR al wd hs im n c) (E : ∀ j, 962 ≤ j → al' j = al j) (W : ∀ j, 12 ≤ j → wd' j = wd j) : iR al' wd' hs im n c := by
  obtain ⟨hn, q, h1, h2⟩ := h
  refine ⟨hn, q, h1, fun k hk => ?_⟩
  have e1 : (fun i => al' (962 * (k + 1) + i)) = (fun i => al (962 * (k + 1) + i)) := funext fun i => E _ (by omega)
  have e2 : (fun i => wd' (12 * (k + 1) + i)) = (fun i => wd (12 * (k + 1) + i)) := funext fun i => W _ (by omega)
  rw [e1, e2]
  exact h2 k hk
theorem iR_hs {al : Nat → Int32} {wd : Nat → Int64} {hs : Nat → Int32} {im : Nat → Option Nat} {n : Nat} {c : Nat → CS} (h : iR al wd hs im n c) : ∀ k, k < 3 → hs k = 0 ∨ hs k = 1 := by
  obtain ⟨hn, q, h1, h2⟩ := h
  intro k hk
  rcases h2 k hk with ⟨_, h⟩ | ⟨j, _, _, h, _⟩
  · exact Or.inl h
  · exact Or.inr h
/-- an image that there is already -/
theorem iR_at {al : Nat → Int32} {wd : Nat → Int64} {hs : Nat → Int32} {im : Nat → Option Nat} {n : Nat} {c : Nat → CS} (h : iR al wd hs im n c) {k : Nat} (hk : k < 3) : (im k = none ∧ hs k = 0) ∨ ∃ j, j < n ∧ im k = some (41 + 16 * j) ∧ hs k = 1 ∧ mI (fun i => al (962 * (k + 1) + i)) (fun i => wd (12 * (k + 1) + i)) PW ∧ kRc (fun i => al (962 * (k + 1) + i)) (fun i => wd (12 * (k + 1) + i)) (c j) := by
  obtain ⟨hn, q, h1, h2⟩ := h
  rcases h2 k hk with h | ⟨j, a, b, e, m, r⟩
  · exact Or.inl h
  · exact Or.inr ⟨j, a, b ▸ (h1 j a).2, e, m, r⟩
theorem iR_i {al : Nat → Int32} {wd : Nat → Int64} {hs : Nat → Int32} {im : Nat → Option Nat} {n : Nat} {c : Nat → CS} (h : iR al wd hs im n c) {k j : Nat} (hk : k < 3) (hj : j < n) (him : im k = some (41 + 16 * j)) {y : CS} (hm : mI al wd PW) (hr : kRc al wd y) : iR (imA al k 962) (imW wd k 12) (upd hs k 1) im n (uC c j y) := by
  obtain ⟨hn, q, h1, h2⟩ := h
  refine ⟨hn, q, h1, fun k' hk' => ?_⟩
  by_cases hkk : k' = k
  · subst hkk
    have hq : q j = k' := by
      rcases h2 k' hk' with ⟨a, _⟩ | ⟨j', a, b, _⟩
      · rw [a] at him; cases him
      · have := (h1 j' a).2
        rw [b, him] at this
        injection this with this
        have : j = j' := by omega
        rw [this]; exact b
    refine Or.inr ⟨j, hj, hq, pk_us, ?_, ?_⟩
    · refine mI_ext hm (fun i hi => ?_) (fun i hi => ?_)
      · show imA al k' 962 (962 * (k' + 1) + i) = al i
        unfold imA; rw [if_pos (by omega), Nat.add_sub_cancel_left]
      · show imW wd k' 12 (12 * (k' + 1) + i) = wd i
        unfold imW; rw [if_pos (by omega), Nat.add_sub_cancel_left]
    · rw [uC_s]
      refine kR_ext hr (fun i hi => ?_) (fun i hi => ?_)
      · show imA al k' 962 (962 * (k' + 1) + i) = al i
        unfold imA; rw [if_pos (by omega), Nat.add_sub_cancel_left]
      · show imW wd k' 12 (12 * (k' + 1) + i) = wd i
        unfold imW; rw [if_pos (by omega), Nat.add_sub_cancel_left]
  · rcases h2 k' hk' with ⟨a, b⟩ | ⟨j', a, b, e, m, r⟩
    · exact Or.inl ⟨a, by rw [pk_un hkk]; exact b⟩
    · have hjj : j' ≠ j := by
        intro e
        have h3 := (h1 j' a).2
        have h4 : q j = k := by
          rcases h2 k hk with ⟨a2, _⟩ | ⟨j2, a2, b2, _⟩
          · rw [a2] at him; cases him
          · have := (h1 j2 a2).2
            rw [b2, him] at this
            injection this with this
            have : j = j2 := by omega
            rw [this]; exact b2
        rw [e, h4] at b
        exact hkk b.symm
      refine Or.inr ⟨j', a, b, by rw [pk_un hkk]; exact e, ?_, ?_⟩
      · refine mI_ext m (fun i hi => ?_) (fun i hi => ?_)
        · show imA al k 962 (962 * (k' + 1) + i) = al (962 * (k' + 1) + i)
          unfold imA; rw [if_neg (by omega)]
        · show imW wd k 12 (12 * (k' + 1) + i) = wd (12 * (k' + 1) + i)
          unfold imW; rw [if_neg (by omega)]
      · rw [uC_o hjj]
        refine kR_ext r (fun i hi => ?_) (fun i hi => ?_)
        · show imA al k 962 (962 * (k' + 1) + i) = al (962 * (k' + 1) + i)
          unfold imA; rw [if_neg (by omega)]
        · show imW wd k 12 (12 * (k' + 1) + i) = wd (12 * (k' + 1) + i)
          unfold imW; rw [if_neg (by omega)]
/-- there is room for one more -/
theorem iR_lt {al : Nat → Int32} {wd : Nat → Int64} {hs : Nat → Int32} {im : Nat → Option Nat} {n : Nat} {c : Nat → CS} (h : iR al wd hs im n c) {k : Nat} (hk : k < 3) (him : im k = none) : n < 3 := by
  obtain ⟨hn, q, h1, h2⟩ := h
  rcases Nat.lt_or_ge n 3 with h | h
  · exact h
  · exfalso
    have hz : ∀ j, j < 3 → q j < 3 ∧ q j ≠ k ∧ im (q j) = some (41 + 16 * j) := by
      intro j hj
      have h3 := h1 j (by omega)
      refine ⟨h3.1, ?_, h3.2⟩
      intro e
      have h4 := h3.2
      rw [e, him] at h4
      cases h4
    obtain ⟨a0, a1, a2⟩ := hz 0 (by omega)
    obtain ⟨b0, b1, b2⟩ := hz 1 (by omega)
    obtain ⟨c0, c1, c2⟩ := hz 2 (by omega)
    have n1 : q 0 ≠ q 1 := fun e => by rw [e, b2] at a2; injection a2 with a2; omega
    have n2 : q 0 ≠ q 2 := fun e => by rw [e, c2] at a2; injection a2 with a2; omega
    have n3 : q 1 ≠ q 2 := fun e => by rw [e, c2] at b2; injection b2 with b2; omega
    omega
theorem iR_n {al : Nat → Int32} {wd : Nat → Int64} {hs : Nat → Int32} {im : Nat → Option Nat} {n : Nat} {c : Nat → CS} (h : iR al wd hs im n c) {k : Nat} (hk : k < 3) (him : im k = none) {y : CS} (hm : mI al wd PW) (hr : kRc al wd y) : iR (imA al k 962) (imW wd k 12) (upd hs k 1) (va_up im k (some (41 + 16 * n))) (n + 1) (uC c n y) := by
  have hlt := iR_lt h hk him
  obtain ⟨hn, q, h1, h2⟩ := h
  refine ⟨by omega, fun j => if j = n then k else q j, fun j hj => ?_, fun k' hk' => ?_⟩
  · dsimp only
    by_cases hjn : j = n
    · rw [if_pos hjn]
      exact ⟨hk, by unfold va_up; rw [if_pos rfl, hjn]⟩
    · rw [if_neg hjn]
      have h3 := h1 j (by omega)
      refine ⟨h3.1, ?_⟩
      unfold va_up
      rw [if_neg (fun e => by rw [e, him] at h3; cases h3.2)]
      exact h3.2
  · by_cases hkk : k' = k
    · subst hkk
      refine Or.inr ⟨n, by omega, if_pos rfl, pk_us, ?_, ?_⟩
      · refine mI_ext hm (fun i hi => ?_) (fun i hi => ?_)
        · show imA al k' 962 (962 * (k' + 1) + i) = al i
          unfold imA; rw [if_pos (by omega), Nat.add_sub_cancel_left]
        · show imW wd k' 12 (12 * (k' + 1) + i) = wd i
          unfold imW; rw [if_pos (by omega), Nat.add_sub_cancel_left]
      · rw [uC_s]
        refine kR_ext hr (fun i hi => ?_) (fun i hi => ?_)
        · show imA al k' 962 (962 * (k' + 1) + i) = al i
          unfold imA; rw [if_pos (by omega), Nat.add_sub_cancel_left]
        · show imW wd k' 12 (12 * (k' + 1) + i) = wd i
          unfold imW; rw [if_pos (by omega), Nat.add_sub_cancel_left]
    · rcases h2 k' hk' with ⟨a, b⟩ | ⟨j', a, b, e, m, r⟩
      · refine Or.inl ⟨?_, by rw [pk_un hkk]; exact b⟩
        unfold va_up; rw [if_neg hkk]; exact a
      · refine Or.inr ⟨j', by omega, by dsimp only; rw [if_neg (by omega)]; exact b, by rw [pk_un hkk]; exact e, ?_, ?_⟩
        · refine mI_ext m (fun i hi => ?_) (fun i hi => ?_)
          · show imA al k 962 (962 * (k' + 1) + i) = al (962 * (k' + 1) + i)
            unfold imA; rw [if_neg (by omega)]
          · show imW wd k 12 (12 * (k' + 1) + i) = wd (12 * (k' + 1) + i)
            unfold imW; rw [if_neg (by omega)]
        · rw [uC_o (by omega)]
          refine kR_ext r (fun i hi => ?_) (fun i hi => ?_)
          · show imA al k 962 (962 * (k' + 1) + i) = al (962 * (k' + 1) + i)
            unfold imA; rw [if_neg (by omega)]
          · show imW wd k 12 (12 * (k' + 1) + i) = wd (12 * (k' + 1) + i)
            unfold imW; rw [if_neg (by omega)]
theorem KI_x {n a : Nat} {c : Nat → CS} {g : aH} (h : 89 ≤ a) : (KI n c g).2.2 a = g.2.2 a := by
  unfold KI
  split
  · rfl
  · split
    · exact hKS41_x (by omega)
    · split
      · show (KS57 _ _ _ _ _ _ _ _ _ _ _ _ _ _ _ _ _ _ _ _ _ _ _ _ _).2.2 a = _
        rw [hKS57_x (by omega)]; exact hKS41_x (by omega)
      · show (KS73 _ _ _ _ _ _ _ _ _ _ _ _ _ _ _ _ _ _ _ _ _ _ _ _ _).2.2 a = _
        rw [hKS73_x (by omega)]
        show (KS57 _ _ _ _ _ _ _ _ _ _ _ _ _ _ _ _ _ _ _ _ _ _ _ _ _).2.2 a = _
        rw [hKS57_x (by omega)]; exact hKS41_x (by omega)
theorem KI_1 {n : Nat} {c : Nat → CS} {g : aH} : (KI n c g).1 = g.1 ∧ (KI n c g).2.1 = g.2.1 := by
  unfold KI
  split
  · exact ⟨rfl, rfl⟩
  · split
    · exact ⟨rfl, rfl⟩
    · split <;> exact ⟨rfl, rfl⟩
theorem KI_b {n p q p' q' : Nat} {c : Nat → CS} {f : Nat → Option va_E} : ((p, q, (KI n c (p', q', f)).2.2) : aH) = KI n c (p, q, f) := by
  unfold KI
  split
  · rfl
  · split
    · rfl
    · split <;> rfl
theorem hS_M {g : aH} {al : Nat → Int32} {wd : Nat → Int64} {hs : Nat → Int32} {vx : Int32} {vy : Int32} {vz : Int32} {vi : Int32} {an : Nat → Int32} {sz : Int32} {nx : Int32} {wh : Int32} {tk : Int32} {td : Int32} {wr : Int32} {rw : Nat → Int32} {sn : Int32} {ak : Int32} {n0 : Int32} {n1 : Int32} (h : hS g) : hS (HM g al wd hs vx vy vz vi an sz nx wh tk td wr rw sn ak n0 n1) := hS_l (fun j => hM_x (by rw [r1000]; omega)) h
theorem hS_I {n : Nat} {c : Nat → CS} {g : aH} (h : hS g) : hS (KI n c g) := hS_l (fun j => KI_x (by rw [r1000]; omega)) h
theorem hS_b {p q : Nat} {f : Nat → Option va_E} (h : hS (0, 0, f)) : hS (p, q, f) := h
set_option maxRecDepth 100000 in
theorem le_st {s s' n x : Nat} (h : s' ≤ x + 2000) (e : x = s) (h0 : s ≤ 20000 + 3000 * n) : s' ≤ 20000 + 3000 * (n + 1) := by omega
def INV (f : Nat → Option va_E) (h : aH) : Prop := ∃ (n s : Nat) (c : Nat → CS) (na : Int32) (th : Int32) (nw : Nat → Int64) (tw : Nat → Int64) (mo : Nat → Int32) (le : Nat → Int32) (gr : Nat → Int32) (to : Int32) (sh : Int32) (pn : Int32) (pm : Int32) (pt : Int32) (pi : Int32) (pj : Int32) (nu : Nat → Int32) (sa : Nat → Int32) (ss : Int32) (tx : Nat → Int32) (tl : Int32) (tq : Nat → Int32) (ql : Int32) (fa : Nat → Int32) (fu : Int32) (fp : Int32) (wn : Nat → Int32) (te : Nat → Int32) (lo : Nat → Int32) (hi : Nat → Int32) (mt : Int32) (me : Int32) (tt : Int32) (ix : Int32) (ov : Int32) (su : Int32) (wx : Int32) (wy : Int32) (wz : Int32) (wi : Int32) (wa : Int32) (im : Nat → Option Nat) (t0 : Int32) (t1 : Int32) (t2 : Int32) (t3 : Int32) (t4 : Int32) (rn : Int32) (rp : Int32) (ro : Int32) (ra : Int32) (rs : Int32) (rt : Int32) (rk : Int32) (r1 : Int32) (r2 : Int32) (r3 : Int32) (rc : Nat → Int32) (qs : Nat → Int32) (fs : Int32) (fh : Int32) (fd : Int32) (fi : Int32) (fn : Int32) (fm : Int32) (ft : Int32) (al : Nat → Int32) (wd : Nat → Int64) (hs : Nat → Int32) (vx : Int32) (vy : Int32) (vz : Int32) (vi : Int32) (an : Nat → Int32) (sz : Int32) (nx : Int32) (wh : Int32) (tk : Int32) (td : Int32) (wr : Int32) (rw : Nat → Int32) (sn : Int32) (ak : Int32) (n0 : Int32) (n1 : Int32), h = HM (KW (KS1 (K0 (KT (KR (KQ (KF (KI n c (41 + 16 * n, s, f)) fs fh fd fi fn fm ft) qs) rn rp ro ra rs rt rk r1 r2 r3 rc) t0 t1 t2 t3 t4) im) na th nw tw mo le gr to sh pn pm pt pi pj nu sa ss tx tl tq ql fa fu fp) wn te lo hi mt me tt ix ov su wx wy wz wi wa) al wd hs vx vy vz vi an sz nx wh tk td wr rw sn ak n0 n1 ∧ s ≤ 20000 + 3000 * n ∧ mI al wd PW ∧ kR al wd na th nw tw mo le gr to sh pn pm pt pi pj nu ss tx tl tq ql fa fu fp ∧ wJ al sh pi wn te lo hi mt me tt ix ov su wx wy wz wi wa ∧ iR al wd hs im n c
theorem INV_mk {f : Nat → Option va_E} {n s : Nat} {c : Nat → CS} {na : Int32} {th : Int32} {nw : Nat → Int64} {tw : Nat → Int64} {mo : Nat → Int32} {le : Nat → Int32} {gr : Nat → Int32} {to : Int32} {sh : Int32} {pn : Int32} {pm : Int32} {pt : Int32} {pi : Int32} {pj : Int32} {nu : Nat → Int32} {sa : Nat → Int32} {ss : Int32} {tx : Nat → Int32} {tl : Int32} {tq : Nat → Int32} {ql : Int32} {fa : Nat → Int32} {fu : Int32} {fp : Int32} {wn : Nat → Int32} {te : Nat → Int32} {lo : Nat → Int32} {hi : Nat → Int32} {mt : Int32} {me : Int32} {tt : Int32} {ix : Int32} {ov : Int32} {su : Int32} {wx : Int32} {wy : Int32} {wz : Int32} {wi : Int32} {wa : Int32} {im : Nat → Option Nat} {t0 : Int32} {t1 : Int32} {t2 : Int32} {t3 : Int32} {t4 : Int32} {rn : Int32} {rp : Int32} {ro : Int32} {ra : Int32} {rs : Int32} {rt : Int32} {rk : Int32} {r1 : Int32} {r2 : Int32} {r3 : Int32} {rc : Nat → Int32} {qs : Nat → Int32} {fs : Int32} {fh : Int32} {fd : Int32} {fi : Int32} {fn : Int32} {fm : Int32} {ft : Int32} {al : Nat → Int32} {wd : Nat → Int64} {hs : Nat → Int32} {vx : Int32} {vy : Int32} {vz : Int32} {vi : Int32} {an : Nat → Int32} {sz : Int32} {nx : Int32} {wh : Int32} {tk : Int32} {td : Int32} {wr : Int32} {rw : Nat → Int32} {sn : Int32} {ak : Int32} {n0 : Int32} {n1 : Int32} (h1 : s ≤ 20000 + 3000 * n) (h2 : mI al wd PW) (h3 : kR al wd na th nw tw mo le gr to sh pn pm pt pi pj nu ss tx tl tq ql fa fu fp) (h4 : wJ al sh pi wn te lo hi mt me tt ix ov su wx wy wz wi wa) (h5 : iR al wd hs im n c) : INV f (HM (KW (KS1 (K0 (KT (KR (KQ (KF (KI n c (41 + 16 * n, s, f)) fs fh fd fi fn fm ft) qs) rn rp ro ra rs rt rk r1 r2 r3 rc) t0 t1 t2 t3 t4) im) na th nw tw mo le gr to sh pn pm pt pi pj nu sa ss tx tl tq ql fa fu fp) wn te lo hi mt me tt ix ov su wx wy wz wi wa) al wd hs vx vy vz vi an sz nx wh tk td wr rw sn ak n0 n1) :=
  ⟨n, s, c, na, th, nw, tw, mo, le, gr, to, sh, pn, pm, pt, pi, pj, nu, sa, ss, tx, tl, tq, ql, fa, fu, fp, wn, te, lo, hi, mt, me, tt, ix, ov, su, wx, wy, wz, wi, wa, im, t0, t1, t2, t3, t4, rn, rp, ro, ra, rs, rt, rk, r1, r2, r3, rc, qs, fs, fh, fd, fi, fn, fm, ft, al, wd, hs, vx, vy, vz, vi, an, sz, nx, wh, tk, td, wr, rw, sn, ak, n0, n1, rfl, h1, h2, h3, h4, h5⟩
def PO (f : Nat → Option va_E) (y : aM) (l : List (Option Value)) (r : Option Value) (g : aH) : Prop := ∃ x : Int32, r = some (.int x) ∧ w_rc (g.2.2 35) 11 ∧ g.2.2 (aRO + 60) = f (aRO + 60) ∧ wp 10 y 0 l [] g (fun r' g' => r' = some (.int x) ∧ INV f g')
theorem HH_at {f : Nat → Option va_E} {n s a : Nat} {c : Nat → CS} {na : Int32} {th : Int32} {nw : Nat → Int64} {tw : Nat → Int64} {mo : Nat → Int32} {le : Nat → Int32} {gr : Nat → Int32} {to : Int32} {sh : Int32} {pn : Int32} {pm : Int32} {pt : Int32} {pi : Int32} {pj : Int32} {nu : Nat → Int32} {sa : Nat → Int32} {ss : Int32} {tx : Nat → Int32} {tl : Int32} {tq : Nat → Int32} {ql : Int32} {fa : Nat → Int32} {fu : Int32} {fp : Int32} {wn : Nat → Int32} {te : Nat → Int32} {lo : Nat → Int32} {hi : Nat → Int32} {mt : Int32} {me : Int32} {tt : Int32} {ix : Int32} {ov : Int32} {su : Int32} {wx : Int32} {wy : Int32} {wz : Int32} {wi : Int32} {wa : Int32} {im : Nat → Option Nat} {t0 : Int32} {t1 : Int32} {t2 : Int32} {t3 : Int32} {t4 : Int32} {rn : Int32} {rp : Int32} {ro : Int32} {ra : Int32} {rs : Int32} {rt : Int32} {rk : Int32} {r1 : Int32} {r2 : Int32} {r3 : Int32} {rc : Nat → Int32} {qs : Nat → Int32} {fs : Int32} {fh : Int32} {fd : Int32} {fi : Int32} {fn : Int32} {fm : Int32} {ft : Int32} {al : Nat → Int32} {wd : Nat → Int64} {hs : Nat → Int32} {vx : Int32} {vy : Int32} {vz : Int32} {vi : Int32} {an : Nat → Int32} {sz : Int32} {nx : Int32} {wh : Int32} {tk : Int32} {td : Int32} {wr : Int32} {rw : Nat → Int32} {sn : Int32} {ak : Int32} {n0 : Int32} {n1 : Int32} (h : 89 ≤ a) : (HM (KW (KS1 (K0 (KT (KR (KQ (KF (KI n c (41 + 16 * n, s, f)) fs fh fd fi fn fm ft) qs) rn rp ro ra rs rt rk r1 r2 r3 rc) t0 t1 t2 t3 t4) im) na th nw tw mo le gr to sh pn pm pt pi pj nu sa ss tx tl tq ql fa fu fp) wn te lo hi mt me tt ix ov su wx wy wz wi wa) al wd hs vx vy vz vi an sz nx wh tk td wr rw sn ak n0 n1).2.2 a = f a := by
  rw [hM_x (by omega), hKW_x (by omega), hKS1_x (by omega), hK0_x (by omega), hKT_x (by omega), hKR_x (by omega), hKQ_x (by omega), hKF_x (by omega), KI_x h]
theorem PO_mk {f : Nat → Option va_E} {n s : Nat} {c : Nat → CS} {na : Int32} {th : Int32} {nw : Nat → Int64} {tw : Nat → Int64} {mo : Nat → Int32} {le : Nat → Int32} {gr : Nat → Int32} {to : Int32} {sh : Int32} {pn : Int32} {pm : Int32} {pt : Int32} {pi : Int32} {pj : Int32} {nu : Nat → Int32} {sa : Nat → Int32} {ss : Int32} {tx : Nat → Int32} {tl : Int32} {tq : Nat → Int32} {ql : Int32} {fa : Nat → Int32} {fu : Int32} {fp : Int32} {wn : Nat → Int32} {te : Nat → Int32} {lo : Nat → Int32} {hi : Nat → Int32} {mt : Int32} {me : Int32} {tt : Int32} {ix : Int32} {ov : Int32} {su : Int32} {wx : Int32} {wy : Int32} {wz : Int32} {wi : Int32} {wa : Int32} {im : Nat → Option Nat} {t0 : Int32} {t1 : Int32} {t2 : Int32} {t3 : Int32} {t4 : Int32} {rn : Int32} {rp : Int32} {ro : Int32} {ra : Int32} {rs : Int32} {rt : Int32} {rk : Int32} {r1 : Int32} {r2 : Int32} {r3 : Int32} {rc : Nat → Int32} {qs : Nat → Int32} {fs : Int32} {fh : Int32} {fd : Int32} {fi : Int32} {fn : Int32} {fm : Int32} {ft : Int32} {al : Nat → Int32} {wd : Nat → Int64} {hs : Nat → Int32} {vx : Int32} {vy : Int32} {vz : Int32} {vi : Int32} {an : Nat → Int32} {sz : Int32} {nx : Int32} {wh : Int32} {tk : Int32} {td : Int32} {wr : Int32} {rw : Nat → Int32} {sn : Int32} {ak : Int32} {n0 : Int32} {n1 : Int32} {y : aM} {l : List (Option Value)} {x : Int32} (h : wp 10 y 0 l [] (HM (KW (KS1 (K0 (KT (KR (KQ (KF (KI n c (41 + 16 * n, s, f)) fs fh fd fi fn fm ft) qs) rn rp ro ra rs rt rk r1 r2 r3 rc) t0 t1 t2 t3 t4) im) na th nw tw mo le gr to sh pn pm pt pi pj nu sa ss tx tl tq ql fa fu fp) wn te lo hi mt me tt ix ov su wx wy wz wi wa) al wd hs vx vy vz vi an sz nx wh tk td wr rw sn ak n0 n1) (fun r' g' => r' = some (.int x) ∧ INV f g')) : PO f y l (some (.int x)) (HM (KW (KS1 (K0 (KT (KR (KQ (KF (KI n c (41 + 16 * n, s, f)) fs fh fd fi fn fm ft) qs) rn rp ro ra rs rt rk r1 r2 r3 rc) t0 t1 t2 t3 t4) im) na th nw tw mo le gr to sh pn pm pt pi pj nu sa ss tx tl tq ql fa fu fp) wn te lo hi mt me tt ix ov su wx wy wz wi wa) al wd hs vx vy vz vi an sz nx wh tk td wr rw sn ak n0 n1) :=
  ⟨x, rfl, rfl, HH_at (by rw [show aRO = 1000000 from rfl]; omega), h⟩
theorem INV_el {f : Nat → Option va_E} {h : aH} {P : aH → Prop} (H : INV f h) (hk : ∀ (n s : Nat) (c : Nat → CS) (na : Int32) (th : Int32) (nw : Nat → Int64) (tw : Nat → Int64) (mo : Nat → Int32) (le : Nat → Int32) (gr : Nat → Int32) (to : Int32) (sh : Int32) (pn : Int32) (pm : Int32) (pt : Int32) (pi : Int32) (pj : Int32) (nu : Nat → Int32) (sa : Nat → Int32) (ss : Int32) (tx : Nat → Int32) (tl : Int32) (tq : Nat → Int32) (ql : Int32) (fa : Nat → Int32) (fu : Int32) (fp : Int32) (wn : Nat → Int32) (te : Nat → Int32) (lo : Nat → Int32) (hi : Nat → Int32) (mt : Int32) (me : Int32) (tt : Int32) (ix : Int32) (ov : Int32) (su : Int32) (wx : Int32) (wy : Int32) (wz : Int32) (wi : Int32) (wa : Int32) (im : Nat → Option Nat) (t0 : Int32) (t1 : Int32) (t2 : Int32) (t3 : Int32) (t4 : Int32) (rn : Int32) (rp : Int32) (ro : Int32) (ra : Int32) (rs : Int32) (rt : Int32) (rk : Int32) (r1 : Int32) (r2 : Int32) (r3 : Int32) (rc : Nat → Int32) (qs : Nat → Int32) (fs : Int32) (fh : Int32) (fd : Int32) (fi : Int32) (fn : Int32) (fm : Int32) (ft : Int32) (al : Nat → Int32) (wd : Nat → Int64) (hs : Nat → Int32) (vx : Int32) (vy : Int32) (vz : Int32) (vi : Int32) (an : Nat → Int32) (sz : Int32) (nx : Int32) (wh : Int32) (tk : Int32) (td : Int32) (wr : Int32) (rw : Nat → Int32) (sn : Int32) (ak : Int32) (n0 : Int32) (n1 : Int32), s ≤ 20000 + 3000 * n → mI al wd PW → kR al wd na th nw tw mo le gr to sh pn pm pt pi pj nu ss tx tl tq ql fa fu fp → wJ al sh pi wn te lo hi mt me tt ix ov su wx wy wz wi wa → iR al wd hs im n c → P (HM (KW (KS1 (K0 (KT (KR (KQ (KF (KI n c (41 + 16 * n, s, f)) fs fh fd fi fn fm ft) qs) rn rp ro ra rs rt rk r1 r2 r3 rc) t0 t1 t2 t3 t4) im) na th nw tw mo le gr to sh pn pm pt pi pj nu sa ss tx tl tq ql fa fu fp) wn te lo hi mt me tt ix ov su wx wy wz wi wa) al wd hs vx vy vz vi an sz nx wh tk td wr rw sn ak n0 n1)) : P h := by
  obtain ⟨n, s, c, na, th, nw, tw, mo, le, gr, to, sh, pn, pm, pt, pi, pj, nu, sa, ss, tx, tl, tq, ql, fa, fu, fp, wn, te, lo, hi, mt, me, tt, ix, ov, su, wx, wy, wz, wi, wa, im, t0, t1, t2, t3, t4, rn, rp, ro, ra, rs, rt, rk, r1, r2, r3, rc, qs, fs, fh, fd, fi, fn, fm, ft, al, wd, hs, vx, vy, vz, vi, an, sz, nx, wh, tk, td, wr, rw, sn, ak, n0, n1, e, h1, h2, h3, h4, h5⟩ := H
  rw [e]
  exact hk n s c na th nw tw mo le gr to sh pn pm pt pi pj nu sa ss tx tl tq ql fa fu fp wn te lo hi mt me tt ix ov su wx wy wz wi wa im t0 t1 t2 t3 t4 rn rp ro ra rs rt rk r1 r2 r3 rc qs fs fh fd fi fn fm ft al wd hs vx vy vz vi an sz nx wh tk td wr rw sn ak n0 n1 h1 h2 h3 h4 h5
