/-! ===== what holds between calls, behind each call ===== -/
theorem mI_ext {al al' : Nat → Int32} {wd wd' : Nat → Int64} {P : Int64 → Prop} (hm : mI al wd P) (E : ∀ j, j < 962 → al' j = al j) (W : ∀ j, j < 12 → wd' j = wd j) : mI al' wd' P :=
  mI.mk (by rw [E 0 (by omega)]; exact hm.n0) (by rw [E 1 (by omega)]; exact hm.n1) (fun k hk => by rw [E (14 + 2 * k) (by omega), E (15 + 2 * k) (by omega)]; exact hm.sp k hk) (fun k hk => by rw [E 1 (by omega), E (22 + k) (by omega)]; exact hm.mo k hk) (by rw [E 0 (by omega), E 1 (by omega), E 2 (by omega), E 3 (by omega), E 4 (by omega), E 5 (by omega), E 6 (by omega), E 7 (by omega)]; exact hm.pl) (by rw [E 8 (by omega)]; exact hm.wy) (by rw [E 9 (by omega)]; exact hm.s9) (by rw [E 10 (by omega)]; exact hm.s10) (by rw [E 11 (by omega)]; exact hm.s11) (fun k n h1 h2 h3 => by rw [E 11 (by omega)] at h1; rw [E (562 + k) (by omega)]; exact hm.tp k n h1 h2 h3) (fun k n h1 h2 h3 => by rw [E 10 (by omega)] at h1; rw [E (62 + k) (by omega)]; exact hm.tx k n h1 h2 h3) (fun k hk h => by rw [E 0 (by omega)] at h; rw [W k (by omega)]; exact hm.wn k hk h) (fun k hk h => by rw [E 1 (by omega)] at h; rw [W (6 + k) (by omega)]; exact hm.wt k hk h) (fun k j h1 h2 h3 h4 => by rw [E 0 (by omega)] at h2; rw [E 1 (by omega)] at h4; rw [W k (by omega), W (6 + j) (by omega)]; exact hm.wu k j h1 h2 h3 h4)
theorem kR_ext {al al' : Nat → Int32} {wd wd' : Nat → Int64} {na : Int32} {th : Int32} {nw : Nat → Int64} {tw : Nat → Int64} {mo : Nat → Int32} {le : Nat → Int32} {gr : Nat → Int32} {to : Int32} {sh : Int32} {pn : Int32} {pm : Int32} {pt : Int32} {pi : Int32} {pj : Int32} {nu : Nat → Int32} {ss : Int32} {tx : Nat → Int32} {tl : Int32} {tq : Nat → Int32} {ql : Int32} {fa : Nat → Int32} {fu : Int32} {fp : Int32} (hr : kR al wd na th nw tw mo le gr to sh pn pm pt pi pj nu ss tx tl tq ql fa fu fp) (E : ∀ j, j < 962 → al' j = al j) (W : ∀ j, j < 12 → wd' j = wd j) : kR al' wd' na th nw tw mo le gr to sh pn pm pt pi pj nu ss tx tl tq ql fa fu fp :=
  kR.mk (hr.na.trans (E 0 (by omega)).symm) (hr.th.trans (E 1 (by omega)).symm) (fun k hk => (hr.nw k hk).trans (W k (by omega)).symm) (fun k hk => (hr.tw k hk).trans (W (6 + k) (by omega)).symm) (fun k hk => (hr.mo k hk).trans (E _ (by omega)).symm) (fun k hk => (hr.le k hk).trans (E _ (by omega)).symm) (fun k hk => (hr.gr k hk).trans (E _ (by omega)).symm) (hr.to.trans (E 8 (by omega)).symm) (hr.sh.trans (E 2 (by omega)).symm) (by rw [E 2 (by omega), E 3 (by omega), E 4 (by omega), E 5 (by omega), E 6 (by omega), E 7 (by omega)]; exact hr.pl) (fun k n h1 h2 h3 => by rw [E 9 (by omega)] at h3; rw [E (42 + k) (by omega)]; exact hr.nu k n h1 h2 h3) (hr.ss.trans (E 9 (by omega)).symm) (fun k n h1 h2 h3 => by rw [E 10 (by omega)] at h3; rw [E (62 + k) (by omega)]; exact hr.tx k n h1 h2 h3) (hr.tl.trans (E 10 (by omega)).symm) (fun k n h1 h2 h3 => by rw [E 11 (by omega)] at h3; rw [E (562 + k) (by omega)]; exact hr.tq k n h1 h2 h3) (hr.ql.trans (E 11 (by omega)).symm) (fun k hk => (hr.fa k hk).trans (E _ (by omega)).symm) (hr.fu.trans (E 12 (by omega)).symm) (hr.fp.trans (E 13 (by omega)).symm)
theorem wJ_e {al al' : Nat → Int32} {wd : Nat → Int64} {P : Int64 → Prop} (hm : mI al wd P) {sh pi : Int32} {wn : Nat → Int32} {te : Nat → Int32} {lo : Nat → Int32} {hi : Nat → Int32} {mt : Int32} {me : Int32} {tt : Int32} {ix : Int32} {ov : Int32} {su : Int32} {wx : Int32} {wy : Int32} {wz : Int32} {wi : Int32} {wa : Int32} (hsh : sh = al 2) (E : ∀ j, (2 ≤ j ∧ j < 9) ∨ (14 ≤ j ∧ j < 28) → al' j = al j) (h : wJ al sh pi wn te lo hi mt me tt ix ov su wx wy wz wi wa) : wJ al' sh pi wn te lo hi mt me tt ix ov su wx wy wz wi wa :=
  wJ_c hm hsh (E 2 (by omega)) (fun j h1 h2 => E j (by omega)) (fun j h1 h2 => E j (by omega)) (fun k h1 _ => E _ (by omega)) h
theorem updL_o {f : Nat → Int64} {k j : Nat} {v : Int64} (h : j ≠ k) : vp_updL f k v j = f j := by unfold vp_updL; rw [if_neg h]
theorem updL_s {f : Nat → Int64} {k : Nat} {v : Int64} : vp_updL f k v k = v := by unfold vp_updL; rw [if_pos rfl]
theorem kR_name {al : Nat → Int32} {wd : Nat → Int64} {na : Int32} {th : Int32} {nw : Nat → Int64} {tw : Nat → Int64} {mo : Nat → Int32} {le : Nat → Int32} {gr : Nat → Int32} {to : Int32} {sh : Int32} {pn : Int32} {pm : Int32} {pt : Int32} {pi : Int32} {pj : Int32} {nu : Nat → Int32} {ss : Int32} {tx : Nat → Int32} {tl : Int32} {tq : Nat → Int32} {ql : Int32} {fa : Nat → Int32} {fu : Int32} {fp : Int32} {a : Nat} {v : Int64} (ha : a < 6) (hr : kR al wd na th nw tw mo le gr to sh pn pm pt pi pj nu ss tx tl tq ql fa fu fp) : kR (upd al 0 (nI (a + 1))) (vp_updL wd a v) (nI (a + 1)) th (vp_updL nw a v) tw mo le gr to sh pn pm pt pi pj nu ss tx tl tq ql fa fu fp := by
  have E : ∀ j, j ≠ 0 → upd al 0 (nI (a + 1)) j = al j := fun j hj => pk_un hj
  exact kR.mk pk_us.symm (hr.th.trans (E 1 (by omega)).symm) (fun k hk => by by_cases h : k = a; (rw [h, updL_s, updL_s]); (rw [updL_o h, updL_o h]; exact hr.nw k hk)) (fun k hk => by rw [updL_o (by omega)]; exact hr.tw k hk) (fun k hk => (hr.mo k hk).trans (E _ (by omega)).symm) (fun k hk => (hr.le k hk).trans (E _ (by omega)).symm) (fun k hk => (hr.gr k hk).trans (E _ (by omega)).symm) (hr.to.trans (E 8 (by omega)).symm) (hr.sh.trans (E 2 (by omega)).symm) (by rw [E 2 (by omega), E 3 (by omega), E 4 (by omega), E 5 (by omega), E 6 (by omega), E 7 (by omega)]; exact hr.pl) (fun k n h1 h2 h3 => by rw [E 9 (by omega)] at h3; rw [E (42 + k) (by omega)]; exact hr.nu k n h1 h2 h3) (hr.ss.trans (E 9 (by omega)).symm) (fun k n h1 h2 h3 => by rw [E 10 (by omega)] at h3; rw [E (62 + k) (by omega)]; exact hr.tx k n h1 h2 h3) (hr.tl.trans (E 10 (by omega)).symm) (fun k n h1 h2 h3 => by rw [E 11 (by omega)] at h3; rw [E (562 + k) (by omega)]; exact hr.tq k n h1 h2 h3) (hr.ql.trans (E 11 (by omega)).symm) (fun k hk => (hr.fa k hk).trans (E _ (by omega)).symm) (hr.fu.trans (E 12 (by omega)).symm) (hr.fp.trans (E 13 (by omega)).symm)
theorem kR_thing {al : Nat → Int32} {wd : Nat → Int64} {na : Int32} {th : Int32} {nw : Nat → Int64} {tw : Nat → Int64} {mo : Nat → Int32} {le : Nat → Int32} {gr : Nat → Int32} {to : Int32} {sh : Int32} {pn : Int32} {pm : Int32} {pt : Int32} {pi : Int32} {pj : Int32} {nu : Nat → Int32} {ss : Int32} {tx : Nat → Int32} {tl : Int32} {tq : Nat → Int32} {ql : Int32} {fa : Nat → Int32} {fu : Int32} {fp : Int32} {b : Nat} {v : Int64} {m : Int32} (hb : b < 6) (hr : kR al wd na th nw tw mo le gr to sh pn pm pt pi pj nu ss tx tl tq ql fa fu fp) : kR (upd (upd al (22 + b) m) 1 (nI (b + 1))) (vp_updL wd (6 + b) v) na (nI (b + 1)) nw (vp_updL tw b v) (upd mo b m) le gr to sh pn pm pt pi pj nu ss tx tl tq ql fa fu fp := by
  have E : ∀ j, j ≠ 1 ∧ j ≠ 22 + b → upd (upd al (22 + b) m) 1 (nI (b + 1)) j = al j := fun j h => by rw [pk_un h.1, pk_un h.2]
  exact kR.mk (hr.na.trans (E 0 (by omega)).symm) pk_us.symm (fun k hk => by rw [updL_o (by omega)]; exact hr.nw k hk) (fun k hk => by by_cases h : k = b; (rw [h, updL_s, updL_s]); (rw [updL_o h, updL_o (by omega)]; exact hr.tw k hk)) (fun k hk => by by_cases h : k = b; (rw [h, pk_us, pk_un (by omega), pk_us]); (rw [pk_un h, E (22 + k) (by omega)]; exact hr.mo k hk)) (fun k hk => (hr.le k hk).trans (E _ (by omega)).symm) (fun k hk => (hr.gr k hk).trans (E _ (by omega)).symm) (hr.to.trans (E 8 (by omega)).symm) (hr.sh.trans (E 2 (by omega)).symm) (by rw [E 2 (by omega), E 3 (by omega), E 4 (by omega), E 5 (by omega), E 6 (by omega), E 7 (by omega)]; exact hr.pl) (fun k n h1 h2 h3 => by rw [E 9 (by omega)] at h3; rw [E (42 + k) (by omega)]; exact hr.nu k n h1 h2 h3) (hr.ss.trans (E 9 (by omega)).symm) (fun k n h1 h2 h3 => by rw [E 10 (by omega)] at h3; rw [E (62 + k) (by omega)]; exact hr.tx k n h1 h2 h3) (hr.tl.trans (E 10 (by omega)).symm) (fun k n h1 h2 h3 => by rw [E 11 (by omega)] at h3; rw [E (562 + k) (by omega)]; exact hr.tq k n h1 h2 h3) (hr.ql.trans (E 11 (by omega)).symm) (fun k hk => (hr.fa k hk).trans (E _ (by omega)).symm) (hr.fu.trans (E 12 (by omega)).symm) (hr.fp.trans (E 13 (by omega)).symm)
theorem mI_sheet {al al' an : Nat → Int32} {wd : Nat → Int64} {P : Int64 → Prop} (hm : mI al wd P) {st : List Nat × List Int32} (hP : shP al al' an st) : mI al' wd P := by
  obtain ⟨p9, pl, p20, pa, pc, pe⟩ := hP
  have E : ∀ j, j ≠ 9 ∧ ¬ (42 ≤ j ∧ j < 62) → al' j = al j := fun j h => pe j h.1 h.2
  exact mI.mk (by rw [E 0 (by omega)]; exact hm.n0) (by rw [E 1 (by omega)]; exact hm.n1) (fun k hk => by rw [E (14 + 2 * k) (by omega), E (15 + 2 * k) (by omega)]; exact hm.sp k hk) (fun k hk => by rw [E 1 (by omega), E (22 + k) (by omega)]; exact hm.mo k hk) (by rw [E 0 (by omega), E 1 (by omega), E 2 (by omega), E 3 (by omega), E 4 (by omega), E 5 (by omega), E 6 (by omega), E 7 (by omega)]; exact hm.pl) (by rw [E 8 (by omega)]; exact hm.wy) ⟨_, p20, p9⟩ (by rw [E 10 (by omega)]; exact hm.s10) (by rw [E 11 (by omega)]; exact hm.s11) (fun k n h1 h2 h3 => by rw [E 11 (by omega)] at h1; rw [E (562 + k) (by omega)]; exact hm.tp k n h1 h2 h3) (fun k n h1 h2 h3 => by rw [E 10 (by omega)] at h1; rw [E (62 + k) (by omega)]; exact hm.tx k n h1 h2 h3) (by rw [E 0 (by omega)]; exact hm.wn) (by rw [E 1 (by omega)]; exact hm.wt) (by rw [E 0 (by omega), E 1 (by omega)]; exact hm.wu)
theorem kR_sheet {al al' : Nat → Int32} {wd : Nat → Int64} {na : Int32} {th : Int32} {nw : Nat → Int64} {tw : Nat → Int64} {mo : Nat → Int32} {le : Nat → Int32} {gr : Nat → Int32} {to : Int32} {sh : Int32} {pn : Int32} {pm : Int32} {pt : Int32} {pi : Int32} {pj : Int32} {nu : Nat → Int32} {ss : Int32} {tx : Nat → Int32} {tl : Int32} {tq : Nat → Int32} {ql : Int32} {fa : Nat → Int32} {fu : Int32} {fp : Int32} {an nu' sa' : Nat → Int32} {ss' : Int32} {st : List Nat × List Int32} (hP : shP al al' an st) (hK : shK nu' sa' ss' st) (hr : kR al wd na th nw tw mo le gr to sh pn pm pt pi pj nu ss tx tl tq ql fa fu fp) : kR al' wd na th nw tw mo le gr to sh pn pm pt pi pj nu' ss' tx tl tq ql fa fu fp := by
  obtain ⟨p9, pl, p20, pa, pc, pe⟩ := hP
  obtain ⟨k9, kl, k20, ka, kc⟩ := hK
  have E : ∀ j, j ≠ 9 ∧ ¬ (42 ≤ j ∧ j < 62) → al' j = al j := fun j h => pe j h.1 h.2
  exact kR.mk (hr.na.trans (E 0 (by omega)).symm) (hr.th.trans (E 1 (by omega)).symm) hr.nw hr.tw (fun k hk => (hr.mo k hk).trans (E _ (by omega)).symm) (fun k hk => (hr.le k hk).trans (E _ (by omega)).symm) (fun k hk => (hr.gr k hk).trans (E _ (by omega)).symm) (hr.to.trans (E 8 (by omega)).symm) (hr.sh.trans (E 2 (by omega)).symm) (by rw [E 2 (by omega), E 3 (by omega), E 4 (by omega), E 5 (by omega), E 6 (by omega), E 7 (by omega)]; exact hr.pl) (fun k n h1 h2 h3 => by
    rw [p9, nI_eq (by omega) (by omega)] at h3
    have hlt : k < st.1.length := by omega
    rw [kc k _ (List.getElem?_eq_getElem hlt), pc k _ (List.getElem?_eq_getElem hlt)]) (k9.trans p9.symm) (fun k n h1 h2 h3 => by rw [E 10 (by omega)] at h3; rw [E (62 + k) (by omega)]; exact hr.tx k n h1 h2 h3) (hr.tl.trans (E 10 (by omega)).symm) (fun k n h1 h2 h3 => by rw [E 11 (by omega)] at h3; rw [E (562 + k) (by omega)]; exact hr.tq k n h1 h2 h3) (hr.ql.trans (E 11 (by omega)).symm) (fun k hk => (hr.fa k hk).trans (E _ (by omega)).symm) (hr.fu.trans (E 12 (by omega)).symm) (hr.fp.trans (E 13 (by omega)).symm)
theorem dgs_256 : ∀ (f n : Nat), ∀ c ∈ dgs f n, c < 256
  | 0, _, c, h => by simp [dgs] at h
  | f + 1, n, c, h => by
    unfold dgs at h
    split at h
    · simp at h
    · rw [List.mem_append] at h
      rcases h with h | h
      · exact dgs_256 f _ c h
      · rw [List.mem_singleton] at h; omega
theorem lsW_256 (v : Int64) : ∀ c ∈ lsW v, c < 256 := dgs_256 8 _
theorem dg_256 {v : Nat} (h : v < 100) : ∀ c ∈ dg v, c < 256 := by
  intro c hc
  unfold dg at hc
  split at hc
  · simp at hc; omega
  · simp at hc; omega
theorem byt_256 : ∀ k, k < 16 → ∀ c ∈ a_byt.getD k [], c.toNatClampNeg < 256 := by decide +kernel
theorem exF_256 {k : Nat} {N O T X : List Nat} (hk : k < 16) (hN : ∀ c ∈ N, c < 256) (hO : ∀ c ∈ O, c < 256) (hT : ∀ c ∈ T, c < 256) (hX : ∀ c ∈ X, c < 256) : ∀ c ∈ exF (a_byt.getD k []) N O T X, c < 256 := by
  intro c hc
  unfold exF at hc
  rw [List.mem_flatMap] at hc
  obtain ⟨x, hx, hc⟩ := hc
  have h0 := byt_256 k hk x hx
  split at hc
  · exact hN c hc
  · split at hc
    · exact hO c hc
    · split at hc
      · exact hT c hc
      · split at hc
        · exact hX c hc
        · rw [List.mem_singleton] at hc; omega
theorem sep_256 (t : List Nat) : ∀ c ∈ sep t, c < 256 := by
  intro c hc
  unfold sep at hc
  split at hc <;> simp at hc <;> omega
theorem wTx_256 {id : Bool} {pl : Nat} {A : List Nat} {S : Nat → List Nat} (hA : ∀ c ∈ A, c < 256) (hS : ∀ i, ∀ c ∈ S i, c < 256) : ∀ i, ∀ c ∈ wTx id pl A S i, c < 256
  | 0, c, h => by simp [wTx] at h
  | i + 1, c, h => by
    rw [wTx_s] at h
    have h0 := wTx_256 (id := id) (pl := pl) hA hS i
    split at h
    · simp only [List.mem_append] at h
      rcases h with (h | h | h) | h | h
      · exact h0 c h
      · exact sep_256 _ c h
      · exact hA c h
      · exact sep_256 _ c h
      · exact hS i c h
    · simp only [List.mem_append] at h
      rcases h with h | h | h
      · exact h0 c h
      · exact sep_256 _ c h
      · exact hS i c h
theorem v_text_256 {al : Nat → Int32} {wd : Nat → Int64} {tu : Bool} {plc : Int32} {x y z i0 : Nat} (h8 : zN (al 2) < 8) (hx : x < 100) (hy : y < 100) (hz : z < 100) (hi : i0 < 100) : ∀ c ∈ v_text al wd tu plc x y z i0, c < 256 := by
  unfold v_text
  refine wTx_256 ?_ (fun i => ?_) _
  · exact exF_256 (by omega) (lsW_256 _) (fun c h => by simp at h) (lsW_256 _) (dg_256 hi)
  · unfold v_S
    split
    · rename_i h
      unfold wSt
      have hJ := wj_le (tu := tu) h
      obtain ⟨_, _, hk⟩ := kd_b _ h8 (wj tu i) (by omega)
      refine exF_256 (by omega) (lsW_256 _) (lsW_256 _) (lsW_256 _) (dg_256 ?_)
      unfold nbr
      split <;> split <;> first | omega | (split <;> omega)
    · intro c hc; simp at hc
theorem mI_write {al : Nat → Int32} {wd : Nat → Int64} {P : Int64 → Prop} (hm : mI al wd P) {t : List Nat} (hl : t.length ≤ 400) (h256 : ∀ c ∈ t, c < 256) : mI (tA al t) wd P := by
  have E : ∀ j, j ≠ 10 ∧ ¬ (62 ≤ j ∧ j < 562) → tA al t j = al j := fun j h => by unfold tA; rw [if_neg (by omega), if_neg h.1]
  have h10 : tA al t 10 = nI t.length := by unfold tA; rw [if_neg (by omega), if_pos rfl]
  exact mI.mk (by rw [E 0 (by omega)]; exact hm.n0) (by rw [E 1 (by omega)]; exact hm.n1) (fun k hk => by rw [E (14 + 2 * k) (by omega), E (15 + 2 * k) (by omega)]; exact hm.sp k hk) (fun k hk => by rw [E 1 (by omega), E (22 + k) (by omega)]; exact hm.mo k hk) (by rw [E 0 (by omega), E 1 (by omega), E 2 (by omega), E 3 (by omega), E 4 (by omega), E 5 (by omega), E 6 (by omega), E 7 (by omega)]; exact hm.pl) (by rw [E 8 (by omega)]; exact hm.wy) (by rw [E 9 (by omega)]; exact hm.s9) ⟨_, hl, h10⟩ (by rw [E 11 (by omega)]; exact hm.s11) (fun k n h1 h2 h3 => by rw [E 11 (by omega)] at h1; rw [E (562 + k) (by omega)]; exact hm.tp k n h1 h2 h3) (fun k n h1 h2 h3 => by
    rw [h10, nI_eq (by omega) (by omega)] at h1
    have hk : k < t.length := by omega
    refine ⟨t.getD k 0, ?_, ?_⟩
    · rw [List.getD_eq_getElem?_getD, List.getElem?_eq_getElem hk, Option.getD_some]; exact h256 _ (List.getElem_mem hk)
    · unfold tA; rw [if_pos (by omega), Nat.add_sub_cancel_left]) (by rw [E 0 (by omega)]; exact hm.wn) (by rw [E 1 (by omega)]; exact hm.wt) (by rw [E 0 (by omega), E 1 (by omega)]; exact hm.wu)
theorem kR_write {al : Nat → Int32} {wd : Nat → Int64} {na : Int32} {th : Int32} {nw : Nat → Int64} {tw : Nat → Int64} {mo : Nat → Int32} {le : Nat → Int32} {gr : Nat → Int32} {to : Int32} {sh : Int32} {pn : Int32} {pm : Int32} {pt : Int32} {pi : Int32} {pj : Int32} {nu : Nat → Int32} {ss : Int32} {tx : Nat → Int32} {tl : Int32} {tq : Nat → Int32} {ql : Int32} {fa : Nat → Int32} {fu : Int32} {fp : Int32} {t : List Nat} (hl : t.length ≤ 400) (hr : kR al wd na th nw tw mo le gr to sh pn pm pt pi pj nu ss tx tl tq ql fa fu fp) : kR (tA al t) wd na th nw tw mo le gr to sh pn pm pt pi pj nu ss (tX tx t) (nI t.length) tq ql fa fu fp := by
  have E : ∀ j, j ≠ 10 ∧ ¬ (62 ≤ j ∧ j < 562) → tA al t j = al j := fun j h => by unfold tA; rw [if_neg (by omega), if_neg h.1]
  have h10 : tA al t 10 = nI t.length := by unfold tA; rw [if_neg (by omega), if_pos rfl]
  exact kR.mk (hr.na.trans (E 0 (by omega)).symm) (hr.th.trans (E 1 (by omega)).symm) hr.nw hr.tw (fun k hk => (hr.mo k hk).trans (E _ (by omega)).symm) (fun k hk => (hr.le k hk).trans (E _ (by omega)).symm) (fun k hk => (hr.gr k hk).trans (E _ (by omega)).symm) (hr.to.trans (E 8 (by omega)).symm) (hr.sh.trans (E 2 (by omega)).symm) (by rw [E 2 (by omega), E 3 (by omega), E 4 (by omega), E 5 (by omega), E 6 (by omega), E 7 (by omega)]; exact hr.pl) (fun k n h1 h2 h3 => by rw [E 9 (by omega)] at h3; rw [E (42 + k) (by omega)]; exact hr.nu k n h1 h2 h3) (hr.ss.trans (E 9 (by omega)).symm) (fun k n h1 h2 h3 => by
    rw [h10, nI_eq (by omega) (by omega)] at h3
    unfold tX tA
    rw [if_pos (by omega), if_pos (by omega), Nat.add_sub_cancel_left]) h10.symm (fun k n h1 h2 h3 => by rw [E 11 (by omega)] at h3; rw [E (562 + k) (by omega)]; exact hr.tq k n h1 h2 h3) (hr.ql.trans (E 11 (by omega)).symm) (fun k hk => (hr.fa k hk).trans (E _ (by omega)).symm) (hr.fu.trans (E 12 (by omega)).symm) (hr.fp.trans (E 13 (by omega)).symm)
theorem tkA_o {al : Nat → Int32} {n : Nat} (hn : n ≤ 400) : ∀ j, j ≠ 11 ∧ ¬ (562 ≤ j ∧ j < 962) → upd (tkA al n) 11 (nI n) j = al j := fun j h => by rw [pk_un h.1]; unfold tkA; rw [if_neg (by omega)]
theorem mI_take {al : Nat → Int32} {wd : Nat → Int64} {P : Int64 → Prop} (hm : mI al wd P) {n : Nat} (hn : n ≤ 400) (e10 : al 10 = nI n) : mI (upd (tkA al n) 11 (nI n)) wd P := by
  have E := tkA_o (al := al) hn
  have h11 : upd (tkA al n) 11 (nI n) 11 = nI n := pk_us
  exact mI.mk (by rw [E 0 (by omega)]; exact hm.n0) (by rw [E 1 (by omega)]; exact hm.n1) (fun k hk => by rw [E (14 + 2 * k) (by omega), E (15 + 2 * k) (by omega)]; exact hm.sp k hk) (fun k hk => by rw [E 1 (by omega), E (22 + k) (by omega)]; exact hm.mo k hk) (by rw [E 0 (by omega), E 1 (by omega), E 2 (by omega), E 3 (by omega), E 4 (by omega), E 5 (by omega), E 6 (by omega), E 7 (by omega)]; exact hm.pl) (by rw [E 8 (by omega)]; exact hm.wy) (by rw [E 9 (by omega)]; exact hm.s9) (by rw [E 10 (by omega)]; exact hm.s10) ⟨n, hn, h11⟩ (fun k m h1 h2 h3 => by
    rw [h11, nI_eq (by omega) (by omega)] at h1
    subst h1
    obtain ⟨c, q1, q2⟩ := hm.tx k n e10 h2 hn
    refine ⟨c, q1, ?_⟩
    rw [pk_un (by omega)]; unfold tkA; rw [if_pos (by omega), Nat.add_sub_cancel_left]; exact q2) (fun k n h1 h2 h3 => by rw [E 10 (by omega)] at h1; rw [E (62 + k) (by omega)]; exact hm.tx k n h1 h2 h3) (by rw [E 0 (by omega)]; exact hm.wn) (by rw [E 1 (by omega)]; exact hm.wt) (by rw [E 0 (by omega), E 1 (by omega)]; exact hm.wu)
theorem kR_take {al : Nat → Int32} {wd : Nat → Int64} {na : Int32} {th : Int32} {nw : Nat → Int64} {tw : Nat → Int64} {mo : Nat → Int32} {le : Nat → Int32} {gr : Nat → Int32} {to : Int32} {sh : Int32} {pn : Int32} {pm : Int32} {pt : Int32} {pi : Int32} {pj : Int32} {nu : Nat → Int32} {ss : Int32} {tx : Nat → Int32} {tl : Int32} {tq : Nat → Int32} {ql : Int32} {fa : Nat → Int32} {fu : Int32} {fp : Int32} {n : Nat} (hn : n ≤ 400) (e10 : al 10 = nI n) (hr : kR al wd na th nw tw mo le gr to sh pn pm pt pi pj nu ss tx tl tq ql fa fu fp) : kR (upd (tkA al n) 11 (nI n)) wd na th nw tw mo le gr to sh pn pm pt pi pj nu ss tx tl (va_cpy tx tq 0 0 400) (nI n) fa fu fp := by
  have E := tkA_o (al := al) hn
  have h11 : upd (tkA al n) 11 (nI n) 11 = nI n := pk_us
  exact kR.mk (hr.na.trans (E 0 (by omega)).symm) (hr.th.trans (E 1 (by omega)).symm) hr.nw hr.tw (fun k hk => (hr.mo k hk).trans (E _ (by omega)).symm) (fun k hk => (hr.le k hk).trans (E _ (by omega)).symm) (fun k hk => (hr.gr k hk).trans (E _ (by omega)).symm) (hr.to.trans (E 8 (by omega)).symm) (hr.sh.trans (E 2 (by omega)).symm) (by rw [E 2 (by omega), E 3 (by omega), E 4 (by omega), E 5 (by omega), E 6 (by omega), E 7 (by omega)]; exact hr.pl) (fun k n h1 h2 h3 => by rw [E 9 (by omega)] at h3; rw [E (42 + k) (by omega)]; exact hr.nu k n h1 h2 h3) (hr.ss.trans (E 9 (by omega)).symm) (fun k n h1 h2 h3 => by rw [E 10 (by omega)] at h3; rw [E (62 + k) (by omega)]; exact hr.tx k n h1 h2 h3) (hr.tl.trans (E 10 (by omega)).symm) (fun k m h1 h2 h3 => by
    rw [h11, nI_eq (by omega) (by omega)] at h3
    subst h3
    have hc : va_cpy tx tq 0 0 400 k = tx k := by
      unfold va_cpy
      simp only [Nat.zero_le, Nat.zero_add, Nat.sub_zero, true_and]
      rw [if_pos (by omega)]
    rw [hc, pk_un (by omega)]; unfold tkA; rw [if_pos (by omega), Nat.add_sub_cancel_left]; exact hr.tx k n h1 hn e10) h11.symm (fun k hk => (hr.fa k hk).trans (E _ (by omega)).symm) (hr.fu.trans (E 12 (by omega)).symm) (hr.fp.trans (E 13 (by omega)).symm)
theorem fdA_o {al : Nat → Int32} {n : Nat} {F : Nat → Int32} (hn : n + 20 ≤ 400) : ∀ j, j ≠ 11 ∧ ¬ (562 ≤ j ∧ j < 962) → fdA al n F 20 j = al j := fun j h => by unfold fdA; rw [if_neg (by omega), if_neg h.1]
theorem fdA_11 {al : Nat → Int32} {n : Nat} {F : Nat → Int32} : fdA al n F 20 11 = nI (n + 20) := by unfold fdA; rw [if_neg (by omega), if_pos rfl]
theorem mI_feed {al : Nat → Int32} {wd : Nat → Int64} {P : Int64 → Prop} (hm : mI al wd P) {n : Nat} {a b c d e : Int32} (hn : n + 20 ≤ 400) (e11 : al 11 = nI n) : mI (fdA al n (fdB a b c d e) 20) wd P := by
  have E := fdA_o (al := al) (F := fdB a b c d e) hn
  have h11 := fdA_11 (al := al) (n := n) (F := fdB a b c d e)
  exact mI.mk (by rw [E 0 (by omega)]; exact hm.n0) (by rw [E 1 (by omega)]; exact hm.n1) (fun k hk => by rw [E (14 + 2 * k) (by omega), E (15 + 2 * k) (by omega)]; exact hm.sp k hk) (fun k hk => by rw [E 1 (by omega), E (22 + k) (by omega)]; exact hm.mo k hk) (by rw [E 0 (by omega), E 1 (by omega), E 2 (by omega), E 3 (by omega), E 4 (by omega), E 5 (by omega), E 6 (by omega), E 7 (by omega)]; exact hm.pl) (by rw [E 8 (by omega)]; exact hm.wy) (by rw [E 9 (by omega)]; exact hm.s9) (by rw [E 10 (by omega)]; exact hm.s10) ⟨n + 20, hn, h11⟩ (fun k m h1 h2 h3 => by
    rw [h11, nI_eq (by omega) (by omega)] at h1
    subst h1
    by_cases hk : n ≤ k
    · obtain ⟨c', q1, q2⟩ := fdB_n (a := a) (b := b) (c := c) (d := d) (e := e) (i := k - n)
      refine ⟨c', q1, ?_⟩
      unfold fdA; rw [if_pos (by omega), ← q2]; congr 1; omega
    · obtain ⟨c', q1, q2⟩ := hm.tp k n e11 (by omega) (by omega)
      refine ⟨c', q1, ?_⟩
      unfold fdA; rw [if_neg (by omega), if_neg (by omega)]; exact q2) (fun k n h1 h2 h3 => by rw [E 10 (by omega)] at h1; rw [E (62 + k) (by omega)]; exact hm.tx k n h1 h2 h3) (by rw [E 0 (by omega)]; exact hm.wn) (by rw [E 1 (by omega)]; exact hm.wt) (by rw [E 0 (by omega), E 1 (by omega)]; exact hm.wu)
theorem kR_feed {al : Nat → Int32} {wd : Nat → Int64} {na : Int32} {th : Int32} {nw : Nat → Int64} {tw : Nat → Int64} {mo : Nat → Int32} {le : Nat → Int32} {gr : Nat → Int32} {to : Int32} {sh : Int32} {pn : Int32} {pm : Int32} {pt : Int32} {pi : Int32} {pj : Int32} {nu : Nat → Int32} {ss : Int32} {tx : Nat → Int32} {tl : Int32} {tq : Nat → Int32} {ql : Int32} {fa : Nat → Int32} {fu : Int32} {fp : Int32} {n : Nat} {F : Nat → Int32} (hn : n + 20 ≤ 400) (e11 : al 11 = nI n) (hr : kR al wd na th nw tw mo le gr to sh pn pm pt pi pj nu ss tx tl tq ql fa fu fp) : kR (fdA al n F 20) wd na th nw tw mo le gr to sh pn pm pt pi pj nu ss tx tl (fdQ tq n F 20) (nI (n + 20)) fa fu fp := by
  have E := fdA_o (al := al) (F := F) hn
  have h11 := fdA_11 (al := al) (n := n) (F := F)
  exact kR.mk (hr.na.trans (E 0 (by omega)).symm) (hr.th.trans (E 1 (by omega)).symm) hr.nw hr.tw (fun k hk => (hr.mo k hk).trans (E _ (by omega)).symm) (fun k hk => (hr.le k hk).trans (E _ (by omega)).symm) (fun k hk => (hr.gr k hk).trans (E _ (by omega)).symm) (hr.to.trans (E 8 (by omega)).symm) (hr.sh.trans (E 2 (by omega)).symm) (by rw [E 2 (by omega), E 3 (by omega), E 4 (by omega), E 5 (by omega), E 6 (by omega), E 7 (by omega)]; exact hr.pl) (fun k n h1 h2 h3 => by rw [E 9 (by omega)] at h3; rw [E (42 + k) (by omega)]; exact hr.nu k n h1 h2 h3) (hr.ss.trans (E 9 (by omega)).symm) (fun k n h1 h2 h3 => by rw [E 10 (by omega)] at h3; rw [E (62 + k) (by omega)]; exact hr.tx k n h1 h2 h3) (hr.tl.trans (E 10 (by omega)).symm) (fun k m h1 h2 h3 => by
    rw [h11, nI_eq (by omega) (by omega)] at h3
    subst h3
    unfold fdQ fdA
    by_cases hk : n ≤ k
    · rw [if_pos (by omega), if_pos (by omega)]; congr 1; omega
    · rw [if_neg (by omega), if_neg (by omega), if_neg (by omega)]; exact hr.tq k n (by omega) (by omega) e11) h11.symm (fun k hk => (hr.fa k hk).trans (E _ (by omega)).symm) (hr.fu.trans (E 12 (by omega)).symm) (hr.fp.trans (E 13 (by omega)).symm)
theorem end_n {al : Nat → Int32} {wd : Nat → Int64} {P : Int64 → Prop} (hm : mI al wd P) {w : Int32} (h : ¬ (w < 0 ∨ al 11 < w)) : ∃ k n : Nat, k ≤ n ∧ n ≤ 400 ∧ al 11 = nI n ∧ w = nI k := by
  obtain ⟨n, hn, e⟩ := hm.s11
  obtain ⟨k, hk, rfl⟩ := nI_of (fun q => h (Or.inl q))
  refine ⟨k, n, ?_, hn, e, rfl⟩
  have : ¬ nI n < nI k := fun q => h (Or.inr (e ▸ q))
  exact (nI_leI hk (by omega)).mp (Int32.not_lt.mp this)
theorem mI_end {al : Nat → Int32} {wd : Nat → Int64} {P : Int64 → Prop} (hm : mI al wd P) {w : Int32} (h : ¬ (w < 0 ∨ al 11 < w)) : mI (upd al 11 w) wd P := by
  obtain ⟨k, n, hk, hn, e11, rfl⟩ := end_n hm h
  have E : ∀ j, j ≠ 11 → upd al 11 (nI k) j = al j := fun j h => pk_un h
  have h11 : upd al 11 (nI k) 11 = nI k := pk_us
  exact mI.mk (by rw [E 0 (by omega)]; exact hm.n0) (by rw [E 1 (by omega)]; exact hm.n1) (fun k hk => by rw [E (14 + 2 * k) (by omega), E (15 + 2 * k) (by omega)]; exact hm.sp k hk) (fun k hk => by rw [E 1 (by omega), E (22 + k) (by omega)]; exact hm.mo k hk) (by rw [E 0 (by omega), E 1 (by omega), E 2 (by omega), E 3 (by omega), E 4 (by omega), E 5 (by omega), E 6 (by omega), E 7 (by omega)]; exact hm.pl) (by rw [E 8 (by omega)]; exact hm.wy) (by rw [E 9 (by omega)]; exact hm.s9) (by rw [E 10 (by omega)]; exact hm.s10) ⟨k, by omega, h11⟩ (fun i m h1 h2 h3 => by
    rw [h11, nI_eq (by omega) (by omega)] at h1
    rw [E (562 + i) (by omega)]
    exact hm.tp i n e11 (by omega) hn) (fun k n h1 h2 h3 => by rw [E 10 (by omega)] at h1; rw [E (62 + k) (by omega)]; exact hm.tx k n h1 h2 h3) (by rw [E 0 (by omega)]; exact hm.wn) (by rw [E 1 (by omega)]; exact hm.wt) (by rw [E 0 (by omega), E 1 (by omega)]; exact hm.wu)
theorem kR_end {al : Nat → Int32} {wd : Nat → Int64} {na : Int32} {th : Int32} {nw : Nat → Int64} {tw : Nat → Int64} {mo : Nat → Int32} {le : Nat → Int32} {gr : Nat → Int32} {to : Int32} {sh : Int32} {pn : Int32} {pm : Int32} {pt : Int32} {pi : Int32} {pj : Int32} {nu : Nat → Int32} {ss : Int32} {tx : Nat → Int32} {tl : Int32} {tq : Nat → Int32} {ql : Int32} {fa : Nat → Int32} {fu : Int32} {fp : Int32} {P : Int64 → Prop} (hm : mI al wd P) {w : Int32} (h : ¬ (w < 0 ∨ al 11 < w)) (hr : kR al wd na th nw tw mo le gr to sh pn pm pt pi pj nu ss tx tl tq ql fa fu fp) : kR (upd al 11 w) wd na th nw tw mo le gr to sh pn pm pt pi pj nu ss tx tl tq w fa fu fp := by
  obtain ⟨k, n, hk, hn, e11, rfl⟩ := end_n hm h
  have E : ∀ j, j ≠ 11 → upd al 11 (nI k) j = al j := fun j h => pk_un h
  have h11 : upd al 11 (nI k) 11 = nI k := pk_us
  exact kR.mk (hr.na.trans (E 0 (by omega)).symm) (hr.th.trans (E 1 (by omega)).symm) hr.nw hr.tw (fun k hk => (hr.mo k hk).trans (E _ (by omega)).symm) (fun k hk => (hr.le k hk).trans (E _ (by omega)).symm) (fun k hk => (hr.gr k hk).trans (E _ (by omega)).symm) (hr.to.trans (E 8 (by omega)).symm) (hr.sh.trans (E 2 (by omega)).symm) (by rw [E 2 (by omega), E 3 (by omega), E 4 (by omega), E 5 (by omega), E 6 (by omega), E 7 (by omega)]; exact hr.pl) (fun k n h1 h2 h3 => by rw [E 9 (by omega)] at h3; rw [E (42 + k) (by omega)]; exact hr.nu k n h1 h2 h3) (hr.ss.trans (E 9 (by omega)).symm) (fun k n h1 h2 h3 => by rw [E 10 (by omega)] at h3; rw [E (62 + k) (by omega)]; exact hr.tx k n h1 h2 h3) (hr.tl.trans (E 10 (by omega)).symm) (fun i m h1 h2 h3 => by
    rw [h11, nI_eq (by omega) (by omega)] at h3
    rw [E (562 + i) (by omega)]
    exact hr.tq i n (by omega) hn e11) h11.symm (fun k hk => (hr.fa k hk).trans (E _ (by omega)).symm) (hr.fu.trans (E 12 (by omega)).symm) (hr.fp.trans (E 13 (by omega)).symm)
theorem rdA_o {al : Nat → Int32} {u p : Int32} {f : Option (Nat → Int32)} : ∀ j, ¬ (11 ≤ j ∧ j ≤ 13) ∧ ¬ (30 ≤ j ∧ j ≤ 40) → rdA al u p f j = al j := fun j h => by
  unfold rdA
  rw [if_neg (by omega), if_neg (by omega), if_neg (by omega)]
  cases f with
  | none => rfl
  | some V => show gA al V j = _; unfold gA; rw [if_neg h.2]
theorem mI_read {al : Nat → Int32} {wd : Nat → Int64} {P : Int64 → Prop} (hm : mI al wd P) {u p : Int32} {f : Option (Nat → Int32)} : mI (rdA al u p f) wd P := by
  have E := rdA_o (al := al) (u := u) (p := p) (f := f)
  have h11 : rdA al u p f 11 = nI 0 := rfl
  exact mI.mk (by rw [E 0 (by omega)]; exact hm.n0) (by rw [E 1 (by omega)]; exact hm.n1) (fun k hk => by rw [E (14 + 2 * k) (by omega), E (15 + 2 * k) (by omega)]; exact hm.sp k hk) (fun k hk => by rw [E 1 (by omega), E (22 + k) (by omega)]; exact hm.mo k hk) (by rw [E 0 (by omega), E 1 (by omega), E 2 (by omega), E 3 (by omega), E 4 (by omega), E 5 (by omega), E 6 (by omega), E 7 (by omega)]; exact hm.pl) (by rw [E 8 (by omega)]; exact hm.wy) (by rw [E 9 (by omega)]; exact hm.s9) (by rw [E 10 (by omega)]; exact hm.s10) ⟨0, by omega, h11⟩ (fun i m h1 h2 h3 => by
    rw [h11, nI_eq (by omega) (by omega)] at h1
    omega) (fun k n h1 h2 h3 => by rw [E 10 (by omega)] at h1; rw [E (62 + k) (by omega)]; exact hm.tx k n h1 h2 h3) (by rw [E 0 (by omega)]; exact hm.wn) (by rw [E 1 (by omega)]; exact hm.wt) (by rw [E 0 (by omega), E 1 (by omega)]; exact hm.wu)
theorem kR_read {al : Nat → Int32} {wd : Nat → Int64} {na : Int32} {th : Int32} {nw : Nat → Int64} {tw : Nat → Int64} {mo : Nat → Int32} {le : Nat → Int32} {gr : Nat → Int32} {to : Int32} {sh : Int32} {pn : Int32} {pm : Int32} {pt : Int32} {pi : Int32} {pj : Int32} {nu : Nat → Int32} {ss : Int32} {tx : Nat → Int32} {tl : Int32} {tq : Nat → Int32} {ql : Int32} {fa : Nat → Int32} {fu : Int32} {fp : Int32} {u p : Int32} {f : Option (Nat → Int32)} {fa' : Nat → Int32} (hf : ∀ i, i < 11 → fa' i = match f with | none => fa i | some V => V i) (hr : kR al wd na th nw tw mo le gr to sh pn pm pt pi pj nu ss tx tl tq ql fa fu fp) : kR (rdA al u p f) wd na th nw tw mo le gr to sh pn pm pt pi pj nu ss tx tl tq 0 fa' u p := by
  have E := rdA_o (al := al) (u := u) (p := p) (f := f)
  have h11 : rdA al u p f 11 = nI 0 := rfl
  exact kR.mk (hr.na.trans (E 0 (by omega)).symm) (hr.th.trans (E 1 (by omega)).symm) hr.nw hr.tw (fun k hk => (hr.mo k hk).trans (E _ (by omega)).symm) (fun k hk => (hr.le k hk).trans (E _ (by omega)).symm) (fun k hk => (hr.gr k hk).trans (E _ (by omega)).symm) (hr.to.trans (E 8 (by omega)).symm) (hr.sh.trans (E 2 (by omega)).symm) (by rw [E 2 (by omega), E 3 (by omega), E 4 (by omega), E 5 (by omega), E 6 (by omega), E 7 (by omega)]; exact hr.pl) (fun k n h1 h2 h3 => by rw [E 9 (by omega)] at h3; rw [E (42 + k) (by omega)]; exact hr.nu k n h1 h2 h3) (hr.ss.trans (E 9 (by omega)).symm) (fun k n h1 h2 h3 => by rw [E 10 (by omega)] at h3; rw [E (62 + k) (by omega)]; exact hr.tx k n h1 h2 h3) (hr.tl.trans (E 10 (by omega)).symm) (fun i m h1 h2 h3 => by
    rw [h11, nI_eq (by omega) (by omega)] at h3
    omega) rfl (fun k hk => by
    rw [hf k hk]
    unfold rdA
    rw [if_neg (by omega), if_neg (by omega), if_neg (by omega)]
    cases f with
    | none => exact hr.fa k hk
    | some V => show V k = gA al V (30 + k); unfold gA; rw [if_pos (by omega), Nat.add_sub_cancel_left]) rfl rfl
