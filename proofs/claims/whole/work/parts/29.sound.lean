section SF
variable {p : Program} {l : Launch} {e : Env} {R : Room} {s : State} {m : MethodId} {args : Array Value} {below : List Frame} {meth : Method} {c : Code} {Q : State → Prop} {G : aG} {y : aM} {n0 s0 d : Nat} {C : aM → List Value → aH → Option aR}
theorem s_loadR {i n pc : Nat} {lv : List (Option Value)} {st : List Value} {h : aH} {t : aS} (e1 : a_lod i n pc a_isR lv st h = some (.inl t))
    (hw : ∀ (x : Nat) (H : Heap) (locs : List Loc) (ls : Array Slot) (cells slots : Nat), ls[i]? = some (.val (.ref x)) → W p l e R s m args below meth c H locs cells slots Q (F0 m (pc + n) ls (.ref x :: st.map (s_v G))) → W p l e R s m args below meth c H locs cells slots Q (F0 m pc ls (st.map (s_v G))))
    (hw2 : ∀ (H : Heap) (locs : List Loc) (ls : Array Slot) (cells slots : Nat), ls[i]? = some (.val .null) → W p l e R s m args below meth c H locs cells slots Q (F0 m (pc + n) ls (.null :: st.map (s_v G))) → W p l e R s m args below meth c H locs cells slots Q (F0 m pc ls (st.map (s_v G))))
    (k : s_W p l e R s m args below meth c Q G y n0 s0 t) : s_W p l e R s m args below meth c Q G y n0 s0 (pc, lv, st, h) := by
  refine s_load e1 (fun v hv H locs ls cells slots h1 h2 => ?_) k
  cases v with
  | ref x => exact hw _ H locs ls cells slots h1 h2
  | null => exact hw2 H locs ls cells slots h1 h2
  | _ => cases hv
theorem s_storeR {i n pc : Nat} {lv : List (Option Value)} {st : List Value} {h : aH} {t : aS} (e1 : a_sto i n pc a_isR lv st h = some (.inl t))
    (hw : ∀ (x : Nat) (st' : List Value) (H : Heap) (locs : List Loc) (ls : Array Slot) (cells slots : Nat), lv_has ls y.2.2.2.1 (s_li G lv) → i < y.2.2.2.1 → (∀ ls' : Array Slot, lv_has ls' y.2.2.2.1 ((i, .ref x) :: (s_li G lv).filter (fun q => !(q.1 == i) && !(q.1 + 1 == i && q.2.category == 2))) → W p l e R s m args below meth c H locs cells slots Q (F0 m (pc + n) ls' (st'.map (s_v G)))) → W p l e R s m args below meth c H locs cells slots Q (F0 m pc ls (.ref x :: st'.map (s_v G))))
    (hw2 : ∀ (st' : List Value) (H : Heap) (locs : List Loc) (ls : Array Slot) (cells slots : Nat), lv_has ls y.2.2.2.1 (s_li G lv) → i < y.2.2.2.1 → (∀ ls' : Array Slot, lv_has ls' y.2.2.2.1 ((i, .null) :: (s_li G lv).filter (fun q => !(q.1 == i) && !(q.1 + 1 == i && q.2.category == 2))) → W p l e R s m args below meth c H locs cells slots Q (F0 m (pc + n) ls' (st'.map (s_v G)))) → W p l e R s m args below meth c H locs cells slots Q (F0 m pc ls (.null :: st'.map (s_v G))))
    (k : s_W p l e R s m args below meth c Q G y n0 s0 t) : s_W p l e R s m args below meth c Q G y n0 s0 (pc, lv, st, h) := by
  refine s_store e1 (fun v st' hv H locs ls cells slots h1 h2 h3 => ?_) k
  cases v with
  | ref x => exact hw _ st' H locs ls cells slots h1 h2 h3
  | null => exact hw2 st' H locs ls cells slots h1 h2 h3
  | _ => cases hv
set_option maxHeartbeats 8000000 in
theorem s_i (cx : s_cx p s m args meth c G y) (hC : s_ok l G d C) (hRf : d + 1 ≤ R.frames ∧ 37 * (d + 1) ≤ R.locals) {i : Instr} {n pc : Nat} {lv : List (Option Value)} {st : List Value} {h : aH} {t : aS} (hd : decode y.2.2.1 pc = .ok (i, n)) (e1 : a_i C y i n pc lv st h = some (.inl t))
    (hR : t.2.2.2.1 - n0 ≤ R.cells ∧ t.2.2.2.2.1 - s0 ≤ R.slots)
    (kk : s_W p l e R s m args below meth c Q G y n0 s0 t) : s_W p l e R s m args below meth c Q G y n0 s0 (pc, lv, st, h) := by
  have hx := cx.1
  have hb := cx.2.1
  cases i
  case iconst k => obtain ⟨rfl, e2⟩ := a_w_n e1; cases a_nx_inv e2; exact s_keep (fun H locs ls cells slots k => lv_iconst hx hb hd rfl k) kk
  case bipush k => obtain ⟨rfl, e2⟩ := a_w_n e1; cases a_nx_inv e2; exact s_keep (fun H locs ls cells slots k => lv_bipush hx hb hd rfl k) kk
  case sipush k => obtain ⟨rfl, e2⟩ := a_w_n e1; cases a_nx_inv e2; exact s_keep (fun H locs ls cells slots k => lv_sipush hx hb hd rfl k) kk
  case lconst k => obtain ⟨rfl, e2⟩ := a_w_n e1; cases a_nx_inv e2; exact s_keep (fun H locs ls cells slots k => lv_lconst hx hb hd rfl k) kk
  case aconst_null => obtain ⟨rfl, e2⟩ := a_w_n e1; cases a_nx_inv e2; exact s_keep (fun H locs ls cells slots k => lv_null hx hb hd k) kk
  case iload_n k =>
    obtain ⟨rfl, e2⟩ := a_w_n e1
    exact s_load e2 (fun v hv H locs ls cells slots h1 h2 => by cases v <;> first | (cases hv; done) | exact lv_iload_n hx hb hd rfl h1 h2) kk
  case iload k =>
    obtain ⟨rfl, e2⟩ := a_w_n e1
    exact s_load e2 (fun v hv H locs ls cells slots h1 h2 => by cases v <;> first | (cases hv; done) | exact lv_iload hx hb hd h1 h2) kk
  case lload_n k =>
    obtain ⟨rfl, e2⟩ := a_w_n e1
    exact s_load e2 (fun v hv H locs ls cells slots h1 h2 => by cases v <;> first | (cases hv; done) | exact lv_lload_n hx hb hd rfl h1 h2) kk
  case lload k =>
    obtain ⟨rfl, e2⟩ := a_w_n e1
    exact s_load e2 (fun v hv H locs ls cells slots h1 h2 => by cases v <;> first | (cases hv; done) | exact lv_lload hx hb hd h1 h2) kk
  case aload_n k =>
    obtain ⟨rfl, e2⟩ := a_w_n e1
    exact s_loadR e2 (fun x H locs ls cells slots h1 h2 => lv_aload_n hx hb hd rfl h1 h2) (fun H locs ls cells slots h1 h2 => lv_aload_nN hx hb hd rfl h1 h2) kk
  case aload k =>
    obtain ⟨rfl, e2⟩ := a_w_n e1
    exact s_loadR e2 (fun x H locs ls cells slots h1 h2 => lv_aload hx hb hd h1 h2) (fun H locs ls cells slots h1 h2 => lv_aloadN hx hb hd h1 h2) kk
  case istore_n k =>
    obtain ⟨rfl, e2⟩ := a_w_n e1
    exact s_store e2 (fun v st' hv H locs ls cells slots h1 h2 h3 => by cases v <;> first | (cases hv; done) | exact lv_istore_n hx hb hd rfl h1 h2 rfl h3) kk
  case istore k =>
    obtain ⟨rfl, e2⟩ := a_w_n e1
    exact s_store e2 (fun v st' hv H locs ls cells slots h1 h2 h3 => by cases v <;> first | (cases hv; done) | exact lv_istore hx hb hd h1 h2 rfl h3) kk
  case astore_n k =>
    obtain ⟨rfl, e2⟩ := a_w_n e1
    exact s_storeR e2 (fun x st' H locs ls cells slots h1 h2 h3 => lv_astore_n hx hb hd rfl h1 h2 rfl h3) (fun st' H locs ls cells slots h1 h2 h3 => lv_astore_nN hx hb hd rfl h1 h2 rfl h3) kk
  case astore k =>
    obtain ⟨rfl, e2⟩ := a_w_n e1
    exact s_storeR e2 (fun x st' H locs ls cells slots h1 h2 h3 => lv_astore hx hb hd h1 h2 rfl h3) (fun st' H locs ls cells slots h1 h2 h3 => lv_astoreN hx hb hd h1 h2 rfl h3) kk
  case lstore_n k =>
    obtain ⟨rfl, e2⟩ := a_w_n e1
    obtain ⟨x, st', rfl, h2, rfl⟩ := a_stL_inv e2
    exact fun H locs ls g1 g2 g3 g4 g5 => lv_lstore_n hx hb hd rfl g2.has (Nat.lt_of_lt_of_le h2 g2.1) rfl (fun ls' h' => kk H locs ls' g1 (g2.stL h') g3 g4 g5)
  case lstore k =>
    obtain ⟨rfl, e2⟩ := a_w_n e1
    obtain ⟨x, st', rfl, h2, rfl⟩ := a_stL_inv e2
    exact fun H locs ls g1 g2 g3 g4 g5 => lv_lstore hx hb hd g2.has (Nat.lt_of_lt_of_le h2 g2.1) rfl (fun ls' h' => kk H locs ls' g1 (g2.stL h') g3 g4 g5)
  case iinc k cst =>
    obtain ⟨rfl, e2⟩ := a_w_n e1
    split at e2
    · rename_i x hx2
      split at e2
      · rename_i hlt
        cases a_nx_inv e2
        intro H locs ls g1 g2 g3 g4 g5
        obtain ⟨k9, hk9⟩ := List.getElem?_of_mem (s_li_mem (G := G) hx2)
        exact lv_iinc hx hb hd g2.has hk9 rfl (Nat.lt_of_lt_of_le hlt g2.1) rfl (fun ls' h' => kk H locs ls' g1 (g2.st (v := .int (x + Int32.ofInt cst)) h') g3 g4 g5)
      · cases e2
    · cases e2
  case iadd => obtain ⟨rfl, e2⟩ := a_w_n e1; obtain ⟨b, a, st', rfl, rfl⟩ := a_ii_inv e2; exact s_keep (fun H locs ls cells slots k => lv_iadd hx hb hd k) kk
  case isub => obtain ⟨rfl, e2⟩ := a_w_n e1; obtain ⟨b, a, st', rfl, rfl⟩ := a_ii_inv e2; exact s_keep (fun H locs ls cells slots k => lv_isub hx hb hd k) kk
  case imul => obtain ⟨rfl, e2⟩ := a_w_n e1; obtain ⟨b, a, st', rfl, rfl⟩ := a_ii_inv e2; exact s_keep (fun H locs ls cells slots k => lv_imul hx hb hd k) kk
  case iand => obtain ⟨rfl, e2⟩ := a_w_n e1; obtain ⟨b, a, st', rfl, rfl⟩ := a_ii_inv e2; exact s_keep (fun H locs ls cells slots k => lv_iand hx hb hd k) kk
  case ior => obtain ⟨rfl, e2⟩ := a_w_n e1; obtain ⟨b, a, st', rfl, rfl⟩ := a_ii_inv e2; exact s_keep (fun H locs ls cells slots k => lv_ior hx hb hd k) kk
  case ishl => obtain ⟨rfl, e2⟩ := a_w_n e1; obtain ⟨b, a, st', rfl, rfl⟩ := a_ii_inv e2; exact s_keep (fun H locs ls cells slots k => lv_ishl hx hb hd k) kk
  case ishr => obtain ⟨rfl, e2⟩ := a_w_n e1; obtain ⟨b, a, st', rfl, rfl⟩ := a_ii_inv e2; exact s_keep (fun H locs ls cells slots k => lv_ishr hx hb hd k) kk
  case idiv => obtain ⟨rfl, e2⟩ := a_w_n e1; obtain ⟨b, a, st', rfl, h0, rfl⟩ := a_dv_inv e2; exact s_keep (fun H locs ls cells slots k => lv_idiv hx hb hd h0 k) kk
  case irem => obtain ⟨rfl, e2⟩ := a_w_n e1; obtain ⟨b, a, st', rfl, h0, rfl⟩ := a_dv_inv e2; exact s_keep (fun H locs ls cells slots k => lv_irem hx hb hd h0 k) kk
  case ineg =>
    obtain ⟨rfl, e2⟩ := a_w_n e1
    split at e2
    · cases a_nx_inv e2; exact s_keep (fun H locs ls cells slots k => lv_ineg hx hb hd k) kk
    · cases e2
  case land => obtain ⟨rfl, e2⟩ := a_w_n e1; obtain ⟨b, a, st', rfl, rfl⟩ := a_ll_inv e2; exact s_keep (fun H locs ls cells slots k => lv_land hx hb hd k) kk
  case lor => obtain ⟨rfl, e2⟩ := a_w_n e1; obtain ⟨b, a, st', rfl, rfl⟩ := a_ll_inv e2; exact s_keep (fun H locs ls cells slots k => lv_lor hx hb hd k) kk
  case lshl => obtain ⟨rfl, e2⟩ := a_w_n e1; obtain ⟨b, a, st', rfl, rfl⟩ := a_li_inv e2; exact s_keep (fun H locs ls cells slots k => lv_lshl hx hb hd rfl k) kk
  case lshr => obtain ⟨rfl, e2⟩ := a_w_n e1; obtain ⟨b, a, st', rfl, rfl⟩ := a_li_inv e2; exact s_keep (fun H locs ls cells slots k => lv_lshr hx hb hd rfl k) kk
  case lushr => obtain ⟨rfl, e2⟩ := a_w_n e1; obtain ⟨b, a, st', rfl, rfl⟩ := a_li_inv e2; exact s_keep (fun H locs ls cells slots k => lv_lushr hx hb hd rfl k) kk
  case lcmp =>
    obtain ⟨rfl, e2⟩ := a_w_n e1
    split at e2
    · cases a_nx_inv e2; exact s_keep (fun H locs ls cells slots k => W.lcmp hx hb hd k) kk
    · cases e2
  case i2l =>
    obtain ⟨rfl, e2⟩ := a_w_n e1
    split at e2
    · cases a_nx_inv e2; exact s_keep (fun H locs ls cells slots k => lv_i2l hx hb hd rfl k) kk
    · cases e2
  case l2i =>
    obtain ⟨rfl, e2⟩ := a_w_n e1
    split at e2
    · cases a_nx_inv e2; exact s_keep (fun H locs ls cells slots k => lv_l2i hx hb hd rfl k) kk
    · cases e2
  case i2c =>
    obtain ⟨rfl, e2⟩ := a_w_n e1
    split at e2
    · cases a_nx_inv e2; exact s_keep (fun H locs ls cells slots k => lv_i2c hx hb hd rfl k) kk
    · cases e2
  case dup =>
    obtain ⟨rfl, e2⟩ := a_w_n e1
    split at e2
    · split at e2
      · rename_i hc
        cases a_nx_inv e2
        exact s_keep (fun H locs ls cells slots k => lv_dup hx hb hd (by rw [s_v_cat]; exact hc) k) kk
      · cases e2
    · cases e2
  case dup2 =>
    obtain ⟨rfl, e2⟩ := a_w_n e1
    split at e2
    · split at e2
      · rename_i hc
        cases a_nx_inv e2
        exact s_keep (fun H locs ls cells slots k => lv_dup2_11 hx hb hd (by rw [s_v_cat]; exact hc.1) (by rw [s_v_cat]; exact hc.2) k) kk
      · cases e2
    · cases e2
  case pop =>
    obtain ⟨rfl, e2⟩ := a_w_n e1
    split at e2
    · split at e2
      · rename_i hc
        cases a_nx_inv e2
        exact s_keep (fun H locs ls cells slots k => lv_pop hx hb hd (by rw [s_v_cat]; exact hc) k) kk
      · cases e2
    · cases e2
  case goto off =>
    obtain ⟨rfl, e2⟩ := a_w_n e1
    obtain ⟨tg, h1, rfl⟩ := a_gt_inv e2
    exact s_keep (fun H locs ls cells slots k => lv_goto hx hb hd h1 k) kk
  case ifCond cd off =>
    obtain ⟨rfl, e2⟩ := a_w_n e1
    split at e2
    · refine s_if e2 (fun H locs ls cells slots tgt h1 h2 h3 => ?_) kk
      cases cd
      · exact lv_if_eq hx hb hd h1 h2 h3
      · exact lv_if_ne hx hb hd h1 h2 (fun z => h3 (fun w => w z))
      · exact lv_if_lt hx hb hd h1 h2 h3
      · exact lv_if_ge hx hb hd h1 h2 h3
      · exact lv_if_gt hx hb hd h1 h2 h3
      · exact lv_if_le hx hb hd h1 h2 h3
    · cases e2
  case if_icmp cd off =>
    obtain ⟨rfl, e2⟩ := a_w_n e1
    split at e2
    · refine s_if e2 (fun H locs ls cells slots tgt h1 h2 h3 => ?_) kk
      cases cd
      · exact lv_icmp_eq hx hb hd h1 h2 h3
      · exact lv_icmp_ne hx hb hd h1 h2 (fun z => h3 (fun w => w z))
      · exact lv_icmp_lt hx hb hd h1 h2 h3
      · exact lv_icmp_ge hx hb hd h1 h2 h3
      · exact lv_icmp_gt hx hb hd h1 h2 h3
      · exact lv_icmp_le hx hb hd h1 h2 h3
    · cases e2
  case ifnonnull off =>
    obtain ⟨rfl, e2⟩ := a_w_n e1
    split at e2
    · obtain ⟨tg, h1, rfl⟩ := a_gt_inv e2
      exact s_keep (fun H locs ls cells slots k => lv_ifnonnull hx hb hd h1 k) kk
    · cases a_nx_inv e2
      exact s_keep (fun H locs ls cells slots k => lv_ifnonnullN hx hb hd k) kk
    · cases e2
  case tableswitch df lo hi offs =>
    have e2 : a_sw df lo hi offs pc lv st h = some (.inl t) := e1
    unfold a_sw at e2
    split at e2
    · split at e2
      · rename_i hc
        obtain ⟨tg, h1, rfl⟩ := a_gt_inv e2
        exact s_keep (fun H locs ls cells slots k => lv_tableOut hx hb hd hc h1 k) kk
      · rename_i hc
        split at e2
        · rename_i off ho
          obtain ⟨tg, h1, rfl⟩ := a_gt_inv e2
          exact s_keep (fun H locs ls cells slots k => lv_tableIn hx hb hd (fun z => hc (Or.inl z)) (fun z => hc (Or.inr z)) ho h1 k) kk
        · cases e2
    · cases e2
  case lookupswitch df ps =>
    have e2 : a_lk df ps pc lv st h = some (.inl t) := e1
    unfold a_lk at e2
    split at e2
    · split at e2
      · rename_i hc
        obtain ⟨tg, h1, rfl⟩ := a_gt_inv e2
        exact s_keep (fun H locs ls cells slots k => lv_lookup hx hb hd hc rfl h1 k) kk
      · cases e2
    · cases e2
  case ldc k =>
    obtain ⟨rfl, e2⟩ := a_w_n e1
    split at e2
    · rename_i v hv
      cases a_nx_inv e2
      exact s_ldc cx hd hv kk
    · cases e2
  case ldc2_w k =>
    obtain ⟨rfl, e2⟩ := a_w_n e1
    split at e2
    · rename_i v hv
      cases a_nx_inv e2
      exact s_keep (fun H locs ls cells slots k => lv_ldc2 hx hb cx.2.2.2.1 (cx.2.2.2.2.1 _ (a_L_inv hv)) hd k) kk
    · cases e2
  case getstatic k =>
    obtain ⟨rfl, e2⟩ := a_w_n e1
    split at e2
    · rename_i j fs hg hc
      split at e2
      · rename_i v hv
        cases a_nx_inv e2
        exact s_gs cx hd hg hc hv kk
      · cases e2
    · cases e2
  case getfield k => obtain ⟨rfl, e2⟩ := a_w_n e1; exact s_gf cx hd e2 kk
  case putfield k => obtain ⟨rfl, e2⟩ := a_w_n e1; exact s_pf cx hd e2 kk
  case iaload => obtain ⟨rfl, e2⟩ := a_w_n e1; exact s_iald cx hd e2 kk
  case baload => obtain ⟨rfl, e2⟩ := a_w_n e1; exact s_bald cx hd e2 kk
  case laload => obtain ⟨rfl, e2⟩ := a_w_n e1; exact s_lald cx hd e2 kk
  case aaload => obtain ⟨rfl, e2⟩ := a_w_n e1; exact s_aald cx hd e2 kk
  case iastore => obtain ⟨rfl, e2⟩ := a_w_n e1; exact s_iast cx hd e2 kk
  case bastore => obtain ⟨rfl, e2⟩ := a_w_n e1; exact s_zast cx hd e2 kk
  case lastore => obtain ⟨rfl, e2⟩ := a_w_n e1; exact s_last cx hd e2 kk
  case aastore => obtain ⟨rfl, e2⟩ := a_w_n e1; exact s_aast cx hd e2 kk
  case arraylength => obtain ⟨rfl, e2⟩ := a_w_n e1; exact s_len cx hd e2 kk
  case newarray tt => obtain ⟨rfl, e2⟩ := a_w_n e1; exact s_na cx hd e2 hR kk
  case anewarray k => obtain ⟨rfl, e2⟩ := a_w_n e1; exact s_nr cx hd e2 hR kk
  case new k => obtain ⟨rfl, e2⟩ := a_w_n e1; exact s_nw cx hd e2 hR kk
  case invokevirtual k => obtain ⟨rfl, e2⟩ := a_w_n e1; exact s_iv cx hC hRf hd e2 hR kk
  case invokestatic k => obtain ⟨rfl, e2⟩ := a_w_n e1; exact s_is cx hC hRf hd e2 hR kk
  case invokespecial k => obtain ⟨rfl, e2⟩ := a_w_n e1; exact s_ip cx hC hRf hd e2 hR kk
  case ireturn =>
    obtain ⟨rfl, e2⟩ := a_w_n e1
    unfold a_rt at e2
    split at e2
    · split at e2 <;> cases e2
    · cases e2
  case lreturn => obtain ⟨rfl, e2⟩ := a_w_n e1; split at e2 <;> cases e2
  case areturn => obtain ⟨rfl, e2⟩ := a_w_n e1; split at e2 <;> cases e2
  case return_ => obtain ⟨rfl, e2⟩ := a_w_n e1; split at e2 <;> cases e2
  all_goals cases e1
end SF
