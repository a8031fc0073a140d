/-! ===== soundness: what the abstract machine does, the machine does ===== -/
def s_cx (p : Program) (s : State) (m : MethodId) (args : Array Value) (meth : Method) (c : Code) (G : aG) (y : aM) : Prop :=
  p.tables.exec = Jvm.exec ∧ c.code = y.2.2.1 ∧ c.maxLocals = y.2.2.2.1 ∧ s.vm.findClass (a_nm y.1) = some m.cls ∧ (∀ w ∈ aGd, w.before args s = true) ∧ s_env G s ∧ (y.2.1.name = "<init>" → meth.name = "<init>")
def s_W (p : Program) (l : Launch) (e : Env) (R : Room) (s : State) (m : MethodId) (args : Array Value) (below : List Frame) (meth : Method) (c : Code) (Q : State → Prop) (G : aG) (y : aM) (n0 s0 : Nat) (x : aS) : Prop :=
  ∀ (H : Heap) (locs : List Loc) (ls : Array Slot), s_heap G x.2.2.2 H → s_lv G ls y.2.2.2.1 x.2.1 → (∀ q ∈ locs, s_A G q.base) → n0 ≤ x.2.2.2.1 → s0 ≤ x.2.2.2.2.1 → W p l e R s m args below meth c H locs (x.2.2.2.1 - n0) (x.2.2.2.2.1 - s0) Q (F0 m x.1 ls (x.2.2.1.map (s_v G)))
theorem a_w_inv {c : Bool} {x : Option (aS ⊕ aR)} {z : aS ⊕ aR} (e : a_w c x = some z) : c = true ∧ x = some z := by
  unfold a_w at e
  split at e
  · rename_i h; exact ⟨h, e⟩
  · cases e
theorem a_w_n {n k : Nat} {x : Option (aS ⊕ aR)} {z : aS ⊕ aR} (e : a_w (n == k) x = some z) : n = k ∧ x = some z := by
  obtain ⟨h, e⟩ := a_w_inv e
  exact ⟨by simpa using h, e⟩
theorem a_nx_inv {pc : Nat} {l : List (Option Value)} {st : List Value} {h : aH} {t : aS} (e : a_nx pc l st h = some (.inl t)) : t = (pc, l, st, h) := by
  unfold a_nx at e
  injection e with e
  injection e with e
  exact e.symm
theorem a_gt_inv {pc : Nat} {off : Int} {l : List (Option Value)} {st : List Value} {h : aH} {t : aS} (e : a_gt pc off l st h = some (.inl t)) : ∃ tgt : Nat, (pc : Int) + off = (tgt : Int) ∧ t = (tgt, l, st, h) := by
  unfold a_gt at e
  split at e
  · cases e
  · rename_i hn
    injection e with e
    injection e with e
    exact ⟨((pc : Int) + off).toNat, by omega, e.symm⟩
theorem a_ii_inv {f : Int32 → Int32 → Int32} {pc : Nat} {l : List (Option Value)} {st : List Value} {h : aH} {t : aS} (e : a_ii f pc l st h = some (.inl t)) : ∃ y x st', st = .int y :: .int x :: st' ∧ t = (pc + 1, l, .int (f x y) :: st', h) := by
  unfold a_ii at e
  split at e
  · exact ⟨_, _, _, rfl, a_nx_inv e⟩
  · cases e
theorem a_ll_inv {f : Int64 → Int64 → Int64} {pc : Nat} {l : List (Option Value)} {st : List Value} {h : aH} {t : aS} (e : a_ll f pc l st h = some (.inl t)) : ∃ y x st', st = .long y :: .long x :: st' ∧ t = (pc + 1, l, .long (f x y) :: st', h) := by
  unfold a_ll at e
  split at e
  · exact ⟨_, _, _, rfl, a_nx_inv e⟩
  · cases e
theorem a_li_inv {f : Int64 → Int32 → Int64} {pc : Nat} {l : List (Option Value)} {st : List Value} {h : aH} {t : aS} (e : a_li f pc l st h = some (.inl t)) : ∃ y x st', st = .int y :: .long x :: st' ∧ t = (pc + 1, l, .long (f x y) :: st', h) := by
  unfold a_li at e
  split at e
  · exact ⟨_, _, _, rfl, a_nx_inv e⟩
  · cases e
theorem a_dv_inv {f : Int32 → Int32 → Int32} {pc : Nat} {l : List (Option Value)} {st : List Value} {h : aH} {t : aS} (e : a_dv f pc l st h = some (.inl t)) : ∃ y x st', st = .int y :: .int x :: st' ∧ ¬ y = 0 ∧ t = (pc + 1, l, .int (f x y) :: st', h) := by
  unfold a_dv at e
  split at e
  · split at e
    · cases e
    · rename_i hn
      exact ⟨_, _, _, rfl, hn, a_nx_inv e⟩
  · cases e
theorem a_lod_inv {i n pc : Nat} {ok : Value → Bool} {l : List (Option Value)} {st : List Value} {h : aH} {t : aS} (e : a_lod i n pc ok l st h = some (.inl t)) : ∃ v, a_ld l i = some v ∧ ok v = true ∧ t = (pc + n, l, v :: st, h) := by
  unfold a_lod at e
  split at e
  · split at e
    · rename_i h1 h2
      exact ⟨_, h1, h2, a_nx_inv e⟩
    · cases e
  · cases e
theorem a_sto_inv {i n pc : Nat} {ok : Value → Bool} {l : List (Option Value)} {st : List Value} {h : aH} {t : aS} (e : a_sto i n pc ok l st h = some (.inl t)) : ∃ v st', st = v :: st' ∧ ok v = true ∧ i < l.length ∧ t = (pc + n, a_st l i v, st', h) := by
  unfold a_sto at e
  split at e
  · split at e
    · rename_i h2
      simp only [Bool.and_eq_true, decide_eq_true_eq] at h2
      exact ⟨_, _, rfl, h2.1, h2.2, a_nx_inv e⟩
    · cases e
  · cases e
theorem a_stL_inv {i n pc : Nat} {l : List (Option Value)} {st : List Value} {h : aH} {t : aS} (e : a_stL i n pc l st h = some (.inl t)) : ∃ x st', st = .long x :: st' ∧ i + 1 < l.length ∧ t = (pc + n, a_un (a_st l i (.long x)) (i + 1), st', h) := by
  unfold a_stL at e
  split at e
  · split at e
    · rename_i h2
      exact ⟨_, _, rfl, h2, a_nx_inv e⟩
    · cases e
  · cases e
section SS
variable {p : Program} {l : Launch} {e : Env} {R : Room} {s : State} {m : MethodId} {args : Array Value} {below : List Frame} {meth : Method} {c : Code} {Q : State → Prop} {G : aG} {y : aM} {n0 s0 : Nat}
theorem s_keep {pc pc' : Nat} {lv : List (Option Value)} {st st' : List Value} {h : aH} (hw : ∀ (H : Heap) (locs : List Loc) (ls : Array Slot) (cells slots : Nat), W p l e R s m args below meth c H locs cells slots Q (F0 m pc' ls (st'.map (s_v G))) → W p l e R s m args below meth c H locs cells slots Q (F0 m pc ls (st.map (s_v G))))
    (k : s_W p l e R s m args below meth c Q G y n0 s0 (pc', lv, st', h)) : s_W p l e R s m args below meth c Q G y n0 s0 (pc, lv, st, h) :=
  fun H locs ls h1 h2 h3 h4 h5 => hw H locs ls _ _ (k H locs ls h1 h2 h3 h4 h5)
theorem s_load {i n pc : Nat} {ok : Value → Bool} {lv : List (Option Value)} {st : List Value} {h : aH} {t : aS} (e1 : a_lod i n pc ok lv st h = some (.inl t))
    (hw : ∀ (v : Value), ok v = true → ∀ (H : Heap) (locs : List Loc) (ls : Array Slot) (cells slots : Nat), ls[i]? = some (.val (s_v G v)) → W p l e R s m args below meth c H locs cells slots Q (F0 m (pc + n) ls (s_v G v :: st.map (s_v G))) → W p l e R s m args below meth c H locs cells slots Q (F0 m pc ls (st.map (s_v G))))
    (k : s_W p l e R s m args below meth c Q G y n0 s0 t) : s_W p l e R s m args below meth c Q G y n0 s0 (pc, lv, st, h) := by
  obtain ⟨v, h1, h2, rfl⟩ := a_lod_inv e1
  exact fun H locs ls g1 g2 g3 g4 g5 => hw v h2 H locs ls _ _ (g2.2.2.2 i v h1) (k H locs ls g1 g2 g3 g4 g5)
theorem s_store {i n pc : Nat} {ok : Value → Bool} {lv : List (Option Value)} {st : List Value} {h : aH} {t : aS} (e1 : a_sto i n pc ok lv st h = some (.inl t))
    (hw : ∀ (v : Value) (st' : List Value), ok v = true → ∀ (H : Heap) (locs : List Loc) (ls : Array Slot) (cells slots : Nat), lv_has ls y.2.2.2.1 (s_li G lv) → i < y.2.2.2.1 → (∀ ls' : Array Slot, lv_has ls' y.2.2.2.1 ((i, s_v G v) :: (s_li G lv).filter (fun q => !(q.1 == i) && !(q.1 + 1 == i && q.2.category == 2))) → W p l e R s m args below meth c H locs cells slots Q (F0 m (pc + n) ls' (st'.map (s_v G)))) → W p l e R s m args below meth c H locs cells slots Q (F0 m pc ls (s_v G v :: st'.map (s_v G))))
    (k : s_W p l e R s m args below meth c Q G y n0 s0 t) : s_W p l e R s m args below meth c Q G y n0 s0 (pc, lv, st, h) := by
  obtain ⟨v, st', rfl, h2, h3, rfl⟩ := a_sto_inv e1
  exact fun H locs ls g1 g2 g3 g4 g5 => hw v st' h2 H locs ls _ _ g2.has (Nat.lt_of_lt_of_le h3 g2.1) (fun ls' h' => k H locs ls' g1 (g2.st h') g3 g4 g5)
theorem s_if {cd : Jvm.ClassFile.Cond} {off : Int} {pc : Nat} {lv : List (Option Value)} {x z : Int32} {st st0 : List Value} {h : aH} {t : aS} (e1 : a_if cd off pc lv x z st h = some (.inl t))
    (hw : ∀ (H : Heap) (locs : List Loc) (ls : Array Slot) (cells slots : Nat) (tgt : Nat), (pc : Int) + off = (tgt : Int) → ((match cd with | .eq => x = z | .ne => ¬ x = z | .lt => x < z | .ge => z ≤ x | .gt => z < x | .le => x ≤ z) → W p l e R s m args below meth c H locs cells slots Q (F0 m tgt ls (st.map (s_v G)))) → (¬ (match cd with | .eq => x = z | .ne => ¬ x = z | .lt => x < z | .ge => z ≤ x | .gt => z < x | .le => x ≤ z) → W p l e R s m args below meth c H locs cells slots Q (F0 m (pc + 3) ls (st.map (s_v G)))) → W p l e R s m args below meth c H locs cells slots Q (F0 m pc ls (st0.map (s_v G))))
    (k : s_W p l e R s m args below meth c Q G y n0 s0 t) : s_W p l e R s m args below meth c Q G y n0 s0 (pc, lv, st0, h) := by
  by_cases hneg : (pc : Int) + off < 0
  · unfold a_if at e1; rw [if_pos hneg] at e1; cases e1
  unfold a_if at e1
  rw [if_neg hneg] at e1
  obtain ⟨tg, htg⟩ : ∃ tgt : Nat, (pc : Int) + off = (tgt : Int) := ⟨((pc : Int) + off).toNat, by omega⟩
  intro H locs ls g1 g2 g3 g4 g5
  have yes : ∀ {t : aS}, a_gt pc off lv st h = some (.inl t) → s_W p l e R s m args below meth c Q G y n0 s0 t → W p l e R s m args below meth c H locs (h.1 - n0) (h.2.1 - s0) Q (F0 m tg ls (st.map (s_v G))) := by
    intro t e2 k
    obtain ⟨tg2, h1, rfl⟩ := a_gt_inv e2
    have : tg2 = tg := by omega
    subst this
    exact k H locs ls g1 g2 g3 g4 g5
  have no : ∀ {t : aS}, a_nx (pc + 3) lv st h = some (.inl t) → s_W p l e R s m args below meth c Q G y n0 s0 t → W p l e R s m args below meth c H locs (h.1 - n0) (h.2.1 - s0) Q (F0 m (pc + 3) ls (st.map (s_v G))) := by
    intro t e2 k
    cases a_nx_inv e2
    exact k H locs ls g1 g2 g3 g4 g5
  refine hw H locs ls _ _ tg htg ?_ ?_
  · intro hc
    cases cd <;> dsimp only at e1 hc
    · rw [if_pos hc] at e1; exact yes e1 k
    · rw [if_neg hc] at e1; exact yes e1 k
    · rw [if_pos hc] at e1; exact yes e1 k
    · rw [if_pos hc] at e1; exact yes e1 k
    · rw [if_pos hc] at e1; exact yes e1 k
    · rw [if_pos hc] at e1; exact yes e1 k
  · intro hc
    cases cd <;> dsimp only at e1 hc
    · rw [if_neg hc] at e1; exact no e1 k
    · rw [if_pos (Decidable.not_not.mp hc)] at e1; exact no e1 k
    · rw [if_neg hc] at e1; exact no e1 k
    · rw [if_neg hc] at e1; exact no e1 k
    · rw [if_neg hc] at e1; exact no e1 k
    · rw [if_neg hc] at e1; exact no e1 k
end SS
