def a_w (c : Bool) (x : Option (aS ⊕ aR)) : Option (aS ⊕ aR) := if c then x else none
def a_i (C : aM → List Value → aH → Option aR) (y : aM) (i : Instr) (n pc : Nat) (l : List (Option Value)) (st : List Value) (h : aH) : Option (aS ⊕ aR) := match i with
  | .iconst k => a_w (n == 1) (a_nx (pc + 1) l (.int (Int32.ofInt k) :: st) h)
  | .bipush k => a_w (n == 2) (a_nx (pc + 2) l (.int (Int8.ofInt k).toInt32 :: st) h)
  | .sipush k => a_w (n == 3) (a_nx (pc + 3) l (.int (Int16.ofInt k).toInt32 :: st) h)
  | .lconst k => a_w (n == 1) (a_nx (pc + 1) l (.long (Int64.ofNat (k : Nat)) :: st) h)
  | .aconst_null => a_w (n == 1) (a_nx (pc + 1) l (.null :: st) h)
  | .iload_n k => a_w (n == 1) (a_lod k 1 pc a_isI l st h)
  | .iload k => a_w (n == 2) (a_lod k 2 pc a_isI l st h)
  | .lload_n k => a_w (n == 1) (a_lod k 1 pc a_isL l st h)
  | .lload k => a_w (n == 2) (a_lod k 2 pc a_isL l st h)
  | .aload_n k => a_w (n == 1) (a_lod k 1 pc a_isR l st h)
  | .aload k => a_w (n == 2) (a_lod k 2 pc a_isR l st h)
  | .istore_n k => a_w (n == 1) (a_sto k 1 pc a_isI l st h)
  | .istore k => a_w (n == 2) (a_sto k 2 pc a_isI l st h)
  | .astore_n k => a_w (n == 1) (a_sto k 1 pc a_isR l st h)
  | .astore k => a_w (n == 2) (a_sto k 2 pc a_isR l st h)
  | .lstore_n k => a_w (n == 1) (a_stL k 1 pc l st h)
  | .lstore k => a_w (n == 2) (a_stL k 2 pc l st h)
  | .iinc k c => a_w (n == 3) (match a_ld l k with | some (.int x) => if k < l.length then a_nx (pc + 3) (a_st l k (.int (x + Int32.ofInt c))) st h else none | _ => none)
  | .iadd => a_w (n == 1) (a_ii (fun x y => x + y) pc l st h)
  | .isub => a_w (n == 1) (a_ii (fun x y => x - y) pc l st h)
  | .imul => a_w (n == 1) (a_ii (fun x y => x * y) pc l st h)
  | .iand => a_w (n == 1) (a_ii (fun x y => x &&& y) pc l st h)
  | .ior => a_w (n == 1) (a_ii (fun x y => x ||| y) pc l st h)
  | .ishl => a_w (n == 1) (a_ii (fun x y => x <<< (y &&& 31)) pc l st h)
  | .ishr => a_w (n == 1) (a_ii (fun x y => x >>> (y &&& 31)) pc l st h)
  | .idiv => a_w (n == 1) (a_dv (fun x y => x / y) pc l st h)
  | .irem => a_w (n == 1) (a_dv (fun x y => x - x / y * y) pc l st h)
  | .ineg => a_w (n == 1) (match st with | .int x :: st => a_nx (pc + 1) l (.int (-x) :: st) h | _ => none)
  | .land => a_w (n == 1) (a_ll (fun x y => x &&& y) pc l st h)
  | .lor => a_w (n == 1) (a_ll (fun x y => x ||| y) pc l st h)
  | .lshl => a_w (n == 1) (a_li (fun x y => x <<< (y.toInt64 &&& 63)) pc l st h)
  | .lshr => a_w (n == 1) (a_li (fun x y => x >>> (y.toInt64 &&& 63)) pc l st h)
  | .lushr => a_w (n == 1) (a_li (fun x y => (x.toUInt64 >>> (y.toInt64.toUInt64 &&& Int64.toUInt64 63)).toInt64) pc l st h)
  | .lcmp => a_w (n == 1) (match st with | .long y :: .long x :: st => a_nx (pc + 1) l (.int (lg_cmp x y) :: st) h | _ => none)
  | .i2l => a_w (n == 1) (match st with | .int x :: st => a_nx (pc + 1) l (.long x.toInt64 :: st) h | _ => none)
  | .l2i => a_w (n == 1) (match st with | .long x :: st => a_nx (pc + 1) l (.int x.toInt32 :: st) h | _ => none)
  | .i2c => a_w (n == 1) (match st with | .int x :: st => a_nx (pc + 1) l (.int (x.toUInt32 % 65536).toInt32 :: st) h | _ => none)
  | .dup => a_w (n == 1) (match st with | v :: st => if v.category = 1 then a_nx (pc + 1) l (v :: v :: st) h else none | _ => none)
  | .dup2 => a_w (n == 1) (match st with | v :: w :: st => if v.category = 1 ∧ w.category = 1 then a_nx (pc + 1) l (v :: w :: v :: w :: st) h else none | _ => none)
  | .pop => a_w (n == 1) (match st with | v :: st => if v.category = 1 then a_nx (pc + 1) l st h else none | _ => none)
  | .goto off => a_w (n == 3) (a_gt pc off l st h)
  | .ifCond c off => a_w (n == 3) (match st with | .int x :: st => a_if c off pc l x 0 st h | _ => none)
  | .if_icmp c off => a_w (n == 3) (match st with | .int y :: .int x :: st => a_if c off pc l x y st h | _ => none)
  | .ifnonnull off => a_w (n == 3) (match st with | .ref _ :: st => a_gt pc off l st h | .null :: st => a_nx (pc + 3) l st h | _ => none)
  | .tableswitch d lo hi offs => a_sw d lo hi offs pc l st h
  | .lookupswitch d ps => a_lk d ps pc l st h
  | .ldc k => a_w (n == 2) (match a_I y.1 k with | some v => a_nx (pc + 2) l (v :: st) h | none => none)
  | .ldc2_w k => a_w (n == 3) (match a_L y.1 k with | some v => a_nx (pc + 3) l (.long v :: st) h | none => none)
  | .getstatic k => a_w (n == 3) (match a_Gs y.1 k, h.2.2 aST with | some j, some (.inr (30, fs)) => (match fs[j]? with | some v => a_nx (pc + 3) l (v :: st) h | none => none) | _, _ => none)
  | .getfield k => a_w (n == 3) (a_gf y k pc l st h)
  | .putfield k => a_w (n == 3) (a_pf y k pc l st h)
  | .iaload => a_w (n == 1) (a_al (fun t => t == 0) pc l st h)
  | .baload => a_w (n == 1) (a_al (fun t => t == 2 || t == 5) pc l st h)
  | .laload => a_w (n == 1) (a_all pc l st h)
  | .aaload => a_w (n == 1) (a_alr pc l st h)
  | .iastore => a_w (n == 1) (a_as pc l st h)
  | .bastore => a_w (n == 1) (a_asz pc l st h)
  | .lastore => a_w (n == 1) (a_asl pc l st h)
  | .aastore => a_w (n == 1) (a_asr pc l st h)
  | .arraylength => a_w (n == 1) (a_len pc l st h)
  | .newarray t => a_w (n == 2) (a_na t pc l st h)
  | .anewarray k => a_w (n == 3) (a_nr y k pc l st h)
  | .new k => a_w (n == 3) (a_nw y k pc l st h)
  | .invokevirtual k => a_w (n == 3) (a_iv C y k pc l st h)
  | .invokestatic k => a_w (n == 3) (a_is C y k pc l st h)
  | .invokespecial k => a_w (n == 3) (a_ip C y k pc l st h)
  | .ireturn => a_w (n == 1) (a_rt y st h)
  | .lreturn => a_w (n == 1) (match st, y.2.2.2.2 with | [.long v], some .long => some (.inr (some (.long v), h)) | _, _ => none)
  | .areturn => a_w (n == 1) (match st, y.2.2.2.2 with | [.ref v], some (.object _) => some (.inr (some (.ref v), h)) | _, _ => none)
  | .return_ => a_w (n == 1) (match st, y.2.2.2.2 with | [], none => some (.inr (none, h)) | _, _ => none)
  | _ => none
def a_step (C : aM → List Value → aH → Option aR) (y : aM) (s : aS) : Option (aS ⊕ aR) := match decode y.2.2.1 s.1 with
  | .ok (i, n) => a_i C y i n s.1 s.2.1 s.2.2.1 s.2.2.2
  | .error _ => none
/-- f steps at most -/
def a_run (C : aM → List Value → aH → Option aR) (y : aM) : Nat → aS → Option aR
  | 0, _ => none
  | f + 1, s => match a_step C y s with
    | some (.inl t) => a_run C y f t
    | some (.inr r) => some r
    | none => none
/-- calls d deep at most, f steps in each -/
def a_ev (f : Nat) : Nat → aM → List Value → aH → Option aR
  | 0, _, _, _ => none
  | d + 1, y, as, h => a_run (a_ev f d) y f (0, a_ent as y.2.2.2.1, [], h)
/-- what is reached from a place -/
def wp (d : Nat) (y : aM) (pc : Nat) (l : List (Option Value)) (st : List Value) (h : aH) (Q : Option Value → aH → Prop) : Prop :=
  ∃ (f : Nat) (r : aR), a_run (a_ev f d) y f (pc, l, st, h) = some r ∧ Q r.1 r.2
