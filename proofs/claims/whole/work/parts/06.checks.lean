/-! ===== the links' words, read off the tables by their places ===== -/
def aGd : List Cond := lw_tbl.filter goodWord
theorem aGd_of {i : Nat} {w : Cond} (h : lw_tbl[i]? = some w) (hg : goodWord w = true) : w ∈ aGd := List.mem_filter.mpr ⟨List.mem_of_getElem? h, hg⟩
def a_pw (i : Nat) (w : Cond) : Bool := decide (lw_tbl[i]? = some w)
def a_gw (i : Nat) (w : Cond) : Bool := decide (lw_tbl[i]? = some w) && goodWord w
theorem a_gw_of {i : Nat} {w : Cond} (h : a_gw i w = true) : w ∈ aGd := by
  simp only [a_gw, Bool.and_eq_true, decide_eq_true_eq] at h
  exact aGd_of h.1 h.2
theorem a_pw_of {i : Nat} {w : Cond} (h : a_pw i w = true) : w ∈ lw_tbl := by
  simp only [a_pw, decide_eq_true_eq] at h
  exact List.mem_of_getElem? h
/-- a field's link -/
def a_wF (o i ci k kd : Nat) : Cond :=
  if ci = 20 then (if k = 0 then .fieldLink (a_nm o) i "java/lang/String" "value" "[B" else .fieldLink (a_nm o) i "java/lang/String" "coder" "B")
  else if kd = 1 then .fieldLinkNest (a_nm o) i (a_T ci k).1 (a_T ci k).2.1 (a_T ci k).2.2.1 "SumsInWords" else .fieldLink (a_nm o) i (a_T ci k).1 (a_T ci k).2.1 (a_T ci k).2.2.1
def a_kF (q : Nat × Nat × Nat × Nat × Nat × Nat) : Bool := match q with
  | (o, i, ci, k, kd, p) => (if ci = 20 then decide (k < 2) && decide (kd = 0) else decide (ci < 12) && decide (k < a_N ci)) && (if kd = 1 then a_pw p (a_wF o i ci k kd) else decide (kd = 0) && a_gw p (a_wF o i ci k kd))
set_option maxRecDepth 100000 in
theorem a_cF : a_tF.all a_kF = true := by decide +kernel
/-- a method's links -/
def a_lM (o i kd : Nat) (y : MethodName) : Cond := if kd = 1 ∨ kd = 3 ∨ kd = 5 then .methodLinkNest (a_nm o) i y "SumsInWords" else .methodLink (a_nm o) i y
def a_wC (m : aM) : Cond := .code m.2.1 m.2.2.1 m.2.2.2.1 m.2.2.2.2
def a_okM (m : aM) : Bool := plainName m.2.1.cls && decide (a_nm m.1 = m.2.1.cls) && decide (m.2.1.cls ≠ "java/lang/invoke/MethodHandle") && decide (m.2.1.cls ≠ "java/lang/invoke/VarHandle")
def a_kM (q : Nat × Nat × Nat × Nat × Nat × Nat × Nat × Nat × Nat) : Bool := match q with
  | (o, i, kd, np, j, p1, p2, p3, p4) =>
    if kd = 6 then decide (np = 0) && a_gw p1 (.methodLink (a_nm o) i objectInit) && a_gw p2 (.instanceMethod objectInit) && a_gw p3 (.code objectInit ⟨#[0xb1]⟩ 1 none)
    else if kd = 7 then a_gw p1 (.methodLink (a_nm o) i arraycopyName) && a_gw p2 (.static arraycopyName) && a_gw p3 (.native arraycopyName) && a_gw p4 (.initialized "java/lang/System")
    else if kd = 8 then a_gw p1 (.methodLink (a_nm o) i Lib.Math.max.name) && a_gw p2 (.static Lib.Math.max.name) && a_gw p3 (.code Lib.Math.max.name Lib.Math.max.code 2 (some .int)) && a_gw p4 (.initialized "java/lang/Math")
    else if kd = 9 then a_gw p1 (.methodLink (a_nm o) i Lib.Math.min.name) && a_gw p2 (.static Lib.Math.min.name) && a_gw p3 (.code Lib.Math.min.name Lib.Math.min.code 2 (some .int)) && a_gw p4 (.initialized "java/lang/Math")
    else if kd = 10 then a_gw p1 (.methodLink (a_nm o) i Lib.Math.abs.name) && a_gw p2 (.static Lib.Math.abs.name) && a_gw p3 (.code Lib.Math.abs.name Lib.Math.abs.code 1 (some .int)) && a_gw p4 (.initialized "java/lang/Math")
    else decide (kd < 6) && decide (j < 215) && a_okM (a_m j) && decide ((parseMethodDescriptor (a_m j).2.1.desc).map (fun d => d.parameters.length) = some np)
      && (if kd = 1 ∨ kd = 3 ∨ kd = 5 then a_pw p1 (a_lM o i kd (a_m j).2.1) else a_gw p1 (a_lM o i kd (a_m j).2.1))
      && (if kd = 2 ∨ kd = 3 then a_gw p2 (.static (a_m j).2.1) else a_gw p2 (.instanceMethod (a_m j).2.1))
      && (if kd < 2 then a_gw p3 (.selects (a_m j).2.1.cls (a_m j).2.1 (a_m j).2.1) else true)
      && (if kd = 4 ∨ kd = 5 then decide ((a_m j).2.1.name = "<init>") && decide ((a_m j).2.2.2.2 = none) else true)
      && a_gw p4 (.initialized (a_m j).2.1.cls)
set_option maxRecDepth 100000 in
set_option maxHeartbeats 4000000 in
theorem a_cM0 : ((a_tM.drop 0).take 40).all a_kM = true := by decide +kernel
set_option maxRecDepth 100000 in
set_option maxHeartbeats 4000000 in
theorem a_cM1 : ((a_tM.drop 40).take 40).all a_kM = true := by decide +kernel
set_option maxRecDepth 100000 in
set_option maxHeartbeats 4000000 in
theorem a_cM2 : ((a_tM.drop 80).take 40).all a_kM = true := by decide +kernel
set_option maxRecDepth 100000 in
set_option maxHeartbeats 4000000 in
theorem a_cM3 : ((a_tM.drop 120).take 40).all a_kM = true := by decide +kernel
set_option maxRecDepth 100000 in
set_option maxHeartbeats 4000000 in
theorem a_cM4 : ((a_tM.drop 160).take 40).all a_kM = true := by decide +kernel
set_option maxRecDepth 100000 in
set_option maxHeartbeats 4000000 in
theorem a_cM5 : ((a_tM.drop 200).take 40).all a_kM = true := by decide +kernel
set_option maxRecDepth 100000 in
set_option maxHeartbeats 4000000 in
theorem a_cM6 : ((a_tM.drop 240).take 40).all a_kM = true := by decide +kernel
theorem a_cM : ∀ q ∈ a_tM, a_kM q = true := by
  intro q hq
  obtain ⟨i, hi⟩ := List.getElem?_of_mem hq
  have hl : i < a_tM.length := (List.getElem?_eq_some_iff.mp hi).1
  have hl2 : a_tM.length = 268 := by decide +kernel
  have key : ∀ n, n ≤ i → i < n + 40 → ((a_tM.drop n).take 40).all a_kM = true → a_kM q = true := by
    intro n h1 h2 h3
    refine List.all_eq_true.mp h3 q (List.mem_of_getElem? (i := i - n) ?_)
    rw [List.getElem?_take, if_pos (by omega), List.getElem?_drop, show n + (i - n) = i by omega]
    exact hi
  rcases (show i < 40 ∨ (40 ≤ i ∧ i < 80) ∨ (80 ≤ i ∧ i < 120) ∨ (120 ≤ i ∧ i < 160) ∨ (160 ≤ i ∧ i < 200) ∨ (200 ≤ i ∧ i < 240) ∨ (240 ≤ i ∧ i < 280) by omega) with h | ⟨h, h'⟩ | ⟨h, h'⟩ | ⟨h, h'⟩ | ⟨h, h'⟩ | ⟨h, h'⟩ | ⟨h, h'⟩
  · exact key 0 (by omega) (by omega) a_cM0
  · exact key 40 h h' a_cM1
  · exact key 80 h h' a_cM2
  · exact key 120 h h' a_cM3
  · exact key 160 h h' a_cM4
  · exact key 200 h h' a_cM5
  · exact key 240 h h' a_cM6
theorem gw_code (y : MethodName) (b : ByteArray) (n : Nat) (r : Option FieldType) : goodWord (.code y b n r) = true := by first | rfl | simp [goodWord, Cond.onTables, Cond.keeps, Cond.steady]
set_option maxRecDepth 100000 in
set_option maxHeartbeats 4000000 in
theorem a_cd0 : (List.range' 0 43).map (fun j => lw_tbl[a_cp.getD j 0]?) = (List.range' 0 43).map (fun j => some (a_wC (a_m j))) := rfl
set_option maxRecDepth 100000 in
set_option maxHeartbeats 4000000 in
theorem a_cd1 : (List.range' 43 43).map (fun j => lw_tbl[a_cp.getD j 0]?) = (List.range' 43 43).map (fun j => some (a_wC (a_m j))) := rfl
set_option maxRecDepth 100000 in
set_option maxHeartbeats 4000000 in
theorem a_cd2 : (List.range' 86 43).map (fun j => lw_tbl[a_cp.getD j 0]?) = (List.range' 86 43).map (fun j => some (a_wC (a_m j))) := rfl
set_option maxRecDepth 100000 in
set_option maxHeartbeats 4000000 in
theorem a_cd3 : (List.range' 129 43).map (fun j => lw_tbl[a_cp.getD j 0]?) = (List.range' 129 43).map (fun j => some (a_wC (a_m j))) := rfl
set_option maxRecDepth 100000 in
set_option maxHeartbeats 4000000 in
theorem a_cd4 : (List.range' 172 43).map (fun j => lw_tbl[a_cp.getD j 0]?) = (List.range' 172 43).map (fun j => some (a_wC (a_m j))) := rfl
theorem a_cd {j : Nat} (h : j < 215) : a_wC (a_m j) ∈ aGd := by
  refine aGd_of (i := a_cp.getD j 0) ?_ (gw_code _ _ _ _)
  rcases (show j < 43 ∨ (43 ≤ j ∧ j < 86) ∨ (86 ≤ j ∧ j < 129) ∨ (129 ≤ j ∧ j < 172) ∨ (172 ≤ j ∧ j < 215) by omega) with h | ⟨h, h'⟩ | ⟨h, h'⟩ | ⟨h, h'⟩ | ⟨h, h'⟩
  · exact List.map_inj_left.mp a_cd0 j (List.mem_range'_1.mpr ⟨by omega, by omega⟩)
  · exact List.map_inj_left.mp a_cd1 j (List.mem_range'_1.mpr ⟨by omega, by omega⟩)
  · exact List.map_inj_left.mp a_cd2 j (List.mem_range'_1.mpr ⟨by omega, by omega⟩)
  · exact List.map_inj_left.mp a_cd3 j (List.mem_range'_1.mpr ⟨by omega, by omega⟩)
  · exact List.map_inj_left.mp a_cd4 j (List.mem_range'_1.mpr ⟨by omega, by omega⟩)
def a_kC (q : Nat × Nat × Nat × Nat × Nat × Nat) : Bool := match q with
  | (o, i, ci, p1, p2, p3) => decide (ci < 12) && a_gw p1 (.classLink (a_nm o) i (a_nm ci)) && a_gw p2 (.instantiable (a_nm ci) (a_N ci)) && a_gw p3 (.initialized (a_nm ci))
set_option maxRecDepth 100000 in
theorem a_cC : a_tC.all a_kC = true := by decide +kernel
def a_an (t : Nat) : String := match t with
  | 3 => "SumsInWords$State"
  | _ => "SumsInWords$Sentence"
def a_kA (q : Nat × Nat × Nat × Nat) : Bool := match q with
  | (o, i, t, p) => (decide (t = 3) || decide (t = 4)) && a_gw p (.classLink (a_nm o) i (a_an t))
set_option maxRecDepth 100000 in
theorem a_cA : a_tA.all a_kA = true := by decide +kernel
set_option maxRecDepth 100000 in
theorem a_cI : a_tI.all (fun q => a_gw q.2.2.2 (.constant (a_nm q.1) q.2.1 q.2.2.1)) = true := by decide +kernel
set_option maxRecDepth 100000 in
theorem a_cL : a_tL.all (fun q => a_gw q.2.2.2 (.constantLong (a_nm q.1) q.2.1 q.2.2.1)) = true := by decide +kernel
set_option maxRecDepth 100000 in
theorem a_cS : a_tS.all (fun q => a_pw q.2.2.2 (.stringRef (a_nm q.1) q.2.1 (a_str.getD q.2.2.1 ("", 0, "")).2.2) && decide (q.2.2.1 < 16) && decide (a_nm q.1 = (a_str.getD q.2.2.1 ("", 0, "")).1) && decide (q.2.1 = (a_str.getD q.2.2.1 ("", 0, "")).2.1)) = true := by decide +kernel
def a_wG (o i j : Nat) : Cond := if j = 0 then .fieldLink (a_nm o) i "java/lang/String" "COMPACT_STRINGS" "Z" else .fieldLink (a_nm o) i "jdk/internal/util/Preconditions" "SIOOBE_FORMATTER" "Ljava/util/function/BiFunction;"
set_option maxRecDepth 100000 in
theorem a_cG : a_tG.all (fun q => a_gw q.2.2.2 (a_wG q.1 q.2.1 q.2.2.1) && decide (q.2.2.1 < 2)) = true := by decide +kernel
set_option maxRecDepth 100000 in
theorem a_cP : a_pA.all (fun q => a_gw q.2 (.arrayClass q.1)) = true := by decide +kernel
/-- the classes' tables -/
theorem a_cl : ∀ c, c < 12 → aCl[c]? = some (a_nm c, a_T c, a_N c)
  | 0, _ => rfl | 1, _ => rfl | 2, _ => rfl | 3, _ => rfl | 4, _ => rfl | 5, _ => rfl | 6, _ => rfl | 7, _ => rfl | 8, _ => rfl | 9, _ => rfl | 10, _ => rfl | 11, _ => rfl
  | n + 12, h => absurd h (by omega)
set_option maxRecDepth 100000 in
theorem a_cU : (List.range 12).all (fun c => (u_ws (a_nm c) (a_T c) (a_N c)).all (fun w => decide (w ∈ lw_tbl) && goodWord w)) = true := by decide +kernel
theorem a_uin {c : Nat} (hc : c < 12) : ∀ w ∈ u_ws (a_nm c) (a_T c) (a_N c), w ∈ aGd := by
  intro w hw
  have h1 := List.all_eq_true.mp (List.all_eq_true.mp a_cU c (List.mem_range.mpr hc)) w hw
  simp only [Bool.and_eq_true, decide_eq_true_eq] at h1
  exact List.mem_filter.mpr h1
set_option maxRecDepth 100000 in
theorem a_typ : ∀ c, c < 12 → ∀ k, k < a_N c → parseFieldDescriptor (a_T c k).2.2.1 = some (a_ty c k) := by decide +kernel
set_option maxRecDepth 100000 in
theorem a_nmd : ∀ c, c < 12 → ∀ a, a < a_N c → ∀ b, b < a_N c → a ≠ b → (a_T c a).2.1 ≠ (a_T c b).2.1 := by decide +kernel
set_option maxRecDepth 100000 in
theorem a_dcl : ∀ c, c < 12 → ∀ k, k < a_N c → (a_T c k).1 = a_nm c := by decide +kernel
set_option maxRecDepth 100000 in
theorem a_dfv : ∀ c, c < 12 → ∀ k, k < a_N c → defaultValue (a_ty c k) = vp_V (a_df c) k := by decide +kernel
