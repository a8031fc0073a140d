/-! ===== each call keeps the world, and both sides answer alike ===== -/
theorem st_set {f : Nat → Option va_E} (hf : hS (0, 0, f)) {h : aH} (H : INV f h) {k w : Int32} : wp 10 mX10_set 0 [some (.ref 0), some (.int k), some (.int w)] [] h (PO f mX11_set [some (.ref 35), some (.int k), some (.int w)]) := by
  refine INV_el (P := fun h => wp 10 mX10_set 0 [some (.ref 0), some (.int k), some (.int w)] [] h (PO f mX11_set [some (.ref 35), some (.int k), some (.int w)])) H (fun n s c na th nw tw mo le gr to sh pn pm pt pi pj nu sa ss tx tl tq ql fa fu fp wn te lo hi mt me tt ix ov su wx wy wz wi wa im t0 t1 t2 t3 t4 rn rp ro ra rs rt rk r1 r2 r3 rc qs fs fh fd fi fn fm ft al wd hs vx vy vz vi an sz nx wh tk td wr rw sn ak n0 n1 hs0 hm hr hJ hI => ?_)
  rw [ly_1]
  refine c_set hm hr.sh hJ (fun wn' tt' ix' ov' su' wx' wy' wz' wi' wa' hJ' => ?_)
  rw [← ly_1]
  refine PO_mk (m_set hm (fun vx vy vz vi => ⟨rfl, INV_mk hs0 hm hr hJ' hI⟩))
theorem st_tells {f : Nat → Option va_E} (hf : hS (0, 0, f)) {h : aH} (H : INV f h) {k w : Int32} : wp 10 mX10_tells 0 [some (.ref 0), some (.int k), some (.int w)] [] h (PO f mX11_tells [some (.ref 35), some (.int k), some (.int w), none, none]) := by
  refine INV_el (P := fun h => wp 10 mX10_tells 0 [some (.ref 0), some (.int k), some (.int w)] [] h (PO f mX11_tells [some (.ref 35), some (.int k), some (.int w), none, none])) H (fun n s c na th nw tw mo le gr to sh pn pm pt pi pj nu sa ss tx tl tq ql fa fu fp wn te lo hi mt me tt ix ov su wx wy wz wi wa im t0 t1 t2 t3 t4 rn rp ro ra rs rt rk r1 r2 r3 rc qs fs fh fd fi fn fm ft al wd hs vx vy vz vi an sz nx wh tk td wr rw sn ak n0 n1 hs0 hm hr hJ hI => ?_)
  rw [ly_1]
  refine c_tells hm hr.sh hJ (fun wn' tt' ix' ov' su' wx' wy' wz' wi' wa' hJ' => ?_)
  rw [← ly_1]
  refine PO_mk (m_tells hm (fun vx vy vz vi => ⟨rfl, INV_mk hs0 hm hr hJ' hI⟩))
theorem st_sets {f : Nat → Option va_E} (hf : hS (0, 0, f)) {h : aH} (H : INV f h) : wp 10 mX10_sets 0 [some (.ref 0)] [] h (PO f mX11_sets [some (.ref 35)]) := by
  refine INV_el (P := fun h => wp 10 mX10_sets 0 [some (.ref 0)] [] h (PO f mX11_sets [some (.ref 35)])) H (fun n s c na th nw tw mo le gr to sh pn pm pt pi pj nu sa ss tx tl tq ql fa fu fp wn te lo hi mt me tt ix ov su wx wy wz wi wa im t0 t1 t2 t3 t4 rn rp ro ra rs rt rk r1 r2 r3 rc qs fs fh fd fi fn fm ft al wd hs vx vy vz vi an sz nx wh tk td wr rw sn ak n0 n1 hs0 hm hr hJ hI => ?_)
  rw [ly_1]
  refine c_sets hr.sh hJ (fun wn' tt' ix' ov' su' wx' wy' wz' wi' wa' hJ' => ?_)
  rw [← ly_1]
  refine PO_mk (m_sets hm (fun vx vy vz vi => ⟨rfl, INV_mk hs0 hm hr hJ' hI⟩))
theorem st_on {f : Nat → Option va_E} (hf : hS (0, 0, f)) {h : aH} (H : INV f h) {k : Int32} : wp 10 mX10_on 0 [some (.ref 0), some (.int k)] [] h (PO f mX11_on [some (.ref 35), some (.int k)]) := by
  refine INV_el (P := fun h => wp 10 mX10_on 0 [some (.ref 0), some (.int k)] [] h (PO f mX11_on [some (.ref 35), some (.int k)])) H (fun n s c na th nw tw mo le gr to sh pn pm pt pi pj nu sa ss tx tl tq ql fa fu fp wn te lo hi mt me tt ix ov su wx wy wz wi wa im t0 t1 t2 t3 t4 rn rp ro ra rs rt rk r1 r2 r3 rc qs fs fh fd fi fn fm ft al wd hs vx vy vz vi an sz nx wh tk td wr rw sn ak n0 n1 hs0 hm hr hJ hI => ?_)
  rw [ly_1, c_on hm hr, ← ly_1]
  refine PO_mk ?_
  rw [m_on2 hm]
  exact ⟨rfl, INV_mk hs0 hm hr hJ hI⟩
theorem st_written {f : Nat → Option va_E} (hf : hS (0, 0, f)) {h : aH} (H : INV f h) {k : Int32} : wp 10 mX10_written 0 [some (.ref 0), some (.int k)] [] h (PO f mX11_written [some (.ref 35), some (.int k)]) := by
  refine INV_el (P := fun h => wp 10 mX10_written 0 [some (.ref 0), some (.int k)] [] h (PO f mX11_written [some (.ref 35), some (.int k)])) H (fun n s c na th nw tw mo le gr to sh pn pm pt pi pj nu sa ss tx tl tq ql fa fu fp wn te lo hi mt me tt ix ov su wx wy wz wi wa im t0 t1 t2 t3 t4 rn rp ro ra rs rt rk r1 r2 r3 rc qs fs fh fd fi fn fm ft al wd hs vx vy vz vi an sz nx wh tk td wr rw sn ak n0 n1 hs0 hm hr hJ hI => ?_)
  rw [ly_1, c_written hm hr, ← ly_1]
  refine PO_mk ?_
  rw [m_written2 hm]
  exact ⟨rfl, INV_mk hs0 hm hr hJ hI⟩
theorem st_got {f : Nat → Option va_E} (hf : hS (0, 0, f)) {h : aH} (H : INV f h) {k : Int32} : wp 10 mX10_got 0 [some (.ref 0), some (.int k)] [] h (PO f mX11_got [some (.ref 35), some (.int k)]) := by
  refine INV_el (P := fun h => wp 10 mX10_got 0 [some (.ref 0), some (.int k)] [] h (PO f mX11_got [some (.ref 35), some (.int k)])) H (fun n s c na th nw tw mo le gr to sh pn pm pt pi pj nu sa ss tx tl tq ql fa fu fp wn te lo hi mt me tt ix ov su wx wy wz wi wa im t0 t1 t2 t3 t4 rn rp ro ra rs rt rk r1 r2 r3 rc qs fs fh fd fi fn fm ft al wd hs vx vy vz vi an sz nx wh tk td wr rw sn ak n0 n1 hs0 hm hr hJ hI => ?_)
  rw [ly_1, c_got hr, ← ly_1]
  refine PO_mk ?_
  rw [m_got2]
  exact ⟨rfl, INV_mk hs0 hm hr hJ hI⟩
theorem st_count {f : Nat → Option va_E} (hf : hS (0, 0, f)) {h : aH} (H : INV f h) {k : Int32} : wp 10 mX10_count 0 [some (.ref 0), some (.int k)] [] h (PO f mX11_count [some (.ref 35), some (.int k)]) := by
  refine INV_el (P := fun h => wp 10 mX10_count 0 [some (.ref 0), some (.int k)] [] h (PO f mX11_count [some (.ref 35), some (.int k)])) H (fun n s c na th nw tw mo le gr to sh pn pm pt pi pj nu sa ss tx tl tq ql fa fu fp wn te lo hi mt me tt ix ov su wx wy wz wi wa im t0 t1 t2 t3 t4 rn rp ro ra rs rt rk r1 r2 r3 rc qs fs fh fd fi fn fm ft al wd hs vx vy vz vi an sz nx wh tk td wr rw sn ak n0 n1 hs0 hm hr hJ hI => ?_)
  rw [ly_1, c_count2 hr, ← ly_1]
  refine PO_mk ?_
  rw [m_count2]
  exact ⟨rfl, INV_mk hs0 hm hr hJ hI⟩
theorem st_fault {f : Nat → Option va_E} (hf : hS (0, 0, f)) {h : aH} (H : INV f h) {k : Int32} : wp 10 mX10_fault 0 [some (.ref 0), some (.int k)] [] h (PO f mX11_fault [some (.ref 35), some (.int k)]) := by
  refine INV_el (P := fun h => wp 10 mX10_fault 0 [some (.ref 0), some (.int k)] [] h (PO f mX11_fault [some (.ref 35), some (.int k)])) H (fun n s c na th nw tw mo le gr to sh pn pm pt pi pj nu sa ss tx tl tq ql fa fu fp wn te lo hi mt me tt ix ov su wx wy wz wi wa im t0 t1 t2 t3 t4 rn rp ro ra rs rt rk r1 r2 r3 rc qs fs fh fd fi fn fm ft al wd hs vx vy vz vi an sz nx wh tk td wr rw sn ak n0 n1 hs0 hm hr hJ hI => ?_)
  rw [ly_1, c_fault hr, ← ly_1]
  refine PO_mk ?_
  rw [m_fault2]
  exact ⟨rfl, INV_mk hs0 hm hr hJ hI⟩
theorem st_ways {f : Nat → Option va_E} (hf : hS (0, 0, f)) {h : aH} (H : INV f h) {v : Int32} : wp 10 mX10_ways 0 [some (.ref 0), some (.int v)] [] h (PO f mX11_ways [some (.ref 35), some (.int v)]) := by
  refine INV_el (P := fun h => wp 10 mX10_ways 0 [some (.ref 0), some (.int v)] [] h (PO f mX11_ways [some (.ref 35), some (.int v)])) H (fun n s c na th nw tw mo le gr to sh pn pm pt pi pj nu sa ss tx tl tq ql fa fu fp wn te lo hi mt me tt ix ov su wx wy wz wi wa im t0 t1 t2 t3 t4 rn rp ro ra rs rt rk r1 r2 r3 rc qs fs fh fd fi fn fm ft al wd hs vx vy vz vi an sz nx wh tk td wr rw sn ak n0 n1 hs0 hm hr hJ hI => ?_)
  rw [ly_1]
  refine c_ways hm hr (fun hv hm' wn' te' lo' hi' mt' me' tt' ix' ov' su' wx' wy' wz' wi' wa' hJ' => ?_) (fun hv => ?_)
  · rw [← ly_1]
    refine PO_mk ?_
    rw [m_ways, if_pos hv]
    exact ⟨rfl, INV_mk hs0 hm' (kR_ways hr) hJ' (iR_e hI (fun j hj => pk_un (by omega)) (fun j hj => rfl))⟩
  · rw [← ly_1]
    refine PO_mk ?_
    rw [m_ways, if_neg hv]
    exact ⟨rfl, INV_mk hs0 hm hr hJ hI⟩
theorem p_span_i {k l h : Nat} (h1 : k < 4) (h2 : 1 ≤ l) (h3 : l ≤ h) (h4 : h ≤ 60) (h5 : h ≤ l + 19) : p_span (nI k) (nI l) (nI h) := by
  refine ⟨⟨nI_pos' (by omega), nI_le (b := 3) (by omega) (by omega)⟩, ⟨nI_le (a := 1) (by omega) (by omega), nI_le (b := 60) (by omega) (by omega)⟩, ⟨nI_le (by omega) (by omega), nI_le (b := 60) (by omega) (by omega)⟩, ?_⟩
  rw [nI_sub h3]
  exact nI_le (b := 19) (by omega) (by omega)
theorem st_span {f : Nat → Option va_E} (hf : hS (0, 0, f)) {h : aH} (H : INV f h) {w a b : Int32} : wp 10 mX10_span 0 [some (.ref 0), some (.int w), some (.int a), some (.int b)] [] h (PO f mX11_span [some (.ref 35), some (.int w), some (.int a), some (.int b)]) := by
  refine INV_el (P := fun h => wp 10 mX10_span 0 [some (.ref 0), some (.int w), some (.int a), some (.int b)] [] h (PO f mX11_span [some (.ref 35), some (.int w), some (.int a), some (.int b)])) H (fun n s c na th nw tw mo le gr to sh pn pm pt pi pj nu sa ss tx tl tq ql fa fu fp wn te lo hi mt me tt ix ov su wx wy wz wi wa im t0 t1 t2 t3 t4 rn rp ro ra rs rt rk r1 r2 r3 rc qs fs fh fd fi fn fm ft al wd hs vx vy vz vi an sz nx wh tk td wr rw sn ak n0 n1 hs0 hm hr hJ hI => ?_)
  rw [ly_1]
  refine c_span hm hr (fun k l h q1 q2 q3 q4 q5 e1 e2 e3 hm' wn' te' lo' hi' mt' me' tt' ix' ov' su' wx' wy' wz' wi' wa' hJ' => ?_) (fun hno => ?_)
  · rw [← ly_1]
    refine PO_mk ?_
    subst e1 e2 e3
    refine m_span (fun k' l' h' p1 p2 p3 p4 p5 d1 d2 d3 => ?_) (fun hno => absurd (p_span_i q1 q2 q3 q4 q5) hno)
    rw [nI_eq (by omega) (by omega)] at d1 d2 d3
    subst d1 d2 d3
    exact ⟨rfl, INV_mk hs0 hm' (kR_span q1 hr) hJ' (iR_e hI (fun j hj => by rw [pk_un (by omega), pk_un (by omega)]) (fun j hj => rfl))⟩
  · rw [← ly_1]
    refine PO_mk ?_
    refine m_span (fun k l h q1 q2 q3 q4 q5 e1 e2 e3 => absurd (by rw [e1, e2, e3]; exact p_span_i q1 q2 q3 q4 q5) hno) (fun _ => ⟨rfl, INV_mk hs0 hm hr hJ hI⟩)
theorem st_choose {f : Nat → Option va_E} (hf : hS (0, 0, f)) {h : aH} (H : INV f h) {s0 n9 m t i j : Int32} : wp 10 mX10_choose 0 [some (.ref 0), some (.int s0), some (.int n9), some (.int m), some (.int t), some (.int i), some (.int j)] [] h (PO f mX11_choose [some (.ref 35), some (.int s0), some (.int n9), some (.int m), some (.int t), some (.int i), some (.int j), none, none]) := by
  refine INV_el (P := fun h => wp 10 mX10_choose 0 [some (.ref 0), some (.int s0), some (.int n9), some (.int m), some (.int t), some (.int i), some (.int j)] [] h (PO f mX11_choose [some (.ref 35), some (.int s0), some (.int n9), some (.int m), some (.int t), some (.int i), some (.int j), none, none])) H (fun n s c na th nw tw mo le gr to sh pn pm pt pi pj nu sa ss tx tl tq ql fa fu fp wn te lo hi mt me tt ix ov su wx wy wz wi wa im t0 t1 t2 t3 t4 rn rp ro ra rs rt rk r1 r2 r3 rc qs fs fh fd fi fn fm ft al wd hs vx vy vz vi an sz nx wh tk td wr rw sn ak n0 n1 hs0 hm hr hJ hI => ?_)
  rw [ly_1]
  refine c_choose hm hr (fun hp wn' te' lo' hi' mt' me' tt' ix' ov' su' wx' wy' wz' wi' wa' hJ' => ?_) (fun hno => ?_)
  · rw [← ly_1]
    refine PO_mk (m_choose hm (fun _ vx vy vz vi => ⟨rfl, ?_⟩) (fun hno => absurd hp hno))
    exact INV_mk hs0 (mI_choose hm hp) (kR_choose hr) hJ' (iR_e hI (fun j hj => chA_o (by omega)) (fun j hj => rfl))
  · rw [← ly_1]
    refine PO_mk (m_choose hm (fun hp => absurd hp hno) (fun _ => ⟨rfl, INV_mk hs0 hm hr hJ hI⟩))
theorem st_name {f : Nat → Option va_E} (hf : hS (0, 0, f)) {h : aH} (H : INV f h) {v : Int64} : wp 10 mX10_name 0 [some (.ref 0), some (.long v), none] [] h (PO f mX11_name [some (.ref 35), some (.long v), none]) := by
  refine INV_el (P := fun h => wp 10 mX10_name 0 [some (.ref 0), some (.long v), none] [] h (PO f mX11_name [some (.ref 35), some (.long v), none])) H (fun n s c na th nw tw mo le gr to sh pn pm pt pi pj nu sa ss tx tl tq ql fa fu fp wn te lo hi mt me tt ix ov su wx wy wz wi wa im t0 t1 t2 t3 t4 rn rp ro ra rs rt rk r1 r2 r3 rc qs fs fh fd fi fn fm ft al wd hs vx vy vz vi an sz nx wh tk td wr rw sn ak n0 n1 hs0 hm hr hJ hI => ?_)
  obtain ⟨a, ha, e0⟩ := hm.n0
  obtain ⟨b, hb, e1⟩ := hm.n1
  rw [ly_1]
  refine c_name (hS_W (hS_S1 (hS_0 (hS_M (hS_T (hS_R (hS_Q (hS_F (hS_I (hS_b hf)))))))))) ha hb (hr.na.trans e0) (hr.th.trans e1) hr.nw hr.tw (fun h6 hfr => ?_) (fun hno => ?_)
  · rw [← ly_1]
    refine PO_mk (m_name ha hb e0 e1 (fun _ _ => ⟨rfl, ?_⟩) (fun q => absurd ⟨h6, hfr⟩ q))
    exact INV_mk hs0 (mI_name hm h6 hb e0 e1 hfr) (kR_name h6 hr) (wJ_e hm hr.sh (fun j hj => pk_un (by omega)) hJ) (iR_e hI (fun j hj => pk_un (by omega)) (fun j hj => updL_o (by omega)))
  · rw [← ly_1]
    refine PO_mk (m_name ha hb e0 e1 (fun q1 q2 => absurd ⟨q1, q2⟩ hno) (fun _ => ⟨rfl, INV_mk hs0 hm hr hJ hI⟩))
theorem st_thing {f : Nat → Option va_E} (hf : hS (0, 0, f)) {h : aH} (H : INV f h) {v : Int64} {m : Int32} : wp 10 mX10_thing 0 [some (.ref 0), some (.long v), none, some (.int m)] [] h (PO f mX11_thing [some (.ref 35), some (.long v), none, some (.int m)]) := by
  refine INV_el (P := fun h => wp 10 mX10_thing 0 [some (.ref 0), some (.long v), none, some (.int m)] [] h (PO f mX11_thing [some (.ref 35), some (.long v), none, some (.int m)])) H (fun n s c na th nw tw mo le gr to sh pn pm pt pi pj nu sa ss tx tl tq ql fa fu fp wn te lo hi mt me tt ix ov su wx wy wz wi wa im t0 t1 t2 t3 t4 rn rp ro ra rs rt rk r1 r2 r3 rc qs fs fh fd fi fn fm ft al wd hs vx vy vz vi an sz nx wh tk td wr rw sn ak n0 n1 hs0 hm hr hJ hI => ?_)
  obtain ⟨a, ha, e0⟩ := hm.n0
  obtain ⟨b, hb, e1⟩ := hm.n1
  rw [ly_1]
  refine c_thing (hS_W (hS_S1 (hS_0 (hS_M (hS_T (hS_R (hS_Q (hS_F (hS_I (hS_b hf)))))))))) ha hb (hr.na.trans e0) (hr.th.trans e1) hr.nw hr.tw (fun h6 hfr hm9 => ?_) (fun hno => ?_)
  · rw [← ly_1]
    refine PO_mk (m_thing ha hb e0 e1 (fun _ _ _ => ⟨rfl, ?_⟩) (fun q => absurd ⟨h6, hfr, hm9⟩ q))
    obtain ⟨k, hk, rfl⟩ := nI_of2 (M := 9999) (n := 9999) (by decide) (Int32.not_lt.mpr (Int32.le_trans (by decide) hm9.1)) hm9.2
    have hk1 : 1 ≤ k := (nI_leI (a := 1) (by omega) (by omega)).mp hm9.1
    refine INV_mk hs0 (mI_thing hm ha h6 e0 e1 hfr hk1 hk) (kR_thing h6 hr) (wJ_c hm hr.sh ?_ ?_ ?_ ?_ hJ) (iR_e hI (fun j hj => by rw [pk_un (by omega), pk_un (by omega)]) (fun j hj => updL_o (by omega)))
    · rw [pk_un (by omega), pk_un (by omega)]
    · intro j h1 h2; rw [pk_un (by omega), pk_un (by omega)]
    · intro j h1 h2; rw [pk_un (by omega), pk_un (by omega)]
    · intro j h1 h2
      rw [e1, nI_ltI (by omega) (by omega)] at h2
      rw [pk_un (by omega), pk_un (by omega)]
  · rw [← ly_1]
    refine PO_mk (m_thing ha hb e0 e1 (fun q1 q2 q3 => absurd ⟨q1, q2, q3⟩ hno) (fun _ => ⟨rfl, INV_mk hs0 hm hr hJ hI⟩))
theorem st_sheet {f : Nat → Option va_E} (hf : hS (0, 0, f)) {h : aH} (H : INV f h) {v : Int32} : wp 10 mX10_sheet 0 [some (.ref 0), some (.int v), none, none] [] h (PO f mX11_sheet [some (.ref 35), some (.int v), none, none]) := by
  refine INV_el (P := fun h => wp 10 mX10_sheet 0 [some (.ref 0), some (.int v), none, none] [] h (PO f mX11_sheet [some (.ref 35), some (.int v), none, none])) H (fun n s c na th nw tw mo le gr to sh pn pm pt pi pj nu sa ss tx tl tq ql fa fu fp wn te lo hi mt me tt ix ov su wx wy wz wi wa im t0 t1 t2 t3 t4 rn rp ro ra rs rt rk r1 r2 r3 rc qs fs fh fd fi fn fm ft al wd hs vx vy vz vi an sz nx wh tk td wr rw sn ak n0 n1 hs0 hm hr hJ hI => ?_)
  rw [ly_1]
  refine c_sheet hm hr.sh hJ (fun N nu' sa' ss' wn' tt' ix' ov' su' wx' wy' wz' wi' wa' h2 hN1 hN ev hK hJ' => ?_) (fun hno => ?_)
  · rw [← ly_1]
    subst ev
    refine PO_mk (m_sheet hm (fun N' al' an' vx vy vz vi _ hN1' hN' ev hP => ?_) (fun hno => ?_))
    · rw [nI_eq (by omega) (by omega)] at ev
      subst ev
      have hE : ∀ j, j ≠ 9 → ¬ (42 ≤ j ∧ j < 62) → al' j = al j := hP.2.2.2.2.2
      exact ⟨rfl, INV_mk hs0 (mI_sheet hm hP) (kR_sheet hP hK hr) (wJ_e hm hr.sh (fun j hj => hE j (by omega) (by omega)) hJ') (iR_e hI (fun j hj => hE j (by omega) (by omega)) (fun j hj => rfl))⟩
    · rcases hno with hno | hno
      · exact absurd hno h2
      · exact absurd ⟨nI_le (a := 1) (by omega) (by omega), nI_le (b := 20) (by omega) (by omega)⟩ hno
  · rw [← ly_1]
    refine PO_mk (m_sheet hm (fun N' al' an' vx vy vz vi h2 hN1' hN' ev hP => ?_) (fun _ => ⟨rfl, INV_mk hs0 hm hr hJ hI⟩))
    rcases hno with hno | hno
    · exact absurd hno h2
    · rw [ev] at hno
      exact absurd ⟨nI_le (a := 1) (by omega) (by omega), nI_le (b := 20) (by omega) (by omega)⟩ hno
theorem st_write {f : Nat → Option va_E} (hf : hS (0, 0, f)) {h : aH} (H : INV f h) {k plc : Int32} {tu : Bool} : wp 10 mX10_write 0 [some (.ref 0), some (.int k), some (.int (if tu then 1 else 0)), some (.int plc), none] [] h (PO f mX11_write [some (.ref 35), some (.int k), some (.int (if tu then 1 else 0)), some (.int plc), none, none, none, none, none]) := by
  refine INV_el (P := fun h => wp 10 mX10_write 0 [some (.ref 0), some (.int k), some (.int (if tu then 1 else 0)), some (.int plc), none] [] h (PO f mX11_write [some (.ref 35), some (.int k), some (.int (if tu then 1 else 0)), some (.int plc), none, none, none, none, none])) H (fun n s c na th nw tw mo le gr to sh pn pm pt pi pj nu sa ss tx tl tq ql fa fu fp wn te lo hi mt me tt ix ov su wx wy wz wi wa im t0 t1 t2 t3 t4 rn rp ro ra rs rt rk r1 r2 r3 rc qs fs fh fd fi fn fm ft al wd hs vx vy vz vi an sz nx wh tk td wr rw sn ak n0 n1 hs0 hm hr hJ hI => ?_)
  rw [ly_2]
  refine c_write (hS_M (hS_R (hS_Q (hS_F (hS_I (hS_b hf)))))) hm hr hJ (fun x y z i0 wn' tt' ix' ov' su' wx' wy' wz' wi' wa' t0' t1' t2' t3' t4' hat hok hJ' => ?_) (fun wn' tt' ix' ov' su' wx' wy' wz' wi' wa' hno hJ' => ?_)
  · rw [← ly_2]
    obtain ⟨h2, hx, hy, hz, hi0, _⟩ := s_at_f hm hat
    obtain ⟨a, b, s8, n8, t8, _, _, _, _, hs8, _, _, e2, _⟩ := pl_f hm h2
    have z2 : zN (al 2) < 8 := by unfold zN; rw [e2, nI_clamp (by omega)]; exact hs8
    have hlen := v_text_len (al := al) (wd := wd) (tu := tu) (plc := plc) (x := x) (y := y) (z := z) (i0 := i0) z2
    refine PO_mk (m_write hm (fun x' y' z' i0' vx vy vz vi hat' _ => ?_) (fun vx vy vz vi hno => absurd ⟨hok, x, y, z, i0, hat⟩ hno))
    rw [hat] at hat'
    injection hat' with hat'
    injection hat' with f1 f2
    injection f2 with f2 f3
    injection f3 with f3 f4
    subst f1 f2 f3 f4
    have hE : ∀ j, ¬ j = 10 → ¬ (62 ≤ j ∧ j < 562) → tA al (v_text al wd tu plc x y z i0) j = al j := fun j h1 h3 => by unfold tA; rw [if_neg (by omega), if_neg h1]
    exact ⟨rfl, INV_mk hs0 (mI_write hm (by omega) (v_text_256 z2 (by omega) (by omega) (by omega) (by omega))) (kR_write (by omega) hr) (wJ_e hm hr.sh (fun j hj => hE j (by omega) (by omega)) hJ') (iR_e hI (fun j hj => hE j (by omega) (by omega)) (fun j hj => rfl))⟩
  · rw [← ly_2]
    exact PO_mk (m_write hm (fun x y z i0 vx vy vz vi hat hok => absurd ⟨hok, x, y, z, i0, hat⟩ hno) (fun vx vy vz vi _ => ⟨rfl, INV_mk hs0 hm hr hJ' hI⟩))
theorem st_take {f : Nat → Option va_E} (hf : hS (0, 0, f)) {h : aH} (H : INV f h) : wp 10 mX10_take 0 [some (.ref 0)] [] h (PO f mX11_take [some (.ref 35), none]) := by
  refine INV_el (P := fun h => wp 10 mX10_take 0 [some (.ref 0)] [] h (PO f mX11_take [some (.ref 35), none])) H (fun n s c na th nw tw mo le gr to sh pn pm pt pi pj nu sa ss tx tl tq ql fa fu fp wn te lo hi mt me tt ix ov su wx wy wz wi wa im t0 t1 t2 t3 t4 rn rp ro ra rs rt rk r1 r2 r3 rc qs fs fh fd fi fn fm ft al wd hs vx vy vz vi an sz nx wh tk td wr rw sn ak n0 n1 hs0 hm hr hJ hI => ?_)
  obtain ⟨m, hm4, e10⟩ := hm.s10
  rw [ly_1]
  refine c_take hm4 (hr.tl.trans e10) (fun h0 => ?_) (fun h0 => ?_)
  · rw [← ly_1]
    refine PO_mk (m_take hm4 e10 (fun _ => ⟨rfl, ?_⟩) (fun q => absurd q h0))
    exact INV_mk hs0 (mI_take hm hm4 e10) (kR_take hm4 e10 hr) (wJ_e hm hr.sh (fun j hj => tkA_o hm4 j (by omega)) hJ) (iR_e hI (fun j hj => tkA_o hm4 j (by omega)) (fun j hj => rfl))
  · rw [← ly_1]
    exact PO_mk (m_take hm4 e10 (fun q => absurd h0 q) (fun _ => ⟨rfl, INV_mk hs0 hm hr hJ hI⟩))
theorem st_feed {f : Nat → Option va_E} (hf : hS (0, 0, f)) {h : aH} (H : INV f h) {a b d e g9 : Int32} : wp 10 mX10_feed 0 [some (.ref 0), some (.int a), some (.int b), some (.int d), some (.int e), some (.int g9), none] [] h (PO f mX11_feed [some (.ref 35), some (.int a), some (.int b), some (.int d), some (.int e), some (.int g9), none, none]) := by
  refine INV_el (P := fun h => wp 10 mX10_feed 0 [some (.ref 0), some (.int a), some (.int b), some (.int d), some (.int e), some (.int g9), none] [] h (PO f mX11_feed [some (.ref 35), some (.int a), some (.int b), some (.int d), some (.int e), some (.int g9), none, none])) H (fun n s c na th nw tw mo le gr to sh pn pm pt pi pj nu sa ss tx tl tq ql fa fu fp wn te lo hi mt me tt ix ov su wx wy wz wi wa im t0 t1 t2 t3 t4 rn rp ro ra rs rt rk r1 r2 r3 rc qs fs fh fd fi fn fm ft al wd hs vx vy vz vi an sz nx wh tk td wr rw sn ak n0 n1 hs0 hm hr hJ hI => ?_)
  obtain ⟨m, hm4, e11⟩ := hm.s11
  rw [ly_1]
  refine c_feed hm4 (hr.ql.trans e11) (fun h0 => ?_) (fun h0 => ?_)
  · rw [← ly_1]
    refine PO_mk (m_feed hm4 e11 (fun _ => ⟨rfl, ?_⟩) (fun q => absurd h0 q))
    exact INV_mk hs0 (mI_feed hm h0 e11) (kR_feed h0 e11 hr) (wJ_e hm hr.sh (fun j hj => fdA_o h0 j (by omega)) hJ) (iR_e hI (fun j hj => fdA_o h0 j (by omega)) (fun j hj => rfl))
  · rw [← ly_1]
    exact PO_mk (m_feed hm4 e11 (fun q => absurd q h0) (fun _ => ⟨rfl, INV_mk hs0 hm hr hJ hI⟩))
theorem st_end {f : Nat → Option va_E} (hf : hS (0, 0, f)) {h : aH} (H : INV f h) {w : Int32} : wp 10 mX10_end 0 [some (.ref 0), some (.int w)] [] h (PO f mX11_end [some (.ref 35), some (.int w)]) := by
  refine INV_el (P := fun h => wp 10 mX10_end 0 [some (.ref 0), some (.int w)] [] h (PO f mX11_end [some (.ref 35), some (.int w)])) H (fun n s c na th nw tw mo le gr to sh pn pm pt pi pj nu sa ss tx tl tq ql fa fu fp wn te lo hi mt me tt ix ov su wx wy wz wi wa im t0 t1 t2 t3 t4 rn rp ro ra rs rt rk r1 r2 r3 rc qs fs fh fd fi fn fm ft al wd hs vx vy vz vi an sz nx wh tk td wr rw sn ak n0 n1 hs0 hm hr hJ hI => ?_)
  rw [ly_1, c_end, hr.ql]
  by_cases hw : w < 0 ∨ al 11 < w
  · rw [if_pos hw, ← hr.ql, ← ly_1]
    refine PO_mk ?_
    rw [m_end2, if_pos hw]
    exact ⟨rfl, INV_mk hs0 hm hr hJ hI⟩
  · rw [if_neg hw, ← ly_1]
    refine PO_mk ?_
    rw [m_end2, if_neg hw]
    exact ⟨rfl, INV_mk hs0 (mI_end hm hw) (kR_end hm hw hr) (wJ_e hm hr.sh (fun j hj => pk_un (by omega)) hJ) (iR_e hI (fun j hj => pk_un (by omega)) (fun j hj => rfl))⟩
theorem st_read {f : Nat → Option va_E} (hf : hS (0, 0, f)) {h : aH} (H : INV f h) : wp 10 mX10_read 0 [some (.ref 0), none] [] h (PO f mX11_read [some (.ref 35), none]) := by
  refine INV_el (P := fun h => wp 10 mX10_read 0 [some (.ref 0), none] [] h (PO f mX11_read [some (.ref 35), none])) H (fun n s c na th nw tw mo le gr to sh pn pm pt pi pj nu sa ss tx tl tq ql fa fu fp wn te lo hi mt me tt ix ov su wx wy wz wi wa im t0 t1 t2 t3 t4 rn rp ro ra rs rt rk r1 r2 r3 rc qs fs fh fd fi fn fm ft al wd hs vx vy vz vi an sz nx wh tk td wr rw sn ak n0 n1 hs0 hm hr hJ hI => ?_)
  obtain ⟨a, ha, e0⟩ := hm.n0
  obtain ⟨b, hb, e1⟩ := hm.n1
  obtain ⟨m, hm4, e11⟩ := hm.s11
  have hw := wdR_m hm ha hb e0 e1
  have hB : ∀ p, p < m → ∃ c : Nat, c < 256 ∧ al (562 + p) = nI c := fun p hp => hm.tp p m e11 hp hm4
  rw [ly_3]
  refine c_read (hS_T (hS_M (hS_I (hS_b hf)))) hm4 e11 hB hw (hr.na.trans e0) (hr.th.trans e1) hr.nw hr.tw (fun p hp => hr.tq p m hp hm4 e11) (hr.ql.trans e11) (fun v u p fo hrd rn rp ro ra rs rt rk r1 r2 r3 fs fh fd fi fn fm ft rc qs fa' hfa => ?_)
  rw [← ly_3]
  refine PO_mk (m_read hm4 e11 hB hw e0 e1 (fun v' u' p' fo' hrd' sz nx wh tk td wr sn ak n0 n1 rw => ?_))
  obtain ⟨g1, g2, g3, g4⟩ := rdO_u hrd hrd'
  subst g1 g2 g3 g4
  exact ⟨rfl, INV_mk hs0 (mI_read hm) (kR_read hfa hr) (wJ_e hm hr.sh (fun j hj => rdA_o j (by omega)) hJ) (iR_e hI (fun j hj => rdA_o j (by omega)) (fun j hj => rfl))⟩
theorem st_image {f : Nat → Option va_E} (hf : hS (0, 0, f)) {h : aH} (H : INV f h) {v : Int32} : wp 10 mX10_image 0 [some (.ref 0), some (.int v)] [] h (PO f mX11_image [some (.ref 35), some (.int v), none]) := by
  refine INV_el (P := fun h => wp 10 mX10_image 0 [some (.ref 0), some (.int v)] [] h (PO f mX11_image [some (.ref 35), some (.int v), none])) H (fun n s c na th nw tw mo le gr to sh pn pm pt pi pj nu sa ss tx tl tq ql fa fu fp wn te lo hi mt me tt ix ov su wx wy wz wi wa im t0 t1 t2 t3 t4 rn rp ro ra rs rt rk r1 r2 r3 rc qs fs fh fd fi fn fm ft al wd hs vx vy vz vi an sz nx wh tk td wr rw sn ak n0 n1 hs0 hm hr hJ hI => ?_)
  rw [ly_1]
  by_cases hv : 0 ≤ v ∧ v ≤ 2
  · obtain ⟨k, hk, rfl⟩ := nI_of2 (M := 2) (n := 2) (by decide) (Int32.not_lt.mpr hv.1) hv.2
    rcases iR_at hI (k := k) (by omega) with ⟨him, hh⟩ | ⟨j, hj, him, hh, hm2, hr2⟩
    · have hn3 := iR_lt hI (by omega) him
      refine c_im2 (by omega) hn3 (show (HM (KT (KR (KQ (KF (KI n c (41 + 16 * n, s, f)) fs fh fd fi fn fm ft) qs) rn rp ro ra rs rt rk r1 r2 r3 rc) t0 t1 t2 t3 t4) al wd hs vx vy vz vi an sz nx wh tk td wr rw sn ak n0 n1).1 = 41 + 16 * n from (KI_1 (c := c)).1) him (fun s' x hs' => ?_)
      have hs2 : s' ≤ 20000 + 3000 * (n + 1) := le_st hs' (KI_1 (c := c)).2 hs0
      have e1 : kJ n (41 + 16 * (n + 1), s', (HM (KT (KR (KQ (KF (KI n c (41 + 16 * n, s, f)) fs fh fd fi fn fm ft) qs) rn rp ro ra rs rt rk r1 r2 r3 rc) t0 t1 t2 t3 t4) al wd hs vx vy vz vi an sz nx wh tk td wr rw sn ak n0 n1).2.2) (cpT x na th nw tw mo le gr to sh pn pm pt pi pj nu sa ss tx tl tq ql fa fu fp) = HM (KT (KR (KQ (KF (KI (n + 1) (uC c n (cpT x na th nw tw mo le gr to sh pn pm pt pi pj nu sa ss tx tl tq ql fa fu fp)) (41 + 16 * (n + 1), s', f)) fs fh fd fi fn fm ft) qs) rn rp ro ra rs rt rk r1 r2 r3 rc) t0 t1 t2 t3 t4) al wd hs vx vy vz vi an sz nx wh tk td wr rw sn ak n0 n1 := by
        have e2 : ((41 + 16 * (n + 1), s', (HM (KT (KR (KQ (KF (KI n c (41 + 16 * n, s, f)) fs fh fd fi fn fm ft) qs) rn rp ro ra rs rt rk r1 r2 r3 rc) t0 t1 t2 t3 t4) al wd hs vx vy vz vi an sz nx wh tk td wr rw sn ak n0 n1).2.2) : aH) = HM (KT (KR (KQ (KF ((41 + 16 * (n + 1), s', (KI n c (41 + 16 * n, s, f)).2.2) : aH) fs fh fd fi fn fm ft) qs) rn rp ro ra rs rt rk r1 r2 r3 rc) t0 t1 t2 t3 t4) al wd hs vx vy vz vi an sz nx wh tk td wr rw sn ak n0 n1 := rfl
        rw [e2, KI_b, kJ_M, kJ_T, kJ_R, kJ_Q, kJ_F, KI_g hn3]
      rw [e1, ← ly_1]
      refine PO_mk (m_image (fun k' hk' ek => ?_) (fun q => absurd hv q))
      rw [nI_eq (by omega) (by omega)] at ek
      subst ek
      exact ⟨rfl, INV_mk hs2 (mI_ext hm (fun i hi => imA_l hi) (fun i hi => imW_l hi)) (kR_ext hr (fun i hi => imA_l hi) (fun i hi => imW_l hi)) (wJ_e hm hr.sh (fun i hi => imA_l (by omega)) hJ) (iR_n hI (by omega) him hm (kR_to hr))⟩
    · have hn := hI.1
      have e0 : ∀ x, kJ j (HM (KT (KR (KQ (KF (KI n c (41 + 16 * n, s, f)) fs fh fd fi fn fm ft) qs) rn rp ro ra rs rt rk r1 r2 r3 rc) t0 t1 t2 t3 t4) al wd hs vx vy vz vi an sz nx wh tk td wr rw sn ak n0 n1) x = HM (KT (KR (KQ (KF (KI n (uC c j x) (41 + 16 * n, s, f)) fs fh fd fi fn fm ft) qs) rn rp ro ra rs rt rk r1 r2 r3 rc) t0 t1 t2 t3 t4) al wd hs vx vy vz vi an sz nx wh tk td wr rw sn ak n0 n1 := fun x => by rw [kJ_M, kJ_T, kJ_R, kJ_Q, kJ_F, KI_u hj hn]
      have e1 := e0 (c j)
      rw [uC_i] at e1
      rw [← e1]
      refine c_im1 (by omega) (by omega) him ?_
      rw [e0, ← ly_1]
      refine PO_mk (m_image (fun k' hk' ek => ?_) (fun q => absurd hv q))
      rw [nI_eq (by omega) (by omega)] at ek
      subst ek
      exact ⟨rfl, INV_mk hs0 (mI_ext hm (fun i hi => imA_l hi) (fun i hi => imW_l hi)) (kR_ext hr (fun i hi => imA_l hi) (fun i hi => imW_l hi)) (wJ_e hm hr.sh (fun i hi => imA_l (by omega)) hJ) (iR_i hI (by omega) hj him hm (kR_to hr))⟩
  · refine c_im0 hv ?_
    rw [← ly_1]
    exact PO_mk (m_image (fun k' hk' ek => absurd (by rw [ek]; exact ⟨nI_pos' (by omega), nI_le (b := 2) (by omega) (by omega)⟩) hv) (fun _ => ⟨rfl, INV_mk hs0 hm hr hJ hI⟩))
theorem st_again {f : Nat → Option va_E} (hf : hS (0, 0, f)) {h : aH} (H : INV f h) {v : Int32} : wp 10 mX10_again 0 [some (.ref 0), some (.int v)] [] h (PO f mX11_again [some (.ref 35), some (.int v), none]) := by
  refine INV_el (P := fun h => wp 10 mX10_again 0 [some (.ref 0), some (.int v)] [] h (PO f mX11_again [some (.ref 35), some (.int v), none])) H (fun n s c na th nw tw mo le gr to sh pn pm pt pi pj nu sa ss tx tl tq ql fa fu fp wn te lo hi mt me tt ix ov su wx wy wz wi wa im t0 t1 t2 t3 t4 rn rp ro ra rs rt rk r1 r2 r3 rc qs fs fh fd fi fn fm ft al wd hs vx vy vz vi an sz nx wh tk td wr rw sn ak n0 n1 hs0 hm hr hJ hI => ?_)
  rw [ly_1]
  by_cases hv : ∃ k : Nat, k < 3 ∧ v = nI k ∧ im k ≠ none
  · obtain ⟨k, hk, rfl, hne⟩ := hv
    rcases iR_at hI (k := k) (by omega) with ⟨him, hh⟩ | ⟨j, hj, him, hh, hm2, hr2⟩
    · exact absurd him hne
    · have hn := hI.1
      have e0 : kJ j (HM (KT (KR (KQ (KF (KI n c (41 + 16 * n, s, f)) fs fh fd fi fn fm ft) qs) rn rp ro ra rs rt rk r1 r2 r3 rc) t0 t1 t2 t3 t4) al wd hs vx vy vz vi an sz nx wh tk td wr rw sn ak n0 n1) (c j) = HM (KT (KR (KQ (KF (KI n c (41 + 16 * n, s, f)) fs fh fd fi fn fm ft) qs) rn rp ro ra rs rt rk r1 r2 r3 rc) t0 t1 t2 t3 t4) al wd hs vx vy vz vi an sz nx wh tk td wr rw sn ak n0 n1 := by rw [kJ_M, kJ_T, kJ_R, kJ_Q, kJ_F, KI_i hj hn]
      have hA : ∀ i, i < 962 → agA al k 962 i = al (962 * (k + 1) + i) := fun i hi => by unfold agA; rw [if_pos hi]
      have hW : ∀ i, i < 12 → agW wd k 12 i = wd (12 * (k + 1) + i) := fun i hi => by unfold agW; rw [if_pos hi]
      have hm3 : mI (agA al k 962) (agW wd k 12) PW := mI_ext hm2 hA hW
      have hr3 : kRc (agA al k 962) (agW wd k 12) (c j) := kR_ext hr2 hA hW
      have hr4 := kR_fr (nw := nw) (tw := tw) (mo := mo) (le := le) (gr := gr) (nu := nu) (tx := tx) (tq := tq) (fa := fa) hr3
      rw [← e0]
      refine c_ag hk (by omega) him hm3 hr4 (fun wn' te' lo' hi' mt' me' tt' ix' ov' su' wx' wy' wz' wi' wa' hJ' => ?_)
      rw [e0, ← ly_1]
      refine PO_mk (m_again (iR_hs hI) (fun k' hk' ek _ => ?_) (fun q => absurd ⟨k, hk, rfl, hh⟩ q))
      rw [nI_eq (by omega) (by omega)] at ek
      subst ek
      exact ⟨rfl, INV_mk hs0 hm3 hr4 hJ' (iR_e hI (fun i hi => agA_h hi) (fun i hi => agW_h hi))⟩
  · refine c_ag0 hv ?_
    rw [← ly_1]
    refine PO_mk (m_again (iR_hs hI) (fun k hk ek hh => ?_) (fun _ => ⟨rfl, INV_mk hs0 hm hr hJ hI⟩))
    refine absurd ⟨k, hk, ek, fun h0 => ?_⟩ hv
    rcases iR_at hI hk with ⟨_, h1⟩ | ⟨j, _, h1, _⟩
    · rw [hh] at h1; exact absurd h1 (by decide)
    · rw [h0] at h1; cases h1
