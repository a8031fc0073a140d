/-! ===== what holds between calls ===== -/
/-- a word's letters in a number, the first letter highest -/
def npack (bs : List Nat) : Nat := bs.foldl (fun a c => a * 256 + c) 0
def isW (v : Int64) : Prop := ∃ bs : List Nat, 1 ≤ bs.length ∧ bs.length ≤ 8 ∧ (∀ c ∈ bs, 97 ≤ c ∧ c ≤ 122) ∧ v = Int64.ofNat (npack bs)
/-- the cells on which the sets depend -/
def ac (al : Nat → Int32) : Nat → Int32 := fun j => if j = 2 ∨ (5 ≤ j ∧ j ≤ 8) ∨ (14 ≤ j ∧ j < 28) then al j else 0
/-- the bounds of the numbers -/
def bq (al : Nat → Int32) : Nat → Nat := fun j => if j < 4 then (al (14 + j)).toNatClampNeg else if j < 6 then (if al 2 = 7 then (al (14 + j)).toNatClampNeg else 0) else if j < 8 then (if al 6 < 0 then 0 else (al (14 + j)).toNatClampNeg) else 0
def mI (al : Nat → Int32) (wd : Nat → Int64) (W : Int64 → Prop) : Prop := (∃ n : Nat, n ≤ 6 ∧ al 0 = nI n) ∧ (∃ n : Nat, n ≤ 6 ∧ al 1 = nI n) ∧ (∀ k : Nat, k < 4 → ∃ l h : Nat, al (14 + 2 * k) = nI l ∧ al (15 + 2 * k) = nI h ∧ 1 ≤ l ∧ l ≤ h ∧ h ≤ 60 ∧ h ≤ l + 19) ∧ (∀ k : Nat, k < 6 → nI k < al 1 → ∃ m : Nat, 1 ≤ m ∧ m ≤ 9999 ∧ al (22 + k) = nI m) ∧ (al 2 = -1 ∨ ∃ s n t : Nat, s < 8 ∧ n < 6 ∧ t < 6 ∧ al 2 = nI s ∧ al 3 = nI n ∧ nI n < al 0 ∧ al 5 = nI t ∧ nI t < al 1 ∧ ((s = 4 ∨ s = 5) → ∃ m : Nat, m < 6 ∧ al 4 = nI m ∧ nI m < al 0 ∧ m ≠ n) ∧ (¬ (s = 4 ∨ s = 5) → al 4 = -1) ∧ ((al 6 = -1 ∧ al 7 = -1) ∨ ∃ i j : Nat, i < 6 ∧ j < 6 ∧ al 6 = nI i ∧ nI i < al 0 ∧ i ≠ n ∧ al 7 = nI j ∧ nI j < al 1 ∧ j ≠ t ∧ ((s = 4 ∨ s = 5) → nI i ≠ al 4))) ∧ (∃ n : Nat, n < 64 ∧ al 8 = nI n) ∧ (∃ n : Nat, n ≤ 20 ∧ al 9 = nI n) ∧ (∃ n : Nat, n ≤ 400 ∧ al 10 = nI n) ∧ (∃ n : Nat, n ≤ 400 ∧ al 11 = nI n) ∧ (∀ k n : Nat, al 11 = nI n → k < n → n ≤ 400 → ∃ c : Nat, c < 256 ∧ al (562 + k) = nI c) ∧ (∀ k n : Nat, al 10 = nI n → k < n → n ≤ 400 → ∃ c : Nat, c < 256 ∧ al (62 + k) = nI c) ∧ (∀ k : Nat, k < 6 → nI k < al 0 → W (wd k)) ∧ (∀ k : Nat, k < 6 → nI k < al 1 → W (wd (6 + k))) ∧ (∀ k j : Nat, k < 6 → nI k < al 0 → j < 6 → nI j < al 1 → wd k ≠ wd (6 + j))
theorem mI.n0 {al : Nat → Int32} {wd : Nat → Int64} {W : Int64 → Prop} (h : mI al wd W) : ∃ n : Nat, n ≤ 6 ∧ al 0 = nI n := h.1
theorem mI.n1 {al : Nat → Int32} {wd : Nat → Int64} {W : Int64 → Prop} (h : mI al wd W) : ∃ n : Nat, n ≤ 6 ∧ al 1 = nI n := h.2.1
theorem mI.sp {al : Nat → Int32} {wd : Nat → Int64} {W : Int64 → Prop} (h : mI al wd W) : ∀ k : Nat, k < 4 → ∃ l h : Nat, al (14 + 2 * k) = nI l ∧ al (15 + 2 * k) = nI h ∧ 1 ≤ l ∧ l ≤ h ∧ h ≤ 60 ∧ h ≤ l + 19 := h.2.2.1
theorem mI.mo {al : Nat → Int32} {wd : Nat → Int64} {W : Int64 → Prop} (h : mI al wd W) : ∀ k : Nat, k < 6 → nI k < al 1 → ∃ m : Nat, 1 ≤ m ∧ m ≤ 9999 ∧ al (22 + k) = nI m := h.2.2.2.1
theorem mI.pl {al : Nat → Int32} {wd : Nat → Int64} {W : Int64 → Prop} (h : mI al wd W) : al 2 = -1 ∨ ∃ s n t : Nat, s < 8 ∧ n < 6 ∧ t < 6 ∧ al 2 = nI s ∧ al 3 = nI n ∧ nI n < al 0 ∧ al 5 = nI t ∧ nI t < al 1 ∧ ((s = 4 ∨ s = 5) → ∃ m : Nat, m < 6 ∧ al 4 = nI m ∧ nI m < al 0 ∧ m ≠ n) ∧ (¬ (s = 4 ∨ s = 5) → al 4 = -1) ∧ ((al 6 = -1 ∧ al 7 = -1) ∨ ∃ i j : Nat, i < 6 ∧ j < 6 ∧ al 6 = nI i ∧ nI i < al 0 ∧ i ≠ n ∧ al 7 = nI j ∧ nI j < al 1 ∧ j ≠ t ∧ ((s = 4 ∨ s = 5) → nI i ≠ al 4)) := h.2.2.2.2.1
theorem mI.wy {al : Nat → Int32} {wd : Nat → Int64} {W : Int64 → Prop} (h : mI al wd W) : ∃ n : Nat, n < 64 ∧ al 8 = nI n := h.2.2.2.2.2.1
theorem mI.s9 {al : Nat → Int32} {wd : Nat → Int64} {W : Int64 → Prop} (h : mI al wd W) : ∃ n : Nat, n ≤ 20 ∧ al 9 = nI n := h.2.2.2.2.2.2.1
theorem mI.s10 {al : Nat → Int32} {wd : Nat → Int64} {W : Int64 → Prop} (h : mI al wd W) : ∃ n : Nat, n ≤ 400 ∧ al 10 = nI n := h.2.2.2.2.2.2.2.1
theorem mI.s11 {al : Nat → Int32} {wd : Nat → Int64} {W : Int64 → Prop} (h : mI al wd W) : ∃ n : Nat, n ≤ 400 ∧ al 11 = nI n := h.2.2.2.2.2.2.2.2.1
theorem mI.tp {al : Nat → Int32} {wd : Nat → Int64} {W : Int64 → Prop} (h : mI al wd W) : ∀ k n : Nat, al 11 = nI n → k < n → n ≤ 400 → ∃ c : Nat, c < 256 ∧ al (562 + k) = nI c := h.2.2.2.2.2.2.2.2.2.1
theorem mI.tx {al : Nat → Int32} {wd : Nat → Int64} {W : Int64 → Prop} (h : mI al wd W) : ∀ k n : Nat, al 10 = nI n → k < n → n ≤ 400 → ∃ c : Nat, c < 256 ∧ al (62 + k) = nI c := h.2.2.2.2.2.2.2.2.2.2.1
theorem mI.wn {al : Nat → Int32} {wd : Nat → Int64} {W : Int64 → Prop} (h : mI al wd W) : ∀ k : Nat, k < 6 → nI k < al 0 → W (wd k) := h.2.2.2.2.2.2.2.2.2.2.2.1
theorem mI.wt {al : Nat → Int32} {wd : Nat → Int64} {W : Int64 → Prop} (h : mI al wd W) : ∀ k : Nat, k < 6 → nI k < al 1 → W (wd (6 + k)) := h.2.2.2.2.2.2.2.2.2.2.2.2.1
theorem mI.wu {al : Nat → Int32} {wd : Nat → Int64} {W : Int64 → Prop} (h : mI al wd W) : ∀ k j : Nat, k < 6 → nI k < al 0 → j < 6 → nI j < al 1 → wd k ≠ wd (6 + j) := h.2.2.2.2.2.2.2.2.2.2.2.2.2
theorem mI.mk {al : Nat → Int32} {wd : Nat → Int64} {W : Int64 → Prop} (h0 : ∃ n : Nat, n ≤ 6 ∧ al 0 = nI n) (h1 : ∃ n : Nat, n ≤ 6 ∧ al 1 = nI n) (h2 : ∀ k : Nat, k < 4 → ∃ l h : Nat, al (14 + 2 * k) = nI l ∧ al (15 + 2 * k) = nI h ∧ 1 ≤ l ∧ l ≤ h ∧ h ≤ 60 ∧ h ≤ l + 19) (h3 : ∀ k : Nat, k < 6 → nI k < al 1 → ∃ m : Nat, 1 ≤ m ∧ m ≤ 9999 ∧ al (22 + k) = nI m) (h4 : al 2 = -1 ∨ ∃ s n t : Nat, s < 8 ∧ n < 6 ∧ t < 6 ∧ al 2 = nI s ∧ al 3 = nI n ∧ nI n < al 0 ∧ al 5 = nI t ∧ nI t < al 1 ∧ ((s = 4 ∨ s = 5) → ∃ m : Nat, m < 6 ∧ al 4 = nI m ∧ nI m < al 0 ∧ m ≠ n) ∧ (¬ (s = 4 ∨ s = 5) → al 4 = -1) ∧ ((al 6 = -1 ∧ al 7 = -1) ∨ ∃ i j : Nat, i < 6 ∧ j < 6 ∧ al 6 = nI i ∧ nI i < al 0 ∧ i ≠ n ∧ al 7 = nI j ∧ nI j < al 1 ∧ j ≠ t ∧ ((s = 4 ∨ s = 5) → nI i ≠ al 4))) (h5 : ∃ n : Nat, n < 64 ∧ al 8 = nI n) (h6 : ∃ n : Nat, n ≤ 20 ∧ al 9 = nI n) (h7 : ∃ n : Nat, n ≤ 400 ∧ al 10 = nI n) (h8 : ∃ n : Nat, n ≤ 400 ∧ al 11 = nI n) (h9 : ∀ k n : Nat, al 11 = nI n → k < n → n ≤ 400 → ∃ c : Nat, c < 256 ∧ al (562 + k) = nI c) (h10 : ∀ k n : Nat, al 10 = nI n → k < n → n ≤ 400 → ∃ c : Nat, c < 256 ∧ al (62 + k) = nI c) (h11 : ∀ k : Nat, k < 6 → nI k < al 0 → W (wd k)) (h12 : ∀ k : Nat, k < 6 → nI k < al 1 → W (wd (6 + k))) (h13 : ∀ k j : Nat, k < 6 → nI k < al 0 → j < 6 → nI j < al 1 → wd k ≠ wd (6 + j)) : mI al wd W := ⟨h0, h1, h2, h3, h4, h5, h6, h7, h8, h9, h10, h11, h12, h13⟩
def kR (al : Nat → Int32) (wd : Nat → Int64) (na th : Int32) (nw tw : Nat → Int64) (mo le gr : Nat → Int32) (to sh pn pm pt pi pj : Int32) (nu : Nat → Int32) (ss : Int32) (tx : Nat → Int32) (tl : Int32) (tq : Nat → Int32) (ql : Int32) (fa : Nat → Int32) (fu fp : Int32) : Prop := (na = al 0) ∧ (th = al 1) ∧ (∀ k : Nat, k < 6 → nw k = wd k) ∧ (∀ k : Nat, k < 6 → tw k = wd (6 + k)) ∧ (∀ k : Nat, k < 6 → mo k = al (22 + k)) ∧ (∀ k : Nat, k < 4 → le k = al (14 + 2 * k)) ∧ (∀ k : Nat, k < 4 → gr k = al (15 + 2 * k)) ∧ (to = al 8) ∧ (sh = al 2) ∧ (al 2 ≠ -1 → pn = al 3 ∧ pm = al 4 ∧ pt = al 5 ∧ pi = al 6 ∧ pj = al 7) ∧ (∀ k n : Nat, k < n → n ≤ 20 → al 9 = nI n → nu k = al (42 + k)) ∧ (ss = al 9) ∧ (∀ k n : Nat, k < n → n ≤ 400 → al 10 = nI n → tx k = al (62 + k)) ∧ (tl = al 10) ∧ (∀ k n : Nat, k < n → n ≤ 400 → al 11 = nI n → tq k = al (562 + k)) ∧ (ql = al 11) ∧ (∀ k : Nat, k < 11 → fa k = al (30 + k)) ∧ (fu = al 12) ∧ (fp = al 13)
theorem kR.na {al : Nat → Int32} {wd : Nat → Int64} {na th : Int32} {nw tw : Nat → Int64} {mo le gr : Nat → Int32} {to sh pn pm pt pi pj : Int32} {nu : Nat → Int32} {ss : Int32} {tx : Nat → Int32} {tl : Int32} {tq : Nat → Int32} {ql : Int32} {fa : Nat → Int32} {fu fp : Int32} (h : kR al wd na th nw tw mo le gr to sh pn pm pt pi pj nu ss tx tl tq ql fa fu fp) : na = al 0 := h.1
theorem kR.th {al : Nat → Int32} {wd : Nat → Int64} {na th : Int32} {nw tw : Nat → Int64} {mo le gr : Nat → Int32} {to sh pn pm pt pi pj : Int32} {nu : Nat → Int32} {ss : Int32} {tx : Nat → Int32} {tl : Int32} {tq : Nat → Int32} {ql : Int32} {fa : Nat → Int32} {fu fp : Int32} (h : kR al wd na th nw tw mo le gr to sh pn pm pt pi pj nu ss tx tl tq ql fa fu fp) : th = al 1 := h.2.1
theorem kR.nw {al : Nat → Int32} {wd : Nat → Int64} {na th : Int32} {nw tw : Nat → Int64} {mo le gr : Nat → Int32} {to sh pn pm pt pi pj : Int32} {nu : Nat → Int32} {ss : Int32} {tx : Nat → Int32} {tl : Int32} {tq : Nat → Int32} {ql : Int32} {fa : Nat → Int32} {fu fp : Int32} (h : kR al wd na th nw tw mo le gr to sh pn pm pt pi pj nu ss tx tl tq ql fa fu fp) : ∀ k : Nat, k < 6 → nw k = wd k := h.2.2.1
theorem kR.tw {al : Nat → Int32} {wd : Nat → Int64} {na th : Int32} {nw tw : Nat → Int64} {mo le gr : Nat → Int32} {to sh pn pm pt pi pj : Int32} {nu : Nat → Int32} {ss : Int32} {tx : Nat → Int32} {tl : Int32} {tq : Nat → Int32} {ql : Int32} {fa : Nat → Int32} {fu fp : Int32} (h : kR al wd na th nw tw mo le gr to sh pn pm pt pi pj nu ss tx tl tq ql fa fu fp) : ∀ k : Nat, k < 6 → tw k = wd (6 + k) := h.2.2.2.1
theorem kR.mo {al : Nat → Int32} {wd : Nat → Int64} {na th : Int32} {nw tw : Nat → Int64} {mo le gr : Nat → Int32} {to sh pn pm pt pi pj : Int32} {nu : Nat → Int32} {ss : Int32} {tx : Nat → Int32} {tl : Int32} {tq : Nat → Int32} {ql : Int32} {fa : Nat → Int32} {fu fp : Int32} (h : kR al wd na th nw tw mo le gr to sh pn pm pt pi pj nu ss tx tl tq ql fa fu fp) : ∀ k : Nat, k < 6 → mo k = al (22 + k) := h.2.2.2.2.1
theorem kR.le {al : Nat → Int32} {wd : Nat → Int64} {na th : Int32} {nw tw : Nat → Int64} {mo le gr : Nat → Int32} {to sh pn pm pt pi pj : Int32} {nu : Nat → Int32} {ss : Int32} {tx : Nat → Int32} {tl : Int32} {tq : Nat → Int32} {ql : Int32} {fa : Nat → Int32} {fu fp : Int32} (h : kR al wd na th nw tw mo le gr to sh pn pm pt pi pj nu ss tx tl tq ql fa fu fp) : ∀ k : Nat, k < 4 → le k = al (14 + 2 * k) := h.2.2.2.2.2.1
theorem kR.gr {al : Nat → Int32} {wd : Nat → Int64} {na th : Int32} {nw tw : Nat → Int64} {mo le gr : Nat → Int32} {to sh pn pm pt pi pj : Int32} {nu : Nat → Int32} {ss : Int32} {tx : Nat → Int32} {tl : Int32} {tq : Nat → Int32} {ql : Int32} {fa : Nat → Int32} {fu fp : Int32} (h : kR al wd na th nw tw mo le gr to sh pn pm pt pi pj nu ss tx tl tq ql fa fu fp) : ∀ k : Nat, k < 4 → gr k = al (15 + 2 * k) := h.2.2.2.2.2.2.1
theorem kR.to {al : Nat → Int32} {wd : Nat → Int64} {na th : Int32} {nw tw : Nat → Int64} {mo le gr : Nat → Int32} {to sh pn pm pt pi pj : Int32} {nu : Nat → Int32} {ss : Int32} {tx : Nat → Int32} {tl : Int32} {tq : Nat → Int32} {ql : Int32} {fa : Nat → Int32} {fu fp : Int32} (h : kR al wd na th nw tw mo le gr to sh pn pm pt pi pj nu ss tx tl tq ql fa fu fp) : to = al 8 := h.2.2.2.2.2.2.2.1
theorem kR.sh {al : Nat → Int32} {wd : Nat → Int64} {na th : Int32} {nw tw : Nat → Int64} {mo le gr : Nat → Int32} {to sh pn pm pt pi pj : Int32} {nu : Nat → Int32} {ss : Int32} {tx : Nat → Int32} {tl : Int32} {tq : Nat → Int32} {ql : Int32} {fa : Nat → Int32} {fu fp : Int32} (h : kR al wd na th nw tw mo le gr to sh pn pm pt pi pj nu ss tx tl tq ql fa fu fp) : sh = al 2 := h.2.2.2.2.2.2.2.2.1
theorem kR.pl {al : Nat → Int32} {wd : Nat → Int64} {na th : Int32} {nw tw : Nat → Int64} {mo le gr : Nat → Int32} {to sh pn pm pt pi pj : Int32} {nu : Nat → Int32} {ss : Int32} {tx : Nat → Int32} {tl : Int32} {tq : Nat → Int32} {ql : Int32} {fa : Nat → Int32} {fu fp : Int32} (h : kR al wd na th nw tw mo le gr to sh pn pm pt pi pj nu ss tx tl tq ql fa fu fp) : al 2 ≠ -1 → pn = al 3 ∧ pm = al 4 ∧ pt = al 5 ∧ pi = al 6 ∧ pj = al 7 := h.2.2.2.2.2.2.2.2.2.1
theorem kR.nu {al : Nat → Int32} {wd : Nat → Int64} {na th : Int32} {nw tw : Nat → Int64} {mo le gr : Nat → Int32} {to sh pn pm pt pi pj : Int32} {nu : Nat → Int32} {ss : Int32} {tx : Nat → Int32} {tl : Int32} {tq : Nat → Int32} {ql : Int32} {fa : Nat → Int32} {fu fp : Int32} (h : kR al wd na th nw tw mo le gr to sh pn pm pt pi pj nu ss tx tl tq ql fa fu fp) : ∀ k n : Nat, k < n → n ≤ 20 → al 9 = nI n → nu k = al (42 + k) := h.2.2.2.2.2.2.2.2.2.2.1
theorem kR.ss {al : Nat → Int32} {wd : Nat → Int64} {na th : Int32} {nw tw : Nat → Int64} {mo le gr : Nat → Int32} {to sh pn pm pt pi pj : Int32} {nu : Nat → Int32} {ss : Int32} {tx : Nat → Int32} {tl : Int32} {tq : Nat → Int32} {ql : Int32} {fa : Nat → Int32} {fu fp : Int32} (h : kR al wd na th nw tw mo le gr to sh pn pm pt pi pj nu ss tx tl tq ql fa fu fp) : ss = al 9 := h.2.2.2.2.2.2.2.2.2.2.2.1
theorem kR.tx {al : Nat → Int32} {wd : Nat → Int64} {na th : Int32} {nw tw : Nat → Int64} {mo le gr : Nat → Int32} {to sh pn pm pt pi pj : Int32} {nu : Nat → Int32} {ss : Int32} {tx : Nat → Int32} {tl : Int32} {tq : Nat → Int32} {ql : Int32} {fa : Nat → Int32} {fu fp : Int32} (h : kR al wd na th nw tw mo le gr to sh pn pm pt pi pj nu ss tx tl tq ql fa fu fp) : ∀ k n : Nat, k < n → n ≤ 400 → al 10 = nI n → tx k = al (62 + k) := h.2.2.2.2.2.2.2.2.2.2.2.2.1
theorem kR.tl {al : Nat → Int32} {wd : Nat → Int64} {na th : Int32} {nw tw : Nat → Int64} {mo le gr : Nat → Int32} {to sh pn pm pt pi pj : Int32} {nu : Nat → Int32} {ss : Int32} {tx : Nat → Int32} {tl : Int32} {tq : Nat → Int32} {ql : Int32} {fa : Nat → Int32} {fu fp : Int32} (h : kR al wd na th nw tw mo le gr to sh pn pm pt pi pj nu ss tx tl tq ql fa fu fp) : tl = al 10 := h.2.2.2.2.2.2.2.2.2.2.2.2.2.1
theorem kR.tq {al : Nat → Int32} {wd : Nat → Int64} {na th : Int32} {nw tw : Nat → Int64} {mo le gr : Nat → Int32} {to sh pn pm pt pi pj : Int32} {nu : Nat → Int32} {ss : Int32} {tx : Nat → Int32} {tl : Int32} {tq : Nat → Int32} {ql : Int32} {fa : Nat → Int32} {fu fp : Int32} (h : kR al wd na th nw tw mo le gr to sh pn pm pt pi pj nu ss tx tl tq ql fa fu fp) : ∀ k n : Nat, k < n → n ≤ 400 → al 11 = nI n → tq k = al (562 + k) := h.2.2.2.2.2.2.2.2.2.2.2.2.2.2.1
theorem kR.ql {al : Nat → Int32} {wd : Nat → Int64} {na th : Int32} {nw tw : Nat → Int64} {mo le gr : Nat → Int32} {to sh pn pm pt pi pj : Int32} {nu : Nat → Int32} {ss : Int32} {tx : Nat → Int32} {tl : Int32} {tq : Nat → Int32} {ql : Int32} {fa : Nat → Int32} {fu fp : Int32} (h : kR al wd na th nw tw mo le gr to sh pn pm pt pi pj nu ss tx tl tq ql fa fu fp) : ql = al 11 := h.2.2.2.2.2.2.2.2.2.2.2.2.2.2.2.1
theorem kR.fa {al : Nat → Int32} {wd : Nat → Int64} {na th : Int32} {nw tw : Nat → Int64} {mo le gr : Nat → Int32} {to sh pn pm pt pi pj : Int32} {nu : Nat → Int32} {ss : Int32} {tx : Nat → Int32} {tl : Int32} {tq : Nat → Int32} {ql : Int32} {fa : Nat → Int32} {fu fp : Int32} (h : kR al wd na th nw tw mo le gr to sh pn pm pt pi pj nu ss tx tl tq ql fa fu fp) : ∀ k : Nat, k < 11 → fa k = al (30 + k) := h.2.2.2.2.2.2.2.2.2.2.2.2.2.2.2.2.1
theorem kR.fu {al : Nat → Int32} {wd : Nat → Int64} {na th : Int32} {nw tw : Nat → Int64} {mo le gr : Nat → Int32} {to sh pn pm pt pi pj : Int32} {nu : Nat → Int32} {ss : Int32} {tx : Nat → Int32} {tl : Int32} {tq : Nat → Int32} {ql : Int32} {fa : Nat → Int32} {fu fp : Int32} (h : kR al wd na th nw tw mo le gr to sh pn pm pt pi pj nu ss tx tl tq ql fa fu fp) : fu = al 12 := h.2.2.2.2.2.2.2.2.2.2.2.2.2.2.2.2.2.1
theorem kR.fp {al : Nat → Int32} {wd : Nat → Int64} {na th : Int32} {nw tw : Nat → Int64} {mo le gr : Nat → Int32} {to sh pn pm pt pi pj : Int32} {nu : Nat → Int32} {ss : Int32} {tx : Nat → Int32} {tl : Int32} {tq : Nat → Int32} {ql : Int32} {fa : Nat → Int32} {fu fp : Int32} (h : kR al wd na th nw tw mo le gr to sh pn pm pt pi pj nu ss tx tl tq ql fa fu fp) : fp = al 13 := h.2.2.2.2.2.2.2.2.2.2.2.2.2.2.2.2.2.2
theorem kR.mk {al : Nat → Int32} {wd : Nat → Int64} {na th : Int32} {nw tw : Nat → Int64} {mo le gr : Nat → Int32} {to sh pn pm pt pi pj : Int32} {nu : Nat → Int32} {ss : Int32} {tx : Nat → Int32} {tl : Int32} {tq : Nat → Int32} {ql : Int32} {fa : Nat → Int32} {fu fp : Int32} (h0 : na = al 0) (h1 : th = al 1) (h2 : ∀ k : Nat, k < 6 → nw k = wd k) (h3 : ∀ k : Nat, k < 6 → tw k = wd (6 + k)) (h4 : ∀ k : Nat, k < 6 → mo k = al (22 + k)) (h5 : ∀ k : Nat, k < 4 → le k = al (14 + 2 * k)) (h6 : ∀ k : Nat, k < 4 → gr k = al (15 + 2 * k)) (h7 : to = al 8) (h8 : sh = al 2) (h9 : al 2 ≠ -1 → pn = al 3 ∧ pm = al 4 ∧ pt = al 5 ∧ pi = al 6 ∧ pj = al 7) (h10 : ∀ k n : Nat, k < n → n ≤ 20 → al 9 = nI n → nu k = al (42 + k)) (h11 : ss = al 9) (h12 : ∀ k n : Nat, k < n → n ≤ 400 → al 10 = nI n → tx k = al (62 + k)) (h13 : tl = al 10) (h14 : ∀ k n : Nat, k < n → n ≤ 400 → al 11 = nI n → tq k = al (562 + k)) (h15 : ql = al 11) (h16 : ∀ k : Nat, k < 11 → fa k = al (30 + k)) (h17 : fu = al 12) (h18 : fp = al 13) : kR al wd na th nw tw mo le gr to sh pn pm pt pi pj nu ss tx tl tq ql fa fu fp := ⟨h0, h1, h2, h3, h4, h5, h6, h7, h8, h9, h10, h11, h12, h13, h14, h15, h16, h17, h18⟩
theorem ac_in {al : Nat → Int32} {j : Nat} (h : j = 2 ∨ (5 ≤ j ∧ j ≤ 8) ∨ (14 ≤ j ∧ j < 28)) : ac al j = al j := by unfold ac; rw [if_pos h]
abbrev bA (al : Nat → Int32) : Nat → Nat := bq (ac al)
theorem bA_v {al : Nat → Int32} {wd : Nat → Int64} {W : Int64 → Prop} (h : mI al wd W) : al 14 = nI (bA al 0) ∧ al 15 = nI (bA al 1) ∧ al 16 = nI (bA al 2) ∧ al 17 = nI (bA al 3) ∧ (if al 2 = 7 then al 18 else 0) = nI (bA al 4) ∧ (if al 2 = 7 then al 19 else 0) = nI (bA al 5) ∧ (if al 6 < 0 then 0 else al 20) = nI (bA al 6) ∧ (if al 6 < 0 then 0 else al 21) = nI (bA al 7) := by
  obtain ⟨l0, h0, a0, b0, c0⟩ := h.sp 0 (by omega)
  obtain ⟨l1, h1, a1, b1, c1⟩ := h.sp 1 (by omega)
  obtain ⟨l2, h2, a2, b2, c2⟩ := h.sp 2 (by omega)
  obtain ⟨l3, h3, a3, b3, c3⟩ := h.sp 3 (by omega)
  simp only [Nat.mul_zero, Nat.mul_one, Nat.reduceMul, Nat.reduceAdd, Nat.add_zero] at a0 b0 a1 b1 a2 b2 a3 b3
  have e : ∀ j, j < 8 → ac al (14 + j) = al (14 + j) := fun j hj => ac_in (by omega)
  have e0 := e 0 (by omega); have e1 := e 1 (by omega); have e2 := e 2 (by omega); have e3 := e 3 (by omega)
  have e4 := e 4 (by omega); have e5 := e 5 (by omega); have e6 := e 6 (by omega); have e7 := e 7 (by omega)
  have s2 : ac al 2 = al 2 := ac_in (by omega)
  have s6 : ac al 6 = al 6 := ac_in (by omega)
  simp only [Nat.reduceAdd, Nat.add_zero] at e0 e1 e2 e3 e4 e5 e6 e7
  refine ⟨?_, ?_, ?_, ?_, ?_, ?_, ?_, ?_⟩ <;> unfold bA bq <;> simp +decide only [if_true, if_false, Nat.reduceAdd, Nat.add_zero, e0, e1, e2, e3, e4, e5, e6, e7, s2, s6, a0, b0, a1, b1, a2, b2, a3, b3]
  · rw [nI_clamp (by omega)]
  · rw [nI_clamp (by omega)]
  · rw [nI_clamp (by omega)]
  · rw [nI_clamp (by omega)]
  · by_cases h7 : al 2 = 7
    · rw [if_pos h7, if_pos h7, nI_clamp (by omega)]
    · rw [if_neg h7, if_neg h7]; rfl
  · by_cases h7 : al 2 = 7
    · rw [if_pos h7, if_pos h7, nI_clamp (by omega)]
    · rw [if_neg h7, if_neg h7]; rfl
  · by_cases h7 : al 6 < 0
    · rw [if_pos h7, if_pos h7]; rfl
    · rw [if_neg h7, if_neg h7, nI_clamp (by omega)]
  · by_cases h7 : al 6 < 0
    · rw [if_pos h7, if_pos h7]; rfl
    · rw [if_neg h7, if_neg h7, nI_clamp (by omega)]
theorem wB_a {al : Nat → Int32} {wd : Nat → Int64} {W : Int64 → Prop} (h : mI al wd W) : wB (ac al) (bA al) := by
  obtain ⟨q0, q1, q2, q3, q4, q5, q6, q7⟩ := bA_v h
  have hb : ∀ j, bA al j < 2 ^ 31 := by
    intro j; unfold bA bq
    have : ∀ x : Int32, x.toNatClampNeg < 2 ^ 31 := fun x => by have := x.toInt_lt; unfold Int32.toNatClampNeg; omega
    repeat' split
    all_goals first | exact this _ | omega
  obtain ⟨l0, h0, a0, b0, c0⟩ := h.sp 0 (by omega)
  obtain ⟨l1, h1, a1, b1, c1⟩ := h.sp 1 (by omega)
  obtain ⟨l2, h2, a2, b2, c2⟩ := h.sp 2 (by omega)
  obtain ⟨l3, h3, a3, b3, c3⟩ := h.sp 3 (by omega)
  simp only [Nat.mul_zero, Nat.mul_one, Nat.reduceMul, Nat.reduceAdd, Nat.add_zero] at a0 b0 a1 b1 a2 b2 a3 b3
  rw [a0, nI_eq (by omega) (hb _)] at q0
  rw [b0, nI_eq (by omega) (hb _)] at q1
  rw [a1, nI_eq (by omega) (hb _)] at q2
  rw [b1, nI_eq (by omega) (hb _)] at q3
  have e4 : bA al 4 = if al 2 = 7 then l2 else 0 := by
    by_cases h7 : al 2 = 7
    · rw [if_pos h7, a2, nI_eq (by omega) (hb _)] at q4; rw [if_pos h7, q4]
    · rw [if_neg h7, ← nI_0, nI_eq (by omega) (hb _)] at q4; rw [if_neg h7, q4]
  have e5 : bA al 5 = if al 2 = 7 then h2 else 0 := by
    by_cases h7 : al 2 = 7
    · rw [if_pos h7, b2, nI_eq (by omega) (hb _)] at q5; rw [if_pos h7, q5]
    · rw [if_neg h7, ← nI_0, nI_eq (by omega) (hb _)] at q5; rw [if_neg h7, q5]
  have e6 : bA al 6 = if al 6 < 0 then 0 else l3 := by
    by_cases h7 : al 6 < 0
    · rw [if_pos h7, ← nI_0, nI_eq (by omega) (hb _)] at q6; rw [if_pos h7, q6]
    · rw [if_neg h7, a3, nI_eq (by omega) (hb _)] at q6; rw [if_neg h7, q6]
  have e7 : bA al 7 = if al 6 < 0 then 0 else h3 := by
    by_cases h7 : al 6 < 0
    · rw [if_pos h7, ← nI_0, nI_eq (by omega) (hb _)] at q7; rw [if_pos h7, q7]
    · rw [if_neg h7, b3, nI_eq (by omega) (hb _)] at q7; rw [if_neg h7, q7]
  unfold wB
  rw [ac_in (j := 2) (by omega), ← q0, ← q1, ← q2, ← q3, e4, e5, e6, e7]
  refine ⟨by omega, by omega, ?_, ?_, by omega, ?_⟩
  · split <;> omega
  · split <;> omega
  · intro h7; rw [if_pos h7]; omega
/-- the sets depend on these cells alone -/
theorem ac_mo {al : Nat → Int32} {wd : Nat → Int64} {W : Int64 → Prop} (h : mI al wd W) (hs : al 2 ≠ -1) : (∃ t : Nat, t < 6 ∧ al 5 = nI t ∧ (22 + al 5).toNatClampNeg = 22 + t ∧ vp_in (22 + al 5) 3848) ∧ (¬ al 6 < 0 → ∃ t : Nat, t < 6 ∧ al 7 = nI t ∧ (22 + al 7).toNatClampNeg = 22 + t ∧ vp_in (22 + al 7) 3848) := by
  have ha : ∀ t : Nat, t < 6 → (22 + nI t).toNatClampNeg = 22 + t ∧ vp_in (22 + nI t) 3848 := by
    intro t ht
    rw [show (22 : Int32) = nI 22 from rfl, nI_add, nI_clamp (by omega)]
    exact ⟨rfl, vp_in_nI (by omega) (by omega)⟩
  rcases h.pl with h1 | ⟨s, n, t, hs8, hn, ht, e2, e3, l3, e5, l5, hp, hp', hi⟩
  · exact absurd h1 hs
  · refine ⟨⟨t, ht, e5, ?_⟩, fun h6 => ?_⟩
    · rw [e5]; exact ha t ht
    · rcases hi with ⟨h7, _⟩ | ⟨i, j, hi, hj, f6, _, _, f7, _⟩
      · rw [h7] at h6; exact absurd (by decide) h6
      · refine ⟨j, hj, f7, ?_⟩
        rw [f7]; exact ha j hj
theorem ac_all {al : Nat → Int32} {wd : Nat → Int64} {W : Int64 → Prop} (h : mI al wd W) (hs : al 2 ≠ -1) (b : Nat → Nat) : q_all (ac al) b = q_all al b := by
  obtain ⟨⟨t, ht, e5, c5, _⟩, hj⟩ := ac_mo h hs
  have s2 : ac al 2 = al 2 := ac_in (by omega)
  have s5 : ac al 5 = al 5 := ac_in (by omega)
  have s6 : ac al 6 = al 6 := ac_in (by omega)
  have s7 : ac al 7 = al 7 := ac_in (by omega)
  have s8 : ac al 8 = al 8 := ac_in (by omega)
  have z : q_zr (ac al) = q_zr al := by
    funext x y z
    unfold q_zr
    rw [s2, s5, c5, ac_in (j := 22 + t) (by omega)]
  have i : p_idl (ac al) = p_idl al := by
    funext x y z i
    unfold p_idl
    rw [s2, s6, s7, s8]
    by_cases h6 : al 6 < 0
    · simp only [h6, decide_true, Bool.true_or]
    · obtain ⟨j, hj1, _, c7, _⟩ := hj h6
      rw [c7, ac_in (j := 22 + j) (by omega)]
  unfold q_all q_x q_y q_z q_i
  rw [z, i]
