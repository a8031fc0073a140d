/-! ===== the class's run is the reference's ===== -/
def Rn0 : List Nat := [0, 0, 0, 0, 0, 0, 0, 0, 0, 0, 0, 0]
theorem vn0 : ∀ c, c < 61 → vgo c 0 Rn0 = (if c = 17 then (none, [99, 99, 99, 99, 99, 3, 99, 99, 99, 99, 99, 99], [78, 78, 78, 78, 78, 17, 78, 23, 24, 24, 24, 24]) else if c = 23 then (none, [99, 99, 99, 99, 99, 99, 99, 4, 99, 99, 99, 99], [78, 78, 78, 78, 78, 17, 78, 23, 24, 24, 24, 24]) else if c = 24 then (none, [99, 99, 99, 99, 99, 99, 99, 99, 4, 4, 4, 4], [78, 78, 78, 78, 78, 17, 78, 23, 24, 24, 24, 24]) else if (40 ≤ c ∧ c ≤ 45) then (none, [2, 2, 2, 2, 2, 99, 2, 99, 99, 99, 99, 99], [78, 78, 78, 78, 78, 17, 78, 23, 24, 24, 24, 24]) else (none, [99, 99, 99, 99, 99, 99, 99, 99, 99, 99, 99, 99], [78, 78, 78, 78, 78, 17, 78, 23, 24, 24, 24, 24])) := by decide +kernel
def Rn1 : List Nat := [99, 99, 99, 99, 99, 3, 99, 99, 99, 99, 99, 99]
theorem vn1 : ∀ c, c < 61 → vgo c 0 Rn1 = (if c = 18 then (none, [99, 99, 99, 99, 99, 5, 99, 99, 99, 99, 99, 99], [18]) else (none, [99, 99, 99, 99, 99, 99, 99, 99, 99, 99, 99, 99], [18])) := by decide +kernel
def Rn2 : List Nat := [99, 99, 99, 99, 99, 5, 99, 99, 99, 99, 99, 99]
theorem vn2 : ∀ c, c < 61 → vgo c 0 Rn2 = (if c = 19 then (none, [99, 99, 99, 99, 99, 9, 99, 99, 99, 99, 99, 99], [19]) else (none, [99, 99, 99, 99, 99, 99, 99, 99, 99, 99, 99, 99], [19])) := by decide +kernel
def Rn3 : List Nat := [99, 99, 99, 99, 99, 9, 99, 99, 99, 99, 99, 99]
theorem vn3 : ∀ c, c < 61 → vgo c 0 Rn3 = (if c = 20 then (none, [99, 99, 99, 99, 99, 13, 99, 99, 99, 99, 99, 99], [20]) else (none, [99, 99, 99, 99, 99, 99, 99, 99, 99, 99, 99, 99], [20])) := by decide +kernel
def Rn4 : List Nat := [99, 99, 99, 99, 99, 13, 99, 99, 99, 99, 99, 99]
theorem vn4 : ∀ c, c < 61 → vgo c 0 Rn4 = (if c = 1 then (none, [99, 99, 99, 99, 99, 15, 99, 99, 99, 99, 99, 99], [88]) else (none, [99, 99, 99, 99, 99, 99, 99, 99, 99, 99, 99, 99], [88])) := by decide +kernel
def Rn5 : List Nat := [99, 99, 99, 99, 99, 15, 99, 99, 99, 99, 99, 99]
theorem vn5 : ∀ c, c < 61 → vgo c 0 Rn5 = (if (50 ≤ c ∧ c ≤ 55) then (none, [99, 99, 99, 99, 99, 16, 99, 99, 99, 99, 99, 99], [84]) else (none, [99, 99, 99, 99, 99, 99, 99, 99, 99, 99, 99, 99], [84])) := by decide +kernel
def Rn6 : List Nat := [99, 99, 99, 99, 99, 16, 99, 99, 99, 99, 99, 99]
theorem vn6 : ∀ c, c < 61 → vgo c 0 Rn6 = (if c = 2 then (some 5, [99, 99, 99, 99, 99, 17], [2]) else (none, [99, 99, 99, 99, 99, 99, 99, 99, 99, 99, 99, 99], [2])) := by decide +kernel
def Rn7 : List Nat := [99, 99, 99, 99, 99, 99, 99, 4, 99, 99, 99, 99]
theorem vn7 : ∀ c, c < 61 → vgo c 0 Rn7 = (if (40 ≤ c ∧ c ≤ 45) then (none, [99, 99, 99, 99, 99, 99, 99, 6, 99, 99, 99, 99], [78]) else (none, [99, 99, 99, 99, 99, 99, 99, 99, 99, 99, 99, 99], [78])) := by decide +kernel
def Rn8 : List Nat := [99, 99, 99, 99, 99, 99, 99, 6, 99, 99, 99, 99]
theorem vn8 : ∀ c, c < 61 → vgo c 0 Rn8 = (if c = 10 then (none, [99, 99, 99, 99, 99, 99, 99, 10, 99, 99, 99, 99], [10]) else (none, [99, 99, 99, 99, 99, 99, 99, 99, 99, 99, 99, 99], [10])) := by decide +kernel
def Rn9 : List Nat := [99, 99, 99, 99, 99, 99, 99, 10, 99, 99, 99, 99]
theorem vn9 : ∀ c, c < 61 → vgo c 0 Rn9 = (if c = 1 then (none, [99, 99, 99, 99, 99, 99, 99, 12, 99, 99, 99, 99], [88]) else (none, [99, 99, 99, 99, 99, 99, 99, 99, 99, 99, 99, 99], [88])) := by decide +kernel
def Rn10 : List Nat := [99, 99, 99, 99, 99, 99, 99, 12, 99, 99, 99, 99]
theorem vn10 : ∀ c, c < 61 → vgo c 0 Rn10 = (if (50 ≤ c ∧ c ≤ 55) then (none, [99, 99, 99, 99, 99, 99, 99, 13, 99, 99, 99, 99], [84]) else (none, [99, 99, 99, 99, 99, 99, 99, 99, 99, 99, 99, 99], [84])) := by decide +kernel
def Rn11 : List Nat := [99, 99, 99, 99, 99, 99, 99, 13, 99, 99, 99, 99]
theorem vn11 : ∀ c, c < 61 → vgo c 0 Rn11 = (if c = 2 then (some 7, [99, 99, 99, 99, 99, 99, 99, 14], [2]) else (none, [99, 99, 99, 99, 99, 99, 99, 99, 99, 99, 99, 99], [2])) := by decide +kernel
def Rn12 : List Nat := [99, 99, 99, 99, 99, 99, 99, 99, 4, 4, 4, 4]
theorem vn12 : ∀ c, c < 61 → vgo c 0 Rn12 = (if c = 25 then (none, [99, 99, 99, 99, 99, 99, 99, 99, 9, 9, 9, 9], [25, 25, 25, 25]) else (none, [99, 99, 99, 99, 99, 99, 99, 99, 99, 99, 99, 99], [25, 25, 25, 25])) := by decide +kernel
def Rn13 : List Nat := [99, 99, 99, 99, 99, 99, 99, 99, 9, 9, 9, 9]
theorem vn13 : ∀ c, c < 61 → vgo c 0 Rn13 = (if (50 ≤ c ∧ c ≤ 55) then (none, [99, 99, 99, 99, 99, 99, 99, 99, 11, 11, 11, 11], [84, 84, 84, 84]) else (none, [99, 99, 99, 99, 99, 99, 99, 99, 99, 99, 99, 99], [84, 84, 84, 84])) := by decide +kernel
def Rn14 : List Nat := [99, 99, 99, 99, 99, 99, 99, 99, 11, 11, 11, 11]
theorem vn14 : ∀ c, c < 61 → vgo c 0 Rn14 = (if c = 10 then (none, [99, 99, 99, 99, 99, 99, 99, 99, 15, 99, 99, 99], [10, 20, 26, 28]) else if c = 20 then (none, [99, 99, 99, 99, 99, 99, 99, 99, 99, 15, 99, 99], [10, 20, 26, 28]) else if c = 26 then (none, [99, 99, 99, 99, 99, 99, 99, 99, 99, 99, 16, 99], [10, 20, 26, 28]) else if c = 28 then (none, [99, 99, 99, 99, 99, 99, 99, 99, 99, 99, 99, 15], [10, 20, 26, 28]) else (none, [99, 99, 99, 99, 99, 99, 99, 99, 99, 99, 99, 99], [10, 20, 26, 28])) := by decide +kernel
def Rn15 : List Nat := [99, 99, 99, 99, 99, 99, 99, 99, 15, 99, 99, 99]
theorem vn15 : ∀ c, c < 61 → vgo c 0 Rn15 = (if (40 ≤ c ∧ c ≤ 45) then (none, [99, 99, 99, 99, 99, 99, 99, 99, 16, 99, 99, 99], [78]) else (none, [99, 99, 99, 99, 99, 99, 99, 99, 99, 99, 99, 99], [78])) := by decide +kernel
def Rn16 : List Nat := [99, 99, 99, 99, 99, 99, 99, 99, 16, 99, 99, 99]
theorem vn16 : ∀ c, c < 61 → vgo c 0 Rn16 = (if c = 3 then (some 8, [99, 99, 99, 99, 99, 99, 99, 99, 17], [3]) else (none, [99, 99, 99, 99, 99, 99, 99, 99, 99, 99, 99, 99], [3])) := by decide +kernel
def Rn17 : List Nat := [99, 99, 99, 99, 99, 99, 99, 99, 99, 15, 99, 99]
theorem vn17 : ∀ c, c < 61 → vgo c 0 Rn17 = (if c = 17 then (none, [99, 99, 99, 99, 99, 99, 99, 99, 99, 18, 99, 99], [17]) else (none, [99, 99, 99, 99, 99, 99, 99, 99, 99, 99, 99, 99], [17])) := by decide +kernel
def Rn18 : List Nat := [99, 99, 99, 99, 99, 99, 99, 99, 99, 18, 99, 99]
theorem vn18 : ∀ c, c < 61 → vgo c 0 Rn18 = (if c = 18 then (none, [99, 99, 99, 99, 99, 99, 99, 99, 99, 20, 99, 99], [18]) else (none, [99, 99, 99, 99, 99, 99, 99, 99, 99, 99, 99, 99], [18])) := by decide +kernel
def Rn19 : List Nat := [99, 99, 99, 99, 99, 99, 99, 99, 99, 20, 99, 99]
theorem vn19 : ∀ c, c < 61 → vgo c 0 Rn19 = (if c = 19 then (none, [99, 99, 99, 99, 99, 99, 99, 99, 99, 23, 99, 99], [19]) else (none, [99, 99, 99, 99, 99, 99, 99, 99, 99, 99, 99, 99], [19])) := by decide +kernel
def Rn20 : List Nat := [99, 99, 99, 99, 99, 99, 99, 99, 99, 23, 99, 99]
theorem vn20 : ∀ c, c < 61 → vgo c 0 Rn20 = (if c = 3 then (some 9, [99, 99, 99, 99, 99, 99, 99, 99, 99, 24], [3]) else (none, [99, 99, 99, 99, 99, 99, 99, 99, 99, 99, 99, 99], [3])) := by decide +kernel
def Rn21 : List Nat := [99, 99, 99, 99, 99, 99, 99, 99, 99, 99, 16, 99]
theorem vn21 : ∀ c, c < 61 → vgo c 0 Rn21 = (if c = 27 then (none, [99, 99, 99, 99, 99, 99, 99, 99, 99, 99, 20, 99], [27]) else (none, [99, 99, 99, 99, 99, 99, 99, 99, 99, 99, 99, 99], [27])) := by decide +kernel
def Rn22 : List Nat := [99, 99, 99, 99, 99, 99, 99, 99, 99, 99, 20, 99]
theorem vn22 : ∀ c, c < 61 → vgo c 0 Rn22 = (if c = 3 then (some 10, [99, 99, 99, 99, 99, 99, 99, 99, 99, 99, 21], [3]) else (none, [99, 99, 99, 99, 99, 99, 99, 99, 99, 99, 99, 99], [3])) := by decide +kernel
def Rn23 : List Nat := [99, 99, 99, 99, 99, 99, 99, 99, 99, 99, 99, 15]
theorem vn23 : ∀ c, c < 61 → vgo c 0 Rn23 = (if (40 ≤ c ∧ c ≤ 45) then (none, [99, 99, 99, 99, 99, 99, 99, 99, 99, 99, 99, 16], [78]) else (none, [99, 99, 99, 99, 99, 99, 99, 99, 99, 99, 99, 99], [78])) := by decide +kernel
def Rn24 : List Nat := [99, 99, 99, 99, 99, 99, 99, 99, 99, 99, 99, 16]
theorem vn24 : ∀ c, c < 61 → vgo c 0 Rn24 = (if c = 3 then (some 11, [99, 99, 99, 99, 99, 99, 99, 99, 99, 99, 99, 17], [3]) else (none, [99, 99, 99, 99, 99, 99, 99, 99, 99, 99, 99, 99], [3])) := by decide +kernel
def Rn25 : List Nat := [2, 2, 2, 2, 2, 99, 2, 99, 99, 99, 99, 99]
theorem vn25 : ∀ c, c < 61 → vgo c 0 Rn25 = (if c = 10 then (none, [6, 6, 99, 99, 99, 99, 6, 99, 99, 99, 99, 99], [10, 10, 12, 13, 14, 10]) else if c = 12 then (none, [99, 99, 7, 99, 99, 99, 99, 99, 99, 99, 99, 99], [10, 10, 12, 13, 14, 10]) else if c = 13 then (none, [99, 99, 99, 8, 99, 99, 99, 99, 99, 99, 99, 99], [10, 10, 12, 13, 14, 10]) else if c = 14 then (none, [99, 99, 99, 99, 7, 99, 99, 99, 99, 99, 99, 99], [10, 10, 12, 13, 14, 10]) else (none, [99, 99, 99, 99, 99, 99, 99, 99, 99, 99, 99, 99], [10, 10, 12, 13, 14, 10])) := by decide +kernel
def Rn26 : List Nat := [6, 6, 99, 99, 99, 99, 6, 99, 99, 99, 99, 99]
theorem vn26 : ∀ c, c < 61 → vgo c 0 Rn26 = (if c = 1 then (none, [8, 8, 99, 99, 99, 99, 8, 99, 99, 99, 99, 99], [88, 88, 88]) else (none, [99, 99, 99, 99, 99, 99, 99, 99, 99, 99, 99, 99], [88, 88, 88])) := by decide +kernel
def Rn27 : List Nat := [8, 8, 99, 99, 99, 99, 8, 99, 99, 99, 99, 99]
theorem vn27 : ∀ c, c < 61 → vgo c 0 Rn27 = (if c = 11 then (none, [99, 13, 99, 99, 99, 99, 99, 99, 99, 99, 99, 99], [84, 11, 84]) else if (50 ≤ c ∧ c ≤ 55) then (none, [9, 99, 99, 99, 99, 99, 10, 99, 99, 99, 99, 99], [84, 11, 84]) else (none, [99, 99, 99, 99, 99, 99, 99, 99, 99, 99, 99, 99], [84, 11, 84])) := by decide +kernel
def Rn28 : List Nat := [99, 13, 99, 99, 99, 99, 99, 99, 99, 99, 99, 99]
theorem vn28 : ∀ c, c < 61 → vgo c 0 Rn28 = (if c = 2 then (some 1, [99, 14], [2]) else (none, [99, 99, 99, 99, 99, 99, 99, 99, 99, 99, 99, 99], [2])) := by decide +kernel
def Rn29 : List Nat := [9, 99, 99, 99, 99, 99, 10, 99, 99, 99, 99, 99]
theorem vn29 : ∀ c, c < 61 → vgo c 0 Rn29 = (if c = 2 then (some 0, [10], [2]) else if c = 21 then (none, [99, 99, 99, 99, 99, 99, 15, 99, 99, 99, 99, 99], [2, 21]) else (none, [99, 99, 99, 99, 99, 99, 99, 99, 99, 99, 99, 99], [2, 21])) := by decide +kernel
def Rn30 : List Nat := [99, 99, 99, 99, 99, 99, 15, 99, 99, 99, 99, 99]
theorem vn30 : ∀ c, c < 61 → vgo c 0 Rn30 = (if c = 22 then (none, [99, 99, 99, 99, 99, 99, 20, 99, 99, 99, 99, 99], [22]) else (none, [99, 99, 99, 99, 99, 99, 99, 99, 99, 99, 99, 99], [22])) := by decide +kernel
def Rn31 : List Nat := [99, 99, 99, 99, 99, 99, 20, 99, 99, 99, 99, 99]
theorem vn31 : ∀ c, c < 61 → vgo c 0 Rn31 = (if (40 ≤ c ∧ c ≤ 45) then (none, [99, 99, 99, 99, 99, 99, 21, 99, 99, 99, 99, 99], [79]) else (none, [99, 99, 99, 99, 99, 99, 99, 99, 99, 99, 99, 99], [79])) := by decide +kernel
def Rn32 : List Nat := [99, 99, 99, 99, 99, 99, 21, 99, 99, 99, 99, 99]
theorem vn32 : ∀ c, c < 61 → vgo c 0 Rn32 = (if c = 2 then (some 6, [99, 99, 99, 99, 99, 99, 22], [2]) else (none, [99, 99, 99, 99, 99, 99, 99, 99, 99, 99, 99, 99], [2])) := by decide +kernel
def Rn33 : List Nat := [99, 99, 7, 99, 99, 99, 99, 99, 99, 99, 99, 99]
theorem vn33 : ∀ c, c < 61 → vgo c 0 Rn33 = (if c = 1 then (none, [99, 99, 9, 99, 99, 99, 99, 99, 99, 99, 99, 99], [88]) else (none, [99, 99, 99, 99, 99, 99, 99, 99, 99, 99, 99, 99], [88])) := by decide +kernel
def Rn34 : List Nat := [99, 99, 9, 99, 99, 99, 99, 99, 99, 99, 99, 99]
theorem vn34 : ∀ c, c < 61 → vgo c 0 Rn34 = (if (50 ≤ c ∧ c ≤ 55) then (none, [99, 99, 10, 99, 99, 99, 99, 99, 99, 99, 99, 99], [84]) else (none, [99, 99, 99, 99, 99, 99, 99, 99, 99, 99, 99, 99], [84])) := by decide +kernel
def Rn35 : List Nat := [99, 99, 10, 99, 99, 99, 99, 99, 99, 99, 99, 99]
theorem vn35 : ∀ c, c < 61 → vgo c 0 Rn35 = (if c = 2 then (some 2, [99, 99, 11], [2]) else (none, [99, 99, 99, 99, 99, 99, 99, 99, 99, 99, 99, 99], [2])) := by decide +kernel
def Rn36 : List Nat := [99, 99, 99, 8, 99, 99, 99, 99, 99, 99, 99, 99]
theorem vn36 : ∀ c, c < 61 → vgo c 0 Rn36 = (if c = 1 then (none, [99, 99, 99, 10, 99, 99, 99, 99, 99, 99, 99, 99], [88]) else (none, [99, 99, 99, 99, 99, 99, 99, 99, 99, 99, 99, 99], [88])) := by decide +kernel
def Rn37 : List Nat := [99, 99, 99, 10, 99, 99, 99, 99, 99, 99, 99, 99]
theorem vn37 : ∀ c, c < 61 → vgo c 0 Rn37 = (if (50 ≤ c ∧ c ≤ 55) then (none, [99, 99, 99, 11, 99, 99, 99, 99, 99, 99, 99, 99], [84]) else (none, [99, 99, 99, 99, 99, 99, 99, 99, 99, 99, 99, 99], [84])) := by decide +kernel
def Rn38 : List Nat := [99, 99, 99, 11, 99, 99, 99, 99, 99, 99, 99, 99]
theorem vn38 : ∀ c, c < 61 → vgo c 0 Rn38 = (if c = 2 then (some 3, [99, 99, 99, 12], [2]) else (none, [99, 99, 99, 99, 99, 99, 99, 99, 99, 99, 99, 99], [2])) := by decide +kernel
def Rn39 : List Nat := [99, 99, 99, 99, 7, 99, 99, 99, 99, 99, 99, 99]
theorem vn39 : ∀ c, c < 61 → vgo c 0 Rn39 = (if c = 15 then (none, [99, 99, 99, 99, 12, 99, 99, 99, 99, 99, 99, 99], [15]) else (none, [99, 99, 99, 99, 99, 99, 99, 99, 99, 99, 99, 99], [15])) := by decide +kernel
def Rn40 : List Nat := [99, 99, 99, 99, 12, 99, 99, 99, 99, 99, 99, 99]
theorem vn40 : ∀ c, c < 61 → vgo c 0 Rn40 = (if c = 16 then (none, [99, 99, 99, 99, 17, 99, 99, 99, 99, 99, 99, 99], [16]) else (none, [99, 99, 99, 99, 99, 99, 99, 99, 99, 99, 99, 99], [16])) := by decide +kernel
def Rn41 : List Nat := [99, 99, 99, 99, 17, 99, 99, 99, 99, 99, 99, 99]
theorem vn41 : ∀ c, c < 61 → vgo c 0 Rn41 = (if c = 1 then (none, [99, 99, 99, 99, 19, 99, 99, 99, 99, 99, 99, 99], [88]) else (none, [99, 99, 99, 99, 99, 99, 99, 99, 99, 99, 99, 99], [88])) := by decide +kernel
def Rn42 : List Nat := [99, 99, 99, 99, 19, 99, 99, 99, 99, 99, 99, 99]
theorem vn42 : ∀ c, c < 61 → vgo c 0 Rn42 = (if c = 11 then (none, [99, 99, 99, 99, 24, 99, 99, 99, 99, 99, 99, 99], [11]) else (none, [99, 99, 99, 99, 99, 99, 99, 99, 99, 99, 99, 99], [11])) := by decide +kernel
def Rn43 : List Nat := [99, 99, 99, 99, 24, 99, 99, 99, 99, 99, 99, 99]
theorem vn43 : ∀ c, c < 61 → vgo c 0 Rn43 = (if c = 2 then (some 4, [99, 99, 99, 99, 25], [2]) else (none, [99, 99, 99, 99, 99, 99, 99, 99, 99, 99, 99, 99], [2])) := by decide +kernel
theorem cn0 {L : Nat} {B : Nat → Nat} {wd : Nat → Int64} {a b f p s : Nat} {S : List (Nat × Int32 × Int32 × Int32 × Int32)} {F : Int32 × Int32 × Int32 × Int32} {op : Bool} {pl : Nat} (hw : wdR wd a b) (hs : sk L B p = s) (hf : L - p < f) :
    crun L B wd a b f p S F Rn0 op pl = (if cdS L B wd a b s = 17 then crun L B wd a b (f - 1) (nxt L B s) S (fws (nmC (cdS L B wd a b s)) (tgC (cdS L B wd a b s)) (nuC L B (cdS L B wd a b s) s) [78, 78, 78, 78, 78, 17, 78, 23, 24, 24, 24, 24] F) Rn1 false (if op then s else pl) else if cdS L B wd a b s = 23 then crun L B wd a b (f - 1) (nxt L B s) S (fws (nmC (cdS L B wd a b s)) (tgC (cdS L B wd a b s)) (nuC L B (cdS L B wd a b s) s) [78, 78, 78, 78, 78, 17, 78, 23, 24, 24, 24, 24] F) Rn7 false (if op then s else pl) else if cdS L B wd a b s = 24 then crun L B wd a b (f - 1) (nxt L B s) S (fws (nmC (cdS L B wd a b s)) (tgC (cdS L B wd a b s)) (nuC L B (cdS L B wd a b s) s) [78, 78, 78, 78, 78, 17, 78, 23, 24, 24, 24, 24] F) Rn12 false (if op then s else pl) else if (40 ≤ cdS L B wd a b s ∧ cdS L B wd a b s ≤ 45) then crun L B wd a b (f - 1) (nxt L B s) S (fws (nmC (cdS L B wd a b s)) (tgC (cdS L B wd a b s)) (nuC L B (cdS L B wd a b s) s) [78, 78, 78, 78, 78, 17, 78, 23, 24, 24, 24, 24] F) Rn25 false (if op then s else pl) else .inl s) := by
  obtain ⟨c, hc61, hcod, _⟩ := tok_c (L := L) (B := B) (s := s) hw
  have hcd := cdS_e hc61 hcod
  cases f with
  | zero => omega
  | succ f =>
    rw [crun_s hs hcod hc61, vn0 c hc61, hcd]
    try rw [Nat.add_sub_cancel]
    by_cases h0 : c = 0
    · rw [if_pos h0, if_neg (by omega), if_neg (by omega), if_neg (by omega), if_neg (by omega)]
    · rw [if_neg h0]
      by_cases h1 : c = 17
      · rw [if_pos h1, if_pos h1]
        rfl
      · rw [if_neg h1, if_neg h1]
        by_cases h1 : c = 23
        · rw [if_pos h1, if_pos h1]
          rfl
        · rw [if_neg h1, if_neg h1]
          by_cases h1 : c = 24
          · rw [if_pos h1, if_pos h1]
            rfl
          · rw [if_neg h1, if_neg h1]
            by_cases h1 : (40 ≤ c ∧ c ≤ 45)
            · rw [if_pos h1, if_pos h1]
              rfl
            · rw [if_neg h1, if_neg h1]
              rfl
theorem cn1 {L : Nat} {B : Nat → Nat} {wd : Nat → Int64} {a b f p s : Nat} {S : List (Nat × Int32 × Int32 × Int32 × Int32)} {F : Int32 × Int32 × Int32 × Int32} {op : Bool} {pl : Nat} (hw : wdR wd a b) (hs : sk L B p = s) (hf : L - p < f) :
    crun L B wd a b f p S F Rn1 op pl = (if cdS L B wd a b s = 18 then crun L B wd a b (f - 1) (nxt L B s) S (fws (nmC (cdS L B wd a b s)) (tgC (cdS L B wd a b s)) (nuC L B (cdS L B wd a b s) s) [18] F) Rn2 false (if op then s else pl) else .inl s) := by
  obtain ⟨c, hc61, hcod, _⟩ := tok_c (L := L) (B := B) (s := s) hw
  have hcd := cdS_e hc61 hcod
  cases f with
  | zero => omega
  | succ f =>
    rw [crun_s hs hcod hc61, vn1 c hc61, hcd]
    try rw [Nat.add_sub_cancel]
    by_cases h0 : c = 0
    · rw [if_pos h0, if_neg (by omega)]
    · rw [if_neg h0]
      by_cases h1 : c = 18
      · rw [if_pos h1, if_pos h1]
        rfl
      · rw [if_neg h1, if_neg h1]
        rfl
theorem cn2 {L : Nat} {B : Nat → Nat} {wd : Nat → Int64} {a b f p s : Nat} {S : List (Nat × Int32 × Int32 × Int32 × Int32)} {F : Int32 × Int32 × Int32 × Int32} {op : Bool} {pl : Nat} (hw : wdR wd a b) (hs : sk L B p = s) (hf : L - p < f) :
    crun L B wd a b f p S F Rn2 op pl = (if cdS L B wd a b s = 19 then crun L B wd a b (f - 1) (nxt L B s) S (fws (nmC (cdS L B wd a b s)) (tgC (cdS L B wd a b s)) (nuC L B (cdS L B wd a b s) s) [19] F) Rn3 false (if op then s else pl) else .inl s) := by
  obtain ⟨c, hc61, hcod, _⟩ := tok_c (L := L) (B := B) (s := s) hw
  have hcd := cdS_e hc61 hcod
  cases f with
  | zero => omega
  | succ f =>
    rw [crun_s hs hcod hc61, vn2 c hc61, hcd]
    try rw [Nat.add_sub_cancel]
    by_cases h0 : c = 0
    · rw [if_pos h0, if_neg (by omega)]
    · rw [if_neg h0]
      by_cases h1 : c = 19
      · rw [if_pos h1, if_pos h1]
        rfl
      · rw [if_neg h1, if_neg h1]
        rfl
theorem cn3 {L : Nat} {B : Nat → Nat} {wd : Nat → Int64} {a b f p s : Nat} {S : List (Nat × Int32 × Int32 × Int32 × Int32)} {F : Int32 × Int32 × Int32 × Int32} {op : Bool} {pl : Nat} (hw : wdR wd a b) (hs : sk L B p = s) (hf : L - p < f) :
    crun L B wd a b f p S F Rn3 op pl = (if cdS L B wd a b s = 20 then crun L B wd a b (f - 1) (nxt L B s) S (fws (nmC (cdS L B wd a b s)) (tgC (cdS L B wd a b s)) (nuC L B (cdS L B wd a b s) s) [20] F) Rn4 false (if op then s else pl) else .inl s) := by
  obtain ⟨c, hc61, hcod, _⟩ := tok_c (L := L) (B := B) (s := s) hw
  have hcd := cdS_e hc61 hcod
  cases f with
  | zero => omega
  | succ f =>
    rw [crun_s hs hcod hc61, vn3 c hc61, hcd]
    try rw [Nat.add_sub_cancel]
    by_cases h0 : c = 0
    · rw [if_pos h0, if_neg (by omega)]
    · rw [if_neg h0]
      by_cases h1 : c = 20
      · rw [if_pos h1, if_pos h1]
        rfl
      · rw [if_neg h1, if_neg h1]
        rfl
theorem cn4 {L : Nat} {B : Nat → Nat} {wd : Nat → Int64} {a b f p s : Nat} {S : List (Nat × Int32 × Int32 × Int32 × Int32)} {F : Int32 × Int32 × Int32 × Int32} {op : Bool} {pl : Nat} (hw : wdR wd a b) (hs : sk L B p = s) (hf : L - p < f) :
    crun L B wd a b f p S F Rn4 op pl = (if cdS L B wd a b s = 1 then crun L B wd a b (f - 1) (nxt L B s) S (fws (nmC (cdS L B wd a b s)) (tgC (cdS L B wd a b s)) (nuC L B (cdS L B wd a b s) s) [88] F) Rn5 false (if op then s else pl) else .inl s) := by
  obtain ⟨c, hc61, hcod, _⟩ := tok_c (L := L) (B := B) (s := s) hw
  have hcd := cdS_e hc61 hcod
  cases f with
  | zero => omega
  | succ f =>
    rw [crun_s hs hcod hc61, vn4 c hc61, hcd]
    try rw [Nat.add_sub_cancel]
    by_cases h0 : c = 0
    · rw [if_pos h0, if_neg (by omega)]
    · rw [if_neg h0]
      by_cases h1 : c = 1
      · rw [if_pos h1, if_pos h1]
        rfl
      · rw [if_neg h1, if_neg h1]
        rfl
theorem cn5 {L : Nat} {B : Nat → Nat} {wd : Nat → Int64} {a b f p s : Nat} {S : List (Nat × Int32 × Int32 × Int32 × Int32)} {F : Int32 × Int32 × Int32 × Int32} {op : Bool} {pl : Nat} (hw : wdR wd a b) (hs : sk L B p = s) (hf : L - p < f) :
    crun L B wd a b f p S F Rn5 op pl = (if (50 ≤ cdS L B wd a b s ∧ cdS L B wd a b s ≤ 55) then crun L B wd a b (f - 1) (nxt L B s) S (fws (nmC (cdS L B wd a b s)) (tgC (cdS L B wd a b s)) (nuC L B (cdS L B wd a b s) s) [84] F) Rn6 false (if op then s else pl) else .inl s) := by
  obtain ⟨c, hc61, hcod, _⟩ := tok_c (L := L) (B := B) (s := s) hw
  have hcd := cdS_e hc61 hcod
  cases f with
  | zero => omega
  | succ f =>
    rw [crun_s hs hcod hc61, vn5 c hc61, hcd]
    try rw [Nat.add_sub_cancel]
    by_cases h0 : c = 0
    · rw [if_pos h0, if_neg (by omega)]
    · rw [if_neg h0]
      by_cases h1 : (50 ≤ c ∧ c ≤ 55)
      · rw [if_pos h1, if_pos h1]
        rfl
      · rw [if_neg h1, if_neg h1]
        rfl
theorem cn6 {L : Nat} {B : Nat → Nat} {wd : Nat → Int64} {a b f p s : Nat} {S : List (Nat × Int32 × Int32 × Int32 × Int32)} {F : Int32 × Int32 × Int32 × Int32} {op : Bool} {pl : Nat} (hw : wdR wd a b) (hs : sk L B p = s) (hf : L - p < f) :
    crun L B wd a b f p S F Rn6 op pl = (if cdS L B wd a b s = 2 then crun L B wd a b (f - 1) (nxt L B s) (S ++ [(5, (fws (nmC (cdS L B wd a b s)) (tgC (cdS L B wd a b s)) (nuC L B (cdS L B wd a b s) s) [2] F))]) (-1, -1, -1, -1) root true (if op then s else pl) else .inl s) := by
  obtain ⟨c, hc61, hcod, _⟩ := tok_c (L := L) (B := B) (s := s) hw
  have hcd := cdS_e hc61 hcod
  cases f with
  | zero => omega
  | succ f =>
    rw [crun_s hs hcod hc61, vn6 c hc61, hcd]
    try rw [Nat.add_sub_cancel]
    by_cases h0 : c = 0
    · rw [if_pos h0, if_neg (by omega)]
    · rw [if_neg h0]
      by_cases h1 : c = 2
      · rw [if_pos h1, if_pos h1]
        rfl
      · rw [if_neg h1, if_neg h1]
        rfl
theorem cn7 {L : Nat} {B : Nat → Nat} {wd : Nat → Int64} {a b f p s : Nat} {S : List (Nat × Int32 × Int32 × Int32 × Int32)} {F : Int32 × Int32 × Int32 × Int32} {op : Bool} {pl : Nat} (hw : wdR wd a b) (hs : sk L B p = s) (hf : L - p < f) :
    crun L B wd a b f p S F Rn7 op pl = (if (40 ≤ cdS L B wd a b s ∧ cdS L B wd a b s ≤ 45) then crun L B wd a b (f - 1) (nxt L B s) S (fws (nmC (cdS L B wd a b s)) (tgC (cdS L B wd a b s)) (nuC L B (cdS L B wd a b s) s) [78] F) Rn8 false (if op then s else pl) else .inl s) := by
  obtain ⟨c, hc61, hcod, _⟩ := tok_c (L := L) (B := B) (s := s) hw
  have hcd := cdS_e hc61 hcod
  cases f with
  | zero => omega
  | succ f =>
    rw [crun_s hs hcod hc61, vn7 c hc61, hcd]
    try rw [Nat.add_sub_cancel]
    by_cases h0 : c = 0
    · rw [if_pos h0, if_neg (by omega)]
    · rw [if_neg h0]
      by_cases h1 : (40 ≤ c ∧ c ≤ 45)
      · rw [if_pos h1, if_pos h1]
        rfl
      · rw [if_neg h1, if_neg h1]
        rfl
theorem cn8 {L : Nat} {B : Nat → Nat} {wd : Nat → Int64} {a b f p s : Nat} {S : List (Nat × Int32 × Int32 × Int32 × Int32)} {F : Int32 × Int32 × Int32 × Int32} {op : Bool} {pl : Nat} (hw : wdR wd a b) (hs : sk L B p = s) (hf : L - p < f) :
    crun L B wd a b f p S F Rn8 op pl = (if cdS L B wd a b s = 10 then crun L B wd a b (f - 1) (nxt L B s) S (fws (nmC (cdS L B wd a b s)) (tgC (cdS L B wd a b s)) (nuC L B (cdS L B wd a b s) s) [10] F) Rn9 false (if op then s else pl) else .inl s) := by
  obtain ⟨c, hc61, hcod, _⟩ := tok_c (L := L) (B := B) (s := s) hw
  have hcd := cdS_e hc61 hcod
  cases f with
  | zero => omega
  | succ f =>
    rw [crun_s hs hcod hc61, vn8 c hc61, hcd]
    try rw [Nat.add_sub_cancel]
    by_cases h0 : c = 0
    · rw [if_pos h0, if_neg (by omega)]
    · rw [if_neg h0]
      by_cases h1 : c = 10
      · rw [if_pos h1, if_pos h1]
        rfl
      · rw [if_neg h1, if_neg h1]
        rfl
theorem cn9 {L : Nat} {B : Nat → Nat} {wd : Nat → Int64} {a b f p s : Nat} {S : List (Nat × Int32 × Int32 × Int32 × Int32)} {F : Int32 × Int32 × Int32 × Int32} {op : Bool} {pl : Nat} (hw : wdR wd a b) (hs : sk L B p = s) (hf : L - p < f) :
    crun L B wd a b f p S F Rn9 op pl = (if cdS L B wd a b s = 1 then crun L B wd a b (f - 1) (nxt L B s) S (fws (nmC (cdS L B wd a b s)) (tgC (cdS L B wd a b s)) (nuC L B (cdS L B wd a b s) s) [88] F) Rn10 false (if op then s else pl) else .inl s) := by
  obtain ⟨c, hc61, hcod, _⟩ := tok_c (L := L) (B := B) (s := s) hw
  have hcd := cdS_e hc61 hcod
  cases f with
  | zero => omega
  | succ f =>
    rw [crun_s hs hcod hc61, vn9 c hc61, hcd]
    try rw [Nat.add_sub_cancel]
    by_cases h0 : c = 0
    · rw [if_pos h0, if_neg (by omega)]
    · rw [if_neg h0]
      by_cases h1 : c = 1
      · rw [if_pos h1, if_pos h1]
        rfl
      · rw [if_neg h1, if_neg h1]
        rfl
theorem cn10 {L : Nat} {B : Nat → Nat} {wd : Nat → Int64} {a b f p s : Nat} {S : List (Nat × Int32 × Int32 × Int32 × Int32)} {F : Int32 × Int32 × Int32 × Int32} {op : Bool} {pl : Nat} (hw : wdR wd a b) (hs : sk L B p = s) (hf : L - p < f) :
    crun L B wd a b f p S F Rn10 op pl = (if (50 ≤ cdS L B wd a b s ∧ cdS L B wd a b s ≤ 55) then crun L B wd a b (f - 1) (nxt L B s) S (fws (nmC (cdS L B wd a b s)) (tgC (cdS L B wd a b s)) (nuC L B (cdS L B wd a b s) s) [84] F) Rn11 false (if op then s else pl) else .inl s) := by
  obtain ⟨c, hc61, hcod, _⟩ := tok_c (L := L) (B := B) (s := s) hw
  have hcd := cdS_e hc61 hcod
  cases f with
  | zero => omega
  | succ f =>
    rw [crun_s hs hcod hc61, vn10 c hc61, hcd]
    try rw [Nat.add_sub_cancel]
    by_cases h0 : c = 0
    · rw [if_pos h0, if_neg (by omega)]
    · rw [if_neg h0]
      by_cases h1 : (50 ≤ c ∧ c ≤ 55)
      · rw [if_pos h1, if_pos h1]
        rfl
      · rw [if_neg h1, if_neg h1]
        rfl
theorem cn11 {L : Nat} {B : Nat → Nat} {wd : Nat → Int64} {a b f p s : Nat} {S : List (Nat × Int32 × Int32 × Int32 × Int32)} {F : Int32 × Int32 × Int32 × Int32} {op : Bool} {pl : Nat} (hw : wdR wd a b) (hs : sk L B p = s) (hf : L - p < f) :
    crun L B wd a b f p S F Rn11 op pl = (if cdS L B wd a b s = 2 then crun L B wd a b (f - 1) (nxt L B s) (S ++ [(7, (fws (nmC (cdS L B wd a b s)) (tgC (cdS L B wd a b s)) (nuC L B (cdS L B wd a b s) s) [2] F))]) (-1, -1, -1, -1) root true (if op then s else pl) else .inl s) := by
  obtain ⟨c, hc61, hcod, _⟩ := tok_c (L := L) (B := B) (s := s) hw
  have hcd := cdS_e hc61 hcod
  cases f with
  | zero => omega
  | succ f =>
    rw [crun_s hs hcod hc61, vn11 c hc61, hcd]
    try rw [Nat.add_sub_cancel]
    by_cases h0 : c = 0
    · rw [if_pos h0, if_neg (by omega)]
    · rw [if_neg h0]
      by_cases h1 : c = 2
      · rw [if_pos h1, if_pos h1]
        rfl
      · rw [if_neg h1, if_neg h1]
        rfl
theorem cn12 {L : Nat} {B : Nat → Nat} {wd : Nat → Int64} {a b f p s : Nat} {S : List (Nat × Int32 × Int32 × Int32 × Int32)} {F : Int32 × Int32 × Int32 × Int32} {op : Bool} {pl : Nat} (hw : wdR wd a b) (hs : sk L B p = s) (hf : L - p < f) :
    crun L B wd a b f p S F Rn12 op pl = (if cdS L B wd a b s = 25 then crun L B wd a b (f - 1) (nxt L B s) S (fws (nmC (cdS L B wd a b s)) (tgC (cdS L B wd a b s)) (nuC L B (cdS L B wd a b s) s) [25, 25, 25, 25] F) Rn13 false (if op then s else pl) else .inl s) := by
  obtain ⟨c, hc61, hcod, _⟩ := tok_c (L := L) (B := B) (s := s) hw
  have hcd := cdS_e hc61 hcod
  cases f with
  | zero => omega
  | succ f =>
    rw [crun_s hs hcod hc61, vn12 c hc61, hcd]
    try rw [Nat.add_sub_cancel]
    by_cases h0 : c = 0
    · rw [if_pos h0, if_neg (by omega)]
    · rw [if_neg h0]
      by_cases h1 : c = 25
      · rw [if_pos h1, if_pos h1]
        rfl
      · rw [if_neg h1, if_neg h1]
        rfl
theorem cn13 {L : Nat} {B : Nat → Nat} {wd : Nat → Int64} {a b f p s : Nat} {S : List (Nat × Int32 × Int32 × Int32 × Int32)} {F : Int32 × Int32 × Int32 × Int32} {op : Bool} {pl : Nat} (hw : wdR wd a b) (hs : sk L B p = s) (hf : L - p < f) :
    crun L B wd a b f p S F Rn13 op pl = (if (50 ≤ cdS L B wd a b s ∧ cdS L B wd a b s ≤ 55) then crun L B wd a b (f - 1) (nxt L B s) S (fws (nmC (cdS L B wd a b s)) (tgC (cdS L B wd a b s)) (nuC L B (cdS L B wd a b s) s) [84, 84, 84, 84] F) Rn14 false (if op then s else pl) else .inl s) := by
  obtain ⟨c, hc61, hcod, _⟩ := tok_c (L := L) (B := B) (s := s) hw
  have hcd := cdS_e hc61 hcod
  cases f with
  | zero => omega
  | succ f =>
    rw [crun_s hs hcod hc61, vn13 c hc61, hcd]
    try rw [Nat.add_sub_cancel]
    by_cases h0 : c = 0
    · rw [if_pos h0, if_neg (by omega)]
    · rw [if_neg h0]
      by_cases h1 : (50 ≤ c ∧ c ≤ 55)
      · rw [if_pos h1, if_pos h1]
        rfl
      · rw [if_neg h1, if_neg h1]
        rfl
theorem cn14 {L : Nat} {B : Nat → Nat} {wd : Nat → Int64} {a b f p s : Nat} {S : List (Nat × Int32 × Int32 × Int32 × Int32)} {F : Int32 × Int32 × Int32 × Int32} {op : Bool} {pl : Nat} (hw : wdR wd a b) (hs : sk L B p = s) (hf : L - p < f) :
    crun L B wd a b f p S F Rn14 op pl = (if cdS L B wd a b s = 10 then crun L B wd a b (f - 1) (nxt L B s) S (fws (nmC (cdS L B wd a b s)) (tgC (cdS L B wd a b s)) (nuC L B (cdS L B wd a b s) s) [10, 20, 26, 28] F) Rn15 false (if op then s else pl) else if cdS L B wd a b s = 20 then crun L B wd a b (f - 1) (nxt L B s) S (fws (nmC (cdS L B wd a b s)) (tgC (cdS L B wd a b s)) (nuC L B (cdS L B wd a b s) s) [10, 20, 26, 28] F) Rn17 false (if op then s else pl) else if cdS L B wd a b s = 26 then crun L B wd a b (f - 1) (nxt L B s) S (fws (nmC (cdS L B wd a b s)) (tgC (cdS L B wd a b s)) (nuC L B (cdS L B wd a b s) s) [10, 20, 26, 28] F) Rn21 false (if op then s else pl) else if cdS L B wd a b s = 28 then crun L B wd a b (f - 1) (nxt L B s) S (fws (nmC (cdS L B wd a b s)) (tgC (cdS L B wd a b s)) (nuC L B (cdS L B wd a b s) s) [10, 20, 26, 28] F) Rn23 false (if op then s else pl) else .inl s) := by
  obtain ⟨c, hc61, hcod, _⟩ := tok_c (L := L) (B := B) (s := s) hw
  have hcd := cdS_e hc61 hcod
  cases f with
  | zero => omega
  | succ f =>
    rw [crun_s hs hcod hc61, vn14 c hc61, hcd]
    try rw [Nat.add_sub_cancel]
    by_cases h0 : c = 0
    · rw [if_pos h0, if_neg (by omega), if_neg (by omega), if_neg (by omega), if_neg (by omega)]
    · rw [if_neg h0]
      by_cases h1 : c = 10
      · rw [if_pos h1, if_pos h1]
        rfl
      · rw [if_neg h1, if_neg h1]
        by_cases h1 : c = 20
        · rw [if_pos h1, if_pos h1]
          rfl
        · rw [if_neg h1, if_neg h1]
          by_cases h1 : c = 26
          · rw [if_pos h1, if_pos h1]
            rfl
          · rw [if_neg h1, if_neg h1]
            by_cases h1 : c = 28
            · rw [if_pos h1, if_pos h1]
              rfl
            · rw [if_neg h1, if_neg h1]
              rfl
theorem cn15 {L : Nat} {B : Nat → Nat} {wd : Nat → Int64} {a b f p s : Nat} {S : List (Nat × Int32 × Int32 × Int32 × Int32)} {F : Int32 × Int32 × Int32 × Int32} {op : Bool} {pl : Nat} (hw : wdR wd a b) (hs : sk L B p = s) (hf : L - p < f) :
    crun L B wd a b f p S F Rn15 op pl = (if (40 ≤ cdS L B wd a b s ∧ cdS L B wd a b s ≤ 45) then crun L B wd a b (f - 1) (nxt L B s) S (fws (nmC (cdS L B wd a b s)) (tgC (cdS L B wd a b s)) (nuC L B (cdS L B wd a b s) s) [78] F) Rn16 false (if op then s else pl) else .inl s) := by
  obtain ⟨c, hc61, hcod, _⟩ := tok_c (L := L) (B := B) (s := s) hw
  have hcd := cdS_e hc61 hcod
  cases f with
  | zero => omega
  | succ f =>
    rw [crun_s hs hcod hc61, vn15 c hc61, hcd]
    try rw [Nat.add_sub_cancel]
    by_cases h0 : c = 0
    · rw [if_pos h0, if_neg (by omega)]
    · rw [if_neg h0]
      by_cases h1 : (40 ≤ c ∧ c ≤ 45)
      · rw [if_pos h1, if_pos h1]
        rfl
      · rw [if_neg h1, if_neg h1]
        rfl
theorem cn16 {L : Nat} {B : Nat → Nat} {wd : Nat → Int64} {a b f p s : Nat} {S : List (Nat × Int32 × Int32 × Int32 × Int32)} {F : Int32 × Int32 × Int32 × Int32} {op : Bool} {pl : Nat} (hw : wdR wd a b) (hs : sk L B p = s) (hf : L - p < f) :
    crun L B wd a b f p S F Rn16 op pl = (if cdS L B wd a b s = 3 then (if cdS L B wd a b (nxS L B s) = 0 then .inr (S, (8, (fws (nmC (cdS L B wd a b s)) (tgC (cdS L B wd a b s)) (nuC L B (cdS L B wd a b s) s) [3] F)), if op then s else pl) else .inl (nxS L B s)) else .inl s) := by
  obtain ⟨c, hc61, hcod, _⟩ := tok_c (L := L) (B := B) (s := s) hw
  have hcd := cdS_e hc61 hcod
  cases f with
  | zero => omega
  | succ f =>
    rw [crun_s hs hcod hc61, vn16 c hc61, hcd]
    try rw [Nat.add_sub_cancel]
    by_cases h0 : c = 0
    · rw [if_pos h0, if_neg (by omega)]
    · rw [if_neg h0]
      by_cases h1 : c = 3
      · rw [if_pos h1, if_pos h1]
        rfl
      · rw [if_neg h1, if_neg h1]
        rfl
theorem cn17 {L : Nat} {B : Nat → Nat} {wd : Nat → Int64} {a b f p s : Nat} {S : List (Nat × Int32 × Int32 × Int32 × Int32)} {F : Int32 × Int32 × Int32 × Int32} {op : Bool} {pl : Nat} (hw : wdR wd a b) (hs : sk L B p = s) (hf : L - p < f) :
    crun L B wd a b f p S F Rn17 op pl = (if cdS L B wd a b s = 17 then crun L B wd a b (f - 1) (nxt L B s) S (fws (nmC (cdS L B wd a b s)) (tgC (cdS L B wd a b s)) (nuC L B (cdS L B wd a b s) s) [17] F) Rn18 false (if op then s else pl) else .inl s) := by
  obtain ⟨c, hc61, hcod, _⟩ := tok_c (L := L) (B := B) (s := s) hw
  have hcd := cdS_e hc61 hcod
  cases f with
  | zero => omega
  | succ f =>
    rw [crun_s hs hcod hc61, vn17 c hc61, hcd]
    try rw [Nat.add_sub_cancel]
    by_cases h0 : c = 0
    · rw [if_pos h0, if_neg (by omega)]
    · rw [if_neg h0]
      by_cases h1 : c = 17
      · rw [if_pos h1, if_pos h1]
        rfl
      · rw [if_neg h1, if_neg h1]
        rfl
theorem cn18 {L : Nat} {B : Nat → Nat} {wd : Nat → Int64} {a b f p s : Nat} {S : List (Nat × Int32 × Int32 × Int32 × Int32)} {F : Int32 × Int32 × Int32 × Int32} {op : Bool} {pl : Nat} (hw : wdR wd a b) (hs : sk L B p = s) (hf : L - p < f) :
    crun L B wd a b f p S F Rn18 op pl = (if cdS L B wd a b s = 18 then crun L B wd a b (f - 1) (nxt L B s) S (fws (nmC (cdS L B wd a b s)) (tgC (cdS L B wd a b s)) (nuC L B (cdS L B wd a b s) s) [18] F) Rn19 false (if op then s else pl) else .inl s) := by
  obtain ⟨c, hc61, hcod, _⟩ := tok_c (L := L) (B := B) (s := s) hw
  have hcd := cdS_e hc61 hcod
  cases f with
  | zero => omega
  | succ f =>
    rw [crun_s hs hcod hc61, vn18 c hc61, hcd]
    try rw [Nat.add_sub_cancel]
    by_cases h0 : c = 0
    · rw [if_pos h0, if_neg (by omega)]
    · rw [if_neg h0]
      by_cases h1 : c = 18
      · rw [if_pos h1, if_pos h1]
        rfl
      · rw [if_neg h1, if_neg h1]
        rfl
theorem cn19 {L : Nat} {B : Nat → Nat} {wd : Nat → Int64} {a b f p s : Nat} {S : List (Nat × Int32 × Int32 × Int32 × Int32)} {F : Int32 × Int32 × Int32 × Int32} {op : Bool} {pl : Nat} (hw : wdR wd a b) (hs : sk L B p = s) (hf : L - p < f) :
    crun L B wd a b f p S F Rn19 op pl = (if cdS L B wd a b s = 19 then crun L B wd a b (f - 1) (nxt L B s) S (fws (nmC (cdS L B wd a b s)) (tgC (cdS L B wd a b s)) (nuC L B (cdS L B wd a b s) s) [19] F) Rn20 false (if op then s else pl) else .inl s) := by
  obtain ⟨c, hc61, hcod, _⟩ := tok_c (L := L) (B := B) (s := s) hw
  have hcd := cdS_e hc61 hcod
  cases f with
  | zero => omega
  | succ f =>
    rw [crun_s hs hcod hc61, vn19 c hc61, hcd]
    try rw [Nat.add_sub_cancel]
    by_cases h0 : c = 0
    · rw [if_pos h0, if_neg (by omega)]
    · rw [if_neg h0]
      by_cases h1 : c = 19
      · rw [if_pos h1, if_pos h1]
        rfl
      · rw [if_neg h1, if_neg h1]
        rfl
theorem cn20 {L : Nat} {B : Nat → Nat} {wd : Nat → Int64} {a b f p s : Nat} {S : List (Nat × Int32 × Int32 × Int32 × Int32)} {F : Int32 × Int32 × Int32 × Int32} {op : Bool} {pl : Nat} (hw : wdR wd a b) (hs : sk L B p = s) (hf : L - p < f) :
    crun L B wd a b f p S F Rn20 op pl = (if cdS L B wd a b s = 3 then (if cdS L B wd a b (nxS L B s) = 0 then .inr (S, (9, (fws (nmC (cdS L B wd a b s)) (tgC (cdS L B wd a b s)) (nuC L B (cdS L B wd a b s) s) [3] F)), if op then s else pl) else .inl (nxS L B s)) else .inl s) := by
  obtain ⟨c, hc61, hcod, _⟩ := tok_c (L := L) (B := B) (s := s) hw
  have hcd := cdS_e hc61 hcod
  cases f with
  | zero => omega
  | succ f =>
    rw [crun_s hs hcod hc61, vn20 c hc61, hcd]
    try rw [Nat.add_sub_cancel]
    by_cases h0 : c = 0
    · rw [if_pos h0, if_neg (by omega)]
    · rw [if_neg h0]
      by_cases h1 : c = 3
      · rw [if_pos h1, if_pos h1]
        rfl
      · rw [if_neg h1, if_neg h1]
        rfl
theorem cn21 {L : Nat} {B : Nat → Nat} {wd : Nat → Int64} {a b f p s : Nat} {S : List (Nat × Int32 × Int32 × Int32 × Int32)} {F : Int32 × Int32 × Int32 × Int32} {op : Bool} {pl : Nat} (hw : wdR wd a b) (hs : sk L B p = s) (hf : L - p < f) :
    crun L B wd a b f p S F Rn21 op pl = (if cdS L B wd a b s = 27 then crun L B wd a b (f - 1) (nxt L B s) S (fws (nmC (cdS L B wd a b s)) (tgC (cdS L B wd a b s)) (nuC L B (cdS L B wd a b s) s) [27] F) Rn22 false (if op then s else pl) else .inl s) := by
  obtain ⟨c, hc61, hcod, _⟩ := tok_c (L := L) (B := B) (s := s) hw
  have hcd := cdS_e hc61 hcod
  cases f with
  | zero => omega
  | succ f =>
    rw [crun_s hs hcod hc61, vn21 c hc61, hcd]
    try rw [Nat.add_sub_cancel]
    by_cases h0 : c = 0
    · rw [if_pos h0, if_neg (by omega)]
    · rw [if_neg h0]
      by_cases h1 : c = 27
      · rw [if_pos h1, if_pos h1]
        rfl
      · rw [if_neg h1, if_neg h1]
        rfl
theorem cn22 {L : Nat} {B : Nat → Nat} {wd : Nat → Int64} {a b f p s : Nat} {S : List (Nat × Int32 × Int32 × Int32 × Int32)} {F : Int32 × Int32 × Int32 × Int32} {op : Bool} {pl : Nat} (hw : wdR wd a b) (hs : sk L B p = s) (hf : L - p < f) :
    crun L B wd a b f p S F Rn22 op pl = (if cdS L B wd a b s = 3 then (if cdS L B wd a b (nxS L B s) = 0 then .inr (S, (10, (fws (nmC (cdS L B wd a b s)) (tgC (cdS L B wd a b s)) (nuC L B (cdS L B wd a b s) s) [3] F)), if op then s else pl) else .inl (nxS L B s)) else .inl s) := by
  obtain ⟨c, hc61, hcod, _⟩ := tok_c (L := L) (B := B) (s := s) hw
  have hcd := cdS_e hc61 hcod
  cases f with
  | zero => omega
  | succ f =>
    rw [crun_s hs hcod hc61, vn22 c hc61, hcd]
    try rw [Nat.add_sub_cancel]
    by_cases h0 : c = 0
    · rw [if_pos h0, if_neg (by omega)]
    · rw [if_neg h0]
      by_cases h1 : c = 3
      · rw [if_pos h1, if_pos h1]
        rfl
      · rw [if_neg h1, if_neg h1]
        rfl
theorem cn23 {L : Nat} {B : Nat → Nat} {wd : Nat → Int64} {a b f p s : Nat} {S : List (Nat × Int32 × Int32 × Int32 × Int32)} {F : Int32 × Int32 × Int32 × Int32} {op : Bool} {pl : Nat} (hw : wdR wd a b) (hs : sk L B p = s) (hf : L - p < f) :
    crun L B wd a b f p S F Rn23 op pl = (if (40 ≤ cdS L B wd a b s ∧ cdS L B wd a b s ≤ 45) then crun L B wd a b (f - 1) (nxt L B s) S (fws (nmC (cdS L B wd a b s)) (tgC (cdS L B wd a b s)) (nuC L B (cdS L B wd a b s) s) [78] F) Rn24 false (if op then s else pl) else .inl s) := by
  obtain ⟨c, hc61, hcod, _⟩ := tok_c (L := L) (B := B) (s := s) hw
  have hcd := cdS_e hc61 hcod
  cases f with
  | zero => omega
  | succ f =>
    rw [crun_s hs hcod hc61, vn23 c hc61, hcd]
    try rw [Nat.add_sub_cancel]
    by_cases h0 : c = 0
    · rw [if_pos h0, if_neg (by omega)]
    · rw [if_neg h0]
      by_cases h1 : (40 ≤ c ∧ c ≤ 45)
      · rw [if_pos h1, if_pos h1]
        rfl
      · rw [if_neg h1, if_neg h1]
        rfl
theorem cn24 {L : Nat} {B : Nat → Nat} {wd : Nat → Int64} {a b f p s : Nat} {S : List (Nat × Int32 × Int32 × Int32 × Int32)} {F : Int32 × Int32 × Int32 × Int32} {op : Bool} {pl : Nat} (hw : wdR wd a b) (hs : sk L B p = s) (hf : L - p < f) :
    crun L B wd a b f p S F Rn24 op pl = (if cdS L B wd a b s = 3 then (if cdS L B wd a b (nxS L B s) = 0 then .inr (S, (11, (fws (nmC (cdS L B wd a b s)) (tgC (cdS L B wd a b s)) (nuC L B (cdS L B wd a b s) s) [3] F)), if op then s else pl) else .inl (nxS L B s)) else .inl s) := by
  obtain ⟨c, hc61, hcod, _⟩ := tok_c (L := L) (B := B) (s := s) hw
  have hcd := cdS_e hc61 hcod
  cases f with
  | zero => omega
  | succ f =>
    rw [crun_s hs hcod hc61, vn24 c hc61, hcd]
    try rw [Nat.add_sub_cancel]
    by_cases h0 : c = 0
    · rw [if_pos h0, if_neg (by omega)]
    · rw [if_neg h0]
      by_cases h1 : c = 3
      · rw [if_pos h1, if_pos h1]
        rfl
      · rw [if_neg h1, if_neg h1]
        rfl
theorem cn25 {L : Nat} {B : Nat → Nat} {wd : Nat → Int64} {a b f p s : Nat} {S : List (Nat × Int32 × Int32 × Int32 × Int32)} {F : Int32 × Int32 × Int32 × Int32} {op : Bool} {pl : Nat} (hw : wdR wd a b) (hs : sk L B p = s) (hf : L - p < f) :
    crun L B wd a b f p S F Rn25 op pl = (if cdS L B wd a b s = 10 then crun L B wd a b (f - 1) (nxt L B s) S (fws (nmC (cdS L B wd a b s)) (tgC (cdS L B wd a b s)) (nuC L B (cdS L B wd a b s) s) [10, 10, 12, 13, 14, 10] F) Rn26 false (if op then s else pl) else if cdS L B wd a b s = 12 then crun L B wd a b (f - 1) (nxt L B s) S (fws (nmC (cdS L B wd a b s)) (tgC (cdS L B wd a b s)) (nuC L B (cdS L B wd a b s) s) [10, 10, 12, 13, 14, 10] F) Rn33 false (if op then s else pl) else if cdS L B wd a b s = 13 then crun L B wd a b (f - 1) (nxt L B s) S (fws (nmC (cdS L B wd a b s)) (tgC (cdS L B wd a b s)) (nuC L B (cdS L B wd a b s) s) [10, 10, 12, 13, 14, 10] F) Rn36 false (if op then s else pl) else if cdS L B wd a b s = 14 then crun L B wd a b (f - 1) (nxt L B s) S (fws (nmC (cdS L B wd a b s)) (tgC (cdS L B wd a b s)) (nuC L B (cdS L B wd a b s) s) [10, 10, 12, 13, 14, 10] F) Rn39 false (if op then s else pl) else .inl s) := by
  obtain ⟨c, hc61, hcod, _⟩ := tok_c (L := L) (B := B) (s := s) hw
  have hcd := cdS_e hc61 hcod
  cases f with
  | zero => omega
  | succ f =>
    rw [crun_s hs hcod hc61, vn25 c hc61, hcd]
    try rw [Nat.add_sub_cancel]
    by_cases h0 : c = 0
    · rw [if_pos h0, if_neg (by omega), if_neg (by omega), if_neg (by omega), if_neg (by omega)]
    · rw [if_neg h0]
      by_cases h1 : c = 10
      · rw [if_pos h1, if_pos h1]
        rfl
      · rw [if_neg h1, if_neg h1]
        by_cases h1 : c = 12
        · rw [if_pos h1, if_pos h1]
          rfl
        · rw [if_neg h1, if_neg h1]
          by_cases h1 : c = 13
          · rw [if_pos h1, if_pos h1]
            rfl
          · rw [if_neg h1, if_neg h1]
            by_cases h1 : c = 14
            · rw [if_pos h1, if_pos h1]
              rfl
            · rw [if_neg h1, if_neg h1]
              rfl
theorem cn26 {L : Nat} {B : Nat → Nat} {wd : Nat → Int64} {a b f p s : Nat} {S : List (Nat × Int32 × Int32 × Int32 × Int32)} {F : Int32 × Int32 × Int32 × Int32} {op : Bool} {pl : Nat} (hw : wdR wd a b) (hs : sk L B p = s) (hf : L - p < f) :
    crun L B wd a b f p S F Rn26 op pl = (if cdS L B wd a b s = 1 then crun L B wd a b (f - 1) (nxt L B s) S (fws (nmC (cdS L B wd a b s)) (tgC (cdS L B wd a b s)) (nuC L B (cdS L B wd a b s) s) [88, 88, 88] F) Rn27 false (if op then s else pl) else .inl s) := by
  obtain ⟨c, hc61, hcod, _⟩ := tok_c (L := L) (B := B) (s := s) hw
  have hcd := cdS_e hc61 hcod
  cases f with
  | zero => omega
  | succ f =>
    rw [crun_s hs hcod hc61, vn26 c hc61, hcd]
    try rw [Nat.add_sub_cancel]
    by_cases h0 : c = 0
    · rw [if_pos h0, if_neg (by omega)]
    · rw [if_neg h0]
      by_cases h1 : c = 1
      · rw [if_pos h1, if_pos h1]
        rfl
      · rw [if_neg h1, if_neg h1]
        rfl
theorem cn27 {L : Nat} {B : Nat → Nat} {wd : Nat → Int64} {a b f p s : Nat} {S : List (Nat × Int32 × Int32 × Int32 × Int32)} {F : Int32 × Int32 × Int32 × Int32} {op : Bool} {pl : Nat} (hw : wdR wd a b) (hs : sk L B p = s) (hf : L - p < f) :
    crun L B wd a b f p S F Rn27 op pl = (if cdS L B wd a b s = 11 then crun L B wd a b (f - 1) (nxt L B s) S (fws (nmC (cdS L B wd a b s)) (tgC (cdS L B wd a b s)) (nuC L B (cdS L B wd a b s) s) [84, 11, 84] F) Rn28 false (if op then s else pl) else if (50 ≤ cdS L B wd a b s ∧ cdS L B wd a b s ≤ 55) then crun L B wd a b (f - 1) (nxt L B s) S (fws (nmC (cdS L B wd a b s)) (tgC (cdS L B wd a b s)) (nuC L B (cdS L B wd a b s) s) [84, 11, 84] F) Rn29 false (if op then s else pl) else .inl s) := by
  obtain ⟨c, hc61, hcod, _⟩ := tok_c (L := L) (B := B) (s := s) hw
  have hcd := cdS_e hc61 hcod
  cases f with
  | zero => omega
  | succ f =>
    rw [crun_s hs hcod hc61, vn27 c hc61, hcd]
    try rw [Nat.add_sub_cancel]
    by_cases h0 : c = 0
    · rw [if_pos h0, if_neg (by omega), if_neg (by omega)]
    · rw [if_neg h0]
      by_cases h1 : c = 11
      · rw [if_pos h1, if_pos h1]
        rfl
      · rw [if_neg h1, if_neg h1]
        by_cases h1 : (50 ≤ c ∧ c ≤ 55)
        · rw [if_pos h1, if_pos h1]
          rfl
        · rw [if_neg h1, if_neg h1]
          rfl
theorem cn28 {L : Nat} {B : Nat → Nat} {wd : Nat → Int64} {a b f p s : Nat} {S : List (Nat × Int32 × Int32 × Int32 × Int32)} {F : Int32 × Int32 × Int32 × Int32} {op : Bool} {pl : Nat} (hw : wdR wd a b) (hs : sk L B p = s) (hf : L - p < f) :
    crun L B wd a b f p S F Rn28 op pl = (if cdS L B wd a b s = 2 then crun L B wd a b (f - 1) (nxt L B s) (S ++ [(1, (fws (nmC (cdS L B wd a b s)) (tgC (cdS L B wd a b s)) (nuC L B (cdS L B wd a b s) s) [2] F))]) (-1, -1, -1, -1) root true (if op then s else pl) else .inl s) := by
  obtain ⟨c, hc61, hcod, _⟩ := tok_c (L := L) (B := B) (s := s) hw
  have hcd := cdS_e hc61 hcod
  cases f with
  | zero => omega
  | succ f =>
    rw [crun_s hs hcod hc61, vn28 c hc61, hcd]
    try rw [Nat.add_sub_cancel]
    by_cases h0 : c = 0
    · rw [if_pos h0, if_neg (by omega)]
    · rw [if_neg h0]
      by_cases h1 : c = 2
      · rw [if_pos h1, if_pos h1]
        rfl
      · rw [if_neg h1, if_neg h1]
        rfl
theorem cn29 {L : Nat} {B : Nat → Nat} {wd : Nat → Int64} {a b f p s : Nat} {S : List (Nat × Int32 × Int32 × Int32 × Int32)} {F : Int32 × Int32 × Int32 × Int32} {op : Bool} {pl : Nat} (hw : wdR wd a b) (hs : sk L B p = s) (hf : L - p < f) :
    crun L B wd a b f p S F Rn29 op pl = (if cdS L B wd a b s = 2 then crun L B wd a b (f - 1) (nxt L B s) (S ++ [(0, (fws (nmC (cdS L B wd a b s)) (tgC (cdS L B wd a b s)) (nuC L B (cdS L B wd a b s) s) [2] F))]) (-1, -1, -1, -1) root true (if op then s else pl) else if cdS L B wd a b s = 21 then crun L B wd a b (f - 1) (nxt L B s) S (fws (nmC (cdS L B wd a b s)) (tgC (cdS L B wd a b s)) (nuC L B (cdS L B wd a b s) s) [2, 21] F) Rn30 false (if op then s else pl) else .inl s) := by
  obtain ⟨c, hc61, hcod, _⟩ := tok_c (L := L) (B := B) (s := s) hw
  have hcd := cdS_e hc61 hcod
  cases f with
  | zero => omega
  | succ f =>
    rw [crun_s hs hcod hc61, vn29 c hc61, hcd]
    try rw [Nat.add_sub_cancel]
    by_cases h0 : c = 0
    · rw [if_pos h0, if_neg (by omega), if_neg (by omega)]
    · rw [if_neg h0]
      by_cases h1 : c = 2
      · rw [if_pos h1, if_pos h1]
        rfl
      · rw [if_neg h1, if_neg h1]
        by_cases h1 : c = 21
        · rw [if_pos h1, if_pos h1]
          rfl
        · rw [if_neg h1, if_neg h1]
          rfl
theorem cn30 {L : Nat} {B : Nat → Nat} {wd : Nat → Int64} {a b f p s : Nat} {S : List (Nat × Int32 × Int32 × Int32 × Int32)} {F : Int32 × Int32 × Int32 × Int32} {op : Bool} {pl : Nat} (hw : wdR wd a b) (hs : sk L B p = s) (hf : L - p < f) :
    crun L B wd a b f p S F Rn30 op pl = (if cdS L B wd a b s = 22 then crun L B wd a b (f - 1) (nxt L B s) S (fws (nmC (cdS L B wd a b s)) (tgC (cdS L B wd a b s)) (nuC L B (cdS L B wd a b s) s) [22] F) Rn31 false (if op then s else pl) else .inl s) := by
  obtain ⟨c, hc61, hcod, _⟩ := tok_c (L := L) (B := B) (s := s) hw
  have hcd := cdS_e hc61 hcod
  cases f with
  | zero => omega
  | succ f =>
    rw [crun_s hs hcod hc61, vn30 c hc61, hcd]
    try rw [Nat.add_sub_cancel]
    by_cases h0 : c = 0
    · rw [if_pos h0, if_neg (by omega)]
    · rw [if_neg h0]
      by_cases h1 : c = 22
      · rw [if_pos h1, if_pos h1]
        rfl
      · rw [if_neg h1, if_neg h1]
        rfl
theorem cn31 {L : Nat} {B : Nat → Nat} {wd : Nat → Int64} {a b f p s : Nat} {S : List (Nat × Int32 × Int32 × Int32 × Int32)} {F : Int32 × Int32 × Int32 × Int32} {op : Bool} {pl : Nat} (hw : wdR wd a b) (hs : sk L B p = s) (hf : L - p < f) :
    crun L B wd a b f p S F Rn31 op pl = (if (40 ≤ cdS L B wd a b s ∧ cdS L B wd a b s ≤ 45) then crun L B wd a b (f - 1) (nxt L B s) S (fws (nmC (cdS L B wd a b s)) (tgC (cdS L B wd a b s)) (nuC L B (cdS L B wd a b s) s) [79] F) Rn32 false (if op then s else pl) else .inl s) := by
  obtain ⟨c, hc61, hcod, _⟩ := tok_c (L := L) (B := B) (s := s) hw
  have hcd := cdS_e hc61 hcod
  cases f with
  | zero => omega
  | succ f =>
    rw [crun_s hs hcod hc61, vn31 c hc61, hcd]
    try rw [Nat.add_sub_cancel]
    by_cases h0 : c = 0
    · rw [if_pos h0, if_neg (by omega)]
    · rw [if_neg h0]
      by_cases h1 : (40 ≤ c ∧ c ≤ 45)
      · rw [if_pos h1, if_pos h1]
        rfl
      · rw [if_neg h1, if_neg h1]
        rfl
theorem cn32 {L : Nat} {B : Nat → Nat} {wd : Nat → Int64} {a b f p s : Nat} {S : List (Nat × Int32 × Int32 × Int32 × Int32)} {F : Int32 × Int32 × Int32 × Int32} {op : Bool} {pl : Nat} (hw : wdR wd a b) (hs : sk L B p = s) (hf : L - p < f) :
    crun L B wd a b f p S F Rn32 op pl = (if cdS L B wd a b s = 2 then crun L B wd a b (f - 1) (nxt L B s) (S ++ [(6, (fws (nmC (cdS L B wd a b s)) (tgC (cdS L B wd a b s)) (nuC L B (cdS L B wd a b s) s) [2] F))]) (-1, -1, -1, -1) root true (if op then s else pl) else .inl s) := by
  obtain ⟨c, hc61, hcod, _⟩ := tok_c (L := L) (B := B) (s := s) hw
  have hcd := cdS_e hc61 hcod
  cases f with
  | zero => omega
  | succ f =>
    rw [crun_s hs hcod hc61, vn32 c hc61, hcd]
    try rw [Nat.add_sub_cancel]
    by_cases h0 : c = 0
    · rw [if_pos h0, if_neg (by omega)]
    · rw [if_neg h0]
      by_cases h1 : c = 2
      · rw [if_pos h1, if_pos h1]
        rfl
      · rw [if_neg h1, if_neg h1]
        rfl
theorem cn33 {L : Nat} {B : Nat → Nat} {wd : Nat → Int64} {a b f p s : Nat} {S : List (Nat × Int32 × Int32 × Int32 × Int32)} {F : Int32 × Int32 × Int32 × Int32} {op : Bool} {pl : Nat} (hw : wdR wd a b) (hs : sk L B p = s) (hf : L - p < f) :
    crun L B wd a b f p S F Rn33 op pl = (if cdS L B wd a b s = 1 then crun L B wd a b (f - 1) (nxt L B s) S (fws (nmC (cdS L B wd a b s)) (tgC (cdS L B wd a b s)) (nuC L B (cdS L B wd a b s) s) [88] F) Rn34 false (if op then s else pl) else .inl s) := by
  obtain ⟨c, hc61, hcod, _⟩ := tok_c (L := L) (B := B) (s := s) hw
  have hcd := cdS_e hc61 hcod
  cases f with
  | zero => omega
  | succ f =>
    rw [crun_s hs hcod hc61, vn33 c hc61, hcd]
    try rw [Nat.add_sub_cancel]
    by_cases h0 : c = 0
    · rw [if_pos h0, if_neg (by omega)]
    · rw [if_neg h0]
      by_cases h1 : c = 1
      · rw [if_pos h1, if_pos h1]
        rfl
      · rw [if_neg h1, if_neg h1]
        rfl
theorem cn34 {L : Nat} {B : Nat → Nat} {wd : Nat → Int64} {a b f p s : Nat} {S : List (Nat × Int32 × Int32 × Int32 × Int32)} {F : Int32 × Int32 × Int32 × Int32} {op : Bool} {pl : Nat} (hw : wdR wd a b) (hs : sk L B p = s) (hf : L - p < f) :
    crun L B wd a b f p S F Rn34 op pl = (if (50 ≤ cdS L B wd a b s ∧ cdS L B wd a b s ≤ 55) then crun L B wd a b (f - 1) (nxt L B s) S (fws (nmC (cdS L B wd a b s)) (tgC (cdS L B wd a b s)) (nuC L B (cdS L B wd a b s) s) [84] F) Rn35 false (if op then s else pl) else .inl s) := by
  obtain ⟨c, hc61, hcod, _⟩ := tok_c (L := L) (B := B) (s := s) hw
  have hcd := cdS_e hc61 hcod
  cases f with
  | zero => omega
  | succ f =>
    rw [crun_s hs hcod hc61, vn34 c hc61, hcd]
    try rw [Nat.add_sub_cancel]
    by_cases h0 : c = 0
    · rw [if_pos h0, if_neg (by omega)]
    · rw [if_neg h0]
      by_cases h1 : (50 ≤ c ∧ c ≤ 55)
      · rw [if_pos h1, if_pos h1]
        rfl
      · rw [if_neg h1, if_neg h1]
        rfl
theorem cn35 {L : Nat} {B : Nat → Nat} {wd : Nat → Int64} {a b f p s : Nat} {S : List (Nat × Int32 × Int32 × Int32 × Int32)} {F : Int32 × Int32 × Int32 × Int32} {op : Bool} {pl : Nat} (hw : wdR wd a b) (hs : sk L B p = s) (hf : L - p < f) :
    crun L B wd a b f p S F Rn35 op pl = (if cdS L B wd a b s = 2 then crun L B wd a b (f - 1) (nxt L B s) (S ++ [(2, (fws (nmC (cdS L B wd a b s)) (tgC (cdS L B wd a b s)) (nuC L B (cdS L B wd a b s) s) [2] F))]) (-1, -1, -1, -1) root true (if op then s else pl) else .inl s) := by
  obtain ⟨c, hc61, hcod, _⟩ := tok_c (L := L) (B := B) (s := s) hw
  have hcd := cdS_e hc61 hcod
  cases f with
  | zero => omega
  | succ f =>
    rw [crun_s hs hcod hc61, vn35 c hc61, hcd]
    try rw [Nat.add_sub_cancel]
    by_cases h0 : c = 0
    · rw [if_pos h0, if_neg (by omega)]
    · rw [if_neg h0]
      by_cases h1 : c = 2
      · rw [if_pos h1, if_pos h1]
        rfl
      · rw [if_neg h1, if_neg h1]
        rfl
theorem cn36 {L : Nat} {B : Nat → Nat} {wd : Nat → Int64} {a b f p s : Nat} {S : List (Nat × Int32 × Int32 × Int32 × Int32)} {F : Int32 × Int32 × Int32 × Int32} {op : Bool} {pl : Nat} (hw : wdR wd a b) (hs : sk L B p = s) (hf : L - p < f) :
    crun L B wd a b f p S F Rn36 op pl = (if cdS L B wd a b s = 1 then crun L B wd a b (f - 1) (nxt L B s) S (fws (nmC (cdS L B wd a b s)) (tgC (cdS L B wd a b s)) (nuC L B (cdS L B wd a b s) s) [88] F) Rn37 false (if op then s else pl) else .inl s) := by
  obtain ⟨c, hc61, hcod, _⟩ := tok_c (L := L) (B := B) (s := s) hw
  have hcd := cdS_e hc61 hcod
  cases f with
  | zero => omega
  | succ f =>
    rw [crun_s hs hcod hc61, vn36 c hc61, hcd]
    try rw [Nat.add_sub_cancel]
    by_cases h0 : c = 0
    · rw [if_pos h0, if_neg (by omega)]
    · rw [if_neg h0]
      by_cases h1 : c = 1
      · rw [if_pos h1, if_pos h1]
        rfl
      · rw [if_neg h1, if_neg h1]
        rfl
theorem cn37 {L : Nat} {B : Nat → Nat} {wd : Nat → Int64} {a b f p s : Nat} {S : List (Nat × Int32 × Int32 × Int32 × Int32)} {F : Int32 × Int32 × Int32 × Int32} {op : Bool} {pl : Nat} (hw : wdR wd a b) (hs : sk L B p = s) (hf : L - p < f) :
    crun L B wd a b f p S F Rn37 op pl = (if (50 ≤ cdS L B wd a b s ∧ cdS L B wd a b s ≤ 55) then crun L B wd a b (f - 1) (nxt L B s) S (fws (nmC (cdS L B wd a b s)) (tgC (cdS L B wd a b s)) (nuC L B (cdS L B wd a b s) s) [84] F) Rn38 false (if op then s else pl) else .inl s) := by
  obtain ⟨c, hc61, hcod, _⟩ := tok_c (L := L) (B := B) (s := s) hw
  have hcd := cdS_e hc61 hcod
  cases f with
  | zero => omega
  | succ f =>
    rw [crun_s hs hcod hc61, vn37 c hc61, hcd]
    try rw [Nat.add_sub_cancel]
    by_cases h0 : c = 0
    · rw [if_pos h0, if_neg (by omega)]
    · rw [if_neg h0]
      by_cases h1 : (50 ≤ c ∧ c ≤ 55)
      · rw [if_pos h1, if_pos h1]
        rfl
      · rw [if_neg h1, if_neg h1]
        rfl
theorem cn38 {L : Nat} {B : Nat → Nat} {wd : Nat → Int64} {a b f p s : Nat} {S : List (Nat × Int32 × Int32 × Int32 × Int32)} {F : Int32 × Int32 × Int32 × Int32} {op : Bool} {pl : Nat} (hw : wdR wd a b) (hs : sk L B p = s) (hf : L - p < f) :
    crun L B wd a b f p S F Rn38 op pl = (if cdS L B wd a b s = 2 then crun L B wd a b (f - 1) (nxt L B s) (S ++ [(3, (fws (nmC (cdS L B wd a b s)) (tgC (cdS L B wd a b s)) (nuC L B (cdS L B wd a b s) s) [2] F))]) (-1, -1, -1, -1) root true (if op then s else pl) else .inl s) := by
  obtain ⟨c, hc61, hcod, _⟩ := tok_c (L := L) (B := B) (s := s) hw
  have hcd := cdS_e hc61 hcod
  cases f with
  | zero => omega
  | succ f =>
    rw [crun_s hs hcod hc61, vn38 c hc61, hcd]
    try rw [Nat.add_sub_cancel]
    by_cases h0 : c = 0
    · rw [if_pos h0, if_neg (by omega)]
    · rw [if_neg h0]
      by_cases h1 : c = 2
      · rw [if_pos h1, if_pos h1]
        rfl
      · rw [if_neg h1, if_neg h1]
        rfl
theorem cn39 {L : Nat} {B : Nat → Nat} {wd : Nat → Int64} {a b f p s : Nat} {S : List (Nat × Int32 × Int32 × Int32 × Int32)} {F : Int32 × Int32 × Int32 × Int32} {op : Bool} {pl : Nat} (hw : wdR wd a b) (hs : sk L B p = s) (hf : L - p < f) :
    crun L B wd a b f p S F Rn39 op pl = (if cdS L B wd a b s = 15 then crun L B wd a b (f - 1) (nxt L B s) S (fws (nmC (cdS L B wd a b s)) (tgC (cdS L B wd a b s)) (nuC L B (cdS L B wd a b s) s) [15] F) Rn40 false (if op then s else pl) else .inl s) := by
  obtain ⟨c, hc61, hcod, _⟩ := tok_c (L := L) (B := B) (s := s) hw
  have hcd := cdS_e hc61 hcod
  cases f with
  | zero => omega
  | succ f =>
    rw [crun_s hs hcod hc61, vn39 c hc61, hcd]
    try rw [Nat.add_sub_cancel]
    by_cases h0 : c = 0
    · rw [if_pos h0, if_neg (by omega)]
    · rw [if_neg h0]
      by_cases h1 : c = 15
      · rw [if_pos h1, if_pos h1]
        rfl
      · rw [if_neg h1, if_neg h1]
        rfl
theorem cn40 {L : Nat} {B : Nat → Nat} {wd : Nat → Int64} {a b f p s : Nat} {S : List (Nat × Int32 × Int32 × Int32 × Int32)} {F : Int32 × Int32 × Int32 × Int32} {op : Bool} {pl : Nat} (hw : wdR wd a b) (hs : sk L B p = s) (hf : L - p < f) :
    crun L B wd a b f p S F Rn40 op pl = (if cdS L B wd a b s = 16 then crun L B wd a b (f - 1) (nxt L B s) S (fws (nmC (cdS L B wd a b s)) (tgC (cdS L B wd a b s)) (nuC L B (cdS L B wd a b s) s) [16] F) Rn41 false (if op then s else pl) else .inl s) := by
  obtain ⟨c, hc61, hcod, _⟩ := tok_c (L := L) (B := B) (s := s) hw
  have hcd := cdS_e hc61 hcod
  cases f with
  | zero => omega
  | succ f =>
    rw [crun_s hs hcod hc61, vn40 c hc61, hcd]
    try rw [Nat.add_sub_cancel]
    by_cases h0 : c = 0
    · rw [if_pos h0, if_neg (by omega)]
    · rw [if_neg h0]
      by_cases h1 : c = 16
      · rw [if_pos h1, if_pos h1]
        rfl
      · rw [if_neg h1, if_neg h1]
        rfl
theorem cn41 {L : Nat} {B : Nat → Nat} {wd : Nat → Int64} {a b f p s : Nat} {S : List (Nat × Int32 × Int32 × Int32 × Int32)} {F : Int32 × Int32 × Int32 × Int32} {op : Bool} {pl : Nat} (hw : wdR wd a b) (hs : sk L B p = s) (hf : L - p < f) :
    crun L B wd a b f p S F Rn41 op pl = (if cdS L B wd a b s = 1 then crun L B wd a b (f - 1) (nxt L B s) S (fws (nmC (cdS L B wd a b s)) (tgC (cdS L B wd a b s)) (nuC L B (cdS L B wd a b s) s) [88] F) Rn42 false (if op then s else pl) else .inl s) := by
  obtain ⟨c, hc61, hcod, _⟩ := tok_c (L := L) (B := B) (s := s) hw
  have hcd := cdS_e hc61 hcod
  cases f with
  | zero => omega
  | succ f =>
    rw [crun_s hs hcod hc61, vn41 c hc61, hcd]
    try rw [Nat.add_sub_cancel]
    by_cases h0 : c = 0
    · rw [if_pos h0, if_neg (by omega)]
    · rw [if_neg h0]
      by_cases h1 : c = 1
      · rw [if_pos h1, if_pos h1]
        rfl
      · rw [if_neg h1, if_neg h1]
        rfl
theorem cn42 {L : Nat} {B : Nat → Nat} {wd : Nat → Int64} {a b f p s : Nat} {S : List (Nat × Int32 × Int32 × Int32 × Int32)} {F : Int32 × Int32 × Int32 × Int32} {op : Bool} {pl : Nat} (hw : wdR wd a b) (hs : sk L B p = s) (hf : L - p < f) :
    crun L B wd a b f p S F Rn42 op pl = (if cdS L B wd a b s = 11 then crun L B wd a b (f - 1) (nxt L B s) S (fws (nmC (cdS L B wd a b s)) (tgC (cdS L B wd a b s)) (nuC L B (cdS L B wd a b s) s) [11] F) Rn43 false (if op then s else pl) else .inl s) := by
  obtain ⟨c, hc61, hcod, _⟩ := tok_c (L := L) (B := B) (s := s) hw
  have hcd := cdS_e hc61 hcod
  cases f with
  | zero => omega
  | succ f =>
    rw [crun_s hs hcod hc61, vn42 c hc61, hcd]
    try rw [Nat.add_sub_cancel]
    by_cases h0 : c = 0
    · rw [if_pos h0, if_neg (by omega)]
    · rw [if_neg h0]
      by_cases h1 : c = 11
      · rw [if_pos h1, if_pos h1]
        rfl
      · rw [if_neg h1, if_neg h1]
        rfl
theorem cn43 {L : Nat} {B : Nat → Nat} {wd : Nat → Int64} {a b f p s : Nat} {S : List (Nat × Int32 × Int32 × Int32 × Int32)} {F : Int32 × Int32 × Int32 × Int32} {op : Bool} {pl : Nat} (hw : wdR wd a b) (hs : sk L B p = s) (hf : L - p < f) :
    crun L B wd a b f p S F Rn43 op pl = (if cdS L B wd a b s = 2 then crun L B wd a b (f - 1) (nxt L B s) (S ++ [(4, (fws (nmC (cdS L B wd a b s)) (tgC (cdS L B wd a b s)) (nuC L B (cdS L B wd a b s) s) [2] F))]) (-1, -1, -1, -1) root true (if op then s else pl) else .inl s) := by
  obtain ⟨c, hc61, hcod, _⟩ := tok_c (L := L) (B := B) (s := s) hw
  have hcd := cdS_e hc61 hcod
  cases f with
  | zero => omega
  | succ f =>
    rw [crun_s hs hcod hc61, vn43 c hc61, hcd]
    try rw [Nat.add_sub_cancel]
    by_cases h0 : c = 0
    · rw [if_pos h0, if_neg (by omega)]
    · rw [if_neg h0]
      by_cases h1 : c = 2
      · rw [if_pos h1, if_pos h1]
        rfl
      · rw [if_neg h1, if_neg h1]
        rfl
