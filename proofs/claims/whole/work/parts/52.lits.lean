theorem e_c0 : (0 : Int32).toNatClampNeg = 0 := rfl
theorem e_c1 : (1 : Int32).toNatClampNeg = 1 := rfl
theorem e_c2 : (2 : Int32).toNatClampNeg = 2 := rfl
theorem e_c3 : (3 : Int32).toNatClampNeg = 3 := rfl
theorem e_c4 : (4 : Int32).toNatClampNeg = 4 := rfl
theorem e_c5 : (5 : Int32).toNatClampNeg = 5 := rfl
theorem e_c6 : (6 : Int32).toNatClampNeg = 6 := rfl
theorem e_c7 : (7 : Int32).toNatClampNeg = 7 := rfl
theorem e_c8 : (8 : Int32).toNatClampNeg = 8 := rfl
theorem e_c9 : (9 : Int32).toNatClampNeg = 9 := rfl
theorem e_c10 : (10 : Int32).toNatClampNeg = 10 := rfl
theorem e_c11 : (11 : Int32).toNatClampNeg = 11 := rfl
theorem e_c12 : (12 : Int32).toNatClampNeg = 12 := rfl
theorem e_c13 : (13 : Int32).toNatClampNeg = 13 := rfl
theorem e_c14 : (14 : Int32).toNatClampNeg = 14 := rfl
theorem e_c15 : (15 : Int32).toNatClampNeg = 15 := rfl
theorem e_c16 : (16 : Int32).toNatClampNeg = 16 := rfl
theorem e_c17 : (17 : Int32).toNatClampNeg = 17 := rfl
theorem e_c18 : (18 : Int32).toNatClampNeg = 18 := rfl
theorem e_c19 : (19 : Int32).toNatClampNeg = 19 := rfl
theorem e_c20 : (20 : Int32).toNatClampNeg = 20 := rfl
theorem e_c21 : (21 : Int32).toNatClampNeg = 21 := rfl
theorem e_c22 : (22 : Int32).toNatClampNeg = 22 := rfl
theorem e_c23 : (23 : Int32).toNatClampNeg = 23 := rfl
theorem e_c24 : (24 : Int32).toNatClampNeg = 24 := rfl
theorem e_c25 : (25 : Int32).toNatClampNeg = 25 := rfl
theorem e_c26 : (26 : Int32).toNatClampNeg = 26 := rfl
theorem e_c27 : (27 : Int32).toNatClampNeg = 27 := rfl
theorem e_c28 : (28 : Int32).toNatClampNeg = 28 := rfl
theorem e_c29 : (29 : Int32).toNatClampNeg = 29 := rfl
theorem e_c30 : (30 : Int32).toNatClampNeg = 30 := rfl
theorem e_c31 : (31 : Int32).toNatClampNeg = 31 := rfl
theorem e_c32 : (32 : Int32).toNatClampNeg = 32 := rfl
theorem e_c33 : (33 : Int32).toNatClampNeg = 33 := rfl
theorem e_c34 : (34 : Int32).toNatClampNeg = 34 := rfl
theorem e_c35 : (35 : Int32).toNatClampNeg = 35 := rfl
theorem e_c36 : (36 : Int32).toNatClampNeg = 36 := rfl
theorem e_c37 : (37 : Int32).toNatClampNeg = 37 := rfl
theorem e_c38 : (38 : Int32).toNatClampNeg = 38 := rfl
theorem e_c39 : (39 : Int32).toNatClampNeg = 39 := rfl
theorem e_c40 : (40 : Int32).toNatClampNeg = 40 := rfl
theorem e_c41 : (41 : Int32).toNatClampNeg = 41 := rfl
theorem e_c42 : (42 : Int32).toNatClampNeg = 42 := rfl
theorem e_c43 : (43 : Int32).toNatClampNeg = 43 := rfl
theorem e_c44 : (44 : Int32).toNatClampNeg = 44 := rfl
theorem e_c45 : (45 : Int32).toNatClampNeg = 45 := rfl
theorem e_c46 : (46 : Int32).toNatClampNeg = 46 := rfl
theorem e_c47 : (47 : Int32).toNatClampNeg = 47 := rfl
theorem e_c48 : (48 : Int32).toNatClampNeg = 48 := rfl
theorem e_c49 : (49 : Int32).toNatClampNeg = 49 := rfl
theorem e_c50 : (50 : Int32).toNatClampNeg = 50 := rfl
theorem e_c51 : (51 : Int32).toNatClampNeg = 51 := rfl
theorem e_c52 : (52 : Int32).toNatClampNeg = 52 := rfl
theorem e_c53 : (53 : Int32).toNatClampNeg = 53 := rfl
theorem e_c54 : (54 : Int32).toNatClampNeg = 54 := rfl
theorem e_c55 : (55 : Int32).toNatClampNeg = 55 := rfl
theorem e_c56 : (56 : Int32).toNatClampNeg = 56 := rfl
theorem e_c57 : (57 : Int32).toNatClampNeg = 57 := rfl
theorem e_c58 : (58 : Int32).toNatClampNeg = 58 := rfl
theorem e_c59 : (59 : Int32).toNatClampNeg = 59 := rfl
theorem e_c60 : (60 : Int32).toNatClampNeg = 60 := rfl
theorem e_c61 : (61 : Int32).toNatClampNeg = 61 := rfl
theorem e_c62 : (62 : Int32).toNatClampNeg = 62 := rfl
theorem e_c63 : (63 : Int32).toNatClampNeg = 63 := rfl
theorem e_c64 : (64 : Int32).toNatClampNeg = 64 := rfl
theorem e_c65 : (65 : Int32).toNatClampNeg = 65 := rfl
theorem e_c66 : (66 : Int32).toNatClampNeg = 66 := rfl
theorem e_c67 : (67 : Int32).toNatClampNeg = 67 := rfl
theorem e_c68 : (68 : Int32).toNatClampNeg = 68 := rfl
theorem e_c69 : (69 : Int32).toNatClampNeg = 69 := rfl
theorem e_c70 : (70 : Int32).toNatClampNeg = 70 := rfl
theorem e_i3848_0 : vp_in 0 3848 ↔ True := ⟨fun _ => trivial, fun _ => by unfold vp_in; decide⟩
theorem e_i3848_1 : vp_in 1 3848 ↔ True := ⟨fun _ => trivial, fun _ => by unfold vp_in; decide⟩
theorem e_i3848_2 : vp_in 2 3848 ↔ True := ⟨fun _ => trivial, fun _ => by unfold vp_in; decide⟩
theorem e_i3848_3 : vp_in 3 3848 ↔ True := ⟨fun _ => trivial, fun _ => by unfold vp_in; decide⟩
theorem e_i3848_4 : vp_in 4 3848 ↔ True := ⟨fun _ => trivial, fun _ => by unfold vp_in; decide⟩
theorem e_i3848_5 : vp_in 5 3848 ↔ True := ⟨fun _ => trivial, fun _ => by unfold vp_in; decide⟩
theorem e_i3848_6 : vp_in 6 3848 ↔ True := ⟨fun _ => trivial, fun _ => by unfold vp_in; decide⟩
theorem e_i3848_7 : vp_in 7 3848 ↔ True := ⟨fun _ => trivial, fun _ => by unfold vp_in; decide⟩
theorem e_i3848_8 : vp_in 8 3848 ↔ True := ⟨fun _ => trivial, fun _ => by unfold vp_in; decide⟩
theorem e_i3848_9 : vp_in 9 3848 ↔ True := ⟨fun _ => trivial, fun _ => by unfold vp_in; decide⟩
theorem e_i3848_10 : vp_in 10 3848 ↔ True := ⟨fun _ => trivial, fun _ => by unfold vp_in; decide⟩
theorem e_i3848_11 : vp_in 11 3848 ↔ True := ⟨fun _ => trivial, fun _ => by unfold vp_in; decide⟩
theorem e_i3848_12 : vp_in 12 3848 ↔ True := ⟨fun _ => trivial, fun _ => by unfold vp_in; decide⟩
theorem e_i3848_13 : vp_in 13 3848 ↔ True := ⟨fun _ => trivial, fun _ => by unfold vp_in; decide⟩
theorem e_i3848_14 : vp_in 14 3848 ↔ True := ⟨fun _ => trivial, fun _ => by unfold vp_in; decide⟩
theorem e_i3848_15 : vp_in 15 3848 ↔ True := ⟨fun _ => trivial, fun _ => by unfold vp_in; decide⟩
theorem e_i3848_16 : vp_in 16 3848 ↔ True := ⟨fun _ => trivial, fun _ => by unfold vp_in; decide⟩
theorem e_i3848_17 : vp_in 17 3848 ↔ True := ⟨fun _ => trivial, fun _ => by unfold vp_in; decide⟩
theorem e_i3848_18 : vp_in 18 3848 ↔ True := ⟨fun _ => trivial, fun _ => by unfold vp_in; decide⟩
theorem e_i3848_19 : vp_in 19 3848 ↔ True := ⟨fun _ => trivial, fun _ => by unfold vp_in; decide⟩
theorem e_i3848_20 : vp_in 20 3848 ↔ True := ⟨fun _ => trivial, fun _ => by unfold vp_in; decide⟩
theorem e_i3848_21 : vp_in 21 3848 ↔ True := ⟨fun _ => trivial, fun _ => by unfold vp_in; decide⟩
theorem e_i3848_22 : vp_in 22 3848 ↔ True := ⟨fun _ => trivial, fun _ => by unfold vp_in; decide⟩
theorem e_i3848_23 : vp_in 23 3848 ↔ True := ⟨fun _ => trivial, fun _ => by unfold vp_in; decide⟩
theorem e_i3848_24 : vp_in 24 3848 ↔ True := ⟨fun _ => trivial, fun _ => by unfold vp_in; decide⟩
theorem e_i3848_25 : vp_in 25 3848 ↔ True := ⟨fun _ => trivial, fun _ => by unfold vp_in; decide⟩
theorem e_i3848_26 : vp_in 26 3848 ↔ True := ⟨fun _ => trivial, fun _ => by unfold vp_in; decide⟩
theorem e_i3848_27 : vp_in 27 3848 ↔ True := ⟨fun _ => trivial, fun _ => by unfold vp_in; decide⟩
theorem e_i3848_28 : vp_in 28 3848 ↔ True := ⟨fun _ => trivial, fun _ => by unfold vp_in; decide⟩
theorem e_i3848_29 : vp_in 29 3848 ↔ True := ⟨fun _ => trivial, fun _ => by unfold vp_in; decide⟩
theorem e_i3848_30 : vp_in 30 3848 ↔ True := ⟨fun _ => trivial, fun _ => by unfold vp_in; decide⟩
theorem e_i3848_31 : vp_in 31 3848 ↔ True := ⟨fun _ => trivial, fun _ => by unfold vp_in; decide⟩
theorem e_i3848_32 : vp_in 32 3848 ↔ True := ⟨fun _ => trivial, fun _ => by unfold vp_in; decide⟩
theorem e_i3848_33 : vp_in 33 3848 ↔ True := ⟨fun _ => trivial, fun _ => by unfold vp_in; decide⟩
theorem e_i3848_34 : vp_in 34 3848 ↔ True := ⟨fun _ => trivial, fun _ => by unfold vp_in; decide⟩
theorem e_i3848_35 : vp_in 35 3848 ↔ True := ⟨fun _ => trivial, fun _ => by unfold vp_in; decide⟩
theorem e_i3848_36 : vp_in 36 3848 ↔ True := ⟨fun _ => trivial, fun _ => by unfold vp_in; decide⟩
theorem e_i3848_37 : vp_in 37 3848 ↔ True := ⟨fun _ => trivial, fun _ => by unfold vp_in; decide⟩
theorem e_i3848_38 : vp_in 38 3848 ↔ True := ⟨fun _ => trivial, fun _ => by unfold vp_in; decide⟩
theorem e_i3848_39 : vp_in 39 3848 ↔ True := ⟨fun _ => trivial, fun _ => by unfold vp_in; decide⟩
theorem e_i3848_40 : vp_in 40 3848 ↔ True := ⟨fun _ => trivial, fun _ => by unfold vp_in; decide⟩
theorem e_i3848_41 : vp_in 41 3848 ↔ True := ⟨fun _ => trivial, fun _ => by unfold vp_in; decide⟩
theorem e_i3848_42 : vp_in 42 3848 ↔ True := ⟨fun _ => trivial, fun _ => by unfold vp_in; decide⟩
theorem e_i3848_43 : vp_in 43 3848 ↔ True := ⟨fun _ => trivial, fun _ => by unfold vp_in; decide⟩
theorem e_i3848_44 : vp_in 44 3848 ↔ True := ⟨fun _ => trivial, fun _ => by unfold vp_in; decide⟩
theorem e_i3848_45 : vp_in 45 3848 ↔ True := ⟨fun _ => trivial, fun _ => by unfold vp_in; decide⟩
theorem e_i3848_46 : vp_in 46 3848 ↔ True := ⟨fun _ => trivial, fun _ => by unfold vp_in; decide⟩
theorem e_i3848_47 : vp_in 47 3848 ↔ True := ⟨fun _ => trivial, fun _ => by unfold vp_in; decide⟩
theorem e_i3848_48 : vp_in 48 3848 ↔ True := ⟨fun _ => trivial, fun _ => by unfold vp_in; decide⟩
theorem e_i3848_49 : vp_in 49 3848 ↔ True := ⟨fun _ => trivial, fun _ => by unfold vp_in; decide⟩
theorem e_i3848_50 : vp_in 50 3848 ↔ True := ⟨fun _ => trivial, fun _ => by unfold vp_in; decide⟩
theorem e_i3848_51 : vp_in 51 3848 ↔ True := ⟨fun _ => trivial, fun _ => by unfold vp_in; decide⟩
theorem e_i3848_52 : vp_in 52 3848 ↔ True := ⟨fun _ => trivial, fun _ => by unfold vp_in; decide⟩
theorem e_i3848_53 : vp_in 53 3848 ↔ True := ⟨fun _ => trivial, fun _ => by unfold vp_in; decide⟩
theorem e_i3848_54 : vp_in 54 3848 ↔ True := ⟨fun _ => trivial, fun _ => by unfold vp_in; decide⟩
theorem e_i3848_55 : vp_in 55 3848 ↔ True := ⟨fun _ => trivial, fun _ => by unfold vp_in; decide⟩
theorem e_i3848_56 : vp_in 56 3848 ↔ True := ⟨fun _ => trivial, fun _ => by unfold vp_in; decide⟩
theorem e_i3848_57 : vp_in 57 3848 ↔ True := ⟨fun _ => trivial, fun _ => by unfold vp_in; decide⟩
theorem e_i3848_58 : vp_in 58 3848 ↔ True := ⟨fun _ => trivial, fun _ => by unfold vp_in; decide⟩
theorem e_i3848_59 : vp_in 59 3848 ↔ True := ⟨fun _ => trivial, fun _ => by unfold vp_in; decide⟩
theorem e_i3848_60 : vp_in 60 3848 ↔ True := ⟨fun _ => trivial, fun _ => by unfold vp_in; decide⟩
theorem e_i3848_61 : vp_in 61 3848 ↔ True := ⟨fun _ => trivial, fun _ => by unfold vp_in; decide⟩
theorem e_i3848_62 : vp_in 62 3848 ↔ True := ⟨fun _ => trivial, fun _ => by unfold vp_in; decide⟩
theorem e_i3848_63 : vp_in 63 3848 ↔ True := ⟨fun _ => trivial, fun _ => by unfold vp_in; decide⟩
theorem e_i3848_64 : vp_in 64 3848 ↔ True := ⟨fun _ => trivial, fun _ => by unfold vp_in; decide⟩
theorem e_i3848_65 : vp_in 65 3848 ↔ True := ⟨fun _ => trivial, fun _ => by unfold vp_in; decide⟩
theorem e_i3848_66 : vp_in 66 3848 ↔ True := ⟨fun _ => trivial, fun _ => by unfold vp_in; decide⟩
theorem e_i3848_67 : vp_in 67 3848 ↔ True := ⟨fun _ => trivial, fun _ => by unfold vp_in; decide⟩
theorem e_i3848_68 : vp_in 68 3848 ↔ True := ⟨fun _ => trivial, fun _ => by unfold vp_in; decide⟩
theorem e_i3848_69 : vp_in 69 3848 ↔ True := ⟨fun _ => trivial, fun _ => by unfold vp_in; decide⟩
theorem e_i3848_70 : vp_in 70 3848 ↔ True := ⟨fun _ => trivial, fun _ => by unfold vp_in; decide⟩
theorem e_i35_0 : vp_in 0 35 ↔ True := ⟨fun _ => trivial, fun _ => by unfold vp_in; decide⟩
theorem e_i35_1 : vp_in 1 35 ↔ True := ⟨fun _ => trivial, fun _ => by unfold vp_in; decide⟩
theorem e_i35_2 : vp_in 2 35 ↔ True := ⟨fun _ => trivial, fun _ => by unfold vp_in; decide⟩
theorem e_i35_3 : vp_in 3 35 ↔ True := ⟨fun _ => trivial, fun _ => by unfold vp_in; decide⟩
theorem e_i35_4 : vp_in 4 35 ↔ True := ⟨fun _ => trivial, fun _ => by unfold vp_in; decide⟩
theorem e_i35_5 : vp_in 5 35 ↔ True := ⟨fun _ => trivial, fun _ => by unfold vp_in; decide⟩
theorem e_i35_6 : vp_in 6 35 ↔ True := ⟨fun _ => trivial, fun _ => by unfold vp_in; decide⟩
theorem e_i35_7 : vp_in 7 35 ↔ True := ⟨fun _ => trivial, fun _ => by unfold vp_in; decide⟩
theorem e_i35_8 : vp_in 8 35 ↔ True := ⟨fun _ => trivial, fun _ => by unfold vp_in; decide⟩
theorem e_i35_9 : vp_in 9 35 ↔ True := ⟨fun _ => trivial, fun _ => by unfold vp_in; decide⟩
theorem e_i35_10 : vp_in 10 35 ↔ True := ⟨fun _ => trivial, fun _ => by unfold vp_in; decide⟩
theorem e_i35_11 : vp_in 11 35 ↔ True := ⟨fun _ => trivial, fun _ => by unfold vp_in; decide⟩
theorem e_i35_12 : vp_in 12 35 ↔ True := ⟨fun _ => trivial, fun _ => by unfold vp_in; decide⟩
theorem e_i35_13 : vp_in 13 35 ↔ True := ⟨fun _ => trivial, fun _ => by unfold vp_in; decide⟩
theorem e_i35_14 : vp_in 14 35 ↔ True := ⟨fun _ => trivial, fun _ => by unfold vp_in; decide⟩
theorem e_i35_15 : vp_in 15 35 ↔ True := ⟨fun _ => trivial, fun _ => by unfold vp_in; decide⟩
theorem e_i35_16 : vp_in 16 35 ↔ True := ⟨fun _ => trivial, fun _ => by unfold vp_in; decide⟩
theorem e_i35_17 : vp_in 17 35 ↔ True := ⟨fun _ => trivial, fun _ => by unfold vp_in; decide⟩
theorem e_i35_18 : vp_in 18 35 ↔ True := ⟨fun _ => trivial, fun _ => by unfold vp_in; decide⟩
theorem e_i35_19 : vp_in 19 35 ↔ True := ⟨fun _ => trivial, fun _ => by unfold vp_in; decide⟩
theorem e_i35_20 : vp_in 20 35 ↔ True := ⟨fun _ => trivial, fun _ => by unfold vp_in; decide⟩
theorem e_i35_21 : vp_in 21 35 ↔ True := ⟨fun _ => trivial, fun _ => by unfold vp_in; decide⟩
theorem e_i35_22 : vp_in 22 35 ↔ True := ⟨fun _ => trivial, fun _ => by unfold vp_in; decide⟩
theorem e_i35_23 : vp_in 23 35 ↔ True := ⟨fun _ => trivial, fun _ => by unfold vp_in; decide⟩
theorem e_i35_24 : vp_in 24 35 ↔ True := ⟨fun _ => trivial, fun _ => by unfold vp_in; decide⟩
theorem e_i35_25 : vp_in 25 35 ↔ True := ⟨fun _ => trivial, fun _ => by unfold vp_in; decide⟩
theorem e_i35_26 : vp_in 26 35 ↔ True := ⟨fun _ => trivial, fun _ => by unfold vp_in; decide⟩
theorem e_i35_27 : vp_in 27 35 ↔ True := ⟨fun _ => trivial, fun _ => by unfold vp_in; decide⟩
theorem e_i35_28 : vp_in 28 35 ↔ True := ⟨fun _ => trivial, fun _ => by unfold vp_in; decide⟩
theorem e_i35_29 : vp_in 29 35 ↔ True := ⟨fun _ => trivial, fun _ => by unfold vp_in; decide⟩
theorem e_i35_30 : vp_in 30 35 ↔ True := ⟨fun _ => trivial, fun _ => by unfold vp_in; decide⟩
theorem e_i35_31 : vp_in 31 35 ↔ True := ⟨fun _ => trivial, fun _ => by unfold vp_in; decide⟩
theorem e_i35_32 : vp_in 32 35 ↔ True := ⟨fun _ => trivial, fun _ => by unfold vp_in; decide⟩
theorem e_i35_33 : vp_in 33 35 ↔ True := ⟨fun _ => trivial, fun _ => by unfold vp_in; decide⟩
theorem e_i35_34 : vp_in 34 35 ↔ True := ⟨fun _ => trivial, fun _ => by unfold vp_in; decide⟩
theorem e_i20_0 : vp_in 0 20 ↔ True := ⟨fun _ => trivial, fun _ => by unfold vp_in; decide⟩
theorem e_i20_1 : vp_in 1 20 ↔ True := ⟨fun _ => trivial, fun _ => by unfold vp_in; decide⟩
theorem e_i20_2 : vp_in 2 20 ↔ True := ⟨fun _ => trivial, fun _ => by unfold vp_in; decide⟩
theorem e_i20_3 : vp_in 3 20 ↔ True := ⟨fun _ => trivial, fun _ => by unfold vp_in; decide⟩
theorem e_i20_4 : vp_in 4 20 ↔ True := ⟨fun _ => trivial, fun _ => by unfold vp_in; decide⟩
theorem e_i20_5 : vp_in 5 20 ↔ True := ⟨fun _ => trivial, fun _ => by unfold vp_in; decide⟩
theorem e_i20_6 : vp_in 6 20 ↔ True := ⟨fun _ => trivial, fun _ => by unfold vp_in; decide⟩
theorem e_i20_7 : vp_in 7 20 ↔ True := ⟨fun _ => trivial, fun _ => by unfold vp_in; decide⟩
theorem e_i20_8 : vp_in 8 20 ↔ True := ⟨fun _ => trivial, fun _ => by unfold vp_in; decide⟩
theorem e_i20_9 : vp_in 9 20 ↔ True := ⟨fun _ => trivial, fun _ => by unfold vp_in; decide⟩
theorem e_i20_10 : vp_in 10 20 ↔ True := ⟨fun _ => trivial, fun _ => by unfold vp_in; decide⟩
theorem e_i20_11 : vp_in 11 20 ↔ True := ⟨fun _ => trivial, fun _ => by unfold vp_in; decide⟩
theorem e_i20_12 : vp_in 12 20 ↔ True := ⟨fun _ => trivial, fun _ => by unfold vp_in; decide⟩
theorem e_i20_13 : vp_in 13 20 ↔ True := ⟨fun _ => trivial, fun _ => by unfold vp_in; decide⟩
theorem e_i20_14 : vp_in 14 20 ↔ True := ⟨fun _ => trivial, fun _ => by unfold vp_in; decide⟩
theorem e_i20_15 : vp_in 15 20 ↔ True := ⟨fun _ => trivial, fun _ => by unfold vp_in; decide⟩
theorem e_i20_16 : vp_in 16 20 ↔ True := ⟨fun _ => trivial, fun _ => by unfold vp_in; decide⟩
theorem e_i20_17 : vp_in 17 20 ↔ True := ⟨fun _ => trivial, fun _ => by unfold vp_in; decide⟩
theorem e_i20_18 : vp_in 18 20 ↔ True := ⟨fun _ => trivial, fun _ => by unfold vp_in; decide⟩
theorem e_i20_19 : vp_in 19 20 ↔ True := ⟨fun _ => trivial, fun _ => by unfold vp_in; decide⟩
theorem e_i48_0 : vp_in 0 48 ↔ True := ⟨fun _ => trivial, fun _ => by unfold vp_in; decide⟩
theorem e_i48_1 : vp_in 1 48 ↔ True := ⟨fun _ => trivial, fun _ => by unfold vp_in; decide⟩
theorem e_i48_2 : vp_in 2 48 ↔ True := ⟨fun _ => trivial, fun _ => by unfold vp_in; decide⟩
theorem e_i48_3 : vp_in 3 48 ↔ True := ⟨fun _ => trivial, fun _ => by unfold vp_in; decide⟩
theorem e_i48_4 : vp_in 4 48 ↔ True := ⟨fun _ => trivial, fun _ => by unfold vp_in; decide⟩
theorem e_i48_5 : vp_in 5 48 ↔ True := ⟨fun _ => trivial, fun _ => by unfold vp_in; decide⟩
theorem e_i48_6 : vp_in 6 48 ↔ True := ⟨fun _ => trivial, fun _ => by unfold vp_in; decide⟩
theorem e_i48_7 : vp_in 7 48 ↔ True := ⟨fun _ => trivial, fun _ => by unfold vp_in; decide⟩
theorem e_i48_8 : vp_in 8 48 ↔ True := ⟨fun _ => trivial, fun _ => by unfold vp_in; decide⟩
theorem e_i48_9 : vp_in 9 48 ↔ True := ⟨fun _ => trivial, fun _ => by unfold vp_in; decide⟩
theorem e_i48_10 : vp_in 10 48 ↔ True := ⟨fun _ => trivial, fun _ => by unfold vp_in; decide⟩
theorem e_i48_11 : vp_in 11 48 ↔ True := ⟨fun _ => trivial, fun _ => by unfold vp_in; decide⟩
theorem e_i48_12 : vp_in 12 48 ↔ True := ⟨fun _ => trivial, fun _ => by unfold vp_in; decide⟩
theorem e_i3_0 : vp_in 0 3 ↔ True := ⟨fun _ => trivial, fun _ => by unfold vp_in; decide⟩
theorem e_i3_1 : vp_in 1 3 ↔ True := ⟨fun _ => trivial, fun _ => by unfold vp_in; decide⟩
theorem e_i3_2 : vp_in 2 3 ↔ True := ⟨fun _ => trivial, fun _ => by unfold vp_in; decide⟩
theorem e_i4_0 : vp_in 0 4 ↔ True := ⟨fun _ => trivial, fun _ => by unfold vp_in; decide⟩
theorem e_i4_1 : vp_in 1 4 ↔ True := ⟨fun _ => trivial, fun _ => by unfold vp_in; decide⟩
theorem e_i4_2 : vp_in 2 4 ↔ True := ⟨fun _ => trivial, fun _ => by unfold vp_in; decide⟩
theorem e_i4_3 : vp_in 3 4 ↔ True := ⟨fun _ => trivial, fun _ => by unfold vp_in; decide⟩
theorem e_i6_0 : vp_in 0 6 ↔ True := ⟨fun _ => trivial, fun _ => by unfold vp_in; decide⟩
theorem e_i6_1 : vp_in 1 6 ↔ True := ⟨fun _ => trivial, fun _ => by unfold vp_in; decide⟩
theorem e_i6_2 : vp_in 2 6 ↔ True := ⟨fun _ => trivial, fun _ => by unfold vp_in; decide⟩
theorem e_i6_3 : vp_in 3 6 ↔ True := ⟨fun _ => trivial, fun _ => by unfold vp_in; decide⟩
theorem e_i6_4 : vp_in 4 6 ↔ True := ⟨fun _ => trivial, fun _ => by unfold vp_in; decide⟩
theorem e_i6_5 : vp_in 5 6 ↔ True := ⟨fun _ => trivial, fun _ => by unfold vp_in; decide⟩
theorem e_i11_0 : vp_in 0 11 ↔ True := ⟨fun _ => trivial, fun _ => by unfold vp_in; decide⟩
theorem e_i11_1 : vp_in 1 11 ↔ True := ⟨fun _ => trivial, fun _ => by unfold vp_in; decide⟩
theorem e_i11_2 : vp_in 2 11 ↔ True := ⟨fun _ => trivial, fun _ => by unfold vp_in; decide⟩
theorem e_i11_3 : vp_in 3 11 ↔ True := ⟨fun _ => trivial, fun _ => by unfold vp_in; decide⟩
theorem e_i11_4 : vp_in 4 11 ↔ True := ⟨fun _ => trivial, fun _ => by unfold vp_in; decide⟩
theorem e_i11_5 : vp_in 5 11 ↔ True := ⟨fun _ => trivial, fun _ => by unfold vp_in; decide⟩
theorem e_i11_6 : vp_in 6 11 ↔ True := ⟨fun _ => trivial, fun _ => by unfold vp_in; decide⟩
theorem e_i11_7 : vp_in 7 11 ↔ True := ⟨fun _ => trivial, fun _ => by unfold vp_in; decide⟩
theorem e_i11_8 : vp_in 8 11 ↔ True := ⟨fun _ => trivial, fun _ => by unfold vp_in; decide⟩
theorem e_i11_9 : vp_in 9 11 ↔ True := ⟨fun _ => trivial, fun _ => by unfold vp_in; decide⟩
theorem e_i11_10 : vp_in 10 11 ↔ True := ⟨fun _ => trivial, fun _ => by unfold vp_in; decide⟩
theorem e_i12_0 : vp_in 0 12 ↔ True := ⟨fun _ => trivial, fun _ => by unfold vp_in; decide⟩
theorem e_i12_1 : vp_in 1 12 ↔ True := ⟨fun _ => trivial, fun _ => by unfold vp_in; decide⟩
theorem e_i12_2 : vp_in 2 12 ↔ True := ⟨fun _ => trivial, fun _ => by unfold vp_in; decide⟩
theorem e_i12_3 : vp_in 3 12 ↔ True := ⟨fun _ => trivial, fun _ => by unfold vp_in; decide⟩
theorem e_i12_4 : vp_in 4 12 ↔ True := ⟨fun _ => trivial, fun _ => by unfold vp_in; decide⟩
theorem e_i12_5 : vp_in 5 12 ↔ True := ⟨fun _ => trivial, fun _ => by unfold vp_in; decide⟩
theorem e_i12_6 : vp_in 6 12 ↔ True := ⟨fun _ => trivial, fun _ => by unfold vp_in; decide⟩
theorem e_i12_7 : vp_in 7 12 ↔ True := ⟨fun _ => trivial, fun _ => by unfold vp_in; decide⟩
theorem e_i12_8 : vp_in 8 12 ↔ True := ⟨fun _ => trivial, fun _ => by unfold vp_in; decide⟩
theorem e_i12_9 : vp_in 9 12 ↔ True := ⟨fun _ => trivial, fun _ => by unfold vp_in; decide⟩
theorem e_i12_10 : vp_in 10 12 ↔ True := ⟨fun _ => trivial, fun _ => by unfold vp_in; decide⟩
theorem e_i12_11 : vp_in 11 12 ↔ True := ⟨fun _ => trivial, fun _ => by unfold vp_in; decide⟩
