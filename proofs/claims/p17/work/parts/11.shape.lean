theorem sh_0 (i : Nat) : ab_sh 0 i = .inl (7, [.inr (1, 0), .inr (2, 0), .inr (5, 0), .inr (6, 0), .inr (11, 0), .inr (13, 0), .inr (14, 0)]) := rfl
theorem ct_0 : ab_ct 0 = 1 := rfl
theorem sh_1 (i : Nat) : ab_sh 1 i = .inr (3, 4, fun j => (20, j)) := rfl
theorem ct_1 : ab_ct 1 = 1 := rfl
theorem sh_2 (i : Nat) : ab_sh 2 i = .inl (1, [.inl true, .inr (3, 0), .inr (4, 0)]) := rfl
theorem ct_2 : ab_ct 2 = 1 := rfl
theorem sh_3 (i : Nat) : ab_sh 3 i = .inr (0, 4, ab_no) := rfl
theorem ct_3 : ab_ct 3 = 1 := rfl
theorem sh_4 (i : Nat) : ab_sh 4 i = .inr (0, 4, ab_no) := rfl
theorem ct_4 : ab_ct 4 = 1 := rfl
theorem sh_5 (i : Nat) : ab_sh 5 i = .inl (6, [.inr (30, 0), .inr (30, 1), .inl false, .inl false, .inl false, .inl true]) := rfl
theorem ct_5 : ab_ct 5 = 1 := rfl
theorem sh_6 (i : Nat) : ab_sh 6 i = .inl (2, [.inr (7, 0), .inr (8, 0), .inr (9, 0), .inr (10, 0)]) := rfl
theorem ct_6 : ab_ct 6 = 1 := rfl
theorem sh_7 (i : Nat) : ab_sh 7 i = .inr (0, 8, ab_no) := rfl
theorem ct_7 : ab_ct 7 = 1 := rfl
theorem sh_8 (i : Nat) : ab_sh 8 i = .inr (0, 256, ab_no) := rfl
theorem ct_8 : ab_ct 8 = 1 := rfl
theorem sh_9 (i : Nat) : ab_sh 9 i = .inr (2, 256, ab_no) := rfl
theorem ct_9 : ab_ct 9 = 1 := rfl
theorem sh_10 (i : Nat) : ab_sh 10 i = .inr (0, 256, ab_no) := rfl
theorem ct_10 : ab_ct 10 = 1 := rfl
theorem sh_11 (i : Nat) : ab_sh 11 i = .inl (0, [.inr (12, 0)]) := rfl
theorem ct_11 : ab_ct 11 = 1 := rfl
theorem sh_12 (i : Nat) : ab_sh 12 i = .inr (0, 800, ab_no) := rfl
theorem ct_12 : ab_ct 12 = 1 := rfl
theorem sh_13 (i : Nat) : ab_sh 13 i = .inr (0, 3, ab_no) := rfl
theorem ct_13 : ab_ct 13 = 1 := rfl
theorem sh_14 (i : Nat) : ab_sh 14 i = .inr (0, 3, ab_no) := rfl
theorem ct_14 : ab_ct 14 = 1 := rfl
theorem sh_20 (i : Nat) : ab_sh 20 i = .inl (5, [.inl true, .inr (21, i), .inr (22, i), .inr (23, i), .inr (24, i), .inr (25, i)]) := rfl
theorem ct_20 : ab_ct 20 = 4 := rfl
theorem sh_21 (i : Nat) : ab_sh 21 i = .inr (0, 8, ab_no) := rfl
theorem ct_21 : ab_ct 21 = 4 := rfl
theorem sh_22 (i : Nat) : ab_sh 22 i = .inr (0, 8, ab_no) := rfl
theorem ct_22 : ab_ct 22 = 4 := rfl
theorem sh_23 (i : Nat) : ab_sh 23 i = .inr (0, 8, ab_no) := rfl
theorem ct_23 : ab_ct 23 = 4 := rfl
theorem sh_24 (i : Nat) : ab_sh 24 i = .inr (0, 8, ab_no) := rfl
theorem ct_24 : ab_ct 24 = 4 := rfl
theorem sh_25 (i : Nat) : ab_sh 25 i = .inr (0, 8, ab_no) := rfl
theorem ct_25 : ab_ct 25 = 4 := rfl
theorem sh_30 (i : Nat) : ab_sh 30 i = .inl (3, [.inl true, .inl false, .inl false, .inl true, .inl false, .inl false, .inr (31, i), .inr (32, i)]) := rfl
theorem ct_30 : ab_ct 30 = 2 := rfl
theorem sh_31 (i : Nat) : ab_sh 31 i = .inr (1, 8, ab_no) := rfl
theorem ct_31 : ab_ct 31 = 2 := rfl
theorem sh_32 (i : Nat) : ab_sh 32 i = .inr (1, 8, ab_no) := rfl
theorem ct_32 : ab_ct 32 = 2 := rfl
theorem sh_40 (i : Nat) : ab_sh 40 i = .inl (8, [.inr (41, 0), .inr (42, 0), .inr (43, 0), .inr (44, 0), .inr (45, 0), .inr (46, 0), .inr (47, 0), .inr (48, 0), .inr (49, 0), .inr (50, 0), .inr (51, 0), .inl true, .inr (52, 0), .inr (53, 0), .inr (54, 0), .inr (55, 0), .inr (56, 0), .inl true, .inl false, .inl false, .inr (57, 0), .inr (58, 0), .inl true, .inr (59, 0), .inr (60, 0)]) := rfl
theorem ct_40 : ab_ct 40 = 1 := rfl
theorem sh_41 (i : Nat) : ab_sh 41 i = .inr (0, 4, ab_no) := rfl
theorem ct_41 : ab_ct 41 = 1 := rfl
theorem sh_42 (i : Nat) : ab_sh 42 i = .inr (0, 32, ab_no) := rfl
theorem ct_42 : ab_ct 42 = 1 := rfl
theorem sh_43 (i : Nat) : ab_sh 43 i = .inr (0, 32, ab_no) := rfl
theorem ct_43 : ab_ct 43 = 1 := rfl
theorem sh_44 (i : Nat) : ab_sh 44 i = .inr (0, 32, ab_no) := rfl
theorem ct_44 : ab_ct 44 = 1 := rfl
theorem sh_45 (i : Nat) : ab_sh 45 i = .inr (0, 32, ab_no) := rfl
theorem ct_45 : ab_ct 45 = 1 := rfl
theorem sh_46 (i : Nat) : ab_sh 46 i = .inr (0, 16, ab_no) := rfl
theorem ct_46 : ab_ct 46 = 1 := rfl
theorem sh_47 (i : Nat) : ab_sh 47 i = .inr (0, 16, ab_no) := rfl
theorem ct_47 : ab_ct 47 = 1 := rfl
theorem sh_48 (i : Nat) : ab_sh 48 i = .inr (1, 16, ab_no) := rfl
theorem ct_48 : ab_ct 48 = 1 := rfl
theorem sh_49 (i : Nat) : ab_sh 49 i = .inr (0, 2, ab_no) := rfl
theorem ct_49 : ab_ct 49 = 1 := rfl
theorem sh_50 (i : Nat) : ab_sh 50 i = .inr (0, 2, ab_no) := rfl
theorem ct_50 : ab_ct 50 = 1 := rfl
theorem sh_51 (i : Nat) : ab_sh 51 i = .inr (1, 2, ab_no) := rfl
theorem ct_51 : ab_ct 51 = 1 := rfl
theorem sh_52 (i : Nat) : ab_sh 52 i = .inr (0, 16, ab_no) := rfl
theorem ct_52 : ab_ct 52 = 1 := rfl
theorem sh_53 (i : Nat) : ab_sh 53 i = .inr (0, 16, ab_no) := rfl
theorem ct_53 : ab_ct 53 = 1 := rfl
theorem sh_54 (i : Nat) : ab_sh 54 i = .inr (0, 8, ab_no) := rfl
theorem ct_54 : ab_ct 54 = 1 := rfl
theorem sh_55 (i : Nat) : ab_sh 55 i = .inr (0, 256, ab_no) := rfl
theorem ct_55 : ab_ct 55 = 1 := rfl
theorem sh_56 (i : Nat) : ab_sh 56 i = .inr (0, 8, ab_no) := rfl
theorem ct_56 : ab_ct 56 = 1 := rfl
theorem sh_57 (i : Nat) : ab_sh 57 i = .inr (0, 800, ab_no) := rfl
theorem ct_57 : ab_ct 57 = 1 := rfl
theorem sh_58 (i : Nat) : ab_sh 58 i = .inr (0, 4, ab_no) := rfl
theorem ct_58 : ab_ct 58 = 1 := rfl
theorem sh_59 (i : Nat) : ab_sh 59 i = .inr (0, 4, ab_no) := rfl
theorem ct_59 : ab_ct 59 = 1 := rfl
theorem sh_60 (i : Nat) : ab_sh 60 i = .inr (0, 4, ab_no) := rfl
theorem ct_60 : ab_ct 60 = 1 := rfl
theorem fn_0 : ((0 : Fin 4) : Nat) = 0 := rfl
theorem fn_1 : ((1 : Fin 4) : Nat) = 1 := rfl
theorem fn_2 : ((2 : Fin 4) : Nat) = 2 := rfl
theorem fn_3 : ((3 : Fin 4) : Nat) = 3 := rfl
