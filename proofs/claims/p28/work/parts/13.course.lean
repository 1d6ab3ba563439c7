set_option maxRecDepth 100000 in
theorem nd_z13_0 : va_nd [] = true := nd_f (by decide +kernel)
set_option maxRecDepth 100000 in
theorem nd_z13_1 : va_nd [0, 1, 2, 3] = true := nd_f (by decide +kernel)
set_option maxRecDepth 100000 in
theorem nd_z13_2 : va_nd [0, 1, 2, 3, 4, 5, 6, 7, 8, 9, 10] = true := nd_f (by decide +kernel)
set_option maxRecDepth 100000 in
theorem nd_z13_3 : va_nd [0, 7, 8, 9, 10] = true := nd_f (by decide +kernel)
set_option maxRecDepth 100000 in
theorem nd_z13_4 : va_nd [1, 2, 3, 4, 5, 6] = true := nd_f (by decide +kernel)
set_option maxRecDepth 100000 in
theorem nd_z13_5 : va_nd [6, 0, 1, 2, 3, 4, 5, 7, 8, 9, 10] = true := nd_f (by decide +kernel)
set_option maxRecDepth 100000 in
theorem nd_z13_6 : va_nd [2, 3] = true := nd_f (by decide +kernel)
set_option maxRecDepth 100000 in
theorem nd_z13_7 : va_nd [0, 1, 4, 5, 6, 7, 8, 9, 10] = true := nd_f (by decide +kernel)
set_option maxRecDepth 100000 in
theorem nd_z13_8 : va_nd [0, 1, 9, 10, 2, 3, 4, 5, 6, 7, 8] = true := nd_f (by decide +kernel)
set_option maxRecDepth 100000 in
theorem nd_z13_9 : va_nd [10, 11, 12] = true := nd_f (by decide +kernel)
set_option maxRecDepth 100000 in
theorem nd_z13_10 : va_nd [0, 1, 2, 3, 4, 5, 6, 7, 8, 9, 13, 14, 15, 16, 17] = true := nd_f (by decide +kernel)
set_option maxRecDepth 100000 in
theorem nd_z13_11 : va_nd [0, 1, 2, 3, 4, 5, 6, 7, 8, 9, 15, 16, 17, 10, 11, 12, 13, 14] = true := nd_f (by decide +kernel)
set_option maxRecDepth 100000 in
theorem nd_z13_12 : va_nd [15, 12, 13] = true := nd_f (by decide +kernel)
set_option maxRecDepth 100000 in
theorem nd_z13_13 : va_nd [0, 1, 2, 3, 4, 5, 6, 7, 8, 9, 10, 11, 14, 16, 17] = true := nd_f (by decide +kernel)
set_option maxRecDepth 100000 in
theorem nd_z13_14 : va_nd [0, 1, 2, 3, 4, 5, 6, 7, 8, 9, 15, 13, 14, 10, 11, 16, 17, 12] = true := nd_f (by decide +kernel)
set_option maxRecDepth 100000 in
theorem nd_z13_15 : va_nd [0, 2, 3, 6, 7, 8, 9, 10, 13, 14, 15] = true := nd_f (by decide +kernel)
set_option maxRecDepth 100000 in
theorem nd_z13_16 : va_nd [1, 4, 5, 11, 12, 16, 17] = true := nd_f (by decide +kernel)
set_option maxRecDepth 100000 in
theorem nd_z13_17 : va_nd [7, 0, 8, 9, 1, 2, 10, 11, 12, 13, 14, 3, 4, 15, 16, 17, 5, 6] = true := nd_f (by decide +kernel)
set_option maxRecDepth 100000 in
theorem nd_z13_18 : va_nd [1] = true := nd_f (by decide +kernel)
set_option maxRecDepth 100000 in
theorem nd_z13_19 : va_nd [0, 2, 3, 4] = true := nd_f (by decide +kernel)
set_option maxRecDepth 100000 in
theorem nd_z13_20 : va_nd [0, 4, 1, 2, 3] = true := nd_f (by decide +kernel)
set_option maxRecDepth 100000 in
theorem nd_z13_21 : va_nd [1, 2, 3] = true := nd_f (by decide +kernel)
set_option maxRecDepth 100000 in
theorem nd_z13_22 : va_nd [0, 4] = true := nd_f (by decide +kernel)
set_option maxRecDepth 100000 in
theorem nd_z13_23 : va_nd [4, 5] = true := nd_f (by decide +kernel)
set_option maxRecDepth 100000 in
theorem nd_z13_24 : va_nd [0, 1, 2, 3, 6, 7, 8] = true := nd_f (by decide +kernel)
set_option maxRecDepth 100000 in
theorem nd_z13_25 : va_nd [0, 1, 2, 3, 7, 8, 4, 5, 6] = true := nd_f (by decide +kernel)
set_option maxRecDepth 100000 in
theorem nd_z13_26 : va_nd [0, 1, 2] = true := nd_f (by decide +kernel)
set_option maxRecDepth 100000 in
theorem nd_z13_27 : va_nd [3, 4, 5] = true := nd_f (by decide +kernel)
set_option maxRecDepth 100000 in
theorem nd_z13_28 : va_nd [3, 4, 5, 0, 1, 2] = true := nd_f (by decide +kernel)
set_option maxRecDepth 100000 in
theorem nd_z13_29 : va_nd [0, 1, 4, 5, 6, 8, 9] = true := nd_f (by decide +kernel)
set_option maxRecDepth 100000 in
theorem nd_z13_30 : va_nd [2, 3, 7, 10, 11, 12] = true := nd_f (by decide +kernel)
set_option maxRecDepth 100000 in
theorem nd_z13_31 : va_nd [6, 7, 0, 1, 8, 9, 10, 2, 11, 12, 3, 4, 5] = true := nd_f (by decide +kernel)
set_option maxRecDepth 100000 in
theorem nd_z13_32 : va_nd [6, 0, 1] = true := nd_f (by decide +kernel)
set_option maxRecDepth 100000 in
theorem nd_z13_33 : va_nd [2, 3, 4, 5, 7, 8, 9, 10, 11, 12] = true := nd_f (by decide +kernel)
set_option maxRecDepth 100000 in
theorem nd_z13_34 : va_nd [10, 4, 11, 12, 5, 6, 7, 0, 8, 9, 1, 2, 3] = true := nd_f (by decide +kernel)
set_option maxRecDepth 100000 in
theorem nd_z13_35 : va_nd [1, 2] = true := nd_f (by decide +kernel)
set_option maxRecDepth 100000 in
theorem nd_z13_36 : va_nd [0, 3, 4, 5, 6, 7] = true := nd_f (by decide +kernel)
set_option maxRecDepth 100000 in
theorem nd_z13_37 : va_nd [0, 6, 7, 1, 2, 3, 4, 5] = true := nd_f (by decide +kernel)
set_option maxRecDepth 100000 in
theorem nd_z13_38 : va_nd [0, 1, 3, 4] = true := nd_f (by decide +kernel)
set_option maxRecDepth 100000 in
theorem nd_z13_39 : va_nd [2, 5, 6, 7] = true := nd_f (by decide +kernel)
set_option maxRecDepth 100000 in
theorem nd_z13_40 : va_nd [4, 5, 0, 6, 7, 1, 2, 3] = true := nd_f (by decide +kernel)
set_option maxRecDepth 100000 in
theorem nd_z13_41 : va_nd [0, 2, 3, 4, 6, 10, 11, 12, 17, 20, 22, 23, 24] = true := nd_f (by decide +kernel)
set_option maxRecDepth 100000 in
theorem nd_z13_42 : va_nd [1, 5, 7, 8, 9, 13, 14, 15, 16, 18, 19, 21, 25, 26, 27, 28, 29] = true := nd_f (by decide +kernel)
set_option maxRecDepth 100000 in
theorem nd_z13_43 : va_nd [17, 0, 18, 19, 20, 1, 21, 2, 3, 4, 22, 23, 24, 5, 6, 7, 8, 25, 9, 10, 26, 11, 27, 28, 29, 12, 13, 14, 15, 16] = true := nd_f (by decide +kernel)
set_option maxRecDepth 100000 in
theorem nd_z13_44 : va_nd [0, 2, 6, 8, 9, 17, 19] = true := nd_f (by decide +kernel)
set_option maxRecDepth 100000 in
theorem nd_z13_45 : va_nd [1, 3, 4, 5, 7, 10, 11, 12, 13, 14, 15, 16, 18, 20, 21, 22, 23, 24, 25, 26, 27, 28, 29] = true := nd_f (by decide +kernel)
set_option maxRecDepth 100000 in
theorem nd_z13_46 : va_nd [23, 0, 24, 1, 2, 3, 25, 4, 26, 27, 5, 6, 7, 8, 9, 10, 11, 28, 12, 29, 13, 14, 15, 16, 17, 18, 19, 20, 21, 22] = true := nd_f (by decide +kernel)
set_option maxRecDepth 100000 in
theorem nd_z13_47 : va_nd [23, 1, 2, 15, 16, 17] = true := nd_f (by decide +kernel)
set_option maxRecDepth 100000 in
theorem nd_z13_48 : va_nd [0, 3, 4, 5, 6, 7, 8, 9, 10, 11, 12, 13, 14, 18, 19, 20, 21, 22, 24, 25, 26, 27, 28, 29] = true := nd_f (by decide +kernel)
set_option maxRecDepth 100000 in
theorem nd_z13_49 : va_nd [24, 0, 18, 25, 26, 1, 19, 2, 20, 21, 3, 4, 5, 6, 7, 8, 9, 22, 10, 23, 11, 12, 27, 28, 29, 13, 14, 15, 16, 17] = true := nd_f (by decide +kernel)
set_option maxRecDepth 100000 in
theorem nd_z13_50 : va_nd [0, 6, 7, 17, 21, 22, 23, 25] = true := nd_f (by decide +kernel)
set_option maxRecDepth 100000 in
theorem nd_z13_51 : va_nd [1, 2, 3, 4, 5, 8, 9, 10, 11, 12, 13, 14, 15, 16, 18, 19, 20, 24, 26, 27, 28, 29] = true := nd_f (by decide +kernel)
set_option maxRecDepth 100000 in
theorem nd_z13_52 : va_nd [22, 0, 4, 23, 10, 11, 12, 13, 25, 14, 27, 28, 17, 29, 18, 19, 20, 21] = true := nd_f (by decide +kernel)
set_option maxRecDepth 100000 in
theorem nd_z13_53 : va_nd [1, 2, 3, 5, 6, 7, 8, 9, 15, 16, 24, 26] = true := nd_f (by decide +kernel)
set_option maxRecDepth 100000 in
theorem nd_z13_54 : va_nd [12, 20, 22, 23, 24] = true := nd_f (by decide +kernel)
set_option maxRecDepth 100000 in
theorem nd_z13_55 : va_nd [0, 1, 2, 3, 4, 5, 6, 7, 8, 9, 10, 11, 13, 14, 15, 16, 17, 18, 19, 21, 25, 26, 27, 28, 29] = true := nd_f (by decide +kernel)
set_option maxRecDepth 100000 in
theorem nd_z13_56 : va_nd [25, 0, 1, 2, 14, 10, 27, 28, 29] = true := nd_f (by decide +kernel)
set_option maxRecDepth 100000 in
theorem nd_z13_57 : va_nd [3, 4, 5, 6, 7, 8, 9, 11, 12, 13, 15, 16, 17, 18, 19, 20, 21, 22, 23, 24, 26] = true := nd_f (by decide +kernel)
set_option maxRecDepth 100000 in
theorem nd_z13_58 : va_nd [21, 8, 22, 23, 24, 9, 25, 26, 0, 1, 2, 3, 4, 10, 11, 12, 13, 20, 14, 5, 6, 7, 27, 28, 29, 15, 16, 17, 18, 19] = true := nd_f (by decide +kernel)
set_option maxRecDepth 100000 in
theorem nj_z13_0 : ∀ i ∈ ([0, 1, 2, 3] : List Nat), i ∉ ([] : List Nat) := nj_f (by decide +kernel)
set_option maxRecDepth 100000 in
theorem nj_z13_1 : ∀ i ∈ ([0, 1, 2, 3, 4, 5, 6, 7, 8, 9, 10] : List Nat), i ∉ ([] : List Nat) := nj_f (by decide +kernel)
set_option maxRecDepth 100000 in
theorem nj_z13_2 : ∀ i ∈ ([1, 2, 3, 4, 5, 6] : List Nat), i ∉ ([0, 7, 8, 9, 10] : List Nat) := nj_f (by decide +kernel)
set_option maxRecDepth 100000 in
theorem nj_z13_3 : ∀ i ∈ ([0, 1, 4, 5, 6, 7, 8, 9, 10] : List Nat), i ∉ ([2, 3] : List Nat) := nj_f (by decide +kernel)
set_option maxRecDepth 100000 in
theorem nj_z13_4 : ∀ i ∈ ([0, 1, 2, 3, 4, 5, 6, 7, 8, 9, 13, 14, 15, 16, 17] : List Nat), i ∉ ([10, 11, 12] : List Nat) := nj_f (by decide +kernel)
set_option maxRecDepth 100000 in
theorem nj_z13_5 : ∀ i ∈ ([0, 1, 2, 3, 4, 5, 6, 7, 8, 9, 10, 11, 14, 16, 17] : List Nat), i ∉ ([15, 12, 13] : List Nat) := nj_f (by decide +kernel)
set_option maxRecDepth 100000 in
theorem nj_z13_6 : ∀ i ∈ ([1, 4, 5, 11, 12, 16, 17] : List Nat), i ∉ ([0, 2, 3, 6, 7, 8, 9, 10, 13, 14, 15] : List Nat) := nj_f (by decide +kernel)
set_option maxRecDepth 100000 in
theorem nj_z13_7 : ∀ i ∈ ([0, 2, 3, 4] : List Nat), i ∉ ([1] : List Nat) := nj_f (by decide +kernel)
set_option maxRecDepth 100000 in
theorem nj_z13_8 : ∀ i ∈ ([0, 4] : List Nat), i ∉ ([1, 2, 3] : List Nat) := nj_f (by decide +kernel)
set_option maxRecDepth 100000 in
theorem nj_z13_9 : ∀ i ∈ ([0, 1, 2, 3, 6, 7, 8] : List Nat), i ∉ ([4, 5] : List Nat) := nj_f (by decide +kernel)
set_option maxRecDepth 100000 in
theorem nj_z13_10 : ∀ i ∈ ([3, 4, 5] : List Nat), i ∉ ([0, 1, 2] : List Nat) := nj_f (by decide +kernel)
set_option maxRecDepth 100000 in
theorem nj_z13_11 : ∀ i ∈ ([2, 3, 7, 10, 11, 12] : List Nat), i ∉ ([0, 1, 4, 5, 6, 8, 9] : List Nat) := nj_f (by decide +kernel)
set_option maxRecDepth 100000 in
theorem nj_z13_12 : ∀ i ∈ ([2, 3, 4, 5, 7, 8, 9, 10, 11, 12] : List Nat), i ∉ ([6, 0, 1] : List Nat) := nj_f (by decide +kernel)
set_option maxRecDepth 100000 in
theorem nj_z13_13 : ∀ i ∈ ([0, 3, 4, 5, 6, 7] : List Nat), i ∉ ([1, 2] : List Nat) := nj_f (by decide +kernel)
set_option maxRecDepth 100000 in
theorem nj_z13_14 : ∀ i ∈ ([2, 5, 6, 7] : List Nat), i ∉ ([0, 1, 3, 4] : List Nat) := nj_f (by decide +kernel)
set_option maxRecDepth 100000 in
theorem nj_z13_15 : ∀ i ∈ ([1, 5, 7, 8, 9, 13, 14, 15, 16, 18, 19, 21, 25, 26, 27, 28, 29] : List Nat), i ∉ ([0, 2, 3, 4, 6, 10, 11, 12, 17, 20, 22, 23, 24] : List Nat) := nj_f (by decide +kernel)
set_option maxRecDepth 100000 in
theorem nj_z13_16 : ∀ i ∈ ([1, 3, 4, 5, 7, 10, 11, 12, 13, 14, 15, 16, 18, 20, 21, 22, 23, 24, 25, 26, 27, 28, 29] : List Nat), i ∉ ([0, 2, 6, 8, 9, 17, 19] : List Nat) := nj_f (by decide +kernel)
set_option maxRecDepth 100000 in
theorem nj_z13_17 : ∀ i ∈ ([0, 3, 4, 5, 6, 7, 8, 9, 10, 11, 12, 13, 14, 18, 19, 20, 21, 22, 24, 25, 26, 27, 28, 29] : List Nat), i ∉ ([23, 1, 2, 15, 16, 17] : List Nat) := nj_f (by decide +kernel)
set_option maxRecDepth 100000 in
theorem nj_z13_18 : ∀ i ∈ ([1, 2, 3, 4, 5, 8, 9, 10, 11, 12, 13, 14, 15, 16, 18, 19, 20, 24, 26, 27, 28, 29] : List Nat), i ∉ ([0, 6, 7, 17, 21, 22, 23, 25] : List Nat) := nj_f (by decide +kernel)
set_option maxRecDepth 100000 in
theorem nj_z13_19 : ∀ i ∈ ([1, 2, 3, 5, 6, 7, 8, 9, 15, 16, 24, 26] : List Nat), i ∉ ([22, 0, 4, 23, 10, 11, 12, 13, 25, 14, 27, 28, 17, 29, 18, 19, 20, 21] : List Nat) := nj_f (by decide +kernel)
set_option maxRecDepth 100000 in
theorem nj_z13_20 : ∀ i ∈ ([0, 1, 2, 3, 4, 5, 6, 7, 8, 9, 10, 11, 13, 14, 15, 16, 17, 18, 19, 21, 25, 26, 27, 28, 29] : List Nat), i ∉ ([12, 20, 22, 23, 24] : List Nat) := nj_f (by decide +kernel)
set_option maxRecDepth 100000 in
theorem nj_z13_21 : ∀ i ∈ ([3, 4, 5, 6, 7, 8, 9, 11, 12, 13, 15, 16, 17, 18, 19, 20, 21, 22, 23, 24, 26] : List Nat), i ∉ ([25, 0, 1, 2, 14, 10, 27, 28, 29] : List Nat) := nj_f (by decide +kernel)
set_option maxRecDepth 100000 in
theorem sk_z13_0 : sgk [] [] 4 = true := by decide +kernel
set_option maxRecDepth 100000 in
theorem sk_z13_1 : sgk [(0, 4)] [0, 1, 2, 3] 4 = true := by decide +kernel
set_option maxRecDepth 100000 in
theorem sk_z13_2 : sgk [] [] 11 = true := by decide +kernel
set_option maxRecDepth 100000 in
theorem sk_z13_3 : sgk [(0, 11)] [0, 1, 2, 3, 4, 5, 6, 7, 8, 9, 10] 11 = true := by decide +kernel
set_option maxRecDepth 100000 in
theorem sk_z13_4 : sgk [(0, 1), (7, 4)] [0, 7, 8, 9, 10] 11 = true := by decide +kernel
set_option maxRecDepth 100000 in
theorem sk_z13_5 : sgk [(1, 6)] [1, 2, 3, 4, 5, 6] 11 = true := by decide +kernel
set_option maxRecDepth 100000 in
theorem sk_z13_6 : sgk [(6, 1), (0, 6), (7, 4)] [6, 0, 1, 2, 3, 4, 5, 7, 8, 9, 10] 11 = true := by decide +kernel
set_option maxRecDepth 100000 in
theorem sk_z13_7 : sgk [(2, 2)] [2, 3] 11 = true := by decide +kernel
set_option maxRecDepth 100000 in
theorem sk_z13_8 : sgk [(0, 2), (4, 7)] [0, 1, 4, 5, 6, 7, 8, 9, 10] 11 = true := by decide +kernel
set_option maxRecDepth 100000 in
theorem sk_z13_9 : sgk [(0, 2), (9, 2), (2, 7)] [0, 1, 9, 10, 2, 3, 4, 5, 6, 7, 8] 11 = true := by decide +kernel
set_option maxRecDepth 100000 in
theorem sk_z13_10 : sgk [(10, 3)] [10, 11, 12] 18 = true := by decide +kernel
set_option maxRecDepth 100000 in
theorem sk_z13_11 : sgk [(0, 10), (13, 5)] [0, 1, 2, 3, 4, 5, 6, 7, 8, 9, 13, 14, 15, 16, 17] 18 = true := by decide +kernel
set_option maxRecDepth 100000 in
theorem sk_z13_12 : sgk [(0, 10), (15, 3), (10, 5)] [0, 1, 2, 3, 4, 5, 6, 7, 8, 9, 15, 16, 17, 10, 11, 12, 13, 14] 18 = true := by decide +kernel
set_option maxRecDepth 100000 in
theorem sk_z13_13 : sgk [(15, 1), (12, 2)] [15, 12, 13] 18 = true := by decide +kernel
set_option maxRecDepth 100000 in
theorem sk_z13_14 : sgk [(0, 12), (14, 1), (16, 2)] [0, 1, 2, 3, 4, 5, 6, 7, 8, 9, 10, 11, 14, 16, 17] 18 = true := by decide +kernel
set_option maxRecDepth 100000 in
theorem sk_z13_15 : sgk [(0, 10), (15, 1), (13, 2), (10, 2), (16, 2), (12, 1)] [0, 1, 2, 3, 4, 5, 6, 7, 8, 9, 15, 13, 14, 10, 11, 16, 17, 12] 18 = true := by decide +kernel
set_option maxRecDepth 100000 in
theorem sk_z13_16 : sgk [(0, 1), (2, 2), (6, 5), (13, 3)] [0, 2, 3, 6, 7, 8, 9, 10, 13, 14, 15] 18 = true := by decide +kernel
set_option maxRecDepth 100000 in
theorem sk_z13_17 : sgk [(1, 1), (4, 2), (11, 2), (16, 2)] [1, 4, 5, 11, 12, 16, 17] 18 = true := by decide +kernel
set_option maxRecDepth 100000 in
theorem sk_z13_18 : sgk [(7, 1), (0, 1), (8, 2), (1, 2), (10, 5), (3, 2), (15, 3), (5, 2)] [7, 0, 8, 9, 1, 2, 10, 11, 12, 13, 14, 3, 4, 15, 16, 17, 5, 6] 18 = true := by decide +kernel
set_option maxRecDepth 100000 in
theorem sk_z13_19 : sgk [(1, 1)] [1] 5 = true := by decide +kernel
set_option maxRecDepth 100000 in
theorem sk_z13_20 : sgk [(0, 1), (2, 3)] [0, 2, 3, 4] 5 = true := by decide +kernel
set_option maxRecDepth 100000 in
theorem sk_z13_21 : sgk [(0, 1), (4, 1), (1, 3)] [0, 4, 1, 2, 3] 5 = true := by decide +kernel
set_option maxRecDepth 100000 in
theorem sk_z13_22 : sgk [(1, 3)] [1, 2, 3] 5 = true := by decide +kernel
set_option maxRecDepth 100000 in
theorem sk_z13_23 : sgk [(0, 1), (4, 1)] [0, 4] 5 = true := by decide +kernel
set_option maxRecDepth 100000 in
theorem sk_z13_24 : sgk [(4, 2)] [4, 5] 9 = true := by decide +kernel
set_option maxRecDepth 100000 in
theorem sk_z13_25 : sgk [(0, 4), (6, 3)] [0, 1, 2, 3, 6, 7, 8] 9 = true := by decide +kernel
set_option maxRecDepth 100000 in
theorem sk_z13_26 : sgk [(0, 4), (7, 2), (4, 3)] [0, 1, 2, 3, 7, 8, 4, 5, 6] 9 = true := by decide +kernel
set_option maxRecDepth 100000 in
theorem sk_z13_27 : sgk [(0, 3)] [0, 1, 2] 6 = true := by decide +kernel
set_option maxRecDepth 100000 in
theorem sk_z13_28 : sgk [(3, 3)] [3, 4, 5] 6 = true := by decide +kernel
set_option maxRecDepth 100000 in
theorem sk_z13_29 : sgk [(3, 3), (0, 3)] [3, 4, 5, 0, 1, 2] 6 = true := by decide +kernel
set_option maxRecDepth 100000 in
theorem sk_z13_30 : sgk [(0, 2), (4, 3), (8, 2)] [0, 1, 4, 5, 6, 8, 9] 13 = true := by decide +kernel
set_option maxRecDepth 100000 in
theorem sk_z13_31 : sgk [(2, 2), (7, 1), (10, 3)] [2, 3, 7, 10, 11, 12] 13 = true := by decide +kernel
set_option maxRecDepth 100000 in
theorem sk_z13_32 : sgk [(6, 2), (0, 2), (8, 3), (2, 1), (11, 2), (3, 3)] [6, 7, 0, 1, 8, 9, 10, 2, 11, 12, 3, 4, 5] 13 = true := by decide +kernel
set_option maxRecDepth 100000 in
theorem sk_z13_33 : sgk [(6, 1), (0, 2)] [6, 0, 1] 13 = true := by decide +kernel
set_option maxRecDepth 100000 in
theorem sk_z13_34 : sgk [(2, 4), (7, 6)] [2, 3, 4, 5, 7, 8, 9, 10, 11, 12] 13 = true := by decide +kernel
set_option maxRecDepth 100000 in
theorem sk_z13_35 : sgk [(10, 1), (4, 1), (11, 2), (5, 3), (0, 1), (8, 2), (1, 3)] [10, 4, 11, 12, 5, 6, 7, 0, 8, 9, 1, 2, 3] 13 = true := by decide +kernel
set_option maxRecDepth 100000 in
theorem sk_z13_36 : sgk [(1, 2)] [1, 2] 8 = true := by decide +kernel
set_option maxRecDepth 100000 in
theorem sk_z13_37 : sgk [(0, 1), (3, 5)] [0, 3, 4, 5, 6, 7] 8 = true := by decide +kernel
set_option maxRecDepth 100000 in
theorem sk_z13_38 : sgk [(0, 1), (6, 2), (1, 5)] [0, 6, 7, 1, 2, 3, 4, 5] 8 = true := by decide +kernel
set_option maxRecDepth 100000 in
theorem sk_z13_39 : sgk [(0, 2), (3, 2)] [0, 1, 3, 4] 8 = true := by decide +kernel
set_option maxRecDepth 100000 in
theorem sk_z13_40 : sgk [(2, 1), (5, 3)] [2, 5, 6, 7] 8 = true := by decide +kernel
set_option maxRecDepth 100000 in
theorem sk_z13_41 : sgk [(4, 2), (0, 1), (6, 2), (1, 3)] [4, 5, 0, 6, 7, 1, 2, 3] 8 = true := by decide +kernel
set_option maxRecDepth 100000 in
theorem sk_z13_42 : sgk [(0, 1), (2, 3), (6, 1), (10, 3), (17, 1), (20, 1), (22, 3)] [0, 2, 3, 4, 6, 10, 11, 12, 17, 20, 22, 23, 24] 30 = true := by decide +kernel
set_option maxRecDepth 100000 in
theorem sk_z13_43 : sgk [(1, 1), (5, 1), (7, 3), (13, 4), (18, 2), (21, 1), (25, 5)] [1, 5, 7, 8, 9, 13, 14, 15, 16, 18, 19, 21, 25, 26, 27, 28, 29] 30 = true := by decide +kernel
set_option maxRecDepth 100000 in
theorem sk_z13_44 : sgk [(17, 1), (0, 1), (18, 3), (1, 1), (21, 1), (2, 3), (22, 3), (5, 4), (25, 1), (9, 2), (26, 1), (11, 1), (27, 3), (12, 5)] [17, 0, 18, 19, 20, 1, 21, 2, 3, 4, 22, 23, 24, 5, 6, 7, 8, 25, 9, 10, 26, 11, 27, 28, 29, 12, 13, 14, 15, 16] 30 = true := by decide +kernel
set_option maxRecDepth 100000 in
theorem sk_z13_45 : sgk [(0, 1), (2, 1), (6, 1), (8, 2), (17, 1), (19, 1)] [0, 2, 6, 8, 9, 17, 19] 30 = true := by decide +kernel
set_option maxRecDepth 100000 in
theorem sk_z13_46 : sgk [(1, 1), (3, 3), (7, 1), (10, 7), (18, 1), (20, 10)] [1, 3, 4, 5, 7, 10, 11, 12, 13, 14, 15, 16, 18, 20, 21, 22, 23, 24, 25, 26, 27, 28, 29] 30 = true := by decide +kernel
set_option maxRecDepth 100000 in
theorem sk_z13_47 : sgk [(23, 1), (0, 1), (24, 1), (1, 3), (25, 1), (4, 1), (26, 2), (5, 7), (28, 1), (12, 1), (29, 1), (13, 10)] [23, 0, 24, 1, 2, 3, 25, 4, 26, 27, 5, 6, 7, 8, 9, 10, 11, 28, 12, 29, 13, 14, 15, 16, 17, 18, 19, 20, 21, 22] 30 = true := by decide +kernel
set_option maxRecDepth 100000 in
theorem sk_z13_48 : sgk [(23, 1), (1, 2), (15, 3)] [23, 1, 2, 15, 16, 17] 30 = true := by decide +kernel
set_option maxRecDepth 100000 in
theorem sk_z13_49 : sgk [(0, 1), (3, 12), (18, 5), (24, 6)] [0, 3, 4, 5, 6, 7, 8, 9, 10, 11, 12, 13, 14, 18, 19, 20, 21, 22, 24, 25, 26, 27, 28, 29] 30 = true := by decide +kernel
set_option maxRecDepth 100000 in
theorem sk_z13_50 : sgk [(24, 1), (0, 1), (18, 1), (25, 2), (1, 1), (19, 1), (2, 1), (20, 2), (3, 7), (22, 1), (10, 1), (23, 1), (11, 2), (27, 3), (13, 5)] [24, 0, 18, 25, 26, 1, 19, 2, 20, 21, 3, 4, 5, 6, 7, 8, 9, 22, 10, 23, 11, 12, 27, 28, 29, 13, 14, 15, 16, 17] 30 = true := by decide +kernel
set_option maxRecDepth 100000 in
theorem sk_z13_51 : sgk [(0, 1), (6, 2), (17, 1), (21, 3), (25, 1)] [0, 6, 7, 17, 21, 22, 23, 25] 30 = true := by decide +kernel
set_option maxRecDepth 100000 in
theorem sk_z13_52 : sgk [(1, 5), (8, 9), (18, 3), (24, 1), (26, 4)] [1, 2, 3, 4, 5, 8, 9, 10, 11, 12, 13, 14, 15, 16, 18, 19, 20, 24, 26, 27, 28, 29] 30 = true := by decide +kernel
set_option maxRecDepth 100000 in
theorem sk_z13_53 : sgk [(22, 1), (0, 1), (4, 1), (23, 1), (10, 4), (25, 1), (14, 1), (27, 2), (17, 1), (29, 1), (18, 4)] [22, 0, 4, 23, 10, 11, 12, 13, 25, 14, 27, 28, 17, 29, 18, 19, 20, 21] 30 = true := by decide +kernel
set_option maxRecDepth 100000 in
theorem sk_z13_54 : sgk [(1, 3), (5, 5), (15, 2), (24, 1), (26, 1)] [1, 2, 3, 5, 6, 7, 8, 9, 15, 16, 24, 26] 30 = true := by decide +kernel
set_option maxRecDepth 100000 in
theorem sk_z13_55 : sgk [(12, 1), (20, 1), (22, 3)] [12, 20, 22, 23, 24] 30 = true := by decide +kernel
set_option maxRecDepth 100000 in
theorem sk_z13_56 : sgk [(0, 12), (13, 7), (21, 1), (25, 5)] [0, 1, 2, 3, 4, 5, 6, 7, 8, 9, 10, 11, 13, 14, 15, 16, 17, 18, 19, 21, 25, 26, 27, 28, 29] 30 = true := by decide +kernel
set_option maxRecDepth 100000 in
theorem sk_z13_57 : sgk [(25, 1), (0, 3), (14, 1), (10, 1), (27, 3)] [25, 0, 1, 2, 14, 10, 27, 28, 29] 30 = true := by decide +kernel
set_option maxRecDepth 100000 in
theorem sk_z13_58 : sgk [(3, 7), (11, 3), (15, 10), (26, 1)] [3, 4, 5, 6, 7, 8, 9, 11, 12, 13, 15, 16, 17, 18, 19, 20, 21, 22, 23, 24, 26] 30 = true := by decide +kernel
set_option maxRecDepth 100000 in
theorem sk_z13_59 : sgk [(21, 1), (8, 1), (22, 3), (9, 1), (25, 2), (0, 5), (10, 4), (20, 1), (14, 1), (5, 3), (27, 3), (15, 5)] [21, 8, 22, 23, 24, 9, 25, 26, 0, 1, 2, 3, 4, 10, 11, 12, 13, 20, 14, 5, 6, 7, 27, 28, 29, 15, 16, 17, 18, 19] 30 = true := by decide +kernel
def f_X0_joined (q0 : Int32) (q1 : Int32) (q2 : Int32) : Option (Int32) := if q0 = (-3 : Int32) then (some ((q1 * q2))) else (if q0 = (-2 : Int32) then (some ((q1 - q2))) else (if q0 = (-1 : Int32) then (some ((q1 + q2))) else (if q2 = (0 : Int32) then (some ((0 : Int32))) else (ck (nz q2) (some ((q1 / q2)))))))
set_option maxRecDepth 100000 in
set_option maxHeartbeats 8000000 in
theorem c_X0_joined (l : Launch) (dC : Nat → ClassId) (dI : Nat → Nat → Nat) (cyI cyJ cyZ cyB cyO : ClassId) (tO : Nat) (vF : Value) (adK adV : Nat → Nat)   (q0 : Int32) (q1 : Int32) (q2 : Int32) (sz : Nat) (out : Int32) (hf : f_X0_joined q0 q1 q2 = some out) : Met l yX0_joined (Cond.code yX0_joined cX0_joined 3 (some .int) :: wsL_law) ({ frames := 0, cells := 0, slots := 0, locals := 0 } : Room) (va_Pc [.int q0, .int q1, .int q2] (ux_pre (dC, dI) vwCl (tyG cyI cyJ cyZ cyB cyO) [] sz (xE tO vF adK adV))) (va_Qi (fun (r : Int32) (_ : Unit) => r = out) (ux_at (dC, dI) vwCl (tyG cyI cyJ cyZ cyB cyO) [] sz (fun u : Unit => [])) (va_A [] sz)) 0 0 (va_A [] sz) := by
  refine ux_meti0 (by decide +kernel) (Nat.le_of_ble_eq_true rfl) ?_
  intro p e s m below meth c A Q ls hx hb hml hts hown hA hP hK hD hE hl hret
  have hown : s.vm.findClass RX0 = some m.cls := hown
  have hS : va_S A s.heap s.heap [] := va_S.rf
  have hl : lv_has ls 3 [(0, .int q0), (1, .int q1), (2, .int q2)] := hl
  unfold f_X0_joined at hf
  refine lv_iload_n hx hb dX0_joined_0 rfl (lv_at hl 0 rfl) ?_
  -- tableswitch
  by_cases c_1 : q0 = (-3 : Int32)
  · have hf := (if_pos c_1).symm.trans hf
    have c_1t : (q0).toInt = -3 := by rw [c_1]; rfl
    refine lv_tableIn (off := 35) (tgt := 36) hx hb dX0_joined_1 (by omega) (by omega) (by rw [c_1t]; rfl) (by decide) ?_
    refine lv_iload_n hx hb dX0_joined_36 rfl (lv_at hl 1 rfl) ?_
    refine lv_iload_n hx hb dX0_joined_37 rfl (lv_at hl 2 rfl) ?_
    refine lv_imul hx hb dX0_joined_38 ?_
    exact hret _ _ _ _ (q1 * q2) dX0_joined_39 (Option.some.inj hf) hP hD hS
  have hf := (if_neg c_1).symm.trans hf
  by_cases c_2 : q0 = (-2 : Int32)
  · have hf := (if_pos c_2).symm.trans hf
    have c_2t : (q0).toInt = -2 := by rw [c_2]; rfl
    refine lv_tableIn (off := 31) (tgt := 32) hx hb dX0_joined_1 (by omega) (by omega) (by rw [c_2t]; rfl) (by decide) ?_
    refine lv_iload_n hx hb dX0_joined_32 rfl (lv_at hl 1 rfl) ?_
    refine lv_iload_n hx hb dX0_joined_33 rfl (lv_at hl 2 rfl) ?_
    refine lv_isub hx hb dX0_joined_34 ?_
    exact hret _ _ _ _ (q1 - q2) dX0_joined_35 (Option.some.inj hf) hP hD hS
  have hf := (if_neg c_2).symm.trans hf
  by_cases c_3 : q0 = (-1 : Int32)
  · have hf := (if_pos c_3).symm.trans hf
    have c_3t : (q0).toInt = -1 := by rw [c_3]; rfl
    refine lv_tableIn (off := 27) (tgt := 28) hx hb dX0_joined_1 (by omega) (by omega) (by rw [c_3t]; rfl) (by decide) ?_
    refine lv_iload_n hx hb dX0_joined_28 rfl (lv_at hl 1 rfl) ?_
    refine lv_iload_n hx hb dX0_joined_29 rfl (lv_at hl 2 rfl) ?_
    refine lv_iadd hx hb dX0_joined_30 ?_
    exact hret _ _ _ _ (q1 + q2) dX0_joined_31 (Option.some.inj hf) hP hD hS
  have hf := (if_neg c_3).symm.trans hf
  have c_1n : ¬ (q0).toInt = -3 := lv_neT c_1 rfl
  have c_2n : ¬ (q0).toInt = -2 := lv_neT c_2 rfl
  have c_3n : ¬ (q0).toInt = -1 := lv_neT c_3 rfl
  refine lv_tableOut (tgt := 40) hx hb dX0_joined_1 (by omega) (by decide) ?_
  refine lv_iload_n hx hb dX0_joined_40 rfl (lv_at hl 2 rfl) ?_
  refine lv_if_ne (tgt := 48) hx hb dX0_joined_41 (by decide) (fun c_4 => ?_) (fun c_4 => ?_)
  · have hf := (if_neg c_4).symm.trans hf
    refine lv_iload_n hx hb dX0_joined_48 rfl (lv_at hl 1 rfl) ?_
    refine lv_iload_n hx hb dX0_joined_49 rfl (lv_at hl 2 rfl) ?_
    obtain ⟨h_5, hf⟩ := ck_some hf
    refine lv_idiv hx hb dX0_joined_50 (nz_ne h_5) ?_
    exact hret _ _ _ _ (q1 / q2) dX0_joined_51 (Option.some.inj hf) hP hD hS
  · have hf := (if_pos c_4).symm.trans hf
    refine lv_iconst (v := (0 : Int32)) hx hb dX0_joined_44 (by decide) ?_
    refine lv_goto (tgt := 51) hx hb dX0_joined_45 (by decide) ?_
    exact hret _ _ _ _ (0 : Int32) dX0_joined_51 (Option.some.inj hf) hP hD hS
def f_X0_saltAlong (v_c_water : (Nat → Int32)) (v_c_salt : (Nat → Int64)) (q1 : Int32) (q2 : Int32) : Option (Int64) := ck (inb q1 12) (if (lg_cmp (v_c_salt q1.toNatClampNeg) (0 : Int64)) = (0 : Int32) then (some ((0 : Int64))) else (ck (inb q1 12) (if (1 : Int32) ≤ (v_c_water q1.toNatClampNeg) then (ck (inb q1 12) (ck (inb q1 12) (ck (nzl ((v_c_water q1.toNatClampNeg).toInt64)) (some ((((v_c_salt q1.toNatClampNeg) * q2.toInt64) / ((v_c_water q1.toNatClampNeg).toInt64))))))) else (some ((0 : Int64))))))
set_option maxRecDepth 100000 in
set_option maxHeartbeats 8000000 in
theorem c_X0_saltAlong (l : Launch) (dC : Nat → ClassId) (dI : Nat → Nat → Nat) (cyI cyJ cyZ cyB cyO : ClassId) (tO : Nat) (vF : Value) (adK adV : Nat → Nat) (h_c : Nat) (m_c : Nat → Nat) (h_g : Nat) (m_g : Nat → Nat) (h_p : Nat) (m_p : Nat → Nat) (v_c_pumped : Int32) (v_c_today : Int32) (v_c_water : (Nat → Int32)) (v_c_salt : (Nat → Int64)) (q1 : Int32) (q2 : Int32) (sz : Nat) (out : Int64) (hf : f_X0_saltAlong v_c_water v_c_salt q1 q2 = some out) : Met l yX0_saltAlong (Cond.code yX0_saltAlong cX0_saltAlong 3 (some .long) :: wsL_law) ({ frames := 0, cells := 0, slots := 0, locals := 0 } : Room) (va_Pc [.ref h_c, .int q1, .int q2] (ux_pre (dC, dI) vwCl (tyG cyI cyJ cyZ cyB cyO) [(h_c, .inr (0, oX0 m_c h_g h_p v_c_pumped v_c_today)), (m_c 6, .inl (cyI, 12, .inl v_c_water)), (m_c 7, .inl (cyJ, 12, .inr (.inl v_c_salt)))] sz (xE tO vF adK adV))) (va_Ql (fun (r : Int64) (_ : Unit) => r = out) (ux_at (dC, dI) vwCl (tyG cyI cyJ cyZ cyB cyO) [(h_c, .inr (0, oX0 m_c h_g h_p v_c_pumped v_c_today)), (m_c 6, .inl (cyI, 12, .inl v_c_water)), (m_c 7, .inl (cyJ, 12, .inr (.inl v_c_salt)))] sz (fun u : Unit => [(h_c, .inr (0, oX0 m_c h_g h_p v_c_pumped v_c_today)), (m_c 6, .inl (cyI, 12, .inl v_c_water)), (m_c 7, .inl (cyJ, 12, .inr (.inl v_c_salt)))])) (va_A [(h_c, .inr (0, oX0 m_c h_g h_p v_c_pumped v_c_today)), (m_c 6, .inl (cyI, 12, .inl v_c_water)), (m_c 7, .inl (cyJ, 12, .inr (.inl v_c_salt)))] sz)) 0 0 (va_A [(h_c, .inr (0, oX0 m_c h_g h_p v_c_pumped v_c_today)), (m_c 6, .inl (cyI, 12, .inl v_c_water)), (m_c 7, .inl (cyJ, 12, .inr (.inl v_c_salt)))] sz) := by
  refine ux_metl0 (by decide +kernel) (Nat.le_of_ble_eq_true rfl) ?_
  intro p e s m below meth c A Q ls hx hb hml hts hown hA hP hK hD hE hl hret
  have hown : s.vm.findClass RX0 = some m.cls := hown
  have hS : va_S A s.heap s.heap [] := va_S.rf
  have hl : lv_has ls 3 [(0, .ref h_c), (1, .int q1), (2, .int q2)] := hl
  unfold f_X0_saltAlong at hf
  refine lv_aload_n hx hb dX0_saltAlong_0 rfl (lv_at hl 0 rfl) ?_
  refine va_get (D := (dC, dI)) (ci := 0) (v := .ref (m_c 7)) (C := RX0) (T := TX0) (N := 9) hx hb hts (g_c inlX0) hown hK hP 0 rfl rfl 7 (by decide) (hts _ (List.mem_cons_of_mem _ wm_5_11)) (fun _ h9 => h9) rfl dX0_saltAlong_1 ?_
  refine lv_iload_n hx hb dX0_saltAlong_4 rfl (lv_at hl 1 rfl) ?_
  obtain ⟨h_1, hf⟩ := ck_some hf
  refine va_lald hx hb hK hP 2 1 rfl rfl (inb_in h_1) dX0_saltAlong_5 ?_
  refine lv_lconst (v := (0 : Int64)) hx hb dX0_saltAlong_6 (by decide) ?_
  refine W.lcmp hx hb dX0_saltAlong_7 ?_
  refine lv_if_eq (tgt := 21) hx hb dX0_saltAlong_8 (by decide) (fun c_2 => ?_) (fun c_2 => ?_)
  · have hf := (if_pos c_2).symm.trans hf
    refine lv_lconst (v := (0 : Int64)) hx hb dX0_saltAlong_21 (by decide) ?_
    refine lv_goto (tgt := 42) hx hb dX0_saltAlong_22 (by decide) ?_
    exact hret _ _ _ _ (0 : Int64) dX0_saltAlong_42 (Option.some.inj hf) hP hD hS
  · have hf := (if_neg c_2).symm.trans hf
    refine lv_aload_n hx hb dX0_saltAlong_11 rfl (lv_at hl 0 rfl) ?_
    refine va_get (D := (dC, dI)) (ci := 0) (v := .ref (m_c 6)) (C := RX0) (T := TX0) (N := 9) hx hb hts (g_c inlX0) hown hK hP 0 rfl rfl 6 (by decide) (hts _ (List.mem_cons_of_mem _ wm_5_10)) (fun _ h9 => h9) rfl dX0_saltAlong_12 ?_
    refine lv_iload_n hx hb dX0_saltAlong_15 rfl (lv_at hl 1 rfl) ?_
    obtain ⟨h_3, hf⟩ := ck_some hf
    refine va_iald hx hb hK hP 1 0 rfl rfl (inb_in h_3) dX0_saltAlong_16 ?_
    refine lv_iconst (v := (1 : Int32)) hx hb dX0_saltAlong_17 (by decide) ?_
    refine lv_icmp_ge (tgt := 25) hx hb dX0_saltAlong_18 (by decide) (fun c_4 => ?_) (fun c_4 => ?_)
    · have hf := (if_pos c_4).symm.trans hf
      refine lv_aload_n hx hb dX0_saltAlong_25 rfl (lv_at hl 0 rfl) ?_
      refine va_get (D := (dC, dI)) (ci := 0) (v := .ref (m_c 7)) (C := RX0) (T := TX0) (N := 9) hx hb hts (g_c inlX0) hown hK hP 0 rfl rfl 7 (by decide) (hts _ (List.mem_cons_of_mem _ wm_5_11)) (fun _ h9 => h9) rfl dX0_saltAlong_26 ?_
      refine lv_iload_n hx hb dX0_saltAlong_29 rfl (lv_at hl 1 rfl) ?_
      obtain ⟨h_5, hf⟩ := ck_some hf
      refine va_lald hx hb hK hP 2 1 rfl rfl (inb_in h_5) dX0_saltAlong_30 ?_
      refine lv_iload_n hx hb dX0_saltAlong_31 rfl (lv_at hl 2 rfl) ?_
      refine lv_i2l hx hb dX0_saltAlong_32 rfl ?_
      refine lv_lmul hx hb dX0_saltAlong_33 ?_
      refine lv_aload_n hx hb dX0_saltAlong_34 rfl (lv_at hl 0 rfl) ?_
      refine va_get (D := (dC, dI)) (ci := 0) (v := .ref (m_c 6)) (C := RX0) (T := TX0) (N := 9) hx hb hts (g_c inlX0) hown hK hP 0 rfl rfl 6 (by decide) (hts _ (List.mem_cons_of_mem _ wm_5_10)) (fun _ h9 => h9) rfl dX0_saltAlong_35 ?_
      refine lv_iload_n hx hb dX0_saltAlong_38 rfl (lv_at hl 1 rfl) ?_
      obtain ⟨h_6, hf⟩ := ck_some hf
      refine va_iald hx hb hK hP 1 0 rfl rfl (inb_in h_6) dX0_saltAlong_39 ?_
      refine lv_i2l hx hb dX0_saltAlong_40 rfl ?_
      obtain ⟨h_7, hf⟩ := ck_some hf
      refine lv_ldiv hx hb dX0_saltAlong_41 (nzl_ne h_7) ?_
      exact hret _ _ _ _ (((v_c_salt q1.toNatClampNeg) * q2.toInt64) / ((v_c_water q1.toNatClampNeg).toInt64)) dX0_saltAlong_42 (Option.some.inj hf) hP hD hS
    · have hf := (if_neg c_4).symm.trans hf
      refine lv_lconst (v := (0 : Int64)) hx hb dX0_saltAlong_21 (by decide) ?_
      refine lv_goto (tgt := 42) hx hb dX0_saltAlong_22 (by decide) ?_
      exact hret _ _ _ _ (0 : Int64) dX0_saltAlong_42 (Option.some.inj hf) hP hD hS
def f_X0_rainOf (v_g_rains : Int32) (v_p_rain : (Nat → Int32)) (q1 : Int32) : Option (Int32) := if (1 : Int32) ≤ v_g_rains then (bd (f_J9_floorMod_7cf53 q1 v_g_rains) (fun o_2 => ck (inb o_2 14) (some ((v_p_rain o_2.toNatClampNeg))))) else (some ((0 : Int32)))
set_option maxRecDepth 100000 in
set_option maxHeartbeats 8000000 in
theorem c_X0_rainOf (l : Launch) (dC : Nat → ClassId) (dI : Nat → Nat → Nat) (cyI cyJ cyZ cyB cyO : ClassId) (tO : Nat) (vF : Value) (adK adV : Nat → Nat) (h_c : Nat) (m_c : Nat → Nat) (h_g : Nat) (m_g : Nat → Nat) (h_p : Nat) (m_p : Nat → Nat) (v_c_pumped : Int32) (v_c_today : Int32) (v_g_cells : Int32) (v_g_passes : Int32) (v_g_rivers : Int32) (v_g_villages : Int32) (v_g_rains : Int32) (v_p_pumpCell : Int32) (v_p_pumpTakes : Int32) (v_p_pumpFrom : Int32) (v_p_pumpTo : Int32) (v_p_rain : (Nat → Int32)) (q1 : Int32) (sz : Nat) (out : Int32) (hf : f_X0_rainOf v_g_rains v_p_rain q1 = some out) : Met l yX0_rainOf (Cond.code yX0_rainOf cX0_rainOf 2 (some .int) :: wsL_law) ({ frames := 1, cells := 0, slots := 0, locals := 22 } : Room) (va_Pc [.ref h_c, .int q1] (ux_pre (dC, dI) vwCl (tyG cyI cyJ cyZ cyB cyO) [(h_c, .inr (0, oX0 m_c h_g h_p v_c_pumped v_c_today)), (h_g, .inr (3, oX3 m_g v_g_cells v_g_passes v_g_rivers v_g_villages v_g_rains)), (h_p, .inr (4, oX4 m_p v_p_pumpCell v_p_pumpTakes v_p_pumpFrom v_p_pumpTo)), (m_p 3, .inl (cyI, 14, .inl v_p_rain))] sz (xE tO vF adK adV))) (va_Qi (fun (r : Int32) (_ : Unit) => r = out) (ux_at (dC, dI) vwCl (tyG cyI cyJ cyZ cyB cyO) [(h_c, .inr (0, oX0 m_c h_g h_p v_c_pumped v_c_today)), (h_g, .inr (3, oX3 m_g v_g_cells v_g_passes v_g_rivers v_g_villages v_g_rains)), (h_p, .inr (4, oX4 m_p v_p_pumpCell v_p_pumpTakes v_p_pumpFrom v_p_pumpTo)), (m_p 3, .inl (cyI, 14, .inl v_p_rain))] sz (fun u : Unit => [(h_c, .inr (0, oX0 m_c h_g h_p v_c_pumped v_c_today)), (h_g, .inr (3, oX3 m_g v_g_cells v_g_passes v_g_rivers v_g_villages v_g_rains)), (h_p, .inr (4, oX4 m_p v_p_pumpCell v_p_pumpTakes v_p_pumpFrom v_p_pumpTo)), (m_p 3, .inl (cyI, 14, .inl v_p_rain))])) (va_A [(h_c, .inr (0, oX0 m_c h_g h_p v_c_pumped v_c_today)), (h_g, .inr (3, oX3 m_g v_g_cells v_g_passes v_g_rivers v_g_villages v_g_rains)), (h_p, .inr (4, oX4 m_p v_p_pumpCell v_p_pumpTakes v_p_pumpFrom v_p_pumpTo)), (m_p 3, .inl (cyI, 14, .inl v_p_rain))] sz)) 0 0 (va_A [(h_c, .inr (0, oX0 m_c h_g h_p v_c_pumped v_c_today)), (h_g, .inr (3, oX3 m_g v_g_cells v_g_passes v_g_rivers v_g_villages v_g_rains)), (h_p, .inr (4, oX4 m_p v_p_pumpCell v_p_pumpTakes v_p_pumpFrom v_p_pumpTo)), (m_p 3, .inl (cyI, 14, .inl v_p_rain))] sz) := by
  refine ux_meti0 (by decide +kernel) (Nat.le_of_ble_eq_true rfl) ?_
  intro p e s m below meth c A Q ls hx hb hml hts hown hA hP hK hD hE hl hret
  have hown : s.vm.findClass RX0 = some m.cls := hown
  have hS : va_S A s.heap s.heap [] := va_S.rf
  have hl : lv_has ls 2 [(0, .ref h_c), (1, .int q1)] := hl
  unfold f_X0_rainOf at hf
  refine lv_aload_n hx hb dX0_rainOf_0 rfl (lv_at hl 0 rfl) ?_
  refine va_get (D := (dC, dI)) (ci := 0) (v := .ref h_g) (C := RX0) (T := TX0) (N := 9) hx hb hts (g_c inlX0) hown hK hP 0 rfl rfl 0 (by decide) (hts _ (List.mem_cons_of_mem _ wm_5_13)) (fun _ h9 => h9) rfl dX0_rainOf_1 ?_
  refine va_get (D := (dC, dI)) (ci := 3) (v := .int v_g_rains) (C := RX3) (T := TX3) (N := 20) hx hb hts (g_c inlX3) hown hK hP 1 rfl rfl 18 (by decide) (hts _ (List.mem_cons_of_mem _ wm_34_7)) (fun _ h9 => h9) rfl dX0_rainOf_4 ?_
  refine lv_iconst (v := (1 : Int32)) hx hb dX0_rainOf_7 (by decide) ?_
  refine lv_icmp_ge (tgt := 15) hx hb dX0_rainOf_8 (by decide) (fun c_1 => ?_) (fun c_1 => ?_)
  · have hf := (if_pos c_1).symm.trans hf
    refine lv_aload_n hx hb dX0_rainOf_15 rfl (lv_at hl 0 rfl) ?_
    refine va_get (D := (dC, dI)) (ci := 0) (v := .ref h_p) (C := RX0) (T := TX0) (N := 9) hx hb hts (g_c inlX0) hown hK hP 0 rfl rfl 1 (by decide) (hts _ (List.mem_cons_of_mem _ wm_5_14)) (fun _ h9 => h9) rfl dX0_rainOf_16 ?_
    refine va_get (D := (dC, dI)) (ci := 4) (v := .ref (m_p 3)) (C := RX4) (T := TX4) (N := 8) hx hb hts (g_c inlX4) hown hK hP 2 rfl rfl 3 (by decide) (hts _ (List.mem_cons_of_mem _ wm_34_8)) (fun _ h9 => h9) rfl dX0_rainOf_19 ?_
    refine lv_iload_n hx hb dX0_rainOf_22 rfl (lv_at hl 1 rfl) ?_
    refine lv_aload_n hx hb dX0_rainOf_23 rfl (lv_at hl 0 rfl) ?_
    refine va_get (D := (dC, dI)) (ci := 0) (v := .ref h_g) (C := RX0) (T := TX0) (N := 9) hx hb hts (g_c inlX0) hown hK hP 0 rfl rfl 0 (by decide) (hts _ (List.mem_cons_of_mem _ wm_5_13)) (fun _ h9 => h9) rfl dX0_rainOf_24 ?_
    refine va_get (D := (dC, dI)) (ci := 3) (v := .int v_g_rains) (C := RX3) (T := TX3) (N := 20) hx hb hts (g_c inlX3) hown hK hP 1 rfl rfl 18 (by decide) (hts _ (List.mem_cons_of_mem _ wm_34_7)) (fun _ h9 => h9) rfl dX0_rainOf_27 ?_
    obtain ⟨o_2, ho_2, hf⟩ := bd_some hf
    refine ux_Si0 (n := 2) (As := [.int q1, .int v_g_rains]) (rest := [.ref (m_p 3)]) (wc := []) (wr := [_, _, _, _]) ⟨hx, hb, hml, hown, hts⟩ hK hP hD hS hA hE [] [0, 1, 2, 3] (sg_h [] 4 rfl sk_z13_0 rfl) (sg_h [(0, 4)] 4 rfl sk_z13_1 rfl) nd_z13_0 nd_z13_1 nj_z13_0 (c_J9_floorMod_7cf53 l dC dI cyI cyJ cyZ cyB cyO tO vF adK adV q1 v_g_rains _ _ ho_2) wm_34_9 wm_34_10 wm_34_11 wm_34_12 ⟨rfl, rfl⟩ (by decide +kernel) rfl ⟨Nat.le_of_ble_eq_true rfl, Nat.le_of_ble_eq_true rfl⟩ hl.1 rfl (Nat.le_of_ble_eq_true rfl) dX0_rainOf_30 ⟨Nat.le_of_ble_eq_true rfl, Nat.le_of_ble_eq_true rfl⟩ (fun H locs hP hD hS => ?_)
    have hP : va_P (dC, dI) vwCl [_, _, _, _] H := hP
    have hD : va_D A [_, _, _, _] := hD
    obtain ⟨h_3, hf⟩ := ck_some hf
    refine va_iald hx hb hK hP 3 0 rfl rfl (inb_in h_3) dX0_rainOf_33 ?_
    exact hret _ _ _ _ (v_p_rain o_2.toNatClampNeg) dX0_rainOf_34 (Option.some.inj hf) hP hD hS
  · have hf := (if_neg c_1).symm.trans hf
    refine lv_iconst (v := (0 : Int32)) hx hb dX0_rainOf_11 (by decide) ?_
    refine lv_goto (tgt := 34) hx hb dX0_rainOf_12 (by decide) ?_
    exact hret _ _ _ _ (0 : Int32) dX0_rainOf_34 (Option.some.inj hf) hP hD hS
def f_X0_valueOf (v_c_today : Int32) (v_d_day : Int32) (v_d_seen : (Nat → Int32)) (v_d_took : (Nat → Int32)) (v_d_dryDays : (Nat → Int32)) (q1 : Int32) (q3 : Int32) : Option (Int32) := if q1 = (-8 : Int32) then (ck (inb q3 6) (some ((v_d_dryDays q3.toNatClampNeg)))) else (if q1 = (-7 : Int32) then (ck (inb q3 6) (some ((v_d_took q3.toNatClampNeg)))) else (if q1 = (-6 : Int32) then (some (v_c_today)) else (if q1 = (-5 : Int32) then (some (v_d_day)) else (if ((-20 : Int32) - q1) < (0 : Int32) then (some ((0 : Int32))) else (if ((-20 : Int32) - q1) < (12 : Int32) then (ck (inb ((-20 : Int32) - q1) 12) (some ((v_d_seen ((-20 : Int32) - q1).toNatClampNeg)))) else (some ((0 : Int32))))))))
set_option maxRecDepth 100000 in
set_option maxHeartbeats 8000000 in
theorem c_X0_valueOf (l : Launch) (dC : Nat → ClassId) (dI : Nat → Nat → Nat) (cyI cyJ cyZ cyB cyO : ClassId) (tO : Nat) (vF : Value) (adK adV : Nat → Nat) (h_c : Nat) (m_c : Nat → Nat) (h_g : Nat) (m_g : Nat → Nat) (h_p : Nat) (m_p : Nat → Nat) (h_d : Nat) (m_d : Nat → Nat) (v_c_pumped : Int32) (v_c_today : Int32) (v_d_day : Int32) (v_d_seen : (Nat → Int32)) (v_d_took : (Nat → Int32)) (v_d_dryDays : (Nat → Int32)) (q1 : Int32) (q3 : Int32) (sz : Nat) (out : Int32) (hf : f_X0_valueOf v_c_today v_d_day v_d_seen v_d_took v_d_dryDays q1 q3 = some out) : Met l yX0_valueOf (Cond.code yX0_valueOf cX0_valueOf 5 (some .int) :: wsL_law) ({ frames := 0, cells := 0, slots := 0, locals := 0 } : Room) (va_Pc [.ref h_c, .int q1, .ref h_d, .int q3] (ux_pre (dC, dI) vwCl (tyG cyI cyJ cyZ cyB cyO) [(h_c, .inr (0, oX0 m_c h_g h_p v_c_pumped v_c_today)), (h_d, .inr (1, oX1 m_d v_d_day)), (m_d 3, .inl (cyI, 12, .inl v_d_seen)), (m_d 4, .inl (cyI, 6, .inl v_d_took)), (m_d 5, .inl (cyI, 6, .inl v_d_dryDays))] sz (xE tO vF adK adV))) (va_Qi (fun (r : Int32) (_ : Unit) => r = out) (ux_at (dC, dI) vwCl (tyG cyI cyJ cyZ cyB cyO) [(h_c, .inr (0, oX0 m_c h_g h_p v_c_pumped v_c_today)), (h_d, .inr (1, oX1 m_d v_d_day)), (m_d 3, .inl (cyI, 12, .inl v_d_seen)), (m_d 4, .inl (cyI, 6, .inl v_d_took)), (m_d 5, .inl (cyI, 6, .inl v_d_dryDays))] sz (fun u : Unit => [(h_c, .inr (0, oX0 m_c h_g h_p v_c_pumped v_c_today)), (h_d, .inr (1, oX1 m_d v_d_day)), (m_d 3, .inl (cyI, 12, .inl v_d_seen)), (m_d 4, .inl (cyI, 6, .inl v_d_took)), (m_d 5, .inl (cyI, 6, .inl v_d_dryDays))])) (va_A [(h_c, .inr (0, oX0 m_c h_g h_p v_c_pumped v_c_today)), (h_d, .inr (1, oX1 m_d v_d_day)), (m_d 3, .inl (cyI, 12, .inl v_d_seen)), (m_d 4, .inl (cyI, 6, .inl v_d_took)), (m_d 5, .inl (cyI, 6, .inl v_d_dryDays))] sz)) 0 0 (va_A [(h_c, .inr (0, oX0 m_c h_g h_p v_c_pumped v_c_today)), (h_d, .inr (1, oX1 m_d v_d_day)), (m_d 3, .inl (cyI, 12, .inl v_d_seen)), (m_d 4, .inl (cyI, 6, .inl v_d_took)), (m_d 5, .inl (cyI, 6, .inl v_d_dryDays))] sz) := by
  refine ux_meti0 (by decide +kernel) (Nat.le_of_ble_eq_true rfl) ?_
  intro p e s m below meth c A Q ls hx hb hml hts hown hA hP hK hD hE hl hret
  have hown : s.vm.findClass RX0 = some m.cls := hown
  have hS : va_S A s.heap s.heap [] := va_S.rf
  have hl : lv_has ls 5 [(0, .ref h_c), (1, .int q1), (2, .ref h_d), (3, .int q3)] := hl
  unfold f_X0_valueOf at hf
  refine lv_iload_n hx hb dX0_valueOf_0 rfl (lv_at hl 1 rfl) ?_
  -- tableswitch
  by_cases c_1 : q1 = (-8 : Int32)
  · have hf := (if_pos c_1).symm.trans hf
    have c_1t : (q1).toInt = -8 := by rw [c_1]; rfl
    refine lv_tableIn (off := 48) (tgt := 49) hx hb dX0_valueOf_1 (by omega) (by omega) (by rw [c_1t]; rfl) (by decide) ?_
    refine lv_aload_n hx hb dX0_valueOf_49 rfl (lv_at hl 2 rfl) ?_
    refine va_get (D := (dC, dI)) (ci := 1) (v := .ref (m_d 5)) (C := RX1) (T := TX1) (N := 8) hx hb hts (g_c inlX1) hown hK hP 1 rfl rfl 5 (by decide) (hts _ (List.mem_cons_of_mem _ wm_35_8)) (fun _ h9 => h9) rfl dX0_valueOf_50 ?_
    refine lv_iload_n hx hb dX0_valueOf_53 rfl (lv_at hl 3 rfl) ?_
    obtain ⟨h_2, hf⟩ := ck_some hf
    refine va_iald hx hb hK hP 4 0 rfl rfl (inb_in h_2) dX0_valueOf_54 ?_
    exact hret _ _ _ _ (v_d_dryDays q3.toNatClampNeg) dX0_valueOf_55 (Option.some.inj hf) hP hD hS
  have hf := (if_neg c_1).symm.trans hf
  by_cases c_3 : q1 = (-7 : Int32)
  · have hf := (if_pos c_3).symm.trans hf
    have c_3t : (q1).toInt = -7 := by rw [c_3]; rfl
    refine lv_tableIn (off := 41) (tgt := 42) hx hb dX0_valueOf_1 (by omega) (by omega) (by rw [c_3t]; rfl) (by decide) ?_
    refine lv_aload_n hx hb dX0_valueOf_42 rfl (lv_at hl 2 rfl) ?_
    refine va_get (D := (dC, dI)) (ci := 1) (v := .ref (m_d 4)) (C := RX1) (T := TX1) (N := 8) hx hb hts (g_c inlX1) hown hK hP 1 rfl rfl 4 (by decide) (hts _ (List.mem_cons_of_mem _ wm_35_7)) (fun _ h9 => h9) rfl dX0_valueOf_43 ?_
    refine lv_iload_n hx hb dX0_valueOf_46 rfl (lv_at hl 3 rfl) ?_
    obtain ⟨h_4, hf⟩ := ck_some hf
    refine va_iald hx hb hK hP 3 0 rfl rfl (inb_in h_4) dX0_valueOf_47 ?_
    exact hret _ _ _ _ (v_d_took q3.toNatClampNeg) dX0_valueOf_48 (Option.some.inj hf) hP hD hS
  have hf := (if_neg c_3).symm.trans hf
  by_cases c_5 : q1 = (-6 : Int32)
  · have hf := (if_pos c_5).symm.trans hf
    have c_5t : (q1).toInt = -6 := by rw [c_5]; rfl
    refine lv_tableIn (off := 36) (tgt := 37) hx hb dX0_valueOf_1 (by omega) (by omega) (by rw [c_5t]; rfl) (by decide) ?_
    refine lv_aload_n hx hb dX0_valueOf_37 rfl (lv_at hl 0 rfl) ?_
    refine va_get (D := (dC, dI)) (ci := 0) (v := .int v_c_today) (C := RX0) (T := TX0) (N := 9) hx hb hts (g_c inlX0) hown hK hP 0 rfl rfl 4 (by decide) (hts _ (List.mem_cons_of_mem _ wm_5_8)) (fun _ h9 => h9) rfl dX0_valueOf_38 ?_
    exact hret _ _ _ _ v_c_today dX0_valueOf_41 (Option.some.inj hf) hP hD hS
  have hf := (if_neg c_5).symm.trans hf
  by_cases c_6 : q1 = (-5 : Int32)
  · have hf := (if_pos c_6).symm.trans hf
    have c_6t : (q1).toInt = -5 := by rw [c_6]; rfl
    refine lv_tableIn (off := 31) (tgt := 32) hx hb dX0_valueOf_1 (by omega) (by omega) (by rw [c_6t]; rfl) (by decide) ?_
    refine lv_aload_n hx hb dX0_valueOf_32 rfl (lv_at hl 2 rfl) ?_
    refine va_get (D := (dC, dI)) (ci := 1) (v := .int v_d_day) (C := RX1) (T := TX1) (N := 8) hx hb hts (g_c inlX1) hown hK hP 1 rfl rfl 0 (by decide) (hts _ (List.mem_cons_of_mem _ wm_33_23)) (fun _ h9 => h9) rfl dX0_valueOf_33 ?_
    exact hret _ _ _ _ v_d_day dX0_valueOf_36 (Option.some.inj hf) hP hD hS
  have hf := (if_neg c_6).symm.trans hf
  have c_1n : ¬ (q1).toInt = -8 := lv_neT c_1 rfl
  have c_3n : ¬ (q1).toInt = -7 := lv_neT c_3 rfl
  have c_5n : ¬ (q1).toInt = -6 := lv_neT c_5 rfl
  have c_6n : ¬ (q1).toInt = -5 := lv_neT c_6 rfl
  refine lv_tableOut (tgt := 56) hx hb dX0_valueOf_1 (by omega) (by decide) ?_
  refine lv_bipush (v := (-20 : Int32)) hx hb dX0_valueOf_56 (by decide) ?_
  refine lv_iload_n hx hb dX0_valueOf_58 rfl (lv_at hl 1 rfl) ?_
  refine lv_isub hx hb dX0_valueOf_59 ?_
  refine lv_istore (lv' := [(4, .int ((-20 : Int32) - q1)), (0, .ref h_c), (1, .int q1), (2, .ref h_d), (3, .int q3)]) hx hb dX0_valueOf_60 hl (by decide) rfl (fun ls hl => ?_)
  refine lv_iload hx hb dX0_valueOf_62 (lv_at hl 0 rfl) ?_
  refine lv_if_lt (tgt := 77) hx hb dX0_valueOf_64 (by decide) (fun c_7 => ?_) (fun c_7 => ?_)
  · have hf := (if_pos c_7).symm.trans hf
    refine lv_iconst (v := (0 : Int32)) hx hb dX0_valueOf_77 (by decide) ?_
    refine lv_goto (tgt := 88) hx hb dX0_valueOf_78 (by decide) ?_
    exact hret _ _ _ _ (0 : Int32) dX0_valueOf_88 (Option.some.inj hf) hP hD hS
  · have hf := (if_neg c_7).symm.trans hf
    refine lv_iload hx hb dX0_valueOf_67 (lv_at hl 0 rfl) ?_
    refine lv_aload_n hx hb dX0_valueOf_69 rfl (lv_at hl 3 rfl) ?_
    refine va_get (D := (dC, dI)) (ci := 1) (v := .ref (m_d 3)) (C := RX1) (T := TX1) (N := 8) hx hb hts (g_c inlX1) hown hK hP 1 rfl rfl 3 (by decide) (hts _ (List.mem_cons_of_mem _ wm_34_1)) (fun _ h9 => h9) rfl dX0_valueOf_70 ?_
    refine va_alen (v := (12 : Int32)) hx hb hK hP 2 0 rfl rfl rfl dX0_valueOf_73 ?_
    refine lv_icmp_lt (tgt := 81) hx hb dX0_valueOf_74 (by decide) (fun c_8 => ?_) (fun c_8 => ?_)
    · have hf := (if_pos c_8).symm.trans hf
      refine lv_aload_n hx hb dX0_valueOf_81 rfl (lv_at hl 3 rfl) ?_
      refine va_get (D := (dC, dI)) (ci := 1) (v := .ref (m_d 3)) (C := RX1) (T := TX1) (N := 8) hx hb hts (g_c inlX1) hown hK hP 1 rfl rfl 3 (by decide) (hts _ (List.mem_cons_of_mem _ wm_34_1)) (fun _ h9 => h9) rfl dX0_valueOf_82 ?_
      refine lv_iload hx hb dX0_valueOf_85 (lv_at hl 0 rfl) ?_
      obtain ⟨h_9, hf⟩ := ck_some hf
      refine va_iald hx hb hK hP 2 0 rfl rfl (inb_in h_9) dX0_valueOf_87 ?_
      exact hret _ _ _ _ (v_d_seen ((-20 : Int32) - q1).toNatClampNeg) dX0_valueOf_88 (Option.some.inj hf) hP hD hS
    · have hf := (if_neg c_8).symm.trans hf
      refine lv_iconst (v := (0 : Int32)) hx hb dX0_valueOf_77 (by decide) ?_
      refine lv_goto (tgt := 88) hx hb dX0_valueOf_78 (by decide) ?_
      exact hret _ _ _ _ (0 : Int32) dX0_valueOf_88 (Option.some.inj hf) hP hD hS
def f_X0_wantOf_b155 (k56 : (Nat → Int32) → Int32 → Int32 → Int32 → Int32 → Option (Int32 × (Nat → Int32))) (v_c_today : Int32) (v_g_code : (Nat → Int32)) (v_d_day : Int32) (v_d_seen : (Nat → Int32)) (v_d_took : (Nat → Int32)) (v_d_dryDays : (Nat → Int32)) (v_c_stack : (Nat → Int32)) (x2 : Int32) (x3 : Int32) (x4 : Int32) (x5 : Int32) (x6 : Int32) : Option (Int32 × (Nat → Int32)) := ck (inb ((x3 + (-1 : Int32)) - (1 : Int32)) 16) (ck (inb (x3 + (-1 : Int32)) 16) (bd (f_X0_joined x6 (v_c_stack ((x3 + (-1 : Int32)) - (1 : Int32)).toNatClampNeg) (v_c_stack (x3 + (-1 : Int32)).toNatClampNeg)) (fun o_3 => ck (inb ((x3 + (-1 : Int32)) - (1 : Int32)) 16) (nm (upd v_c_stack ((x3 + (-1 : Int32)) - (1 : Int32)).toNatClampNeg o_3) (fun a_5 => k56 a_5 x2 (x3 + (-1 : Int32)) x4 (x5 + (1 : Int32)))))))
def f_X0_wantOf_b88 (k56 : (Nat → Int32) → Int32 → Int32 → Int32 → Int32 → Option (Int32 × (Nat → Int32))) (v_c_today : Int32) (v_g_code : (Nat → Int32)) (v_d_day : Int32) (v_d_seen : (Nat → Int32)) (v_d_took : (Nat → Int32)) (v_d_dryDays : (Nat → Int32)) (v_c_stack : (Nat → Int32)) (x2 : Int32) (x3 : Int32) (x4 : Int32) (x5 : Int32) (x6 : Int32) : Option (Int32 × (Nat → Int32)) := if x3 < (16 : Int32) then (if x6 ≤ (-1 : Int32) then (bd (f_X0_valueOf v_c_today v_d_day v_d_seen v_d_took v_d_dryDays x6 x2) (fun o_3 => ck (inb x3 16) (nm (upd v_c_stack x3.toNatClampNeg o_3) (fun a_5 => k56 a_5 x2 (x3 + (1 : Int32)) x4 (x5 + (1 : Int32)))))) else (ck (inb x3 16) (nm (upd v_c_stack x3.toNatClampNeg x6) (fun a_7 => k56 a_7 x2 (x3 + (1 : Int32)) x4 (x5 + (1 : Int32)))))) else (some ((0 : Int32), v_c_stack))
def f_X0_wantOf_b56_st (kr : (Nat → Int32) → Int32 → Int32 → Int32 → Int32 → Option (Int32 × (Nat → Int32)))  (v_c_today : Int32) (v_g_code : (Nat → Int32)) (v_d_day : Int32) (v_d_seen : (Nat → Int32)) (v_d_took : (Nat → Int32)) (v_d_dryDays : (Nat → Int32)) (v_c_stack : (Nat → Int32)) (x2 : Int32) (x3 : Int32) (x4 : Int32) (x5 : Int32) : Option (Int32 × (Nat → Int32)) := if x4 ≤ x5 then (if (1 : Int32) ≤ x3 then (ck (inb (x3 - (1 : Int32)) 16) (some ((if (0 : Int32) < (if (v_c_stack (x3 - (1 : Int32)).toNatClampNeg) < (999 : Int32) then (v_c_stack (x3 - (1 : Int32)).toNatClampNeg) else (999 : Int32)) then (if (v_c_stack (x3 - (1 : Int32)).toNatClampNeg) < (999 : Int32) then (v_c_stack (x3 - (1 : Int32)).toNatClampNeg) else (999 : Int32)) else (0 : Int32)), v_c_stack))) else (some ((0 : Int32), v_c_stack))) else (ck (inb x5 400) (if (-1 : Int32) < (v_g_code x5.toNatClampNeg) then (f_X0_wantOf_b88 kr v_c_today v_g_code v_d_day v_d_seen v_d_took v_d_dryDays v_c_stack x2 x3 x4 x5 (v_g_code x5.toNatClampNeg)) else (if (-4 : Int32) ≤ (v_g_code x5.toNatClampNeg) then (if x3 < (2 : Int32) then (some ((0 : Int32), v_c_stack)) else (if (v_g_code x5.toNatClampNeg) = (-4 : Int32) then (ck (inb (x3 - (1 : Int32)) 16) (if (v_c_stack (x3 - (1 : Int32)).toNatClampNeg) = (0 : Int32) then (some ((0 : Int32), v_c_stack)) else (f_X0_wantOf_b155 kr v_c_today v_g_code v_d_day v_d_seen v_d_took v_d_dryDays v_c_stack x2 x3 x4 x5 (v_g_code x5.toNatClampNeg)))) else (f_X0_wantOf_b155 kr v_c_today v_g_code v_d_day v_d_seen v_d_took v_d_dryDays v_c_stack x2 x3 x4 x5 (v_g_code x5.toNatClampNeg)))) else (f_X0_wantOf_b88 kr v_c_today v_g_code v_d_day v_d_seen v_d_took v_d_dryDays v_c_stack x2 x3 x4 x5 (v_g_code x5.toNatClampNeg)))))
def f_X0_wantOf_b56  (v_c_today : Int32) (v_g_code : (Nat → Int32)) (v_d_day : Int32) (v_d_seen : (Nat → Int32)) (v_d_took : (Nat → Int32)) (v_d_dryDays : (Nat → Int32)) : Nat → (Nat → Int32) → Int32 → Int32 → Int32 → Int32 → Option (Int32 × (Nat → Int32))
  | 0 => fun _ _ _ _ _ => none
  | n + 1 => f_X0_wantOf_b56_st (f_X0_wantOf_b56 v_c_today v_g_code v_d_day v_d_seen v_d_took v_d_dryDays n) v_c_today v_g_code v_d_day v_d_seen v_d_took v_d_dryDays
def f_X0_wantOf (v_c_today : Int32) (v_g_lawEnd : (Nat → Int32)) (v_g_code : (Nat → Int32)) (v_p_wanting : (Nat → Int32)) (v_d_day : Int32) (v_d_seen : (Nat → Int32)) (v_d_took : (Nat → Int32)) (v_d_dryDays : (Nat → Int32)) (v_c_stack : (Nat → Int32)) (q2 : Int32) : Option (Int32 × (Nat → Int32)) := ck (inb q2 6) (if (v_p_wanting q2.toNatClampNeg) < (0 : Int32) then (ck (inb q2 6) (nm ((if (400 : Int32) < (v_g_lawEnd q2.toNatClampNeg) then (400 : Int32) else (v_g_lawEnd q2.toNatClampNeg))) (fun e_4 => bd (f_X3_lawBegin v_g_lawEnd q2) (fun o_5 => f_X0_wantOf_b56 v_c_today v_g_code v_d_day v_d_seen v_d_took v_d_dryDays fuel v_c_stack q2 (0 : Int32) e_4 o_5)))) else (ck (inb q2 6) (some ((v_p_wanting q2.toNatClampNeg), v_c_stack))))
set_option maxRecDepth 100000 in
set_option maxHeartbeats 8000000 in
theorem c_X0_wantOf (l : Launch) (dC : Nat → ClassId) (dI : Nat → Nat → Nat) (cyI cyJ cyZ cyB cyO : ClassId) (tO : Nat) (vF : Value) (adK adV : Nat → Nat) (h_c : Nat) (m_c : Nat → Nat) (h_g : Nat) (m_g : Nat → Nat) (h_p : Nat) (m_p : Nat → Nat) (h_d : Nat) (m_d : Nat → Nat) (v_c_pumped : Int32) (v_c_today : Int32) (v_c_stack : (Nat → Int32)) (v_g_cells : Int32) (v_g_passes : Int32) (v_g_rivers : Int32) (v_g_villages : Int32) (v_g_rains : Int32) (v_g_lawEnd : (Nat → Int32)) (v_g_code : (Nat → Int32)) (v_p_pumpCell : Int32) (v_p_pumpTakes : Int32) (v_p_pumpFrom : Int32) (v_p_pumpTo : Int32) (v_p_wanting : (Nat → Int32)) (v_d_day : Int32) (v_d_seen : (Nat → Int32)) (v_d_took : (Nat → Int32)) (v_d_dryDays : (Nat → Int32)) (q2 : Int32) (sz : Nat) (out : Int32 × (Nat → Int32)) (hf : f_X0_wantOf v_c_today v_g_lawEnd v_g_code v_p_wanting v_d_day v_d_seen v_d_took v_d_dryDays v_c_stack q2 = some out) : Met l yX0_wantOf (Cond.code yX0_wantOf cX0_wantOf 7 (some .int) :: wsL_law) ({ frames := 1, cells := 0, slots := 0, locals := 24 } : Room) (va_Pc [.ref h_c, .ref h_d, .int q2] (ux_pre (dC, dI) vwCl (tyG cyI cyJ cyZ cyB cyO) [(h_c, .inr (0, oX0 m_c h_g h_p v_c_pumped v_c_today)), (m_c 8, .inl (cyI, 16, .inl v_c_stack)), (h_g, .inr (3, oX3 m_g v_g_cells v_g_passes v_g_rivers v_g_villages v_g_rains)), (m_g 16, .inl (cyI, 6, .inl v_g_lawEnd)), (m_g 17, .inl (cyI, 400, .inl v_g_code)), (h_p, .inr (4, oX4 m_p v_p_pumpCell v_p_pumpTakes v_p_pumpFrom v_p_pumpTo)), (m_p 0, .inl (cyI, 6, .inl v_p_wanting)), (h_d, .inr (1, oX1 m_d v_d_day)), (m_d 3, .inl (cyI, 12, .inl v_d_seen)), (m_d 4, .inl (cyI, 6, .inl v_d_took)), (m_d 5, .inl (cyI, 6, .inl v_d_dryDays))] sz (xE tO vF adK adV))) (va_Qi (fun (r : Int32) (u : (Nat → Int32)) => (r, u) = out) (ux_at (dC, dI) vwCl (tyG cyI cyJ cyZ cyB cyO) [(h_c, .inr (0, oX0 m_c h_g h_p v_c_pumped v_c_today)), (m_c 8, .inl (cyI, 16, .inl v_c_stack)), (h_g, .inr (3, oX3 m_g v_g_cells v_g_passes v_g_rivers v_g_villages v_g_rains)), (m_g 16, .inl (cyI, 6, .inl v_g_lawEnd)), (m_g 17, .inl (cyI, 400, .inl v_g_code)), (h_p, .inr (4, oX4 m_p v_p_pumpCell v_p_pumpTakes v_p_pumpFrom v_p_pumpTo)), (m_p 0, .inl (cyI, 6, .inl v_p_wanting)), (h_d, .inr (1, oX1 m_d v_d_day)), (m_d 3, .inl (cyI, 12, .inl v_d_seen)), (m_d 4, .inl (cyI, 6, .inl v_d_took)), (m_d 5, .inl (cyI, 6, .inl v_d_dryDays))] sz (fun u : (Nat → Int32) => [(h_c, .inr (0, oX0 m_c h_g h_p v_c_pumped v_c_today)), (m_c 8, .inl (cyI, 16, .inl u)), (h_g, .inr (3, oX3 m_g v_g_cells v_g_passes v_g_rivers v_g_villages v_g_rains)), (m_g 16, .inl (cyI, 6, .inl v_g_lawEnd)), (m_g 17, .inl (cyI, 400, .inl v_g_code)), (h_p, .inr (4, oX4 m_p v_p_pumpCell v_p_pumpTakes v_p_pumpFrom v_p_pumpTo)), (m_p 0, .inl (cyI, 6, .inl v_p_wanting)), (h_d, .inr (1, oX1 m_d v_d_day)), (m_d 3, .inl (cyI, 12, .inl v_d_seen)), (m_d 4, .inl (cyI, 6, .inl v_d_took)), (m_d 5, .inl (cyI, 6, .inl v_d_dryDays))])) (va_A [(h_c, .inr (0, oX0 m_c h_g h_p v_c_pumped v_c_today)), (m_c 8, .inl (cyI, 16, .inl v_c_stack)), (h_g, .inr (3, oX3 m_g v_g_cells v_g_passes v_g_rivers v_g_villages v_g_rains)), (m_g 16, .inl (cyI, 6, .inl v_g_lawEnd)), (m_g 17, .inl (cyI, 400, .inl v_g_code)), (h_p, .inr (4, oX4 m_p v_p_pumpCell v_p_pumpTakes v_p_pumpFrom v_p_pumpTo)), (m_p 0, .inl (cyI, 6, .inl v_p_wanting)), (h_d, .inr (1, oX1 m_d v_d_day)), (m_d 3, .inl (cyI, 12, .inl v_d_seen)), (m_d 4, .inl (cyI, 6, .inl v_d_took)), (m_d 5, .inl (cyI, 6, .inl v_d_dryDays))] sz)) 0 0 (va_A [(h_c, .inr (0, oX0 m_c h_g h_p v_c_pumped v_c_today)), (m_c 8, .inl (cyI, 16, .inl v_c_stack)), (h_g, .inr (3, oX3 m_g v_g_cells v_g_passes v_g_rivers v_g_villages v_g_rains)), (m_g 16, .inl (cyI, 6, .inl v_g_lawEnd)), (m_g 17, .inl (cyI, 400, .inl v_g_code)), (h_p, .inr (4, oX4 m_p v_p_pumpCell v_p_pumpTakes v_p_pumpFrom v_p_pumpTo)), (m_p 0, .inl (cyI, 6, .inl v_p_wanting)), (h_d, .inr (1, oX1 m_d v_d_day)), (m_d 3, .inl (cyI, 12, .inl v_d_seen)), (m_d 4, .inl (cyI, 6, .inl v_d_took)), (m_d 5, .inl (cyI, 6, .inl v_d_dryDays))] sz) := by
  refine ux_meti (by decide +kernel) (Nat.le_of_ble_eq_true rfl) ?_
  intro p e s m below meth c A Q ls hx hb hml hts hown hA hP hK hD hE hl hret
  have hown : s.vm.findClass RX0 = some m.cls := hown
  have hS : va_S A s.heap s.heap [] := va_S.rf
  have hl : lv_has ls 7 [(0, .ref h_c), (1, .ref h_d), (2, .int q2)] := hl
  have hb_155 : ∀ (k56 : (Nat → Int32) → Int32 → Int32 → Int32 → Int32 → Option (Int32 × (Nat → Int32))) (hk56 : ∀ (v_c_stack : (Nat → Int32)) (x2 : Int32) (x3 : Int32) (x4 : Int32) (x5 : Int32), k56 v_c_stack x2 x3 x4 x5 = some out → ∀ (H : Heap) (locs : List Loc) (ls : Array Slot), va_P (dC, dI) vwCl [(h_c, .inr (0, oX0 m_c h_g h_p v_c_pumped v_c_today)), (m_c 8, .inl (cyI, 16, .inl v_c_stack)), (h_g, .inr (3, oX3 m_g v_g_cells v_g_passes v_g_rivers v_g_villages v_g_rains)), (m_g 16, .inl (cyI, 6, .inl v_g_lawEnd)), (m_g 17, .inl (cyI, 400, .inl v_g_code)), (h_p, .inr (4, oX4 m_p v_p_pumpCell v_p_pumpTakes v_p_pumpFrom v_p_pumpTo)), (m_p 0, .inl (cyI, 6, .inl v_p_wanting)), (h_d, .inr (1, oX1 m_d v_d_day)), (m_d 3, .inl (cyI, 12, .inl v_d_seen)), (m_d 4, .inl (cyI, 6, .inl v_d_took)), (m_d 5, .inl (cyI, 6, .inl v_d_dryDays))] H → va_D A [(h_c, .inr (0, oX0 m_c h_g h_p v_c_pumped v_c_today)), (m_c 8, .inl (cyI, 16, .inl v_c_stack)), (h_g, .inr (3, oX3 m_g v_g_cells v_g_passes v_g_rivers v_g_villages v_g_rains)), (m_g 16, .inl (cyI, 6, .inl v_g_lawEnd)), (m_g 17, .inl (cyI, 400, .inl v_g_code)), (h_p, .inr (4, oX4 m_p v_p_pumpCell v_p_pumpTakes v_p_pumpFrom v_p_pumpTo)), (m_p 0, .inl (cyI, 6, .inl v_p_wanting)), (h_d, .inr (1, oX1 m_d v_d_day)), (m_d 3, .inl (cyI, 12, .inl v_d_seen)), (m_d 4, .inl (cyI, 6, .inl v_d_took)), (m_d 5, .inl (cyI, 6, .inl v_d_dryDays))] → va_S A s.heap H locs → lv_has ls 7 [(0, .ref h_c), (1, .ref h_d), (2, .int x2), (3, .int x3), (4, .int x4), (5, .int x5)] → W p l e ({ frames := 1, cells := 0, slots := 0, locals := 24 } : Room) s m ([.ref h_c, .ref h_d, .int q2] : List Value).toArray below meth c H locs 0 0 Q (F0 m 56 ls [])) (v_c_stack : (Nat → Int32)) (x2 : Int32) (x3 : Int32) (x4 : Int32) (x5 : Int32) (x6 : Int32), f_X0_wantOf_b155 k56 v_c_today v_g_code v_d_day v_d_seen v_d_took v_d_dryDays v_c_stack x2 x3 x4 x5 x6 = some out → ∀ (H : Heap) (locs : List Loc) (ls : Array Slot), va_P (dC, dI) vwCl [(h_c, .inr (0, oX0 m_c h_g h_p v_c_pumped v_c_today)), (m_c 8, .inl (cyI, 16, .inl v_c_stack)), (h_g, .inr (3, oX3 m_g v_g_cells v_g_passes v_g_rivers v_g_villages v_g_rains)), (m_g 16, .inl (cyI, 6, .inl v_g_lawEnd)), (m_g 17, .inl (cyI, 400, .inl v_g_code)), (h_p, .inr (4, oX4 m_p v_p_pumpCell v_p_pumpTakes v_p_pumpFrom v_p_pumpTo)), (m_p 0, .inl (cyI, 6, .inl v_p_wanting)), (h_d, .inr (1, oX1 m_d v_d_day)), (m_d 3, .inl (cyI, 12, .inl v_d_seen)), (m_d 4, .inl (cyI, 6, .inl v_d_took)), (m_d 5, .inl (cyI, 6, .inl v_d_dryDays))] H → va_D A [(h_c, .inr (0, oX0 m_c h_g h_p v_c_pumped v_c_today)), (m_c 8, .inl (cyI, 16, .inl v_c_stack)), (h_g, .inr (3, oX3 m_g v_g_cells v_g_passes v_g_rivers v_g_villages v_g_rains)), (m_g 16, .inl (cyI, 6, .inl v_g_lawEnd)), (m_g 17, .inl (cyI, 400, .inl v_g_code)), (h_p, .inr (4, oX4 m_p v_p_pumpCell v_p_pumpTakes v_p_pumpFrom v_p_pumpTo)), (m_p 0, .inl (cyI, 6, .inl v_p_wanting)), (h_d, .inr (1, oX1 m_d v_d_day)), (m_d 3, .inl (cyI, 12, .inl v_d_seen)), (m_d 4, .inl (cyI, 6, .inl v_d_took)), (m_d 5, .inl (cyI, 6, .inl v_d_dryDays))] → va_S A s.heap H locs → lv_has ls 7 [(0, .ref h_c), (1, .ref h_d), (2, .int x2), (3, .int x3), (4, .int x4), (5, .int x5), (6, .int x6)] → W p l e ({ frames := 1, cells := 0, slots := 0, locals := 24 } : Room) s m ([.ref h_c, .ref h_d, .int q2] : List Value).toArray below meth c H locs 0 0 Q (F0 m 155 ls []) := by
    intro k56 hk56 v_c_stack x2 x3 x4 x5 x6 hf H locs ls hP hD hS hl
    unfold f_X0_wantOf_b155 at hf
    refine lv_iinc (v := x3 + (-1 : Int32)) (lv' := [(3, .int (x3 + (-1 : Int32))), (0, .ref h_c), (1, .ref h_d), (2, .int x2), (4, .int x4), (5, .int x5), (6, .int x6)]) hx hb dX0_wantOf_155 hl (k := 3) rfl (congrArg (fun z => x3 + z) (show Int32.ofInt (-1) = (-1 : Int32) by decide)) (by decide) rfl (fun ls hl => ?_)
    refine lv_aload_n hx hb dX0_wantOf_158 rfl (lv_at hl 1 rfl) ?_
    refine va_get (D := (dC, dI)) (ci := 0) (v := .ref (m_c 8)) (C := RX0) (T := TX0) (N := 9) hx hb hts (g_c inlX0) hown hK hP 0 rfl rfl 8 (by decide) (hts _ (List.mem_cons_of_mem _ wm_5_12)) (fun _ h9 => h9) rfl dX0_wantOf_159 ?_
    refine lv_iload_n hx hb dX0_wantOf_162 rfl (lv_at hl 0 rfl) ?_
    refine lv_iconst (v := (1 : Int32)) hx hb dX0_wantOf_163 (by decide) ?_
    refine lv_isub hx hb dX0_wantOf_164 ?_
    refine lv_iload hx hb dX0_wantOf_165 (lv_at hl 6 rfl) ?_
    refine lv_aload_n hx hb dX0_wantOf_167 rfl (lv_at hl 1 rfl) ?_
    refine va_get (D := (dC, dI)) (ci := 0) (v := .ref (m_c 8)) (C := RX0) (T := TX0) (N := 9) hx hb hts (g_c inlX0) hown hK hP 0 rfl rfl 8 (by decide) (hts _ (List.mem_cons_of_mem _ wm_5_12)) (fun _ h9 => h9) rfl dX0_wantOf_168 ?_
    refine lv_iload_n hx hb dX0_wantOf_171 rfl (lv_at hl 0 rfl) ?_
    refine lv_iconst (v := (1 : Int32)) hx hb dX0_wantOf_172 (by decide) ?_
    refine lv_isub hx hb dX0_wantOf_173 ?_
    obtain ⟨h_1, hf⟩ := ck_some hf
    refine va_iald hx hb hK hP 1 0 rfl rfl (inb_in h_1) dX0_wantOf_174 ?_
    refine lv_aload_n hx hb dX0_wantOf_175 rfl (lv_at hl 1 rfl) ?_
    refine va_get (D := (dC, dI)) (ci := 0) (v := .ref (m_c 8)) (C := RX0) (T := TX0) (N := 9) hx hb hts (g_c inlX0) hown hK hP 0 rfl rfl 8 (by decide) (hts _ (List.mem_cons_of_mem _ wm_5_12)) (fun _ h9 => h9) rfl dX0_wantOf_176 ?_
    refine lv_iload_n hx hb dX0_wantOf_179 rfl (lv_at hl 0 rfl) ?_
    obtain ⟨h_2, hf⟩ := ck_some hf
    refine va_iald hx hb hK hP 1 0 rfl rfl (inb_in h_2) dX0_wantOf_180 ?_
    obtain ⟨o_3, ho_3, hf⟩ := bd_some hf
    refine ux_Si0 (n := 3) (As := [.int x6, .int (v_c_stack ((x3 + (-1 : Int32)) - (1 : Int32)).toNatClampNeg), .int (v_c_stack (x3 + (-1 : Int32)).toNatClampNeg)]) (rest := [.int ((x3 + (-1 : Int32)) - (1 : Int32)), .ref (m_c 8)]) (wc := []) (wr := [_, _, _, _, _, _, _, _, _, _, _]) ⟨hx, hb, hml, hown, hts⟩ hK hP hD hS hA hE [] [0, 1, 2, 3, 4, 5, 6, 7, 8, 9, 10] (sg_h [] 11 rfl sk_z13_2 rfl) (sg_h [(0, 11)] 11 rfl sk_z13_3 rfl) nd_z13_0 nd_z13_2 nj_z13_1 (c_X0_joined l dC dI cyI cyJ cyZ cyB cyO tO vF adK adV x6 (v_c_stack ((x3 + (-1 : Int32)) - (1 : Int32)).toNatClampNeg) (v_c_stack (x3 + (-1 : Int32)).toNatClampNeg) _ _ ho_3) wm_35_9 wm_35_10 wm_2_6 wm_35_11 ⟨rfl, rfl⟩ (by decide +kernel) rfl ⟨Nat.le_of_ble_eq_true rfl, Nat.le_of_ble_eq_true rfl⟩ hl.1 rfl (Nat.le_of_ble_eq_true rfl) dX0_wantOf_181 ⟨Nat.le_of_ble_eq_true rfl, Nat.le_of_ble_eq_true rfl⟩ (fun H locs hP hD hS => ?_)
    have hP : va_P (dC, dI) vwCl [_, _, _, _, _, _, _, _, _, _, _] H := hP
    have hD : va_D A [_, _, _, _, _, _, _, _, _, _, _] := hD
    obtain ⟨h_4, hf⟩ := ck_some hf
    obtain ⟨a_5, ea_5, hf⟩ := nm_some hf
    refine va_iast hx hb hK hP hD hS 1 0 rfl rfl (inb_in h_4) dX0_wantOf_184 (fun H locs hP hD hS => ?_)
    have hP : va_P (dC, dI) vwCl [(h_c, .inr (0, oX0 m_c h_g h_p v_c_pumped v_c_today)), (m_c 8, .inl (cyI, 16, .inl a_5)), (h_g, .inr (3, oX3 m_g v_g_cells v_g_passes v_g_rivers v_g_villages v_g_rains)), (m_g 16, .inl (cyI, 6, .inl v_g_lawEnd)), (m_g 17, .inl (cyI, 400, .inl v_g_code)), (h_p, .inr (4, oX4 m_p v_p_pumpCell v_p_pumpTakes v_p_pumpFrom v_p_pumpTo)), (m_p 0, .inl (cyI, 6, .inl v_p_wanting)), (h_d, .inr (1, oX1 m_d v_d_day)), (m_d 3, .inl (cyI, 12, .inl v_d_seen)), (m_d 4, .inl (cyI, 6, .inl v_d_took)), (m_d 5, .inl (cyI, 6, .inl v_d_dryDays))] H := by rw [ea_5]; exact hP
    have hD : va_D A [(h_c, .inr (0, oX0 m_c h_g h_p v_c_pumped v_c_today)), (m_c 8, .inl (cyI, 16, .inl a_5)), (h_g, .inr (3, oX3 m_g v_g_cells v_g_passes v_g_rivers v_g_villages v_g_rains)), (m_g 16, .inl (cyI, 6, .inl v_g_lawEnd)), (m_g 17, .inl (cyI, 400, .inl v_g_code)), (h_p, .inr (4, oX4 m_p v_p_pumpCell v_p_pumpTakes v_p_pumpFrom v_p_pumpTo)), (m_p 0, .inl (cyI, 6, .inl v_p_wanting)), (h_d, .inr (1, oX1 m_d v_d_day)), (m_d 3, .inl (cyI, 12, .inl v_d_seen)), (m_d 4, .inl (cyI, 6, .inl v_d_took)), (m_d 5, .inl (cyI, 6, .inl v_d_dryDays))] := by rw [ea_5]; exact hD
    refine lv_iinc (v := x5 + (1 : Int32)) (lv' := [(5, .int (x5 + (1 : Int32))), (3, .int (x3 + (-1 : Int32))), (0, .ref h_c), (1, .ref h_d), (2, .int x2), (4, .int x4), (6, .int x6)]) hx hb dX0_wantOf_185 hl (k := 5) rfl rfl (by decide) rfl (fun ls hl => ?_)
    refine lv_goto (tgt := 56) hx hb dX0_wantOf_188 (by decide) ?_
    exact hk56 _ _ _ _ _ hf _ _ _ hP hD hS (lv_sub hl [2, 3, 4, 1, 5, 0] rfl)
  have hb_88 : ∀ (k56 : (Nat → Int32) → Int32 → Int32 → Int32 → Int32 → Option (Int32 × (Nat → Int32))) (hk56 : ∀ (v_c_stack : (Nat → Int32)) (x2 : Int32) (x3 : Int32) (x4 : Int32) (x5 : Int32), k56 v_c_stack x2 x3 x4 x5 = some out → ∀ (H : Heap) (locs : List Loc) (ls : Array Slot), va_P (dC, dI) vwCl [(h_c, .inr (0, oX0 m_c h_g h_p v_c_pumped v_c_today)), (m_c 8, .inl (cyI, 16, .inl v_c_stack)), (h_g, .inr (3, oX3 m_g v_g_cells v_g_passes v_g_rivers v_g_villages v_g_rains)), (m_g 16, .inl (cyI, 6, .inl v_g_lawEnd)), (m_g 17, .inl (cyI, 400, .inl v_g_code)), (h_p, .inr (4, oX4 m_p v_p_pumpCell v_p_pumpTakes v_p_pumpFrom v_p_pumpTo)), (m_p 0, .inl (cyI, 6, .inl v_p_wanting)), (h_d, .inr (1, oX1 m_d v_d_day)), (m_d 3, .inl (cyI, 12, .inl v_d_seen)), (m_d 4, .inl (cyI, 6, .inl v_d_took)), (m_d 5, .inl (cyI, 6, .inl v_d_dryDays))] H → va_D A [(h_c, .inr (0, oX0 m_c h_g h_p v_c_pumped v_c_today)), (m_c 8, .inl (cyI, 16, .inl v_c_stack)), (h_g, .inr (3, oX3 m_g v_g_cells v_g_passes v_g_rivers v_g_villages v_g_rains)), (m_g 16, .inl (cyI, 6, .inl v_g_lawEnd)), (m_g 17, .inl (cyI, 400, .inl v_g_code)), (h_p, .inr (4, oX4 m_p v_p_pumpCell v_p_pumpTakes v_p_pumpFrom v_p_pumpTo)), (m_p 0, .inl (cyI, 6, .inl v_p_wanting)), (h_d, .inr (1, oX1 m_d v_d_day)), (m_d 3, .inl (cyI, 12, .inl v_d_seen)), (m_d 4, .inl (cyI, 6, .inl v_d_took)), (m_d 5, .inl (cyI, 6, .inl v_d_dryDays))] → va_S A s.heap H locs → lv_has ls 7 [(0, .ref h_c), (1, .ref h_d), (2, .int x2), (3, .int x3), (4, .int x4), (5, .int x5)] → W p l e ({ frames := 1, cells := 0, slots := 0, locals := 24 } : Room) s m ([.ref h_c, .ref h_d, .int q2] : List Value).toArray below meth c H locs 0 0 Q (F0 m 56 ls [])) (v_c_stack : (Nat → Int32)) (x2 : Int32) (x3 : Int32) (x4 : Int32) (x5 : Int32) (x6 : Int32), f_X0_wantOf_b88 k56 v_c_today v_g_code v_d_day v_d_seen v_d_took v_d_dryDays v_c_stack x2 x3 x4 x5 x6 = some out → ∀ (H : Heap) (locs : List Loc) (ls : Array Slot), va_P (dC, dI) vwCl [(h_c, .inr (0, oX0 m_c h_g h_p v_c_pumped v_c_today)), (m_c 8, .inl (cyI, 16, .inl v_c_stack)), (h_g, .inr (3, oX3 m_g v_g_cells v_g_passes v_g_rivers v_g_villages v_g_rains)), (m_g 16, .inl (cyI, 6, .inl v_g_lawEnd)), (m_g 17, .inl (cyI, 400, .inl v_g_code)), (h_p, .inr (4, oX4 m_p v_p_pumpCell v_p_pumpTakes v_p_pumpFrom v_p_pumpTo)), (m_p 0, .inl (cyI, 6, .inl v_p_wanting)), (h_d, .inr (1, oX1 m_d v_d_day)), (m_d 3, .inl (cyI, 12, .inl v_d_seen)), (m_d 4, .inl (cyI, 6, .inl v_d_took)), (m_d 5, .inl (cyI, 6, .inl v_d_dryDays))] H → va_D A [(h_c, .inr (0, oX0 m_c h_g h_p v_c_pumped v_c_today)), (m_c 8, .inl (cyI, 16, .inl v_c_stack)), (h_g, .inr (3, oX3 m_g v_g_cells v_g_passes v_g_rivers v_g_villages v_g_rains)), (m_g 16, .inl (cyI, 6, .inl v_g_lawEnd)), (m_g 17, .inl (cyI, 400, .inl v_g_code)), (h_p, .inr (4, oX4 m_p v_p_pumpCell v_p_pumpTakes v_p_pumpFrom v_p_pumpTo)), (m_p 0, .inl (cyI, 6, .inl v_p_wanting)), (h_d, .inr (1, oX1 m_d v_d_day)), (m_d 3, .inl (cyI, 12, .inl v_d_seen)), (m_d 4, .inl (cyI, 6, .inl v_d_took)), (m_d 5, .inl (cyI, 6, .inl v_d_dryDays))] → va_S A s.heap H locs → lv_has ls 7 [(0, .ref h_c), (1, .ref h_d), (2, .int x2), (3, .int x3), (4, .int x4), (5, .int x5), (6, .int x6)] → W p l e ({ frames := 1, cells := 0, slots := 0, locals := 24 } : Room) s m ([.ref h_c, .ref h_d, .int q2] : List Value).toArray below meth c H locs 0 0 Q (F0 m 88 ls []) := by
    intro k56 hk56 v_c_stack x2 x3 x4 x5 x6 hf H locs ls hP hD hS hl
    unfold f_X0_wantOf_b88 at hf
    refine lv_iload_n hx hb dX0_wantOf_88 rfl (lv_at hl 3 rfl) ?_
    refine lv_aload_n hx hb dX0_wantOf_89 rfl (lv_at hl 0 rfl) ?_
    refine va_get (D := (dC, dI)) (ci := 0) (v := .ref (m_c 8)) (C := RX0) (T := TX0) (N := 9) hx hb hts (g_c inlX0) hown hK hP 0 rfl rfl 8 (by decide) (hts _ (List.mem_cons_of_mem _ wm_5_12)) (fun _ h9 => h9) rfl dX0_wantOf_90 ?_
    refine va_alen (v := (16 : Int32)) hx hb hK hP 1 0 rfl rfl rfl dX0_wantOf_93 ?_
    refine lv_icmp_lt (tgt := 99) hx hb dX0_wantOf_94 (by decide) (fun c_1 => ?_) (fun c_1 => ?_)
    · have hf := (if_pos c_1).symm.trans hf
      refine lv_aload_n hx hb dX0_wantOf_99 rfl (lv_at hl 0 rfl) ?_
      refine va_get (D := (dC, dI)) (ci := 0) (v := .ref (m_c 8)) (C := RX0) (T := TX0) (N := 9) hx hb hts (g_c inlX0) hown hK hP 0 rfl rfl 8 (by decide) (hts _ (List.mem_cons_of_mem _ wm_5_12)) (fun _ h9 => h9) rfl dX0_wantOf_100 ?_
      refine lv_iload_n hx hb dX0_wantOf_103 rfl (lv_at hl 3 rfl) ?_
      refine lv_iload hx hb dX0_wantOf_104 (lv_at hl 6 rfl) ?_
      refine lv_iconst (v := (-1 : Int32)) hx hb dX0_wantOf_106 (by decide) ?_
      refine lv_icmp_le (tgt := 115) hx hb dX0_wantOf_107 (by decide) (fun c_2 => ?_) (fun c_2 => ?_)
      · have hf := (if_pos c_2).symm.trans hf
        refine lv_aload_n hx hb dX0_wantOf_115 rfl (lv_at hl 0 rfl) ?_
        refine lv_iload hx hb dX0_wantOf_116 (lv_at hl 6 rfl) ?_
        refine lv_aload_n hx hb dX0_wantOf_118 rfl (lv_at hl 1 rfl) ?_
        refine lv_iload_n hx hb dX0_wantOf_119 rfl (lv_at hl 2 rfl) ?_
        obtain ⟨o_3, ho_3, hf⟩ := bd_some hf
        refine ux_Vi0 (n := 3) (As := [.int x6, .ref h_d, .int x2]) (rest := [.int x3, .ref (m_c 8)]) (wc := [(h_c, .inr (0, oX0 m_c h_g h_p v_c_pumped v_c_today)), (h_d, .inr (1, oX1 m_d v_d_day)), (m_d 3, .inl (cyI, 12, .inl v_d_seen)), (m_d 4, .inl (cyI, 6, .inl v_d_took)), (m_d 5, .inl (cyI, 6, .inl v_d_dryDays))]) (wr := [_, _, _, _, _, _]) ⟨hx, hb, hml, hown, hts⟩ hK hP hD hS hA hE [0, 7, 8, 9, 10] [1, 2, 3, 4, 5, 6] (sg_h [(0, 1), (7, 4)] 11 rfl sk_z13_4 rfl) (sg_h [(1, 6)] 11 rfl sk_z13_5 rfl) nd_z13_3 nd_z13_4 nj_z13_2 (c_X0_valueOf l dC dI cyI cyJ cyZ cyB cyO tO vF adK adV h_c m_c h_g m_g h_p m_p h_d m_d v_c_pumped v_c_today v_d_day v_d_seen v_d_took v_d_dryDays x6 x2 _ _ ho_3) 0 0 rfl rfl wm_35_3 wm_35_4 wm_35_5 wm_2_6 wm_35_6 ⟨rfl, rfl⟩ (by decide +kernel) rfl ⟨Nat.le_of_ble_eq_true rfl, Nat.le_of_ble_eq_true rfl⟩ hl.1 rfl (Nat.le_of_ble_eq_true rfl) dX0_wantOf_120 ⟨Nat.le_of_ble_eq_true rfl, Nat.le_of_ble_eq_true rfl⟩ (fun H locs hP hD hS => ?_)
        have hP : va_P (dC, dI) vwCl [_, _, _, _, _, _, (h_c, .inr (0, oX0 m_c h_g h_p v_c_pumped v_c_today)), (h_d, .inr (1, oX1 m_d v_d_day)), (m_d 3, .inl (cyI, 12, .inl v_d_seen)), (m_d 4, .inl (cyI, 6, .inl v_d_took)), (m_d 5, .inl (cyI, 6, .inl v_d_dryDays))] H := hP
        have hD : va_D A [_, _, _, _, _, _, (h_c, .inr (0, oX0 m_c h_g h_p v_c_pumped v_c_today)), (h_d, .inr (1, oX1 m_d v_d_day)), (m_d 3, .inl (cyI, 12, .inl v_d_seen)), (m_d 4, .inl (cyI, 6, .inl v_d_took)), (m_d 5, .inl (cyI, 6, .inl v_d_dryDays))] := hD
        obtain ⟨h_4, hf⟩ := ck_some hf
        obtain ⟨a_5, ea_5, hf⟩ := nm_some hf
        refine va_iast hx hb hK hP hD hS 0 0 rfl rfl (inb_in h_4) dX0_wantOf_123 (fun H locs hP hD hS => ?_)
        have hP : va_P (dC, dI) vwCl [(m_c 8, .inl (cyI, 16, .inl a_5)), (h_g, .inr (3, oX3 m_g v_g_cells v_g_passes v_g_rivers v_g_villages v_g_rains)), (m_g 16, .inl (cyI, 6, .inl v_g_lawEnd)), (m_g 17, .inl (cyI, 400, .inl v_g_code)), (h_p, .inr (4, oX4 m_p v_p_pumpCell v_p_pumpTakes v_p_pumpFrom v_p_pumpTo)), (m_p 0, .inl (cyI, 6, .inl v_p_wanting)), (h_c, .inr (0, oX0 m_c h_g h_p v_c_pumped v_c_today)), (h_d, .inr (1, oX1 m_d v_d_day)), (m_d 3, .inl (cyI, 12, .inl v_d_seen)), (m_d 4, .inl (cyI, 6, .inl v_d_took)), (m_d 5, .inl (cyI, 6, .inl v_d_dryDays))] H := by rw [ea_5]; exact hP
        have hD : va_D A [(m_c 8, .inl (cyI, 16, .inl a_5)), (h_g, .inr (3, oX3 m_g v_g_cells v_g_passes v_g_rivers v_g_villages v_g_rains)), (m_g 16, .inl (cyI, 6, .inl v_g_lawEnd)), (m_g 17, .inl (cyI, 400, .inl v_g_code)), (h_p, .inr (4, oX4 m_p v_p_pumpCell v_p_pumpTakes v_p_pumpFrom v_p_pumpTo)), (m_p 0, .inl (cyI, 6, .inl v_p_wanting)), (h_c, .inr (0, oX0 m_c h_g h_p v_c_pumped v_c_today)), (h_d, .inr (1, oX1 m_d v_d_day)), (m_d 3, .inl (cyI, 12, .inl v_d_seen)), (m_d 4, .inl (cyI, 6, .inl v_d_took)), (m_d 5, .inl (cyI, 6, .inl v_d_dryDays))] := by rw [ea_5]; exact hD
        refine lv_iinc (v := x3 + (1 : Int32)) (lv' := [(3, .int (x3 + (1 : Int32))), (0, .ref h_c), (1, .ref h_d), (2, .int x2), (4, .int x4), (5, .int x5), (6, .int x6)]) hx hb dX0_wantOf_124 hl (k := 3) rfl rfl (by decide) rfl (fun ls hl => ?_)
        refine lv_goto (tgt := 185) hx hb dX0_wantOf_127 (by decide) ?_
        refine lv_iinc (v := x5 + (1 : Int32)) (lv' := [(5, .int (x5 + (1 : Int32))), (3, .int (x3 + (1 : Int32))), (0, .ref h_c), (1, .ref h_d), (2, .int x2), (4, .int x4), (6, .int x6)]) hx hb dX0_wantOf_185 hl (k := 5) rfl rfl (by decide) rfl (fun ls hl => ?_)
        refine lv_goto (tgt := 56) hx hb dX0_wantOf_188 (by decide) ?_
        exact hk56 _ _ _ _ _ hf _ _ _ (hP.sub [6, 0, 1, 2, 3, 4, 5, 7, 8, 9, 10] (ux_pick (sg_h [(6, 1), (0, 6), (7, 4)] 11 rfl sk_z13_6 rfl))) (hD.sub [6, 0, 1, 2, 3, 4, 5, 7, 8, 9, 10] nd_z13_5 (sg_h [(6, 1), (0, 6), (7, 4)] 11 rfl sk_z13_6 rfl)) hS (lv_sub hl [2, 3, 4, 1, 5, 0] rfl)
      · have hf := (if_neg c_2).symm.trans hf
        refine lv_iload hx hb dX0_wantOf_110 (lv_at hl 6 rfl) ?_
        refine lv_goto (tgt := 123) hx hb dX0_wantOf_112 (by decide) ?_
        obtain ⟨h_6, hf⟩ := ck_some hf
        obtain ⟨a_7, ea_7, hf⟩ := nm_some hf
        refine va_iast hx hb hK hP hD hS 1 0 rfl rfl (inb_in h_6) dX0_wantOf_123 (fun H locs hP hD hS => ?_)
        have hP : va_P (dC, dI) vwCl [(h_c, .inr (0, oX0 m_c h_g h_p v_c_pumped v_c_today)), (m_c 8, .inl (cyI, 16, .inl a_7)), (h_g, .inr (3, oX3 m_g v_g_cells v_g_passes v_g_rivers v_g_villages v_g_rains)), (m_g 16, .inl (cyI, 6, .inl v_g_lawEnd)), (m_g 17, .inl (cyI, 400, .inl v_g_code)), (h_p, .inr (4, oX4 m_p v_p_pumpCell v_p_pumpTakes v_p_pumpFrom v_p_pumpTo)), (m_p 0, .inl (cyI, 6, .inl v_p_wanting)), (h_d, .inr (1, oX1 m_d v_d_day)), (m_d 3, .inl (cyI, 12, .inl v_d_seen)), (m_d 4, .inl (cyI, 6, .inl v_d_took)), (m_d 5, .inl (cyI, 6, .inl v_d_dryDays))] H := by rw [ea_7]; exact hP
        have hD : va_D A [(h_c, .inr (0, oX0 m_c h_g h_p v_c_pumped v_c_today)), (m_c 8, .inl (cyI, 16, .inl a_7)), (h_g, .inr (3, oX3 m_g v_g_cells v_g_passes v_g_rivers v_g_villages v_g_rains)), (m_g 16, .inl (cyI, 6, .inl v_g_lawEnd)), (m_g 17, .inl (cyI, 400, .inl v_g_code)), (h_p, .inr (4, oX4 m_p v_p_pumpCell v_p_pumpTakes v_p_pumpFrom v_p_pumpTo)), (m_p 0, .inl (cyI, 6, .inl v_p_wanting)), (h_d, .inr (1, oX1 m_d v_d_day)), (m_d 3, .inl (cyI, 12, .inl v_d_seen)), (m_d 4, .inl (cyI, 6, .inl v_d_took)), (m_d 5, .inl (cyI, 6, .inl v_d_dryDays))] := by rw [ea_7]; exact hD
        refine lv_iinc (v := x3 + (1 : Int32)) (lv' := [(3, .int (x3 + (1 : Int32))), (0, .ref h_c), (1, .ref h_d), (2, .int x2), (4, .int x4), (5, .int x5), (6, .int x6)]) hx hb dX0_wantOf_124 hl (k := 3) rfl rfl (by decide) rfl (fun ls hl => ?_)
        refine lv_goto (tgt := 185) hx hb dX0_wantOf_127 (by decide) ?_
        refine lv_iinc (v := x5 + (1 : Int32)) (lv' := [(5, .int (x5 + (1 : Int32))), (3, .int (x3 + (1 : Int32))), (0, .ref h_c), (1, .ref h_d), (2, .int x2), (4, .int x4), (6, .int x6)]) hx hb dX0_wantOf_185 hl (k := 5) rfl rfl (by decide) rfl (fun ls hl => ?_)
        refine lv_goto (tgt := 56) hx hb dX0_wantOf_188 (by decide) ?_
        exact hk56 _ _ _ _ _ hf _ _ _ hP hD hS (lv_sub hl [2, 3, 4, 1, 5, 0] rfl)
    · have hf := (if_neg c_1).symm.trans hf
      refine lv_iconst (v := (0 : Int32)) hx hb dX0_wantOf_97 (by decide) ?_
      exact hret _ _ _ _ (0 : Int32) v_c_stack dX0_wantOf_98 (Option.some.inj hf) hP hD hS
  have hb_56 : ∀ (n : Nat) (v_c_stack : (Nat → Int32)) (x2 : Int32) (x3 : Int32) (x4 : Int32) (x5 : Int32), f_X0_wantOf_b56 v_c_today v_g_code v_d_day v_d_seen v_d_took v_d_dryDays n v_c_stack x2 x3 x4 x5 = some out → ∀ (H : Heap) (locs : List Loc) (ls : Array Slot), va_P (dC, dI) vwCl [(h_c, .inr (0, oX0 m_c h_g h_p v_c_pumped v_c_today)), (m_c 8, .inl (cyI, 16, .inl v_c_stack)), (h_g, .inr (3, oX3 m_g v_g_cells v_g_passes v_g_rivers v_g_villages v_g_rains)), (m_g 16, .inl (cyI, 6, .inl v_g_lawEnd)), (m_g 17, .inl (cyI, 400, .inl v_g_code)), (h_p, .inr (4, oX4 m_p v_p_pumpCell v_p_pumpTakes v_p_pumpFrom v_p_pumpTo)), (m_p 0, .inl (cyI, 6, .inl v_p_wanting)), (h_d, .inr (1, oX1 m_d v_d_day)), (m_d 3, .inl (cyI, 12, .inl v_d_seen)), (m_d 4, .inl (cyI, 6, .inl v_d_took)), (m_d 5, .inl (cyI, 6, .inl v_d_dryDays))] H → va_D A [(h_c, .inr (0, oX0 m_c h_g h_p v_c_pumped v_c_today)), (m_c 8, .inl (cyI, 16, .inl v_c_stack)), (h_g, .inr (3, oX3 m_g v_g_cells v_g_passes v_g_rivers v_g_villages v_g_rains)), (m_g 16, .inl (cyI, 6, .inl v_g_lawEnd)), (m_g 17, .inl (cyI, 400, .inl v_g_code)), (h_p, .inr (4, oX4 m_p v_p_pumpCell v_p_pumpTakes v_p_pumpFrom v_p_pumpTo)), (m_p 0, .inl (cyI, 6, .inl v_p_wanting)), (h_d, .inr (1, oX1 m_d v_d_day)), (m_d 3, .inl (cyI, 12, .inl v_d_seen)), (m_d 4, .inl (cyI, 6, .inl v_d_took)), (m_d 5, .inl (cyI, 6, .inl v_d_dryDays))] → va_S A s.heap H locs → lv_has ls 7 [(0, .ref h_c), (1, .ref h_d), (2, .int x2), (3, .int x3), (4, .int x4), (5, .int x5)] → W p l e ({ frames := 1, cells := 0, slots := 0, locals := 24 } : Room) s m ([.ref h_c, .ref h_d, .int q2] : List Value).toArray below meth c H locs 0 0 Q (F0 m 56 ls []) := by
    intro  n
    induction n with
    | zero =>
      intro v_c_stack x2 x3 x4 x5 hf
      exact no_some hf
    | succ n ih =>
      intro v_c_stack x2 x3 x4 x5 hf H locs ls hP hD hS hl
      have hf : f_X0_wantOf_b56_st (f_X0_wantOf_b56 v_c_today v_g_code v_d_day v_d_seen v_d_took v_d_dryDays n) v_c_today v_g_code v_d_day v_d_seen v_d_took v_d_dryDays v_c_stack x2 x3 x4 x5 = some out := hf
      unfold f_X0_wantOf_b56_st at hf
      refine lv_iload hx hb dX0_wantOf_56 (lv_at hl 5 rfl) ?_
      refine lv_iload hx hb dX0_wantOf_58 (lv_at hl 4 rfl) ?_
      refine lv_icmp_ge (tgt := 191) hx hb dX0_wantOf_60 (by decide) (fun c_1 => ?_) (fun c_1 => ?_)
      · have hf := (if_pos c_1).symm.trans hf
        refine lv_iload_n hx hb dX0_wantOf_191 rfl (lv_at hl 3 rfl) ?_
        refine lv_iconst (v := (1 : Int32)) hx hb dX0_wantOf_192 (by decide) ?_
        refine lv_icmp_ge (tgt := 200) hx hb dX0_wantOf_193 (by decide) (fun c_2 => ?_) (fun c_2 => ?_)
        · have hf := (if_pos c_2).symm.trans hf
          refine lv_iconst (v := (0 : Int32)) hx hb dX0_wantOf_200 (by decide) ?_
          refine lv_sipush (v := (999 : Int32)) hx hb dX0_wantOf_201 (by decide) ?_
          refine lv_aload_n hx hb dX0_wantOf_204 rfl (lv_at hl 0 rfl) ?_
          refine va_get (D := (dC, dI)) (ci := 0) (v := .ref (m_c 8)) (C := RX0) (T := TX0) (N := 9) hx hb hts (g_c inlX0) hown hK hP 0 rfl rfl 8 (by decide) (hts _ (List.mem_cons_of_mem _ wm_5_12)) (fun _ h9 => h9) rfl dX0_wantOf_205 ?_
          refine lv_iload_n hx hb dX0_wantOf_208 rfl (lv_at hl 3 rfl) ?_
          refine lv_iconst (v := (1 : Int32)) hx hb dX0_wantOf_209 (by decide) ?_
          refine lv_isub hx hb dX0_wantOf_210 ?_
          obtain ⟨h_3, hf⟩ := ck_some hf
          refine va_iald hx hb hK hP 1 0 rfl rfl (inb_in h_3) dX0_wantOf_211 ?_
          refine va_mmin hx hb (hml.trans hl.1.symm) hown (hts _ (List.mem_cons_of_mem _ wm_34_21)) (hts _ (List.mem_cons_of_mem _ wm_12_6)) (hts _ (List.mem_cons_of_mem _ wm_12_7)) (hts _ (List.mem_cons_of_mem _ wm_12_8)) (Nat.le_of_ble_eq_true rfl) (Nat.le_of_ble_eq_true rfl) (Nat.le_of_ble_eq_true rfl) (Nat.le_of_ble_eq_true rfl) dX0_wantOf_212 ?_
          refine va_mmax hx hb (hml.trans hl.1.symm) hown (hts _ (List.mem_cons_of_mem _ wm_34_22)) (hts _ (List.mem_cons_of_mem _ wm_16_12)) (hts _ (List.mem_cons_of_mem _ wm_12_7)) (hts _ (List.mem_cons_of_mem _ wm_16_13)) (Nat.le_of_ble_eq_true rfl) (Nat.le_of_ble_eq_true rfl) (Nat.le_of_ble_eq_true rfl) (Nat.le_of_ble_eq_true rfl) dX0_wantOf_215 ?_
          exact hret _ _ _ _ (if (0 : Int32) < (if (v_c_stack (x3 - (1 : Int32)).toNatClampNeg) < (999 : Int32) then (v_c_stack (x3 - (1 : Int32)).toNatClampNeg) else (999 : Int32)) then (if (v_c_stack (x3 - (1 : Int32)).toNatClampNeg) < (999 : Int32) then (v_c_stack (x3 - (1 : Int32)).toNatClampNeg) else (999 : Int32)) else (0 : Int32)) v_c_stack dX0_wantOf_218 (Option.some.inj hf) hP hD hS
        · have hf := (if_neg c_2).symm.trans hf
          refine lv_iconst (v := (0 : Int32)) hx hb dX0_wantOf_196 (by decide) ?_
          refine lv_goto (tgt := 218) hx hb dX0_wantOf_197 (by decide) ?_
          exact hret _ _ _ _ (0 : Int32) v_c_stack dX0_wantOf_218 (Option.some.inj hf) hP hD hS
      · have hf := (if_neg c_1).symm.trans hf
        refine lv_aload_n hx hb dX0_wantOf_63 rfl (lv_at hl 0 rfl) ?_
        refine va_get (D := (dC, dI)) (ci := 0) (v := .ref h_g) (C := RX0) (T := TX0) (N := 9) hx hb hts (g_c inlX0) hown hK hP 0 rfl rfl 0 (by decide) (hts _ (List.mem_cons_of_mem _ wm_5_13)) (fun _ h9 => h9) rfl dX0_wantOf_64 ?_
        refine va_get (D := (dC, dI)) (ci := 3) (v := .ref (m_g 17)) (C := RX3) (T := TX3) (N := 20) hx hb hts (g_c inlX3) hown hK hP 2 rfl rfl 17 (by decide) (hts _ (List.mem_cons_of_mem _ wm_34_20)) (fun _ h9 => h9) rfl dX0_wantOf_67 ?_
        refine lv_iload hx hb dX0_wantOf_70 (lv_at hl 5 rfl) ?_
        obtain ⟨h_4, hf⟩ := ck_some hf
        refine va_iald hx hb hK hP 4 0 rfl rfl (inb_in h_4) dX0_wantOf_72 ?_
        refine lv_istore (lv' := [(6, .int (v_g_code x5.toNatClampNeg)), (0, .ref h_c), (1, .ref h_d), (2, .int x2), (3, .int x3), (4, .int x4), (5, .int x5)]) hx hb dX0_wantOf_73 hl (by decide) rfl (fun ls hl => ?_)
        refine lv_iload hx hb dX0_wantOf_75 (lv_at hl 0 rfl) ?_
        refine lv_iconst (v := (-1 : Int32)) hx hb dX0_wantOf_77 (by decide) ?_
        refine lv_icmp_gt (tgt := 88) hx hb dX0_wantOf_78 (by decide) (fun c_5 => ?_) (fun c_5 => ?_)
        · have hf := (if_pos c_5).symm.trans hf
          exact hb_88 _ ih _ _ _ _ _ _ hf _ _ _ hP hD hS (lv_sub hl [1, 2, 3, 4, 5, 6, 0] rfl)
        · have hf := (if_neg c_5).symm.trans hf
          refine lv_iload hx hb dX0_wantOf_81 (lv_at hl 0 rfl) ?_
          refine lv_bipush (v := (-4 : Int32)) hx hb dX0_wantOf_83 (by decide) ?_
          refine lv_icmp_ge (tgt := 130) hx hb dX0_wantOf_85 (by decide) (fun c_6 => ?_) (fun c_6 => ?_)
          · have hf := (if_pos c_6).symm.trans hf
            refine lv_iload_n hx hb dX0_wantOf_130 rfl (lv_at hl 4 rfl) ?_
            refine lv_iconst (v := (2 : Int32)) hx hb dX0_wantOf_131 (by decide) ?_
            refine lv_icmp_lt (tgt := 153) hx hb dX0_wantOf_132 (by decide) (fun c_7 => ?_) (fun c_7 => ?_)
            · have hf := (if_pos c_7).symm.trans hf
              refine lv_iconst (v := (0 : Int32)) hx hb dX0_wantOf_153 (by decide) ?_
              exact hret _ _ _ _ (0 : Int32) v_c_stack dX0_wantOf_154 (Option.some.inj hf) hP hD hS
            · have hf := (if_neg c_7).symm.trans hf
              refine lv_iload hx hb dX0_wantOf_135 (lv_at hl 0 rfl) ?_
              refine lv_bipush (v := (-4 : Int32)) hx hb dX0_wantOf_137 (by decide) ?_
              refine lv_icmp_ne (tgt := 155) hx hb dX0_wantOf_139 (by decide) (fun c_8 => ?_) (fun c_8 => ?_)
              · have hf := (if_neg c_8).symm.trans hf
                exact hb_155 _ ih _ _ _ _ _ _ hf _ _ _ hP hD hS (lv_sub hl [1, 2, 3, 4, 5, 6, 0] rfl)
              · have hf := (if_pos c_8).symm.trans hf
                refine lv_aload_n hx hb dX0_wantOf_142 rfl (lv_at hl 1 rfl) ?_
                refine va_get (D := (dC, dI)) (ci := 0) (v := .ref (m_c 8)) (C := RX0) (T := TX0) (N := 9) hx hb hts (g_c inlX0) hown hK hP 0 rfl rfl 8 (by decide) (hts _ (List.mem_cons_of_mem _ wm_5_12)) (fun _ h9 => h9) rfl dX0_wantOf_143 ?_
                refine lv_iload_n hx hb dX0_wantOf_146 rfl (lv_at hl 4 rfl) ?_
                refine lv_iconst (v := (1 : Int32)) hx hb dX0_wantOf_147 (by decide) ?_
                refine lv_isub hx hb dX0_wantOf_148 ?_
                obtain ⟨h_9, hf⟩ := ck_some hf
                refine va_iald hx hb hK hP 1 0 rfl rfl (inb_in h_9) dX0_wantOf_149 ?_
                refine lv_if_ne (tgt := 155) hx hb dX0_wantOf_150 (by decide) (fun c_10 => ?_) (fun c_10 => ?_)
                · have hf := (if_neg c_10).symm.trans hf
                  exact hb_155 _ ih _ _ _ _ _ _ hf _ _ _ hP hD hS (lv_sub hl [1, 2, 3, 4, 5, 6, 0] rfl)
                · have hf := (if_pos c_10).symm.trans hf
                  refine lv_iconst (v := (0 : Int32)) hx hb dX0_wantOf_153 (by decide) ?_
                  exact hret _ _ _ _ (0 : Int32) v_c_stack dX0_wantOf_154 (Option.some.inj hf) hP hD hS
          · have hf := (if_neg c_6).symm.trans hf
            exact hb_88 _ ih _ _ _ _ _ _ hf _ _ _ hP hD hS (lv_sub hl [1, 2, 3, 4, 5, 6, 0] rfl)
  unfold f_X0_wantOf at hf
  refine lv_aload_n hx hb dX0_wantOf_0 rfl (lv_at hl 0 rfl) ?_
  refine va_get (D := (dC, dI)) (ci := 0) (v := .ref h_p) (C := RX0) (T := TX0) (N := 9) hx hb hts (g_c inlX0) hown hK hP 0 rfl rfl 1 (by decide) (hts _ (List.mem_cons_of_mem _ wm_5_14)) (fun _ h9 => h9) rfl dX0_wantOf_1 ?_
  refine va_get (D := (dC, dI)) (ci := 4) (v := .ref (m_p 0)) (C := RX4) (T := TX4) (N := 8) hx hb hts (g_c inlX4) hown hK hP 5 rfl rfl 0 (by decide) (hts _ (List.mem_cons_of_mem _ wm_34_18)) (fun _ h9 => h9) rfl dX0_wantOf_4 ?_
  refine lv_iload_n hx hb dX0_wantOf_7 rfl (lv_at hl 2 rfl) ?_
  obtain ⟨h_1, hf⟩ := ck_some hf
  refine va_iald hx hb hK hP 6 0 rfl rfl (inb_in h_1) dX0_wantOf_8 ?_
  refine lv_if_lt (tgt := 22) hx hb dX0_wantOf_9 (by decide) (fun c_2 => ?_) (fun c_2 => ?_)
  · have hf := (if_pos c_2).symm.trans hf
    refine lv_iconst (v := (0 : Int32)) hx hb dX0_wantOf_22 (by decide) ?_
    refine lv_istore_n (lv' := [(3, .int (0 : Int32)), (0, .ref h_c), (1, .ref h_d), (2, .int q2)]) hx hb dX0_wantOf_23 rfl hl (by decide) rfl (fun ls hl => ?_)
    refine lv_aload_n hx hb dX0_wantOf_24 rfl (lv_at hl 1 rfl) ?_
    refine va_get (D := (dC, dI)) (ci := 0) (v := .ref h_g) (C := RX0) (T := TX0) (N := 9) hx hb hts (g_c inlX0) hown hK hP 0 rfl rfl 0 (by decide) (hts _ (List.mem_cons_of_mem _ wm_5_13)) (fun _ h9 => h9) rfl dX0_wantOf_25 ?_
    refine va_get (D := (dC, dI)) (ci := 3) (v := .ref (m_g 16)) (C := RX3) (T := TX3) (N := 20) hx hb hts (g_c inlX3) hown hK hP 2 rfl rfl 16 (by decide) (hts _ (List.mem_cons_of_mem _ wm_34_19)) (fun _ h9 => h9) rfl dX0_wantOf_28 ?_
    refine lv_iload_n hx hb dX0_wantOf_31 rfl (lv_at hl 3 rfl) ?_
    obtain ⟨h_3, hf⟩ := ck_some hf
    refine va_iald hx hb hK hP 3 0 rfl rfl (inb_in h_3) dX0_wantOf_32 ?_
    refine lv_aload_n hx hb dX0_wantOf_33 rfl (lv_at hl 1 rfl) ?_
    refine va_get (D := (dC, dI)) (ci := 0) (v := .ref h_g) (C := RX0) (T := TX0) (N := 9) hx hb hts (g_c inlX0) hown hK hP 0 rfl rfl 0 (by decide) (hts _ (List.mem_cons_of_mem _ wm_5_13)) (fun _ h9 => h9) rfl dX0_wantOf_34 ?_
    refine va_get (D := (dC, dI)) (ci := 3) (v := .ref (m_g 17)) (C := RX3) (T := TX3) (N := 20) hx hb hts (g_c inlX3) hown hK hP 2 rfl rfl 17 (by decide) (hts _ (List.mem_cons_of_mem _ wm_34_20)) (fun _ h9 => h9) rfl dX0_wantOf_37 ?_
    refine va_alen (v := (400 : Int32)) hx hb hK hP 4 0 rfl rfl rfl dX0_wantOf_40 ?_
    refine va_mmin hx hb (hml.trans hl.1.symm) hown (hts _ (List.mem_cons_of_mem _ wm_34_21)) (hts _ (List.mem_cons_of_mem _ wm_12_6)) (hts _ (List.mem_cons_of_mem _ wm_12_7)) (hts _ (List.mem_cons_of_mem _ wm_12_8)) (Nat.le_of_ble_eq_true rfl) (Nat.le_of_ble_eq_true rfl) (Nat.le_of_ble_eq_true rfl) (Nat.le_of_ble_eq_true rfl) dX0_wantOf_41 ?_
    obtain ⟨e_4, ee_4, hf⟩ := nm_some hf
    rw [← ee_4]
    refine lv_istore (lv' := [(4, .int e_4), (3, .int (0 : Int32)), (0, .ref h_c), (1, .ref h_d), (2, .int q2)]) hx hb dX0_wantOf_44 hl (by decide) rfl (fun ls hl => ?_)
    refine lv_aload_n hx hb dX0_wantOf_46 rfl (lv_at hl 2 rfl) ?_
    refine va_get (D := (dC, dI)) (ci := 0) (v := .ref h_g) (C := RX0) (T := TX0) (N := 9) hx hb hts (g_c inlX0) hown hK hP 0 rfl rfl 0 (by decide) (hts _ (List.mem_cons_of_mem _ wm_5_13)) (fun _ h9 => h9) rfl dX0_wantOf_47 ?_
    refine lv_iload_n hx hb dX0_wantOf_50 rfl (lv_at hl 4 rfl) ?_
    obtain ⟨o_5, ho_5, hf⟩ := bd_some hf
    refine ux_Vi0 (n := 1) (As := [.int q2]) (rest := []) (wc := [(h_g, .inr (3, oX3 m_g v_g_cells v_g_passes v_g_rivers v_g_villages v_g_rains)), (m_g 16, .inl (cyI, 6, .inl v_g_lawEnd))]) (wr := [_, _, _, _, _, _, _, _, _]) ⟨hx, hb, hml, hown, hts⟩ hK hP hD hS hA hE [2, 3] [0, 1, 4, 5, 6, 7, 8, 9, 10] (sg_h [(2, 2)] 11 rfl sk_z13_7 rfl) (sg_h [(0, 2), (4, 7)] 11 rfl sk_z13_8 rfl) nd_z13_6 nd_z13_7 nj_z13_3 (c_X3_lawBegin l dC dI cyI cyJ cyZ cyB cyO tO vF adK adV h_g m_g v_g_cells v_g_passes v_g_rivers v_g_villages v_g_rains v_g_lawEnd q2 _ _ ho_5) 3 0 rfl rfl wm_34_23 wm_35_0 wm_35_1 wm_1_22 wm_35_2 ⟨rfl, rfl⟩ (by decide +kernel) rfl ⟨Nat.le_of_ble_eq_true rfl, Nat.le_of_ble_eq_true rfl⟩ hl.1 rfl (Nat.le_of_ble_eq_true rfl) dX0_wantOf_51 ⟨Nat.le_of_ble_eq_true rfl, Nat.le_of_ble_eq_true rfl⟩ (fun H locs hP hD hS => ?_)
    have hP : va_P (dC, dI) vwCl [_, _, _, _, _, _, _, _, _, (h_g, .inr (3, oX3 m_g v_g_cells v_g_passes v_g_rivers v_g_villages v_g_rains)), (m_g 16, .inl (cyI, 6, .inl v_g_lawEnd))] H := hP
    have hD : va_D A [_, _, _, _, _, _, _, _, _, (h_g, .inr (3, oX3 m_g v_g_cells v_g_passes v_g_rivers v_g_villages v_g_rains)), (m_g 16, .inl (cyI, 6, .inl v_g_lawEnd))] := hD
    refine lv_istore (lv' := [(5, .int o_5), (4, .int e_4), (3, .int (0 : Int32)), (0, .ref h_c), (1, .ref h_d), (2, .int q2)]) hx hb dX0_wantOf_54 hl (by decide) rfl (fun ls hl => ?_)
    exact hb_56 _ _ _ _ _ _ hf _ _ _ (hP.sub [0, 1, 9, 10, 2, 3, 4, 5, 6, 7, 8] (ux_pick (sg_h [(0, 2), (9, 2), (2, 7)] 11 rfl sk_z13_9 rfl))) (hD.sub [0, 1, 9, 10, 2, 3, 4, 5, 6, 7, 8] nd_z13_8 (sg_h [(0, 2), (9, 2), (2, 7)] 11 rfl sk_z13_9 rfl)) hS (lv_sub hl [3, 4, 5, 2, 1, 0] rfl)
  · have hf := (if_neg c_2).symm.trans hf
    refine lv_aload_n hx hb dX0_wantOf_12 rfl (lv_at hl 0 rfl) ?_
    refine va_get (D := (dC, dI)) (ci := 0) (v := .ref h_p) (C := RX0) (T := TX0) (N := 9) hx hb hts (g_c inlX0) hown hK hP 0 rfl rfl 1 (by decide) (hts _ (List.mem_cons_of_mem _ wm_5_14)) (fun _ h9 => h9) rfl dX0_wantOf_13 ?_
    refine va_get (D := (dC, dI)) (ci := 4) (v := .ref (m_p 0)) (C := RX4) (T := TX4) (N := 8) hx hb hts (g_c inlX4) hown hK hP 5 rfl rfl 0 (by decide) (hts _ (List.mem_cons_of_mem _ wm_34_18)) (fun _ h9 => h9) rfl dX0_wantOf_16 ?_
    refine lv_iload_n hx hb dX0_wantOf_19 rfl (lv_at hl 2 rfl) ?_
    obtain ⟨h_6, hf⟩ := ck_some hf
    refine va_iald hx hb hK hP 6 0 rfl rfl (inb_in h_6) dX0_wantOf_20 ?_
    exact hret _ _ _ _ (v_p_wanting q2.toNatClampNeg) v_c_stack dX0_wantOf_21 (Option.some.inj hf) hP hD hS
def f_X0_takeTurns_b113 (k2 : (Nat → Int32) → (Nat → Int32) → (Nat → Int32) → (Nat → Int64) → (Nat → Int32) → (Nat → Int32) → (Nat → Int32) → (Nat → Int32) → Int32 → Option ((Nat → Int32) × (Nat → Int32) × (Nat → Int32) × (Nat → Int64) × (Nat → Int32) × (Nat → Int32) × (Nat → Int32) × (Nat → Int32))) (v_c_today : Int32) (v_g_villages : Int32) (v_g_villageCell : (Nat → Int32)) (v_g_need : (Nat → Int32)) (v_g_lawEnd : (Nat → Int32)) (v_g_code : (Nat → Int32)) (v_p_wanting : (Nat → Int32)) (v_d_day : Int32) (v_d_seen : (Nat → Int32)) (v_c_lacked : (Nat → Int32)) (v_c_stack : (Nat → Int32)) (v_d_water : (Nat → Int32)) (v_d_salt : (Nat → Int64)) (v_d_took : (Nat → Int32)) (v_d_dryDays : (Nat → Int32)) (v_d_firstDry : (Nat → Int32)) (v_d_total : (Nat → Int32)) (x2 : Int32) (x3 : Int32) (x4 : Int32) (t1 : Int32) (t2 : Int32) : Option ((Nat → Int32) × (Nat → Int32) × (Nat → Int32) × (Nat → Int64) × (Nat → Int32) × (Nat → Int32) × (Nat → Int32) × (Nat → Int32)) := ck (inb t1 6) (nm (upd v_d_took t1.toNatClampNeg t2) (fun a_2 => ck (inb x2 6) (ck (inb x2 6) (ck (inb x2 6) (nm (upd v_d_total x2.toNatClampNeg ((v_d_total x2.toNatClampNeg) + (a_2 x2.toNatClampNeg))) (fun a_6 => ck (inb x2 6) (bd (f_X1_draw v_d_water v_d_salt x3 (a_2 x2.toNatClampNeg)) (fun o_8 => un2 o_8 (fun o_8_0 o_8_1 => if x4 = (0 : Int32) then (k2 v_c_lacked v_c_stack o_8_0 o_8_1 a_2 v_d_dryDays v_d_firstDry a_6 (x2 + (1 : Int32))) else (ck (inb x2 6) (if (v_c_lacked x2.toNatClampNeg) = (0 : Int32) then (k2 v_c_lacked v_c_stack o_8_0 o_8_1 a_2 v_d_dryDays v_d_firstDry a_6 (x2 + (1 : Int32))) else (bd (f_X1_countDry v_d_day v_d_dryDays v_d_firstDry x2) (fun o_12 => un2 o_12 (fun o_12_0 o_12_1 => k2 v_c_lacked v_c_stack o_8_0 o_8_1 a_2 o_12_0 o_12_1 a_6 (x2 + (1 : Int32))))))))))))))))
def f_X0_takeTurns_b96 (k2 : (Nat → Int32) → (Nat → Int32) → (Nat → Int32) → (Nat → Int64) → (Nat → Int32) → (Nat → Int32) → (Nat → Int32) → (Nat → Int32) → Int32 → Option ((Nat → Int32) × (Nat → Int32) × (Nat → Int32) × (Nat → Int64) × (Nat → Int32) × (Nat → Int32) × (Nat → Int32) × (Nat → Int32))) (v_c_today : Int32) (v_g_villages : Int32) (v_g_villageCell : (Nat → Int32)) (v_g_need : (Nat → Int32)) (v_g_lawEnd : (Nat → Int32)) (v_g_code : (Nat → Int32)) (v_p_wanting : (Nat → Int32)) (v_d_day : Int32) (v_d_seen : (Nat → Int32)) (v_c_lacked : (Nat → Int32)) (v_c_stack : (Nat → Int32)) (v_d_water : (Nat → Int32)) (v_d_salt : (Nat → Int64)) (v_d_took : (Nat → Int32)) (v_d_dryDays : (Nat → Int32)) (v_d_firstDry : (Nat → Int32)) (v_d_total : (Nat → Int32)) (x2 : Int32) (x3 : Int32) (x4 : Int32) (x5 : Int32) (t1 : Int32) (t2 : Int32) : Option ((Nat → Int32) × (Nat → Int32) × (Nat → Int32) × (Nat → Int64) × (Nat → Int32) × (Nat → Int32) × (Nat → Int32) × (Nat → Int32)) := ck (inb t1 6) (nm (upd v_c_lacked t1.toNatClampNeg (vp_nar .boolean t2)) (fun a_2 => if x4 = (0 : Int32) then (f_X0_takeTurns_b113 k2 v_c_today v_g_villages v_g_villageCell v_g_need v_g_lawEnd v_g_code v_p_wanting v_d_day v_d_seen a_2 v_c_stack v_d_water v_d_salt v_d_took v_d_dryDays v_d_firstDry v_d_total x2 x3 x4 x2 (0 : Int32)) else (f_X0_takeTurns_b113 k2 v_c_today v_g_villages v_g_villageCell v_g_need v_g_lawEnd v_g_code v_p_wanting v_d_day v_d_seen a_2 v_c_stack v_d_water v_d_salt v_d_took v_d_dryDays v_d_firstDry v_d_total x2 x3 x4 x2 x5)))
def f_X0_takeTurns_b61 (k2 : (Nat → Int32) → (Nat → Int32) → (Nat → Int32) → (Nat → Int64) → (Nat → Int32) → (Nat → Int32) → (Nat → Int32) → (Nat → Int32) → Int32 → Option ((Nat → Int32) × (Nat → Int32) × (Nat → Int32) × (Nat → Int64) × (Nat → Int32) × (Nat → Int32) × (Nat → Int32) × (Nat → Int32))) (v_c_today : Int32) (v_g_villages : Int32) (v_g_villageCell : (Nat → Int32)) (v_g_need : (Nat → Int32)) (v_g_lawEnd : (Nat → Int32)) (v_g_code : (Nat → Int32)) (v_p_wanting : (Nat → Int32)) (v_d_day : Int32) (v_d_seen : (Nat → Int32)) (v_c_lacked : (Nat → Int32)) (v_c_stack : (Nat → Int32)) (v_d_water : (Nat → Int32)) (v_d_salt : (Nat → Int64)) (v_d_took : (Nat → Int32)) (v_d_dryDays : (Nat → Int32)) (v_d_firstDry : (Nat → Int32)) (v_d_total : (Nat → Int32)) (x2 : Int32) (x3 : Int32) (x4 : Int32) (t0 : Int32) : Option ((Nat → Int32) × (Nat → Int32) × (Nat → Int32) × (Nat → Int64) × (Nat → Int32) × (Nat → Int32) × (Nat → Int32) × (Nat → Int32)) := ck (inb x3 12) (nm ((if (v_d_water x3.toNatClampNeg) < t0 then (v_d_water x3.toNatClampNeg) else t0)) (fun e_2 => ck (inb x2 6) (if (v_g_need x2.toNatClampNeg) ≤ e_2 then (f_X0_takeTurns_b96 k2 v_c_today v_g_villages v_g_villageCell v_g_need v_g_lawEnd v_g_code v_p_wanting v_d_day v_d_seen v_c_lacked v_c_stack v_d_water v_d_salt v_d_took v_d_dryDays v_d_firstDry v_d_total x2 x3 x4 e_2 x2 (0 : Int32)) else (f_X0_takeTurns_b96 k2 v_c_today v_g_villages v_g_villageCell v_g_need v_g_lawEnd v_g_code v_p_wanting v_d_day v_d_seen v_c_lacked v_c_stack v_d_water v_d_salt v_d_took v_d_dryDays v_d_firstDry v_d_total x2 x3 x4 e_2 x2 (1 : Int32)))))
def f_X0_takeTurns_b42 (k2 : (Nat → Int32) → (Nat → Int32) → (Nat → Int32) → (Nat → Int64) → (Nat → Int32) → (Nat → Int32) → (Nat → Int32) → (Nat → Int32) → Int32 → Option ((Nat → Int32) × (Nat → Int32) × (Nat → Int32) × (Nat → Int64) × (Nat → Int32) × (Nat → Int32) × (Nat → Int32) × (Nat → Int32))) (v_c_today : Int32) (v_g_villages : Int32) (v_g_villageCell : (Nat → Int32)) (v_g_need : (Nat → Int32)) (v_g_lawEnd : (Nat → Int32)) (v_g_code : (Nat → Int32)) (v_p_wanting : (Nat → Int32)) (v_d_day : Int32) (v_d_seen : (Nat → Int32)) (v_c_lacked : (Nat → Int32)) (v_c_stack : (Nat → Int32)) (v_d_water : (Nat → Int32)) (v_d_salt : (Nat → Int64)) (v_d_took : (Nat → Int32)) (v_d_dryDays : (Nat → Int32)) (v_d_firstDry : (Nat → Int32)) (v_d_total : (Nat → Int32)) (x2 : Int32) (x3 : Int32) (t0 : Int32) : Option ((Nat → Int32) × (Nat → Int32) × (Nat → Int32) × (Nat → Int64) × (Nat → Int32) × (Nat → Int32) × (Nat → Int32) × (Nat → Int32)) := if t0 = (0 : Int32) then (f_X0_takeTurns_b61 k2 v_c_today v_g_villages v_g_villageCell v_g_need v_g_lawEnd v_g_code v_p_wanting v_d_day v_d_seen v_c_lacked v_c_stack v_d_water v_d_salt v_d_took v_d_dryDays v_d_firstDry v_d_total x2 x3 t0 (999 : Int32)) else (bd (f_X0_wantOf v_c_today v_g_lawEnd v_g_code v_p_wanting v_d_day v_d_seen v_d_took v_d_dryDays v_c_stack x2) (fun o_2 => un2 o_2 (fun o_2_0 o_2_1 => f_X0_takeTurns_b61 k2 v_c_today v_g_villages v_g_villageCell v_g_need v_g_lawEnd v_g_code v_p_wanting v_d_day v_d_seen v_c_lacked o_2_1 v_d_water v_d_salt v_d_took v_d_dryDays v_d_firstDry v_d_total x2 x3 t0 o_2_0)))
def f_X0_takeTurns_b2_st (kr : (Nat → Int32) → (Nat → Int32) → (Nat → Int32) → (Nat → Int64) → (Nat → Int32) → (Nat → Int32) → (Nat → Int32) → (Nat → Int32) → Int32 → Option ((Nat → Int32) × (Nat → Int32) × (Nat → Int32) × (Nat → Int64) × (Nat → Int32) × (Nat → Int32) × (Nat → Int32) × (Nat → Int32)))  (v_c_today : Int32) (v_g_villages : Int32) (v_g_villageCell : (Nat → Int32)) (v_g_need : (Nat → Int32)) (v_g_lawEnd : (Nat → Int32)) (v_g_code : (Nat → Int32)) (v_p_wanting : (Nat → Int32)) (v_d_day : Int32) (v_d_seen : (Nat → Int32)) (v_c_lacked : (Nat → Int32)) (v_c_stack : (Nat → Int32)) (v_d_water : (Nat → Int32)) (v_d_salt : (Nat → Int64)) (v_d_took : (Nat → Int32)) (v_d_dryDays : (Nat → Int32)) (v_d_firstDry : (Nat → Int32)) (v_d_total : (Nat → Int32)) (x2 : Int32) : Option ((Nat → Int32) × (Nat → Int32) × (Nat → Int32) × (Nat → Int64) × (Nat → Int32) × (Nat → Int32) × (Nat → Int32) × (Nat → Int32)) := if v_g_villages ≤ x2 then (some (v_c_lacked, v_c_stack, v_d_water, v_d_salt, v_d_took, v_d_dryDays, v_d_firstDry, v_d_total)) else (ck (inb x2 6) (ck (inb x2 6) (if (v_p_wanting x2.toNatClampNeg) = (-2 : Int32) then (f_X0_takeTurns_b42 kr v_c_today v_g_villages v_g_villageCell v_g_need v_g_lawEnd v_g_code v_p_wanting v_d_day v_d_seen v_c_lacked v_c_stack v_d_water v_d_salt v_d_took v_d_dryDays v_d_firstDry v_d_total x2 (v_g_villageCell x2.toNatClampNeg) (0 : Int32)) else (f_X0_takeTurns_b42 kr v_c_today v_g_villages v_g_villageCell v_g_need v_g_lawEnd v_g_code v_p_wanting v_d_day v_d_seen v_c_lacked v_c_stack v_d_water v_d_salt v_d_took v_d_dryDays v_d_firstDry v_d_total x2 (v_g_villageCell x2.toNatClampNeg) (1 : Int32)))))
def f_X0_takeTurns_b2  (v_c_today : Int32) (v_g_villages : Int32) (v_g_villageCell : (Nat → Int32)) (v_g_need : (Nat → Int32)) (v_g_lawEnd : (Nat → Int32)) (v_g_code : (Nat → Int32)) (v_p_wanting : (Nat → Int32)) (v_d_day : Int32) (v_d_seen : (Nat → Int32)) : Nat → (Nat → Int32) → (Nat → Int32) → (Nat → Int32) → (Nat → Int64) → (Nat → Int32) → (Nat → Int32) → (Nat → Int32) → (Nat → Int32) → Int32 → Option ((Nat → Int32) × (Nat → Int32) × (Nat → Int32) × (Nat → Int64) × (Nat → Int32) × (Nat → Int32) × (Nat → Int32) × (Nat → Int32))
  | 0 => fun _ _ _ _ _ _ _ _ _ => none
  | n + 1 => f_X0_takeTurns_b2_st (f_X0_takeTurns_b2 v_c_today v_g_villages v_g_villageCell v_g_need v_g_lawEnd v_g_code v_p_wanting v_d_day v_d_seen n) v_c_today v_g_villages v_g_villageCell v_g_need v_g_lawEnd v_g_code v_p_wanting v_d_day v_d_seen
def f_X0_takeTurns (v_c_today : Int32) (v_g_villages : Int32) (v_g_villageCell : (Nat → Int32)) (v_g_need : (Nat → Int32)) (v_g_lawEnd : (Nat → Int32)) (v_g_code : (Nat → Int32)) (v_p_wanting : (Nat → Int32)) (v_d_day : Int32) (v_d_seen : (Nat → Int32)) (v_c_lacked : (Nat → Int32)) (v_c_stack : (Nat → Int32)) (v_d_water : (Nat → Int32)) (v_d_salt : (Nat → Int64)) (v_d_took : (Nat → Int32)) (v_d_dryDays : (Nat → Int32)) (v_d_firstDry : (Nat → Int32)) (v_d_total : (Nat → Int32)) : Option ((Nat → Int32) × (Nat → Int32) × (Nat → Int32) × (Nat → Int64) × (Nat → Int32) × (Nat → Int32) × (Nat → Int32) × (Nat → Int32)) := f_X0_takeTurns_b2 v_c_today v_g_villages v_g_villageCell v_g_need v_g_lawEnd v_g_code v_p_wanting v_d_day v_d_seen fuel v_c_lacked v_c_stack v_d_water v_d_salt v_d_took v_d_dryDays v_d_firstDry v_d_total (0 : Int32)
set_option maxRecDepth 100000 in
set_option maxHeartbeats 8000000 in
theorem c_X0_takeTurns (l : Launch) (dC : Nat → ClassId) (dI : Nat → Nat → Nat) (cyI cyJ cyZ cyB cyO : ClassId) (tO : Nat) (vF : Value) (adK adV : Nat → Nat) (h_c : Nat) (m_c : Nat → Nat) (h_g : Nat) (m_g : Nat → Nat) (h_p : Nat) (m_p : Nat → Nat) (h_d : Nat) (m_d : Nat → Nat) (v_c_pumped : Int32) (v_c_today : Int32) (v_c_lacked : (Nat → Int32)) (v_c_stack : (Nat → Int32)) (v_g_cells : Int32) (v_g_passes : Int32) (v_g_rivers : Int32) (v_g_villages : Int32) (v_g_rains : Int32) (v_g_villageCell : (Nat → Int32)) (v_g_need : (Nat → Int32)) (v_g_lawEnd : (Nat → Int32)) (v_g_code : (Nat → Int32)) (v_p_pumpCell : Int32) (v_p_pumpTakes : Int32) (v_p_pumpFrom : Int32) (v_p_pumpTo : Int32) (v_p_wanting : (Nat → Int32)) (v_d_day : Int32) (v_d_water : (Nat → Int32)) (v_d_salt : (Nat → Int64)) (v_d_seen : (Nat → Int32)) (v_d_took : (Nat → Int32)) (v_d_dryDays : (Nat → Int32)) (v_d_firstDry : (Nat → Int32)) (v_d_total : (Nat → Int32))  (sz : Nat) (out : (Nat → Int32) × (Nat → Int32) × (Nat → Int32) × (Nat → Int64) × (Nat → Int32) × (Nat → Int32) × (Nat → Int32) × (Nat → Int32)) (hf : f_X0_takeTurns v_c_today v_g_villages v_g_villageCell v_g_need v_g_lawEnd v_g_code v_p_wanting v_d_day v_d_seen v_c_lacked v_c_stack v_d_water v_d_salt v_d_took v_d_dryDays v_d_firstDry v_d_total = some out) : Met l yX0_takeTurns (Cond.code yX0_takeTurns cX0_takeTurns 6 none :: wsL_law) ({ frames := 2, cells := 0, slots := 0, locals := 50 } : Room) (va_Pc [.ref h_c, .ref h_d] (ux_pre (dC, dI) vwCl (tyG cyI cyJ cyZ cyB cyO) [(h_c, .inr (0, oX0 m_c h_g h_p v_c_pumped v_c_today)), (m_c 2, .inl (cyZ, 6, .inl v_c_lacked)), (m_c 8, .inl (cyI, 16, .inl v_c_stack)), (h_g, .inr (3, oX3 m_g v_g_cells v_g_passes v_g_rivers v_g_villages v_g_rains)), (m_g 14, .inl (cyI, 6, .inl v_g_villageCell)), (m_g 15, .inl (cyI, 6, .inl v_g_need)), (m_g 16, .inl (cyI, 6, .inl v_g_lawEnd)), (m_g 17, .inl (cyI, 400, .inl v_g_code)), (h_p, .inr (4, oX4 m_p v_p_pumpCell v_p_pumpTakes v_p_pumpFrom v_p_pumpTo)), (m_p 0, .inl (cyI, 6, .inl v_p_wanting)), (h_d, .inr (1, oX1 m_d v_d_day)), (m_d 1, .inl (cyI, 12, .inl v_d_water)), (m_d 2, .inl (cyJ, 12, .inr (.inl v_d_salt))), (m_d 3, .inl (cyI, 12, .inl v_d_seen)), (m_d 4, .inl (cyI, 6, .inl v_d_took)), (m_d 5, .inl (cyI, 6, .inl v_d_dryDays)), (m_d 6, .inl (cyI, 6, .inl v_d_firstDry)), (m_d 7, .inl (cyI, 6, .inl v_d_total))] sz (xE tO vF adK adV))) (va_Qv (fun u : (Nat → Int32) × (Nat → Int32) × (Nat → Int32) × (Nat → Int64) × (Nat → Int32) × (Nat → Int32) × (Nat → Int32) × (Nat → Int32) => u = out) (ux_at (dC, dI) vwCl (tyG cyI cyJ cyZ cyB cyO) [(h_c, .inr (0, oX0 m_c h_g h_p v_c_pumped v_c_today)), (m_c 2, .inl (cyZ, 6, .inl v_c_lacked)), (m_c 8, .inl (cyI, 16, .inl v_c_stack)), (h_g, .inr (3, oX3 m_g v_g_cells v_g_passes v_g_rivers v_g_villages v_g_rains)), (m_g 14, .inl (cyI, 6, .inl v_g_villageCell)), (m_g 15, .inl (cyI, 6, .inl v_g_need)), (m_g 16, .inl (cyI, 6, .inl v_g_lawEnd)), (m_g 17, .inl (cyI, 400, .inl v_g_code)), (h_p, .inr (4, oX4 m_p v_p_pumpCell v_p_pumpTakes v_p_pumpFrom v_p_pumpTo)), (m_p 0, .inl (cyI, 6, .inl v_p_wanting)), (h_d, .inr (1, oX1 m_d v_d_day)), (m_d 1, .inl (cyI, 12, .inl v_d_water)), (m_d 2, .inl (cyJ, 12, .inr (.inl v_d_salt))), (m_d 3, .inl (cyI, 12, .inl v_d_seen)), (m_d 4, .inl (cyI, 6, .inl v_d_took)), (m_d 5, .inl (cyI, 6, .inl v_d_dryDays)), (m_d 6, .inl (cyI, 6, .inl v_d_firstDry)), (m_d 7, .inl (cyI, 6, .inl v_d_total))] sz (fun u : (Nat → Int32) × (Nat → Int32) × (Nat → Int32) × (Nat → Int64) × (Nat → Int32) × (Nat → Int32) × (Nat → Int32) × (Nat → Int32) => [(h_c, .inr (0, oX0 m_c h_g h_p v_c_pumped v_c_today)), (m_c 2, .inl (cyZ, 6, .inl u.1)), (m_c 8, .inl (cyI, 16, .inl u.2.1)), (h_g, .inr (3, oX3 m_g v_g_cells v_g_passes v_g_rivers v_g_villages v_g_rains)), (m_g 14, .inl (cyI, 6, .inl v_g_villageCell)), (m_g 15, .inl (cyI, 6, .inl v_g_need)), (m_g 16, .inl (cyI, 6, .inl v_g_lawEnd)), (m_g 17, .inl (cyI, 400, .inl v_g_code)), (h_p, .inr (4, oX4 m_p v_p_pumpCell v_p_pumpTakes v_p_pumpFrom v_p_pumpTo)), (m_p 0, .inl (cyI, 6, .inl v_p_wanting)), (h_d, .inr (1, oX1 m_d v_d_day)), (m_d 1, .inl (cyI, 12, .inl u.2.2.1)), (m_d 2, .inl (cyJ, 12, .inr (.inl u.2.2.2.1))), (m_d 3, .inl (cyI, 12, .inl v_d_seen)), (m_d 4, .inl (cyI, 6, .inl u.2.2.2.2.1)), (m_d 5, .inl (cyI, 6, .inl u.2.2.2.2.2.1)), (m_d 6, .inl (cyI, 6, .inl u.2.2.2.2.2.2.1)), (m_d 7, .inl (cyI, 6, .inl u.2.2.2.2.2.2.2))])) (va_A [(h_c, .inr (0, oX0 m_c h_g h_p v_c_pumped v_c_today)), (m_c 2, .inl (cyZ, 6, .inl v_c_lacked)), (m_c 8, .inl (cyI, 16, .inl v_c_stack)), (h_g, .inr (3, oX3 m_g v_g_cells v_g_passes v_g_rivers v_g_villages v_g_rains)), (m_g 14, .inl (cyI, 6, .inl v_g_villageCell)), (m_g 15, .inl (cyI, 6, .inl v_g_need)), (m_g 16, .inl (cyI, 6, .inl v_g_lawEnd)), (m_g 17, .inl (cyI, 400, .inl v_g_code)), (h_p, .inr (4, oX4 m_p v_p_pumpCell v_p_pumpTakes v_p_pumpFrom v_p_pumpTo)), (m_p 0, .inl (cyI, 6, .inl v_p_wanting)), (h_d, .inr (1, oX1 m_d v_d_day)), (m_d 1, .inl (cyI, 12, .inl v_d_water)), (m_d 2, .inl (cyJ, 12, .inr (.inl v_d_salt))), (m_d 3, .inl (cyI, 12, .inl v_d_seen)), (m_d 4, .inl (cyI, 6, .inl v_d_took)), (m_d 5, .inl (cyI, 6, .inl v_d_dryDays)), (m_d 6, .inl (cyI, 6, .inl v_d_firstDry)), (m_d 7, .inl (cyI, 6, .inl v_d_total))] sz)) 0 0 (va_A [(h_c, .inr (0, oX0 m_c h_g h_p v_c_pumped v_c_today)), (m_c 2, .inl (cyZ, 6, .inl v_c_lacked)), (m_c 8, .inl (cyI, 16, .inl v_c_stack)), (h_g, .inr (3, oX3 m_g v_g_cells v_g_passes v_g_rivers v_g_villages v_g_rains)), (m_g 14, .inl (cyI, 6, .inl v_g_villageCell)), (m_g 15, .inl (cyI, 6, .inl v_g_need)), (m_g 16, .inl (cyI, 6, .inl v_g_lawEnd)), (m_g 17, .inl (cyI, 400, .inl v_g_code)), (h_p, .inr (4, oX4 m_p v_p_pumpCell v_p_pumpTakes v_p_pumpFrom v_p_pumpTo)), (m_p 0, .inl (cyI, 6, .inl v_p_wanting)), (h_d, .inr (1, oX1 m_d v_d_day)), (m_d 1, .inl (cyI, 12, .inl v_d_water)), (m_d 2, .inl (cyJ, 12, .inr (.inl v_d_salt))), (m_d 3, .inl (cyI, 12, .inl v_d_seen)), (m_d 4, .inl (cyI, 6, .inl v_d_took)), (m_d 5, .inl (cyI, 6, .inl v_d_dryDays)), (m_d 6, .inl (cyI, 6, .inl v_d_firstDry)), (m_d 7, .inl (cyI, 6, .inl v_d_total))] sz) := by
  refine ux_metv (by decide +kernel) (Nat.le_of_ble_eq_true rfl) ?_
  intro p e s m below meth c A Q ls hx hb hml hts hown hA hP hK hD hE hl hret
  have hown : s.vm.findClass RX0 = some m.cls := hown
  have hS : va_S A s.heap s.heap [] := va_S.rf
  have hl : lv_has ls 6 [(0, .ref h_c), (1, .ref h_d)] := hl
  have hb_113 : ∀ (k2 : (Nat → Int32) → (Nat → Int32) → (Nat → Int32) → (Nat → Int64) → (Nat → Int32) → (Nat → Int32) → (Nat → Int32) → (Nat → Int32) → Int32 → Option ((Nat → Int32) × (Nat → Int32) × (Nat → Int32) × (Nat → Int64) × (Nat → Int32) × (Nat → Int32) × (Nat → Int32) × (Nat → Int32))) (hk2 : ∀ (v_c_lacked : (Nat → Int32)) (v_c_stack : (Nat → Int32)) (v_d_water : (Nat → Int32)) (v_d_salt : (Nat → Int64)) (v_d_took : (Nat → Int32)) (v_d_dryDays : (Nat → Int32)) (v_d_firstDry : (Nat → Int32)) (v_d_total : (Nat → Int32)) (x2 : Int32), k2 v_c_lacked v_c_stack v_d_water v_d_salt v_d_took v_d_dryDays v_d_firstDry v_d_total x2 = some out → ∀ (H : Heap) (locs : List Loc) (ls : Array Slot), va_P (dC, dI) vwCl [(h_c, .inr (0, oX0 m_c h_g h_p v_c_pumped v_c_today)), (m_c 2, .inl (cyZ, 6, .inl v_c_lacked)), (m_c 8, .inl (cyI, 16, .inl v_c_stack)), (h_g, .inr (3, oX3 m_g v_g_cells v_g_passes v_g_rivers v_g_villages v_g_rains)), (m_g 14, .inl (cyI, 6, .inl v_g_villageCell)), (m_g 15, .inl (cyI, 6, .inl v_g_need)), (m_g 16, .inl (cyI, 6, .inl v_g_lawEnd)), (m_g 17, .inl (cyI, 400, .inl v_g_code)), (h_p, .inr (4, oX4 m_p v_p_pumpCell v_p_pumpTakes v_p_pumpFrom v_p_pumpTo)), (m_p 0, .inl (cyI, 6, .inl v_p_wanting)), (h_d, .inr (1, oX1 m_d v_d_day)), (m_d 1, .inl (cyI, 12, .inl v_d_water)), (m_d 2, .inl (cyJ, 12, .inr (.inl v_d_salt))), (m_d 3, .inl (cyI, 12, .inl v_d_seen)), (m_d 4, .inl (cyI, 6, .inl v_d_took)), (m_d 5, .inl (cyI, 6, .inl v_d_dryDays)), (m_d 6, .inl (cyI, 6, .inl v_d_firstDry)), (m_d 7, .inl (cyI, 6, .inl v_d_total))] H → va_D A [(h_c, .inr (0, oX0 m_c h_g h_p v_c_pumped v_c_today)), (m_c 2, .inl (cyZ, 6, .inl v_c_lacked)), (m_c 8, .inl (cyI, 16, .inl v_c_stack)), (h_g, .inr (3, oX3 m_g v_g_cells v_g_passes v_g_rivers v_g_villages v_g_rains)), (m_g 14, .inl (cyI, 6, .inl v_g_villageCell)), (m_g 15, .inl (cyI, 6, .inl v_g_need)), (m_g 16, .inl (cyI, 6, .inl v_g_lawEnd)), (m_g 17, .inl (cyI, 400, .inl v_g_code)), (h_p, .inr (4, oX4 m_p v_p_pumpCell v_p_pumpTakes v_p_pumpFrom v_p_pumpTo)), (m_p 0, .inl (cyI, 6, .inl v_p_wanting)), (h_d, .inr (1, oX1 m_d v_d_day)), (m_d 1, .inl (cyI, 12, .inl v_d_water)), (m_d 2, .inl (cyJ, 12, .inr (.inl v_d_salt))), (m_d 3, .inl (cyI, 12, .inl v_d_seen)), (m_d 4, .inl (cyI, 6, .inl v_d_took)), (m_d 5, .inl (cyI, 6, .inl v_d_dryDays)), (m_d 6, .inl (cyI, 6, .inl v_d_firstDry)), (m_d 7, .inl (cyI, 6, .inl v_d_total))] → va_S A s.heap H locs → lv_has ls 6 [(0, .ref h_c), (1, .ref h_d), (2, .int x2)] → W p l e ({ frames := 2, cells := 0, slots := 0, locals := 50 } : Room) s m ([.ref h_c, .ref h_d] : List Value).toArray below meth c H locs 0 0 Q (F0 m 2 ls [])) (v_c_lacked : (Nat → Int32)) (v_c_stack : (Nat → Int32)) (v_d_water : (Nat → Int32)) (v_d_salt : (Nat → Int64)) (v_d_took : (Nat → Int32)) (v_d_dryDays : (Nat → Int32)) (v_d_firstDry : (Nat → Int32)) (v_d_total : (Nat → Int32)) (x2 : Int32) (x3 : Int32) (x4 : Int32) (t1 : Int32) (t2 : Int32), f_X0_takeTurns_b113 k2 v_c_today v_g_villages v_g_villageCell v_g_need v_g_lawEnd v_g_code v_p_wanting v_d_day v_d_seen v_c_lacked v_c_stack v_d_water v_d_salt v_d_took v_d_dryDays v_d_firstDry v_d_total x2 x3 x4 t1 t2 = some out → ∀ (H : Heap) (locs : List Loc) (ls : Array Slot), va_P (dC, dI) vwCl [(h_c, .inr (0, oX0 m_c h_g h_p v_c_pumped v_c_today)), (m_c 2, .inl (cyZ, 6, .inl v_c_lacked)), (m_c 8, .inl (cyI, 16, .inl v_c_stack)), (h_g, .inr (3, oX3 m_g v_g_cells v_g_passes v_g_rivers v_g_villages v_g_rains)), (m_g 14, .inl (cyI, 6, .inl v_g_villageCell)), (m_g 15, .inl (cyI, 6, .inl v_g_need)), (m_g 16, .inl (cyI, 6, .inl v_g_lawEnd)), (m_g 17, .inl (cyI, 400, .inl v_g_code)), (h_p, .inr (4, oX4 m_p v_p_pumpCell v_p_pumpTakes v_p_pumpFrom v_p_pumpTo)), (m_p 0, .inl (cyI, 6, .inl v_p_wanting)), (h_d, .inr (1, oX1 m_d v_d_day)), (m_d 1, .inl (cyI, 12, .inl v_d_water)), (m_d 2, .inl (cyJ, 12, .inr (.inl v_d_salt))), (m_d 3, .inl (cyI, 12, .inl v_d_seen)), (m_d 4, .inl (cyI, 6, .inl v_d_took)), (m_d 5, .inl (cyI, 6, .inl v_d_dryDays)), (m_d 6, .inl (cyI, 6, .inl v_d_firstDry)), (m_d 7, .inl (cyI, 6, .inl v_d_total))] H → va_D A [(h_c, .inr (0, oX0 m_c h_g h_p v_c_pumped v_c_today)), (m_c 2, .inl (cyZ, 6, .inl v_c_lacked)), (m_c 8, .inl (cyI, 16, .inl v_c_stack)), (h_g, .inr (3, oX3 m_g v_g_cells v_g_passes v_g_rivers v_g_villages v_g_rains)), (m_g 14, .inl (cyI, 6, .inl v_g_villageCell)), (m_g 15, .inl (cyI, 6, .inl v_g_need)), (m_g 16, .inl (cyI, 6, .inl v_g_lawEnd)), (m_g 17, .inl (cyI, 400, .inl v_g_code)), (h_p, .inr (4, oX4 m_p v_p_pumpCell v_p_pumpTakes v_p_pumpFrom v_p_pumpTo)), (m_p 0, .inl (cyI, 6, .inl v_p_wanting)), (h_d, .inr (1, oX1 m_d v_d_day)), (m_d 1, .inl (cyI, 12, .inl v_d_water)), (m_d 2, .inl (cyJ, 12, .inr (.inl v_d_salt))), (m_d 3, .inl (cyI, 12, .inl v_d_seen)), (m_d 4, .inl (cyI, 6, .inl v_d_took)), (m_d 5, .inl (cyI, 6, .inl v_d_dryDays)), (m_d 6, .inl (cyI, 6, .inl v_d_firstDry)), (m_d 7, .inl (cyI, 6, .inl v_d_total))] → va_S A s.heap H locs → lv_has ls 6 [(0, .ref h_c), (1, .ref h_d), (2, .int x2), (3, .int x3), (4, .int x4)] → W p l e ({ frames := 2, cells := 0, slots := 0, locals := 50 } : Room) s m ([.ref h_c, .ref h_d] : List Value).toArray below meth c H locs 0 0 Q (F0 m 113 ls [.int t2, .int t1, .ref (m_d 4)]) := by
    intro k2 hk2 v_c_lacked v_c_stack v_d_water v_d_salt v_d_took v_d_dryDays v_d_firstDry v_d_total x2 x3 x4 t1 t2 hf H locs ls hP hD hS hl
    unfold f_X0_takeTurns_b113 at hf
    obtain ⟨h_1, hf⟩ := ck_some hf
    obtain ⟨a_2, ea_2, hf⟩ := nm_some hf
    refine va_iast hx hb hK hP hD hS 14 0 rfl rfl (inb_in h_1) dX0_takeTurns_113 (fun H locs hP hD hS => ?_)
    have hP : va_P (dC, dI) vwCl [(h_c, .inr (0, oX0 m_c h_g h_p v_c_pumped v_c_today)), (m_c 2, .inl (cyZ, 6, .inl v_c_lacked)), (m_c 8, .inl (cyI, 16, .inl v_c_stack)), (h_g, .inr (3, oX3 m_g v_g_cells v_g_passes v_g_rivers v_g_villages v_g_rains)), (m_g 14, .inl (cyI, 6, .inl v_g_villageCell)), (m_g 15, .inl (cyI, 6, .inl v_g_need)), (m_g 16, .inl (cyI, 6, .inl v_g_lawEnd)), (m_g 17, .inl (cyI, 400, .inl v_g_code)), (h_p, .inr (4, oX4 m_p v_p_pumpCell v_p_pumpTakes v_p_pumpFrom v_p_pumpTo)), (m_p 0, .inl (cyI, 6, .inl v_p_wanting)), (h_d, .inr (1, oX1 m_d v_d_day)), (m_d 1, .inl (cyI, 12, .inl v_d_water)), (m_d 2, .inl (cyJ, 12, .inr (.inl v_d_salt))), (m_d 3, .inl (cyI, 12, .inl v_d_seen)), (m_d 4, .inl (cyI, 6, .inl a_2)), (m_d 5, .inl (cyI, 6, .inl v_d_dryDays)), (m_d 6, .inl (cyI, 6, .inl v_d_firstDry)), (m_d 7, .inl (cyI, 6, .inl v_d_total))] H := by rw [ea_2]; exact hP
    have hD : va_D A [(h_c, .inr (0, oX0 m_c h_g h_p v_c_pumped v_c_today)), (m_c 2, .inl (cyZ, 6, .inl v_c_lacked)), (m_c 8, .inl (cyI, 16, .inl v_c_stack)), (h_g, .inr (3, oX3 m_g v_g_cells v_g_passes v_g_rivers v_g_villages v_g_rains)), (m_g 14, .inl (cyI, 6, .inl v_g_villageCell)), (m_g 15, .inl (cyI, 6, .inl v_g_need)), (m_g 16, .inl (cyI, 6, .inl v_g_lawEnd)), (m_g 17, .inl (cyI, 400, .inl v_g_code)), (h_p, .inr (4, oX4 m_p v_p_pumpCell v_p_pumpTakes v_p_pumpFrom v_p_pumpTo)), (m_p 0, .inl (cyI, 6, .inl v_p_wanting)), (h_d, .inr (1, oX1 m_d v_d_day)), (m_d 1, .inl (cyI, 12, .inl v_d_water)), (m_d 2, .inl (cyJ, 12, .inr (.inl v_d_salt))), (m_d 3, .inl (cyI, 12, .inl v_d_seen)), (m_d 4, .inl (cyI, 6, .inl a_2)), (m_d 5, .inl (cyI, 6, .inl v_d_dryDays)), (m_d 6, .inl (cyI, 6, .inl v_d_firstDry)), (m_d 7, .inl (cyI, 6, .inl v_d_total))] := by rw [ea_2]; exact hD
    refine lv_aload_n hx hb dX0_takeTurns_114 rfl (lv_at hl 1 rfl) ?_
    refine va_get (D := (dC, dI)) (ci := 1) (v := .ref (m_d 7)) (C := RX1) (T := TX1) (N := 8) hx hb hts (g_c inlX1) hown hK hP 10 rfl rfl 7 (by decide) (hts _ (List.mem_cons_of_mem _ wm_37_14)) (fun _ h9 => h9) rfl dX0_takeTurns_115 ?_
    refine lv_iload_n hx hb dX0_takeTurns_118 rfl (lv_at hl 2 rfl) ?_
    refine lv_dup2_11 hx hb dX0_takeTurns_119 rfl rfl ?_
    obtain ⟨h_3, hf⟩ := ck_some hf
    refine va_iald hx hb hK hP 17 0 rfl rfl (inb_in h_3) dX0_takeTurns_120 ?_
    refine lv_aload_n hx hb dX0_takeTurns_121 rfl (lv_at hl 1 rfl) ?_
    refine va_get (D := (dC, dI)) (ci := 1) (v := .ref (m_d 4)) (C := RX1) (T := TX1) (N := 8) hx hb hts (g_c inlX1) hown hK hP 10 rfl rfl 4 (by decide) (hts _ (List.mem_cons_of_mem _ wm_35_7)) (fun _ h9 => h9) rfl dX0_takeTurns_122 ?_
    refine lv_iload_n hx hb dX0_takeTurns_125 rfl (lv_at hl 2 rfl) ?_
    obtain ⟨h_4, hf⟩ := ck_some hf
    refine va_iald hx hb hK hP 14 0 rfl rfl (inb_in h_4) dX0_takeTurns_126 ?_
    refine lv_iadd hx hb dX0_takeTurns_127 ?_
    obtain ⟨h_5, hf⟩ := ck_some hf
    obtain ⟨a_6, ea_6, hf⟩ := nm_some hf
    refine va_iast hx hb hK hP hD hS 17 0 rfl rfl (inb_in h_5) dX0_takeTurns_128 (fun H locs hP hD hS => ?_)
    have hP : va_P (dC, dI) vwCl [(h_c, .inr (0, oX0 m_c h_g h_p v_c_pumped v_c_today)), (m_c 2, .inl (cyZ, 6, .inl v_c_lacked)), (m_c 8, .inl (cyI, 16, .inl v_c_stack)), (h_g, .inr (3, oX3 m_g v_g_cells v_g_passes v_g_rivers v_g_villages v_g_rains)), (m_g 14, .inl (cyI, 6, .inl v_g_villageCell)), (m_g 15, .inl (cyI, 6, .inl v_g_need)), (m_g 16, .inl (cyI, 6, .inl v_g_lawEnd)), (m_g 17, .inl (cyI, 400, .inl v_g_code)), (h_p, .inr (4, oX4 m_p v_p_pumpCell v_p_pumpTakes v_p_pumpFrom v_p_pumpTo)), (m_p 0, .inl (cyI, 6, .inl v_p_wanting)), (h_d, .inr (1, oX1 m_d v_d_day)), (m_d 1, .inl (cyI, 12, .inl v_d_water)), (m_d 2, .inl (cyJ, 12, .inr (.inl v_d_salt))), (m_d 3, .inl (cyI, 12, .inl v_d_seen)), (m_d 4, .inl (cyI, 6, .inl a_2)), (m_d 5, .inl (cyI, 6, .inl v_d_dryDays)), (m_d 6, .inl (cyI, 6, .inl v_d_firstDry)), (m_d 7, .inl (cyI, 6, .inl a_6))] H := by rw [ea_6]; exact hP
    have hD : va_D A [(h_c, .inr (0, oX0 m_c h_g h_p v_c_pumped v_c_today)), (m_c 2, .inl (cyZ, 6, .inl v_c_lacked)), (m_c 8, .inl (cyI, 16, .inl v_c_stack)), (h_g, .inr (3, oX3 m_g v_g_cells v_g_passes v_g_rivers v_g_villages v_g_rains)), (m_g 14, .inl (cyI, 6, .inl v_g_villageCell)), (m_g 15, .inl (cyI, 6, .inl v_g_need)), (m_g 16, .inl (cyI, 6, .inl v_g_lawEnd)), (m_g 17, .inl (cyI, 400, .inl v_g_code)), (h_p, .inr (4, oX4 m_p v_p_pumpCell v_p_pumpTakes v_p_pumpFrom v_p_pumpTo)), (m_p 0, .inl (cyI, 6, .inl v_p_wanting)), (h_d, .inr (1, oX1 m_d v_d_day)), (m_d 1, .inl (cyI, 12, .inl v_d_water)), (m_d 2, .inl (cyJ, 12, .inr (.inl v_d_salt))), (m_d 3, .inl (cyI, 12, .inl v_d_seen)), (m_d 4, .inl (cyI, 6, .inl a_2)), (m_d 5, .inl (cyI, 6, .inl v_d_dryDays)), (m_d 6, .inl (cyI, 6, .inl v_d_firstDry)), (m_d 7, .inl (cyI, 6, .inl a_6))] := by rw [ea_6]; exact hD
    refine lv_aload_n hx hb dX0_takeTurns_129 rfl (lv_at hl 1 rfl) ?_
    refine lv_iload_n hx hb dX0_takeTurns_130 rfl (lv_at hl 3 rfl) ?_
    refine lv_aload_n hx hb dX0_takeTurns_131 rfl (lv_at hl 1 rfl) ?_
    refine va_get (D := (dC, dI)) (ci := 1) (v := .ref (m_d 4)) (C := RX1) (T := TX1) (N := 8) hx hb hts (g_c inlX1) hown hK hP 10 rfl rfl 4 (by decide) (hts _ (List.mem_cons_of_mem _ wm_35_7)) (fun _ h9 => h9) rfl dX0_takeTurns_132 ?_
    refine lv_iload_n hx hb dX0_takeTurns_135 rfl (lv_at hl 2 rfl) ?_
    obtain ⟨h_7, hf⟩ := ck_some hf
    refine va_iald hx hb hK hP 14 0 rfl rfl (inb_in h_7) dX0_takeTurns_136 ?_
    obtain ⟨o_8, ho_8, hf⟩ := bd_some hf
    obtain ⟨o_8_0, o_8_1⟩ := o_8
    have hf := un2_some hf
    refine ux_Vv (n := 2) (As := [.int x3, .int (a_2 x2.toNatClampNeg)]) (rest := []) (wc := [(h_d, .inr (1, oX1 m_d v_d_day)), (m_d 1, .inl (cyI, 12, .inl v_d_water)), (m_d 2, .inl (cyJ, 12, .inr (.inl v_d_salt)))]) (wr := [_, _, _, _, _, _, _, _, _, _, _, _, _, _, _]) ⟨hx, hb, hml, hown, hts⟩ hK hP hD hS hA hE [10, 11, 12] [0, 1, 2, 3, 4, 5, 6, 7, 8, 9, 13, 14, 15, 16, 17] (sg_h [(10, 3)] 18 rfl sk_z13_10 rfl) (sg_h [(0, 10), (13, 5)] 18 rfl sk_z13_11 rfl) nd_z13_9 nd_z13_10 nj_z13_4 (c_X1_draw l dC dI cyI cyJ cyZ cyB cyO tO vF adK adV h_d m_d v_d_day v_d_water v_d_salt x3 (a_2 x2.toNatClampNeg) _ _ ho_8) 1 0 rfl rfl wm_37_16 wm_37_17 wm_37_18 wm_2_10 wm_37_19 ⟨rfl, rfl⟩ (by decide +kernel) rfl ⟨Nat.le_of_ble_eq_true rfl, Nat.le_of_ble_eq_true rfl⟩ hl.1 rfl (Nat.le_of_ble_eq_true rfl) dX0_takeTurns_137 ⟨Nat.le_of_ble_eq_true rfl, Nat.le_of_ble_eq_true rfl⟩ (fun H locs hP hD hS => ?_)
    have hP : va_P (dC, dI) vwCl [_, _, _, _, _, _, _, _, _, _, _, _, _, _, _, (h_d, .inr (1, oX1 m_d v_d_day)), (m_d 1, .inl (cyI, 12, .inl o_8_0)), (m_d 2, .inl (cyJ, 12, .inr (.inl o_8_1)))] H := hP
    have hD : va_D A [_, _, _, _, _, _, _, _, _, _, _, _, _, _, _, (h_d, .inr (1, oX1 m_d v_d_day)), (m_d 1, .inl (cyI, 12, .inl o_8_0)), (m_d 2, .inl (cyJ, 12, .inr (.inl o_8_1)))] := hD
    refine lv_iload hx hb dX0_takeTurns_140 (lv_at hl 4 rfl) ?_
    refine lv_if_eq (tgt := 159) hx hb dX0_takeTurns_142 (by decide) (fun c_9 => ?_) (fun c_9 => ?_)
    · have hf := (if_pos c_9).symm.trans hf
      refine lv_iinc (v := x2 + (1 : Int32)) (lv' := [(2, .int (x2 + (1 : Int32))), (0, .ref h_c), (1, .ref h_d), (3, .int x3), (4, .int x4)]) hx hb dX0_takeTurns_159 hl (k := 2) rfl rfl (by decide) rfl (fun ls hl => ?_)
      refine lv_goto (tgt := 2) hx hb dX0_takeTurns_162 (by decide) ?_
      exact hk2 _ _ _ _ _ _ _ _ _ hf _ _ _ (hP.sub [0, 1, 2, 3, 4, 5, 6, 7, 8, 9, 15, 16, 17, 10, 11, 12, 13, 14] (ux_pick (sg_h [(0, 10), (15, 3), (10, 5)] 18 rfl sk_z13_12 rfl))) (hD.sub [0, 1, 2, 3, 4, 5, 6, 7, 8, 9, 15, 16, 17, 10, 11, 12, 13, 14] nd_z13_11 (sg_h [(0, 10), (15, 3), (10, 5)] 18 rfl sk_z13_12 rfl)) hS (lv_sub hl [1, 2, 0] rfl)
    · have hf := (if_neg c_9).symm.trans hf
      refine lv_aload_n hx hb dX0_takeTurns_145 rfl (lv_at hl 0 rfl) ?_
      refine va_get (D := (dC, dI)) (ci := 0) (v := .ref (m_c 2)) (C := RX0) (T := TX0) (N := 9) hx hb hts (g_c inlX0) hown hK hP 0 rfl rfl 2 (by decide) (hts _ (List.mem_cons_of_mem _ wm_5_6)) (fun _ h9 => h9) rfl dX0_takeTurns_146 ?_
      refine lv_iload_n hx hb dX0_takeTurns_149 rfl (lv_at hl 2 rfl) ?_
      obtain ⟨h_10, hf⟩ := ck_some hf
      refine va_zald hx hb hK hP 1 2 rfl rfl (inb_in h_10) dX0_takeTurns_150 ?_
      refine lv_if_eq (tgt := 159) hx hb dX0_takeTurns_151 (by decide) (fun c_11 => ?_) (fun c_11 => ?_)
      · have hf := (if_pos c_11).symm.trans hf
        refine lv_iinc (v := x2 + (1 : Int32)) (lv' := [(2, .int (x2 + (1 : Int32))), (0, .ref h_c), (1, .ref h_d), (3, .int x3), (4, .int x4)]) hx hb dX0_takeTurns_159 hl (k := 2) rfl rfl (by decide) rfl (fun ls hl => ?_)
        refine lv_goto (tgt := 2) hx hb dX0_takeTurns_162 (by decide) ?_
        exact hk2 _ _ _ _ _ _ _ _ _ hf _ _ _ (hP.sub [0, 1, 2, 3, 4, 5, 6, 7, 8, 9, 15, 16, 17, 10, 11, 12, 13, 14] (ux_pick (sg_h [(0, 10), (15, 3), (10, 5)] 18 rfl sk_z13_12 rfl))) (hD.sub [0, 1, 2, 3, 4, 5, 6, 7, 8, 9, 15, 16, 17, 10, 11, 12, 13, 14] nd_z13_11 (sg_h [(0, 10), (15, 3), (10, 5)] 18 rfl sk_z13_12 rfl)) hS (lv_sub hl [1, 2, 0] rfl)
      · have hf := (if_neg c_11).symm.trans hf
        refine lv_aload_n hx hb dX0_takeTurns_154 rfl (lv_at hl 1 rfl) ?_
        refine lv_iload_n hx hb dX0_takeTurns_155 rfl (lv_at hl 2 rfl) ?_
        obtain ⟨o_12, ho_12, hf⟩ := bd_some hf
        obtain ⟨o_12_0, o_12_1⟩ := o_12
        have hf := un2_some hf
        refine ux_Vv (n := 1) (As := [.int x2]) (rest := []) (wc := [(h_d, .inr (1, oX1 m_d v_d_day)), (m_d 5, .inl (cyI, 6, .inl v_d_dryDays)), (m_d 6, .inl (cyI, 6, .inl v_d_firstDry))]) (wr := [_, _, _, _, _, _, _, _, _, _, _, _, _, _, _]) ⟨hx, hb, hml, hown, hts⟩ hK hP hD hS hA hE [15, 12, 13] [0, 1, 2, 3, 4, 5, 6, 7, 8, 9, 10, 11, 14, 16, 17] (sg_h [(15, 1), (12, 2)] 18 rfl sk_z13_13 rfl) (sg_h [(0, 12), (14, 1), (16, 2)] 18 rfl sk_z13_14 rfl) nd_z13_12 nd_z13_13 nj_z13_5 (c_X1_countDry l dC dI cyI cyJ cyZ cyB cyO tO vF adK adV h_d m_d v_d_day v_d_dryDays v_d_firstDry x2 _ _ ho_12) 1 0 rfl rfl wm_37_20 wm_37_21 wm_37_22 wm_2_10 wm_37_23 ⟨rfl, rfl⟩ (by decide +kernel) rfl ⟨Nat.le_of_ble_eq_true rfl, Nat.le_of_ble_eq_true rfl⟩ hl.1 rfl (Nat.le_of_ble_eq_true rfl) dX0_takeTurns_156 ⟨Nat.le_of_ble_eq_true rfl, Nat.le_of_ble_eq_true rfl⟩ (fun H locs hP hD hS => ?_)
        have hP : va_P (dC, dI) vwCl [_, _, _, _, _, _, _, _, _, _, _, _, _, _, _, (h_d, .inr (1, oX1 m_d v_d_day)), (m_d 5, .inl (cyI, 6, .inl o_12_0)), (m_d 6, .inl (cyI, 6, .inl o_12_1))] H := hP
        have hD : va_D A [_, _, _, _, _, _, _, _, _, _, _, _, _, _, _, (h_d, .inr (1, oX1 m_d v_d_day)), (m_d 5, .inl (cyI, 6, .inl o_12_0)), (m_d 6, .inl (cyI, 6, .inl o_12_1))] := hD
        refine lv_iinc (v := x2 + (1 : Int32)) (lv' := [(2, .int (x2 + (1 : Int32))), (0, .ref h_c), (1, .ref h_d), (3, .int x3), (4, .int x4)]) hx hb dX0_takeTurns_159 hl (k := 2) rfl rfl (by decide) rfl (fun ls hl => ?_)
        refine lv_goto (tgt := 2) hx hb dX0_takeTurns_162 (by decide) ?_
        exact hk2 _ _ _ _ _ _ _ _ _ hf _ _ _ (hP.sub [0, 1, 2, 3, 4, 5, 6, 7, 8, 9, 15, 13, 14, 10, 11, 16, 17, 12] (ux_pick (sg_h [(0, 10), (15, 1), (13, 2), (10, 2), (16, 2), (12, 1)] 18 rfl sk_z13_15 rfl))) (hD.sub [0, 1, 2, 3, 4, 5, 6, 7, 8, 9, 15, 13, 14, 10, 11, 16, 17, 12] nd_z13_14 (sg_h [(0, 10), (15, 1), (13, 2), (10, 2), (16, 2), (12, 1)] 18 rfl sk_z13_15 rfl)) hS (lv_sub hl [1, 2, 0] rfl)
  have hb_96 : ∀ (k2 : (Nat → Int32) → (Nat → Int32) → (Nat → Int32) → (Nat → Int64) → (Nat → Int32) → (Nat → Int32) → (Nat → Int32) → (Nat → Int32) → Int32 → Option ((Nat → Int32) × (Nat → Int32) × (Nat → Int32) × (Nat → Int64) × (Nat → Int32) × (Nat → Int32) × (Nat → Int32) × (Nat → Int32))) (hk2 : ∀ (v_c_lacked : (Nat → Int32)) (v_c_stack : (Nat → Int32)) (v_d_water : (Nat → Int32)) (v_d_salt : (Nat → Int64)) (v_d_took : (Nat → Int32)) (v_d_dryDays : (Nat → Int32)) (v_d_firstDry : (Nat → Int32)) (v_d_total : (Nat → Int32)) (x2 : Int32), k2 v_c_lacked v_c_stack v_d_water v_d_salt v_d_took v_d_dryDays v_d_firstDry v_d_total x2 = some out → ∀ (H : Heap) (locs : List Loc) (ls : Array Slot), va_P (dC, dI) vwCl [(h_c, .inr (0, oX0 m_c h_g h_p v_c_pumped v_c_today)), (m_c 2, .inl (cyZ, 6, .inl v_c_lacked)), (m_c 8, .inl (cyI, 16, .inl v_c_stack)), (h_g, .inr (3, oX3 m_g v_g_cells v_g_passes v_g_rivers v_g_villages v_g_rains)), (m_g 14, .inl (cyI, 6, .inl v_g_villageCell)), (m_g 15, .inl (cyI, 6, .inl v_g_need)), (m_g 16, .inl (cyI, 6, .inl v_g_lawEnd)), (m_g 17, .inl (cyI, 400, .inl v_g_code)), (h_p, .inr (4, oX4 m_p v_p_pumpCell v_p_pumpTakes v_p_pumpFrom v_p_pumpTo)), (m_p 0, .inl (cyI, 6, .inl v_p_wanting)), (h_d, .inr (1, oX1 m_d v_d_day)), (m_d 1, .inl (cyI, 12, .inl v_d_water)), (m_d 2, .inl (cyJ, 12, .inr (.inl v_d_salt))), (m_d 3, .inl (cyI, 12, .inl v_d_seen)), (m_d 4, .inl (cyI, 6, .inl v_d_took)), (m_d 5, .inl (cyI, 6, .inl v_d_dryDays)), (m_d 6, .inl (cyI, 6, .inl v_d_firstDry)), (m_d 7, .inl (cyI, 6, .inl v_d_total))] H → va_D A [(h_c, .inr (0, oX0 m_c h_g h_p v_c_pumped v_c_today)), (m_c 2, .inl (cyZ, 6, .inl v_c_lacked)), (m_c 8, .inl (cyI, 16, .inl v_c_stack)), (h_g, .inr (3, oX3 m_g v_g_cells v_g_passes v_g_rivers v_g_villages v_g_rains)), (m_g 14, .inl (cyI, 6, .inl v_g_villageCell)), (m_g 15, .inl (cyI, 6, .inl v_g_need)), (m_g 16, .inl (cyI, 6, .inl v_g_lawEnd)), (m_g 17, .inl (cyI, 400, .inl v_g_code)), (h_p, .inr (4, oX4 m_p v_p_pumpCell v_p_pumpTakes v_p_pumpFrom v_p_pumpTo)), (m_p 0, .inl (cyI, 6, .inl v_p_wanting)), (h_d, .inr (1, oX1 m_d v_d_day)), (m_d 1, .inl (cyI, 12, .inl v_d_water)), (m_d 2, .inl (cyJ, 12, .inr (.inl v_d_salt))), (m_d 3, .inl (cyI, 12, .inl v_d_seen)), (m_d 4, .inl (cyI, 6, .inl v_d_took)), (m_d 5, .inl (cyI, 6, .inl v_d_dryDays)), (m_d 6, .inl (cyI, 6, .inl v_d_firstDry)), (m_d 7, .inl (cyI, 6, .inl v_d_total))] → va_S A s.heap H locs → lv_has ls 6 [(0, .ref h_c), (1, .ref h_d), (2, .int x2)] → W p l e ({ frames := 2, cells := 0, slots := 0, locals := 50 } : Room) s m ([.ref h_c, .ref h_d] : List Value).toArray below meth c H locs 0 0 Q (F0 m 2 ls [])) (v_c_lacked : (Nat → Int32)) (v_c_stack : (Nat → Int32)) (v_d_water : (Nat → Int32)) (v_d_salt : (Nat → Int64)) (v_d_took : (Nat → Int32)) (v_d_dryDays : (Nat → Int32)) (v_d_firstDry : (Nat → Int32)) (v_d_total : (Nat → Int32)) (x2 : Int32) (x3 : Int32) (x4 : Int32) (x5 : Int32) (t1 : Int32) (t2 : Int32), f_X0_takeTurns_b96 k2 v_c_today v_g_villages v_g_villageCell v_g_need v_g_lawEnd v_g_code v_p_wanting v_d_day v_d_seen v_c_lacked v_c_stack v_d_water v_d_salt v_d_took v_d_dryDays v_d_firstDry v_d_total x2 x3 x4 x5 t1 t2 = some out → ∀ (H : Heap) (locs : List Loc) (ls : Array Slot), va_P (dC, dI) vwCl [(h_c, .inr (0, oX0 m_c h_g h_p v_c_pumped v_c_today)), (m_c 2, .inl (cyZ, 6, .inl v_c_lacked)), (m_c 8, .inl (cyI, 16, .inl v_c_stack)), (h_g, .inr (3, oX3 m_g v_g_cells v_g_passes v_g_rivers v_g_villages v_g_rains)), (m_g 14, .inl (cyI, 6, .inl v_g_villageCell)), (m_g 15, .inl (cyI, 6, .inl v_g_need)), (m_g 16, .inl (cyI, 6, .inl v_g_lawEnd)), (m_g 17, .inl (cyI, 400, .inl v_g_code)), (h_p, .inr (4, oX4 m_p v_p_pumpCell v_p_pumpTakes v_p_pumpFrom v_p_pumpTo)), (m_p 0, .inl (cyI, 6, .inl v_p_wanting)), (h_d, .inr (1, oX1 m_d v_d_day)), (m_d 1, .inl (cyI, 12, .inl v_d_water)), (m_d 2, .inl (cyJ, 12, .inr (.inl v_d_salt))), (m_d 3, .inl (cyI, 12, .inl v_d_seen)), (m_d 4, .inl (cyI, 6, .inl v_d_took)), (m_d 5, .inl (cyI, 6, .inl v_d_dryDays)), (m_d 6, .inl (cyI, 6, .inl v_d_firstDry)), (m_d 7, .inl (cyI, 6, .inl v_d_total))] H → va_D A [(h_c, .inr (0, oX0 m_c h_g h_p v_c_pumped v_c_today)), (m_c 2, .inl (cyZ, 6, .inl v_c_lacked)), (m_c 8, .inl (cyI, 16, .inl v_c_stack)), (h_g, .inr (3, oX3 m_g v_g_cells v_g_passes v_g_rivers v_g_villages v_g_rains)), (m_g 14, .inl (cyI, 6, .inl v_g_villageCell)), (m_g 15, .inl (cyI, 6, .inl v_g_need)), (m_g 16, .inl (cyI, 6, .inl v_g_lawEnd)), (m_g 17, .inl (cyI, 400, .inl v_g_code)), (h_p, .inr (4, oX4 m_p v_p_pumpCell v_p_pumpTakes v_p_pumpFrom v_p_pumpTo)), (m_p 0, .inl (cyI, 6, .inl v_p_wanting)), (h_d, .inr (1, oX1 m_d v_d_day)), (m_d 1, .inl (cyI, 12, .inl v_d_water)), (m_d 2, .inl (cyJ, 12, .inr (.inl v_d_salt))), (m_d 3, .inl (cyI, 12, .inl v_d_seen)), (m_d 4, .inl (cyI, 6, .inl v_d_took)), (m_d 5, .inl (cyI, 6, .inl v_d_dryDays)), (m_d 6, .inl (cyI, 6, .inl v_d_firstDry)), (m_d 7, .inl (cyI, 6, .inl v_d_total))] → va_S A s.heap H locs → lv_has ls 6 [(0, .ref h_c), (1, .ref h_d), (2, .int x2), (3, .int x3), (4, .int x4), (5, .int x5)] → W p l e ({ frames := 2, cells := 0, slots := 0, locals := 50 } : Room) s m ([.ref h_c, .ref h_d] : List Value).toArray below meth c H locs 0 0 Q (F0 m 96 ls [.int t2, .int t1, .ref (m_c 2)]) := by
    intro k2 hk2 v_c_lacked v_c_stack v_d_water v_d_salt v_d_took v_d_dryDays v_d_firstDry v_d_total x2 x3 x4 x5 t1 t2 hf H locs ls hP hD hS hl
    unfold f_X0_takeTurns_b96 at hf
    obtain ⟨h_1, hf⟩ := ck_some hf
    obtain ⟨a_2, ea_2, hf⟩ := nm_some hf
    refine va_zast hx hb hK hP hD hS 1 2 rfl rfl (inb_in h_1) dX0_takeTurns_96 (fun H locs hP hD hS => ?_)
    have hP : va_P (dC, dI) vwCl [(h_c, .inr (0, oX0 m_c h_g h_p v_c_pumped v_c_today)), (m_c 2, .inl (cyZ, 6, .inl a_2)), (m_c 8, .inl (cyI, 16, .inl v_c_stack)), (h_g, .inr (3, oX3 m_g v_g_cells v_g_passes v_g_rivers v_g_villages v_g_rains)), (m_g 14, .inl (cyI, 6, .inl v_g_villageCell)), (m_g 15, .inl (cyI, 6, .inl v_g_need)), (m_g 16, .inl (cyI, 6, .inl v_g_lawEnd)), (m_g 17, .inl (cyI, 400, .inl v_g_code)), (h_p, .inr (4, oX4 m_p v_p_pumpCell v_p_pumpTakes v_p_pumpFrom v_p_pumpTo)), (m_p 0, .inl (cyI, 6, .inl v_p_wanting)), (h_d, .inr (1, oX1 m_d v_d_day)), (m_d 1, .inl (cyI, 12, .inl v_d_water)), (m_d 2, .inl (cyJ, 12, .inr (.inl v_d_salt))), (m_d 3, .inl (cyI, 12, .inl v_d_seen)), (m_d 4, .inl (cyI, 6, .inl v_d_took)), (m_d 5, .inl (cyI, 6, .inl v_d_dryDays)), (m_d 6, .inl (cyI, 6, .inl v_d_firstDry)), (m_d 7, .inl (cyI, 6, .inl v_d_total))] H := by rw [ea_2]; exact hP
    have hD : va_D A [(h_c, .inr (0, oX0 m_c h_g h_p v_c_pumped v_c_today)), (m_c 2, .inl (cyZ, 6, .inl a_2)), (m_c 8, .inl (cyI, 16, .inl v_c_stack)), (h_g, .inr (3, oX3 m_g v_g_cells v_g_passes v_g_rivers v_g_villages v_g_rains)), (m_g 14, .inl (cyI, 6, .inl v_g_villageCell)), (m_g 15, .inl (cyI, 6, .inl v_g_need)), (m_g 16, .inl (cyI, 6, .inl v_g_lawEnd)), (m_g 17, .inl (cyI, 400, .inl v_g_code)), (h_p, .inr (4, oX4 m_p v_p_pumpCell v_p_pumpTakes v_p_pumpFrom v_p_pumpTo)), (m_p 0, .inl (cyI, 6, .inl v_p_wanting)), (h_d, .inr (1, oX1 m_d v_d_day)), (m_d 1, .inl (cyI, 12, .inl v_d_water)), (m_d 2, .inl (cyJ, 12, .inr (.inl v_d_salt))), (m_d 3, .inl (cyI, 12, .inl v_d_seen)), (m_d 4, .inl (cyI, 6, .inl v_d_took)), (m_d 5, .inl (cyI, 6, .inl v_d_dryDays)), (m_d 6, .inl (cyI, 6, .inl v_d_firstDry)), (m_d 7, .inl (cyI, 6, .inl v_d_total))] := by rw [ea_2]; exact hD
    refine lv_aload_n hx hb dX0_takeTurns_97 rfl (lv_at hl 1 rfl) ?_
    refine va_get (D := (dC, dI)) (ci := 1) (v := .ref (m_d 4)) (C := RX1) (T := TX1) (N := 8) hx hb hts (g_c inlX1) hown hK hP 10 rfl rfl 4 (by decide) (hts _ (List.mem_cons_of_mem _ wm_35_7)) (fun _ h9 => h9) rfl dX0_takeTurns_98 ?_
    refine lv_iload_n hx hb dX0_takeTurns_101 rfl (lv_at hl 2 rfl) ?_
    refine lv_iload hx hb dX0_takeTurns_102 (lv_at hl 4 rfl) ?_
    refine lv_if_eq (tgt := 112) hx hb dX0_takeTurns_104 (by decide) (fun c_3 => ?_) (fun c_3 => ?_)
    · have hf := (if_pos c_3).symm.trans hf
      refine lv_iconst (v := (0 : Int32)) hx hb dX0_takeTurns_112 (by decide) ?_
      exact hb_113 _ hk2 _ _ _ _ _ _ _ _ _ _ _ _ _ hf _ _ _ hP hD hS (lv_sub hl [0, 1, 2, 3, 4] rfl)
    · have hf := (if_neg c_3).symm.trans hf
      refine lv_iload hx hb dX0_takeTurns_107 (lv_at hl 5 rfl) ?_
      refine lv_goto (tgt := 113) hx hb dX0_takeTurns_109 (by decide) ?_
      exact hb_113 _ hk2 _ _ _ _ _ _ _ _ _ _ _ _ _ hf _ _ _ hP hD hS (lv_sub hl [0, 1, 2, 3, 4] rfl)
  have hb_61 : ∀ (k2 : (Nat → Int32) → (Nat → Int32) → (Nat → Int32) → (Nat → Int64) → (Nat → Int32) → (Nat → Int32) → (Nat → Int32) → (Nat → Int32) → Int32 → Option ((Nat → Int32) × (Nat → Int32) × (Nat → Int32) × (Nat → Int64) × (Nat → Int32) × (Nat → Int32) × (Nat → Int32) × (Nat → Int32))) (hk2 : ∀ (v_c_lacked : (Nat → Int32)) (v_c_stack : (Nat → Int32)) (v_d_water : (Nat → Int32)) (v_d_salt : (Nat → Int64)) (v_d_took : (Nat → Int32)) (v_d_dryDays : (Nat → Int32)) (v_d_firstDry : (Nat → Int32)) (v_d_total : (Nat → Int32)) (x2 : Int32), k2 v_c_lacked v_c_stack v_d_water v_d_salt v_d_took v_d_dryDays v_d_firstDry v_d_total x2 = some out → ∀ (H : Heap) (locs : List Loc) (ls : Array Slot), va_P (dC, dI) vwCl [(h_c, .inr (0, oX0 m_c h_g h_p v_c_pumped v_c_today)), (m_c 2, .inl (cyZ, 6, .inl v_c_lacked)), (m_c 8, .inl (cyI, 16, .inl v_c_stack)), (h_g, .inr (3, oX3 m_g v_g_cells v_g_passes v_g_rivers v_g_villages v_g_rains)), (m_g 14, .inl (cyI, 6, .inl v_g_villageCell)), (m_g 15, .inl (cyI, 6, .inl v_g_need)), (m_g 16, .inl (cyI, 6, .inl v_g_lawEnd)), (m_g 17, .inl (cyI, 400, .inl v_g_code)), (h_p, .inr (4, oX4 m_p v_p_pumpCell v_p_pumpTakes v_p_pumpFrom v_p_pumpTo)), (m_p 0, .inl (cyI, 6, .inl v_p_wanting)), (h_d, .inr (1, oX1 m_d v_d_day)), (m_d 1, .inl (cyI, 12, .inl v_d_water)), (m_d 2, .inl (cyJ, 12, .inr (.inl v_d_salt))), (m_d 3, .inl (cyI, 12, .inl v_d_seen)), (m_d 4, .inl (cyI, 6, .inl v_d_took)), (m_d 5, .inl (cyI, 6, .inl v_d_dryDays)), (m_d 6, .inl (cyI, 6, .inl v_d_firstDry)), (m_d 7, .inl (cyI, 6, .inl v_d_total))] H → va_D A [(h_c, .inr (0, oX0 m_c h_g h_p v_c_pumped v_c_today)), (m_c 2, .inl (cyZ, 6, .inl v_c_lacked)), (m_c 8, .inl (cyI, 16, .inl v_c_stack)), (h_g, .inr (3, oX3 m_g v_g_cells v_g_passes v_g_rivers v_g_villages v_g_rains)), (m_g 14, .inl (cyI, 6, .inl v_g_villageCell)), (m_g 15, .inl (cyI, 6, .inl v_g_need)), (m_g 16, .inl (cyI, 6, .inl v_g_lawEnd)), (m_g 17, .inl (cyI, 400, .inl v_g_code)), (h_p, .inr (4, oX4 m_p v_p_pumpCell v_p_pumpTakes v_p_pumpFrom v_p_pumpTo)), (m_p 0, .inl (cyI, 6, .inl v_p_wanting)), (h_d, .inr (1, oX1 m_d v_d_day)), (m_d 1, .inl (cyI, 12, .inl v_d_water)), (m_d 2, .inl (cyJ, 12, .inr (.inl v_d_salt))), (m_d 3, .inl (cyI, 12, .inl v_d_seen)), (m_d 4, .inl (cyI, 6, .inl v_d_took)), (m_d 5, .inl (cyI, 6, .inl v_d_dryDays)), (m_d 6, .inl (cyI, 6, .inl v_d_firstDry)), (m_d 7, .inl (cyI, 6, .inl v_d_total))] → va_S A s.heap H locs → lv_has ls 6 [(0, .ref h_c), (1, .ref h_d), (2, .int x2)] → W p l e ({ frames := 2, cells := 0, slots := 0, locals := 50 } : Room) s m ([.ref h_c, .ref h_d] : List Value).toArray below meth c H locs 0 0 Q (F0 m 2 ls [])) (v_c_lacked : (Nat → Int32)) (v_c_stack : (Nat → Int32)) (v_d_water : (Nat → Int32)) (v_d_salt : (Nat → Int64)) (v_d_took : (Nat → Int32)) (v_d_dryDays : (Nat → Int32)) (v_d_firstDry : (Nat → Int32)) (v_d_total : (Nat → Int32)) (x2 : Int32) (x3 : Int32) (x4 : Int32) (t0 : Int32), f_X0_takeTurns_b61 k2 v_c_today v_g_villages v_g_villageCell v_g_need v_g_lawEnd v_g_code v_p_wanting v_d_day v_d_seen v_c_lacked v_c_stack v_d_water v_d_salt v_d_took v_d_dryDays v_d_firstDry v_d_total x2 x3 x4 t0 = some out → ∀ (H : Heap) (locs : List Loc) (ls : Array Slot), va_P (dC, dI) vwCl [(h_c, .inr (0, oX0 m_c h_g h_p v_c_pumped v_c_today)), (m_c 2, .inl (cyZ, 6, .inl v_c_lacked)), (m_c 8, .inl (cyI, 16, .inl v_c_stack)), (h_g, .inr (3, oX3 m_g v_g_cells v_g_passes v_g_rivers v_g_villages v_g_rains)), (m_g 14, .inl (cyI, 6, .inl v_g_villageCell)), (m_g 15, .inl (cyI, 6, .inl v_g_need)), (m_g 16, .inl (cyI, 6, .inl v_g_lawEnd)), (m_g 17, .inl (cyI, 400, .inl v_g_code)), (h_p, .inr (4, oX4 m_p v_p_pumpCell v_p_pumpTakes v_p_pumpFrom v_p_pumpTo)), (m_p 0, .inl (cyI, 6, .inl v_p_wanting)), (h_d, .inr (1, oX1 m_d v_d_day)), (m_d 1, .inl (cyI, 12, .inl v_d_water)), (m_d 2, .inl (cyJ, 12, .inr (.inl v_d_salt))), (m_d 3, .inl (cyI, 12, .inl v_d_seen)), (m_d 4, .inl (cyI, 6, .inl v_d_took)), (m_d 5, .inl (cyI, 6, .inl v_d_dryDays)), (m_d 6, .inl (cyI, 6, .inl v_d_firstDry)), (m_d 7, .inl (cyI, 6, .inl v_d_total))] H → va_D A [(h_c, .inr (0, oX0 m_c h_g h_p v_c_pumped v_c_today)), (m_c 2, .inl (cyZ, 6, .inl v_c_lacked)), (m_c 8, .inl (cyI, 16, .inl v_c_stack)), (h_g, .inr (3, oX3 m_g v_g_cells v_g_passes v_g_rivers v_g_villages v_g_rains)), (m_g 14, .inl (cyI, 6, .inl v_g_villageCell)), (m_g 15, .inl (cyI, 6, .inl v_g_need)), (m_g 16, .inl (cyI, 6, .inl v_g_lawEnd)), (m_g 17, .inl (cyI, 400, .inl v_g_code)), (h_p, .inr (4, oX4 m_p v_p_pumpCell v_p_pumpTakes v_p_pumpFrom v_p_pumpTo)), (m_p 0, .inl (cyI, 6, .inl v_p_wanting)), (h_d, .inr (1, oX1 m_d v_d_day)), (m_d 1, .inl (cyI, 12, .inl v_d_water)), (m_d 2, .inl (cyJ, 12, .inr (.inl v_d_salt))), (m_d 3, .inl (cyI, 12, .inl v_d_seen)), (m_d 4, .inl (cyI, 6, .inl v_d_took)), (m_d 5, .inl (cyI, 6, .inl v_d_dryDays)), (m_d 6, .inl (cyI, 6, .inl v_d_firstDry)), (m_d 7, .inl (cyI, 6, .inl v_d_total))] → va_S A s.heap H locs → lv_has ls 6 [(0, .ref h_c), (1, .ref h_d), (2, .int x2), (3, .int x3), (4, .int x4)] → W p l e ({ frames := 2, cells := 0, slots := 0, locals := 50 } : Room) s m ([.ref h_c, .ref h_d] : List Value).toArray below meth c H locs 0 0 Q (F0 m 61 ls [.int t0]) := by
    intro k2 hk2 v_c_lacked v_c_stack v_d_water v_d_salt v_d_took v_d_dryDays v_d_firstDry v_d_total x2 x3 x4 t0 hf H locs ls hP hD hS hl
    unfold f_X0_takeTurns_b61 at hf
    refine lv_aload_n hx hb dX0_takeTurns_61 rfl (lv_at hl 1 rfl) ?_
    refine va_get (D := (dC, dI)) (ci := 1) (v := .ref (m_d 1)) (C := RX1) (T := TX1) (N := 8) hx hb hts (g_c inlX1) hown hK hP 10 rfl rfl 1 (by decide) (hts _ (List.mem_cons_of_mem _ wm_34_2)) (fun _ h9 => h9) rfl dX0_takeTurns_62 ?_
    refine lv_iload_n hx hb dX0_takeTurns_65 rfl (lv_at hl 3 rfl) ?_
    obtain ⟨h_1, hf⟩ := ck_some hf
    refine va_iald hx hb hK hP 11 0 rfl rfl (inb_in h_1) dX0_takeTurns_66 ?_
    refine va_mmin hx hb (hml.trans hl.1.symm) hown (hts _ (List.mem_cons_of_mem _ wm_34_21)) (hts _ (List.mem_cons_of_mem _ wm_12_6)) (hts _ (List.mem_cons_of_mem _ wm_12_7)) (hts _ (List.mem_cons_of_mem _ wm_12_8)) (Nat.le_of_ble_eq_true rfl) (Nat.le_of_ble_eq_true rfl) (Nat.le_of_ble_eq_true rfl) (Nat.le_of_ble_eq_true rfl) dX0_takeTurns_67 ?_
    obtain ⟨e_2, ee_2, hf⟩ := nm_some hf
    rw [← ee_2]
    refine lv_istore (lv' := [(5, .int e_2), (0, .ref h_c), (1, .ref h_d), (2, .int x2), (3, .int x3), (4, .int x4)]) hx hb dX0_takeTurns_70 hl (by decide) rfl (fun ls hl => ?_)
    refine lv_aload_n hx hb dX0_takeTurns_72 rfl (lv_at hl 1 rfl) ?_
    refine va_get (D := (dC, dI)) (ci := 0) (v := .ref (m_c 2)) (C := RX0) (T := TX0) (N := 9) hx hb hts (g_c inlX0) hown hK hP 0 rfl rfl 2 (by decide) (hts _ (List.mem_cons_of_mem _ wm_5_6)) (fun _ h9 => h9) rfl dX0_takeTurns_73 ?_
    refine lv_iload_n hx hb dX0_takeTurns_76 rfl (lv_at hl 3 rfl) ?_
    refine lv_iload hx hb dX0_takeTurns_77 (lv_at hl 0 rfl) ?_
    refine lv_aload_n hx hb dX0_takeTurns_79 rfl (lv_at hl 1 rfl) ?_
    refine va_get (D := (dC, dI)) (ci := 0) (v := .ref h_g) (C := RX0) (T := TX0) (N := 9) hx hb hts (g_c inlX0) hown hK hP 0 rfl rfl 0 (by decide) (hts _ (List.mem_cons_of_mem _ wm_5_13)) (fun _ h9 => h9) rfl dX0_takeTurns_80 ?_
    refine va_get (D := (dC, dI)) (ci := 3) (v := .ref (m_g 15)) (C := RX3) (T := TX3) (N := 20) hx hb hts (g_c inlX3) hown hK hP 3 rfl rfl 15 (by decide) (hts _ (List.mem_cons_of_mem _ wm_37_13)) (fun _ h9 => h9) rfl dX0_takeTurns_83 ?_
    refine lv_iload_n hx hb dX0_takeTurns_86 rfl (lv_at hl 3 rfl) ?_
    obtain ⟨h_3, hf⟩ := ck_some hf
    refine va_iald hx hb hK hP 5 0 rfl rfl (inb_in h_3) dX0_takeTurns_87 ?_
    refine lv_icmp_ge (tgt := 95) hx hb dX0_takeTurns_88 (by decide) (fun c_4 => ?_) (fun c_4 => ?_)
    · have hf := (if_pos c_4).symm.trans hf
      refine lv_iconst (v := (0 : Int32)) hx hb dX0_takeTurns_95 (by decide) ?_
      exact hb_96 _ hk2 _ _ _ _ _ _ _ _ _ _ _ _ _ _ hf _ _ _ hP hD hS (lv_sub hl [1, 2, 3, 4, 5, 0] rfl)
    · have hf := (if_neg c_4).symm.trans hf
      refine lv_iconst (v := (1 : Int32)) hx hb dX0_takeTurns_91 (by decide) ?_
      refine lv_goto (tgt := 96) hx hb dX0_takeTurns_92 (by decide) ?_
      exact hb_96 _ hk2 _ _ _ _ _ _ _ _ _ _ _ _ _ _ hf _ _ _ hP hD hS (lv_sub hl [1, 2, 3, 4, 5, 0] rfl)
  have hb_42 : ∀ (k2 : (Nat → Int32) → (Nat → Int32) → (Nat → Int32) → (Nat → Int64) → (Nat → Int32) → (Nat → Int32) → (Nat → Int32) → (Nat → Int32) → Int32 → Option ((Nat → Int32) × (Nat → Int32) × (Nat → Int32) × (Nat → Int64) × (Nat → Int32) × (Nat → Int32) × (Nat → Int32) × (Nat → Int32))) (hk2 : ∀ (v_c_lacked : (Nat → Int32)) (v_c_stack : (Nat → Int32)) (v_d_water : (Nat → Int32)) (v_d_salt : (Nat → Int64)) (v_d_took : (Nat → Int32)) (v_d_dryDays : (Nat → Int32)) (v_d_firstDry : (Nat → Int32)) (v_d_total : (Nat → Int32)) (x2 : Int32), k2 v_c_lacked v_c_stack v_d_water v_d_salt v_d_took v_d_dryDays v_d_firstDry v_d_total x2 = some out → ∀ (H : Heap) (locs : List Loc) (ls : Array Slot), va_P (dC, dI) vwCl [(h_c, .inr (0, oX0 m_c h_g h_p v_c_pumped v_c_today)), (m_c 2, .inl (cyZ, 6, .inl v_c_lacked)), (m_c 8, .inl (cyI, 16, .inl v_c_stack)), (h_g, .inr (3, oX3 m_g v_g_cells v_g_passes v_g_rivers v_g_villages v_g_rains)), (m_g 14, .inl (cyI, 6, .inl v_g_villageCell)), (m_g 15, .inl (cyI, 6, .inl v_g_need)), (m_g 16, .inl (cyI, 6, .inl v_g_lawEnd)), (m_g 17, .inl (cyI, 400, .inl v_g_code)), (h_p, .inr (4, oX4 m_p v_p_pumpCell v_p_pumpTakes v_p_pumpFrom v_p_pumpTo)), (m_p 0, .inl (cyI, 6, .inl v_p_wanting)), (h_d, .inr (1, oX1 m_d v_d_day)), (m_d 1, .inl (cyI, 12, .inl v_d_water)), (m_d 2, .inl (cyJ, 12, .inr (.inl v_d_salt))), (m_d 3, .inl (cyI, 12, .inl v_d_seen)), (m_d 4, .inl (cyI, 6, .inl v_d_took)), (m_d 5, .inl (cyI, 6, .inl v_d_dryDays)), (m_d 6, .inl (cyI, 6, .inl v_d_firstDry)), (m_d 7, .inl (cyI, 6, .inl v_d_total))] H → va_D A [(h_c, .inr (0, oX0 m_c h_g h_p v_c_pumped v_c_today)), (m_c 2, .inl (cyZ, 6, .inl v_c_lacked)), (m_c 8, .inl (cyI, 16, .inl v_c_stack)), (h_g, .inr (3, oX3 m_g v_g_cells v_g_passes v_g_rivers v_g_villages v_g_rains)), (m_g 14, .inl (cyI, 6, .inl v_g_villageCell)), (m_g 15, .inl (cyI, 6, .inl v_g_need)), (m_g 16, .inl (cyI, 6, .inl v_g_lawEnd)), (m_g 17, .inl (cyI, 400, .inl v_g_code)), (h_p, .inr (4, oX4 m_p v_p_pumpCell v_p_pumpTakes v_p_pumpFrom v_p_pumpTo)), (m_p 0, .inl (cyI, 6, .inl v_p_wanting)), (h_d, .inr (1, oX1 m_d v_d_day)), (m_d 1, .inl (cyI, 12, .inl v_d_water)), (m_d 2, .inl (cyJ, 12, .inr (.inl v_d_salt))), (m_d 3, .inl (cyI, 12, .inl v_d_seen)), (m_d 4, .inl (cyI, 6, .inl v_d_took)), (m_d 5, .inl (cyI, 6, .inl v_d_dryDays)), (m_d 6, .inl (cyI, 6, .inl v_d_firstDry)), (m_d 7, .inl (cyI, 6, .inl v_d_total))] → va_S A s.heap H locs → lv_has ls 6 [(0, .ref h_c), (1, .ref h_d), (2, .int x2)] → W p l e ({ frames := 2, cells := 0, slots := 0, locals := 50 } : Room) s m ([.ref h_c, .ref h_d] : List Value).toArray below meth c H locs 0 0 Q (F0 m 2 ls [])) (v_c_lacked : (Nat → Int32)) (v_c_stack : (Nat → Int32)) (v_d_water : (Nat → Int32)) (v_d_salt : (Nat → Int64)) (v_d_took : (Nat → Int32)) (v_d_dryDays : (Nat → Int32)) (v_d_firstDry : (Nat → Int32)) (v_d_total : (Nat → Int32)) (x2 : Int32) (x3 : Int32) (t0 : Int32), f_X0_takeTurns_b42 k2 v_c_today v_g_villages v_g_villageCell v_g_need v_g_lawEnd v_g_code v_p_wanting v_d_day v_d_seen v_c_lacked v_c_stack v_d_water v_d_salt v_d_took v_d_dryDays v_d_firstDry v_d_total x2 x3 t0 = some out → ∀ (H : Heap) (locs : List Loc) (ls : Array Slot), va_P (dC, dI) vwCl [(h_c, .inr (0, oX0 m_c h_g h_p v_c_pumped v_c_today)), (m_c 2, .inl (cyZ, 6, .inl v_c_lacked)), (m_c 8, .inl (cyI, 16, .inl v_c_stack)), (h_g, .inr (3, oX3 m_g v_g_cells v_g_passes v_g_rivers v_g_villages v_g_rains)), (m_g 14, .inl (cyI, 6, .inl v_g_villageCell)), (m_g 15, .inl (cyI, 6, .inl v_g_need)), (m_g 16, .inl (cyI, 6, .inl v_g_lawEnd)), (m_g 17, .inl (cyI, 400, .inl v_g_code)), (h_p, .inr (4, oX4 m_p v_p_pumpCell v_p_pumpTakes v_p_pumpFrom v_p_pumpTo)), (m_p 0, .inl (cyI, 6, .inl v_p_wanting)), (h_d, .inr (1, oX1 m_d v_d_day)), (m_d 1, .inl (cyI, 12, .inl v_d_water)), (m_d 2, .inl (cyJ, 12, .inr (.inl v_d_salt))), (m_d 3, .inl (cyI, 12, .inl v_d_seen)), (m_d 4, .inl (cyI, 6, .inl v_d_took)), (m_d 5, .inl (cyI, 6, .inl v_d_dryDays)), (m_d 6, .inl (cyI, 6, .inl v_d_firstDry)), (m_d 7, .inl (cyI, 6, .inl v_d_total))] H → va_D A [(h_c, .inr (0, oX0 m_c h_g h_p v_c_pumped v_c_today)), (m_c 2, .inl (cyZ, 6, .inl v_c_lacked)), (m_c 8, .inl (cyI, 16, .inl v_c_stack)), (h_g, .inr (3, oX3 m_g v_g_cells v_g_passes v_g_rivers v_g_villages v_g_rains)), (m_g 14, .inl (cyI, 6, .inl v_g_villageCell)), (m_g 15, .inl (cyI, 6, .inl v_g_need)), (m_g 16, .inl (cyI, 6, .inl v_g_lawEnd)), (m_g 17, .inl (cyI, 400, .inl v_g_code)), (h_p, .inr (4, oX4 m_p v_p_pumpCell v_p_pumpTakes v_p_pumpFrom v_p_pumpTo)), (m_p 0, .inl (cyI, 6, .inl v_p_wanting)), (h_d, .inr (1, oX1 m_d v_d_day)), (m_d 1, .inl (cyI, 12, .inl v_d_water)), (m_d 2, .inl (cyJ, 12, .inr (.inl v_d_salt))), (m_d 3, .inl (cyI, 12, .inl v_d_seen)), (m_d 4, .inl (cyI, 6, .inl v_d_took)), (m_d 5, .inl (cyI, 6, .inl v_d_dryDays)), (m_d 6, .inl (cyI, 6, .inl v_d_firstDry)), (m_d 7, .inl (cyI, 6, .inl v_d_total))] → va_S A s.heap H locs → lv_has ls 6 [(0, .ref h_c), (1, .ref h_d), (2, .int x2), (3, .int x3)] → W p l e ({ frames := 2, cells := 0, slots := 0, locals := 50 } : Room) s m ([.ref h_c, .ref h_d] : List Value).toArray below meth c H locs 0 0 Q (F0 m 42 ls [.int t0]) := by
    intro k2 hk2 v_c_lacked v_c_stack v_d_water v_d_salt v_d_took v_d_dryDays v_d_firstDry v_d_total x2 x3 t0 hf H locs ls hP hD hS hl
    unfold f_X0_takeTurns_b42 at hf
    refine lv_istore (lv' := [(4, .int t0), (0, .ref h_c), (1, .ref h_d), (2, .int x2), (3, .int x3)]) hx hb dX0_takeTurns_42 hl (by decide) rfl (fun ls hl => ?_)
    refine lv_iload hx hb dX0_takeTurns_44 (lv_at hl 0 rfl) ?_
    refine lv_if_eq (tgt := 58) hx hb dX0_takeTurns_46 (by decide) (fun c_1 => ?_) (fun c_1 => ?_)
    · have hf := (if_pos c_1).symm.trans hf
      refine lv_sipush (v := (999 : Int32)) hx hb dX0_takeTurns_58 (by decide) ?_
      exact hb_61 _ hk2 _ _ _ _ _ _ _ _ _ _ _ _ hf _ _ _ hP hD hS (lv_sub hl [1, 2, 3, 4, 0] rfl)
    · have hf := (if_neg c_1).symm.trans hf
      refine lv_aload_n hx hb dX0_takeTurns_49 rfl (lv_at hl 1 rfl) ?_
      refine lv_aload_n hx hb dX0_takeTurns_50 rfl (lv_at hl 2 rfl) ?_
      refine lv_iload_n hx hb dX0_takeTurns_51 rfl (lv_at hl 3 rfl) ?_
      obtain ⟨o_2, ho_2, hf⟩ := bd_some hf
      obtain ⟨o_2_0, o_2_1⟩ := o_2
      have hf := un2_some hf
      refine ux_Vi (n := 2) (As := [.ref h_d, .int x2]) (rest := []) (wc := [(h_c, .inr (0, oX0 m_c h_g h_p v_c_pumped v_c_today)), (m_c 8, .inl (cyI, 16, .inl v_c_stack)), (h_g, .inr (3, oX3 m_g v_g_cells v_g_passes v_g_rivers v_g_villages v_g_rains)), (m_g 16, .inl (cyI, 6, .inl v_g_lawEnd)), (m_g 17, .inl (cyI, 400, .inl v_g_code)), (h_p, .inr (4, oX4 m_p v_p_pumpCell v_p_pumpTakes v_p_pumpFrom v_p_pumpTo)), (m_p 0, .inl (cyI, 6, .inl v_p_wanting)), (h_d, .inr (1, oX1 m_d v_d_day)), (m_d 3, .inl (cyI, 12, .inl v_d_seen)), (m_d 4, .inl (cyI, 6, .inl v_d_took)), (m_d 5, .inl (cyI, 6, .inl v_d_dryDays))]) (wr := [_, _, _, _, _, _, _]) ⟨hx, hb, hml, hown, hts⟩ hK hP hD hS hA hE [0, 2, 3, 6, 7, 8, 9, 10, 13, 14, 15] [1, 4, 5, 11, 12, 16, 17] (sg_h [(0, 1), (2, 2), (6, 5), (13, 3)] 18 rfl sk_z13_16 rfl) (sg_h [(1, 1), (4, 2), (11, 2), (16, 2)] 18 rfl sk_z13_17 rfl) nd_z13_15 nd_z13_16 nj_z13_6 (c_X0_wantOf l dC dI cyI cyJ cyZ cyB cyO tO vF adK adV h_c m_c h_g m_g h_p m_p h_d m_d v_c_pumped v_c_today v_c_stack v_g_cells v_g_passes v_g_rivers v_g_villages v_g_rains v_g_lawEnd v_g_code v_p_pumpCell v_p_pumpTakes v_p_pumpFrom v_p_pumpTo v_p_wanting v_d_day v_d_seen v_d_took v_d_dryDays x2 _ _ ho_2) 0 0 rfl rfl wm_37_15 wm_34_15 wm_34_16 wm_2_6 wm_34_17 ⟨rfl, rfl⟩ (by decide +kernel) rfl ⟨Nat.le_of_ble_eq_true rfl, Nat.le_of_ble_eq_true rfl⟩ hl.1 rfl (Nat.le_of_ble_eq_true rfl) dX0_takeTurns_52 ⟨Nat.le_of_ble_eq_true rfl, Nat.le_of_ble_eq_true rfl⟩ (fun H locs hP hD hS => ?_)
      have hP : va_P (dC, dI) vwCl [_, _, _, _, _, _, _, (h_c, .inr (0, oX0 m_c h_g h_p v_c_pumped v_c_today)), (m_c 8, .inl (cyI, 16, .inl o_2_1)), (h_g, .inr (3, oX3 m_g v_g_cells v_g_passes v_g_rivers v_g_villages v_g_rains)), (m_g 16, .inl (cyI, 6, .inl v_g_lawEnd)), (m_g 17, .inl (cyI, 400, .inl v_g_code)), (h_p, .inr (4, oX4 m_p v_p_pumpCell v_p_pumpTakes v_p_pumpFrom v_p_pumpTo)), (m_p 0, .inl (cyI, 6, .inl v_p_wanting)), (h_d, .inr (1, oX1 m_d v_d_day)), (m_d 3, .inl (cyI, 12, .inl v_d_seen)), (m_d 4, .inl (cyI, 6, .inl v_d_took)), (m_d 5, .inl (cyI, 6, .inl v_d_dryDays))] H := hP
      have hD : va_D A [_, _, _, _, _, _, _, (h_c, .inr (0, oX0 m_c h_g h_p v_c_pumped v_c_today)), (m_c 8, .inl (cyI, 16, .inl o_2_1)), (h_g, .inr (3, oX3 m_g v_g_cells v_g_passes v_g_rivers v_g_villages v_g_rains)), (m_g 16, .inl (cyI, 6, .inl v_g_lawEnd)), (m_g 17, .inl (cyI, 400, .inl v_g_code)), (h_p, .inr (4, oX4 m_p v_p_pumpCell v_p_pumpTakes v_p_pumpFrom v_p_pumpTo)), (m_p 0, .inl (cyI, 6, .inl v_p_wanting)), (h_d, .inr (1, oX1 m_d v_d_day)), (m_d 3, .inl (cyI, 12, .inl v_d_seen)), (m_d 4, .inl (cyI, 6, .inl v_d_took)), (m_d 5, .inl (cyI, 6, .inl v_d_dryDays))] := hD
      refine lv_goto (tgt := 61) hx hb dX0_takeTurns_55 (by decide) ?_
      exact hb_61 _ hk2 _ _ _ _ _ _ _ _ _ _ _ _ hf _ _ _ (hP.sub [7, 0, 8, 9, 1, 2, 10, 11, 12, 13, 14, 3, 4, 15, 16, 17, 5, 6] (ux_pick (sg_h [(7, 1), (0, 1), (8, 2), (1, 2), (10, 5), (3, 2), (15, 3), (5, 2)] 18 rfl sk_z13_18 rfl))) (hD.sub [7, 0, 8, 9, 1, 2, 10, 11, 12, 13, 14, 3, 4, 15, 16, 17, 5, 6] nd_z13_17 (sg_h [(7, 1), (0, 1), (8, 2), (1, 2), (10, 5), (3, 2), (15, 3), (5, 2)] 18 rfl sk_z13_18 rfl)) hS (lv_sub hl [1, 2, 3, 4, 0] rfl)
  have hb_2 : ∀ (n : Nat) (v_c_lacked : (Nat → Int32)) (v_c_stack : (Nat → Int32)) (v_d_water : (Nat → Int32)) (v_d_salt : (Nat → Int64)) (v_d_took : (Nat → Int32)) (v_d_dryDays : (Nat → Int32)) (v_d_firstDry : (Nat → Int32)) (v_d_total : (Nat → Int32)) (x2 : Int32), f_X0_takeTurns_b2 v_c_today v_g_villages v_g_villageCell v_g_need v_g_lawEnd v_g_code v_p_wanting v_d_day v_d_seen n v_c_lacked v_c_stack v_d_water v_d_salt v_d_took v_d_dryDays v_d_firstDry v_d_total x2 = some out → ∀ (H : Heap) (locs : List Loc) (ls : Array Slot), va_P (dC, dI) vwCl [(h_c, .inr (0, oX0 m_c h_g h_p v_c_pumped v_c_today)), (m_c 2, .inl (cyZ, 6, .inl v_c_lacked)), (m_c 8, .inl (cyI, 16, .inl v_c_stack)), (h_g, .inr (3, oX3 m_g v_g_cells v_g_passes v_g_rivers v_g_villages v_g_rains)), (m_g 14, .inl (cyI, 6, .inl v_g_villageCell)), (m_g 15, .inl (cyI, 6, .inl v_g_need)), (m_g 16, .inl (cyI, 6, .inl v_g_lawEnd)), (m_g 17, .inl (cyI, 400, .inl v_g_code)), (h_p, .inr (4, oX4 m_p v_p_pumpCell v_p_pumpTakes v_p_pumpFrom v_p_pumpTo)), (m_p 0, .inl (cyI, 6, .inl v_p_wanting)), (h_d, .inr (1, oX1 m_d v_d_day)), (m_d 1, .inl (cyI, 12, .inl v_d_water)), (m_d 2, .inl (cyJ, 12, .inr (.inl v_d_salt))), (m_d 3, .inl (cyI, 12, .inl v_d_seen)), (m_d 4, .inl (cyI, 6, .inl v_d_took)), (m_d 5, .inl (cyI, 6, .inl v_d_dryDays)), (m_d 6, .inl (cyI, 6, .inl v_d_firstDry)), (m_d 7, .inl (cyI, 6, .inl v_d_total))] H → va_D A [(h_c, .inr (0, oX0 m_c h_g h_p v_c_pumped v_c_today)), (m_c 2, .inl (cyZ, 6, .inl v_c_lacked)), (m_c 8, .inl (cyI, 16, .inl v_c_stack)), (h_g, .inr (3, oX3 m_g v_g_cells v_g_passes v_g_rivers v_g_villages v_g_rains)), (m_g 14, .inl (cyI, 6, .inl v_g_villageCell)), (m_g 15, .inl (cyI, 6, .inl v_g_need)), (m_g 16, .inl (cyI, 6, .inl v_g_lawEnd)), (m_g 17, .inl (cyI, 400, .inl v_g_code)), (h_p, .inr (4, oX4 m_p v_p_pumpCell v_p_pumpTakes v_p_pumpFrom v_p_pumpTo)), (m_p 0, .inl (cyI, 6, .inl v_p_wanting)), (h_d, .inr (1, oX1 m_d v_d_day)), (m_d 1, .inl (cyI, 12, .inl v_d_water)), (m_d 2, .inl (cyJ, 12, .inr (.inl v_d_salt))), (m_d 3, .inl (cyI, 12, .inl v_d_seen)), (m_d 4, .inl (cyI, 6, .inl v_d_took)), (m_d 5, .inl (cyI, 6, .inl v_d_dryDays)), (m_d 6, .inl (cyI, 6, .inl v_d_firstDry)), (m_d 7, .inl (cyI, 6, .inl v_d_total))] → va_S A s.heap H locs → lv_has ls 6 [(0, .ref h_c), (1, .ref h_d), (2, .int x2)] → W p l e ({ frames := 2, cells := 0, slots := 0, locals := 50 } : Room) s m ([.ref h_c, .ref h_d] : List Value).toArray below meth c H locs 0 0 Q (F0 m 2 ls []) := by
    intro  n
    induction n with
    | zero =>
      intro v_c_lacked v_c_stack v_d_water v_d_salt v_d_took v_d_dryDays v_d_firstDry v_d_total x2 hf
      exact no_some hf
    | succ n ih =>
      intro v_c_lacked v_c_stack v_d_water v_d_salt v_d_took v_d_dryDays v_d_firstDry v_d_total x2 hf H locs ls hP hD hS hl
      have hf : f_X0_takeTurns_b2_st (f_X0_takeTurns_b2 v_c_today v_g_villages v_g_villageCell v_g_need v_g_lawEnd v_g_code v_p_wanting v_d_day v_d_seen n) v_c_today v_g_villages v_g_villageCell v_g_need v_g_lawEnd v_g_code v_p_wanting v_d_day v_d_seen v_c_lacked v_c_stack v_d_water v_d_salt v_d_took v_d_dryDays v_d_firstDry v_d_total x2 = some out := hf
      unfold f_X0_takeTurns_b2_st at hf
      refine lv_iload_n hx hb dX0_takeTurns_2 rfl (lv_at hl 2 rfl) ?_
      refine lv_aload_n hx hb dX0_takeTurns_3 rfl (lv_at hl 0 rfl) ?_
      refine va_get (D := (dC, dI)) (ci := 0) (v := .ref h_g) (C := RX0) (T := TX0) (N := 9) hx hb hts (g_c inlX0) hown hK hP 0 rfl rfl 0 (by decide) (hts _ (List.mem_cons_of_mem _ wm_5_13)) (fun _ h9 => h9) rfl dX0_takeTurns_4 ?_
      refine va_get (D := (dC, dI)) (ci := 3) (v := .int v_g_villages) (C := RX3) (T := TX3) (N := 20) hx hb hts (g_c inlX3) hown hK hP 3 rfl rfl 13 (by decide) (hts _ (List.mem_cons_of_mem _ wm_37_11)) (fun _ h9 => h9) rfl dX0_takeTurns_7 ?_
      refine lv_icmp_ge (tgt := 165) hx hb dX0_takeTurns_10 (by decide) (fun c_1 => ?_) (fun c_1 => ?_)
      · have hf := (if_pos c_1).symm.trans hf
        exact hret _ _ _ _ (v_c_lacked, v_c_stack, v_d_water, v_d_salt, v_d_took, v_d_dryDays, v_d_firstDry, v_d_total) dX0_takeTurns_165 (Option.some.inj hf) hP hD hS
      · have hf := (if_neg c_1).symm.trans hf
        refine lv_aload_n hx hb dX0_takeTurns_13 rfl (lv_at hl 0 rfl) ?_
        refine va_get (D := (dC, dI)) (ci := 0) (v := .ref h_g) (C := RX0) (T := TX0) (N := 9) hx hb hts (g_c inlX0) hown hK hP 0 rfl rfl 0 (by decide) (hts _ (List.mem_cons_of_mem _ wm_5_13)) (fun _ h9 => h9) rfl dX0_takeTurns_14 ?_
        refine va_get (D := (dC, dI)) (ci := 3) (v := .ref (m_g 14)) (C := RX3) (T := TX3) (N := 20) hx hb hts (g_c inlX3) hown hK hP 3 rfl rfl 14 (by decide) (hts _ (List.mem_cons_of_mem _ wm_37_12)) (fun _ h9 => h9) rfl dX0_takeTurns_17 ?_
        refine lv_iload_n hx hb dX0_takeTurns_20 rfl (lv_at hl 2 rfl) ?_
        obtain ⟨h_2, hf⟩ := ck_some hf
        refine va_iald hx hb hK hP 4 0 rfl rfl (inb_in h_2) dX0_takeTurns_21 ?_
        refine lv_istore_n (lv' := [(3, .int (v_g_villageCell x2.toNatClampNeg)), (0, .ref h_c), (1, .ref h_d), (2, .int x2)]) hx hb dX0_takeTurns_22 rfl hl (by decide) rfl (fun ls hl => ?_)
        refine lv_aload_n hx hb dX0_takeTurns_23 rfl (lv_at hl 1 rfl) ?_
        refine va_get (D := (dC, dI)) (ci := 0) (v := .ref h_p) (C := RX0) (T := TX0) (N := 9) hx hb hts (g_c inlX0) hown hK hP 0 rfl rfl 1 (by decide) (hts _ (List.mem_cons_of_mem _ wm_5_14)) (fun _ h9 => h9) rfl dX0_takeTurns_24 ?_
        refine va_get (D := (dC, dI)) (ci := 4) (v := .ref (m_p 0)) (C := RX4) (T := TX4) (N := 8) hx hb hts (g_c inlX4) hown hK hP 8 rfl rfl 0 (by decide) (hts _ (List.mem_cons_of_mem _ wm_34_18)) (fun _ h9 => h9) rfl dX0_takeTurns_27 ?_
        refine lv_iload_n hx hb dX0_takeTurns_30 rfl (lv_at hl 3 rfl) ?_
        obtain ⟨h_3, hf⟩ := ck_some hf
        refine va_iald hx hb hK hP 9 0 rfl rfl (inb_in h_3) dX0_takeTurns_31 ?_
        refine lv_bipush (v := (-2 : Int32)) hx hb dX0_takeTurns_32 (by decide) ?_
        refine lv_icmp_eq (tgt := 41) hx hb dX0_takeTurns_34 (by decide) (fun c_4 => ?_) (fun c_4 => ?_)
        · have hf := (if_pos c_4).symm.trans hf
          refine lv_iconst (v := (0 : Int32)) hx hb dX0_takeTurns_41 (by decide) ?_
          exact hb_42 _ ih _ _ _ _ _ _ _ _ _ _ _ hf _ _ _ hP hD hS (lv_sub hl [1, 2, 3, 0] rfl)
        · have hf := (if_neg c_4).symm.trans hf
          refine lv_iconst (v := (1 : Int32)) hx hb dX0_takeTurns_37 (by decide) ?_
          refine lv_goto (tgt := 42) hx hb dX0_takeTurns_38 (by decide) ?_
          exact hb_42 _ ih _ _ _ _ _ _ _ _ _ _ _ hf _ _ _ hP hD hS (lv_sub hl [1, 2, 3, 0] rfl)
  unfold f_X0_takeTurns at hf
  refine lv_iconst (v := (0 : Int32)) hx hb dX0_takeTurns_0 (by decide) ?_
  refine lv_istore_n (lv' := [(2, .int (0 : Int32)), (0, .ref h_c), (1, .ref h_d)]) hx hb dX0_takeTurns_1 rfl hl (by decide) rfl (fun ls hl => ?_)
  exact hb_2 _ _ _ _ _ _ _ _ _ _ hf _ _ _ hP hD hS (lv_sub hl [1, 2, 0] rfl)
def f_X0_takeByPump (v_p_pumpCell : Int32) (v_p_pumpTakes : Int32) (v_p_pumpFrom : Int32) (v_p_pumpTo : Int32) (v_d_day : Int32) (v_c_pumped : Int32) (v_d_water : (Nat → Int32)) (v_d_salt : (Nat → Int64)) : Option (Int32 × (Nat → Int32) × (Nat → Int64)) := bd (f_X4_pumpsOn v_p_pumpCell v_p_pumpFrom v_p_pumpTo v_d_day) (fun o_1 => if o_1 = (0 : Int32) then (some ((0 : Int32), v_d_water, v_d_salt)) else (ck (inb v_p_pumpCell 12) (nm ((if (v_d_water v_p_pumpCell.toNatClampNeg) < v_p_pumpTakes then (v_d_water v_p_pumpCell.toNatClampNeg) else v_p_pumpTakes)) (fun e_4 => bd (f_X1_draw v_d_water v_d_salt v_p_pumpCell e_4) (fun o_5 => un2 o_5 (fun o_5_0 o_5_1 => some (e_4, o_5_0, o_5_1)))))))
set_option maxRecDepth 100000 in
set_option maxHeartbeats 8000000 in
theorem c_X0_takeByPump (l : Launch) (dC : Nat → ClassId) (dI : Nat → Nat → Nat) (cyI cyJ cyZ cyB cyO : ClassId) (tO : Nat) (vF : Value) (adK adV : Nat → Nat) (h_c : Nat) (m_c : Nat → Nat) (h_g : Nat) (m_g : Nat → Nat) (h_p : Nat) (m_p : Nat → Nat) (h_d : Nat) (m_d : Nat → Nat) (v_c_pumped : Int32) (v_c_today : Int32) (v_p_pumpCell : Int32) (v_p_pumpTakes : Int32) (v_p_pumpFrom : Int32) (v_p_pumpTo : Int32) (v_d_day : Int32) (v_d_water : (Nat → Int32)) (v_d_salt : (Nat → Int64))  (sz : Nat) (out : Int32 × (Nat → Int32) × (Nat → Int64)) (hf : f_X0_takeByPump v_p_pumpCell v_p_pumpTakes v_p_pumpFrom v_p_pumpTo v_d_day v_c_pumped v_d_water v_d_salt = some out) : Met l yX0_takeByPump (Cond.code yX0_takeByPump cX0_takeByPump 2 none :: wsL_law) ({ frames := 1, cells := 0, slots := 0, locals := 24 } : Room) (va_Pc [.ref h_c, .ref h_d] (ux_pre (dC, dI) vwCl (tyG cyI cyJ cyZ cyB cyO) [(h_c, .inr (0, oX0 m_c h_g h_p v_c_pumped v_c_today)), (h_p, .inr (4, oX4 m_p v_p_pumpCell v_p_pumpTakes v_p_pumpFrom v_p_pumpTo)), (h_d, .inr (1, oX1 m_d v_d_day)), (m_d 1, .inl (cyI, 12, .inl v_d_water)), (m_d 2, .inl (cyJ, 12, .inr (.inl v_d_salt)))] sz (xE tO vF adK adV))) (va_Qv (fun u : Int32 × (Nat → Int32) × (Nat → Int64) => u = out) (ux_at (dC, dI) vwCl (tyG cyI cyJ cyZ cyB cyO) [(h_c, .inr (0, oX0 m_c h_g h_p v_c_pumped v_c_today)), (h_p, .inr (4, oX4 m_p v_p_pumpCell v_p_pumpTakes v_p_pumpFrom v_p_pumpTo)), (h_d, .inr (1, oX1 m_d v_d_day)), (m_d 1, .inl (cyI, 12, .inl v_d_water)), (m_d 2, .inl (cyJ, 12, .inr (.inl v_d_salt)))] sz (fun u : Int32 × (Nat → Int32) × (Nat → Int64) => [(h_c, .inr (0, oX0 m_c h_g h_p u.1 v_c_today)), (h_p, .inr (4, oX4 m_p v_p_pumpCell v_p_pumpTakes v_p_pumpFrom v_p_pumpTo)), (h_d, .inr (1, oX1 m_d v_d_day)), (m_d 1, .inl (cyI, 12, .inl u.2.1)), (m_d 2, .inl (cyJ, 12, .inr (.inl u.2.2)))])) (va_A [(h_c, .inr (0, oX0 m_c h_g h_p v_c_pumped v_c_today)), (h_p, .inr (4, oX4 m_p v_p_pumpCell v_p_pumpTakes v_p_pumpFrom v_p_pumpTo)), (h_d, .inr (1, oX1 m_d v_d_day)), (m_d 1, .inl (cyI, 12, .inl v_d_water)), (m_d 2, .inl (cyJ, 12, .inr (.inl v_d_salt)))] sz)) 0 0 (va_A [(h_c, .inr (0, oX0 m_c h_g h_p v_c_pumped v_c_today)), (h_p, .inr (4, oX4 m_p v_p_pumpCell v_p_pumpTakes v_p_pumpFrom v_p_pumpTo)), (h_d, .inr (1, oX1 m_d v_d_day)), (m_d 1, .inl (cyI, 12, .inl v_d_water)), (m_d 2, .inl (cyJ, 12, .inr (.inl v_d_salt)))] sz) := by
  refine ux_metv (by decide +kernel) (Nat.le_of_ble_eq_true rfl) ?_
  intro p e s m below meth c A Q ls hx hb hml hts hown hA hP hK hD hE hl hret
  have hown : s.vm.findClass RX0 = some m.cls := hown
  have hS : va_S A s.heap s.heap [] := va_S.rf
  have hl : lv_has ls 2 [(0, .ref h_c), (1, .ref h_d)] := hl
  unfold f_X0_takeByPump at hf
  refine lv_aload_n hx hb dX0_takeByPump_0 rfl (lv_at hl 0 rfl) ?_
  refine lv_iconst (v := (0 : Int32)) hx hb dX0_takeByPump_1 (by decide) ?_
  refine va_put (D := (dC, dI)) (ci := 0) (v := .int (0 : Int32)) (ty := .int) (C := RX0) (T := TX0) (N := 9) hx hb hts (g_c inlX0) tyX0 tyX0_ok nmX0 hown hK hP hD hS 0 rfl rfl 3 (by decide) (hts _ (List.mem_cons_of_mem _ wm_5_7)) (fun _ h9 => h9) rfl (by decide +kernel) rfl rfl (Nat.le_of_ble_eq_true rfl) dX0_takeByPump_2 (fun H locs hP hD hS => ?_)
  have hP : va_P (dC, dI) vwCl [(h_c, .inr (0, oX0 m_c h_g h_p (0 : Int32) v_c_today)), (h_p, .inr (4, oX4 m_p v_p_pumpCell v_p_pumpTakes v_p_pumpFrom v_p_pumpTo)), (h_d, .inr (1, oX1 m_d v_d_day)), _, _] H := hP
  have hD : va_D A [(h_c, .inr (0, oX0 m_c h_g h_p (0 : Int32) v_c_today)), (h_p, .inr (4, oX4 m_p v_p_pumpCell v_p_pumpTakes v_p_pumpFrom v_p_pumpTo)), (h_d, .inr (1, oX1 m_d v_d_day)), _, _] := hD
  refine lv_aload_n hx hb dX0_takeByPump_5 rfl (lv_at hl 0 rfl) ?_
  refine va_get (D := (dC, dI)) (ci := 0) (v := .ref h_p) (C := RX0) (T := TX0) (N := 9) hx hb hts (g_c inlX0) hown hK hP 0 rfl rfl 1 (by decide) (hts _ (List.mem_cons_of_mem _ wm_5_14)) (fun _ h9 => h9) rfl dX0_takeByPump_6 ?_
  refine lv_aload_n hx hb dX0_takeByPump_9 rfl (lv_at hl 1 rfl) ?_
  refine va_get (D := (dC, dI)) (ci := 1) (v := .int v_d_day) (C := RX1) (T := TX1) (N := 8) hx hb hts (g_c inlX1) hown hK hP 2 rfl rfl 0 (by decide) (hts _ (List.mem_cons_of_mem _ wm_33_23)) (fun _ h9 => h9) rfl dX0_takeByPump_10 ?_
  obtain ⟨o_1, ho_1, hf⟩ := bd_some hf
  refine ux_Vi0 (n := 1) (As := [.int v_d_day]) (rest := []) (wc := [(h_p, .inr (4, oX4 m_p v_p_pumpCell v_p_pumpTakes v_p_pumpFrom v_p_pumpTo))]) (wr := [_, _, _, _]) ⟨hx, hb, hml, hown, hts⟩ hK hP hD hS hA hE [1] [0, 2, 3, 4] (sg_h [(1, 1)] 5 rfl sk_z13_19 rfl) (sg_h [(0, 1), (2, 3)] 5 rfl sk_z13_20 rfl) nd_z13_18 nd_z13_19 nj_z13_7 (c_X4_pumpsOn l dC dI cyI cyJ cyZ cyB cyO tO vF adK adV h_p m_p v_p_pumpCell v_p_pumpTakes v_p_pumpFrom v_p_pumpTo v_d_day _ _ ho_1) 4 0 rfl rfl wm_38_6 wm_38_7 wm_38_8 wm_2_2 wm_38_9 ⟨rfl, rfl⟩ (by decide +kernel) rfl ⟨Nat.le_of_ble_eq_true rfl, Nat.le_of_ble_eq_true rfl⟩ hl.1 rfl (Nat.le_of_ble_eq_true rfl) dX0_takeByPump_13 ⟨Nat.le_of_ble_eq_true rfl, Nat.le_of_ble_eq_true rfl⟩ (fun H locs hP hD hS => ?_)
  have hP : va_P (dC, dI) vwCl [_, _, _, _, (h_p, .inr (4, oX4 m_p v_p_pumpCell v_p_pumpTakes v_p_pumpFrom v_p_pumpTo))] H := hP
  have hD : va_D A [_, _, _, _, (h_p, .inr (4, oX4 m_p v_p_pumpCell v_p_pumpTakes v_p_pumpFrom v_p_pumpTo))] := hD
  refine lv_if_eq (tgt := 60) hx hb dX0_takeByPump_16 (by decide) (fun c_2 => ?_) (fun c_2 => ?_)
  · have hf := (if_pos c_2).symm.trans hf
    exact hret _ _ _ _ ((0 : Int32), v_d_water, v_d_salt) dX0_takeByPump_60 (Option.some.inj hf) (hP.sub [0, 4, 1, 2, 3] (ux_pick (sg_h [(0, 1), (4, 1), (1, 3)] 5 rfl sk_z13_21 rfl))) (hD.sub [0, 4, 1, 2, 3] nd_z13_20 (sg_h [(0, 1), (4, 1), (1, 3)] 5 rfl sk_z13_21 rfl)) hS
  · have hf := (if_neg c_2).symm.trans hf
    refine lv_aload_n hx hb dX0_takeByPump_19 rfl (lv_at hl 0 rfl) ?_
    refine lv_aload_n hx hb dX0_takeByPump_20 rfl (lv_at hl 0 rfl) ?_
    refine va_get (D := (dC, dI)) (ci := 0) (v := .ref h_p) (C := RX0) (T := TX0) (N := 9) hx hb hts (g_c inlX0) hown hK hP 0 rfl rfl 1 (by decide) (hts _ (List.mem_cons_of_mem _ wm_5_14)) (fun _ h9 => h9) rfl dX0_takeByPump_21 ?_
    refine va_get (D := (dC, dI)) (ci := 4) (v := .int v_p_pumpTakes) (C := RX4) (T := TX4) (N := 8) hx hb hts (g_c inlX4) hown hK hP 4 rfl rfl 5 (by decide) (hts _ (List.mem_cons_of_mem _ wm_38_4)) (fun _ h9 => h9) rfl dX0_takeByPump_24 ?_
    refine lv_aload_n hx hb dX0_takeByPump_27 rfl (lv_at hl 1 rfl) ?_
    refine va_get (D := (dC, dI)) (ci := 1) (v := .ref (m_d 1)) (C := RX1) (T := TX1) (N := 8) hx hb hts (g_c inlX1) hown hK hP 1 rfl rfl 1 (by decide) (hts _ (List.mem_cons_of_mem _ wm_34_2)) (fun _ h9 => h9) rfl dX0_takeByPump_28 ?_
    refine lv_aload_n hx hb dX0_takeByPump_31 rfl (lv_at hl 0 rfl) ?_
    refine va_get (D := (dC, dI)) (ci := 0) (v := .ref h_p) (C := RX0) (T := TX0) (N := 9) hx hb hts (g_c inlX0) hown hK hP 0 rfl rfl 1 (by decide) (hts _ (List.mem_cons_of_mem _ wm_5_14)) (fun _ h9 => h9) rfl dX0_takeByPump_32 ?_
    refine va_get (D := (dC, dI)) (ci := 4) (v := .int v_p_pumpCell) (C := RX4) (T := TX4) (N := 8) hx hb hts (g_c inlX4) hown hK hP 4 rfl rfl 4 (by decide) (hts _ (List.mem_cons_of_mem _ wm_38_5)) (fun _ h9 => h9) rfl dX0_takeByPump_35 ?_
    obtain ⟨h_3, hf⟩ := ck_some hf
    refine va_iald hx hb hK hP 2 0 rfl rfl (inb_in h_3) dX0_takeByPump_38 ?_
    refine va_mmin hx hb (hml.trans hl.1.symm) hown (hts _ (List.mem_cons_of_mem _ wm_34_21)) (hts _ (List.mem_cons_of_mem _ wm_12_6)) (hts _ (List.mem_cons_of_mem _ wm_12_7)) (hts _ (List.mem_cons_of_mem _ wm_12_8)) (Nat.le_of_ble_eq_true rfl) (Nat.le_of_ble_eq_true rfl) (Nat.le_of_ble_eq_true rfl) (Nat.le_of_ble_eq_true rfl) dX0_takeByPump_39 ?_
    obtain ⟨e_4, ee_4, hf⟩ := nm_some hf
    rw [← ee_4]
    refine va_put (D := (dC, dI)) (ci := 0) (v := .int e_4) (ty := .int) (C := RX0) (T := TX0) (N := 9) hx hb hts (g_c inlX0) tyX0 tyX0_ok nmX0 hown hK hP hD hS 0 rfl rfl 3 (by decide) (hts _ (List.mem_cons_of_mem _ wm_5_7)) (fun _ h9 => h9) rfl (by decide +kernel) rfl rfl (Nat.le_of_ble_eq_true rfl) dX0_takeByPump_42 (fun H locs hP hD hS => ?_)
    have hP : va_P (dC, dI) vwCl [(h_c, .inr (0, oX0 m_c h_g h_p e_4 v_c_today)), _, _, _, _] H := hP
    have hD : va_D A [(h_c, .inr (0, oX0 m_c h_g h_p e_4 v_c_today)), _, _, _, _] := hD
    refine lv_aload_n hx hb dX0_takeByPump_45 rfl (lv_at hl 1 rfl) ?_
    refine lv_aload_n hx hb dX0_takeByPump_46 rfl (lv_at hl 0 rfl) ?_
    refine va_get (D := (dC, dI)) (ci := 0) (v := .ref h_p) (C := RX0) (T := TX0) (N := 9) hx hb hts (g_c inlX0) hown hK hP 0 rfl rfl 1 (by decide) (hts _ (List.mem_cons_of_mem _ wm_5_14)) (fun _ h9 => h9) rfl dX0_takeByPump_47 ?_
    refine va_get (D := (dC, dI)) (ci := 4) (v := .int v_p_pumpCell) (C := RX4) (T := TX4) (N := 8) hx hb hts (g_c inlX4) hown hK hP 4 rfl rfl 4 (by decide) (hts _ (List.mem_cons_of_mem _ wm_38_5)) (fun _ h9 => h9) rfl dX0_takeByPump_50 ?_
    refine lv_aload_n hx hb dX0_takeByPump_53 rfl (lv_at hl 0 rfl) ?_
    refine va_get (D := (dC, dI)) (ci := 0) (v := .int e_4) (C := RX0) (T := TX0) (N := 9) hx hb hts (g_c inlX0) hown hK hP 0 rfl rfl 3 (by decide) (hts _ (List.mem_cons_of_mem _ wm_5_7)) (fun _ h9 => h9) rfl dX0_takeByPump_54 ?_
    obtain ⟨o_5, ho_5, hf⟩ := bd_some hf
    obtain ⟨o_5_0, o_5_1⟩ := o_5
    have hf := un2_some hf
    refine ux_Vv (n := 2) (As := [.int v_p_pumpCell, .int e_4]) (rest := []) (wc := [(h_d, .inr (1, oX1 m_d v_d_day)), (m_d 1, .inl (cyI, 12, .inl v_d_water)), (m_d 2, .inl (cyJ, 12, .inr (.inl v_d_salt)))]) (wr := [_, _]) ⟨hx, hb, hml, hown, hts⟩ hK hP hD hS hA hE [1, 2, 3] [0, 4] (sg_h [(1, 3)] 5 rfl sk_z13_22 rfl) (sg_h [(0, 1), (4, 1)] 5 rfl sk_z13_23 rfl) nd_z13_21 nd_z13_22 nj_z13_8 (c_X1_draw l dC dI cyI cyJ cyZ cyB cyO tO vF adK adV h_d m_d v_d_day v_d_water v_d_salt v_p_pumpCell e_4 _ _ ho_5) 1 0 rfl rfl wm_37_16 wm_37_17 wm_37_18 wm_2_10 wm_37_19 ⟨rfl, rfl⟩ (by decide +kernel) rfl ⟨Nat.le_of_ble_eq_true rfl, Nat.le_of_ble_eq_true rfl⟩ hl.1 rfl (Nat.le_of_ble_eq_true rfl) dX0_takeByPump_57 ⟨Nat.le_of_ble_eq_true rfl, Nat.le_of_ble_eq_true rfl⟩ (fun H locs hP hD hS => ?_)
    have hP : va_P (dC, dI) vwCl [_, _, (h_d, .inr (1, oX1 m_d v_d_day)), (m_d 1, .inl (cyI, 12, .inl o_5_0)), (m_d 2, .inl (cyJ, 12, .inr (.inl o_5_1)))] H := hP
    have hD : va_D A [_, _, (h_d, .inr (1, oX1 m_d v_d_day)), (m_d 1, .inl (cyI, 12, .inl o_5_0)), (m_d 2, .inl (cyJ, 12, .inr (.inl o_5_1)))] := hD
    exact hret _ _ _ _ (e_4, o_5_0, o_5_1) dX0_takeByPump_60 (Option.some.inj hf) hP hD hS
def f_X0_lookAtLevels_b2_st (kr : (Nat → Int32) → (Nat → Int32) → (Nat → Int64) → Int32 → Option ((Nat → Int32) × (Nat → Int32) × (Nat → Int64)))  (v_g_cells : Int32) (v_g_room : (Nat → Int32)) (v_d_water : (Nat → Int32)) (v_d_salt : (Nat → Int64)) (v_c_level : (Nat → Int32)) (v_c_water : (Nat → Int32)) (v_c_salt : (Nat → Int64)) (x2 : Int32) : Option ((Nat → Int32) × (Nat → Int32) × (Nat → Int64)) := if v_g_cells ≤ x2 then (some (v_c_level, v_c_water, v_c_salt)) else (ck (inb x2 12) (bd (f_X3_levelOf v_g_room x2 (v_d_water x2.toNatClampNeg)) (fun o_3 => ck (inb x2 12) (nm (upd v_c_level x2.toNatClampNeg o_3) (fun a_5 => ck (inb x2 12) (ck (inb x2 12) (nm (upd v_c_water x2.toNatClampNeg (v_d_water x2.toNatClampNeg)) (fun a_8 => ck (inb x2 12) (ck (inb x2 12) (nm (vp_updL v_c_salt x2.toNatClampNeg (v_d_salt x2.toNatClampNeg)) (fun a_11 => kr a_5 a_8 a_11 (x2 + (1 : Int32)))))))))))))
def f_X0_lookAtLevels_b2  (v_g_cells : Int32) (v_g_room : (Nat → Int32)) (v_d_water : (Nat → Int32)) (v_d_salt : (Nat → Int64)) : Nat → (Nat → Int32) → (Nat → Int32) → (Nat → Int64) → Int32 → Option ((Nat → Int32) × (Nat → Int32) × (Nat → Int64))
  | 0 => fun _ _ _ _ => none
  | n + 1 => f_X0_lookAtLevels_b2_st (f_X0_lookAtLevels_b2 v_g_cells v_g_room v_d_water v_d_salt n) v_g_cells v_g_room v_d_water v_d_salt
def f_X0_lookAtLevels (v_g_cells : Int32) (v_g_room : (Nat → Int32)) (v_d_water : (Nat → Int32)) (v_d_salt : (Nat → Int64)) (v_c_level : (Nat → Int32)) (v_c_water : (Nat → Int32)) (v_c_salt : (Nat → Int64)) : Option ((Nat → Int32) × (Nat → Int32) × (Nat → Int64)) := f_X0_lookAtLevels_b2 v_g_cells v_g_room v_d_water v_d_salt fuel v_c_level v_c_water v_c_salt (0 : Int32)
set_option maxRecDepth 100000 in
set_option maxHeartbeats 8000000 in
theorem c_X0_lookAtLevels (l : Launch) (dC : Nat → ClassId) (dI : Nat → Nat → Nat) (cyI cyJ cyZ cyB cyO : ClassId) (tO : Nat) (vF : Value) (adK adV : Nat → Nat) (h_c : Nat) (m_c : Nat → Nat) (h_g : Nat) (m_g : Nat → Nat) (h_p : Nat) (m_p : Nat → Nat) (h_d : Nat) (m_d : Nat → Nat) (v_c_pumped : Int32) (v_c_today : Int32) (v_c_level : (Nat → Int32)) (v_c_water : (Nat → Int32)) (v_c_salt : (Nat → Int64)) (v_g_cells : Int32) (v_g_passes : Int32) (v_g_rivers : Int32) (v_g_villages : Int32) (v_g_rains : Int32) (v_g_room : (Nat → Int32)) (v_d_day : Int32) (v_d_water : (Nat → Int32)) (v_d_salt : (Nat → Int64))  (sz : Nat) (out : (Nat → Int32) × (Nat → Int32) × (Nat → Int64)) (hf : f_X0_lookAtLevels v_g_cells v_g_room v_d_water v_d_salt v_c_level v_c_water v_c_salt = some out) : Met l yX0_lookAtLevels (Cond.code yX0_lookAtLevels cX0_lookAtLevels 3 none :: wsL_law) ({ frames := 1, cells := 0, slots := 0, locals := 22 } : Room) (va_Pc [.ref h_c, .ref h_d] (ux_pre (dC, dI) vwCl (tyG cyI cyJ cyZ cyB cyO) [(h_c, .inr (0, oX0 m_c h_g h_p v_c_pumped v_c_today)), (m_c 5, .inl (cyI, 12, .inl v_c_level)), (m_c 6, .inl (cyI, 12, .inl v_c_water)), (m_c 7, .inl (cyJ, 12, .inr (.inl v_c_salt))), (h_g, .inr (3, oX3 m_g v_g_cells v_g_passes v_g_rivers v_g_villages v_g_rains)), (m_g 1, .inl (cyI, 12, .inl v_g_room)), (h_d, .inr (1, oX1 m_d v_d_day)), (m_d 1, .inl (cyI, 12, .inl v_d_water)), (m_d 2, .inl (cyJ, 12, .inr (.inl v_d_salt)))] sz (xE tO vF adK adV))) (va_Qv (fun u : (Nat → Int32) × (Nat → Int32) × (Nat → Int64) => u = out) (ux_at (dC, dI) vwCl (tyG cyI cyJ cyZ cyB cyO) [(h_c, .inr (0, oX0 m_c h_g h_p v_c_pumped v_c_today)), (m_c 5, .inl (cyI, 12, .inl v_c_level)), (m_c 6, .inl (cyI, 12, .inl v_c_water)), (m_c 7, .inl (cyJ, 12, .inr (.inl v_c_salt))), (h_g, .inr (3, oX3 m_g v_g_cells v_g_passes v_g_rivers v_g_villages v_g_rains)), (m_g 1, .inl (cyI, 12, .inl v_g_room)), (h_d, .inr (1, oX1 m_d v_d_day)), (m_d 1, .inl (cyI, 12, .inl v_d_water)), (m_d 2, .inl (cyJ, 12, .inr (.inl v_d_salt)))] sz (fun u : (Nat → Int32) × (Nat → Int32) × (Nat → Int64) => [(h_c, .inr (0, oX0 m_c h_g h_p v_c_pumped v_c_today)), (m_c 5, .inl (cyI, 12, .inl u.1)), (m_c 6, .inl (cyI, 12, .inl u.2.1)), (m_c 7, .inl (cyJ, 12, .inr (.inl u.2.2))), (h_g, .inr (3, oX3 m_g v_g_cells v_g_passes v_g_rivers v_g_villages v_g_rains)), (m_g 1, .inl (cyI, 12, .inl v_g_room)), (h_d, .inr (1, oX1 m_d v_d_day)), (m_d 1, .inl (cyI, 12, .inl v_d_water)), (m_d 2, .inl (cyJ, 12, .inr (.inl v_d_salt)))])) (va_A [(h_c, .inr (0, oX0 m_c h_g h_p v_c_pumped v_c_today)), (m_c 5, .inl (cyI, 12, .inl v_c_level)), (m_c 6, .inl (cyI, 12, .inl v_c_water)), (m_c 7, .inl (cyJ, 12, .inr (.inl v_c_salt))), (h_g, .inr (3, oX3 m_g v_g_cells v_g_passes v_g_rivers v_g_villages v_g_rains)), (m_g 1, .inl (cyI, 12, .inl v_g_room)), (h_d, .inr (1, oX1 m_d v_d_day)), (m_d 1, .inl (cyI, 12, .inl v_d_water)), (m_d 2, .inl (cyJ, 12, .inr (.inl v_d_salt)))] sz)) 0 0 (va_A [(h_c, .inr (0, oX0 m_c h_g h_p v_c_pumped v_c_today)), (m_c 5, .inl (cyI, 12, .inl v_c_level)), (m_c 6, .inl (cyI, 12, .inl v_c_water)), (m_c 7, .inl (cyJ, 12, .inr (.inl v_c_salt))), (h_g, .inr (3, oX3 m_g v_g_cells v_g_passes v_g_rivers v_g_villages v_g_rains)), (m_g 1, .inl (cyI, 12, .inl v_g_room)), (h_d, .inr (1, oX1 m_d v_d_day)), (m_d 1, .inl (cyI, 12, .inl v_d_water)), (m_d 2, .inl (cyJ, 12, .inr (.inl v_d_salt)))] sz) := by
  refine ux_metv (by decide +kernel) (Nat.le_of_ble_eq_true rfl) ?_
  intro p e s m below meth c A Q ls hx hb hml hts hown hA hP hK hD hE hl hret
  have hown : s.vm.findClass RX0 = some m.cls := hown
  have hS : va_S A s.heap s.heap [] := va_S.rf
  have hl : lv_has ls 3 [(0, .ref h_c), (1, .ref h_d)] := hl
  have hb_2 : ∀ (n : Nat) (v_c_level : (Nat → Int32)) (v_c_water : (Nat → Int32)) (v_c_salt : (Nat → Int64)) (x2 : Int32), f_X0_lookAtLevels_b2 v_g_cells v_g_room v_d_water v_d_salt n v_c_level v_c_water v_c_salt x2 = some out → ∀ (H : Heap) (locs : List Loc) (ls : Array Slot), va_P (dC, dI) vwCl [(h_c, .inr (0, oX0 m_c h_g h_p v_c_pumped v_c_today)), (m_c 5, .inl (cyI, 12, .inl v_c_level)), (m_c 6, .inl (cyI, 12, .inl v_c_water)), (m_c 7, .inl (cyJ, 12, .inr (.inl v_c_salt))), (h_g, .inr (3, oX3 m_g v_g_cells v_g_passes v_g_rivers v_g_villages v_g_rains)), (m_g 1, .inl (cyI, 12, .inl v_g_room)), (h_d, .inr (1, oX1 m_d v_d_day)), (m_d 1, .inl (cyI, 12, .inl v_d_water)), (m_d 2, .inl (cyJ, 12, .inr (.inl v_d_salt)))] H → va_D A [(h_c, .inr (0, oX0 m_c h_g h_p v_c_pumped v_c_today)), (m_c 5, .inl (cyI, 12, .inl v_c_level)), (m_c 6, .inl (cyI, 12, .inl v_c_water)), (m_c 7, .inl (cyJ, 12, .inr (.inl v_c_salt))), (h_g, .inr (3, oX3 m_g v_g_cells v_g_passes v_g_rivers v_g_villages v_g_rains)), (m_g 1, .inl (cyI, 12, .inl v_g_room)), (h_d, .inr (1, oX1 m_d v_d_day)), (m_d 1, .inl (cyI, 12, .inl v_d_water)), (m_d 2, .inl (cyJ, 12, .inr (.inl v_d_salt)))] → va_S A s.heap H locs → lv_has ls 3 [(0, .ref h_c), (1, .ref h_d), (2, .int x2)] → W p l e ({ frames := 1, cells := 0, slots := 0, locals := 22 } : Room) s m ([.ref h_c, .ref h_d] : List Value).toArray below meth c H locs 0 0 Q (F0 m 2 ls []) := by
    intro  n
    induction n with
    | zero =>
      intro v_c_level v_c_water v_c_salt x2 hf
      exact no_some hf
    | succ n ih =>
      intro v_c_level v_c_water v_c_salt x2 hf H locs ls hP hD hS hl
      have hf : f_X0_lookAtLevels_b2_st (f_X0_lookAtLevels_b2 v_g_cells v_g_room v_d_water v_d_salt n) v_g_cells v_g_room v_d_water v_d_salt v_c_level v_c_water v_c_salt x2 = some out := hf
      unfold f_X0_lookAtLevels_b2_st at hf
      refine lv_iload_n hx hb dX0_lookAtLevels_2 rfl (lv_at hl 2 rfl) ?_
      refine lv_aload_n hx hb dX0_lookAtLevels_3 rfl (lv_at hl 0 rfl) ?_
      refine va_get (D := (dC, dI)) (ci := 0) (v := .ref h_g) (C := RX0) (T := TX0) (N := 9) hx hb hts (g_c inlX0) hown hK hP 0 rfl rfl 0 (by decide) (hts _ (List.mem_cons_of_mem _ wm_5_13)) (fun _ h9 => h9) rfl dX0_lookAtLevels_4 ?_
      refine va_get (D := (dC, dI)) (ci := 3) (v := .int v_g_cells) (C := RX3) (T := TX3) (N := 20) hx hb hts (g_c inlX3) hown hK hP 4 rfl rfl 0 (by decide) (hts _ (List.mem_cons_of_mem _ wm_34_0)) (fun _ h9 => h9) rfl dX0_lookAtLevels_7 ?_
      refine lv_icmp_ge (tgt := 63) hx hb dX0_lookAtLevels_10 (by decide) (fun c_1 => ?_) (fun c_1 => ?_)
      · have hf := (if_pos c_1).symm.trans hf
        exact hret _ _ _ _ (v_c_level, v_c_water, v_c_salt) dX0_lookAtLevels_63 (Option.some.inj hf) hP hD hS
      · have hf := (if_neg c_1).symm.trans hf
        refine lv_aload_n hx hb dX0_lookAtLevels_13 rfl (lv_at hl 0 rfl) ?_
        refine va_get (D := (dC, dI)) (ci := 0) (v := .ref (m_c 5)) (C := RX0) (T := TX0) (N := 9) hx hb hts (g_c inlX0) hown hK hP 0 rfl rfl 5 (by decide) (hts _ (List.mem_cons_of_mem _ wm_5_9)) (fun _ h9 => h9) rfl dX0_lookAtLevels_14 ?_
        refine lv_iload_n hx hb dX0_lookAtLevels_17 rfl (lv_at hl 2 rfl) ?_
        refine lv_aload_n hx hb dX0_lookAtLevels_18 rfl (lv_at hl 0 rfl) ?_
        refine va_get (D := (dC, dI)) (ci := 0) (v := .ref h_g) (C := RX0) (T := TX0) (N := 9) hx hb hts (g_c inlX0) hown hK hP 0 rfl rfl 0 (by decide) (hts _ (List.mem_cons_of_mem _ wm_5_13)) (fun _ h9 => h9) rfl dX0_lookAtLevels_19 ?_
        refine lv_iload_n hx hb dX0_lookAtLevels_22 rfl (lv_at hl 2 rfl) ?_
        refine lv_aload_n hx hb dX0_lookAtLevels_23 rfl (lv_at hl 1 rfl) ?_
        refine va_get (D := (dC, dI)) (ci := 1) (v := .ref (m_d 1)) (C := RX1) (T := TX1) (N := 8) hx hb hts (g_c inlX1) hown hK hP 6 rfl rfl 1 (by decide) (hts _ (List.mem_cons_of_mem _ wm_34_2)) (fun _ h9 => h9) rfl dX0_lookAtLevels_24 ?_
        refine lv_iload_n hx hb dX0_lookAtLevels_27 rfl (lv_at hl 2 rfl) ?_
        obtain ⟨h_2, hf⟩ := ck_some hf
        refine va_iald hx hb hK hP 7 0 rfl rfl (inb_in h_2) dX0_lookAtLevels_28 ?_
        obtain ⟨o_3, ho_3, hf⟩ := bd_some hf
        refine ux_Vi0 (n := 2) (As := [.int x2, .int (v_d_water x2.toNatClampNeg)]) (rest := [.int x2, .ref (m_c 5)]) (wc := [(h_g, .inr (3, oX3 m_g v_g_cells v_g_passes v_g_rivers v_g_villages v_g_rains)), (m_g 1, .inl (cyI, 12, .inl v_g_room))]) (wr := [_, _, _, _, _, _, _]) ⟨hx, hb, hml, hown, hts⟩ hK hP hD hS hA hE [4, 5] [0, 1, 2, 3, 6, 7, 8] (sg_h [(4, 2)] 9 rfl sk_z13_24 rfl) (sg_h [(0, 4), (6, 3)] 9 rfl sk_z13_25 rfl) nd_z13_23 nd_z13_24 nj_z13_9 (c_X3_levelOf l dC dI cyI cyJ cyZ cyB cyO tO vF adK adV h_g m_g v_g_cells v_g_passes v_g_rivers v_g_villages v_g_rains v_g_room x2 (v_d_water x2.toNatClampNeg) _ _ ho_3) 3 0 rfl rfl wm_34_13 wm_30_4 wm_30_5 wm_1_22 wm_30_6 ⟨rfl, rfl⟩ (by decide +kernel) rfl ⟨Nat.le_of_ble_eq_true rfl, Nat.le_of_ble_eq_true rfl⟩ hl.1 rfl (Nat.le_of_ble_eq_true rfl) dX0_lookAtLevels_29 ⟨Nat.le_of_ble_eq_true rfl, Nat.le_of_ble_eq_true rfl⟩ (fun H locs hP hD hS => ?_)
        have hP : va_P (dC, dI) vwCl [_, _, _, _, _, _, _, (h_g, .inr (3, oX3 m_g v_g_cells v_g_passes v_g_rivers v_g_villages v_g_rains)), (m_g 1, .inl (cyI, 12, .inl v_g_room))] H := hP
        have hD : va_D A [_, _, _, _, _, _, _, (h_g, .inr (3, oX3 m_g v_g_cells v_g_passes v_g_rivers v_g_villages v_g_rains)), (m_g 1, .inl (cyI, 12, .inl v_g_room))] := hD
        obtain ⟨h_4, hf⟩ := ck_some hf
        obtain ⟨a_5, ea_5, hf⟩ := nm_some hf
        refine va_iast hx hb hK hP hD hS 1 0 rfl rfl (inb_in h_4) dX0_lookAtLevels_32 (fun H locs hP hD hS => ?_)
        have hP : va_P (dC, dI) vwCl [(h_c, .inr (0, oX0 m_c h_g h_p v_c_pumped v_c_today)), (m_c 5, .inl (cyI, 12, .inl a_5)), (m_c 6, .inl (cyI, 12, .inl v_c_water)), (m_c 7, .inl (cyJ, 12, .inr (.inl v_c_salt))), (h_d, .inr (1, oX1 m_d v_d_day)), (m_d 1, .inl (cyI, 12, .inl v_d_water)), (m_d 2, .inl (cyJ, 12, .inr (.inl v_d_salt))), (h_g, .inr (3, oX3 m_g v_g_cells v_g_passes v_g_rivers v_g_villages v_g_rains)), (m_g 1, .inl (cyI, 12, .inl v_g_room))] H := by rw [ea_5]; exact hP
        have hD : va_D A [(h_c, .inr (0, oX0 m_c h_g h_p v_c_pumped v_c_today)), (m_c 5, .inl (cyI, 12, .inl a_5)), (m_c 6, .inl (cyI, 12, .inl v_c_water)), (m_c 7, .inl (cyJ, 12, .inr (.inl v_c_salt))), (h_d, .inr (1, oX1 m_d v_d_day)), (m_d 1, .inl (cyI, 12, .inl v_d_water)), (m_d 2, .inl (cyJ, 12, .inr (.inl v_d_salt))), (h_g, .inr (3, oX3 m_g v_g_cells v_g_passes v_g_rivers v_g_villages v_g_rains)), (m_g 1, .inl (cyI, 12, .inl v_g_room))] := by rw [ea_5]; exact hD
        refine lv_aload_n hx hb dX0_lookAtLevels_33 rfl (lv_at hl 0 rfl) ?_
        refine va_get (D := (dC, dI)) (ci := 0) (v := .ref (m_c 6)) (C := RX0) (T := TX0) (N := 9) hx hb hts (g_c inlX0) hown hK hP 0 rfl rfl 6 (by decide) (hts _ (List.mem_cons_of_mem _ wm_5_10)) (fun _ h9 => h9) rfl dX0_lookAtLevels_34 ?_
        refine lv_iload_n hx hb dX0_lookAtLevels_37 rfl (lv_at hl 2 rfl) ?_
        refine lv_aload_n hx hb dX0_lookAtLevels_38 rfl (lv_at hl 1 rfl) ?_
        refine va_get (D := (dC, dI)) (ci := 1) (v := .ref (m_d 1)) (C := RX1) (T := TX1) (N := 8) hx hb hts (g_c inlX1) hown hK hP 4 rfl rfl 1 (by decide) (hts _ (List.mem_cons_of_mem _ wm_34_2)) (fun _ h9 => h9) rfl dX0_lookAtLevels_39 ?_
        refine lv_iload_n hx hb dX0_lookAtLevels_42 rfl (lv_at hl 2 rfl) ?_
        obtain ⟨h_6, hf⟩ := ck_some hf
        refine va_iald hx hb hK hP 5 0 rfl rfl (inb_in h_6) dX0_lookAtLevels_43 ?_
        obtain ⟨h_7, hf⟩ := ck_some hf
        obtain ⟨a_8, ea_8, hf⟩ := nm_some hf
        refine va_iast hx hb hK hP hD hS 2 0 rfl rfl (inb_in h_7) dX0_lookAtLevels_44 (fun H locs hP hD hS => ?_)
        have hP : va_P (dC, dI) vwCl [(h_c, .inr (0, oX0 m_c h_g h_p v_c_pumped v_c_today)), (m_c 5, .inl (cyI, 12, .inl a_5)), (m_c 6, .inl (cyI, 12, .inl a_8)), (m_c 7, .inl (cyJ, 12, .inr (.inl v_c_salt))), (h_d, .inr (1, oX1 m_d v_d_day)), (m_d 1, .inl (cyI, 12, .inl v_d_water)), (m_d 2, .inl (cyJ, 12, .inr (.inl v_d_salt))), (h_g, .inr (3, oX3 m_g v_g_cells v_g_passes v_g_rivers v_g_villages v_g_rains)), (m_g 1, .inl (cyI, 12, .inl v_g_room))] H := by rw [ea_8]; exact hP
        have hD : va_D A [(h_c, .inr (0, oX0 m_c h_g h_p v_c_pumped v_c_today)), (m_c 5, .inl (cyI, 12, .inl a_5)), (m_c 6, .inl (cyI, 12, .inl a_8)), (m_c 7, .inl (cyJ, 12, .inr (.inl v_c_salt))), (h_d, .inr (1, oX1 m_d v_d_day)), (m_d 1, .inl (cyI, 12, .inl v_d_water)), (m_d 2, .inl (cyJ, 12, .inr (.inl v_d_salt))), (h_g, .inr (3, oX3 m_g v_g_cells v_g_passes v_g_rivers v_g_villages v_g_rains)), (m_g 1, .inl (cyI, 12, .inl v_g_room))] := by rw [ea_8]; exact hD
        refine lv_aload_n hx hb dX0_lookAtLevels_45 rfl (lv_at hl 0 rfl) ?_
        refine va_get (D := (dC, dI)) (ci := 0) (v := .ref (m_c 7)) (C := RX0) (T := TX0) (N := 9) hx hb hts (g_c inlX0) hown hK hP 0 rfl rfl 7 (by decide) (hts _ (List.mem_cons_of_mem _ wm_5_11)) (fun _ h9 => h9) rfl dX0_lookAtLevels_46 ?_
        refine lv_iload_n hx hb dX0_lookAtLevels_49 rfl (lv_at hl 2 rfl) ?_
        refine lv_aload_n hx hb dX0_lookAtLevels_50 rfl (lv_at hl 1 rfl) ?_
        refine va_get (D := (dC, dI)) (ci := 1) (v := .ref (m_d 2)) (C := RX1) (T := TX1) (N := 8) hx hb hts (g_c inlX1) hown hK hP 4 rfl rfl 2 (by decide) (hts _ (List.mem_cons_of_mem _ wm_38_14)) (fun _ h9 => h9) rfl dX0_lookAtLevels_51 ?_
        refine lv_iload_n hx hb dX0_lookAtLevels_54 rfl (lv_at hl 2 rfl) ?_
        obtain ⟨h_9, hf⟩ := ck_some hf
        refine va_lald hx hb hK hP 6 1 rfl rfl (inb_in h_9) dX0_lookAtLevels_55 ?_
        obtain ⟨h_10, hf⟩ := ck_some hf
        obtain ⟨a_11, ea_11, hf⟩ := nm_some hf
        refine va_last hx hb hK hP hD hS 3 1 rfl rfl (inb_in h_10) dX0_lookAtLevels_56 (fun H locs hP hD hS => ?_)
        have hP : va_P (dC, dI) vwCl [(h_c, .inr (0, oX0 m_c h_g h_p v_c_pumped v_c_today)), (m_c 5, .inl (cyI, 12, .inl a_5)), (m_c 6, .inl (cyI, 12, .inl a_8)), (m_c 7, .inl (cyJ, 12, .inr (.inl a_11))), (h_d, .inr (1, oX1 m_d v_d_day)), (m_d 1, .inl (cyI, 12, .inl v_d_water)), (m_d 2, .inl (cyJ, 12, .inr (.inl v_d_salt))), (h_g, .inr (3, oX3 m_g v_g_cells v_g_passes v_g_rivers v_g_villages v_g_rains)), (m_g 1, .inl (cyI, 12, .inl v_g_room))] H := by rw [ea_11]; exact hP
        have hD : va_D A [(h_c, .inr (0, oX0 m_c h_g h_p v_c_pumped v_c_today)), (m_c 5, .inl (cyI, 12, .inl a_5)), (m_c 6, .inl (cyI, 12, .inl a_8)), (m_c 7, .inl (cyJ, 12, .inr (.inl a_11))), (h_d, .inr (1, oX1 m_d v_d_day)), (m_d 1, .inl (cyI, 12, .inl v_d_water)), (m_d 2, .inl (cyJ, 12, .inr (.inl v_d_salt))), (h_g, .inr (3, oX3 m_g v_g_cells v_g_passes v_g_rivers v_g_villages v_g_rains)), (m_g 1, .inl (cyI, 12, .inl v_g_room))] := by rw [ea_11]; exact hD
        refine lv_iinc (v := x2 + (1 : Int32)) (lv' := [(2, .int (x2 + (1 : Int32))), (0, .ref h_c), (1, .ref h_d)]) hx hb dX0_lookAtLevels_57 hl (k := 2) rfl rfl (by decide) rfl (fun ls hl => ?_)
        refine lv_goto (tgt := 2) hx hb dX0_lookAtLevels_60 (by decide) ?_
        exact ih _ _ _ _ hf _ _ _ (hP.sub [0, 1, 2, 3, 7, 8, 4, 5, 6] (ux_pick (sg_h [(0, 4), (7, 2), (4, 3)] 9 rfl sk_z13_26 rfl))) (hD.sub [0, 1, 2, 3, 7, 8, 4, 5, 6] nd_z13_25 (sg_h [(0, 4), (7, 2), (4, 3)] 9 rfl sk_z13_26 rfl)) hS (lv_sub hl [1, 2, 0] rfl)
  unfold f_X0_lookAtLevels at hf
  refine lv_iconst (v := (0 : Int32)) hx hb dX0_lookAtLevels_0 (by decide) ?_
  refine lv_istore_n (lv' := [(2, .int (0 : Int32)), (0, .ref h_c), (1, .ref h_d)]) hx hb dX0_lookAtLevels_1 rfl hl (by decide) rfl (fun ls hl => ?_)
  exact hb_2 _ _ _ _ _ hf _ _ _ hP hD hS (lv_sub hl [1, 2, 0] rfl)
def f_X0_passFlow (v_c_level : (Nat → Int32)) (v_g_passFrom : (Nat → Int32)) (v_g_passTo : (Nat → Int32)) (v_p_passWidth : (Nat → Int32)) (q1 : Int32) : Option (Int32) := ck (inb q1 20) (ck (inb (v_g_passFrom q1.toNatClampNeg) 12) (ck (inb q1 20) (ck (inb (v_g_passTo q1.toNatClampNeg) 12) (nm (((v_c_level (v_g_passFrom q1.toNatClampNeg).toNatClampNeg) - (v_c_level (v_g_passTo q1.toNatClampNeg).toNatClampNeg))) (fun e_5 => ck (inb q1 20) (some (((e_5 * (v_p_passWidth q1.toNatClampNeg)) / (100 : Int32)))))))))
set_option maxRecDepth 100000 in
set_option maxHeartbeats 8000000 in
theorem c_X0_passFlow (l : Launch) (dC : Nat → ClassId) (dI : Nat → Nat → Nat) (cyI cyJ cyZ cyB cyO : ClassId) (tO : Nat) (vF : Value) (adK adV : Nat → Nat) (h_c : Nat) (m_c : Nat → Nat) (h_g : Nat) (m_g : Nat → Nat) (h_p : Nat) (m_p : Nat → Nat) (v_c_pumped : Int32) (v_c_today : Int32) (v_c_level : (Nat → Int32)) (v_g_cells : Int32) (v_g_passes : Int32) (v_g_rivers : Int32) (v_g_villages : Int32) (v_g_rains : Int32) (v_g_passFrom : (Nat → Int32)) (v_g_passTo : (Nat → Int32)) (v_p_pumpCell : Int32) (v_p_pumpTakes : Int32) (v_p_pumpFrom : Int32) (v_p_pumpTo : Int32) (v_p_passWidth : (Nat → Int32)) (q1 : Int32) (sz : Nat) (out : Int32) (hf : f_X0_passFlow v_c_level v_g_passFrom v_g_passTo v_p_passWidth q1 = some out) : Met l yX0_passFlow (Cond.code yX0_passFlow cX0_passFlow 3 (some .int) :: wsL_law) ({ frames := 0, cells := 0, slots := 0, locals := 0 } : Room) (va_Pc [.ref h_c, .int q1] (ux_pre (dC, dI) vwCl (tyG cyI cyJ cyZ cyB cyO) [(h_c, .inr (0, oX0 m_c h_g h_p v_c_pumped v_c_today)), (m_c 5, .inl (cyI, 12, .inl v_c_level)), (h_g, .inr (3, oX3 m_g v_g_cells v_g_passes v_g_rivers v_g_villages v_g_rains)), (m_g 5, .inl (cyI, 20, .inl v_g_passFrom)), (m_g 6, .inl (cyI, 20, .inl v_g_passTo)), (h_p, .inr (4, oX4 m_p v_p_pumpCell v_p_pumpTakes v_p_pumpFrom v_p_pumpTo)), (m_p 1, .inl (cyI, 20, .inl v_p_passWidth))] sz (xE tO vF adK adV))) (va_Qi (fun (r : Int32) (_ : Unit) => r = out) (ux_at (dC, dI) vwCl (tyG cyI cyJ cyZ cyB cyO) [(h_c, .inr (0, oX0 m_c h_g h_p v_c_pumped v_c_today)), (m_c 5, .inl (cyI, 12, .inl v_c_level)), (h_g, .inr (3, oX3 m_g v_g_cells v_g_passes v_g_rivers v_g_villages v_g_rains)), (m_g 5, .inl (cyI, 20, .inl v_g_passFrom)), (m_g 6, .inl (cyI, 20, .inl v_g_passTo)), (h_p, .inr (4, oX4 m_p v_p_pumpCell v_p_pumpTakes v_p_pumpFrom v_p_pumpTo)), (m_p 1, .inl (cyI, 20, .inl v_p_passWidth))] sz (fun u : Unit => [(h_c, .inr (0, oX0 m_c h_g h_p v_c_pumped v_c_today)), (m_c 5, .inl (cyI, 12, .inl v_c_level)), (h_g, .inr (3, oX3 m_g v_g_cells v_g_passes v_g_rivers v_g_villages v_g_rains)), (m_g 5, .inl (cyI, 20, .inl v_g_passFrom)), (m_g 6, .inl (cyI, 20, .inl v_g_passTo)), (h_p, .inr (4, oX4 m_p v_p_pumpCell v_p_pumpTakes v_p_pumpFrom v_p_pumpTo)), (m_p 1, .inl (cyI, 20, .inl v_p_passWidth))])) (va_A [(h_c, .inr (0, oX0 m_c h_g h_p v_c_pumped v_c_today)), (m_c 5, .inl (cyI, 12, .inl v_c_level)), (h_g, .inr (3, oX3 m_g v_g_cells v_g_passes v_g_rivers v_g_villages v_g_rains)), (m_g 5, .inl (cyI, 20, .inl v_g_passFrom)), (m_g 6, .inl (cyI, 20, .inl v_g_passTo)), (h_p, .inr (4, oX4 m_p v_p_pumpCell v_p_pumpTakes v_p_pumpFrom v_p_pumpTo)), (m_p 1, .inl (cyI, 20, .inl v_p_passWidth))] sz)) 0 0 (va_A [(h_c, .inr (0, oX0 m_c h_g h_p v_c_pumped v_c_today)), (m_c 5, .inl (cyI, 12, .inl v_c_level)), (h_g, .inr (3, oX3 m_g v_g_cells v_g_passes v_g_rivers v_g_villages v_g_rains)), (m_g 5, .inl (cyI, 20, .inl v_g_passFrom)), (m_g 6, .inl (cyI, 20, .inl v_g_passTo)), (h_p, .inr (4, oX4 m_p v_p_pumpCell v_p_pumpTakes v_p_pumpFrom v_p_pumpTo)), (m_p 1, .inl (cyI, 20, .inl v_p_passWidth))] sz) := by
  refine ux_meti0 (by decide +kernel) (Nat.le_of_ble_eq_true rfl) ?_
  intro p e s m below meth c A Q ls hx hb hml hts hown hA hP hK hD hE hl hret
  have hown : s.vm.findClass RX0 = some m.cls := hown
  have hS : va_S A s.heap s.heap [] := va_S.rf
  have hl : lv_has ls 3 [(0, .ref h_c), (1, .int q1)] := hl
  unfold f_X0_passFlow at hf
  refine lv_aload_n hx hb dX0_passFlow_0 rfl (lv_at hl 0 rfl) ?_
  refine va_get (D := (dC, dI)) (ci := 0) (v := .ref (m_c 5)) (C := RX0) (T := TX0) (N := 9) hx hb hts (g_c inlX0) hown hK hP 0 rfl rfl 5 (by decide) (hts _ (List.mem_cons_of_mem _ wm_5_9)) (fun _ h9 => h9) rfl dX0_passFlow_1 ?_
  refine lv_aload_n hx hb dX0_passFlow_4 rfl (lv_at hl 0 rfl) ?_
  refine va_get (D := (dC, dI)) (ci := 0) (v := .ref h_g) (C := RX0) (T := TX0) (N := 9) hx hb hts (g_c inlX0) hown hK hP 0 rfl rfl 0 (by decide) (hts _ (List.mem_cons_of_mem _ wm_5_13)) (fun _ h9 => h9) rfl dX0_passFlow_5 ?_
  refine va_get (D := (dC, dI)) (ci := 3) (v := .ref (m_g 5)) (C := RX3) (T := TX3) (N := 20) hx hb hts (g_c inlX3) hown hK hP 2 rfl rfl 5 (by decide) (hts _ (List.mem_cons_of_mem _ wm_37_3)) (fun _ h9 => h9) rfl dX0_passFlow_8 ?_
  refine lv_iload_n hx hb dX0_passFlow_11 rfl (lv_at hl 1 rfl) ?_
  obtain ⟨h_1, hf⟩ := ck_some hf
  refine va_iald hx hb hK hP 3 0 rfl rfl (inb_in h_1) dX0_passFlow_12 ?_
  obtain ⟨h_2, hf⟩ := ck_some hf
  refine va_iald hx hb hK hP 1 0 rfl rfl (inb_in h_2) dX0_passFlow_13 ?_
  refine lv_aload_n hx hb dX0_passFlow_14 rfl (lv_at hl 0 rfl) ?_
  refine va_get (D := (dC, dI)) (ci := 0) (v := .ref (m_c 5)) (C := RX0) (T := TX0) (N := 9) hx hb hts (g_c inlX0) hown hK hP 0 rfl rfl 5 (by decide) (hts _ (List.mem_cons_of_mem _ wm_5_9)) (fun _ h9 => h9) rfl dX0_passFlow_15 ?_
  refine lv_aload_n hx hb dX0_passFlow_18 rfl (lv_at hl 0 rfl) ?_
  refine va_get (D := (dC, dI)) (ci := 0) (v := .ref h_g) (C := RX0) (T := TX0) (N := 9) hx hb hts (g_c inlX0) hown hK hP 0 rfl rfl 0 (by decide) (hts _ (List.mem_cons_of_mem _ wm_5_13)) (fun _ h9 => h9) rfl dX0_passFlow_19 ?_
  refine va_get (D := (dC, dI)) (ci := 3) (v := .ref (m_g 6)) (C := RX3) (T := TX3) (N := 20) hx hb hts (g_c inlX3) hown hK hP 2 rfl rfl 6 (by decide) (hts _ (List.mem_cons_of_mem _ wm_37_4)) (fun _ h9 => h9) rfl dX0_passFlow_22 ?_
  refine lv_iload_n hx hb dX0_passFlow_25 rfl (lv_at hl 1 rfl) ?_
  obtain ⟨h_3, hf⟩ := ck_some hf
  refine va_iald hx hb hK hP 4 0 rfl rfl (inb_in h_3) dX0_passFlow_26 ?_
  obtain ⟨h_4, hf⟩ := ck_some hf
  refine va_iald hx hb hK hP 1 0 rfl rfl (inb_in h_4) dX0_passFlow_27 ?_
  refine lv_isub hx hb dX0_passFlow_28 ?_
  obtain ⟨e_5, ee_5, hf⟩ := nm_some hf
  rw [← ee_5]
  refine lv_istore_n (lv' := [(2, .int e_5), (0, .ref h_c), (1, .int q1)]) hx hb dX0_passFlow_29 rfl hl (by decide) rfl (fun ls hl => ?_)
  refine lv_iload_n hx hb dX0_passFlow_30 rfl (lv_at hl 0 rfl) ?_
  refine lv_aload_n hx hb dX0_passFlow_31 rfl (lv_at hl 1 rfl) ?_
  refine va_get (D := (dC, dI)) (ci := 0) (v := .ref h_p) (C := RX0) (T := TX0) (N := 9) hx hb hts (g_c inlX0) hown hK hP 0 rfl rfl 1 (by decide) (hts _ (List.mem_cons_of_mem _ wm_5_14)) (fun _ h9 => h9) rfl dX0_passFlow_32 ?_
  refine va_get (D := (dC, dI)) (ci := 4) (v := .ref (m_p 1)) (C := RX4) (T := TX4) (N := 8) hx hb hts (g_c inlX4) hown hK hP 5 rfl rfl 1 (by decide) (hts _ (List.mem_cons_of_mem _ wm_38_19)) (fun _ h9 => h9) rfl dX0_passFlow_35 ?_
  refine lv_iload_n hx hb dX0_passFlow_38 rfl (lv_at hl 2 rfl) ?_
  obtain ⟨h_6, hf⟩ := ck_some hf
  refine va_iald hx hb hK hP 6 0 rfl rfl (inb_in h_6) dX0_passFlow_39 ?_
  refine lv_imul hx hb dX0_passFlow_40 ?_
  refine lv_bipush (v := (100 : Int32)) hx hb dX0_passFlow_41 (by decide) ?_
  refine lv_idiv hx hb dX0_passFlow_43 (by decide) ?_
  exact hret _ _ _ _ ((e_5 * (v_p_passWidth q1.toNatClampNeg)) / (100 : Int32)) dX0_passFlow_44 (Option.some.inj hf) hP hD hS
def f_X0_riverFlow (v_c_level : (Nat → Int32)) (v_g_riverCell : (Nat → Int32)) (v_g_riverLevel : (Nat → Int32)) (v_p_riverWidth : (Nat → Int32)) (q1 : Int32) : Option (Int32) := ck (inb q1 3) (ck (inb q1 3) (ck (inb (v_g_riverCell q1.toNatClampNeg) 12) (nm (((v_g_riverLevel q1.toNatClampNeg) - (v_c_level (v_g_riverCell q1.toNatClampNeg).toNatClampNeg))) (fun e_4 => ck (inb q1 3) (some (((e_4 * (v_p_riverWidth q1.toNatClampNeg)) / (100 : Int32))))))))
set_option maxRecDepth 100000 in
set_option maxHeartbeats 8000000 in
theorem c_X0_riverFlow (l : Launch) (dC : Nat → ClassId) (dI : Nat → Nat → Nat) (cyI cyJ cyZ cyB cyO : ClassId) (tO : Nat) (vF : Value) (adK adV : Nat → Nat) (h_c : Nat) (m_c : Nat → Nat) (h_g : Nat) (m_g : Nat → Nat) (h_p : Nat) (m_p : Nat → Nat) (v_c_pumped : Int32) (v_c_today : Int32) (v_c_level : (Nat → Int32)) (v_g_cells : Int32) (v_g_passes : Int32) (v_g_rivers : Int32) (v_g_villages : Int32) (v_g_rains : Int32) (v_g_riverCell : (Nat → Int32)) (v_g_riverLevel : (Nat → Int32)) (v_p_pumpCell : Int32) (v_p_pumpTakes : Int32) (v_p_pumpFrom : Int32) (v_p_pumpTo : Int32) (v_p_riverWidth : (Nat → Int32)) (q1 : Int32) (sz : Nat) (out : Int32) (hf : f_X0_riverFlow v_c_level v_g_riverCell v_g_riverLevel v_p_riverWidth q1 = some out) : Met l yX0_riverFlow (Cond.code yX0_riverFlow cX0_riverFlow 3 (some .int) :: wsL_law) ({ frames := 0, cells := 0, slots := 0, locals := 0 } : Room) (va_Pc [.ref h_c, .int q1] (ux_pre (dC, dI) vwCl (tyG cyI cyJ cyZ cyB cyO) [(h_c, .inr (0, oX0 m_c h_g h_p v_c_pumped v_c_today)), (m_c 5, .inl (cyI, 12, .inl v_c_level)), (h_g, .inr (3, oX3 m_g v_g_cells v_g_passes v_g_rivers v_g_villages v_g_rains)), (m_g 9, .inl (cyI, 3, .inl v_g_riverCell)), (m_g 10, .inl (cyI, 3, .inl v_g_riverLevel)), (h_p, .inr (4, oX4 m_p v_p_pumpCell v_p_pumpTakes v_p_pumpFrom v_p_pumpTo)), (m_p 2, .inl (cyI, 3, .inl v_p_riverWidth))] sz (xE tO vF adK adV))) (va_Qi (fun (r : Int32) (_ : Unit) => r = out) (ux_at (dC, dI) vwCl (tyG cyI cyJ cyZ cyB cyO) [(h_c, .inr (0, oX0 m_c h_g h_p v_c_pumped v_c_today)), (m_c 5, .inl (cyI, 12, .inl v_c_level)), (h_g, .inr (3, oX3 m_g v_g_cells v_g_passes v_g_rivers v_g_villages v_g_rains)), (m_g 9, .inl (cyI, 3, .inl v_g_riverCell)), (m_g 10, .inl (cyI, 3, .inl v_g_riverLevel)), (h_p, .inr (4, oX4 m_p v_p_pumpCell v_p_pumpTakes v_p_pumpFrom v_p_pumpTo)), (m_p 2, .inl (cyI, 3, .inl v_p_riverWidth))] sz (fun u : Unit => [(h_c, .inr (0, oX0 m_c h_g h_p v_c_pumped v_c_today)), (m_c 5, .inl (cyI, 12, .inl v_c_level)), (h_g, .inr (3, oX3 m_g v_g_cells v_g_passes v_g_rivers v_g_villages v_g_rains)), (m_g 9, .inl (cyI, 3, .inl v_g_riverCell)), (m_g 10, .inl (cyI, 3, .inl v_g_riverLevel)), (h_p, .inr (4, oX4 m_p v_p_pumpCell v_p_pumpTakes v_p_pumpFrom v_p_pumpTo)), (m_p 2, .inl (cyI, 3, .inl v_p_riverWidth))])) (va_A [(h_c, .inr (0, oX0 m_c h_g h_p v_c_pumped v_c_today)), (m_c 5, .inl (cyI, 12, .inl v_c_level)), (h_g, .inr (3, oX3 m_g v_g_cells v_g_passes v_g_rivers v_g_villages v_g_rains)), (m_g 9, .inl (cyI, 3, .inl v_g_riverCell)), (m_g 10, .inl (cyI, 3, .inl v_g_riverLevel)), (h_p, .inr (4, oX4 m_p v_p_pumpCell v_p_pumpTakes v_p_pumpFrom v_p_pumpTo)), (m_p 2, .inl (cyI, 3, .inl v_p_riverWidth))] sz)) 0 0 (va_A [(h_c, .inr (0, oX0 m_c h_g h_p v_c_pumped v_c_today)), (m_c 5, .inl (cyI, 12, .inl v_c_level)), (h_g, .inr (3, oX3 m_g v_g_cells v_g_passes v_g_rivers v_g_villages v_g_rains)), (m_g 9, .inl (cyI, 3, .inl v_g_riverCell)), (m_g 10, .inl (cyI, 3, .inl v_g_riverLevel)), (h_p, .inr (4, oX4 m_p v_p_pumpCell v_p_pumpTakes v_p_pumpFrom v_p_pumpTo)), (m_p 2, .inl (cyI, 3, .inl v_p_riverWidth))] sz) := by
  refine ux_meti0 (by decide +kernel) (Nat.le_of_ble_eq_true rfl) ?_
  intro p e s m below meth c A Q ls hx hb hml hts hown hA hP hK hD hE hl hret
  have hown : s.vm.findClass RX0 = some m.cls := hown
  have hS : va_S A s.heap s.heap [] := va_S.rf
  have hl : lv_has ls 3 [(0, .ref h_c), (1, .int q1)] := hl
  unfold f_X0_riverFlow at hf
  refine lv_aload_n hx hb dX0_riverFlow_0 rfl (lv_at hl 0 rfl) ?_
  refine va_get (D := (dC, dI)) (ci := 0) (v := .ref h_g) (C := RX0) (T := TX0) (N := 9) hx hb hts (g_c inlX0) hown hK hP 0 rfl rfl 0 (by decide) (hts _ (List.mem_cons_of_mem _ wm_5_13)) (fun _ h9 => h9) rfl dX0_riverFlow_1 ?_
  refine va_get (D := (dC, dI)) (ci := 3) (v := .ref (m_g 10)) (C := RX3) (T := TX3) (N := 20) hx hb hts (g_c inlX3) hown hK hP 2 rfl rfl 10 (by decide) (hts _ (List.mem_cons_of_mem _ wm_39_14)) (fun _ h9 => h9) rfl dX0_riverFlow_4 ?_
  refine lv_iload_n hx hb dX0_riverFlow_7 rfl (lv_at hl 1 rfl) ?_
  obtain ⟨h_1, hf⟩ := ck_some hf
  refine va_iald hx hb hK hP 4 0 rfl rfl (inb_in h_1) dX0_riverFlow_8 ?_
  refine lv_aload_n hx hb dX0_riverFlow_9 rfl (lv_at hl 0 rfl) ?_
  refine va_get (D := (dC, dI)) (ci := 0) (v := .ref (m_c 5)) (C := RX0) (T := TX0) (N := 9) hx hb hts (g_c inlX0) hown hK hP 0 rfl rfl 5 (by decide) (hts _ (List.mem_cons_of_mem _ wm_5_9)) (fun _ h9 => h9) rfl dX0_riverFlow_10 ?_
  refine lv_aload_n hx hb dX0_riverFlow_13 rfl (lv_at hl 0 rfl) ?_
  refine va_get (D := (dC, dI)) (ci := 0) (v := .ref h_g) (C := RX0) (T := TX0) (N := 9) hx hb hts (g_c inlX0) hown hK hP 0 rfl rfl 0 (by decide) (hts _ (List.mem_cons_of_mem _ wm_5_13)) (fun _ h9 => h9) rfl dX0_riverFlow_14 ?_
  refine va_get (D := (dC, dI)) (ci := 3) (v := .ref (m_g 9)) (C := RX3) (T := TX3) (N := 20) hx hb hts (g_c inlX3) hown hK hP 2 rfl rfl 9 (by decide) (hts _ (List.mem_cons_of_mem _ wm_39_8)) (fun _ h9 => h9) rfl dX0_riverFlow_17 ?_
  refine lv_iload_n hx hb dX0_riverFlow_20 rfl (lv_at hl 1 rfl) ?_
  obtain ⟨h_2, hf⟩ := ck_some hf
  refine va_iald hx hb hK hP 3 0 rfl rfl (inb_in h_2) dX0_riverFlow_21 ?_
  obtain ⟨h_3, hf⟩ := ck_some hf
  refine va_iald hx hb hK hP 1 0 rfl rfl (inb_in h_3) dX0_riverFlow_22 ?_
  refine lv_isub hx hb dX0_riverFlow_23 ?_
  obtain ⟨e_4, ee_4, hf⟩ := nm_some hf
  rw [← ee_4]
  refine lv_istore_n (lv' := [(2, .int e_4), (0, .ref h_c), (1, .int q1)]) hx hb dX0_riverFlow_24 rfl hl (by decide) rfl (fun ls hl => ?_)
  refine lv_iload_n hx hb dX0_riverFlow_25 rfl (lv_at hl 0 rfl) ?_
  refine lv_aload_n hx hb dX0_riverFlow_26 rfl (lv_at hl 1 rfl) ?_
  refine va_get (D := (dC, dI)) (ci := 0) (v := .ref h_p) (C := RX0) (T := TX0) (N := 9) hx hb hts (g_c inlX0) hown hK hP 0 rfl rfl 1 (by decide) (hts _ (List.mem_cons_of_mem _ wm_5_14)) (fun _ h9 => h9) rfl dX0_riverFlow_27 ?_
  refine va_get (D := (dC, dI)) (ci := 4) (v := .ref (m_p 2)) (C := RX4) (T := TX4) (N := 8) hx hb hts (g_c inlX4) hown hK hP 5 rfl rfl 2 (by decide) (hts _ (List.mem_cons_of_mem _ wm_39_15)) (fun _ h9 => h9) rfl dX0_riverFlow_30 ?_
  refine lv_iload_n hx hb dX0_riverFlow_33 rfl (lv_at hl 2 rfl) ?_
  obtain ⟨h_5, hf⟩ := ck_some hf
  refine va_iald hx hb hK hP 6 0 rfl rfl (inb_in h_5) dX0_riverFlow_34 ?_
  refine lv_imul hx hb dX0_riverFlow_35 ?_
  refine lv_bipush (v := (100 : Int32)) hx hb dX0_riverFlow_36 (by decide) ?_
  refine lv_idiv hx hb dX0_riverFlow_38 (by decide) ?_
  exact hret _ _ _ _ ((e_4 * (v_p_riverWidth q1.toNatClampNeg)) / (100 : Int32)) dX0_riverFlow_39 (Option.some.inj hf) hP hD hS
def f_X0_move (v_c_water : (Nat → Int32)) (v_c_salt : (Nat → Int64)) (v_d_water : (Nat → Int32)) (v_d_salt : (Nat → Int64)) (q2 : Int32) (q3 : Int32) (q4 : Int32) : Option ((Nat → Int32) × (Nat → Int64)) := bd (f_X0_saltAlong v_c_water v_c_salt q2 q4) (fun o_1 => ck (inb q2 12) (ck (inb q2 12) (nm (upd v_d_water q2.toNatClampNeg ((v_d_water q2.toNatClampNeg) - q4)) (fun a_4 => ck (inb q2 12) (ck (inb q2 12) (nm (vp_updL v_d_salt q2.toNatClampNeg ((v_d_salt q2.toNatClampNeg) - o_1)) (fun a_7 => ck (inb q3 12) (ck (inb q3 12) (nm (upd a_4 q3.toNatClampNeg ((a_4 q3.toNatClampNeg) + q4)) (fun a_10 => ck (inb q3 12) (ck (inb q3 12) (nm (vp_updL a_7 q3.toNatClampNeg ((a_7 q3.toNatClampNeg) + o_1)) (fun a_13 => some (a_10, a_13))))))))))))))
set_option maxRecDepth 100000 in
set_option maxHeartbeats 8000000 in
theorem c_X0_move (l : Launch) (dC : Nat → ClassId) (dI : Nat → Nat → Nat) (cyI cyJ cyZ cyB cyO : ClassId) (tO : Nat) (vF : Value) (adK adV : Nat → Nat) (h_c : Nat) (m_c : Nat → Nat) (h_g : Nat) (m_g : Nat → Nat) (h_p : Nat) (m_p : Nat → Nat) (h_d : Nat) (m_d : Nat → Nat) (v_c_pumped : Int32) (v_c_today : Int32) (v_c_water : (Nat → Int32)) (v_c_salt : (Nat → Int64)) (v_d_day : Int32) (v_d_water : (Nat → Int32)) (v_d_salt : (Nat → Int64)) (q2 : Int32) (q3 : Int32) (q4 : Int32) (sz : Nat) (out : (Nat → Int32) × (Nat → Int64)) (hf : f_X0_move v_c_water v_c_salt v_d_water v_d_salt q2 q3 q4 = some out) : Met l yX0_move (Cond.code yX0_move cX0_move 7 none :: wsL_law) ({ frames := 1, cells := 0, slots := 0, locals := 22 } : Room) (va_Pc [.ref h_c, .ref h_d, .int q2, .int q3, .int q4] (ux_pre (dC, dI) vwCl (tyG cyI cyJ cyZ cyB cyO) [(h_c, .inr (0, oX0 m_c h_g h_p v_c_pumped v_c_today)), (m_c 6, .inl (cyI, 12, .inl v_c_water)), (m_c 7, .inl (cyJ, 12, .inr (.inl v_c_salt))), (h_d, .inr (1, oX1 m_d v_d_day)), (m_d 1, .inl (cyI, 12, .inl v_d_water)), (m_d 2, .inl (cyJ, 12, .inr (.inl v_d_salt)))] sz (xE tO vF adK adV))) (va_Qv (fun u : (Nat → Int32) × (Nat → Int64) => u = out) (ux_at (dC, dI) vwCl (tyG cyI cyJ cyZ cyB cyO) [(h_c, .inr (0, oX0 m_c h_g h_p v_c_pumped v_c_today)), (m_c 6, .inl (cyI, 12, .inl v_c_water)), (m_c 7, .inl (cyJ, 12, .inr (.inl v_c_salt))), (h_d, .inr (1, oX1 m_d v_d_day)), (m_d 1, .inl (cyI, 12, .inl v_d_water)), (m_d 2, .inl (cyJ, 12, .inr (.inl v_d_salt)))] sz (fun u : (Nat → Int32) × (Nat → Int64) => [(h_c, .inr (0, oX0 m_c h_g h_p v_c_pumped v_c_today)), (m_c 6, .inl (cyI, 12, .inl v_c_water)), (m_c 7, .inl (cyJ, 12, .inr (.inl v_c_salt))), (h_d, .inr (1, oX1 m_d v_d_day)), (m_d 1, .inl (cyI, 12, .inl u.1)), (m_d 2, .inl (cyJ, 12, .inr (.inl u.2)))])) (va_A [(h_c, .inr (0, oX0 m_c h_g h_p v_c_pumped v_c_today)), (m_c 6, .inl (cyI, 12, .inl v_c_water)), (m_c 7, .inl (cyJ, 12, .inr (.inl v_c_salt))), (h_d, .inr (1, oX1 m_d v_d_day)), (m_d 1, .inl (cyI, 12, .inl v_d_water)), (m_d 2, .inl (cyJ, 12, .inr (.inl v_d_salt)))] sz)) 0 0 (va_A [(h_c, .inr (0, oX0 m_c h_g h_p v_c_pumped v_c_today)), (m_c 6, .inl (cyI, 12, .inl v_c_water)), (m_c 7, .inl (cyJ, 12, .inr (.inl v_c_salt))), (h_d, .inr (1, oX1 m_d v_d_day)), (m_d 1, .inl (cyI, 12, .inl v_d_water)), (m_d 2, .inl (cyJ, 12, .inr (.inl v_d_salt)))] sz) := by
  refine ux_metv (by decide +kernel) (Nat.le_of_ble_eq_true rfl) ?_
  intro p e s m below meth c A Q ls hx hb hml hts hown hA hP hK hD hE hl hret
  have hown : s.vm.findClass RX0 = some m.cls := hown
  have hS : va_S A s.heap s.heap [] := va_S.rf
  have hl : lv_has ls 7 [(0, .ref h_c), (1, .ref h_d), (2, .int q2), (3, .int q3), (4, .int q4)] := hl
  unfold f_X0_move at hf
  refine lv_aload_n hx hb dX0_move_0 rfl (lv_at hl 0 rfl) ?_
  refine lv_iload_n hx hb dX0_move_1 rfl (lv_at hl 2 rfl) ?_
  refine lv_iload hx hb dX0_move_2 (lv_at hl 4 rfl) ?_
  obtain ⟨o_1, ho_1, hf⟩ := bd_some hf
  refine ux_Vl0 (n := 2) (As := [.int q2, .int q4]) (rest := []) (wc := [(h_c, .inr (0, oX0 m_c h_g h_p v_c_pumped v_c_today)), (m_c 6, .inl (cyI, 12, .inl v_c_water)), (m_c 7, .inl (cyJ, 12, .inr (.inl v_c_salt)))]) (wr := [_, _, _]) ⟨hx, hb, hml, hown, hts⟩ hK hP hD hS hA hE [0, 1, 2] [3, 4, 5] (sg_h [(0, 3)] 6 rfl sk_z13_27 rfl) (sg_h [(3, 3)] 6 rfl sk_z13_28 rfl) nd_z13_26 nd_z13_27 nj_z13_10 (c_X0_saltAlong l dC dI cyI cyJ cyZ cyB cyO tO vF adK adV h_c m_c h_g m_g h_p m_p v_c_pumped v_c_today v_c_water v_c_salt q2 q4 _ _ ho_1) 0 0 rfl rfl wm_39_0 wm_39_1 wm_39_2 wm_2_6 wm_39_3 ⟨rfl, rfl⟩ (by decide +kernel) rfl ⟨Nat.le_of_ble_eq_true rfl, Nat.le_of_ble_eq_true rfl⟩ hl.1 rfl (Nat.le_of_ble_eq_true rfl) dX0_move_4 ⟨Nat.le_of_ble_eq_true rfl, Nat.le_of_ble_eq_true rfl⟩ (fun H locs hP hD hS => ?_)
  have hP : va_P (dC, dI) vwCl [_, _, _, (h_c, .inr (0, oX0 m_c h_g h_p v_c_pumped v_c_today)), (m_c 6, .inl (cyI, 12, .inl v_c_water)), (m_c 7, .inl (cyJ, 12, .inr (.inl v_c_salt)))] H := hP
  have hD : va_D A [_, _, _, (h_c, .inr (0, oX0 m_c h_g h_p v_c_pumped v_c_today)), (m_c 6, .inl (cyI, 12, .inl v_c_water)), (m_c 7, .inl (cyJ, 12, .inr (.inl v_c_salt)))] := hD
  refine lv_lstore (lv' := [(5, .long o_1), (0, .ref h_c), (1, .ref h_d), (2, .int q2), (3, .int q3), (4, .int q4)]) hx hb dX0_move_7 hl (by decide) rfl (fun ls hl => ?_)
  refine lv_aload_n hx hb dX0_move_9 rfl (lv_at hl 2 rfl) ?_
  refine va_get (D := (dC, dI)) (ci := 1) (v := .ref (m_d 1)) (C := RX1) (T := TX1) (N := 8) hx hb hts (g_c inlX1) hown hK hP 0 rfl rfl 1 (by decide) (hts _ (List.mem_cons_of_mem _ wm_34_2)) (fun _ h9 => h9) rfl dX0_move_10 ?_
  refine lv_iload_n hx hb dX0_move_13 rfl (lv_at hl 3 rfl) ?_
  refine lv_dup2_11 hx hb dX0_move_14 rfl rfl ?_
  obtain ⟨h_2, hf⟩ := ck_some hf
  refine va_iald hx hb hK hP 1 0 rfl rfl (inb_in h_2) dX0_move_15 ?_
  refine lv_iload hx hb dX0_move_16 (lv_at hl 5 rfl) ?_
  refine lv_isub hx hb dX0_move_18 ?_
  obtain ⟨h_3, hf⟩ := ck_some hf
  obtain ⟨a_4, ea_4, hf⟩ := nm_some hf
  refine va_iast hx hb hK hP hD hS 1 0 rfl rfl (inb_in h_3) dX0_move_19 (fun H locs hP hD hS => ?_)
  have hP : va_P (dC, dI) vwCl [(h_d, .inr (1, oX1 m_d v_d_day)), (m_d 1, .inl (cyI, 12, .inl a_4)), (m_d 2, .inl (cyJ, 12, .inr (.inl v_d_salt))), (h_c, .inr (0, oX0 m_c h_g h_p v_c_pumped v_c_today)), (m_c 6, .inl (cyI, 12, .inl v_c_water)), (m_c 7, .inl (cyJ, 12, .inr (.inl v_c_salt)))] H := by rw [ea_4]; exact hP
  have hD : va_D A [(h_d, .inr (1, oX1 m_d v_d_day)), (m_d 1, .inl (cyI, 12, .inl a_4)), (m_d 2, .inl (cyJ, 12, .inr (.inl v_d_salt))), (h_c, .inr (0, oX0 m_c h_g h_p v_c_pumped v_c_today)), (m_c 6, .inl (cyI, 12, .inl v_c_water)), (m_c 7, .inl (cyJ, 12, .inr (.inl v_c_salt)))] := by rw [ea_4]; exact hD
  refine lv_aload_n hx hb dX0_move_20 rfl (lv_at hl 2 rfl) ?_
  refine va_get (D := (dC, dI)) (ci := 1) (v := .ref (m_d 2)) (C := RX1) (T := TX1) (N := 8) hx hb hts (g_c inlX1) hown hK hP 0 rfl rfl 2 (by decide) (hts _ (List.mem_cons_of_mem _ wm_38_14)) (fun _ h9 => h9) rfl dX0_move_21 ?_
  refine lv_iload_n hx hb dX0_move_24 rfl (lv_at hl 3 rfl) ?_
  refine lv_dup2_11 hx hb dX0_move_25 rfl rfl ?_
  obtain ⟨h_5, hf⟩ := ck_some hf
  refine va_lald hx hb hK hP 2 1 rfl rfl (inb_in h_5) dX0_move_26 ?_
  refine lv_lload hx hb dX0_move_27 (lv_at hl 0 rfl) ?_
  refine lv_lsub hx hb dX0_move_29 ?_
  obtain ⟨h_6, hf⟩ := ck_some hf
  obtain ⟨a_7, ea_7, hf⟩ := nm_some hf
  refine va_last hx hb hK hP hD hS 2 1 rfl rfl (inb_in h_6) dX0_move_30 (fun H locs hP hD hS => ?_)
  have hP : va_P (dC, dI) vwCl [(h_d, .inr (1, oX1 m_d v_d_day)), (m_d 1, .inl (cyI, 12, .inl a_4)), (m_d 2, .inl (cyJ, 12, .inr (.inl a_7))), (h_c, .inr (0, oX0 m_c h_g h_p v_c_pumped v_c_today)), (m_c 6, .inl (cyI, 12, .inl v_c_water)), (m_c 7, .inl (cyJ, 12, .inr (.inl v_c_salt)))] H := by rw [ea_7]; exact hP
  have hD : va_D A [(h_d, .inr (1, oX1 m_d v_d_day)), (m_d 1, .inl (cyI, 12, .inl a_4)), (m_d 2, .inl (cyJ, 12, .inr (.inl a_7))), (h_c, .inr (0, oX0 m_c h_g h_p v_c_pumped v_c_today)), (m_c 6, .inl (cyI, 12, .inl v_c_water)), (m_c 7, .inl (cyJ, 12, .inr (.inl v_c_salt)))] := by rw [ea_7]; exact hD
  refine lv_aload_n hx hb dX0_move_31 rfl (lv_at hl 2 rfl) ?_
  refine va_get (D := (dC, dI)) (ci := 1) (v := .ref (m_d 1)) (C := RX1) (T := TX1) (N := 8) hx hb hts (g_c inlX1) hown hK hP 0 rfl rfl 1 (by decide) (hts _ (List.mem_cons_of_mem _ wm_34_2)) (fun _ h9 => h9) rfl dX0_move_32 ?_
  refine lv_iload_n hx hb dX0_move_35 rfl (lv_at hl 4 rfl) ?_
  refine lv_dup2_11 hx hb dX0_move_36 rfl rfl ?_
  obtain ⟨h_8, hf⟩ := ck_some hf
  refine va_iald hx hb hK hP 1 0 rfl rfl (inb_in h_8) dX0_move_37 ?_
  refine lv_iload hx hb dX0_move_38 (lv_at hl 5 rfl) ?_
  refine lv_iadd hx hb dX0_move_40 ?_
  obtain ⟨h_9, hf⟩ := ck_some hf
  obtain ⟨a_10, ea_10, hf⟩ := nm_some hf
  refine va_iast hx hb hK hP hD hS 1 0 rfl rfl (inb_in h_9) dX0_move_41 (fun H locs hP hD hS => ?_)
  have hP : va_P (dC, dI) vwCl [(h_d, .inr (1, oX1 m_d v_d_day)), (m_d 1, .inl (cyI, 12, .inl a_10)), (m_d 2, .inl (cyJ, 12, .inr (.inl a_7))), (h_c, .inr (0, oX0 m_c h_g h_p v_c_pumped v_c_today)), (m_c 6, .inl (cyI, 12, .inl v_c_water)), (m_c 7, .inl (cyJ, 12, .inr (.inl v_c_salt)))] H := by rw [ea_10]; exact hP
  have hD : va_D A [(h_d, .inr (1, oX1 m_d v_d_day)), (m_d 1, .inl (cyI, 12, .inl a_10)), (m_d 2, .inl (cyJ, 12, .inr (.inl a_7))), (h_c, .inr (0, oX0 m_c h_g h_p v_c_pumped v_c_today)), (m_c 6, .inl (cyI, 12, .inl v_c_water)), (m_c 7, .inl (cyJ, 12, .inr (.inl v_c_salt)))] := by rw [ea_10]; exact hD
  refine lv_aload_n hx hb dX0_move_42 rfl (lv_at hl 2 rfl) ?_
  refine va_get (D := (dC, dI)) (ci := 1) (v := .ref (m_d 2)) (C := RX1) (T := TX1) (N := 8) hx hb hts (g_c inlX1) hown hK hP 0 rfl rfl 2 (by decide) (hts _ (List.mem_cons_of_mem _ wm_38_14)) (fun _ h9 => h9) rfl dX0_move_43 ?_
  refine lv_iload_n hx hb dX0_move_46 rfl (lv_at hl 4 rfl) ?_
  refine lv_dup2_11 hx hb dX0_move_47 rfl rfl ?_
  obtain ⟨h_11, hf⟩ := ck_some hf
  refine va_lald hx hb hK hP 2 1 rfl rfl (inb_in h_11) dX0_move_48 ?_
  refine lv_lload hx hb dX0_move_49 (lv_at hl 0 rfl) ?_
  refine lv_ladd hx hb dX0_move_51 ?_
  obtain ⟨h_12, hf⟩ := ck_some hf
  obtain ⟨a_13, ea_13, hf⟩ := nm_some hf
  refine va_last hx hb hK hP hD hS 2 1 rfl rfl (inb_in h_12) dX0_move_52 (fun H locs hP hD hS => ?_)
  have hP : va_P (dC, dI) vwCl [(h_d, .inr (1, oX1 m_d v_d_day)), (m_d 1, .inl (cyI, 12, .inl a_10)), (m_d 2, .inl (cyJ, 12, .inr (.inl a_13))), (h_c, .inr (0, oX0 m_c h_g h_p v_c_pumped v_c_today)), (m_c 6, .inl (cyI, 12, .inl v_c_water)), (m_c 7, .inl (cyJ, 12, .inr (.inl v_c_salt)))] H := by rw [ea_13]; exact hP
  have hD : va_D A [(h_d, .inr (1, oX1 m_d v_d_day)), (m_d 1, .inl (cyI, 12, .inl a_10)), (m_d 2, .inl (cyJ, 12, .inr (.inl a_13))), (h_c, .inr (0, oX0 m_c h_g h_p v_c_pumped v_c_today)), (m_c 6, .inl (cyI, 12, .inl v_c_water)), (m_c 7, .inl (cyJ, 12, .inr (.inl v_c_salt)))] := by rw [ea_13]; exact hD
  exact hret _ _ _ _ (a_10, a_13) dX0_move_53 (Option.some.inj hf) (hP.sub [3, 4, 5, 0, 1, 2] (ux_pick (sg_h [(3, 3), (0, 3)] 6 rfl sk_z13_29 rfl))) (hD.sub [3, 4, 5, 0, 1, 2] nd_z13_28 (sg_h [(3, 3), (0, 3)] 6 rfl sk_z13_29 rfl)) hS
def f_X0_flowByRiver_b70   (v_d_water : (Nat → Int32)) (v_d_salt : (Nat → Int64)) (x3 : Int32) (x4 : Int32) : Option ((Nat → Int32) × (Nat → Int64)) := ck (inb x3 12) (ck (inb x3 12) (nm (upd v_d_water x3.toNatClampNeg ((v_d_water x3.toNatClampNeg) + x4)) (fun a_3 => some (a_3, v_d_salt))))
def f_X0_flowByRiver (v_c_level : (Nat → Int32)) (v_c_water : (Nat → Int32)) (v_c_salt : (Nat → Int64)) (v_g_riverCell : (Nat → Int32)) (v_g_riverLevel : (Nat → Int32)) (v_g_riverSalt : (Nat → Int32)) (v_p_riverWidth : (Nat → Int32)) (v_d_water : (Nat → Int32)) (v_d_salt : (Nat → Int64)) (q2 : Int32) : Option ((Nat → Int32) × (Nat → Int64)) := ck (inb q2 3) (bd (f_X0_riverFlow v_c_level v_g_riverCell v_g_riverLevel v_p_riverWidth q2) (fun o_2 => if o_2 ≤ (0 : Int32) then (if (0 : Int32) ≤ o_2 then (f_X0_flowByRiver_b70 v_d_water v_d_salt (v_g_riverCell q2.toNatClampNeg) o_2) else (ck (inb (v_g_riverCell q2.toNatClampNeg) 12) (bd (f_X0_saltAlong v_c_water v_c_salt (v_g_riverCell q2.toNatClampNeg) (-o_2)) (fun o_6 => ck (inb (v_g_riverCell q2.toNatClampNeg) 12) (nm (vp_updL v_d_salt (v_g_riverCell q2.toNatClampNeg).toNatClampNeg ((v_d_salt (v_g_riverCell q2.toNatClampNeg).toNatClampNeg) - o_6)) (fun a_8 => f_X0_flowByRiver_b70 v_d_water a_8 (v_g_riverCell q2.toNatClampNeg) o_2)))))) else (ck (inb (v_g_riverCell q2.toNatClampNeg) 12) (ck (inb q2 3) (ck (inb (v_g_riverCell q2.toNatClampNeg) 12) (nm (vp_updL v_d_salt (v_g_riverCell q2.toNatClampNeg).toNatClampNeg ((v_d_salt (v_g_riverCell q2.toNatClampNeg).toNatClampNeg) + (o_2.toInt64 * ((v_g_riverSalt q2.toNatClampNeg).toInt64)))) (fun a_12 => f_X0_flowByRiver_b70 v_d_water a_12 (v_g_riverCell q2.toNatClampNeg) o_2)))))))
set_option maxRecDepth 100000 in
set_option maxHeartbeats 8000000 in
theorem c_X0_flowByRiver (l : Launch) (dC : Nat → ClassId) (dI : Nat → Nat → Nat) (cyI cyJ cyZ cyB cyO : ClassId) (tO : Nat) (vF : Value) (adK adV : Nat → Nat) (h_c : Nat) (m_c : Nat → Nat) (h_g : Nat) (m_g : Nat → Nat) (h_p : Nat) (m_p : Nat → Nat) (h_d : Nat) (m_d : Nat → Nat) (v_c_pumped : Int32) (v_c_today : Int32) (v_c_level : (Nat → Int32)) (v_c_water : (Nat → Int32)) (v_c_salt : (Nat → Int64)) (v_g_cells : Int32) (v_g_passes : Int32) (v_g_rivers : Int32) (v_g_villages : Int32) (v_g_rains : Int32) (v_g_riverCell : (Nat → Int32)) (v_g_riverLevel : (Nat → Int32)) (v_g_riverSalt : (Nat → Int32)) (v_p_pumpCell : Int32) (v_p_pumpTakes : Int32) (v_p_pumpFrom : Int32) (v_p_pumpTo : Int32) (v_p_riverWidth : (Nat → Int32)) (v_d_day : Int32) (v_d_water : (Nat → Int32)) (v_d_salt : (Nat → Int64)) (q2 : Int32) (sz : Nat) (out : (Nat → Int32) × (Nat → Int64)) (hf : f_X0_flowByRiver v_c_level v_c_water v_c_salt v_g_riverCell v_g_riverLevel v_g_riverSalt v_p_riverWidth v_d_water v_d_salt q2 = some out) : Met l yX0_flowByRiver (Cond.code yX0_flowByRiver cX0_flowByRiver 5 none :: wsL_law) ({ frames := 1, cells := 0, slots := 0, locals := 22 } : Room) (va_Pc [.ref h_c, .ref h_d, .int q2] (ux_pre (dC, dI) vwCl (tyG cyI cyJ cyZ cyB cyO) [(h_c, .inr (0, oX0 m_c h_g h_p v_c_pumped v_c_today)), (m_c 5, .inl (cyI, 12, .inl v_c_level)), (m_c 6, .inl (cyI, 12, .inl v_c_water)), (m_c 7, .inl (cyJ, 12, .inr (.inl v_c_salt))), (h_g, .inr (3, oX3 m_g v_g_cells v_g_passes v_g_rivers v_g_villages v_g_rains)), (m_g 9, .inl (cyI, 3, .inl v_g_riverCell)), (m_g 10, .inl (cyI, 3, .inl v_g_riverLevel)), (m_g 12, .inl (cyI, 3, .inl v_g_riverSalt)), (h_p, .inr (4, oX4 m_p v_p_pumpCell v_p_pumpTakes v_p_pumpFrom v_p_pumpTo)), (m_p 2, .inl (cyI, 3, .inl v_p_riverWidth)), (h_d, .inr (1, oX1 m_d v_d_day)), (m_d 1, .inl (cyI, 12, .inl v_d_water)), (m_d 2, .inl (cyJ, 12, .inr (.inl v_d_salt)))] sz (xE tO vF adK adV))) (va_Qv (fun u : (Nat → Int32) × (Nat → Int64) => u = out) (ux_at (dC, dI) vwCl (tyG cyI cyJ cyZ cyB cyO) [(h_c, .inr (0, oX0 m_c h_g h_p v_c_pumped v_c_today)), (m_c 5, .inl (cyI, 12, .inl v_c_level)), (m_c 6, .inl (cyI, 12, .inl v_c_water)), (m_c 7, .inl (cyJ, 12, .inr (.inl v_c_salt))), (h_g, .inr (3, oX3 m_g v_g_cells v_g_passes v_g_rivers v_g_villages v_g_rains)), (m_g 9, .inl (cyI, 3, .inl v_g_riverCell)), (m_g 10, .inl (cyI, 3, .inl v_g_riverLevel)), (m_g 12, .inl (cyI, 3, .inl v_g_riverSalt)), (h_p, .inr (4, oX4 m_p v_p_pumpCell v_p_pumpTakes v_p_pumpFrom v_p_pumpTo)), (m_p 2, .inl (cyI, 3, .inl v_p_riverWidth)), (h_d, .inr (1, oX1 m_d v_d_day)), (m_d 1, .inl (cyI, 12, .inl v_d_water)), (m_d 2, .inl (cyJ, 12, .inr (.inl v_d_salt)))] sz (fun u : (Nat → Int32) × (Nat → Int64) => [(h_c, .inr (0, oX0 m_c h_g h_p v_c_pumped v_c_today)), (m_c 5, .inl (cyI, 12, .inl v_c_level)), (m_c 6, .inl (cyI, 12, .inl v_c_water)), (m_c 7, .inl (cyJ, 12, .inr (.inl v_c_salt))), (h_g, .inr (3, oX3 m_g v_g_cells v_g_passes v_g_rivers v_g_villages v_g_rains)), (m_g 9, .inl (cyI, 3, .inl v_g_riverCell)), (m_g 10, .inl (cyI, 3, .inl v_g_riverLevel)), (m_g 12, .inl (cyI, 3, .inl v_g_riverSalt)), (h_p, .inr (4, oX4 m_p v_p_pumpCell v_p_pumpTakes v_p_pumpFrom v_p_pumpTo)), (m_p 2, .inl (cyI, 3, .inl v_p_riverWidth)), (h_d, .inr (1, oX1 m_d v_d_day)), (m_d 1, .inl (cyI, 12, .inl u.1)), (m_d 2, .inl (cyJ, 12, .inr (.inl u.2)))])) (va_A [(h_c, .inr (0, oX0 m_c h_g h_p v_c_pumped v_c_today)), (m_c 5, .inl (cyI, 12, .inl v_c_level)), (m_c 6, .inl (cyI, 12, .inl v_c_water)), (m_c 7, .inl (cyJ, 12, .inr (.inl v_c_salt))), (h_g, .inr (3, oX3 m_g v_g_cells v_g_passes v_g_rivers v_g_villages v_g_rains)), (m_g 9, .inl (cyI, 3, .inl v_g_riverCell)), (m_g 10, .inl (cyI, 3, .inl v_g_riverLevel)), (m_g 12, .inl (cyI, 3, .inl v_g_riverSalt)), (h_p, .inr (4, oX4 m_p v_p_pumpCell v_p_pumpTakes v_p_pumpFrom v_p_pumpTo)), (m_p 2, .inl (cyI, 3, .inl v_p_riverWidth)), (h_d, .inr (1, oX1 m_d v_d_day)), (m_d 1, .inl (cyI, 12, .inl v_d_water)), (m_d 2, .inl (cyJ, 12, .inr (.inl v_d_salt)))] sz)) 0 0 (va_A [(h_c, .inr (0, oX0 m_c h_g h_p v_c_pumped v_c_today)), (m_c 5, .inl (cyI, 12, .inl v_c_level)), (m_c 6, .inl (cyI, 12, .inl v_c_water)), (m_c 7, .inl (cyJ, 12, .inr (.inl v_c_salt))), (h_g, .inr (3, oX3 m_g v_g_cells v_g_passes v_g_rivers v_g_villages v_g_rains)), (m_g 9, .inl (cyI, 3, .inl v_g_riverCell)), (m_g 10, .inl (cyI, 3, .inl v_g_riverLevel)), (m_g 12, .inl (cyI, 3, .inl v_g_riverSalt)), (h_p, .inr (4, oX4 m_p v_p_pumpCell v_p_pumpTakes v_p_pumpFrom v_p_pumpTo)), (m_p 2, .inl (cyI, 3, .inl v_p_riverWidth)), (h_d, .inr (1, oX1 m_d v_d_day)), (m_d 1, .inl (cyI, 12, .inl v_d_water)), (m_d 2, .inl (cyJ, 12, .inr (.inl v_d_salt)))] sz) := by
  refine ux_metv (by decide +kernel) (Nat.le_of_ble_eq_true rfl) ?_
  intro p e s m below meth c A Q ls hx hb hml hts hown hA hP hK hD hE hl hret
  have hown : s.vm.findClass RX0 = some m.cls := hown
  have hS : va_S A s.heap s.heap [] := va_S.rf
  have hl : lv_has ls 5 [(0, .ref h_c), (1, .ref h_d), (2, .int q2)] := hl
  have hb_70 : ∀ (v_d_water : (Nat → Int32)) (v_d_salt : (Nat → Int64)) (x3 : Int32) (x4 : Int32), f_X0_flowByRiver_b70 v_d_water v_d_salt x3 x4 = some out → ∀ (H : Heap) (locs : List Loc) (ls : Array Slot), va_P (dC, dI) vwCl [(h_c, .inr (0, oX0 m_c h_g h_p v_c_pumped v_c_today)), (m_c 5, .inl (cyI, 12, .inl v_c_level)), (m_c 6, .inl (cyI, 12, .inl v_c_water)), (m_c 7, .inl (cyJ, 12, .inr (.inl v_c_salt))), (h_g, .inr (3, oX3 m_g v_g_cells v_g_passes v_g_rivers v_g_villages v_g_rains)), (m_g 9, .inl (cyI, 3, .inl v_g_riverCell)), (m_g 10, .inl (cyI, 3, .inl v_g_riverLevel)), (m_g 12, .inl (cyI, 3, .inl v_g_riverSalt)), (h_p, .inr (4, oX4 m_p v_p_pumpCell v_p_pumpTakes v_p_pumpFrom v_p_pumpTo)), (m_p 2, .inl (cyI, 3, .inl v_p_riverWidth)), (h_d, .inr (1, oX1 m_d v_d_day)), (m_d 1, .inl (cyI, 12, .inl v_d_water)), (m_d 2, .inl (cyJ, 12, .inr (.inl v_d_salt)))] H → va_D A [(h_c, .inr (0, oX0 m_c h_g h_p v_c_pumped v_c_today)), (m_c 5, .inl (cyI, 12, .inl v_c_level)), (m_c 6, .inl (cyI, 12, .inl v_c_water)), (m_c 7, .inl (cyJ, 12, .inr (.inl v_c_salt))), (h_g, .inr (3, oX3 m_g v_g_cells v_g_passes v_g_rivers v_g_villages v_g_rains)), (m_g 9, .inl (cyI, 3, .inl v_g_riverCell)), (m_g 10, .inl (cyI, 3, .inl v_g_riverLevel)), (m_g 12, .inl (cyI, 3, .inl v_g_riverSalt)), (h_p, .inr (4, oX4 m_p v_p_pumpCell v_p_pumpTakes v_p_pumpFrom v_p_pumpTo)), (m_p 2, .inl (cyI, 3, .inl v_p_riverWidth)), (h_d, .inr (1, oX1 m_d v_d_day)), (m_d 1, .inl (cyI, 12, .inl v_d_water)), (m_d 2, .inl (cyJ, 12, .inr (.inl v_d_salt)))] → va_S A s.heap H locs → lv_has ls 5 [(1, .ref h_d), (3, .int x3), (4, .int x4)] → W p l e ({ frames := 1, cells := 0, slots := 0, locals := 22 } : Room) s m ([.ref h_c, .ref h_d, .int q2] : List Value).toArray below meth c H locs 0 0 Q (F0 m 70 ls []) := by
    intro  v_d_water v_d_salt x3 x4 hf H locs ls hP hD hS hl
    unfold f_X0_flowByRiver_b70 at hf
    refine lv_aload_n hx hb dX0_flowByRiver_70 rfl (lv_at hl 0 rfl) ?_
    refine va_get (D := (dC, dI)) (ci := 1) (v := .ref (m_d 1)) (C := RX1) (T := TX1) (N := 8) hx hb hts (g_c inlX1) hown hK hP 10 rfl rfl 1 (by decide) (hts _ (List.mem_cons_of_mem _ wm_34_2)) (fun _ h9 => h9) rfl dX0_flowByRiver_71 ?_
    refine lv_iload_n hx hb dX0_flowByRiver_74 rfl (lv_at hl 1 rfl) ?_
    refine lv_dup2_11 hx hb dX0_flowByRiver_75 rfl rfl ?_
    obtain ⟨h_1, hf⟩ := ck_some hf
    refine va_iald hx hb hK hP 11 0 rfl rfl (inb_in h_1) dX0_flowByRiver_76 ?_
    refine lv_iload hx hb dX0_flowByRiver_77 (lv_at hl 2 rfl) ?_
    refine lv_iadd hx hb dX0_flowByRiver_79 ?_
    obtain ⟨h_2, hf⟩ := ck_some hf
    obtain ⟨a_3, ea_3, hf⟩ := nm_some hf
    refine va_iast hx hb hK hP hD hS 11 0 rfl rfl (inb_in h_2) dX0_flowByRiver_80 (fun H locs hP hD hS => ?_)
    have hP : va_P (dC, dI) vwCl [(h_c, .inr (0, oX0 m_c h_g h_p v_c_pumped v_c_today)), (m_c 5, .inl (cyI, 12, .inl v_c_level)), (m_c 6, .inl (cyI, 12, .inl v_c_water)), (m_c 7, .inl (cyJ, 12, .inr (.inl v_c_salt))), (h_g, .inr (3, oX3 m_g v_g_cells v_g_passes v_g_rivers v_g_villages v_g_rains)), (m_g 9, .inl (cyI, 3, .inl v_g_riverCell)), (m_g 10, .inl (cyI, 3, .inl v_g_riverLevel)), (m_g 12, .inl (cyI, 3, .inl v_g_riverSalt)), (h_p, .inr (4, oX4 m_p v_p_pumpCell v_p_pumpTakes v_p_pumpFrom v_p_pumpTo)), (m_p 2, .inl (cyI, 3, .inl v_p_riverWidth)), (h_d, .inr (1, oX1 m_d v_d_day)), (m_d 1, .inl (cyI, 12, .inl a_3)), (m_d 2, .inl (cyJ, 12, .inr (.inl v_d_salt)))] H := by rw [ea_3]; exact hP
    have hD : va_D A [(h_c, .inr (0, oX0 m_c h_g h_p v_c_pumped v_c_today)), (m_c 5, .inl (cyI, 12, .inl v_c_level)), (m_c 6, .inl (cyI, 12, .inl v_c_water)), (m_c 7, .inl (cyJ, 12, .inr (.inl v_c_salt))), (h_g, .inr (3, oX3 m_g v_g_cells v_g_passes v_g_rivers v_g_villages v_g_rains)), (m_g 9, .inl (cyI, 3, .inl v_g_riverCell)), (m_g 10, .inl (cyI, 3, .inl v_g_riverLevel)), (m_g 12, .inl (cyI, 3, .inl v_g_riverSalt)), (h_p, .inr (4, oX4 m_p v_p_pumpCell v_p_pumpTakes v_p_pumpFrom v_p_pumpTo)), (m_p 2, .inl (cyI, 3, .inl v_p_riverWidth)), (h_d, .inr (1, oX1 m_d v_d_day)), (m_d 1, .inl (cyI, 12, .inl a_3)), (m_d 2, .inl (cyJ, 12, .inr (.inl v_d_salt)))] := by rw [ea_3]; exact hD
    exact hret _ _ _ _ (a_3, v_d_salt) dX0_flowByRiver_81 (Option.some.inj hf) hP hD hS
  unfold f_X0_flowByRiver at hf
  refine lv_aload_n hx hb dX0_flowByRiver_0 rfl (lv_at hl 0 rfl) ?_
  refine va_get (D := (dC, dI)) (ci := 0) (v := .ref h_g) (C := RX0) (T := TX0) (N := 9) hx hb hts (g_c inlX0) hown hK hP 0 rfl rfl 0 (by decide) (hts _ (List.mem_cons_of_mem _ wm_5_13)) (fun _ h9 => h9) rfl dX0_flowByRiver_1 ?_
  refine va_get (D := (dC, dI)) (ci := 3) (v := .ref (m_g 9)) (C := RX3) (T := TX3) (N := 20) hx hb hts (g_c inlX3) hown hK hP 4 rfl rfl 9 (by decide) (hts _ (List.mem_cons_of_mem _ wm_39_8)) (fun _ h9 => h9) rfl dX0_flowByRiver_4 ?_
  refine lv_iload_n hx hb dX0_flowByRiver_7 rfl (lv_at hl 2 rfl) ?_
  obtain ⟨h_1, hf⟩ := ck_some hf
  refine va_iald hx hb hK hP 5 0 rfl rfl (inb_in h_1) dX0_flowByRiver_8 ?_
  refine lv_istore_n (lv' := [(3, .int (v_g_riverCell q2.toNatClampNeg)), (0, .ref h_c), (1, .ref h_d), (2, .int q2)]) hx hb dX0_flowByRiver_9 rfl hl (by decide) rfl (fun ls hl => ?_)
  refine lv_aload_n hx hb dX0_flowByRiver_10 rfl (lv_at hl 1 rfl) ?_
  refine lv_iload_n hx hb dX0_flowByRiver_11 rfl (lv_at hl 3 rfl) ?_
  obtain ⟨o_2, ho_2, hf⟩ := bd_some hf
  refine ux_Vi0 (n := 1) (As := [.int q2]) (rest := []) (wc := [(h_c, .inr (0, oX0 m_c h_g h_p v_c_pumped v_c_today)), (m_c 5, .inl (cyI, 12, .inl v_c_level)), (h_g, .inr (3, oX3 m_g v_g_cells v_g_passes v_g_rivers v_g_villages v_g_rains)), (m_g 9, .inl (cyI, 3, .inl v_g_riverCell)), (m_g 10, .inl (cyI, 3, .inl v_g_riverLevel)), (h_p, .inr (4, oX4 m_p v_p_pumpCell v_p_pumpTakes v_p_pumpFrom v_p_pumpTo)), (m_p 2, .inl (cyI, 3, .inl v_p_riverWidth))]) (wr := [_, _, _, _, _, _]) ⟨hx, hb, hml, hown, hts⟩ hK hP hD hS hA hE [0, 1, 4, 5, 6, 8, 9] [2, 3, 7, 10, 11, 12] (sg_h [(0, 2), (4, 3), (8, 2)] 13 rfl sk_z13_30 rfl) (sg_h [(2, 2), (7, 1), (10, 3)] 13 rfl sk_z13_31 rfl) nd_z13_29 nd_z13_30 nj_z13_11 (c_X0_riverFlow l dC dI cyI cyJ cyZ cyB cyO tO vF adK adV h_c m_c h_g m_g h_p m_p v_c_pumped v_c_today v_c_level v_g_cells v_g_passes v_g_rivers v_g_villages v_g_rains v_g_riverCell v_g_riverLevel v_p_pumpCell v_p_pumpTakes v_p_pumpFrom v_p_pumpTo v_p_riverWidth q2 _ _ ho_2) 0 0 rfl rfl wm_39_10 wm_39_11 wm_39_12 wm_2_6 wm_39_13 ⟨rfl, rfl⟩ (by decide +kernel) rfl ⟨Nat.le_of_ble_eq_true rfl, Nat.le_of_ble_eq_true rfl⟩ hl.1 rfl (Nat.le_of_ble_eq_true rfl) dX0_flowByRiver_12 ⟨Nat.le_of_ble_eq_true rfl, Nat.le_of_ble_eq_true rfl⟩ (fun H locs hP hD hS => ?_)
  have hP : va_P (dC, dI) vwCl [_, _, _, _, _, _, (h_c, .inr (0, oX0 m_c h_g h_p v_c_pumped v_c_today)), (m_c 5, .inl (cyI, 12, .inl v_c_level)), (h_g, .inr (3, oX3 m_g v_g_cells v_g_passes v_g_rivers v_g_villages v_g_rains)), (m_g 9, .inl (cyI, 3, .inl v_g_riverCell)), (m_g 10, .inl (cyI, 3, .inl v_g_riverLevel)), (h_p, .inr (4, oX4 m_p v_p_pumpCell v_p_pumpTakes v_p_pumpFrom v_p_pumpTo)), (m_p 2, .inl (cyI, 3, .inl v_p_riverWidth))] H := hP
  have hD : va_D A [_, _, _, _, _, _, (h_c, .inr (0, oX0 m_c h_g h_p v_c_pumped v_c_today)), (m_c 5, .inl (cyI, 12, .inl v_c_level)), (h_g, .inr (3, oX3 m_g v_g_cells v_g_passes v_g_rivers v_g_villages v_g_rains)), (m_g 9, .inl (cyI, 3, .inl v_g_riverCell)), (m_g 10, .inl (cyI, 3, .inl v_g_riverLevel)), (h_p, .inr (4, oX4 m_p v_p_pumpCell v_p_pumpTakes v_p_pumpFrom v_p_pumpTo)), (m_p 2, .inl (cyI, 3, .inl v_p_riverWidth))] := hD
  refine lv_istore (lv' := [(4, .int o_2), (3, .int (v_g_riverCell q2.toNatClampNeg)), (0, .ref h_c), (1, .ref h_d), (2, .int q2)]) hx hb dX0_flowByRiver_15 hl (by decide) rfl (fun ls hl => ?_)
  refine lv_iload hx hb dX0_flowByRiver_17 (lv_at hl 0 rfl) ?_
  refine lv_if_le (tgt := 48) hx hb dX0_flowByRiver_19 (by decide) (fun c_3 => ?_) (fun c_3 => ?_)
  · have hf := (if_pos c_3).symm.trans hf
    refine lv_iload hx hb dX0_flowByRiver_48 (lv_at hl 0 rfl) ?_
    refine lv_if_ge (tgt := 70) hx hb dX0_flowByRiver_50 (by decide) (fun c_4 => ?_) (fun c_4 => ?_)
    · have hf := (if_pos c_4).symm.trans hf
      exact hb_70 _ _ _ _ hf _ _ _ (hP.sub [6, 7, 0, 1, 8, 9, 10, 2, 11, 12, 3, 4, 5] (ux_pick (sg_h [(6, 2), (0, 2), (8, 3), (2, 1), (11, 2), (3, 3)] 13 rfl sk_z13_32 rfl))) (hD.sub [6, 7, 0, 1, 8, 9, 10, 2, 11, 12, 3, 4, 5] nd_z13_31 (sg_h [(6, 2), (0, 2), (8, 3), (2, 1), (11, 2), (3, 3)] 13 rfl sk_z13_32 rfl)) hS (lv_sub hl [3, 1, 0] rfl)
    · have hf := (if_neg c_4).symm.trans hf
      refine lv_aload_n hx hb dX0_flowByRiver_53 rfl (lv_at hl 3 rfl) ?_
      refine va_get (D := (dC, dI)) (ci := 1) (v := .ref (m_d 2)) (C := RX1) (T := TX1) (N := 8) hx hb hts (g_c inlX1) hown hK hP 3 rfl rfl 2 (by decide) (hts _ (List.mem_cons_of_mem _ wm_38_14)) (fun _ h9 => h9) rfl dX0_flowByRiver_54 ?_
      refine lv_iload_n hx hb dX0_flowByRiver_57 rfl (lv_at hl 1 rfl) ?_
      refine lv_dup2_11 hx hb dX0_flowByRiver_58 rfl rfl ?_
      obtain ⟨h_5, hf⟩ := ck_some hf
      refine va_lald hx hb hK hP 5 1 rfl rfl (inb_in h_5) dX0_flowByRiver_59 ?_
      refine lv_aload_n hx hb dX0_flowByRiver_60 rfl (lv_at hl 2 rfl) ?_
      refine lv_iload_n hx hb dX0_flowByRiver_61 rfl (lv_at hl 1 rfl) ?_
      refine lv_iload hx hb dX0_flowByRiver_62 (lv_at hl 0 rfl) ?_
      refine lv_ineg hx hb dX0_flowByRiver_64 ?_
      obtain ⟨o_6, ho_6, hf⟩ := bd_some hf
      refine ux_Vl0 (n := 2) (As := [.int (v_g_riverCell q2.toNatClampNeg), .int (-o_2)]) (rest := [.long (v_d_salt (v_g_riverCell q2.toNatClampNeg).toNatClampNeg), .int (v_g_riverCell q2.toNatClampNeg), .ref (m_d 2)]) (wc := [(h_c, .inr (0, oX0 m_c h_g h_p v_c_pumped v_c_today)), (m_c 6, .inl (cyI, 12, .inl v_c_water)), (m_c 7, .inl (cyJ, 12, .inr (.inl v_c_salt)))]) (wr := [_, _, _, _, _, _, _, _, _, _]) ⟨hx, hb, hml, hown, hts⟩ hK hP hD hS hA hE [6, 0, 1] [2, 3, 4, 5, 7, 8, 9, 10, 11, 12] (sg_h [(6, 1), (0, 2)] 13 rfl sk_z13_33 rfl) (sg_h [(2, 4), (7, 6)] 13 rfl sk_z13_34 rfl) nd_z13_32 nd_z13_33 nj_z13_12 (c_X0_saltAlong l dC dI cyI cyJ cyZ cyB cyO tO vF adK adV h_c m_c h_g m_g h_p m_p v_c_pumped v_c_today v_c_water v_c_salt (v_g_riverCell q2.toNatClampNeg) (-o_2) _ _ ho_6) 0 0 rfl rfl wm_39_0 wm_39_1 wm_39_2 wm_2_6 wm_39_3 ⟨rfl, rfl⟩ (by decide +kernel) rfl ⟨Nat.le_of_ble_eq_true rfl, Nat.le_of_ble_eq_true rfl⟩ hl.1 rfl (Nat.le_of_ble_eq_true rfl) dX0_flowByRiver_65 ⟨Nat.le_of_ble_eq_true rfl, Nat.le_of_ble_eq_true rfl⟩ (fun H locs hP hD hS => ?_)
      have hP : va_P (dC, dI) vwCl [_, _, _, _, _, _, _, _, _, _, (h_c, .inr (0, oX0 m_c h_g h_p v_c_pumped v_c_today)), (m_c 6, .inl (cyI, 12, .inl v_c_water)), (m_c 7, .inl (cyJ, 12, .inr (.inl v_c_salt)))] H := hP
      have hD : va_D A [_, _, _, _, _, _, _, _, _, _, (h_c, .inr (0, oX0 m_c h_g h_p v_c_pumped v_c_today)), (m_c 6, .inl (cyI, 12, .inl v_c_water)), (m_c 7, .inl (cyJ, 12, .inr (.inl v_c_salt)))] := hD
      refine lv_lsub hx hb dX0_flowByRiver_68 ?_
      obtain ⟨h_7, hf⟩ := ck_some hf
      obtain ⟨a_8, ea_8, hf⟩ := nm_some hf
      refine va_last hx hb hK hP hD hS 3 1 rfl rfl (inb_in h_7) dX0_flowByRiver_69 (fun H locs hP hD hS => ?_)
      have hP : va_P (dC, dI) vwCl [(m_g 12, .inl (cyI, 3, .inl v_g_riverSalt)), (h_d, .inr (1, oX1 m_d v_d_day)), (m_d 1, .inl (cyI, 12, .inl v_d_water)), (m_d 2, .inl (cyJ, 12, .inr (.inl a_8))), (m_c 5, .inl (cyI, 12, .inl v_c_level)), (h_g, .inr (3, oX3 m_g v_g_cells v_g_passes v_g_rivers v_g_villages v_g_rains)), (m_g 9, .inl (cyI, 3, .inl v_g_riverCell)), (m_g 10, .inl (cyI, 3, .inl v_g_riverLevel)), (h_p, .inr (4, oX4 m_p v_p_pumpCell v_p_pumpTakes v_p_pumpFrom v_p_pumpTo)), (m_p 2, .inl (cyI, 3, .inl v_p_riverWidth)), (h_c, .inr (0, oX0 m_c h_g h_p v_c_pumped v_c_today)), (m_c 6, .inl (cyI, 12, .inl v_c_water)), (m_c 7, .inl (cyJ, 12, .inr (.inl v_c_salt)))] H := by rw [ea_8]; exact hP
      have hD : va_D A [(m_g 12, .inl (cyI, 3, .inl v_g_riverSalt)), (h_d, .inr (1, oX1 m_d v_d_day)), (m_d 1, .inl (cyI, 12, .inl v_d_water)), (m_d 2, .inl (cyJ, 12, .inr (.inl a_8))), (m_c 5, .inl (cyI, 12, .inl v_c_level)), (h_g, .inr (3, oX3 m_g v_g_cells v_g_passes v_g_rivers v_g_villages v_g_rains)), (m_g 9, .inl (cyI, 3, .inl v_g_riverCell)), (m_g 10, .inl (cyI, 3, .inl v_g_riverLevel)), (h_p, .inr (4, oX4 m_p v_p_pumpCell v_p_pumpTakes v_p_pumpFrom v_p_pumpTo)), (m_p 2, .inl (cyI, 3, .inl v_p_riverWidth)), (h_c, .inr (0, oX0 m_c h_g h_p v_c_pumped v_c_today)), (m_c 6, .inl (cyI, 12, .inl v_c_water)), (m_c 7, .inl (cyJ, 12, .inr (.inl v_c_salt)))] := by rw [ea_8]; exact hD
      exact hb_70 _ _ _ _ hf _ _ _ (hP.sub [10, 4, 11, 12, 5, 6, 7, 0, 8, 9, 1, 2, 3] (ux_pick (sg_h [(10, 1), (4, 1), (11, 2), (5, 3), (0, 1), (8, 2), (1, 3)] 13 rfl sk_z13_35 rfl))) (hD.sub [10, 4, 11, 12, 5, 6, 7, 0, 8, 9, 1, 2, 3] nd_z13_34 (sg_h [(10, 1), (4, 1), (11, 2), (5, 3), (0, 1), (8, 2), (1, 3)] 13 rfl sk_z13_35 rfl)) hS (lv_sub hl [3, 1, 0] rfl)
  · have hf := (if_neg c_3).symm.trans hf
    refine lv_aload_n hx hb dX0_flowByRiver_22 rfl (lv_at hl 3 rfl) ?_
    refine va_get (D := (dC, dI)) (ci := 1) (v := .ref (m_d 2)) (C := RX1) (T := TX1) (N := 8) hx hb hts (g_c inlX1) hown hK hP 3 rfl rfl 2 (by decide) (hts _ (List.mem_cons_of_mem _ wm_38_14)) (fun _ h9 => h9) rfl dX0_flowByRiver_23 ?_
    refine lv_iload_n hx hb dX0_flowByRiver_26 rfl (lv_at hl 1 rfl) ?_
    refine lv_dup2_11 hx hb dX0_flowByRiver_27 rfl rfl ?_
    obtain ⟨h_9, hf⟩ := ck_some hf
    refine va_lald hx hb hK hP 5 1 rfl rfl (inb_in h_9) dX0_flowByRiver_28 ?_
    refine lv_iload hx hb dX0_flowByRiver_29 (lv_at hl 0 rfl) ?_
    refine lv_i2l hx hb dX0_flowByRiver_31 rfl ?_
    refine lv_aload_n hx hb dX0_flowByRiver_32 rfl (lv_at hl 2 rfl) ?_
    refine va_get (D := (dC, dI)) (ci := 0) (v := .ref h_g) (C := RX0) (T := TX0) (N := 9) hx hb hts (g_c inlX0) hown hK hP 6 rfl rfl 0 (by decide) (hts _ (List.mem_cons_of_mem _ wm_5_13)) (fun _ h9 => h9) rfl dX0_flowByRiver_33 ?_
    refine va_get (D := (dC, dI)) (ci := 3) (v := .ref (m_g 12)) (C := RX3) (T := TX3) (N := 20) hx hb hts (g_c inlX3) hown hK hP 8 rfl rfl 12 (by decide) (hts _ (List.mem_cons_of_mem _ wm_39_9)) (fun _ h9 => h9) rfl dX0_flowByRiver_36 ?_
    refine lv_iload_n hx hb dX0_flowByRiver_39 rfl (lv_at hl 4 rfl) ?_
    obtain ⟨h_10, hf⟩ := ck_some hf
    refine va_iald hx hb hK hP 2 0 rfl rfl (inb_in h_10) dX0_flowByRiver_40 ?_
    refine lv_i2l hx hb dX0_flowByRiver_41 rfl ?_
    refine lv_lmul hx hb dX0_flowByRiver_42 ?_
    refine lv_ladd hx hb dX0_flowByRiver_43 ?_
    obtain ⟨h_11, hf⟩ := ck_some hf
    obtain ⟨a_12, ea_12, hf⟩ := nm_some hf
    refine va_last hx hb hK hP hD hS 5 1 rfl rfl (inb_in h_11) dX0_flowByRiver_44 (fun H locs hP hD hS => ?_)
    have hP : va_P (dC, dI) vwCl [(m_c 6, .inl (cyI, 12, .inl v_c_water)), (m_c 7, .inl (cyJ, 12, .inr (.inl v_c_salt))), (m_g 12, .inl (cyI, 3, .inl v_g_riverSalt)), (h_d, .inr (1, oX1 m_d v_d_day)), (m_d 1, .inl (cyI, 12, .inl v_d_water)), (m_d 2, .inl (cyJ, 12, .inr (.inl a_12))), (h_c, .inr (0, oX0 m_c h_g h_p v_c_pumped v_c_today)), (m_c 5, .inl (cyI, 12, .inl v_c_level)), (h_g, .inr (3, oX3 m_g v_g_cells v_g_passes v_g_rivers v_g_villages v_g_rains)), (m_g 9, .inl (cyI, 3, .inl v_g_riverCell)), (m_g 10, .inl (cyI, 3, .inl v_g_riverLevel)), (h_p, .inr (4, oX4 m_p v_p_pumpCell v_p_pumpTakes v_p_pumpFrom v_p_pumpTo)), (m_p 2, .inl (cyI, 3, .inl v_p_riverWidth))] H := by rw [ea_12]; exact hP
    have hD : va_D A [(m_c 6, .inl (cyI, 12, .inl v_c_water)), (m_c 7, .inl (cyJ, 12, .inr (.inl v_c_salt))), (m_g 12, .inl (cyI, 3, .inl v_g_riverSalt)), (h_d, .inr (1, oX1 m_d v_d_day)), (m_d 1, .inl (cyI, 12, .inl v_d_water)), (m_d 2, .inl (cyJ, 12, .inr (.inl a_12))), (h_c, .inr (0, oX0 m_c h_g h_p v_c_pumped v_c_today)), (m_c 5, .inl (cyI, 12, .inl v_c_level)), (h_g, .inr (3, oX3 m_g v_g_cells v_g_passes v_g_rivers v_g_villages v_g_rains)), (m_g 9, .inl (cyI, 3, .inl v_g_riverCell)), (m_g 10, .inl (cyI, 3, .inl v_g_riverLevel)), (h_p, .inr (4, oX4 m_p v_p_pumpCell v_p_pumpTakes v_p_pumpFrom v_p_pumpTo)), (m_p 2, .inl (cyI, 3, .inl v_p_riverWidth))] := by rw [ea_12]; exact hD
    refine lv_goto (tgt := 70) hx hb dX0_flowByRiver_45 (by decide) ?_
    exact hb_70 _ _ _ _ hf _ _ _ (hP.sub [6, 7, 0, 1, 8, 9, 10, 2, 11, 12, 3, 4, 5] (ux_pick (sg_h [(6, 2), (0, 2), (8, 3), (2, 1), (11, 2), (3, 3)] 13 rfl sk_z13_32 rfl))) (hD.sub [6, 7, 0, 1, 8, 9, 10, 2, 11, 12, 3, 4, 5] nd_z13_31 (sg_h [(6, 2), (0, 2), (8, 3), (2, 1), (11, 2), (3, 3)] 13 rfl sk_z13_32 rfl)) hS (lv_sub hl [3, 1, 0] rfl)
def f_X0_morning_b65 (k30 : Int32 → (Nat → Int32) → (Nat → Int32) → Int32 → Int32 → Option (Int32 × (Nat → Int32) × (Nat → Int32))) (v_g_cells : Int32) (v_g_room : (Nat → Int32)) (v_c_today : Int32) (v_d_water : (Nat → Int32)) (v_d_seen : (Nat → Int32)) (x2 : Int32) (x3 : Int32) : Option (Int32 × (Nat → Int32) × (Nat → Int32)) := ck (inb x3 12) (ck (inb x3 12) (nm (upd v_d_water x3.toNatClampNeg ((v_d_water x3.toNatClampNeg) + v_c_today)) (fun a_3 => k30 v_c_today a_3 v_d_seen x2 (x3 + (1 : Int32)))))
def f_X0_morning_b30_st (kr : Int32 → (Nat → Int32) → (Nat → Int32) → Int32 → Int32 → Option (Int32 × (Nat → Int32) × (Nat → Int32)))  (v_g_cells : Int32) (v_g_room : (Nat → Int32)) (v_c_today : Int32) (v_d_water : (Nat → Int32)) (v_d_seen : (Nat → Int32)) (x2 : Int32) (x3 : Int32) : Option (Int32 × (Nat → Int32) × (Nat → Int32)) := if v_g_cells ≤ x3 then (some (v_c_today, v_d_water, v_d_seen)) else (if x2 = (0 : Int32) then (f_X0_morning_b65 kr v_g_cells v_g_room v_c_today v_d_water v_d_seen x2 x3) else (ck (inb x3 12) (bd (f_X3_levelOf v_g_room x3 (v_d_water x3.toNatClampNeg)) (fun o_4 => ck (inb x3 12) (nm (upd v_d_seen x3.toNatClampNeg o_4) (fun a_6 => f_X0_morning_b65 kr v_g_cells v_g_room v_c_today v_d_water a_6 x2 x3))))))
def f_X0_morning_b30  (v_g_cells : Int32) (v_g_room : (Nat → Int32)) : Nat → Int32 → (Nat → Int32) → (Nat → Int32) → Int32 → Int32 → Option (Int32 × (Nat → Int32) × (Nat → Int32))
  | 0 => fun _ _ _ _ _ => none
  | n + 1 => f_X0_morning_b30_st (f_X0_morning_b30 v_g_cells v_g_room n) v_g_cells v_g_room
def f_X0_morning_b15  (v_g_cells : Int32) (v_g_rains : Int32) (v_g_room : (Nat → Int32)) (v_p_rain : (Nat → Int32)) (v_d_day : Int32) (v_c_today : Int32) (v_d_water : (Nat → Int32)) (v_d_seen : (Nat → Int32)) (t0 : Int32) : Option (Int32 × (Nat → Int32) × (Nat → Int32)) := bd (f_X0_rainOf v_g_rains v_p_rain v_d_day) (fun o_1 => f_X0_morning_b30 v_g_cells v_g_room fuel o_1 v_d_water v_d_seen t0 (0 : Int32))
def f_X0_morning (v_g_cells : Int32) (v_g_rains : Int32) (v_g_room : (Nat → Int32)) (v_p_rain : (Nat → Int32)) (v_d_day : Int32) (v_c_today : Int32) (v_d_water : (Nat → Int32)) (v_d_seen : (Nat → Int32)) : Option (Int32 × (Nat → Int32) × (Nat → Int32)) := if (v_d_day - v_d_day / (7 : Int32) * (7 : Int32)) = (0 : Int32) then (f_X0_morning_b15 v_g_cells v_g_rains v_g_room v_p_rain v_d_day v_c_today v_d_water v_d_seen (1 : Int32)) else (f_X0_morning_b15 v_g_cells v_g_rains v_g_room v_p_rain v_d_day v_c_today v_d_water v_d_seen (0 : Int32))
set_option maxRecDepth 100000 in
set_option maxHeartbeats 8000000 in
theorem c_X0_morning (l : Launch) (dC : Nat → ClassId) (dI : Nat → Nat → Nat) (cyI cyJ cyZ cyB cyO : ClassId) (tO : Nat) (vF : Value) (adK adV : Nat → Nat) (h_c : Nat) (m_c : Nat → Nat) (h_g : Nat) (m_g : Nat → Nat) (h_p : Nat) (m_p : Nat → Nat) (h_d : Nat) (m_d : Nat → Nat) (v_c_pumped : Int32) (v_c_today : Int32) (v_g_cells : Int32) (v_g_passes : Int32) (v_g_rivers : Int32) (v_g_villages : Int32) (v_g_rains : Int32) (v_g_room : (Nat → Int32)) (v_p_pumpCell : Int32) (v_p_pumpTakes : Int32) (v_p_pumpFrom : Int32) (v_p_pumpTo : Int32) (v_p_rain : (Nat → Int32)) (v_d_day : Int32) (v_d_water : (Nat → Int32)) (v_d_seen : (Nat → Int32))  (sz : Nat) (out : Int32 × (Nat → Int32) × (Nat → Int32)) (hf : f_X0_morning v_g_cells v_g_rains v_g_room v_p_rain v_d_day v_c_today v_d_water v_d_seen = some out) : Met l yX0_morning (Cond.code yX0_morning cX0_morning 4 none :: wsL_law) ({ frames := 2, cells := 0, slots := 0, locals := 43 } : Room) (va_Pc [.ref h_c, .ref h_d] (ux_pre (dC, dI) vwCl (tyG cyI cyJ cyZ cyB cyO) [(h_c, .inr (0, oX0 m_c h_g h_p v_c_pumped v_c_today)), (h_g, .inr (3, oX3 m_g v_g_cells v_g_passes v_g_rivers v_g_villages v_g_rains)), (m_g 1, .inl (cyI, 12, .inl v_g_room)), (h_p, .inr (4, oX4 m_p v_p_pumpCell v_p_pumpTakes v_p_pumpFrom v_p_pumpTo)), (m_p 3, .inl (cyI, 14, .inl v_p_rain)), (h_d, .inr (1, oX1 m_d v_d_day)), (m_d 1, .inl (cyI, 12, .inl v_d_water)), (m_d 3, .inl (cyI, 12, .inl v_d_seen))] sz (xE tO vF adK adV))) (va_Qv (fun u : Int32 × (Nat → Int32) × (Nat → Int32) => u = out) (ux_at (dC, dI) vwCl (tyG cyI cyJ cyZ cyB cyO) [(h_c, .inr (0, oX0 m_c h_g h_p v_c_pumped v_c_today)), (h_g, .inr (3, oX3 m_g v_g_cells v_g_passes v_g_rivers v_g_villages v_g_rains)), (m_g 1, .inl (cyI, 12, .inl v_g_room)), (h_p, .inr (4, oX4 m_p v_p_pumpCell v_p_pumpTakes v_p_pumpFrom v_p_pumpTo)), (m_p 3, .inl (cyI, 14, .inl v_p_rain)), (h_d, .inr (1, oX1 m_d v_d_day)), (m_d 1, .inl (cyI, 12, .inl v_d_water)), (m_d 3, .inl (cyI, 12, .inl v_d_seen))] sz (fun u : Int32 × (Nat → Int32) × (Nat → Int32) => [(h_c, .inr (0, oX0 m_c h_g h_p v_c_pumped u.1)), (h_g, .inr (3, oX3 m_g v_g_cells v_g_passes v_g_rivers v_g_villages v_g_rains)), (m_g 1, .inl (cyI, 12, .inl v_g_room)), (h_p, .inr (4, oX4 m_p v_p_pumpCell v_p_pumpTakes v_p_pumpFrom v_p_pumpTo)), (m_p 3, .inl (cyI, 14, .inl v_p_rain)), (h_d, .inr (1, oX1 m_d v_d_day)), (m_d 1, .inl (cyI, 12, .inl u.2.1)), (m_d 3, .inl (cyI, 12, .inl u.2.2))])) (va_A [(h_c, .inr (0, oX0 m_c h_g h_p v_c_pumped v_c_today)), (h_g, .inr (3, oX3 m_g v_g_cells v_g_passes v_g_rivers v_g_villages v_g_rains)), (m_g 1, .inl (cyI, 12, .inl v_g_room)), (h_p, .inr (4, oX4 m_p v_p_pumpCell v_p_pumpTakes v_p_pumpFrom v_p_pumpTo)), (m_p 3, .inl (cyI, 14, .inl v_p_rain)), (h_d, .inr (1, oX1 m_d v_d_day)), (m_d 1, .inl (cyI, 12, .inl v_d_water)), (m_d 3, .inl (cyI, 12, .inl v_d_seen))] sz)) 0 0 (va_A [(h_c, .inr (0, oX0 m_c h_g h_p v_c_pumped v_c_today)), (h_g, .inr (3, oX3 m_g v_g_cells v_g_passes v_g_rivers v_g_villages v_g_rains)), (m_g 1, .inl (cyI, 12, .inl v_g_room)), (h_p, .inr (4, oX4 m_p v_p_pumpCell v_p_pumpTakes v_p_pumpFrom v_p_pumpTo)), (m_p 3, .inl (cyI, 14, .inl v_p_rain)), (h_d, .inr (1, oX1 m_d v_d_day)), (m_d 1, .inl (cyI, 12, .inl v_d_water)), (m_d 3, .inl (cyI, 12, .inl v_d_seen))] sz) := by
  refine ux_metv (by decide +kernel) (Nat.le_of_ble_eq_true rfl) ?_
  intro p e s m below meth c A Q ls hx hb hml hts hown hA hP hK hD hE hl hret
  have hown : s.vm.findClass RX0 = some m.cls := hown
  have hS : va_S A s.heap s.heap [] := va_S.rf
  have hl : lv_has ls 4 [(0, .ref h_c), (1, .ref h_d)] := hl
  have hb_65 : ∀ (k30 : Int32 → (Nat → Int32) → (Nat → Int32) → Int32 → Int32 → Option (Int32 × (Nat → Int32) × (Nat → Int32))) (hk30 : ∀ (v_c_today : Int32) (v_d_water : (Nat → Int32)) (v_d_seen : (Nat → Int32)) (x2 : Int32) (x3 : Int32), k30 v_c_today v_d_water v_d_seen x2 x3 = some out → ∀ (H : Heap) (locs : List Loc) (ls : Array Slot), va_P (dC, dI) vwCl [(h_c, .inr (0, oX0 m_c h_g h_p v_c_pumped v_c_today)), (h_g, .inr (3, oX3 m_g v_g_cells v_g_passes v_g_rivers v_g_villages v_g_rains)), (m_g 1, .inl (cyI, 12, .inl v_g_room)), (h_p, .inr (4, oX4 m_p v_p_pumpCell v_p_pumpTakes v_p_pumpFrom v_p_pumpTo)), (m_p 3, .inl (cyI, 14, .inl v_p_rain)), (h_d, .inr (1, oX1 m_d v_d_day)), (m_d 1, .inl (cyI, 12, .inl v_d_water)), (m_d 3, .inl (cyI, 12, .inl v_d_seen))] H → va_D A [(h_c, .inr (0, oX0 m_c h_g h_p v_c_pumped v_c_today)), (h_g, .inr (3, oX3 m_g v_g_cells v_g_passes v_g_rivers v_g_villages v_g_rains)), (m_g 1, .inl (cyI, 12, .inl v_g_room)), (h_p, .inr (4, oX4 m_p v_p_pumpCell v_p_pumpTakes v_p_pumpFrom v_p_pumpTo)), (m_p 3, .inl (cyI, 14, .inl v_p_rain)), (h_d, .inr (1, oX1 m_d v_d_day)), (m_d 1, .inl (cyI, 12, .inl v_d_water)), (m_d 3, .inl (cyI, 12, .inl v_d_seen))] → va_S A s.heap H locs → lv_has ls 4 [(0, .ref h_c), (1, .ref h_d), (2, .int x2), (3, .int x3)] → W p l e ({ frames := 2, cells := 0, slots := 0, locals := 43 } : Room) s m ([.ref h_c, .ref h_d] : List Value).toArray below meth c H locs 0 0 Q (F0 m 30 ls [])) (v_c_today : Int32) (v_d_water : (Nat → Int32)) (v_d_seen : (Nat → Int32)) (x2 : Int32) (x3 : Int32), f_X0_morning_b65 k30 v_g_cells v_g_room v_c_today v_d_water v_d_seen x2 x3 = some out → ∀ (H : Heap) (locs : List Loc) (ls : Array Slot), va_P (dC, dI) vwCl [(h_c, .inr (0, oX0 m_c h_g h_p v_c_pumped v_c_today)), (h_g, .inr (3, oX3 m_g v_g_cells v_g_passes v_g_rivers v_g_villages v_g_rains)), (m_g 1, .inl (cyI, 12, .inl v_g_room)), (h_p, .inr (4, oX4 m_p v_p_pumpCell v_p_pumpTakes v_p_pumpFrom v_p_pumpTo)), (m_p 3, .inl (cyI, 14, .inl v_p_rain)), (h_d, .inr (1, oX1 m_d v_d_day)), (m_d 1, .inl (cyI, 12, .inl v_d_water)), (m_d 3, .inl (cyI, 12, .inl v_d_seen))] H → va_D A [(h_c, .inr (0, oX0 m_c h_g h_p v_c_pumped v_c_today)), (h_g, .inr (3, oX3 m_g v_g_cells v_g_passes v_g_rivers v_g_villages v_g_rains)), (m_g 1, .inl (cyI, 12, .inl v_g_room)), (h_p, .inr (4, oX4 m_p v_p_pumpCell v_p_pumpTakes v_p_pumpFrom v_p_pumpTo)), (m_p 3, .inl (cyI, 14, .inl v_p_rain)), (h_d, .inr (1, oX1 m_d v_d_day)), (m_d 1, .inl (cyI, 12, .inl v_d_water)), (m_d 3, .inl (cyI, 12, .inl v_d_seen))] → va_S A s.heap H locs → lv_has ls 4 [(0, .ref h_c), (1, .ref h_d), (2, .int x2), (3, .int x3)] → W p l e ({ frames := 2, cells := 0, slots := 0, locals := 43 } : Room) s m ([.ref h_c, .ref h_d] : List Value).toArray below meth c H locs 0 0 Q (F0 m 65 ls []) := by
    intro k30 hk30 v_c_today v_d_water v_d_seen x2 x3 hf H locs ls hP hD hS hl
    unfold f_X0_morning_b65 at hf
    refine lv_aload_n hx hb dX0_morning_65 rfl (lv_at hl 1 rfl) ?_
    refine va_get (D := (dC, dI)) (ci := 1) (v := .ref (m_d 1)) (C := RX1) (T := TX1) (N := 8) hx hb hts (g_c inlX1) hown hK hP 5 rfl rfl 1 (by decide) (hts _ (List.mem_cons_of_mem _ wm_34_2)) (fun _ h9 => h9) rfl dX0_morning_66 ?_
    refine lv_iload_n hx hb dX0_morning_69 rfl (lv_at hl 3 rfl) ?_
    refine lv_dup2_11 hx hb dX0_morning_70 rfl rfl ?_
    obtain ⟨h_1, hf⟩ := ck_some hf
    refine va_iald hx hb hK hP 6 0 rfl rfl (inb_in h_1) dX0_morning_71 ?_
    refine lv_aload_n hx hb dX0_morning_72 rfl (lv_at hl 0 rfl) ?_
    refine va_get (D := (dC, dI)) (ci := 0) (v := .int v_c_today) (C := RX0) (T := TX0) (N := 9) hx hb hts (g_c inlX0) hown hK hP 0 rfl rfl 4 (by decide) (hts _ (List.mem_cons_of_mem _ wm_5_8)) (fun _ h9 => h9) rfl dX0_morning_73 ?_
    refine lv_iadd hx hb dX0_morning_76 ?_
    obtain ⟨h_2, hf⟩ := ck_some hf
    obtain ⟨a_3, ea_3, hf⟩ := nm_some hf
    refine va_iast hx hb hK hP hD hS 6 0 rfl rfl (inb_in h_2) dX0_morning_77 (fun H locs hP hD hS => ?_)
    have hP : va_P (dC, dI) vwCl [(h_c, .inr (0, oX0 m_c h_g h_p v_c_pumped v_c_today)), (h_g, .inr (3, oX3 m_g v_g_cells v_g_passes v_g_rivers v_g_villages v_g_rains)), (m_g 1, .inl (cyI, 12, .inl v_g_room)), (h_p, .inr (4, oX4 m_p v_p_pumpCell v_p_pumpTakes v_p_pumpFrom v_p_pumpTo)), (m_p 3, .inl (cyI, 14, .inl v_p_rain)), (h_d, .inr (1, oX1 m_d v_d_day)), (m_d 1, .inl (cyI, 12, .inl a_3)), (m_d 3, .inl (cyI, 12, .inl v_d_seen))] H := by rw [ea_3]; exact hP
    have hD : va_D A [(h_c, .inr (0, oX0 m_c h_g h_p v_c_pumped v_c_today)), (h_g, .inr (3, oX3 m_g v_g_cells v_g_passes v_g_rivers v_g_villages v_g_rains)), (m_g 1, .inl (cyI, 12, .inl v_g_room)), (h_p, .inr (4, oX4 m_p v_p_pumpCell v_p_pumpTakes v_p_pumpFrom v_p_pumpTo)), (m_p 3, .inl (cyI, 14, .inl v_p_rain)), (h_d, .inr (1, oX1 m_d v_d_day)), (m_d 1, .inl (cyI, 12, .inl a_3)), (m_d 3, .inl (cyI, 12, .inl v_d_seen))] := by rw [ea_3]; exact hD
    refine lv_iinc (v := x3 + (1 : Int32)) (lv' := [(3, .int (x3 + (1 : Int32))), (0, .ref h_c), (1, .ref h_d), (2, .int x2)]) hx hb dX0_morning_78 hl (k := 3) rfl rfl (by decide) rfl (fun ls hl => ?_)
    refine lv_goto (tgt := 30) hx hb dX0_morning_81 (by decide) ?_
    exact hk30 _ _ _ _ _ hf _ _ _ hP hD hS (lv_sub hl [1, 2, 3, 0] rfl)
  have hb_30 : ∀ (n : Nat) (v_c_today : Int32) (v_d_water : (Nat → Int32)) (v_d_seen : (Nat → Int32)) (x2 : Int32) (x3 : Int32), f_X0_morning_b30 v_g_cells v_g_room n v_c_today v_d_water v_d_seen x2 x3 = some out → ∀ (H : Heap) (locs : List Loc) (ls : Array Slot), va_P (dC, dI) vwCl [(h_c, .inr (0, oX0 m_c h_g h_p v_c_pumped v_c_today)), (h_g, .inr (3, oX3 m_g v_g_cells v_g_passes v_g_rivers v_g_villages v_g_rains)), (m_g 1, .inl (cyI, 12, .inl v_g_room)), (h_p, .inr (4, oX4 m_p v_p_pumpCell v_p_pumpTakes v_p_pumpFrom v_p_pumpTo)), (m_p 3, .inl (cyI, 14, .inl v_p_rain)), (h_d, .inr (1, oX1 m_d v_d_day)), (m_d 1, .inl (cyI, 12, .inl v_d_water)), (m_d 3, .inl (cyI, 12, .inl v_d_seen))] H → va_D A [(h_c, .inr (0, oX0 m_c h_g h_p v_c_pumped v_c_today)), (h_g, .inr (3, oX3 m_g v_g_cells v_g_passes v_g_rivers v_g_villages v_g_rains)), (m_g 1, .inl (cyI, 12, .inl v_g_room)), (h_p, .inr (4, oX4 m_p v_p_pumpCell v_p_pumpTakes v_p_pumpFrom v_p_pumpTo)), (m_p 3, .inl (cyI, 14, .inl v_p_rain)), (h_d, .inr (1, oX1 m_d v_d_day)), (m_d 1, .inl (cyI, 12, .inl v_d_water)), (m_d 3, .inl (cyI, 12, .inl v_d_seen))] → va_S A s.heap H locs → lv_has ls 4 [(0, .ref h_c), (1, .ref h_d), (2, .int x2), (3, .int x3)] → W p l e ({ frames := 2, cells := 0, slots := 0, locals := 43 } : Room) s m ([.ref h_c, .ref h_d] : List Value).toArray below meth c H locs 0 0 Q (F0 m 30 ls []) := by
    intro  n
    induction n with
    | zero =>
      intro v_c_today v_d_water v_d_seen x2 x3 hf
      exact no_some hf
    | succ n ih =>
      intro v_c_today v_d_water v_d_seen x2 x3 hf H locs ls hP hD hS hl
      have hf : f_X0_morning_b30_st (f_X0_morning_b30 v_g_cells v_g_room n) v_g_cells v_g_room v_c_today v_d_water v_d_seen x2 x3 = some out := hf
      unfold f_X0_morning_b30_st at hf
      refine lv_iload_n hx hb dX0_morning_30 rfl (lv_at hl 3 rfl) ?_
      refine lv_aload_n hx hb dX0_morning_31 rfl (lv_at hl 0 rfl) ?_
      refine va_get (D := (dC, dI)) (ci := 0) (v := .ref h_g) (C := RX0) (T := TX0) (N := 9) hx hb hts (g_c inlX0) hown hK hP 0 rfl rfl 0 (by decide) (hts _ (List.mem_cons_of_mem _ wm_5_13)) (fun _ h9 => h9) rfl dX0_morning_32 ?_
      refine va_get (D := (dC, dI)) (ci := 3) (v := .int v_g_cells) (C := RX3) (T := TX3) (N := 20) hx hb hts (g_c inlX3) hown hK hP 1 rfl rfl 0 (by decide) (hts _ (List.mem_cons_of_mem _ wm_34_0)) (fun _ h9 => h9) rfl dX0_morning_35 ?_
      refine lv_icmp_ge (tgt := 84) hx hb dX0_morning_38 (by decide) (fun c_1 => ?_) (fun c_1 => ?_)
      · have hf := (if_pos c_1).symm.trans hf
        exact hret _ _ _ _ (v_c_today, v_d_water, v_d_seen) dX0_morning_84 (Option.some.inj hf) hP hD hS
      · have hf := (if_neg c_1).symm.trans hf
        refine lv_iload_n hx hb dX0_morning_41 rfl (lv_at hl 2 rfl) ?_
        refine lv_if_eq (tgt := 65) hx hb dX0_morning_42 (by decide) (fun c_2 => ?_) (fun c_2 => ?_)
        · have hf := (if_pos c_2).symm.trans hf
          exact hb_65 _ ih _ _ _ _ _ hf _ _ _ hP hD hS (lv_sub hl [0, 1, 2, 3] rfl)
        · have hf := (if_neg c_2).symm.trans hf
          refine lv_aload_n hx hb dX0_morning_45 rfl (lv_at hl 1 rfl) ?_
          refine va_get (D := (dC, dI)) (ci := 1) (v := .ref (m_d 3)) (C := RX1) (T := TX1) (N := 8) hx hb hts (g_c inlX1) hown hK hP 5 rfl rfl 3 (by decide) (hts _ (List.mem_cons_of_mem _ wm_34_1)) (fun _ h9 => h9) rfl dX0_morning_46 ?_
          refine lv_iload_n hx hb dX0_morning_49 rfl (lv_at hl 3 rfl) ?_
          refine lv_aload_n hx hb dX0_morning_50 rfl (lv_at hl 0 rfl) ?_
          refine va_get (D := (dC, dI)) (ci := 0) (v := .ref h_g) (C := RX0) (T := TX0) (N := 9) hx hb hts (g_c inlX0) hown hK hP 0 rfl rfl 0 (by decide) (hts _ (List.mem_cons_of_mem _ wm_5_13)) (fun _ h9 => h9) rfl dX0_morning_51 ?_
          refine lv_iload_n hx hb dX0_morning_54 rfl (lv_at hl 3 rfl) ?_
          refine lv_aload_n hx hb dX0_morning_55 rfl (lv_at hl 1 rfl) ?_
          refine va_get (D := (dC, dI)) (ci := 1) (v := .ref (m_d 1)) (C := RX1) (T := TX1) (N := 8) hx hb hts (g_c inlX1) hown hK hP 5 rfl rfl 1 (by decide) (hts _ (List.mem_cons_of_mem _ wm_34_2)) (fun _ h9 => h9) rfl dX0_morning_56 ?_
          refine lv_iload_n hx hb dX0_morning_59 rfl (lv_at hl 3 rfl) ?_
          obtain ⟨h_3, hf⟩ := ck_some hf
          refine va_iald hx hb hK hP 6 0 rfl rfl (inb_in h_3) dX0_morning_60 ?_
          obtain ⟨o_4, ho_4, hf⟩ := bd_some hf
          refine ux_Vi0 (n := 2) (As := [.int x3, .int (v_d_water x3.toNatClampNeg)]) (rest := [.int x3, .ref (m_d 3)]) (wc := [(h_g, .inr (3, oX3 m_g v_g_cells v_g_passes v_g_rivers v_g_villages v_g_rains)), (m_g 1, .inl (cyI, 12, .inl v_g_room))]) (wr := [_, _, _, _, _, _]) ⟨hx, hb, hml, hown, hts⟩ hK hP hD hS hA hE [1, 2] [0, 3, 4, 5, 6, 7] (sg_h [(1, 2)] 8 rfl sk_z13_36 rfl) (sg_h [(0, 1), (3, 5)] 8 rfl sk_z13_37 rfl) nd_z13_35 nd_z13_36 nj_z13_13 (c_X3_levelOf l dC dI cyI cyJ cyZ cyB cyO tO vF adK adV h_g m_g v_g_cells v_g_passes v_g_rivers v_g_villages v_g_rains v_g_room x3 (v_d_water x3.toNatClampNeg) _ _ ho_4) 3 0 rfl rfl wm_34_13 wm_30_4 wm_30_5 wm_1_22 wm_30_6 ⟨rfl, rfl⟩ (by decide +kernel) rfl ⟨Nat.le_of_ble_eq_true rfl, Nat.le_of_ble_eq_true rfl⟩ hl.1 rfl (Nat.le_of_ble_eq_true rfl) dX0_morning_61 ⟨Nat.le_of_ble_eq_true rfl, Nat.le_of_ble_eq_true rfl⟩ (fun H locs hP hD hS => ?_)
          have hP : va_P (dC, dI) vwCl [_, _, _, _, _, _, (h_g, .inr (3, oX3 m_g v_g_cells v_g_passes v_g_rivers v_g_villages v_g_rains)), (m_g 1, .inl (cyI, 12, .inl v_g_room))] H := hP
          have hD : va_D A [_, _, _, _, _, _, (h_g, .inr (3, oX3 m_g v_g_cells v_g_passes v_g_rivers v_g_villages v_g_rains)), (m_g 1, .inl (cyI, 12, .inl v_g_room))] := hD
          obtain ⟨h_5, hf⟩ := ck_some hf
          obtain ⟨a_6, ea_6, hf⟩ := nm_some hf
          refine va_iast hx hb hK hP hD hS 5 0 rfl rfl (inb_in h_5) dX0_morning_64 (fun H locs hP hD hS => ?_)
          have hP : va_P (dC, dI) vwCl [(h_c, .inr (0, oX0 m_c h_g h_p v_c_pumped v_c_today)), (h_p, .inr (4, oX4 m_p v_p_pumpCell v_p_pumpTakes v_p_pumpFrom v_p_pumpTo)), (m_p 3, .inl (cyI, 14, .inl v_p_rain)), (h_d, .inr (1, oX1 m_d v_d_day)), (m_d 1, .inl (cyI, 12, .inl v_d_water)), (m_d 3, .inl (cyI, 12, .inl a_6)), (h_g, .inr (3, oX3 m_g v_g_cells v_g_passes v_g_rivers v_g_villages v_g_rains)), (m_g 1, .inl (cyI, 12, .inl v_g_room))] H := by rw [ea_6]; exact hP
          have hD : va_D A [(h_c, .inr (0, oX0 m_c h_g h_p v_c_pumped v_c_today)), (h_p, .inr (4, oX4 m_p v_p_pumpCell v_p_pumpTakes v_p_pumpFrom v_p_pumpTo)), (m_p 3, .inl (cyI, 14, .inl v_p_rain)), (h_d, .inr (1, oX1 m_d v_d_day)), (m_d 1, .inl (cyI, 12, .inl v_d_water)), (m_d 3, .inl (cyI, 12, .inl a_6)), (h_g, .inr (3, oX3 m_g v_g_cells v_g_passes v_g_rivers v_g_villages v_g_rains)), (m_g 1, .inl (cyI, 12, .inl v_g_room))] := by rw [ea_6]; exact hD
          exact hb_65 _ ih _ _ _ _ _ hf _ _ _ (hP.sub [0, 6, 7, 1, 2, 3, 4, 5] (ux_pick (sg_h [(0, 1), (6, 2), (1, 5)] 8 rfl sk_z13_38 rfl))) (hD.sub [0, 6, 7, 1, 2, 3, 4, 5] nd_z13_37 (sg_h [(0, 1), (6, 2), (1, 5)] 8 rfl sk_z13_38 rfl)) hS (lv_sub hl [0, 1, 2, 3] rfl)
  have hb_15 : ∀ (v_c_today : Int32) (v_d_water : (Nat → Int32)) (v_d_seen : (Nat → Int32)) (t0 : Int32), f_X0_morning_b15 v_g_cells v_g_rains v_g_room v_p_rain v_d_day v_c_today v_d_water v_d_seen t0 = some out → ∀ (H : Heap) (locs : List Loc) (ls : Array Slot), va_P (dC, dI) vwCl [(h_c, .inr (0, oX0 m_c h_g h_p v_c_pumped v_c_today)), (h_g, .inr (3, oX3 m_g v_g_cells v_g_passes v_g_rivers v_g_villages v_g_rains)), (m_g 1, .inl (cyI, 12, .inl v_g_room)), (h_p, .inr (4, oX4 m_p v_p_pumpCell v_p_pumpTakes v_p_pumpFrom v_p_pumpTo)), (m_p 3, .inl (cyI, 14, .inl v_p_rain)), (h_d, .inr (1, oX1 m_d v_d_day)), (m_d 1, .inl (cyI, 12, .inl v_d_water)), (m_d 3, .inl (cyI, 12, .inl v_d_seen))] H → va_D A [(h_c, .inr (0, oX0 m_c h_g h_p v_c_pumped v_c_today)), (h_g, .inr (3, oX3 m_g v_g_cells v_g_passes v_g_rivers v_g_villages v_g_rains)), (m_g 1, .inl (cyI, 12, .inl v_g_room)), (h_p, .inr (4, oX4 m_p v_p_pumpCell v_p_pumpTakes v_p_pumpFrom v_p_pumpTo)), (m_p 3, .inl (cyI, 14, .inl v_p_rain)), (h_d, .inr (1, oX1 m_d v_d_day)), (m_d 1, .inl (cyI, 12, .inl v_d_water)), (m_d 3, .inl (cyI, 12, .inl v_d_seen))] → va_S A s.heap H locs → lv_has ls 4 [(0, .ref h_c), (1, .ref h_d)] → W p l e ({ frames := 2, cells := 0, slots := 0, locals := 43 } : Room) s m ([.ref h_c, .ref h_d] : List Value).toArray below meth c H locs 0 0 Q (F0 m 15 ls [.int t0]) := by
    intro  v_c_today v_d_water v_d_seen t0 hf H locs ls hP hD hS hl
    unfold f_X0_morning_b15 at hf
    refine lv_istore_n (lv' := [(2, .int t0), (0, .ref h_c), (1, .ref h_d)]) hx hb dX0_morning_15 rfl hl (by decide) rfl (fun ls hl => ?_)
    refine lv_aload_n hx hb dX0_morning_16 rfl (lv_at hl 1 rfl) ?_
    refine lv_aload_n hx hb dX0_morning_17 rfl (lv_at hl 1 rfl) ?_
    refine lv_aload_n hx hb dX0_morning_18 rfl (lv_at hl 2 rfl) ?_
    refine va_get (D := (dC, dI)) (ci := 1) (v := .int v_d_day) (C := RX1) (T := TX1) (N := 8) hx hb hts (g_c inlX1) hown hK hP 5 rfl rfl 0 (by decide) (hts _ (List.mem_cons_of_mem _ wm_33_23)) (fun _ h9 => h9) rfl dX0_morning_19 ?_
    obtain ⟨o_1, ho_1, hf⟩ := bd_some hf
    refine ux_Vi0 (n := 1) (As := [.int v_d_day]) (rest := [.ref h_c]) (wc := [(h_c, .inr (0, oX0 m_c h_g h_p v_c_pumped v_c_today)), (h_g, .inr (3, oX3 m_g v_g_cells v_g_passes v_g_rivers v_g_villages v_g_rains)), (h_p, .inr (4, oX4 m_p v_p_pumpCell v_p_pumpTakes v_p_pumpFrom v_p_pumpTo)), (m_p 3, .inl (cyI, 14, .inl v_p_rain))]) (wr := [_, _, _, _]) ⟨hx, hb, hml, hown, hts⟩ hK hP hD hS hA hE [0, 1, 3, 4] [2, 5, 6, 7] (sg_h [(0, 2), (3, 2)] 8 rfl sk_z13_39 rfl) (sg_h [(2, 1), (5, 3)] 8 rfl sk_z13_40 rfl) nd_z13_38 nd_z13_39 nj_z13_14 (c_X0_rainOf l dC dI cyI cyJ cyZ cyB cyO tO vF adK adV h_c m_c h_g m_g h_p m_p v_c_pumped v_c_today v_g_cells v_g_passes v_g_rivers v_g_villages v_g_rains v_p_pumpCell v_p_pumpTakes v_p_pumpFrom v_p_pumpTo v_p_rain v_d_day _ _ ho_1) 0 0 rfl rfl wm_34_3 wm_34_4 wm_34_5 wm_2_6 wm_34_6 ⟨rfl, rfl⟩ (by decide +kernel) rfl ⟨Nat.le_of_ble_eq_true rfl, Nat.le_of_ble_eq_true rfl⟩ hl.1 rfl (Nat.le_of_ble_eq_true rfl) dX0_morning_22 ⟨Nat.le_of_ble_eq_true rfl, Nat.le_of_ble_eq_true rfl⟩ (fun H locs hP hD hS => ?_)
    have hP : va_P (dC, dI) vwCl [_, _, _, _, (h_c, .inr (0, oX0 m_c h_g h_p v_c_pumped v_c_today)), (h_g, .inr (3, oX3 m_g v_g_cells v_g_passes v_g_rivers v_g_villages v_g_rains)), (h_p, .inr (4, oX4 m_p v_p_pumpCell v_p_pumpTakes v_p_pumpFrom v_p_pumpTo)), (m_p 3, .inl (cyI, 14, .inl v_p_rain))] H := hP
    have hD : va_D A [_, _, _, _, (h_c, .inr (0, oX0 m_c h_g h_p v_c_pumped v_c_today)), (h_g, .inr (3, oX3 m_g v_g_cells v_g_passes v_g_rivers v_g_villages v_g_rains)), (h_p, .inr (4, oX4 m_p v_p_pumpCell v_p_pumpTakes v_p_pumpFrom v_p_pumpTo)), (m_p 3, .inl (cyI, 14, .inl v_p_rain))] := hD
    refine va_put (D := (dC, dI)) (ci := 0) (v := .int o_1) (ty := .int) (C := RX0) (T := TX0) (N := 9) hx hb hts (g_c inlX0) tyX0 tyX0_ok nmX0 hown hK hP hD hS 4 rfl rfl 4 (by decide) (hts _ (List.mem_cons_of_mem _ wm_5_8)) (fun _ h9 => h9) rfl (by decide +kernel) rfl rfl (Nat.le_of_ble_eq_true rfl) dX0_morning_25 (fun H locs hP hD hS => ?_)
    have hP : va_P (dC, dI) vwCl [_, _, _, _, (h_c, .inr (0, oX0 m_c h_g h_p v_c_pumped o_1)), _, _, _] H := hP
    have hD : va_D A [_, _, _, _, (h_c, .inr (0, oX0 m_c h_g h_p v_c_pumped o_1)), _, _, _] := hD
    refine lv_iconst (v := (0 : Int32)) hx hb dX0_morning_28 (by decide) ?_
    refine lv_istore_n (lv' := [(3, .int (0 : Int32)), (2, .int t0), (0, .ref h_c), (1, .ref h_d)]) hx hb dX0_morning_29 rfl hl (by decide) rfl (fun ls hl => ?_)
    exact hb_30 _ _ _ _ _ _ hf _ _ _ (hP.sub [4, 5, 0, 6, 7, 1, 2, 3] (ux_pick (sg_h [(4, 2), (0, 1), (6, 2), (1, 3)] 8 rfl sk_z13_41 rfl))) (hD.sub [4, 5, 0, 6, 7, 1, 2, 3] nd_z13_40 (sg_h [(4, 2), (0, 1), (6, 2), (1, 3)] 8 rfl sk_z13_41 rfl)) hS (lv_sub hl [2, 3, 1, 0] rfl)
  unfold f_X0_morning at hf
  refine lv_aload_n hx hb dX0_morning_0 rfl (lv_at hl 1 rfl) ?_
  refine va_get (D := (dC, dI)) (ci := 1) (v := .int v_d_day) (C := RX1) (T := TX1) (N := 8) hx hb hts (g_c inlX1) hown hK hP 5 rfl rfl 0 (by decide) (hts _ (List.mem_cons_of_mem _ wm_33_23)) (fun _ h9 => h9) rfl dX0_morning_1 ?_
  refine lv_bipush (v := (7 : Int32)) hx hb dX0_morning_4 (by decide) ?_
  refine lv_irem hx hb dX0_morning_6 (by decide) ?_
  refine lv_if_ne (tgt := 14) hx hb dX0_morning_7 (by decide) (fun c_1 => ?_) (fun c_1 => ?_)
  · have hf := (if_neg c_1).symm.trans hf
    refine lv_iconst (v := (0 : Int32)) hx hb dX0_morning_14 (by decide) ?_
    exact hb_15 _ _ _ _ hf _ _ _ hP hD hS (lv_sub hl [0, 1] rfl)
  · have hf := (if_pos c_1).symm.trans hf
    refine lv_iconst (v := (1 : Int32)) hx hb dX0_morning_10 (by decide) ?_
    refine lv_goto (tgt := 15) hx hb dX0_morning_11 (by decide) ?_
    exact hb_15 _ _ _ _ hf _ _ _ hP hD hS (lv_sub hl [0, 1] rfl)
def f_X0_oneDay_b107_st (kr : Int32 → Int32 → (Nat → Int32) → (Nat → Int32) → (Nat → Int32) → (Nat → Int64) → (Nat → Int32) → Int32 → (Nat → Int32) → (Nat → Int64) → (Nat → Int32) → (Nat → Int32) → (Nat → Int32) → (Nat → Int32) → (Nat → Int32) → Int32 → Option (Int32 × Int32 × (Nat → Int32) × (Nat → Int32) × (Nat → Int32) × (Nat → Int64) × (Nat → Int32) × Int32 × (Nat → Int32) × (Nat → Int64) × (Nat → Int32) × (Nat → Int32) × (Nat → Int32) × (Nat → Int32) × (Nat → Int32)))  (v_g_rivers : Int32) (v_g_riverCell : (Nat → Int32)) (v_g_riverLevel : (Nat → Int32)) (v_g_riverSalt : (Nat → Int32)) (v_p_riverWidth : (Nat → Int32)) (v_c_pumped : Int32) (v_c_today : Int32) (v_c_lacked : (Nat → Int32)) (v_c_level : (Nat → Int32)) (v_c_water : (Nat → Int32)) (v_c_salt : (Nat → Int64)) (v_c_stack : (Nat → Int32)) (v_d_day : Int32) (v_d_water : (Nat → Int32)) (v_d_salt : (Nat → Int64)) (v_d_seen : (Nat → Int32)) (v_d_took : (Nat → Int32)) (v_d_dryDays : (Nat → Int32)) (v_d_firstDry : (Nat → Int32)) (v_d_total : (Nat → Int32)) (x2 : Int32) : Option (Int32 × Int32 × (Nat → Int32) × (Nat → Int32) × (Nat → Int32) × (Nat → Int64) × (Nat → Int32) × Int32 × (Nat → Int32) × (Nat → Int64) × (Nat → Int32) × (Nat → Int32) × (Nat → Int32) × (Nat → Int32) × (Nat → Int32)) := if v_g_rivers ≤ x2 then (some (v_c_pumped, v_c_today, v_c_lacked, v_c_level, v_c_water, v_c_salt, v_c_stack, (v_d_day + (1 : Int32)), v_d_water, v_d_salt, v_d_seen, v_d_took, v_d_dryDays, v_d_firstDry, v_d_total)) else (bd (f_X0_flowByRiver v_c_level v_c_water v_c_salt v_g_riverCell v_g_riverLevel v_g_riverSalt v_p_riverWidth v_d_water v_d_salt x2) (fun o_2 => un2 o_2 (fun o_2_0 o_2_1 => kr v_c_pumped v_c_today v_c_lacked v_c_level v_c_water v_c_salt v_c_stack v_d_day o_2_0 o_2_1 v_d_seen v_d_took v_d_dryDays v_d_firstDry v_d_total (x2 + (1 : Int32)))))
def f_X0_oneDay_b107  (v_g_rivers : Int32) (v_g_riverCell : (Nat → Int32)) (v_g_riverLevel : (Nat → Int32)) (v_g_riverSalt : (Nat → Int32)) (v_p_riverWidth : (Nat → Int32)) : Nat → Int32 → Int32 → (Nat → Int32) → (Nat → Int32) → (Nat → Int32) → (Nat → Int64) → (Nat → Int32) → Int32 → (Nat → Int32) → (Nat → Int64) → (Nat → Int32) → (Nat → Int32) → (Nat → Int32) → (Nat → Int32) → (Nat → Int32) → Int32 → Option (Int32 × Int32 × (Nat → Int32) × (Nat → Int32) × (Nat → Int32) × (Nat → Int64) × (Nat → Int32) × Int32 × (Nat → Int32) × (Nat → Int64) × (Nat → Int32) × (Nat → Int32) × (Nat → Int32) × (Nat → Int32) × (Nat → Int32))
  | 0 => fun _ _ _ _ _ _ _ _ _ _ _ _ _ _ _ _ => none
  | n + 1 => f_X0_oneDay_b107_st (f_X0_oneDay_b107 v_g_rivers v_g_riverCell v_g_riverLevel v_g_riverSalt v_p_riverWidth n) v_g_rivers v_g_riverCell v_g_riverLevel v_g_riverSalt v_p_riverWidth
def f_X0_oneDay_b22_st (kr : Int32 → Int32 → (Nat → Int32) → (Nat → Int32) → (Nat → Int32) → (Nat → Int64) → (Nat → Int32) → Int32 → (Nat → Int32) → (Nat → Int64) → (Nat → Int32) → (Nat → Int32) → (Nat → Int32) → (Nat → Int32) → (Nat → Int32) → Int32 → Option (Int32 × Int32 × (Nat → Int32) × (Nat → Int32) × (Nat → Int32) × (Nat → Int64) × (Nat → Int32) × Int32 × (Nat → Int32) × (Nat → Int64) × (Nat → Int32) × (Nat → Int32) × (Nat → Int32) × (Nat → Int32) × (Nat → Int32)))  (v_g_passes : Int32) (v_g_rivers : Int32) (v_g_passFrom : (Nat → Int32)) (v_g_passTo : (Nat → Int32)) (v_g_riverCell : (Nat → Int32)) (v_g_riverLevel : (Nat → Int32)) (v_g_riverSalt : (Nat → Int32)) (v_p_passWidth : (Nat → Int32)) (v_p_riverWidth : (Nat → Int32)) (v_c_pumped : Int32) (v_c_today : Int32) (v_c_lacked : (Nat → Int32)) (v_c_level : (Nat → Int32)) (v_c_water : (Nat → Int32)) (v_c_salt : (Nat → Int64)) (v_c_stack : (Nat → Int32)) (v_d_day : Int32) (v_d_water : (Nat → Int32)) (v_d_salt : (Nat → Int64)) (v_d_seen : (Nat → Int32)) (v_d_took : (Nat → Int32)) (v_d_dryDays : (Nat → Int32)) (v_d_firstDry : (Nat → Int32)) (v_d_total : (Nat → Int32)) (x2 : Int32) : Option (Int32 × Int32 × (Nat → Int32) × (Nat → Int32) × (Nat → Int32) × (Nat → Int64) × (Nat → Int32) × Int32 × (Nat → Int32) × (Nat → Int64) × (Nat → Int32) × (Nat → Int32) × (Nat → Int32) × (Nat → Int32) × (Nat → Int32)) := if v_g_passes ≤ x2 then (f_X0_oneDay_b107 v_g_rivers v_g_riverCell v_g_riverLevel v_g_riverSalt v_p_riverWidth fuel v_c_pumped v_c_today v_c_lacked v_c_level v_c_water v_c_salt v_c_stack v_d_day v_d_water v_d_salt v_d_seen v_d_took v_d_dryDays v_d_firstDry v_d_total (0 : Int32)) else (bd (f_X0_passFlow v_c_level v_g_passFrom v_g_passTo v_p_passWidth x2) (fun o_2 => if o_2 ≤ (0 : Int32) then (if (0 : Int32) ≤ o_2 then (kr v_c_pumped v_c_today v_c_lacked v_c_level v_c_water v_c_salt v_c_stack v_d_day v_d_water v_d_salt v_d_seen v_d_took v_d_dryDays v_d_firstDry v_d_total (x2 + (1 : Int32))) else (ck (inb x2 20) (ck (inb x2 20) (bd (f_X0_move v_c_water v_c_salt v_d_water v_d_salt (v_g_passTo x2.toNatClampNeg) (v_g_passFrom x2.toNatClampNeg) (-o_2)) (fun o_7 => un2 o_7 (fun o_7_0 o_7_1 => kr v_c_pumped v_c_today v_c_lacked v_c_level v_c_water v_c_salt v_c_stack v_d_day o_7_0 o_7_1 v_d_seen v_d_took v_d_dryDays v_d_firstDry v_d_total (x2 + (1 : Int32)))))))) else (ck (inb x2 20) (ck (inb x2 20) (bd (f_X0_move v_c_water v_c_salt v_d_water v_d_salt (v_g_passFrom x2.toNatClampNeg) (v_g_passTo x2.toNatClampNeg) o_2) (fun o_10 => un2 o_10 (fun o_10_0 o_10_1 => kr v_c_pumped v_c_today v_c_lacked v_c_level v_c_water v_c_salt v_c_stack v_d_day o_10_0 o_10_1 v_d_seen v_d_took v_d_dryDays v_d_firstDry v_d_total (x2 + (1 : Int32)))))))))
def f_X0_oneDay_b22  (v_g_passes : Int32) (v_g_rivers : Int32) (v_g_passFrom : (Nat → Int32)) (v_g_passTo : (Nat → Int32)) (v_g_riverCell : (Nat → Int32)) (v_g_riverLevel : (Nat → Int32)) (v_g_riverSalt : (Nat → Int32)) (v_p_passWidth : (Nat → Int32)) (v_p_riverWidth : (Nat → Int32)) : Nat → Int32 → Int32 → (Nat → Int32) → (Nat → Int32) → (Nat → Int32) → (Nat → Int64) → (Nat → Int32) → Int32 → (Nat → Int32) → (Nat → Int64) → (Nat → Int32) → (Nat → Int32) → (Nat → Int32) → (Nat → Int32) → (Nat → Int32) → Int32 → Option (Int32 × Int32 × (Nat → Int32) × (Nat → Int32) × (Nat → Int32) × (Nat → Int64) × (Nat → Int32) × Int32 × (Nat → Int32) × (Nat → Int64) × (Nat → Int32) × (Nat → Int32) × (Nat → Int32) × (Nat → Int32) × (Nat → Int32))
  | 0 => fun _ _ _ _ _ _ _ _ _ _ _ _ _ _ _ _ => none
  | n + 1 => f_X0_oneDay_b22_st (f_X0_oneDay_b22 v_g_passes v_g_rivers v_g_passFrom v_g_passTo v_g_riverCell v_g_riverLevel v_g_riverSalt v_p_passWidth v_p_riverWidth n) v_g_passes v_g_rivers v_g_passFrom v_g_passTo v_g_riverCell v_g_riverLevel v_g_riverSalt v_p_passWidth v_p_riverWidth
def f_X0_oneDay (v_g_cells : Int32) (v_g_passes : Int32) (v_g_rivers : Int32) (v_g_villages : Int32) (v_g_rains : Int32) (v_g_room : (Nat → Int32)) (v_g_passFrom : (Nat → Int32)) (v_g_passTo : (Nat → Int32)) (v_g_riverCell : (Nat → Int32)) (v_g_riverLevel : (Nat → Int32)) (v_g_riverSalt : (Nat → Int32)) (v_g_villageCell : (Nat → Int32)) (v_g_need : (Nat → Int32)) (v_g_lawEnd : (Nat → Int32)) (v_g_code : (Nat → Int32)) (v_p_pumpCell : Int32) (v_p_pumpTakes : Int32) (v_p_pumpFrom : Int32) (v_p_pumpTo : Int32) (v_p_wanting : (Nat → Int32)) (v_p_passWidth : (Nat → Int32)) (v_p_riverWidth : (Nat → Int32)) (v_p_rain : (Nat → Int32)) (v_c_pumped : Int32) (v_c_today : Int32) (v_c_lacked : (Nat → Int32)) (v_c_level : (Nat → Int32)) (v_c_water : (Nat → Int32)) (v_c_salt : (Nat → Int64)) (v_c_stack : (Nat → Int32)) (v_d_day : Int32) (v_d_water : (Nat → Int32)) (v_d_salt : (Nat → Int64)) (v_d_seen : (Nat → Int32)) (v_d_took : (Nat → Int32)) (v_d_dryDays : (Nat → Int32)) (v_d_firstDry : (Nat → Int32)) (v_d_total : (Nat → Int32)) : Option (Int32 × Int32 × (Nat → Int32) × (Nat → Int32) × (Nat → Int32) × (Nat → Int64) × (Nat → Int32) × Int32 × (Nat → Int32) × (Nat → Int64) × (Nat → Int32) × (Nat → Int32) × (Nat → Int32) × (Nat → Int32) × (Nat → Int32)) := bd (f_X0_morning v_g_cells v_g_rains v_g_room v_p_rain v_d_day v_c_today v_d_water v_d_seen) (fun o_1 => un3 o_1 (fun o_1_0 o_1_1 o_1_2 => bd (f_X0_takeTurns o_1_0 v_g_villages v_g_villageCell v_g_need v_g_lawEnd v_g_code v_p_wanting v_d_day o_1_2 v_c_lacked v_c_stack o_1_1 v_d_salt v_d_took v_d_dryDays v_d_firstDry v_d_total) (fun o_2 => un8 o_2 (fun o_2_0 o_2_1 o_2_2 o_2_3 o_2_4 o_2_5 o_2_6 o_2_7 => bd (f_X0_takeByPump v_p_pumpCell v_p_pumpTakes v_p_pumpFrom v_p_pumpTo v_d_day v_c_pumped o_2_2 o_2_3) (fun o_3 => un3 o_3 (fun o_3_0 o_3_1 o_3_2 => bd (f_X0_lookAtLevels v_g_cells v_g_room o_3_1 o_3_2 v_c_level v_c_water v_c_salt) (fun o_4 => un3 o_4 (fun o_4_0 o_4_1 o_4_2 => f_X0_oneDay_b22 v_g_passes v_g_rivers v_g_passFrom v_g_passTo v_g_riverCell v_g_riverLevel v_g_riverSalt v_p_passWidth v_p_riverWidth fuel o_3_0 o_1_0 o_2_0 o_4_0 o_4_1 o_4_2 o_2_1 v_d_day o_3_1 o_3_2 o_1_2 o_2_4 o_2_5 o_2_6 o_2_7 (0 : Int32)))))))))
set_option maxRecDepth 100000 in
set_option maxHeartbeats 8000000 in
theorem c_X0_oneDay (l : Launch) (dC : Nat → ClassId) (dI : Nat → Nat → Nat) (cyI cyJ cyZ cyB cyO : ClassId) (tO : Nat) (vF : Value) (adK adV : Nat → Nat) (h_c : Nat) (m_c : Nat → Nat) (h_g : Nat) (m_g : Nat → Nat) (h_p : Nat) (m_p : Nat → Nat) (h_d : Nat) (m_d : Nat → Nat) (v_c_pumped : Int32) (v_c_today : Int32) (v_c_lacked : (Nat → Int32)) (v_c_level : (Nat → Int32)) (v_c_water : (Nat → Int32)) (v_c_salt : (Nat → Int64)) (v_c_stack : (Nat → Int32)) (v_g_cells : Int32) (v_g_passes : Int32) (v_g_rivers : Int32) (v_g_villages : Int32) (v_g_rains : Int32) (v_g_room : (Nat → Int32)) (v_g_passFrom : (Nat → Int32)) (v_g_passTo : (Nat → Int32)) (v_g_riverCell : (Nat → Int32)) (v_g_riverLevel : (Nat → Int32)) (v_g_riverSalt : (Nat → Int32)) (v_g_villageCell : (Nat → Int32)) (v_g_need : (Nat → Int32)) (v_g_lawEnd : (Nat → Int32)) (v_g_code : (Nat → Int32)) (v_p_pumpCell : Int32) (v_p_pumpTakes : Int32) (v_p_pumpFrom : Int32) (v_p_pumpTo : Int32) (v_p_wanting : (Nat → Int32)) (v_p_passWidth : (Nat → Int32)) (v_p_riverWidth : (Nat → Int32)) (v_p_rain : (Nat → Int32)) (v_d_day : Int32) (v_d_water : (Nat → Int32)) (v_d_salt : (Nat → Int64)) (v_d_seen : (Nat → Int32)) (v_d_took : (Nat → Int32)) (v_d_dryDays : (Nat → Int32)) (v_d_firstDry : (Nat → Int32)) (v_d_total : (Nat → Int32))  (sz : Nat) (out : Int32 × Int32 × (Nat → Int32) × (Nat → Int32) × (Nat → Int32) × (Nat → Int64) × (Nat → Int32) × Int32 × (Nat → Int32) × (Nat → Int64) × (Nat → Int32) × (Nat → Int32) × (Nat → Int32) × (Nat → Int32) × (Nat → Int32)) (hf : f_X0_oneDay v_g_cells v_g_passes v_g_rivers v_g_villages v_g_rains v_g_room v_g_passFrom v_g_passTo v_g_riverCell v_g_riverLevel v_g_riverSalt v_g_villageCell v_g_need v_g_lawEnd v_g_code v_p_pumpCell v_p_pumpTakes v_p_pumpFrom v_p_pumpTo v_p_wanting v_p_passWidth v_p_riverWidth v_p_rain v_c_pumped v_c_today v_c_lacked v_c_level v_c_water v_c_salt v_c_stack v_d_day v_d_water v_d_salt v_d_seen v_d_took v_d_dryDays v_d_firstDry v_d_total = some out) : Met l yX0_oneDay (Cond.code yX0_oneDay cX0_oneDay 4 none :: wsL_law) ({ frames := 3, cells := 0, slots := 0, locals := 75 } : Room) (va_Pc [.ref h_c, .ref h_d] (ux_pre (dC, dI) vwCl (tyG cyI cyJ cyZ cyB cyO) [(h_c, .inr (0, oX0 m_c h_g h_p v_c_pumped v_c_today)), (m_c 2, .inl (cyZ, 6, .inl v_c_lacked)), (m_c 5, .inl (cyI, 12, .inl v_c_level)), (m_c 6, .inl (cyI, 12, .inl v_c_water)), (m_c 7, .inl (cyJ, 12, .inr (.inl v_c_salt))), (m_c 8, .inl (cyI, 16, .inl v_c_stack)), (h_g, .inr (3, oX3 m_g v_g_cells v_g_passes v_g_rivers v_g_villages v_g_rains)), (m_g 1, .inl (cyI, 12, .inl v_g_room)), (m_g 5, .inl (cyI, 20, .inl v_g_passFrom)), (m_g 6, .inl (cyI, 20, .inl v_g_passTo)), (m_g 9, .inl (cyI, 3, .inl v_g_riverCell)), (m_g 10, .inl (cyI, 3, .inl v_g_riverLevel)), (m_g 12, .inl (cyI, 3, .inl v_g_riverSalt)), (m_g 14, .inl (cyI, 6, .inl v_g_villageCell)), (m_g 15, .inl (cyI, 6, .inl v_g_need)), (m_g 16, .inl (cyI, 6, .inl v_g_lawEnd)), (m_g 17, .inl (cyI, 400, .inl v_g_code)), (h_p, .inr (4, oX4 m_p v_p_pumpCell v_p_pumpTakes v_p_pumpFrom v_p_pumpTo)), (m_p 0, .inl (cyI, 6, .inl v_p_wanting)), (m_p 1, .inl (cyI, 20, .inl v_p_passWidth)), (m_p 2, .inl (cyI, 3, .inl v_p_riverWidth)), (m_p 3, .inl (cyI, 14, .inl v_p_rain)), (h_d, .inr (1, oX1 m_d v_d_day)), (m_d 1, .inl (cyI, 12, .inl v_d_water)), (m_d 2, .inl (cyJ, 12, .inr (.inl v_d_salt))), (m_d 3, .inl (cyI, 12, .inl v_d_seen)), (m_d 4, .inl (cyI, 6, .inl v_d_took)), (m_d 5, .inl (cyI, 6, .inl v_d_dryDays)), (m_d 6, .inl (cyI, 6, .inl v_d_firstDry)), (m_d 7, .inl (cyI, 6, .inl v_d_total))] sz (xE tO vF adK adV))) (va_Qv (fun u : Int32 × Int32 × (Nat → Int32) × (Nat → Int32) × (Nat → Int32) × (Nat → Int64) × (Nat → Int32) × Int32 × (Nat → Int32) × (Nat → Int64) × (Nat → Int32) × (Nat → Int32) × (Nat → Int32) × (Nat → Int32) × (Nat → Int32) => u = out) (ux_at (dC, dI) vwCl (tyG cyI cyJ cyZ cyB cyO) [(h_c, .inr (0, oX0 m_c h_g h_p v_c_pumped v_c_today)), (m_c 2, .inl (cyZ, 6, .inl v_c_lacked)), (m_c 5, .inl (cyI, 12, .inl v_c_level)), (m_c 6, .inl (cyI, 12, .inl v_c_water)), (m_c 7, .inl (cyJ, 12, .inr (.inl v_c_salt))), (m_c 8, .inl (cyI, 16, .inl v_c_stack)), (h_g, .inr (3, oX3 m_g v_g_cells v_g_passes v_g_rivers v_g_villages v_g_rains)), (m_g 1, .inl (cyI, 12, .inl v_g_room)), (m_g 5, .inl (cyI, 20, .inl v_g_passFrom)), (m_g 6, .inl (cyI, 20, .inl v_g_passTo)), (m_g 9, .inl (cyI, 3, .inl v_g_riverCell)), (m_g 10, .inl (cyI, 3, .inl v_g_riverLevel)), (m_g 12, .inl (cyI, 3, .inl v_g_riverSalt)), (m_g 14, .inl (cyI, 6, .inl v_g_villageCell)), (m_g 15, .inl (cyI, 6, .inl v_g_need)), (m_g 16, .inl (cyI, 6, .inl v_g_lawEnd)), (m_g 17, .inl (cyI, 400, .inl v_g_code)), (h_p, .inr (4, oX4 m_p v_p_pumpCell v_p_pumpTakes v_p_pumpFrom v_p_pumpTo)), (m_p 0, .inl (cyI, 6, .inl v_p_wanting)), (m_p 1, .inl (cyI, 20, .inl v_p_passWidth)), (m_p 2, .inl (cyI, 3, .inl v_p_riverWidth)), (m_p 3, .inl (cyI, 14, .inl v_p_rain)), (h_d, .inr (1, oX1 m_d v_d_day)), (m_d 1, .inl (cyI, 12, .inl v_d_water)), (m_d 2, .inl (cyJ, 12, .inr (.inl v_d_salt))), (m_d 3, .inl (cyI, 12, .inl v_d_seen)), (m_d 4, .inl (cyI, 6, .inl v_d_took)), (m_d 5, .inl (cyI, 6, .inl v_d_dryDays)), (m_d 6, .inl (cyI, 6, .inl v_d_firstDry)), (m_d 7, .inl (cyI, 6, .inl v_d_total))] sz (fun u : Int32 × Int32 × (Nat → Int32) × (Nat → Int32) × (Nat → Int32) × (Nat → Int64) × (Nat → Int32) × Int32 × (Nat → Int32) × (Nat → Int64) × (Nat → Int32) × (Nat → Int32) × (Nat → Int32) × (Nat → Int32) × (Nat → Int32) => [(h_c, .inr (0, oX0 m_c h_g h_p u.1 u.2.1)), (m_c 2, .inl (cyZ, 6, .inl u.2.2.1)), (m_c 5, .inl (cyI, 12, .inl u.2.2.2.1)), (m_c 6, .inl (cyI, 12, .inl u.2.2.2.2.1)), (m_c 7, .inl (cyJ, 12, .inr (.inl u.2.2.2.2.2.1))), (m_c 8, .inl (cyI, 16, .inl u.2.2.2.2.2.2.1)), (h_g, .inr (3, oX3 m_g v_g_cells v_g_passes v_g_rivers v_g_villages v_g_rains)), (m_g 1, .inl (cyI, 12, .inl v_g_room)), (m_g 5, .inl (cyI, 20, .inl v_g_passFrom)), (m_g 6, .inl (cyI, 20, .inl v_g_passTo)), (m_g 9, .inl (cyI, 3, .inl v_g_riverCell)), (m_g 10, .inl (cyI, 3, .inl v_g_riverLevel)), (m_g 12, .inl (cyI, 3, .inl v_g_riverSalt)), (m_g 14, .inl (cyI, 6, .inl v_g_villageCell)), (m_g 15, .inl (cyI, 6, .inl v_g_need)), (m_g 16, .inl (cyI, 6, .inl v_g_lawEnd)), (m_g 17, .inl (cyI, 400, .inl v_g_code)), (h_p, .inr (4, oX4 m_p v_p_pumpCell v_p_pumpTakes v_p_pumpFrom v_p_pumpTo)), (m_p 0, .inl (cyI, 6, .inl v_p_wanting)), (m_p 1, .inl (cyI, 20, .inl v_p_passWidth)), (m_p 2, .inl (cyI, 3, .inl v_p_riverWidth)), (m_p 3, .inl (cyI, 14, .inl v_p_rain)), (h_d, .inr (1, oX1 m_d u.2.2.2.2.2.2.2.1)), (m_d 1, .inl (cyI, 12, .inl u.2.2.2.2.2.2.2.2.1)), (m_d 2, .inl (cyJ, 12, .inr (.inl u.2.2.2.2.2.2.2.2.2.1))), (m_d 3, .inl (cyI, 12, .inl u.2.2.2.2.2.2.2.2.2.2.1)), (m_d 4, .inl (cyI, 6, .inl u.2.2.2.2.2.2.2.2.2.2.2.1)), (m_d 5, .inl (cyI, 6, .inl u.2.2.2.2.2.2.2.2.2.2.2.2.1)), (m_d 6, .inl (cyI, 6, .inl u.2.2.2.2.2.2.2.2.2.2.2.2.2.1)), (m_d 7, .inl (cyI, 6, .inl u.2.2.2.2.2.2.2.2.2.2.2.2.2.2))])) (va_A [(h_c, .inr (0, oX0 m_c h_g h_p v_c_pumped v_c_today)), (m_c 2, .inl (cyZ, 6, .inl v_c_lacked)), (m_c 5, .inl (cyI, 12, .inl v_c_level)), (m_c 6, .inl (cyI, 12, .inl v_c_water)), (m_c 7, .inl (cyJ, 12, .inr (.inl v_c_salt))), (m_c 8, .inl (cyI, 16, .inl v_c_stack)), (h_g, .inr (3, oX3 m_g v_g_cells v_g_passes v_g_rivers v_g_villages v_g_rains)), (m_g 1, .inl (cyI, 12, .inl v_g_room)), (m_g 5, .inl (cyI, 20, .inl v_g_passFrom)), (m_g 6, .inl (cyI, 20, .inl v_g_passTo)), (m_g 9, .inl (cyI, 3, .inl v_g_riverCell)), (m_g 10, .inl (cyI, 3, .inl v_g_riverLevel)), (m_g 12, .inl (cyI, 3, .inl v_g_riverSalt)), (m_g 14, .inl (cyI, 6, .inl v_g_villageCell)), (m_g 15, .inl (cyI, 6, .inl v_g_need)), (m_g 16, .inl (cyI, 6, .inl v_g_lawEnd)), (m_g 17, .inl (cyI, 400, .inl v_g_code)), (h_p, .inr (4, oX4 m_p v_p_pumpCell v_p_pumpTakes v_p_pumpFrom v_p_pumpTo)), (m_p 0, .inl (cyI, 6, .inl v_p_wanting)), (m_p 1, .inl (cyI, 20, .inl v_p_passWidth)), (m_p 2, .inl (cyI, 3, .inl v_p_riverWidth)), (m_p 3, .inl (cyI, 14, .inl v_p_rain)), (h_d, .inr (1, oX1 m_d v_d_day)), (m_d 1, .inl (cyI, 12, .inl v_d_water)), (m_d 2, .inl (cyJ, 12, .inr (.inl v_d_salt))), (m_d 3, .inl (cyI, 12, .inl v_d_seen)), (m_d 4, .inl (cyI, 6, .inl v_d_took)), (m_d 5, .inl (cyI, 6, .inl v_d_dryDays)), (m_d 6, .inl (cyI, 6, .inl v_d_firstDry)), (m_d 7, .inl (cyI, 6, .inl v_d_total))] sz)) 0 0 (va_A [(h_c, .inr (0, oX0 m_c h_g h_p v_c_pumped v_c_today)), (m_c 2, .inl (cyZ, 6, .inl v_c_lacked)), (m_c 5, .inl (cyI, 12, .inl v_c_level)), (m_c 6, .inl (cyI, 12, .inl v_c_water)), (m_c 7, .inl (cyJ, 12, .inr (.inl v_c_salt))), (m_c 8, .inl (cyI, 16, .inl v_c_stack)), (h_g, .inr (3, oX3 m_g v_g_cells v_g_passes v_g_rivers v_g_villages v_g_rains)), (m_g 1, .inl (cyI, 12, .inl v_g_room)), (m_g 5, .inl (cyI, 20, .inl v_g_passFrom)), (m_g 6, .inl (cyI, 20, .inl v_g_passTo)), (m_g 9, .inl (cyI, 3, .inl v_g_riverCell)), (m_g 10, .inl (cyI, 3, .inl v_g_riverLevel)), (m_g 12, .inl (cyI, 3, .inl v_g_riverSalt)), (m_g 14, .inl (cyI, 6, .inl v_g_villageCell)), (m_g 15, .inl (cyI, 6, .inl v_g_need)), (m_g 16, .inl (cyI, 6, .inl v_g_lawEnd)), (m_g 17, .inl (cyI, 400, .inl v_g_code)), (h_p, .inr (4, oX4 m_p v_p_pumpCell v_p_pumpTakes v_p_pumpFrom v_p_pumpTo)), (m_p 0, .inl (cyI, 6, .inl v_p_wanting)), (m_p 1, .inl (cyI, 20, .inl v_p_passWidth)), (m_p 2, .inl (cyI, 3, .inl v_p_riverWidth)), (m_p 3, .inl (cyI, 14, .inl v_p_rain)), (h_d, .inr (1, oX1 m_d v_d_day)), (m_d 1, .inl (cyI, 12, .inl v_d_water)), (m_d 2, .inl (cyJ, 12, .inr (.inl v_d_salt))), (m_d 3, .inl (cyI, 12, .inl v_d_seen)), (m_d 4, .inl (cyI, 6, .inl v_d_took)), (m_d 5, .inl (cyI, 6, .inl v_d_dryDays)), (m_d 6, .inl (cyI, 6, .inl v_d_firstDry)), (m_d 7, .inl (cyI, 6, .inl v_d_total))] sz) := by
  refine ux_metv (by decide +kernel) (Nat.le_of_ble_eq_true rfl) ?_
  intro p e s m below meth c A Q ls hx hb hml hts hown hA hP hK hD hE hl hret
  have hown : s.vm.findClass RX0 = some m.cls := hown
  have hS : va_S A s.heap s.heap [] := va_S.rf
  have hl : lv_has ls 4 [(0, .ref h_c), (1, .ref h_d)] := hl
  have hb_107 : ∀ (n : Nat) (v_c_pumped : Int32) (v_c_today : Int32) (v_c_lacked : (Nat → Int32)) (v_c_level : (Nat → Int32)) (v_c_water : (Nat → Int32)) (v_c_salt : (Nat → Int64)) (v_c_stack : (Nat → Int32)) (v_d_day : Int32) (v_d_water : (Nat → Int32)) (v_d_salt : (Nat → Int64)) (v_d_seen : (Nat → Int32)) (v_d_took : (Nat → Int32)) (v_d_dryDays : (Nat → Int32)) (v_d_firstDry : (Nat → Int32)) (v_d_total : (Nat → Int32)) (x2 : Int32), f_X0_oneDay_b107 v_g_rivers v_g_riverCell v_g_riverLevel v_g_riverSalt v_p_riverWidth n v_c_pumped v_c_today v_c_lacked v_c_level v_c_water v_c_salt v_c_stack v_d_day v_d_water v_d_salt v_d_seen v_d_took v_d_dryDays v_d_firstDry v_d_total x2 = some out → ∀ (H : Heap) (locs : List Loc) (ls : Array Slot), va_P (dC, dI) vwCl [(h_c, .inr (0, oX0 m_c h_g h_p v_c_pumped v_c_today)), (m_c 2, .inl (cyZ, 6, .inl v_c_lacked)), (m_c 5, .inl (cyI, 12, .inl v_c_level)), (m_c 6, .inl (cyI, 12, .inl v_c_water)), (m_c 7, .inl (cyJ, 12, .inr (.inl v_c_salt))), (m_c 8, .inl (cyI, 16, .inl v_c_stack)), (h_g, .inr (3, oX3 m_g v_g_cells v_g_passes v_g_rivers v_g_villages v_g_rains)), (m_g 1, .inl (cyI, 12, .inl v_g_room)), (m_g 5, .inl (cyI, 20, .inl v_g_passFrom)), (m_g 6, .inl (cyI, 20, .inl v_g_passTo)), (m_g 9, .inl (cyI, 3, .inl v_g_riverCell)), (m_g 10, .inl (cyI, 3, .inl v_g_riverLevel)), (m_g 12, .inl (cyI, 3, .inl v_g_riverSalt)), (m_g 14, .inl (cyI, 6, .inl v_g_villageCell)), (m_g 15, .inl (cyI, 6, .inl v_g_need)), (m_g 16, .inl (cyI, 6, .inl v_g_lawEnd)), (m_g 17, .inl (cyI, 400, .inl v_g_code)), (h_p, .inr (4, oX4 m_p v_p_pumpCell v_p_pumpTakes v_p_pumpFrom v_p_pumpTo)), (m_p 0, .inl (cyI, 6, .inl v_p_wanting)), (m_p 1, .inl (cyI, 20, .inl v_p_passWidth)), (m_p 2, .inl (cyI, 3, .inl v_p_riverWidth)), (m_p 3, .inl (cyI, 14, .inl v_p_rain)), (h_d, .inr (1, oX1 m_d v_d_day)), (m_d 1, .inl (cyI, 12, .inl v_d_water)), (m_d 2, .inl (cyJ, 12, .inr (.inl v_d_salt))), (m_d 3, .inl (cyI, 12, .inl v_d_seen)), (m_d 4, .inl (cyI, 6, .inl v_d_took)), (m_d 5, .inl (cyI, 6, .inl v_d_dryDays)), (m_d 6, .inl (cyI, 6, .inl v_d_firstDry)), (m_d 7, .inl (cyI, 6, .inl v_d_total))] H → va_D A [(h_c, .inr (0, oX0 m_c h_g h_p v_c_pumped v_c_today)), (m_c 2, .inl (cyZ, 6, .inl v_c_lacked)), (m_c 5, .inl (cyI, 12, .inl v_c_level)), (m_c 6, .inl (cyI, 12, .inl v_c_water)), (m_c 7, .inl (cyJ, 12, .inr (.inl v_c_salt))), (m_c 8, .inl (cyI, 16, .inl v_c_stack)), (h_g, .inr (3, oX3 m_g v_g_cells v_g_passes v_g_rivers v_g_villages v_g_rains)), (m_g 1, .inl (cyI, 12, .inl v_g_room)), (m_g 5, .inl (cyI, 20, .inl v_g_passFrom)), (m_g 6, .inl (cyI, 20, .inl v_g_passTo)), (m_g 9, .inl (cyI, 3, .inl v_g_riverCell)), (m_g 10, .inl (cyI, 3, .inl v_g_riverLevel)), (m_g 12, .inl (cyI, 3, .inl v_g_riverSalt)), (m_g 14, .inl (cyI, 6, .inl v_g_villageCell)), (m_g 15, .inl (cyI, 6, .inl v_g_need)), (m_g 16, .inl (cyI, 6, .inl v_g_lawEnd)), (m_g 17, .inl (cyI, 400, .inl v_g_code)), (h_p, .inr (4, oX4 m_p v_p_pumpCell v_p_pumpTakes v_p_pumpFrom v_p_pumpTo)), (m_p 0, .inl (cyI, 6, .inl v_p_wanting)), (m_p 1, .inl (cyI, 20, .inl v_p_passWidth)), (m_p 2, .inl (cyI, 3, .inl v_p_riverWidth)), (m_p 3, .inl (cyI, 14, .inl v_p_rain)), (h_d, .inr (1, oX1 m_d v_d_day)), (m_d 1, .inl (cyI, 12, .inl v_d_water)), (m_d 2, .inl (cyJ, 12, .inr (.inl v_d_salt))), (m_d 3, .inl (cyI, 12, .inl v_d_seen)), (m_d 4, .inl (cyI, 6, .inl v_d_took)), (m_d 5, .inl (cyI, 6, .inl v_d_dryDays)), (m_d 6, .inl (cyI, 6, .inl v_d_firstDry)), (m_d 7, .inl (cyI, 6, .inl v_d_total))] → va_S A s.heap H locs → lv_has ls 4 [(0, .ref h_c), (1, .ref h_d), (2, .int x2)] → W p l e ({ frames := 3, cells := 0, slots := 0, locals := 75 } : Room) s m ([.ref h_c, .ref h_d] : List Value).toArray below meth c H locs 0 0 Q (F0 m 107 ls []) := by
    intro  n
    induction n with
    | zero =>
      intro v_c_pumped v_c_today v_c_lacked v_c_level v_c_water v_c_salt v_c_stack v_d_day v_d_water v_d_salt v_d_seen v_d_took v_d_dryDays v_d_firstDry v_d_total x2 hf
      exact no_some hf
    | succ n ih =>
      intro v_c_pumped v_c_today v_c_lacked v_c_level v_c_water v_c_salt v_c_stack v_d_day v_d_water v_d_salt v_d_seen v_d_took v_d_dryDays v_d_firstDry v_d_total x2 hf H locs ls hP hD hS hl
      have hf : f_X0_oneDay_b107_st (f_X0_oneDay_b107 v_g_rivers v_g_riverCell v_g_riverLevel v_g_riverSalt v_p_riverWidth n) v_g_rivers v_g_riverCell v_g_riverLevel v_g_riverSalt v_p_riverWidth v_c_pumped v_c_today v_c_lacked v_c_level v_c_water v_c_salt v_c_stack v_d_day v_d_water v_d_salt v_d_seen v_d_took v_d_dryDays v_d_firstDry v_d_total x2 = some out := hf
      unfold f_X0_oneDay_b107_st at hf
      refine lv_iload_n hx hb dX0_oneDay_107 rfl (lv_at hl 2 rfl) ?_
      refine lv_aload_n hx hb dX0_oneDay_108 rfl (lv_at hl 0 rfl) ?_
      refine va_get (D := (dC, dI)) (ci := 0) (v := .ref h_g) (C := RX0) (T := TX0) (N := 9) hx hb hts (g_c inlX0) hown hK hP 0 rfl rfl 0 (by decide) (hts _ (List.mem_cons_of_mem _ wm_5_13)) (fun _ h9 => h9) rfl dX0_oneDay_109 ?_
      refine va_get (D := (dC, dI)) (ci := 3) (v := .int v_g_rivers) (C := RX3) (T := TX3) (N := 20) hx hb hts (g_c inlX3) hown hK hP 6 rfl rfl 8 (by decide) (hts _ (List.mem_cons_of_mem _ wm_37_5)) (fun _ h9 => h9) rfl dX0_oneDay_112 ?_
      refine lv_icmp_ge (tgt := 130) hx hb dX0_oneDay_115 (by decide) (fun c_1 => ?_) (fun c_1 => ?_)
      · have hf := (if_pos c_1).symm.trans hf
        refine lv_aload_n hx hb dX0_oneDay_130 rfl (lv_at hl 1 rfl) ?_
        refine lv_dup hx hb dX0_oneDay_131 rfl ?_
        refine va_get (D := (dC, dI)) (ci := 1) (v := .int v_d_day) (C := RX1) (T := TX1) (N := 8) hx hb hts (g_c inlX1) hown hK hP 22 rfl rfl 0 (by decide) (hts _ (List.mem_cons_of_mem _ wm_33_23)) (fun _ h9 => h9) rfl dX0_oneDay_132 ?_
        refine lv_iconst (v := (1 : Int32)) hx hb dX0_oneDay_135 (by decide) ?_
        refine lv_iadd hx hb dX0_oneDay_136 ?_
        refine va_put (D := (dC, dI)) (ci := 1) (v := .int (v_d_day + (1 : Int32))) (ty := .int) (C := RX1) (T := TX1) (N := 8) hx hb hts (g_c inlX1) tyX1 tyX1_ok nmX1 hown hK hP hD hS 22 rfl rfl 0 (by decide) (hts _ (List.mem_cons_of_mem _ wm_33_23)) (fun _ h9 => h9) rfl (by decide +kernel) rfl rfl (Nat.le_of_ble_eq_true rfl) dX0_oneDay_137 (fun H locs hP hD hS => ?_)
        have hP : va_P (dC, dI) vwCl [(h_c, .inr (0, oX0 m_c h_g h_p v_c_pumped v_c_today)), (m_c 2, .inl (cyZ, 6, .inl v_c_lacked)), (m_c 5, .inl (cyI, 12, .inl v_c_level)), (m_c 6, .inl (cyI, 12, .inl v_c_water)), (m_c 7, .inl (cyJ, 12, .inr (.inl v_c_salt))), (m_c 8, .inl (cyI, 16, .inl v_c_stack)), (h_g, .inr (3, oX3 m_g v_g_cells v_g_passes v_g_rivers v_g_villages v_g_rains)), (m_g 1, .inl (cyI, 12, .inl v_g_room)), (m_g 5, .inl (cyI, 20, .inl v_g_passFrom)), (m_g 6, .inl (cyI, 20, .inl v_g_passTo)), (m_g 9, .inl (cyI, 3, .inl v_g_riverCell)), (m_g 10, .inl (cyI, 3, .inl v_g_riverLevel)), (m_g 12, .inl (cyI, 3, .inl v_g_riverSalt)), (m_g 14, .inl (cyI, 6, .inl v_g_villageCell)), (m_g 15, .inl (cyI, 6, .inl v_g_need)), (m_g 16, .inl (cyI, 6, .inl v_g_lawEnd)), (m_g 17, .inl (cyI, 400, .inl v_g_code)), (h_p, .inr (4, oX4 m_p v_p_pumpCell v_p_pumpTakes v_p_pumpFrom v_p_pumpTo)), (m_p 0, .inl (cyI, 6, .inl v_p_wanting)), (m_p 1, .inl (cyI, 20, .inl v_p_passWidth)), (m_p 2, .inl (cyI, 3, .inl v_p_riverWidth)), (m_p 3, .inl (cyI, 14, .inl v_p_rain)), (h_d, .inr (1, oX1 m_d (v_d_day + (1 : Int32)))), (m_d 1, .inl (cyI, 12, .inl v_d_water)), (m_d 2, .inl (cyJ, 12, .inr (.inl v_d_salt))), (m_d 3, .inl (cyI, 12, .inl v_d_seen)), (m_d 4, .inl (cyI, 6, .inl v_d_took)), (m_d 5, .inl (cyI, 6, .inl v_d_dryDays)), (m_d 6, .inl (cyI, 6, .inl v_d_firstDry)), (m_d 7, .inl (cyI, 6, .inl v_d_total))] H := hP
        have hD : va_D A [(h_c, .inr (0, oX0 m_c h_g h_p v_c_pumped v_c_today)), (m_c 2, .inl (cyZ, 6, .inl v_c_lacked)), (m_c 5, .inl (cyI, 12, .inl v_c_level)), (m_c 6, .inl (cyI, 12, .inl v_c_water)), (m_c 7, .inl (cyJ, 12, .inr (.inl v_c_salt))), (m_c 8, .inl (cyI, 16, .inl v_c_stack)), (h_g, .inr (3, oX3 m_g v_g_cells v_g_passes v_g_rivers v_g_villages v_g_rains)), (m_g 1, .inl (cyI, 12, .inl v_g_room)), (m_g 5, .inl (cyI, 20, .inl v_g_passFrom)), (m_g 6, .inl (cyI, 20, .inl v_g_passTo)), (m_g 9, .inl (cyI, 3, .inl v_g_riverCell)), (m_g 10, .inl (cyI, 3, .inl v_g_riverLevel)), (m_g 12, .inl (cyI, 3, .inl v_g_riverSalt)), (m_g 14, .inl (cyI, 6, .inl v_g_villageCell)), (m_g 15, .inl (cyI, 6, .inl v_g_need)), (m_g 16, .inl (cyI, 6, .inl v_g_lawEnd)), (m_g 17, .inl (cyI, 400, .inl v_g_code)), (h_p, .inr (4, oX4 m_p v_p_pumpCell v_p_pumpTakes v_p_pumpFrom v_p_pumpTo)), (m_p 0, .inl (cyI, 6, .inl v_p_wanting)), (m_p 1, .inl (cyI, 20, .inl v_p_passWidth)), (m_p 2, .inl (cyI, 3, .inl v_p_riverWidth)), (m_p 3, .inl (cyI, 14, .inl v_p_rain)), (h_d, .inr (1, oX1 m_d (v_d_day + (1 : Int32)))), (m_d 1, .inl (cyI, 12, .inl v_d_water)), (m_d 2, .inl (cyJ, 12, .inr (.inl v_d_salt))), (m_d 3, .inl (cyI, 12, .inl v_d_seen)), (m_d 4, .inl (cyI, 6, .inl v_d_took)), (m_d 5, .inl (cyI, 6, .inl v_d_dryDays)), (m_d 6, .inl (cyI, 6, .inl v_d_firstDry)), (m_d 7, .inl (cyI, 6, .inl v_d_total))] := hD
        exact hret _ _ _ _ (v_c_pumped, v_c_today, v_c_lacked, v_c_level, v_c_water, v_c_salt, v_c_stack, (v_d_day + (1 : Int32)), v_d_water, v_d_salt, v_d_seen, v_d_took, v_d_dryDays, v_d_firstDry, v_d_total) dX0_oneDay_140 (Option.some.inj hf) hP hD hS
      · have hf := (if_neg c_1).symm.trans hf
        refine lv_aload_n hx hb dX0_oneDay_118 rfl (lv_at hl 0 rfl) ?_
        refine lv_aload_n hx hb dX0_oneDay_119 rfl (lv_at hl 1 rfl) ?_
        refine lv_iload_n hx hb dX0_oneDay_120 rfl (lv_at hl 2 rfl) ?_
        obtain ⟨o_2, ho_2, hf⟩ := bd_some hf
        obtain ⟨o_2_0, o_2_1⟩ := o_2
        have hf := un2_some hf
        refine ux_Vv (n := 2) (As := [.ref h_d, .int x2]) (rest := []) (wc := [(h_c, .inr (0, oX0 m_c h_g h_p v_c_pumped v_c_today)), (m_c 5, .inl (cyI, 12, .inl v_c_level)), (m_c 6, .inl (cyI, 12, .inl v_c_water)), (m_c 7, .inl (cyJ, 12, .inr (.inl v_c_salt))), (h_g, .inr (3, oX3 m_g v_g_cells v_g_passes v_g_rivers v_g_villages v_g_rains)), (m_g 9, .inl (cyI, 3, .inl v_g_riverCell)), (m_g 10, .inl (cyI, 3, .inl v_g_riverLevel)), (m_g 12, .inl (cyI, 3, .inl v_g_riverSalt)), (h_p, .inr (4, oX4 m_p v_p_pumpCell v_p_pumpTakes v_p_pumpFrom v_p_pumpTo)), (m_p 2, .inl (cyI, 3, .inl v_p_riverWidth)), (h_d, .inr (1, oX1 m_d v_d_day)), (m_d 1, .inl (cyI, 12, .inl v_d_water)), (m_d 2, .inl (cyJ, 12, .inr (.inl v_d_salt)))]) (wr := [_, _, _, _, _, _, _, _, _, _, _, _, _, _, _, _, _]) ⟨hx, hb, hml, hown, hts⟩ hK hP hD hS hA hE [0, 2, 3, 4, 6, 10, 11, 12, 17, 20, 22, 23, 24] [1, 5, 7, 8, 9, 13, 14, 15, 16, 18, 19, 21, 25, 26, 27, 28, 29] (sg_h [(0, 1), (2, 3), (6, 1), (10, 3), (17, 1), (20, 1), (22, 3)] 30 rfl sk_z13_42 rfl) (sg_h [(1, 1), (5, 1), (7, 3), (13, 4), (18, 2), (21, 1), (25, 5)] 30 rfl sk_z13_43 rfl) nd_z13_41 nd_z13_42 nj_z13_15 (c_X0_flowByRiver l dC dI cyI cyJ cyZ cyB cyO tO vF adK adV h_c m_c h_g m_g h_p m_p h_d m_d v_c_pumped v_c_today v_c_level v_c_water v_c_salt v_g_cells v_g_passes v_g_rivers v_g_villages v_g_rains v_g_riverCell v_g_riverLevel v_g_riverSalt v_p_pumpCell v_p_pumpTakes v_p_pumpFrom v_p_pumpTo v_p_riverWidth v_d_day v_d_water v_d_salt x2 _ _ ho_2) 0 0 rfl rfl wm_39_4 wm_39_5 wm_39_6 wm_2_6 wm_39_7 ⟨rfl, rfl⟩ (by decide +kernel) rfl ⟨Nat.le_of_ble_eq_true rfl, Nat.le_of_ble_eq_true rfl⟩ hl.1 rfl (Nat.le_of_ble_eq_true rfl) dX0_oneDay_121 ⟨Nat.le_of_ble_eq_true rfl, Nat.le_of_ble_eq_true rfl⟩ (fun H locs hP hD hS => ?_)
        have hP : va_P (dC, dI) vwCl [_, _, _, _, _, _, _, _, _, _, _, _, _, _, _, _, _, (h_c, .inr (0, oX0 m_c h_g h_p v_c_pumped v_c_today)), (m_c 5, .inl (cyI, 12, .inl v_c_level)), (m_c 6, .inl (cyI, 12, .inl v_c_water)), (m_c 7, .inl (cyJ, 12, .inr (.inl v_c_salt))), (h_g, .inr (3, oX3 m_g v_g_cells v_g_passes v_g_rivers v_g_villages v_g_rains)), (m_g 9, .inl (cyI, 3, .inl v_g_riverCell)), (m_g 10, .inl (cyI, 3, .inl v_g_riverLevel)), (m_g 12, .inl (cyI, 3, .inl v_g_riverSalt)), (h_p, .inr (4, oX4 m_p v_p_pumpCell v_p_pumpTakes v_p_pumpFrom v_p_pumpTo)), (m_p 2, .inl (cyI, 3, .inl v_p_riverWidth)), (h_d, .inr (1, oX1 m_d v_d_day)), (m_d 1, .inl (cyI, 12, .inl o_2_0)), (m_d 2, .inl (cyJ, 12, .inr (.inl o_2_1)))] H := hP
        have hD : va_D A [_, _, _, _, _, _, _, _, _, _, _, _, _, _, _, _, _, (h_c, .inr (0, oX0 m_c h_g h_p v_c_pumped v_c_today)), (m_c 5, .inl (cyI, 12, .inl v_c_level)), (m_c 6, .inl (cyI, 12, .inl v_c_water)), (m_c 7, .inl (cyJ, 12, .inr (.inl v_c_salt))), (h_g, .inr (3, oX3 m_g v_g_cells v_g_passes v_g_rivers v_g_villages v_g_rains)), (m_g 9, .inl (cyI, 3, .inl v_g_riverCell)), (m_g 10, .inl (cyI, 3, .inl v_g_riverLevel)), (m_g 12, .inl (cyI, 3, .inl v_g_riverSalt)), (h_p, .inr (4, oX4 m_p v_p_pumpCell v_p_pumpTakes v_p_pumpFrom v_p_pumpTo)), (m_p 2, .inl (cyI, 3, .inl v_p_riverWidth)), (h_d, .inr (1, oX1 m_d v_d_day)), (m_d 1, .inl (cyI, 12, .inl o_2_0)), (m_d 2, .inl (cyJ, 12, .inr (.inl o_2_1)))] := hD
        refine lv_iinc (v := x2 + (1 : Int32)) (lv' := [(2, .int (x2 + (1 : Int32))), (0, .ref h_c), (1, .ref h_d)]) hx hb dX0_oneDay_124 hl (k := 2) rfl rfl (by decide) rfl (fun ls hl => ?_)
        refine lv_goto (tgt := 107) hx hb dX0_oneDay_127 (by decide) ?_
        exact ih _ _ _ _ _ _ _ _ _ _ _ _ _ _ _ _ hf _ _ _ (hP.sub [17, 0, 18, 19, 20, 1, 21, 2, 3, 4, 22, 23, 24, 5, 6, 7, 8, 25, 9, 10, 26, 11, 27, 28, 29, 12, 13, 14, 15, 16] (ux_pick (sg_h [(17, 1), (0, 1), (18, 3), (1, 1), (21, 1), (2, 3), (22, 3), (5, 4), (25, 1), (9, 2), (26, 1), (11, 1), (27, 3), (12, 5)] 30 rfl sk_z13_44 rfl))) (hD.sub [17, 0, 18, 19, 20, 1, 21, 2, 3, 4, 22, 23, 24, 5, 6, 7, 8, 25, 9, 10, 26, 11, 27, 28, 29, 12, 13, 14, 15, 16] nd_z13_43 (sg_h [(17, 1), (0, 1), (18, 3), (1, 1), (21, 1), (2, 3), (22, 3), (5, 4), (25, 1), (9, 2), (26, 1), (11, 1), (27, 3), (12, 5)] 30 rfl sk_z13_44 rfl)) hS (lv_sub hl [1, 2, 0] rfl)
  have hb_22 : ∀ (n : Nat) (v_c_pumped : Int32) (v_c_today : Int32) (v_c_lacked : (Nat → Int32)) (v_c_level : (Nat → Int32)) (v_c_water : (Nat → Int32)) (v_c_salt : (Nat → Int64)) (v_c_stack : (Nat → Int32)) (v_d_day : Int32) (v_d_water : (Nat → Int32)) (v_d_salt : (Nat → Int64)) (v_d_seen : (Nat → Int32)) (v_d_took : (Nat → Int32)) (v_d_dryDays : (Nat → Int32)) (v_d_firstDry : (Nat → Int32)) (v_d_total : (Nat → Int32)) (x2 : Int32), f_X0_oneDay_b22 v_g_passes v_g_rivers v_g_passFrom v_g_passTo v_g_riverCell v_g_riverLevel v_g_riverSalt v_p_passWidth v_p_riverWidth n v_c_pumped v_c_today v_c_lacked v_c_level v_c_water v_c_salt v_c_stack v_d_day v_d_water v_d_salt v_d_seen v_d_took v_d_dryDays v_d_firstDry v_d_total x2 = some out → ∀ (H : Heap) (locs : List Loc) (ls : Array Slot), va_P (dC, dI) vwCl [(h_c, .inr (0, oX0 m_c h_g h_p v_c_pumped v_c_today)), (m_c 2, .inl (cyZ, 6, .inl v_c_lacked)), (m_c 5, .inl (cyI, 12, .inl v_c_level)), (m_c 6, .inl (cyI, 12, .inl v_c_water)), (m_c 7, .inl (cyJ, 12, .inr (.inl v_c_salt))), (m_c 8, .inl (cyI, 16, .inl v_c_stack)), (h_g, .inr (3, oX3 m_g v_g_cells v_g_passes v_g_rivers v_g_villages v_g_rains)), (m_g 1, .inl (cyI, 12, .inl v_g_room)), (m_g 5, .inl (cyI, 20, .inl v_g_passFrom)), (m_g 6, .inl (cyI, 20, .inl v_g_passTo)), (m_g 9, .inl (cyI, 3, .inl v_g_riverCell)), (m_g 10, .inl (cyI, 3, .inl v_g_riverLevel)), (m_g 12, .inl (cyI, 3, .inl v_g_riverSalt)), (m_g 14, .inl (cyI, 6, .inl v_g_villageCell)), (m_g 15, .inl (cyI, 6, .inl v_g_need)), (m_g 16, .inl (cyI, 6, .inl v_g_lawEnd)), (m_g 17, .inl (cyI, 400, .inl v_g_code)), (h_p, .inr (4, oX4 m_p v_p_pumpCell v_p_pumpTakes v_p_pumpFrom v_p_pumpTo)), (m_p 0, .inl (cyI, 6, .inl v_p_wanting)), (m_p 1, .inl (cyI, 20, .inl v_p_passWidth)), (m_p 2, .inl (cyI, 3, .inl v_p_riverWidth)), (m_p 3, .inl (cyI, 14, .inl v_p_rain)), (h_d, .inr (1, oX1 m_d v_d_day)), (m_d 1, .inl (cyI, 12, .inl v_d_water)), (m_d 2, .inl (cyJ, 12, .inr (.inl v_d_salt))), (m_d 3, .inl (cyI, 12, .inl v_d_seen)), (m_d 4, .inl (cyI, 6, .inl v_d_took)), (m_d 5, .inl (cyI, 6, .inl v_d_dryDays)), (m_d 6, .inl (cyI, 6, .inl v_d_firstDry)), (m_d 7, .inl (cyI, 6, .inl v_d_total))] H → va_D A [(h_c, .inr (0, oX0 m_c h_g h_p v_c_pumped v_c_today)), (m_c 2, .inl (cyZ, 6, .inl v_c_lacked)), (m_c 5, .inl (cyI, 12, .inl v_c_level)), (m_c 6, .inl (cyI, 12, .inl v_c_water)), (m_c 7, .inl (cyJ, 12, .inr (.inl v_c_salt))), (m_c 8, .inl (cyI, 16, .inl v_c_stack)), (h_g, .inr (3, oX3 m_g v_g_cells v_g_passes v_g_rivers v_g_villages v_g_rains)), (m_g 1, .inl (cyI, 12, .inl v_g_room)), (m_g 5, .inl (cyI, 20, .inl v_g_passFrom)), (m_g 6, .inl (cyI, 20, .inl v_g_passTo)), (m_g 9, .inl (cyI, 3, .inl v_g_riverCell)), (m_g 10, .inl (cyI, 3, .inl v_g_riverLevel)), (m_g 12, .inl (cyI, 3, .inl v_g_riverSalt)), (m_g 14, .inl (cyI, 6, .inl v_g_villageCell)), (m_g 15, .inl (cyI, 6, .inl v_g_need)), (m_g 16, .inl (cyI, 6, .inl v_g_lawEnd)), (m_g 17, .inl (cyI, 400, .inl v_g_code)), (h_p, .inr (4, oX4 m_p v_p_pumpCell v_p_pumpTakes v_p_pumpFrom v_p_pumpTo)), (m_p 0, .inl (cyI, 6, .inl v_p_wanting)), (m_p 1, .inl (cyI, 20, .inl v_p_passWidth)), (m_p 2, .inl (cyI, 3, .inl v_p_riverWidth)), (m_p 3, .inl (cyI, 14, .inl v_p_rain)), (h_d, .inr (1, oX1 m_d v_d_day)), (m_d 1, .inl (cyI, 12, .inl v_d_water)), (m_d 2, .inl (cyJ, 12, .inr (.inl v_d_salt))), (m_d 3, .inl (cyI, 12, .inl v_d_seen)), (m_d 4, .inl (cyI, 6, .inl v_d_took)), (m_d 5, .inl (cyI, 6, .inl v_d_dryDays)), (m_d 6, .inl (cyI, 6, .inl v_d_firstDry)), (m_d 7, .inl (cyI, 6, .inl v_d_total))] → va_S A s.heap H locs → lv_has ls 4 [(0, .ref h_c), (1, .ref h_d), (2, .int x2)] → W p l e ({ frames := 3, cells := 0, slots := 0, locals := 75 } : Room) s m ([.ref h_c, .ref h_d] : List Value).toArray below meth c H locs 0 0 Q (F0 m 22 ls []) := by
    intro  n
    induction n with
    | zero =>
      intro v_c_pumped v_c_today v_c_lacked v_c_level v_c_water v_c_salt v_c_stack v_d_day v_d_water v_d_salt v_d_seen v_d_took v_d_dryDays v_d_firstDry v_d_total x2 hf
      exact no_some hf
    | succ n ih =>
      intro v_c_pumped v_c_today v_c_lacked v_c_level v_c_water v_c_salt v_c_stack v_d_day v_d_water v_d_salt v_d_seen v_d_took v_d_dryDays v_d_firstDry v_d_total x2 hf H locs ls hP hD hS hl
      have hf : f_X0_oneDay_b22_st (f_X0_oneDay_b22 v_g_passes v_g_rivers v_g_passFrom v_g_passTo v_g_riverCell v_g_riverLevel v_g_riverSalt v_p_passWidth v_p_riverWidth n) v_g_passes v_g_rivers v_g_passFrom v_g_passTo v_g_riverCell v_g_riverLevel v_g_riverSalt v_p_passWidth v_p_riverWidth v_c_pumped v_c_today v_c_lacked v_c_level v_c_water v_c_salt v_c_stack v_d_day v_d_water v_d_salt v_d_seen v_d_took v_d_dryDays v_d_firstDry v_d_total x2 = some out := hf
      unfold f_X0_oneDay_b22_st at hf
      refine lv_iload_n hx hb dX0_oneDay_22 rfl (lv_at hl 2 rfl) ?_
      refine lv_aload_n hx hb dX0_oneDay_23 rfl (lv_at hl 0 rfl) ?_
      refine va_get (D := (dC, dI)) (ci := 0) (v := .ref h_g) (C := RX0) (T := TX0) (N := 9) hx hb hts (g_c inlX0) hown hK hP 0 rfl rfl 0 (by decide) (hts _ (List.mem_cons_of_mem _ wm_5_13)) (fun _ h9 => h9) rfl dX0_oneDay_24 ?_
      refine va_get (D := (dC, dI)) (ci := 3) (v := .int v_g_passes) (C := RX3) (T := TX3) (N := 20) hx hb hts (g_c inlX3) hown hK hP 6 rfl rfl 4 (by decide) (hts _ (List.mem_cons_of_mem _ wm_37_2)) (fun _ h9 => h9) rfl dX0_oneDay_27 ?_
      refine lv_icmp_ge (tgt := 105) hx hb dX0_oneDay_30 (by decide) (fun c_1 => ?_) (fun c_1 => ?_)
      · have hf := (if_pos c_1).symm.trans hf
        refine lv_iconst (v := (0 : Int32)) hx hb dX0_oneDay_105 (by decide) ?_
        refine lv_istore_n (lv' := [(2, .int (0 : Int32)), (0, .ref h_c), (1, .ref h_d)]) hx hb dX0_oneDay_106 rfl hl (by decide) rfl (fun ls hl => ?_)
        exact hb_107 _ _ _ _ _ _ _ _ _ _ _ _ _ _ _ _ _ hf _ _ _ hP hD hS (lv_sub hl [1, 2, 0] rfl)
      · have hf := (if_neg c_1).symm.trans hf
        refine lv_aload_n hx hb dX0_oneDay_33 rfl (lv_at hl 0 rfl) ?_
        refine lv_iload_n hx hb dX0_oneDay_34 rfl (lv_at hl 2 rfl) ?_
        obtain ⟨o_2, ho_2, hf⟩ := bd_some hf
        refine ux_Vi0 (n := 1) (As := [.int x2]) (rest := []) (wc := [(h_c, .inr (0, oX0 m_c h_g h_p v_c_pumped v_c_today)), (m_c 5, .inl (cyI, 12, .inl v_c_level)), (h_g, .inr (3, oX3 m_g v_g_cells v_g_passes v_g_rivers v_g_villages v_g_rains)), (m_g 5, .inl (cyI, 20, .inl v_g_passFrom)), (m_g 6, .inl (cyI, 20, .inl v_g_passTo)), (h_p, .inr (4, oX4 m_p v_p_pumpCell v_p_pumpTakes v_p_pumpFrom v_p_pumpTo)), (m_p 1, .inl (cyI, 20, .inl v_p_passWidth))]) (wr := [_, _, _, _, _, _, _, _, _, _, _, _, _, _, _, _, _, _, _, _, _, _, _]) ⟨hx, hb, hml, hown, hts⟩ hK hP hD hS hA hE [0, 2, 6, 8, 9, 17, 19] [1, 3, 4, 5, 7, 10, 11, 12, 13, 14, 15, 16, 18, 20, 21, 22, 23, 24, 25, 26, 27, 28, 29] (sg_h [(0, 1), (2, 1), (6, 1), (8, 2), (17, 1), (19, 1)] 30 rfl sk_z13_45 rfl) (sg_h [(1, 1), (3, 3), (7, 1), (10, 7), (18, 1), (20, 10)] 30 rfl sk_z13_46 rfl) nd_z13_44 nd_z13_45 nj_z13_16 (c_X0_passFlow l dC dI cyI cyJ cyZ cyB cyO tO vF adK adV h_c m_c h_g m_g h_p m_p v_c_pumped v_c_today v_c_level v_g_cells v_g_passes v_g_rivers v_g_villages v_g_rains v_g_passFrom v_g_passTo v_p_pumpCell v_p_pumpTakes v_p_pumpFrom v_p_pumpTo v_p_passWidth x2 _ _ ho_2) 0 0 rfl rfl wm_38_15 wm_38_16 wm_38_17 wm_2_6 wm_38_18 ⟨rfl, rfl⟩ (by decide +kernel) rfl ⟨Nat.le_of_ble_eq_true rfl, Nat.le_of_ble_eq_true rfl⟩ hl.1 rfl (Nat.le_of_ble_eq_true rfl) dX0_oneDay_35 ⟨Nat.le_of_ble_eq_true rfl, Nat.le_of_ble_eq_true rfl⟩ (fun H locs hP hD hS => ?_)
        have hP : va_P (dC, dI) vwCl [_, _, _, _, _, _, _, _, _, _, _, _, _, _, _, _, _, _, _, _, _, _, _, (h_c, .inr (0, oX0 m_c h_g h_p v_c_pumped v_c_today)), (m_c 5, .inl (cyI, 12, .inl v_c_level)), (h_g, .inr (3, oX3 m_g v_g_cells v_g_passes v_g_rivers v_g_villages v_g_rains)), (m_g 5, .inl (cyI, 20, .inl v_g_passFrom)), (m_g 6, .inl (cyI, 20, .inl v_g_passTo)), (h_p, .inr (4, oX4 m_p v_p_pumpCell v_p_pumpTakes v_p_pumpFrom v_p_pumpTo)), (m_p 1, .inl (cyI, 20, .inl v_p_passWidth))] H := hP
        have hD : va_D A [_, _, _, _, _, _, _, _, _, _, _, _, _, _, _, _, _, _, _, _, _, _, _, (h_c, .inr (0, oX0 m_c h_g h_p v_c_pumped v_c_today)), (m_c 5, .inl (cyI, 12, .inl v_c_level)), (h_g, .inr (3, oX3 m_g v_g_cells v_g_passes v_g_rivers v_g_villages v_g_rains)), (m_g 5, .inl (cyI, 20, .inl v_g_passFrom)), (m_g 6, .inl (cyI, 20, .inl v_g_passTo)), (h_p, .inr (4, oX4 m_p v_p_pumpCell v_p_pumpTakes v_p_pumpFrom v_p_pumpTo)), (m_p 1, .inl (cyI, 20, .inl v_p_passWidth))] := hD
        refine lv_istore_n (lv' := [(3, .int o_2), (0, .ref h_c), (1, .ref h_d), (2, .int x2)]) hx hb dX0_oneDay_38 rfl hl (by decide) rfl (fun ls hl => ?_)
        refine lv_iload_n hx hb dX0_oneDay_39 rfl (lv_at hl 0 rfl) ?_
        refine lv_if_le (tgt := 70) hx hb dX0_oneDay_40 (by decide) (fun c_3 => ?_) (fun c_3 => ?_)
        · have hf := (if_pos c_3).symm.trans hf
          refine lv_iload_n hx hb dX0_oneDay_70 rfl (lv_at hl 0 rfl) ?_
          refine lv_if_ge (tgt := 99) hx hb dX0_oneDay_71 (by decide) (fun c_4 => ?_) (fun c_4 => ?_)
          · have hf := (if_pos c_4).symm.trans hf
            refine lv_iinc (v := x2 + (1 : Int32)) (lv' := [(2, .int (x2 + (1 : Int32))), (3, .int o_2), (0, .ref h_c), (1, .ref h_d)]) hx hb dX0_oneDay_99 hl (k := 3) rfl rfl (by decide) rfl (fun ls hl => ?_)
            refine lv_goto (tgt := 22) hx hb dX0_oneDay_102 (by decide) ?_
            exact ih _ _ _ _ _ _ _ _ _ _ _ _ _ _ _ _ hf _ _ _ (hP.sub [23, 0, 24, 1, 2, 3, 25, 4, 26, 27, 5, 6, 7, 8, 9, 10, 11, 28, 12, 29, 13, 14, 15, 16, 17, 18, 19, 20, 21, 22] (ux_pick (sg_h [(23, 1), (0, 1), (24, 1), (1, 3), (25, 1), (4, 1), (26, 2), (5, 7), (28, 1), (12, 1), (29, 1), (13, 10)] 30 rfl sk_z13_47 rfl))) (hD.sub [23, 0, 24, 1, 2, 3, 25, 4, 26, 27, 5, 6, 7, 8, 9, 10, 11, 28, 12, 29, 13, 14, 15, 16, 17, 18, 19, 20, 21, 22] nd_z13_46 (sg_h [(23, 1), (0, 1), (24, 1), (1, 3), (25, 1), (4, 1), (26, 2), (5, 7), (28, 1), (12, 1), (29, 1), (13, 10)] 30 rfl sk_z13_47 rfl)) hS (lv_sub hl [2, 3, 0] rfl)
          · have hf := (if_neg c_4).symm.trans hf
            refine lv_aload_n hx hb dX0_oneDay_74 rfl (lv_at hl 1 rfl) ?_
            refine lv_aload_n hx hb dX0_oneDay_75 rfl (lv_at hl 2 rfl) ?_
            refine lv_aload_n hx hb dX0_oneDay_76 rfl (lv_at hl 1 rfl) ?_
            refine va_get (D := (dC, dI)) (ci := 0) (v := .ref h_g) (C := RX0) (T := TX0) (N := 9) hx hb hts (g_c inlX0) hown hK hP 23 rfl rfl 0 (by decide) (hts _ (List.mem_cons_of_mem _ wm_5_13)) (fun _ h9 => h9) rfl dX0_oneDay_77 ?_
            refine va_get (D := (dC, dI)) (ci := 3) (v := .ref (m_g 6)) (C := RX3) (T := TX3) (N := 20) hx hb hts (g_c inlX3) hown hK hP 25 rfl rfl 6 (by decide) (hts _ (List.mem_cons_of_mem _ wm_37_4)) (fun _ h9 => h9) rfl dX0_oneDay_80 ?_
            refine lv_iload_n hx hb dX0_oneDay_83 rfl (lv_at hl 3 rfl) ?_
            obtain ⟨h_5, hf⟩ := ck_some hf
            refine va_iald hx hb hK hP 27 0 rfl rfl (inb_in h_5) dX0_oneDay_84 ?_
            refine lv_aload_n hx hb dX0_oneDay_85 rfl (lv_at hl 1 rfl) ?_
            refine va_get (D := (dC, dI)) (ci := 0) (v := .ref h_g) (C := RX0) (T := TX0) (N := 9) hx hb hts (g_c inlX0) hown hK hP 23 rfl rfl 0 (by decide) (hts _ (List.mem_cons_of_mem _ wm_5_13)) (fun _ h9 => h9) rfl dX0_oneDay_86 ?_
            refine va_get (D := (dC, dI)) (ci := 3) (v := .ref (m_g 5)) (C := RX3) (T := TX3) (N := 20) hx hb hts (g_c inlX3) hown hK hP 25 rfl rfl 5 (by decide) (hts _ (List.mem_cons_of_mem _ wm_37_3)) (fun _ h9 => h9) rfl dX0_oneDay_89 ?_
            refine lv_iload_n hx hb dX0_oneDay_92 rfl (lv_at hl 3 rfl) ?_
            obtain ⟨h_6, hf⟩ := ck_some hf
            refine va_iald hx hb hK hP 26 0 rfl rfl (inb_in h_6) dX0_oneDay_93 ?_
            refine lv_iload_n hx hb dX0_oneDay_94 rfl (lv_at hl 0 rfl) ?_
            refine lv_ineg hx hb dX0_oneDay_95 ?_
            obtain ⟨o_7, ho_7, hf⟩ := bd_some hf
            obtain ⟨o_7_0, o_7_1⟩ := o_7
            have hf := un2_some hf
            refine ux_Vv (n := 4) (As := [.ref h_d, .int (v_g_passTo x2.toNatClampNeg), .int (v_g_passFrom x2.toNatClampNeg), .int (-o_2)]) (rest := []) (wc := [(h_c, .inr (0, oX0 m_c h_g h_p v_c_pumped v_c_today)), (m_c 6, .inl (cyI, 12, .inl v_c_water)), (m_c 7, .inl (cyJ, 12, .inr (.inl v_c_salt))), (h_d, .inr (1, oX1 m_d v_d_day)), (m_d 1, .inl (cyI, 12, .inl v_d_water)), (m_d 2, .inl (cyJ, 12, .inr (.inl v_d_salt)))]) (wr := [_, _, _, _, _, _, _, _, _, _, _, _, _, _, _, _, _, _, _, _, _, _, _, _]) ⟨hx, hb, hml, hown, hts⟩ hK hP hD hS hA hE [23, 1, 2, 15, 16, 17] [0, 3, 4, 5, 6, 7, 8, 9, 10, 11, 12, 13, 14, 18, 19, 20, 21, 22, 24, 25, 26, 27, 28, 29] (sg_h [(23, 1), (1, 2), (15, 3)] 30 rfl sk_z13_48 rfl) (sg_h [(0, 1), (3, 12), (18, 5), (24, 6)] 30 rfl sk_z13_49 rfl) nd_z13_47 nd_z13_48 nj_z13_17 (c_X0_move l dC dI cyI cyJ cyZ cyB cyO tO vF adK adV h_c m_c h_g m_g h_p m_p h_d m_d v_c_pumped v_c_today v_c_water v_c_salt v_d_day v_d_water v_d_salt (v_g_passTo x2.toNatClampNeg) (v_g_passFrom x2.toNatClampNeg) (-o_2) _ _ ho_7) 0 0 rfl rfl wm_38_20 wm_38_21 wm_38_22 wm_2_6 wm_38_23 ⟨rfl, rfl⟩ (by decide +kernel) rfl ⟨Nat.le_of_ble_eq_true rfl, Nat.le_of_ble_eq_true rfl⟩ hl.1 rfl (Nat.le_of_ble_eq_true rfl) dX0_oneDay_96 ⟨Nat.le_of_ble_eq_true rfl, Nat.le_of_ble_eq_true rfl⟩ (fun H locs hP hD hS => ?_)
            have hP : va_P (dC, dI) vwCl [_, _, _, _, _, _, _, _, _, _, _, _, _, _, _, _, _, _, _, _, _, _, _, _, (h_c, .inr (0, oX0 m_c h_g h_p v_c_pumped v_c_today)), (m_c 6, .inl (cyI, 12, .inl v_c_water)), (m_c 7, .inl (cyJ, 12, .inr (.inl v_c_salt))), (h_d, .inr (1, oX1 m_d v_d_day)), (m_d 1, .inl (cyI, 12, .inl o_7_0)), (m_d 2, .inl (cyJ, 12, .inr (.inl o_7_1)))] H := hP
            have hD : va_D A [_, _, _, _, _, _, _, _, _, _, _, _, _, _, _, _, _, _, _, _, _, _, _, _, (h_c, .inr (0, oX0 m_c h_g h_p v_c_pumped v_c_today)), (m_c 6, .inl (cyI, 12, .inl v_c_water)), (m_c 7, .inl (cyJ, 12, .inr (.inl v_c_salt))), (h_d, .inr (1, oX1 m_d v_d_day)), (m_d 1, .inl (cyI, 12, .inl o_7_0)), (m_d 2, .inl (cyJ, 12, .inr (.inl o_7_1)))] := hD
            refine lv_iinc (v := x2 + (1 : Int32)) (lv' := [(2, .int (x2 + (1 : Int32))), (3, .int o_2), (0, .ref h_c), (1, .ref h_d)]) hx hb dX0_oneDay_99 hl (k := 3) rfl rfl (by decide) rfl (fun ls hl => ?_)
            refine lv_goto (tgt := 22) hx hb dX0_oneDay_102 (by decide) ?_
            exact ih _ _ _ _ _ _ _ _ _ _ _ _ _ _ _ _ hf _ _ _ (hP.sub [24, 0, 18, 25, 26, 1, 19, 2, 20, 21, 3, 4, 5, 6, 7, 8, 9, 22, 10, 23, 11, 12, 27, 28, 29, 13, 14, 15, 16, 17] (ux_pick (sg_h [(24, 1), (0, 1), (18, 1), (25, 2), (1, 1), (19, 1), (2, 1), (20, 2), (3, 7), (22, 1), (10, 1), (23, 1), (11, 2), (27, 3), (13, 5)] 30 rfl sk_z13_50 rfl))) (hD.sub [24, 0, 18, 25, 26, 1, 19, 2, 20, 21, 3, 4, 5, 6, 7, 8, 9, 22, 10, 23, 11, 12, 27, 28, 29, 13, 14, 15, 16, 17] nd_z13_49 (sg_h [(24, 1), (0, 1), (18, 1), (25, 2), (1, 1), (19, 1), (2, 1), (20, 2), (3, 7), (22, 1), (10, 1), (23, 1), (11, 2), (27, 3), (13, 5)] 30 rfl sk_z13_50 rfl)) hS (lv_sub hl [2, 3, 0] rfl)
        · have hf := (if_neg c_3).symm.trans hf
          refine lv_aload_n hx hb dX0_oneDay_43 rfl (lv_at hl 1 rfl) ?_
          refine lv_aload_n hx hb dX0_oneDay_44 rfl (lv_at hl 2 rfl) ?_
          refine lv_aload_n hx hb dX0_oneDay_45 rfl (lv_at hl 1 rfl) ?_
          refine va_get (D := (dC, dI)) (ci := 0) (v := .ref h_g) (C := RX0) (T := TX0) (N := 9) hx hb hts (g_c inlX0) hown hK hP 23 rfl rfl 0 (by decide) (hts _ (List.mem_cons_of_mem _ wm_5_13)) (fun _ h9 => h9) rfl dX0_oneDay_46 ?_
          refine va_get (D := (dC, dI)) (ci := 3) (v := .ref (m_g 5)) (C := RX3) (T := TX3) (N := 20) hx hb hts (g_c inlX3) hown hK hP 25 rfl rfl 5 (by decide) (hts _ (List.mem_cons_of_mem _ wm_37_3)) (fun _ h9 => h9) rfl dX0_oneDay_49 ?_
          refine lv_iload_n hx hb dX0_oneDay_52 rfl (lv_at hl 3 rfl) ?_
          obtain ⟨h_8, hf⟩ := ck_some hf
          refine va_iald hx hb hK hP 26 0 rfl rfl (inb_in h_8) dX0_oneDay_53 ?_
          refine lv_aload_n hx hb dX0_oneDay_54 rfl (lv_at hl 1 rfl) ?_
          refine va_get (D := (dC, dI)) (ci := 0) (v := .ref h_g) (C := RX0) (T := TX0) (N := 9) hx hb hts (g_c inlX0) hown hK hP 23 rfl rfl 0 (by decide) (hts _ (List.mem_cons_of_mem _ wm_5_13)) (fun _ h9 => h9) rfl dX0_oneDay_55 ?_
          refine va_get (D := (dC, dI)) (ci := 3) (v := .ref (m_g 6)) (C := RX3) (T := TX3) (N := 20) hx hb hts (g_c inlX3) hown hK hP 25 rfl rfl 6 (by decide) (hts _ (List.mem_cons_of_mem _ wm_37_4)) (fun _ h9 => h9) rfl dX0_oneDay_58 ?_
          refine lv_iload_n hx hb dX0_oneDay_61 rfl (lv_at hl 3 rfl) ?_
          obtain ⟨h_9, hf⟩ := ck_some hf
          refine va_iald hx hb hK hP 27 0 rfl rfl (inb_in h_9) dX0_oneDay_62 ?_
          refine lv_iload_n hx hb dX0_oneDay_63 rfl (lv_at hl 0 rfl) ?_
          obtain ⟨o_10, ho_10, hf⟩ := bd_some hf
          obtain ⟨o_10_0, o_10_1⟩ := o_10
          have hf := un2_some hf
          refine ux_Vv (n := 4) (As := [.ref h_d, .int (v_g_passFrom x2.toNatClampNeg), .int (v_g_passTo x2.toNatClampNeg), .int o_2]) (rest := []) (wc := [(h_c, .inr (0, oX0 m_c h_g h_p v_c_pumped v_c_today)), (m_c 6, .inl (cyI, 12, .inl v_c_water)), (m_c 7, .inl (cyJ, 12, .inr (.inl v_c_salt))), (h_d, .inr (1, oX1 m_d v_d_day)), (m_d 1, .inl (cyI, 12, .inl v_d_water)), (m_d 2, .inl (cyJ, 12, .inr (.inl v_d_salt)))]) (wr := [_, _, _, _, _, _, _, _, _, _, _, _, _, _, _, _, _, _, _, _, _, _, _, _]) ⟨hx, hb, hml, hown, hts⟩ hK hP hD hS hA hE [23, 1, 2, 15, 16, 17] [0, 3, 4, 5, 6, 7, 8, 9, 10, 11, 12, 13, 14, 18, 19, 20, 21, 22, 24, 25, 26, 27, 28, 29] (sg_h [(23, 1), (1, 2), (15, 3)] 30 rfl sk_z13_48 rfl) (sg_h [(0, 1), (3, 12), (18, 5), (24, 6)] 30 rfl sk_z13_49 rfl) nd_z13_47 nd_z13_48 nj_z13_17 (c_X0_move l dC dI cyI cyJ cyZ cyB cyO tO vF adK adV h_c m_c h_g m_g h_p m_p h_d m_d v_c_pumped v_c_today v_c_water v_c_salt v_d_day v_d_water v_d_salt (v_g_passFrom x2.toNatClampNeg) (v_g_passTo x2.toNatClampNeg) o_2 _ _ ho_10) 0 0 rfl rfl wm_38_20 wm_38_21 wm_38_22 wm_2_6 wm_38_23 ⟨rfl, rfl⟩ (by decide +kernel) rfl ⟨Nat.le_of_ble_eq_true rfl, Nat.le_of_ble_eq_true rfl⟩ hl.1 rfl (Nat.le_of_ble_eq_true rfl) dX0_oneDay_64 ⟨Nat.le_of_ble_eq_true rfl, Nat.le_of_ble_eq_true rfl⟩ (fun H locs hP hD hS => ?_)
          have hP : va_P (dC, dI) vwCl [_, _, _, _, _, _, _, _, _, _, _, _, _, _, _, _, _, _, _, _, _, _, _, _, (h_c, .inr (0, oX0 m_c h_g h_p v_c_pumped v_c_today)), (m_c 6, .inl (cyI, 12, .inl v_c_water)), (m_c 7, .inl (cyJ, 12, .inr (.inl v_c_salt))), (h_d, .inr (1, oX1 m_d v_d_day)), (m_d 1, .inl (cyI, 12, .inl o_10_0)), (m_d 2, .inl (cyJ, 12, .inr (.inl o_10_1)))] H := hP
          have hD : va_D A [_, _, _, _, _, _, _, _, _, _, _, _, _, _, _, _, _, _, _, _, _, _, _, _, (h_c, .inr (0, oX0 m_c h_g h_p v_c_pumped v_c_today)), (m_c 6, .inl (cyI, 12, .inl v_c_water)), (m_c 7, .inl (cyJ, 12, .inr (.inl v_c_salt))), (h_d, .inr (1, oX1 m_d v_d_day)), (m_d 1, .inl (cyI, 12, .inl o_10_0)), (m_d 2, .inl (cyJ, 12, .inr (.inl o_10_1)))] := hD
          refine lv_goto (tgt := 99) hx hb dX0_oneDay_67 (by decide) ?_
          refine lv_iinc (v := x2 + (1 : Int32)) (lv' := [(2, .int (x2 + (1 : Int32))), (3, .int o_2), (0, .ref h_c), (1, .ref h_d)]) hx hb dX0_oneDay_99 hl (k := 3) rfl rfl (by decide) rfl (fun ls hl => ?_)
          refine lv_goto (tgt := 22) hx hb dX0_oneDay_102 (by decide) ?_
          exact ih _ _ _ _ _ _ _ _ _ _ _ _ _ _ _ _ hf _ _ _ (hP.sub [24, 0, 18, 25, 26, 1, 19, 2, 20, 21, 3, 4, 5, 6, 7, 8, 9, 22, 10, 23, 11, 12, 27, 28, 29, 13, 14, 15, 16, 17] (ux_pick (sg_h [(24, 1), (0, 1), (18, 1), (25, 2), (1, 1), (19, 1), (2, 1), (20, 2), (3, 7), (22, 1), (10, 1), (23, 1), (11, 2), (27, 3), (13, 5)] 30 rfl sk_z13_50 rfl))) (hD.sub [24, 0, 18, 25, 26, 1, 19, 2, 20, 21, 3, 4, 5, 6, 7, 8, 9, 22, 10, 23, 11, 12, 27, 28, 29, 13, 14, 15, 16, 17] nd_z13_49 (sg_h [(24, 1), (0, 1), (18, 1), (25, 2), (1, 1), (19, 1), (2, 1), (20, 2), (3, 7), (22, 1), (10, 1), (23, 1), (11, 2), (27, 3), (13, 5)] 30 rfl sk_z13_50 rfl)) hS (lv_sub hl [2, 3, 0] rfl)
  unfold f_X0_oneDay at hf
  refine lv_aload_n hx hb dX0_oneDay_0 rfl (lv_at hl 0 rfl) ?_
  refine lv_aload_n hx hb dX0_oneDay_1 rfl (lv_at hl 1 rfl) ?_
  obtain ⟨o_1, ho_1, hf⟩ := bd_some hf
  obtain ⟨o_1_0, o_1_1, o_1_2⟩ := o_1
  have hf := un3_some hf
  refine ux_Vv (n := 1) (As := [.ref h_d]) (rest := []) (wc := [(h_c, .inr (0, oX0 m_c h_g h_p v_c_pumped v_c_today)), (h_g, .inr (3, oX3 m_g v_g_cells v_g_passes v_g_rivers v_g_villages v_g_rains)), (m_g 1, .inl (cyI, 12, .inl v_g_room)), (h_p, .inr (4, oX4 m_p v_p_pumpCell v_p_pumpTakes v_p_pumpFrom v_p_pumpTo)), (m_p 3, .inl (cyI, 14, .inl v_p_rain)), (h_d, .inr (1, oX1 m_d v_d_day)), (m_d 1, .inl (cyI, 12, .inl v_d_water)), (m_d 3, .inl (cyI, 12, .inl v_d_seen))]) (wr := [_, _, _, _, _, _, _, _, _, _, _, _, _, _, _, _, _, _, _, _, _, _]) ⟨hx, hb, hml, hown, hts⟩ hK hP hD hS hA hE [0, 6, 7, 17, 21, 22, 23, 25] [1, 2, 3, 4, 5, 8, 9, 10, 11, 12, 13, 14, 15, 16, 18, 19, 20, 24, 26, 27, 28, 29] (sg_h [(0, 1), (6, 2), (17, 1), (21, 3), (25, 1)] 30 rfl sk_z13_51 rfl) (sg_h [(1, 5), (8, 9), (18, 3), (24, 1), (26, 4)] 30 rfl sk_z13_52 rfl) nd_z13_50 nd_z13_51 nj_z13_18 (c_X0_morning l dC dI cyI cyJ cyZ cyB cyO tO vF adK adV h_c m_c h_g m_g h_p m_p h_d m_d v_c_pumped v_c_today v_g_cells v_g_passes v_g_rivers v_g_villages v_g_rains v_g_room v_p_pumpCell v_p_pumpTakes v_p_pumpFrom v_p_pumpTo v_p_rain v_d_day v_d_water v_d_seen _ _ ho_1) 0 0 rfl rfl wm_37_6 wm_33_20 wm_33_21 wm_2_6 wm_33_22 ⟨rfl, rfl⟩ (by decide +kernel) rfl ⟨Nat.le_of_ble_eq_true rfl, Nat.le_of_ble_eq_true rfl⟩ hl.1 rfl (Nat.le_of_ble_eq_true rfl) dX0_oneDay_2 ⟨Nat.le_of_ble_eq_true rfl, Nat.le_of_ble_eq_true rfl⟩ (fun H locs hP hD hS => ?_)
  have hP : va_P (dC, dI) vwCl [_, _, _, _, _, _, _, _, _, _, _, _, _, _, _, _, _, _, _, _, _, _, (h_c, .inr (0, oX0 m_c h_g h_p v_c_pumped o_1_0)), (h_g, .inr (3, oX3 m_g v_g_cells v_g_passes v_g_rivers v_g_villages v_g_rains)), (m_g 1, .inl (cyI, 12, .inl v_g_room)), (h_p, .inr (4, oX4 m_p v_p_pumpCell v_p_pumpTakes v_p_pumpFrom v_p_pumpTo)), (m_p 3, .inl (cyI, 14, .inl v_p_rain)), (h_d, .inr (1, oX1 m_d v_d_day)), (m_d 1, .inl (cyI, 12, .inl o_1_1)), (m_d 3, .inl (cyI, 12, .inl o_1_2))] H := hP
  have hD : va_D A [_, _, _, _, _, _, _, _, _, _, _, _, _, _, _, _, _, _, _, _, _, _, (h_c, .inr (0, oX0 m_c h_g h_p v_c_pumped o_1_0)), (h_g, .inr (3, oX3 m_g v_g_cells v_g_passes v_g_rivers v_g_villages v_g_rains)), (m_g 1, .inl (cyI, 12, .inl v_g_room)), (h_p, .inr (4, oX4 m_p v_p_pumpCell v_p_pumpTakes v_p_pumpFrom v_p_pumpTo)), (m_p 3, .inl (cyI, 14, .inl v_p_rain)), (h_d, .inr (1, oX1 m_d v_d_day)), (m_d 1, .inl (cyI, 12, .inl o_1_1)), (m_d 3, .inl (cyI, 12, .inl o_1_2))] := hD
  refine lv_aload_n hx hb dX0_oneDay_5 rfl (lv_at hl 0 rfl) ?_
  refine lv_aload_n hx hb dX0_oneDay_6 rfl (lv_at hl 1 rfl) ?_
  obtain ⟨o_2, ho_2, hf⟩ := bd_some hf
  obtain ⟨o_2_0, o_2_1, o_2_2, o_2_3, o_2_4, o_2_5, o_2_6, o_2_7⟩ := o_2
  have hf := un8_some hf
  refine ux_Vv (n := 1) (As := [.ref h_d]) (rest := []) (wc := [(h_c, .inr (0, oX0 m_c h_g h_p v_c_pumped o_1_0)), (m_c 2, .inl (cyZ, 6, .inl v_c_lacked)), (m_c 8, .inl (cyI, 16, .inl v_c_stack)), (h_g, .inr (3, oX3 m_g v_g_cells v_g_passes v_g_rivers v_g_villages v_g_rains)), (m_g 14, .inl (cyI, 6, .inl v_g_villageCell)), (m_g 15, .inl (cyI, 6, .inl v_g_need)), (m_g 16, .inl (cyI, 6, .inl v_g_lawEnd)), (m_g 17, .inl (cyI, 400, .inl v_g_code)), (h_p, .inr (4, oX4 m_p v_p_pumpCell v_p_pumpTakes v_p_pumpFrom v_p_pumpTo)), (m_p 0, .inl (cyI, 6, .inl v_p_wanting)), (h_d, .inr (1, oX1 m_d v_d_day)), (m_d 1, .inl (cyI, 12, .inl o_1_1)), (m_d 2, .inl (cyJ, 12, .inr (.inl v_d_salt))), (m_d 3, .inl (cyI, 12, .inl o_1_2)), (m_d 4, .inl (cyI, 6, .inl v_d_took)), (m_d 5, .inl (cyI, 6, .inl v_d_dryDays)), (m_d 6, .inl (cyI, 6, .inl v_d_firstDry)), (m_d 7, .inl (cyI, 6, .inl v_d_total))]) (wr := [_, _, _, _, _, _, _, _, _, _, _, _]) ⟨hx, hb, hml, hown, hts⟩ hK hP hD hS hA hE [22, 0, 4, 23, 10, 11, 12, 13, 25, 14, 27, 28, 17, 29, 18, 19, 20, 21] [1, 2, 3, 5, 6, 7, 8, 9, 15, 16, 24, 26] (sg_h [(22, 1), (0, 1), (4, 1), (23, 1), (10, 4), (25, 1), (14, 1), (27, 2), (17, 1), (29, 1), (18, 4)] 30 rfl sk_z13_53 rfl) (sg_h [(1, 3), (5, 5), (15, 2), (24, 1), (26, 1)] 30 rfl sk_z13_54 rfl) nd_z13_52 nd_z13_53 nj_z13_19 (c_X0_takeTurns l dC dI cyI cyJ cyZ cyB cyO tO vF adK adV h_c m_c h_g m_g h_p m_p h_d m_d v_c_pumped o_1_0 v_c_lacked v_c_stack v_g_cells v_g_passes v_g_rivers v_g_villages v_g_rains v_g_villageCell v_g_need v_g_lawEnd v_g_code v_p_pumpCell v_p_pumpTakes v_p_pumpFrom v_p_pumpTo v_p_wanting v_d_day o_1_1 v_d_salt o_1_2 v_d_took v_d_dryDays v_d_firstDry v_d_total _ _ ho_2) 0 0 rfl rfl wm_37_7 wm_37_8 wm_37_9 wm_2_6 wm_37_10 ⟨rfl, rfl⟩ (by decide +kernel) rfl ⟨Nat.le_of_ble_eq_true rfl, Nat.le_of_ble_eq_true rfl⟩ hl.1 rfl (Nat.le_of_ble_eq_true rfl) dX0_oneDay_7 ⟨Nat.le_of_ble_eq_true rfl, Nat.le_of_ble_eq_true rfl⟩ (fun H locs hP hD hS => ?_)
  have hP : va_P (dC, dI) vwCl [_, _, _, _, _, _, _, _, _, _, _, _, (h_c, .inr (0, oX0 m_c h_g h_p v_c_pumped o_1_0)), (m_c 2, .inl (cyZ, 6, .inl o_2_0)), (m_c 8, .inl (cyI, 16, .inl o_2_1)), (h_g, .inr (3, oX3 m_g v_g_cells v_g_passes v_g_rivers v_g_villages v_g_rains)), (m_g 14, .inl (cyI, 6, .inl v_g_villageCell)), (m_g 15, .inl (cyI, 6, .inl v_g_need)), (m_g 16, .inl (cyI, 6, .inl v_g_lawEnd)), (m_g 17, .inl (cyI, 400, .inl v_g_code)), (h_p, .inr (4, oX4 m_p v_p_pumpCell v_p_pumpTakes v_p_pumpFrom v_p_pumpTo)), (m_p 0, .inl (cyI, 6, .inl v_p_wanting)), (h_d, .inr (1, oX1 m_d v_d_day)), (m_d 1, .inl (cyI, 12, .inl o_2_2)), (m_d 2, .inl (cyJ, 12, .inr (.inl o_2_3))), (m_d 3, .inl (cyI, 12, .inl o_1_2)), (m_d 4, .inl (cyI, 6, .inl o_2_4)), (m_d 5, .inl (cyI, 6, .inl o_2_5)), (m_d 6, .inl (cyI, 6, .inl o_2_6)), (m_d 7, .inl (cyI, 6, .inl o_2_7))] H := hP
  have hD : va_D A [_, _, _, _, _, _, _, _, _, _, _, _, (h_c, .inr (0, oX0 m_c h_g h_p v_c_pumped o_1_0)), (m_c 2, .inl (cyZ, 6, .inl o_2_0)), (m_c 8, .inl (cyI, 16, .inl o_2_1)), (h_g, .inr (3, oX3 m_g v_g_cells v_g_passes v_g_rivers v_g_villages v_g_rains)), (m_g 14, .inl (cyI, 6, .inl v_g_villageCell)), (m_g 15, .inl (cyI, 6, .inl v_g_need)), (m_g 16, .inl (cyI, 6, .inl v_g_lawEnd)), (m_g 17, .inl (cyI, 400, .inl v_g_code)), (h_p, .inr (4, oX4 m_p v_p_pumpCell v_p_pumpTakes v_p_pumpFrom v_p_pumpTo)), (m_p 0, .inl (cyI, 6, .inl v_p_wanting)), (h_d, .inr (1, oX1 m_d v_d_day)), (m_d 1, .inl (cyI, 12, .inl o_2_2)), (m_d 2, .inl (cyJ, 12, .inr (.inl o_2_3))), (m_d 3, .inl (cyI, 12, .inl o_1_2)), (m_d 4, .inl (cyI, 6, .inl o_2_4)), (m_d 5, .inl (cyI, 6, .inl o_2_5)), (m_d 6, .inl (cyI, 6, .inl o_2_6)), (m_d 7, .inl (cyI, 6, .inl o_2_7))] := hD
  refine lv_aload_n hx hb dX0_oneDay_10 rfl (lv_at hl 0 rfl) ?_
  refine lv_aload_n hx hb dX0_oneDay_11 rfl (lv_at hl 1 rfl) ?_
  obtain ⟨o_3, ho_3, hf⟩ := bd_some hf
  obtain ⟨o_3_0, o_3_1, o_3_2⟩ := o_3
  have hf := un3_some hf
  refine ux_Vv (n := 1) (As := [.ref h_d]) (rest := []) (wc := [(h_c, .inr (0, oX0 m_c h_g h_p v_c_pumped o_1_0)), (h_p, .inr (4, oX4 m_p v_p_pumpCell v_p_pumpTakes v_p_pumpFrom v_p_pumpTo)), (h_d, .inr (1, oX1 m_d v_d_day)), (m_d 1, .inl (cyI, 12, .inl o_2_2)), (m_d 2, .inl (cyJ, 12, .inr (.inl o_2_3)))]) (wr := [_, _, _, _, _, _, _, _, _, _, _, _, _, _, _, _, _, _, _, _, _, _, _, _, _]) ⟨hx, hb, hml, hown, hts⟩ hK hP hD hS hA hE [12, 20, 22, 23, 24] [0, 1, 2, 3, 4, 5, 6, 7, 8, 9, 10, 11, 13, 14, 15, 16, 17, 18, 19, 21, 25, 26, 27, 28, 29] (sg_h [(12, 1), (20, 1), (22, 3)] 30 rfl sk_z13_55 rfl) (sg_h [(0, 12), (13, 7), (21, 1), (25, 5)] 30 rfl sk_z13_56 rfl) nd_z13_54 nd_z13_55 nj_z13_20 (c_X0_takeByPump l dC dI cyI cyJ cyZ cyB cyO tO vF adK adV h_c m_c h_g m_g h_p m_p h_d m_d v_c_pumped o_1_0 v_p_pumpCell v_p_pumpTakes v_p_pumpFrom v_p_pumpTo v_d_day o_2_2 o_2_3 _ _ ho_3) 0 0 rfl rfl wm_38_0 wm_38_1 wm_38_2 wm_2_6 wm_38_3 ⟨rfl, rfl⟩ (by decide +kernel) rfl ⟨Nat.le_of_ble_eq_true rfl, Nat.le_of_ble_eq_true rfl⟩ hl.1 rfl (Nat.le_of_ble_eq_true rfl) dX0_oneDay_12 ⟨Nat.le_of_ble_eq_true rfl, Nat.le_of_ble_eq_true rfl⟩ (fun H locs hP hD hS => ?_)
  have hP : va_P (dC, dI) vwCl [_, _, _, _, _, _, _, _, _, _, _, _, _, _, _, _, _, _, _, _, _, _, _, _, _, (h_c, .inr (0, oX0 m_c h_g h_p o_3_0 o_1_0)), (h_p, .inr (4, oX4 m_p v_p_pumpCell v_p_pumpTakes v_p_pumpFrom v_p_pumpTo)), (h_d, .inr (1, oX1 m_d v_d_day)), (m_d 1, .inl (cyI, 12, .inl o_3_1)), (m_d 2, .inl (cyJ, 12, .inr (.inl o_3_2)))] H := hP
  have hD : va_D A [_, _, _, _, _, _, _, _, _, _, _, _, _, _, _, _, _, _, _, _, _, _, _, _, _, (h_c, .inr (0, oX0 m_c h_g h_p o_3_0 o_1_0)), (h_p, .inr (4, oX4 m_p v_p_pumpCell v_p_pumpTakes v_p_pumpFrom v_p_pumpTo)), (h_d, .inr (1, oX1 m_d v_d_day)), (m_d 1, .inl (cyI, 12, .inl o_3_1)), (m_d 2, .inl (cyJ, 12, .inr (.inl o_3_2)))] := hD
  refine lv_aload_n hx hb dX0_oneDay_15 rfl (lv_at hl 0 rfl) ?_
  refine lv_aload_n hx hb dX0_oneDay_16 rfl (lv_at hl 1 rfl) ?_
  obtain ⟨o_4, ho_4, hf⟩ := bd_some hf
  obtain ⟨o_4_0, o_4_1, o_4_2⟩ := o_4
  have hf := un3_some hf
  refine ux_Vv (n := 1) (As := [.ref h_d]) (rest := []) (wc := [(h_c, .inr (0, oX0 m_c h_g h_p o_3_0 o_1_0)), (m_c 5, .inl (cyI, 12, .inl v_c_level)), (m_c 6, .inl (cyI, 12, .inl v_c_water)), (m_c 7, .inl (cyJ, 12, .inr (.inl v_c_salt))), (h_g, .inr (3, oX3 m_g v_g_cells v_g_passes v_g_rivers v_g_villages v_g_rains)), (m_g 1, .inl (cyI, 12, .inl v_g_room)), (h_d, .inr (1, oX1 m_d v_d_day)), (m_d 1, .inl (cyI, 12, .inl o_3_1)), (m_d 2, .inl (cyJ, 12, .inr (.inl o_3_2)))]) (wr := [_, _, _, _, _, _, _, _, _, _, _, _, _, _, _, _, _, _, _, _, _]) ⟨hx, hb, hml, hown, hts⟩ hK hP hD hS hA hE [25, 0, 1, 2, 14, 10, 27, 28, 29] [3, 4, 5, 6, 7, 8, 9, 11, 12, 13, 15, 16, 17, 18, 19, 20, 21, 22, 23, 24, 26] (sg_h [(25, 1), (0, 3), (14, 1), (10, 1), (27, 3)] 30 rfl sk_z13_57 rfl) (sg_h [(3, 7), (11, 3), (15, 10), (26, 1)] 30 rfl sk_z13_58 rfl) nd_z13_56 nd_z13_57 nj_z13_21 (c_X0_lookAtLevels l dC dI cyI cyJ cyZ cyB cyO tO vF adK adV h_c m_c h_g m_g h_p m_p h_d m_d o_3_0 o_1_0 v_c_level v_c_water v_c_salt v_g_cells v_g_passes v_g_rivers v_g_villages v_g_rains v_g_room v_d_day o_3_1 o_3_2 _ _ ho_4) 0 0 rfl rfl wm_38_10 wm_38_11 wm_38_12 wm_2_6 wm_38_13 ⟨rfl, rfl⟩ (by decide +kernel) rfl ⟨Nat.le_of_ble_eq_true rfl, Nat.le_of_ble_eq_true rfl⟩ hl.1 rfl (Nat.le_of_ble_eq_true rfl) dX0_oneDay_17 ⟨Nat.le_of_ble_eq_true rfl, Nat.le_of_ble_eq_true rfl⟩ (fun H locs hP hD hS => ?_)
  have hP : va_P (dC, dI) vwCl [_, _, _, _, _, _, _, _, _, _, _, _, _, _, _, _, _, _, _, _, _, (h_c, .inr (0, oX0 m_c h_g h_p o_3_0 o_1_0)), (m_c 5, .inl (cyI, 12, .inl o_4_0)), (m_c 6, .inl (cyI, 12, .inl o_4_1)), (m_c 7, .inl (cyJ, 12, .inr (.inl o_4_2))), (h_g, .inr (3, oX3 m_g v_g_cells v_g_passes v_g_rivers v_g_villages v_g_rains)), (m_g 1, .inl (cyI, 12, .inl v_g_room)), (h_d, .inr (1, oX1 m_d v_d_day)), (m_d 1, .inl (cyI, 12, .inl o_3_1)), (m_d 2, .inl (cyJ, 12, .inr (.inl o_3_2)))] H := hP
  have hD : va_D A [_, _, _, _, _, _, _, _, _, _, _, _, _, _, _, _, _, _, _, _, _, (h_c, .inr (0, oX0 m_c h_g h_p o_3_0 o_1_0)), (m_c 5, .inl (cyI, 12, .inl o_4_0)), (m_c 6, .inl (cyI, 12, .inl o_4_1)), (m_c 7, .inl (cyJ, 12, .inr (.inl o_4_2))), (h_g, .inr (3, oX3 m_g v_g_cells v_g_passes v_g_rivers v_g_villages v_g_rains)), (m_g 1, .inl (cyI, 12, .inl v_g_room)), (h_d, .inr (1, oX1 m_d v_d_day)), (m_d 1, .inl (cyI, 12, .inl o_3_1)), (m_d 2, .inl (cyJ, 12, .inr (.inl o_3_2)))] := hD
  refine lv_iconst (v := (0 : Int32)) hx hb dX0_oneDay_20 (by decide) ?_
  refine lv_istore_n (lv' := [(2, .int (0 : Int32)), (0, .ref h_c), (1, .ref h_d)]) hx hb dX0_oneDay_21 rfl hl (by decide) rfl (fun ls hl => ?_)
  exact hb_22 _ _ _ _ _ _ _ _ _ _ _ _ _ _ _ _ _ hf _ _ _ (hP.sub [21, 8, 22, 23, 24, 9, 25, 26, 0, 1, 2, 3, 4, 10, 11, 12, 13, 20, 14, 5, 6, 7, 27, 28, 29, 15, 16, 17, 18, 19] (ux_pick (sg_h [(21, 1), (8, 1), (22, 3), (9, 1), (25, 2), (0, 5), (10, 4), (20, 1), (14, 1), (5, 3), (27, 3), (15, 5)] 30 rfl sk_z13_59 rfl))) (hD.sub [21, 8, 22, 23, 24, 9, 25, 26, 0, 1, 2, 3, 4, 10, 11, 12, 13, 20, 14, 5, 6, 7, 27, 28, 29, 15, 16, 17, 18, 19] nd_z13_58 (sg_h [(21, 1), (8, 1), (22, 3), (9, 1), (25, 2), (0, 5), (10, 4), (20, 1), (14, 1), (5, 3), (27, 3), (15, 5)] 30 rfl sk_z13_59 rfl)) hS (lv_sub hl [1, 2, 0] rfl)
