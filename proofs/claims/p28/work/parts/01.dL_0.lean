noncomputable def tL_law_84 : List Nat := 0 :: 3 :: 132 :: 3 :: 6 :: 167 :: 250 :: 205 :: 4 :: 172 :: []
noncomputable def tL_law_83 : List Nat := 46 :: 182 :: 0 :: 162 :: 87 :: 44 :: 42 :: 29 :: 4 :: 96 :: 46 :: 182 :: 0 :: 165 :: 87 :: 167 :: tL_law_84
noncomputable def tL_law_82 : List Nat := 29 :: 4 :: 96 :: 46 :: 182 :: 0 :: 161 :: 87 :: 167 :: 0 :: 26 :: 43 :: 42 :: 29 :: 4 :: 96 :: tL_law_83
noncomputable def tL_law_81 : List Nat := 87 :: 167 :: 0 :: 49 :: 43 :: 42 :: 29 :: 4 :: 96 :: 46 :: 182 :: 0 :: 158 :: 87 :: 44 :: 42 :: tL_law_82
noncomputable def tL_law_80 : List Nat := 4 :: 96 :: 46 :: 182 :: 0 :: 153 :: 87 :: 44 :: 42 :: 29 :: 4 :: 96 :: 46 :: 182 :: 0 :: 157 :: tL_law_81
noncomputable def tL_law_79 : List Nat := 46 :: 42 :: 29 :: 5 :: 96 :: 46 :: 182 :: 0 :: 152 :: 87 :: 167 :: 0 :: 72 :: 43 :: 42 :: 29 :: tL_law_80
noncomputable def tL_law_78 : List Nat := 96 :: 46 :: 42 :: 29 :: 5 :: 96 :: 46 :: 182 :: 0 :: 149 :: 87 :: 44 :: 42 :: 29 :: 4 :: 96 :: tL_law_79
noncomputable def tL_law_77 : List Nat := 42 :: 29 :: 7 :: 96 :: 46 :: 182 :: 0 :: 148 :: 87 :: 167 :: 0 :: 105 :: 43 :: 42 :: 29 :: 4 :: tL_law_78
noncomputable def tL_law_76 : List Nat := 44 :: 42 :: 29 :: 4 :: 96 :: 46 :: 42 :: 29 :: 5 :: 96 :: 46 :: 42 :: 29 :: 6 :: 96 :: 46 :: tL_law_77
noncomputable def tL_law_75 : List Nat := 96 :: 46 :: 42 :: 29 :: 6 :: 96 :: 46 :: 42 :: 29 :: 7 :: 96 :: 46 :: 182 :: 0 :: 145 :: 87 :: tL_law_76
noncomputable def tL_law_74 : List Nat := 182 :: 0 :: 144 :: 87 :: 167 :: 0 :: 158 :: 43 :: 42 :: 29 :: 4 :: 96 :: 46 :: 42 :: 29 :: 5 :: tL_law_75
noncomputable def tL_law_73 : List Nat := 46 :: 42 :: 29 :: 5 :: 96 :: 46 :: 42 :: 29 :: 6 :: 96 :: 46 :: 42 :: 29 :: 7 :: 96 :: 46 :: tL_law_74
noncomputable def tL_law_72 : List Nat := 96 :: 46 :: 42 :: 29 :: 7 :: 96 :: 46 :: 182 :: 0 :: 141 :: 87 :: 44 :: 42 :: 29 :: 4 :: 96 :: tL_law_73
noncomputable def tL_law_71 : List Nat := 0 :: 211 :: 43 :: 42 :: 29 :: 4 :: 96 :: 46 :: 42 :: 29 :: 5 :: 96 :: 46 :: 42 :: 29 :: 6 :: tL_law_72
noncomputable def tL_law_70 : List Nat := 44 :: 42 :: 29 :: 4 :: 96 :: 46 :: 42 :: 29 :: 5 :: 96 :: 46 :: 182 :: 0 :: 140 :: 87 :: 167 :: tL_law_71
noncomputable def tL_law_69 : List Nat := 244 :: 43 :: 42 :: 29 :: 4 :: 96 :: 46 :: 42 :: 29 :: 5 :: 96 :: 46 :: 182 :: 0 :: 137 :: 87 :: tL_law_70
noncomputable def tL_law_68 : List Nat := 42 :: 29 :: 4 :: 96 :: 46 :: 42 :: 29 :: 5 :: 96 :: 46 :: 182 :: 0 :: 136 :: 87 :: 167 :: 0 :: tL_law_69
noncomputable def tL_law_67 : List Nat := 43 :: 42 :: 29 :: 4 :: 96 :: 46 :: 42 :: 29 :: 5 :: 96 :: 46 :: 182 :: 0 :: 133 :: 87 :: 44 :: tL_law_68
noncomputable def tL_law_66 : List Nat := 0 :: 129 :: 87 :: 44 :: 42 :: 29 :: 4 :: 96 :: 46 :: 182 :: 0 :: 132 :: 87 :: 167 :: 1 :: 21 :: tL_law_67
noncomputable def tL_law_65 : List Nat := 44 :: 182 :: 0 :: 128 :: 159 :: 1 :: 46 :: 3 :: 172 :: 43 :: 42 :: 29 :: 4 :: 96 :: 46 :: 182 :: tL_law_66
noncomputable def tL_law_64 : List Nat := 42 :: 29 :: 6 :: 96 :: 46 :: 182 :: 0 :: 124 :: 87 :: 167 :: 1 :: 57 :: 43 :: 182 :: 0 :: 125 :: tL_law_65
noncomputable def tL_law_63 : List Nat := 46 :: 182 :: 0 :: 121 :: 87 :: 44 :: 42 :: 29 :: 4 :: 96 :: 46 :: 42 :: 29 :: 5 :: 96 :: 46 :: tL_law_64
noncomputable def tL_law_62 : List Nat := 100 :: 43 :: 42 :: 29 :: 4 :: 96 :: 46 :: 42 :: 29 :: 5 :: 96 :: 46 :: 42 :: 29 :: 6 :: 96 :: tL_law_63
noncomputable def tL_law_61 : List Nat := 42 :: 29 :: 5 :: 96 :: 46 :: 42 :: 29 :: 6 :: 96 :: 46 :: 182 :: 0 :: 120 :: 87 :: 167 :: 1 :: tL_law_62
noncomputable def tL_law_60 : List Nat := 46 :: 42 :: 29 :: 6 :: 96 :: 46 :: 182 :: 0 :: 117 :: 87 :: 44 :: 42 :: 29 :: 4 :: 96 :: 46 :: tL_law_61
noncomputable def tL_law_59 : List Nat := 0 :: 116 :: 87 :: 167 :: 1 :: 143 :: 43 :: 42 :: 29 :: 4 :: 96 :: 46 :: 42 :: 29 :: 5 :: 96 :: tL_law_60
noncomputable def tL_law_58 : List Nat := 42 :: 29 :: 4 :: 96 :: 46 :: 42 :: 29 :: 5 :: 96 :: 46 :: 42 :: 29 :: 6 :: 96 :: 46 :: 182 :: tL_law_59
noncomputable def tL_law_57 : List Nat := 46 :: 42 :: 29 :: 5 :: 96 :: 46 :: 42 :: 29 :: 6 :: 96 :: 46 :: 182 :: 0 :: 113 :: 87 :: 44 :: tL_law_58
noncomputable def tL_law_56 : List Nat := 0 :: 109 :: 87 :: 44 :: 182 :: 0 :: 112 :: 87 :: 167 :: 1 :: 186 :: 43 :: 42 :: 29 :: 4 :: 96 :: tL_law_57
noncomputable def tL_law_55 : List Nat := 212 :: 43 :: 182 :: 0 :: 105 :: 87 :: 44 :: 182 :: 0 :: 108 :: 87 :: 167 :: 1 :: 199 :: 43 :: 182 :: tL_law_56
noncomputable def tL_law_54 : List Nat := 42 :: 29 :: 4 :: 96 :: 46 :: 42 :: 29 :: 5 :: 96 :: 46 :: 182 :: 0 :: 104 :: 87 :: 167 :: 1 :: tL_law_55
noncomputable def tL_law_53 : List Nat := 43 :: 42 :: 29 :: 4 :: 96 :: 46 :: 42 :: 29 :: 5 :: 96 :: 46 :: 182 :: 0 :: 101 :: 87 :: 44 :: tL_law_54
noncomputable def tL_law_52 : List Nat := 29 :: 4 :: 96 :: 46 :: 42 :: 29 :: 5 :: 96 :: 46 :: 182 :: 0 :: 100 :: 87 :: 167 :: 1 :: 245 :: tL_law_53
noncomputable def tL_law_51 : List Nat := 42 :: 29 :: 4 :: 96 :: 46 :: 42 :: 29 :: 5 :: 96 :: 46 :: 182 :: 0 :: 97 :: 87 :: 44 :: 42 :: tL_law_52
noncomputable def tL_law_50 : List Nat := 93 :: 87 :: 44 :: 42 :: 29 :: 4 :: 96 :: 46 :: 182 :: 0 :: 96 :: 87 :: 167 :: 2 :: 22 :: 43 :: tL_law_51
noncomputable def tL_law_49 : List Nat := 46 :: 182 :: 0 :: 92 :: 87 :: 167 :: 2 :: 45 :: 43 :: 42 :: 29 :: 4 :: 96 :: 46 :: 182 :: 0 :: tL_law_50
noncomputable def tL_law_48 : List Nat := 68 :: 43 :: 42 :: 29 :: 4 :: 96 :: 46 :: 182 :: 0 :: 89 :: 87 :: 44 :: 42 :: 29 :: 4 :: 96 :: tL_law_49
noncomputable def tL_law_47 : List Nat := 42 :: 29 :: 4 :: 96 :: 46 :: 42 :: 29 :: 5 :: 96 :: 46 :: 182 :: 0 :: 88 :: 87 :: 167 :: 2 :: tL_law_48
noncomputable def tL_law_46 : List Nat := 43 :: 42 :: 29 :: 4 :: 96 :: 46 :: 42 :: 29 :: 5 :: 96 :: 46 :: 182 :: 0 :: 85 :: 87 :: 44 :: tL_law_47
noncomputable def tL_law_45 : List Nat := 0 :: 81 :: 87 :: 44 :: 42 :: 29 :: 4 :: 96 :: 46 :: 182 :: 0 :: 84 :: 87 :: 167 :: 2 :: 101 :: tL_law_46
noncomputable def tL_law_44 : List Nat := 96 :: 46 :: 182 :: 0 :: 80 :: 87 :: 167 :: 2 :: 124 :: 43 :: 42 :: 29 :: 4 :: 96 :: 46 :: 182 :: tL_law_45
noncomputable def tL_law_43 : List Nat := 4 :: 96 :: 46 :: 42 :: 29 :: 5 :: 96 :: 46 :: 42 :: 29 :: 6 :: 96 :: 46 :: 42 :: 29 :: 7 :: tL_law_44
noncomputable def tL_law_42 : List Nat := 29 :: 6 :: 96 :: 46 :: 42 :: 29 :: 7 :: 96 :: 46 :: 182 :: 0 :: 77 :: 87 :: 44 :: 42 :: 29 :: tL_law_43
noncomputable def tL_law_41 : List Nat := 87 :: 167 :: 2 :: 177 :: 43 :: 42 :: 29 :: 4 :: 96 :: 46 :: 42 :: 29 :: 5 :: 96 :: 46 :: 42 :: tL_law_42
noncomputable def tL_law_40 : List Nat := 5 :: 96 :: 46 :: 42 :: 29 :: 6 :: 96 :: 46 :: 42 :: 29 :: 7 :: 96 :: 46 :: 182 :: 0 :: 76 :: tL_law_41
noncomputable def tL_law_39 : List Nat := 29 :: 7 :: 96 :: 46 :: 182 :: 0 :: 72 :: 87 :: 44 :: 42 :: 29 :: 4 :: 96 :: 46 :: 42 :: 29 :: tL_law_40
noncomputable def tL_law_38 : List Nat := 42 :: 29 :: 4 :: 96 :: 46 :: 42 :: 29 :: 5 :: 96 :: 46 :: 42 :: 29 :: 6 :: 96 :: 46 :: 42 :: tL_law_39
noncomputable def tL_law_37 : List Nat := 5 :: 96 :: 46 :: 42 :: 29 :: 6 :: 96 :: 46 :: 182 :: 0 :: 71 :: 87 :: 167 :: 2 :: 230 :: 43 :: tL_law_38
noncomputable def tL_law_36 : List Nat := 29 :: 6 :: 96 :: 46 :: 182 :: 0 :: 67 :: 87 :: 44 :: 42 :: 29 :: 4 :: 96 :: 46 :: 42 :: 29 :: tL_law_37
noncomputable def tL_law_35 : List Nat := 87 :: 167 :: 3 :: 17 :: 43 :: 42 :: 29 :: 4 :: 96 :: 46 :: 42 :: 29 :: 5 :: 96 :: 46 :: 42 :: tL_law_36
noncomputable def tL_law_34 : List Nat := 63 :: 87 :: 44 :: 42 :: 29 :: 4 :: 96 :: 46 :: 42 :: 29 :: 5 :: 96 :: 46 :: 182 :: 0 :: 66 :: tL_law_35
noncomputable def tL_law_33 : List Nat := 167 :: 3 :: 50 :: 43 :: 42 :: 29 :: 4 :: 96 :: 46 :: 42 :: 29 :: 5 :: 96 :: 46 :: 182 :: 0 :: tL_law_34
noncomputable def tL_law_32 : List Nat := 87 :: 44 :: 42 :: 29 :: 4 :: 96 :: 46 :: 42 :: 29 :: 5 :: 96 :: 46 :: 182 :: 0 :: 62 :: 87 :: tL_law_33
noncomputable def tL_law_31 : List Nat := 3 :: 83 :: 43 :: 42 :: 29 :: 4 :: 96 :: 46 :: 42 :: 29 :: 5 :: 96 :: 46 :: 182 :: 0 :: 59 :: tL_law_32
noncomputable def tL_law_30 : List Nat := 44 :: 42 :: 29 :: 4 :: 96 :: 46 :: 42 :: 29 :: 5 :: 96 :: 46 :: 182 :: 0 :: 58 :: 87 :: 167 :: tL_law_31
noncomputable def tL_law_29 : List Nat := 116 :: 43 :: 42 :: 29 :: 4 :: 96 :: 46 :: 42 :: 29 :: 5 :: 96 :: 46 :: 182 :: 0 :: 54 :: 87 :: tL_law_30
noncomputable def tL_law_28 : List Nat := 96 :: 46 :: 153 :: 0 :: 7 :: 4 :: 167 :: 0 :: 4 :: 3 :: 182 :: 0 :: 53 :: 87 :: 167 :: 3 :: tL_law_29
noncomputable def tL_law_27 : List Nat := 0 :: 4 :: 3 :: 182 :: 0 :: 49 :: 87 :: 44 :: 42 :: 29 :: 4 :: 96 :: 46 :: 42 :: 29 :: 5 :: tL_law_28
noncomputable def tL_law_26 : List Nat := 43 :: 42 :: 29 :: 4 :: 96 :: 46 :: 42 :: 29 :: 5 :: 96 :: 46 :: 153 :: 0 :: 7 :: 4 :: 167 :: tL_law_27
noncomputable def tL_law_25 : List Nat := 0 :: 45 :: 87 :: 44 :: 42 :: 29 :: 4 :: 96 :: 46 :: 182 :: 0 :: 48 :: 87 :: 167 :: 3 :: 165 :: tL_law_26
noncomputable def tL_law_24 : List Nat := 96 :: 46 :: 182 :: 0 :: 44 :: 87 :: 167 :: 3 :: 188 :: 43 :: 42 :: 29 :: 4 :: 96 :: 46 :: 182 :: tL_law_25
noncomputable def tL_law_23 : List Nat := 3 :: 211 :: 43 :: 42 :: 29 :: 4 :: 96 :: 46 :: 182 :: 0 :: 41 :: 87 :: 44 :: 42 :: 29 :: 4 :: tL_law_24
noncomputable def tL_law_22 : List Nat := 44 :: 42 :: 29 :: 4 :: 96 :: 46 :: 42 :: 29 :: 5 :: 96 :: 46 :: 182 :: 0 :: 40 :: 87 :: 167 :: tL_law_23
noncomputable def tL_law_21 : List Nat := 244 :: 43 :: 42 :: 29 :: 4 :: 96 :: 46 :: 42 :: 29 :: 5 :: 96 :: 46 :: 182 :: 0 :: 37 :: 87 :: tL_law_22
noncomputable def tL_law_20 : List Nat := 42 :: 29 :: 4 :: 96 :: 46 :: 42 :: 29 :: 5 :: 96 :: 46 :: 182 :: 0 :: 36 :: 87 :: 167 :: 3 :: tL_law_21
noncomputable def tL_law_19 : List Nat := 43 :: 42 :: 29 :: 4 :: 96 :: 46 :: 42 :: 29 :: 5 :: 96 :: 46 :: 182 :: 0 :: 32 :: 87 :: 44 :: tL_law_20
noncomputable def tL_law_18 : List Nat := 167 :: 4 :: 34 :: 43 :: 182 :: 0 :: 28 :: 87 :: 44 :: 182 :: 0 :: 31 :: 87 :: 167 :: 4 :: 21 :: tL_law_19
noncomputable def tL_law_17 : List Nat := 0 :: 22 :: 87 :: 167 :: 4 :: 47 :: 43 :: 182 :: 0 :: 23 :: 87 :: 44 :: 182 :: 0 :: 27 :: 87 :: tL_law_18
noncomputable def tL_law_16 : List Nat := 42 :: 29 :: 4 :: 96 :: 46 :: 182 :: 0 :: 18 :: 87 :: 44 :: 42 :: 29 :: 4 :: 96 :: 46 :: 182 :: tL_law_17
noncomputable def tL_law_15 : List Nat := 7 :: 96 :: 46 :: 42 :: 29 :: 8 :: 96 :: 46 :: 182 :: 0 :: 17 :: 87 :: 167 :: 4 :: 70 :: 43 :: tL_law_16
noncomputable def tL_law_14 : List Nat := 29 :: 4 :: 96 :: 46 :: 42 :: 29 :: 5 :: 96 :: 46 :: 42 :: 29 :: 6 :: 96 :: 46 :: 42 :: 29 :: tL_law_15
noncomputable def tL_law_13 : List Nat := 42 :: 29 :: 7 :: 96 :: 46 :: 42 :: 29 :: 8 :: 96 :: 46 :: 182 :: 0 :: 13 :: 87 :: 44 :: 42 :: tL_law_14
noncomputable def tL_law_12 : List Nat := 43 :: 42 :: 29 :: 4 :: 96 :: 46 :: 42 :: 29 :: 5 :: 96 :: 46 :: 42 :: 29 :: 6 :: 96 :: 46 :: tL_law_13
noncomputable def tL_law_11 : List Nat := 0 :: 0 :: 4 :: 187 :: 0 :: 0 :: 4 :: 220 :: 0 :: 0 :: 4 :: 243 :: 0 :: 0 :: 5 :: 10 :: tL_law_12
noncomputable def tL_law_10 : List Nat := 0 :: 0 :: 4 :: 15 :: 0 :: 0 :: 4 :: 48 :: 0 :: 0 :: 4 :: 81 :: 0 :: 0 :: 4 :: 134 :: tL_law_11
noncomputable def tL_law_9 : List Nat := 0 :: 0 :: 3 :: 149 :: 0 :: 0 :: 3 :: 192 :: 0 :: 0 :: 3 :: 235 :: 0 :: 0 :: 3 :: 248 :: tL_law_10
noncomputable def tL_law_8 : List Nat := 0 :: 0 :: 3 :: 47 :: 0 :: 0 :: 3 :: 80 :: 0 :: 0 :: 3 :: 93 :: 0 :: 0 :: 3 :: 106 :: tL_law_9
noncomputable def tL_law_7 : List Nat := 0 :: 0 :: 2 :: 191 :: 0 :: 0 :: 2 :: 224 :: 0 :: 0 :: 2 :: 247 :: 0 :: 0 :: 3 :: 14 :: tL_law_8
noncomputable def tL_law_6 : List Nat := 0 :: 0 :: 2 :: 19 :: 0 :: 0 :: 2 :: 62 :: 0 :: 0 :: 2 :: 115 :: 0 :: 0 :: 2 :: 168 :: tL_law_7
noncomputable def tL_law_5 : List Nat := 0 :: 0 :: 1 :: 127 :: 0 :: 0 :: 1 :: 176 :: 0 :: 0 :: 1 :: 209 :: 0 :: 0 :: 1 :: 242 :: tL_law_6
noncomputable def tL_law_4 : List Nat := 0 :: 0 :: 1 :: 15 :: 0 :: 0 :: 1 :: 48 :: 0 :: 0 :: 1 :: 81 :: 0 :: 0 :: 1 :: 104 :: tL_law_5
noncomputable def tL_law_3 : List Nat := 0 :: 0 :: 0 :: 159 :: 0 :: 0 :: 0 :: 222 :: 0 :: 0 :: 0 :: 245 :: 0 :: 0 :: 1 :: 2 :: tL_law_4
noncomputable def tL_law_2 : List Nat := 126 :: 170 :: 0 :: 0 :: 0 :: 0 :: 5 :: 33 :: 0 :: 0 :: 0 :: 0 :: 0 :: 0 :: 0 :: 35 :: tL_law_3
noncomputable def tL_law_1 : List Nat := 3 :: 62 :: 29 :: 42 :: 190 :: 16 :: 6 :: 100 :: 163 :: 5 :: 48 :: 42 :: 29 :: 46 :: 16 :: 63 :: tL_law_2
noncomputable def tL_law_0 : List Nat := 187 :: 0 :: 7 :: 89 :: 183 :: 0 :: 9 :: 76 :: 187 :: 0 :: 10 :: 89 :: 183 :: 0 :: 12 :: 77 :: tL_law_1
theorem sL_law_0 : Rd cL_law 0 tL_law_0 := by decide +kernel
theorem sL_law_1 : Rd cL_law 16 tL_law_1 := rd_at 16 sL_law_0
theorem sL_law_2 : Rd cL_law 32 tL_law_2 := rd_at 16 sL_law_1
theorem sL_law_3 : Rd cL_law 48 tL_law_3 := rd_at 16 sL_law_2
theorem sL_law_4 : Rd cL_law 64 tL_law_4 := rd_at 16 sL_law_3
theorem sL_law_5 : Rd cL_law 80 tL_law_5 := rd_at 16 sL_law_4
theorem sL_law_6 : Rd cL_law 96 tL_law_6 := rd_at 16 sL_law_5
theorem sL_law_7 : Rd cL_law 112 tL_law_7 := rd_at 16 sL_law_6
theorem sL_law_8 : Rd cL_law 128 tL_law_8 := rd_at 16 sL_law_7
theorem sL_law_9 : Rd cL_law 144 tL_law_9 := rd_at 16 sL_law_8
theorem sL_law_10 : Rd cL_law 160 tL_law_10 := rd_at 16 sL_law_9
theorem sL_law_11 : Rd cL_law 176 tL_law_11 := rd_at 16 sL_law_10
theorem sL_law_12 : Rd cL_law 192 tL_law_12 := rd_at 16 sL_law_11
theorem sL_law_13 : Rd cL_law 208 tL_law_13 := rd_at 16 sL_law_12
theorem sL_law_14 : Rd cL_law 224 tL_law_14 := rd_at 16 sL_law_13
theorem sL_law_15 : Rd cL_law 240 tL_law_15 := rd_at 16 sL_law_14
theorem sL_law_16 : Rd cL_law 256 tL_law_16 := rd_at 16 sL_law_15
theorem sL_law_17 : Rd cL_law 272 tL_law_17 := rd_at 16 sL_law_16
theorem sL_law_18 : Rd cL_law 288 tL_law_18 := rd_at 16 sL_law_17
theorem sL_law_19 : Rd cL_law 304 tL_law_19 := rd_at 16 sL_law_18
theorem sL_law_20 : Rd cL_law 320 tL_law_20 := rd_at 16 sL_law_19
theorem sL_law_21 : Rd cL_law 336 tL_law_21 := rd_at 16 sL_law_20
theorem sL_law_22 : Rd cL_law 352 tL_law_22 := rd_at 16 sL_law_21
theorem sL_law_23 : Rd cL_law 368 tL_law_23 := rd_at 16 sL_law_22
theorem sL_law_24 : Rd cL_law 384 tL_law_24 := rd_at 16 sL_law_23
theorem sL_law_25 : Rd cL_law 400 tL_law_25 := rd_at 16 sL_law_24
theorem sL_law_26 : Rd cL_law 416 tL_law_26 := rd_at 16 sL_law_25
theorem sL_law_27 : Rd cL_law 432 tL_law_27 := rd_at 16 sL_law_26
theorem sL_law_28 : Rd cL_law 448 tL_law_28 := rd_at 16 sL_law_27
theorem sL_law_29 : Rd cL_law 464 tL_law_29 := rd_at 16 sL_law_28
theorem sL_law_30 : Rd cL_law 480 tL_law_30 := rd_at 16 sL_law_29
theorem sL_law_31 : Rd cL_law 496 tL_law_31 := rd_at 16 sL_law_30
theorem sL_law_32 : Rd cL_law 512 tL_law_32 := rd_at 16 sL_law_31
theorem sL_law_33 : Rd cL_law 528 tL_law_33 := rd_at 16 sL_law_32
theorem sL_law_34 : Rd cL_law 544 tL_law_34 := rd_at 16 sL_law_33
theorem sL_law_35 : Rd cL_law 560 tL_law_35 := rd_at 16 sL_law_34
theorem sL_law_36 : Rd cL_law 576 tL_law_36 := rd_at 16 sL_law_35
theorem sL_law_37 : Rd cL_law 592 tL_law_37 := rd_at 16 sL_law_36
theorem sL_law_38 : Rd cL_law 608 tL_law_38 := rd_at 16 sL_law_37
theorem sL_law_39 : Rd cL_law 624 tL_law_39 := rd_at 16 sL_law_38
theorem sL_law_40 : Rd cL_law 640 tL_law_40 := rd_at 16 sL_law_39
theorem sL_law_41 : Rd cL_law 656 tL_law_41 := rd_at 16 sL_law_40
theorem sL_law_42 : Rd cL_law 672 tL_law_42 := rd_at 16 sL_law_41
theorem sL_law_43 : Rd cL_law 688 tL_law_43 := rd_at 16 sL_law_42
theorem sL_law_44 : Rd cL_law 704 tL_law_44 := rd_at 16 sL_law_43
theorem sL_law_45 : Rd cL_law 720 tL_law_45 := rd_at 16 sL_law_44
theorem sL_law_46 : Rd cL_law 736 tL_law_46 := rd_at 16 sL_law_45
theorem sL_law_47 : Rd cL_law 752 tL_law_47 := rd_at 16 sL_law_46
theorem sL_law_48 : Rd cL_law 768 tL_law_48 := rd_at 16 sL_law_47
theorem sL_law_49 : Rd cL_law 784 tL_law_49 := rd_at 16 sL_law_48
theorem sL_law_50 : Rd cL_law 800 tL_law_50 := rd_at 16 sL_law_49
theorem sL_law_51 : Rd cL_law 816 tL_law_51 := rd_at 16 sL_law_50
theorem sL_law_52 : Rd cL_law 832 tL_law_52 := rd_at 16 sL_law_51
theorem sL_law_53 : Rd cL_law 848 tL_law_53 := rd_at 16 sL_law_52
theorem sL_law_54 : Rd cL_law 864 tL_law_54 := rd_at 16 sL_law_53
theorem sL_law_55 : Rd cL_law 880 tL_law_55 := rd_at 16 sL_law_54
theorem sL_law_56 : Rd cL_law 896 tL_law_56 := rd_at 16 sL_law_55
theorem sL_law_57 : Rd cL_law 912 tL_law_57 := rd_at 16 sL_law_56
theorem sL_law_58 : Rd cL_law 928 tL_law_58 := rd_at 16 sL_law_57
theorem sL_law_59 : Rd cL_law 944 tL_law_59 := rd_at 16 sL_law_58
theorem sL_law_60 : Rd cL_law 960 tL_law_60 := rd_at 16 sL_law_59
theorem sL_law_61 : Rd cL_law 976 tL_law_61 := rd_at 16 sL_law_60
theorem sL_law_62 : Rd cL_law 992 tL_law_62 := rd_at 16 sL_law_61
theorem sL_law_63 : Rd cL_law 1008 tL_law_63 := rd_at 16 sL_law_62
theorem sL_law_64 : Rd cL_law 1024 tL_law_64 := rd_at 16 sL_law_63
theorem sL_law_65 : Rd cL_law 1040 tL_law_65 := rd_at 16 sL_law_64
theorem sL_law_66 : Rd cL_law 1056 tL_law_66 := rd_at 16 sL_law_65
theorem sL_law_67 : Rd cL_law 1072 tL_law_67 := rd_at 16 sL_law_66
theorem sL_law_68 : Rd cL_law 1088 tL_law_68 := rd_at 16 sL_law_67
theorem sL_law_69 : Rd cL_law 1104 tL_law_69 := rd_at 16 sL_law_68
theorem sL_law_70 : Rd cL_law 1120 tL_law_70 := rd_at 16 sL_law_69
theorem sL_law_71 : Rd cL_law 1136 tL_law_71 := rd_at 16 sL_law_70
theorem sL_law_72 : Rd cL_law 1152 tL_law_72 := rd_at 16 sL_law_71
theorem sL_law_73 : Rd cL_law 1168 tL_law_73 := rd_at 16 sL_law_72
theorem sL_law_74 : Rd cL_law 1184 tL_law_74 := rd_at 16 sL_law_73
theorem sL_law_75 : Rd cL_law 1200 tL_law_75 := rd_at 16 sL_law_74
theorem sL_law_76 : Rd cL_law 1216 tL_law_76 := rd_at 16 sL_law_75
theorem sL_law_77 : Rd cL_law 1232 tL_law_77 := rd_at 16 sL_law_76
theorem sL_law_78 : Rd cL_law 1248 tL_law_78 := rd_at 16 sL_law_77
theorem sL_law_79 : Rd cL_law 1264 tL_law_79 := rd_at 16 sL_law_78
theorem sL_law_80 : Rd cL_law 1280 tL_law_80 := rd_at 16 sL_law_79
theorem sL_law_81 : Rd cL_law 1296 tL_law_81 := rd_at 16 sL_law_80
theorem sL_law_82 : Rd cL_law 1312 tL_law_82 := rd_at 16 sL_law_81
theorem sL_law_83 : Rd cL_law 1328 tL_law_83 := rd_at 16 sL_law_82
theorem sL_law_84 : Rd cL_law 1344 tL_law_84 := rd_at 16 sL_law_83
theorem dL_law_0 : decode cL_law 0 = .ok (.new 7, 3) := op_187 sL_law_0 rfl
theorem dL_law_3 : decode cL_law 3 = .ok (.dup, 1) := op_89 (rd_at 3 sL_law_0)
theorem dL_law_4 : decode cL_law 4 = .ok (.invokespecial 9, 3) := op_183 (rd_at 4 sL_law_0) rfl
theorem dL_law_7 : decode cL_law 7 = .ok (.astore_n 1, 1) := op_76 (rd_at 7 sL_law_0)
theorem dL_law_8 : decode cL_law 8 = .ok (.new 10, 3) := op_187 (rd_at 8 sL_law_0) rfl
theorem dL_law_11 : decode cL_law 11 = .ok (.dup, 1) := op_89 (rd_at 11 sL_law_0)
theorem dL_law_12 : decode cL_law 12 = .ok (.invokespecial 12, 3) := op_183 (rd_at 12 sL_law_0) rfl
theorem dL_law_15 : decode cL_law 15 = .ok (.astore_n 2, 1) := op_77 (rd_at 15 sL_law_0)
theorem dL_law_16 : decode cL_law 16 = .ok (.iconst 0, 1) := op_3 sL_law_1
theorem dL_law_17 : decode cL_law 17 = .ok (.istore_n 3, 1) := op_62 (rd_at 1 sL_law_1)
theorem dL_law_18 : decode cL_law 18 = .ok (.iload_n 3, 1) := op_29 (rd_at 2 sL_law_1)
theorem dL_law_19 : decode cL_law 19 = .ok (.aload_n 0, 1) := op_42 (rd_at 3 sL_law_1)
theorem dL_law_20 : decode cL_law 20 = .ok (.arraylength, 1) := op_190 (rd_at 4 sL_law_1)
theorem dL_law_21 : decode cL_law 21 = .ok (.bipush 6, 2) := op_16 (rd_at 5 sL_law_1) rfl
theorem dL_law_23 : decode cL_law 23 = .ok (.isub, 1) := op_100 (rd_at 7 sL_law_1)
theorem dL_law_24 : decode cL_law 24 = .ok (.if_icmp .gt 1328, 3) := op_163 (rd_at 8 sL_law_1) rfl
theorem dL_law_27 : decode cL_law 27 = .ok (.aload_n 0, 1) := op_42 (rd_at 11 sL_law_1)
theorem dL_law_28 : decode cL_law 28 = .ok (.iload_n 3, 1) := op_29 (rd_at 12 sL_law_1)
theorem dL_law_29 : decode cL_law 29 = .ok (.iaload, 1) := op_46 (rd_at 13 sL_law_1)
theorem dL_law_30 : decode cL_law 30 = .ok (.bipush 63, 2) := op_16 (rd_at 14 sL_law_1) rfl
theorem dL_law_32 : decode cL_law 32 = .ok (.iand, 1) := op_126 sL_law_2
theorem dL_law_33 : decode cL_law 33 = .ok (.tableswitch 1313 0 35 #[159, 222, 245, 258, 271, 304, 337, 360, 383, 432, 465, 498, 531, 574, 627, 680, 703, 736, 759, 782, 815, 848, 861, 874, 917, 960, 1003, 1016, 1039, 1072, 1105, 1158, 1211, 1244, 1267, 1290], 159) := by decide +kernel
theorem dL_law_192 : decode cL_law 192 = .ok (.aload_n 1, 1) := op_43 sL_law_12
theorem dL_law_193 : decode cL_law 193 = .ok (.aload_n 0, 1) := op_42 (rd_at 1 sL_law_12)
theorem dL_law_194 : decode cL_law 194 = .ok (.iload_n 3, 1) := op_29 (rd_at 2 sL_law_12)
theorem dL_law_195 : decode cL_law 195 = .ok (.iconst 1, 1) := op_4 (rd_at 3 sL_law_12)
theorem dL_law_196 : decode cL_law 196 = .ok (.iadd, 1) := op_96 (rd_at 4 sL_law_12)
theorem dL_law_197 : decode cL_law 197 = .ok (.iaload, 1) := op_46 (rd_at 5 sL_law_12)
theorem dL_law_198 : decode cL_law 198 = .ok (.aload_n 0, 1) := op_42 (rd_at 6 sL_law_12)
theorem dL_law_199 : decode cL_law 199 = .ok (.iload_n 3, 1) := op_29 (rd_at 7 sL_law_12)
theorem dL_law_200 : decode cL_law 200 = .ok (.iconst 2, 1) := op_5 (rd_at 8 sL_law_12)
theorem dL_law_201 : decode cL_law 201 = .ok (.iadd, 1) := op_96 (rd_at 9 sL_law_12)
theorem dL_law_202 : decode cL_law 202 = .ok (.iaload, 1) := op_46 (rd_at 10 sL_law_12)
theorem dL_law_203 : decode cL_law 203 = .ok (.aload_n 0, 1) := op_42 (rd_at 11 sL_law_12)
theorem dL_law_204 : decode cL_law 204 = .ok (.iload_n 3, 1) := op_29 (rd_at 12 sL_law_12)
theorem dL_law_205 : decode cL_law 205 = .ok (.iconst 3, 1) := op_6 (rd_at 13 sL_law_12)
theorem dL_law_206 : decode cL_law 206 = .ok (.iadd, 1) := op_96 (rd_at 14 sL_law_12)
theorem dL_law_207 : decode cL_law 207 = .ok (.iaload, 1) := op_46 (rd_at 15 sL_law_12)
theorem dL_law_208 : decode cL_law 208 = .ok (.aload_n 0, 1) := op_42 sL_law_13
theorem dL_law_209 : decode cL_law 209 = .ok (.iload_n 3, 1) := op_29 (rd_at 1 sL_law_13)
theorem dL_law_210 : decode cL_law 210 = .ok (.iconst 4, 1) := op_7 (rd_at 2 sL_law_13)
theorem dL_law_211 : decode cL_law 211 = .ok (.iadd, 1) := op_96 (rd_at 3 sL_law_13)
theorem dL_law_212 : decode cL_law 212 = .ok (.iaload, 1) := op_46 (rd_at 4 sL_law_13)
theorem dL_law_213 : decode cL_law 213 = .ok (.aload_n 0, 1) := op_42 (rd_at 5 sL_law_13)
theorem dL_law_214 : decode cL_law 214 = .ok (.iload_n 3, 1) := op_29 (rd_at 6 sL_law_13)
theorem dL_law_215 : decode cL_law 215 = .ok (.iconst 5, 1) := op_8 (rd_at 7 sL_law_13)
theorem dL_law_216 : decode cL_law 216 = .ok (.iadd, 1) := op_96 (rd_at 8 sL_law_13)
theorem dL_law_217 : decode cL_law 217 = .ok (.iaload, 1) := op_46 (rd_at 9 sL_law_13)
theorem dL_law_218 : decode cL_law 218 = .ok (.invokevirtual 13, 3) := op_182 (rd_at 10 sL_law_13) rfl
theorem dL_law_221 : decode cL_law 221 = .ok (.pop, 1) := op_87 (rd_at 13 sL_law_13)
theorem dL_law_222 : decode cL_law 222 = .ok (.aload_n 2, 1) := op_44 (rd_at 14 sL_law_13)
theorem dL_law_223 : decode cL_law 223 = .ok (.aload_n 0, 1) := op_42 (rd_at 15 sL_law_13)
theorem dL_law_224 : decode cL_law 224 = .ok (.iload_n 3, 1) := op_29 sL_law_14
theorem dL_law_225 : decode cL_law 225 = .ok (.iconst 1, 1) := op_4 (rd_at 1 sL_law_14)
theorem dL_law_226 : decode cL_law 226 = .ok (.iadd, 1) := op_96 (rd_at 2 sL_law_14)
theorem dL_law_227 : decode cL_law 227 = .ok (.iaload, 1) := op_46 (rd_at 3 sL_law_14)
theorem dL_law_228 : decode cL_law 228 = .ok (.aload_n 0, 1) := op_42 (rd_at 4 sL_law_14)
theorem dL_law_229 : decode cL_law 229 = .ok (.iload_n 3, 1) := op_29 (rd_at 5 sL_law_14)
theorem dL_law_230 : decode cL_law 230 = .ok (.iconst 2, 1) := op_5 (rd_at 6 sL_law_14)
theorem dL_law_231 : decode cL_law 231 = .ok (.iadd, 1) := op_96 (rd_at 7 sL_law_14)
theorem dL_law_232 : decode cL_law 232 = .ok (.iaload, 1) := op_46 (rd_at 8 sL_law_14)
theorem dL_law_233 : decode cL_law 233 = .ok (.aload_n 0, 1) := op_42 (rd_at 9 sL_law_14)
theorem dL_law_234 : decode cL_law 234 = .ok (.iload_n 3, 1) := op_29 (rd_at 10 sL_law_14)
theorem dL_law_235 : decode cL_law 235 = .ok (.iconst 3, 1) := op_6 (rd_at 11 sL_law_14)
theorem dL_law_236 : decode cL_law 236 = .ok (.iadd, 1) := op_96 (rd_at 12 sL_law_14)
theorem dL_law_237 : decode cL_law 237 = .ok (.iaload, 1) := op_46 (rd_at 13 sL_law_14)
theorem dL_law_238 : decode cL_law 238 = .ok (.aload_n 0, 1) := op_42 (rd_at 14 sL_law_14)
theorem dL_law_239 : decode cL_law 239 = .ok (.iload_n 3, 1) := op_29 (rd_at 15 sL_law_14)
theorem dL_law_240 : decode cL_law 240 = .ok (.iconst 4, 1) := op_7 sL_law_15
theorem dL_law_241 : decode cL_law 241 = .ok (.iadd, 1) := op_96 (rd_at 1 sL_law_15)
theorem dL_law_242 : decode cL_law 242 = .ok (.iaload, 1) := op_46 (rd_at 2 sL_law_15)
theorem dL_law_243 : decode cL_law 243 = .ok (.aload_n 0, 1) := op_42 (rd_at 3 sL_law_15)
theorem dL_law_244 : decode cL_law 244 = .ok (.iload_n 3, 1) := op_29 (rd_at 4 sL_law_15)
theorem dL_law_245 : decode cL_law 245 = .ok (.iconst 5, 1) := op_8 (rd_at 5 sL_law_15)
theorem dL_law_246 : decode cL_law 246 = .ok (.iadd, 1) := op_96 (rd_at 6 sL_law_15)
theorem dL_law_247 : decode cL_law 247 = .ok (.iaload, 1) := op_46 (rd_at 7 sL_law_15)
theorem dL_law_248 : decode cL_law 248 = .ok (.invokevirtual 17, 3) := op_182 (rd_at 8 sL_law_15) rfl
theorem dL_law_251 : decode cL_law 251 = .ok (.pop, 1) := op_87 (rd_at 11 sL_law_15)
theorem dL_law_252 : decode cL_law 252 = .ok (.goto 1094, 3) := op_167 (rd_at 12 sL_law_15) rfl
theorem dL_law_255 : decode cL_law 255 = .ok (.aload_n 1, 1) := op_43 (rd_at 15 sL_law_15)
theorem dL_law_256 : decode cL_law 256 = .ok (.aload_n 0, 1) := op_42 sL_law_16
theorem dL_law_257 : decode cL_law 257 = .ok (.iload_n 3, 1) := op_29 (rd_at 1 sL_law_16)
theorem dL_law_258 : decode cL_law 258 = .ok (.iconst 1, 1) := op_4 (rd_at 2 sL_law_16)
theorem dL_law_259 : decode cL_law 259 = .ok (.iadd, 1) := op_96 (rd_at 3 sL_law_16)
theorem dL_law_260 : decode cL_law 260 = .ok (.iaload, 1) := op_46 (rd_at 4 sL_law_16)
theorem dL_law_261 : decode cL_law 261 = .ok (.invokevirtual 18, 3) := op_182 (rd_at 5 sL_law_16) rfl
theorem dL_law_264 : decode cL_law 264 = .ok (.pop, 1) := op_87 (rd_at 8 sL_law_16)
theorem dL_law_265 : decode cL_law 265 = .ok (.aload_n 2, 1) := op_44 (rd_at 9 sL_law_16)
theorem dL_law_266 : decode cL_law 266 = .ok (.aload_n 0, 1) := op_42 (rd_at 10 sL_law_16)
theorem dL_law_267 : decode cL_law 267 = .ok (.iload_n 3, 1) := op_29 (rd_at 11 sL_law_16)
theorem dL_law_268 : decode cL_law 268 = .ok (.iconst 1, 1) := op_4 (rd_at 12 sL_law_16)
theorem dL_law_269 : decode cL_law 269 = .ok (.iadd, 1) := op_96 (rd_at 13 sL_law_16)
theorem dL_law_270 : decode cL_law 270 = .ok (.iaload, 1) := op_46 (rd_at 14 sL_law_16)
theorem dL_law_271 : decode cL_law 271 = .ok (.invokevirtual 22, 3) := op_182 (rd_at 15 sL_law_16) rfl
theorem dL_law_274 : decode cL_law 274 = .ok (.pop, 1) := op_87 (rd_at 2 sL_law_17)
theorem dL_law_275 : decode cL_law 275 = .ok (.goto 1071, 3) := op_167 (rd_at 3 sL_law_17) rfl
theorem dL_law_278 : decode cL_law 278 = .ok (.aload_n 1, 1) := op_43 (rd_at 6 sL_law_17)
theorem dL_law_279 : decode cL_law 279 = .ok (.invokevirtual 23, 3) := op_182 (rd_at 7 sL_law_17) rfl
theorem dL_law_282 : decode cL_law 282 = .ok (.pop, 1) := op_87 (rd_at 10 sL_law_17)
theorem dL_law_283 : decode cL_law 283 = .ok (.aload_n 2, 1) := op_44 (rd_at 11 sL_law_17)
theorem dL_law_284 : decode cL_law 284 = .ok (.invokevirtual 27, 3) := op_182 (rd_at 12 sL_law_17) rfl
theorem dL_law_287 : decode cL_law 287 = .ok (.pop, 1) := op_87 (rd_at 15 sL_law_17)
theorem dL_law_288 : decode cL_law 288 = .ok (.goto 1058, 3) := op_167 sL_law_18 rfl
theorem dL_law_291 : decode cL_law 291 = .ok (.aload_n 1, 1) := op_43 (rd_at 3 sL_law_18)
theorem dL_law_292 : decode cL_law 292 = .ok (.invokevirtual 28, 3) := op_182 (rd_at 4 sL_law_18) rfl
theorem dL_law_295 : decode cL_law 295 = .ok (.pop, 1) := op_87 (rd_at 7 sL_law_18)
theorem dL_law_296 : decode cL_law 296 = .ok (.aload_n 2, 1) := op_44 (rd_at 8 sL_law_18)
theorem dL_law_297 : decode cL_law 297 = .ok (.invokevirtual 31, 3) := op_182 (rd_at 9 sL_law_18) rfl
theorem dL_law_300 : decode cL_law 300 = .ok (.pop, 1) := op_87 (rd_at 12 sL_law_18)
theorem dL_law_301 : decode cL_law 301 = .ok (.goto 1045, 3) := op_167 (rd_at 13 sL_law_18) rfl
theorem dL_law_304 : decode cL_law 304 = .ok (.aload_n 1, 1) := op_43 sL_law_19
theorem dL_law_305 : decode cL_law 305 = .ok (.aload_n 0, 1) := op_42 (rd_at 1 sL_law_19)
theorem dL_law_306 : decode cL_law 306 = .ok (.iload_n 3, 1) := op_29 (rd_at 2 sL_law_19)
theorem dL_law_307 : decode cL_law 307 = .ok (.iconst 1, 1) := op_4 (rd_at 3 sL_law_19)
theorem dL_law_308 : decode cL_law 308 = .ok (.iadd, 1) := op_96 (rd_at 4 sL_law_19)
theorem dL_law_309 : decode cL_law 309 = .ok (.iaload, 1) := op_46 (rd_at 5 sL_law_19)
theorem dL_law_310 : decode cL_law 310 = .ok (.aload_n 0, 1) := op_42 (rd_at 6 sL_law_19)
theorem dL_law_311 : decode cL_law 311 = .ok (.iload_n 3, 1) := op_29 (rd_at 7 sL_law_19)
theorem dL_law_312 : decode cL_law 312 = .ok (.iconst 2, 1) := op_5 (rd_at 8 sL_law_19)
theorem dL_law_313 : decode cL_law 313 = .ok (.iadd, 1) := op_96 (rd_at 9 sL_law_19)
theorem dL_law_314 : decode cL_law 314 = .ok (.iaload, 1) := op_46 (rd_at 10 sL_law_19)
theorem dL_law_315 : decode cL_law 315 = .ok (.invokevirtual 32, 3) := op_182 (rd_at 11 sL_law_19) rfl
theorem dL_law_318 : decode cL_law 318 = .ok (.pop, 1) := op_87 (rd_at 14 sL_law_19)
theorem dL_law_319 : decode cL_law 319 = .ok (.aload_n 2, 1) := op_44 (rd_at 15 sL_law_19)
theorem dL_law_320 : decode cL_law 320 = .ok (.aload_n 0, 1) := op_42 sL_law_20
theorem dL_law_321 : decode cL_law 321 = .ok (.iload_n 3, 1) := op_29 (rd_at 1 sL_law_20)
theorem dL_law_322 : decode cL_law 322 = .ok (.iconst 1, 1) := op_4 (rd_at 2 sL_law_20)
theorem dL_law_323 : decode cL_law 323 = .ok (.iadd, 1) := op_96 (rd_at 3 sL_law_20)
theorem dL_law_324 : decode cL_law 324 = .ok (.iaload, 1) := op_46 (rd_at 4 sL_law_20)
theorem dL_law_325 : decode cL_law 325 = .ok (.aload_n 0, 1) := op_42 (rd_at 5 sL_law_20)
theorem dL_law_326 : decode cL_law 326 = .ok (.iload_n 3, 1) := op_29 (rd_at 6 sL_law_20)
theorem dL_law_327 : decode cL_law 327 = .ok (.iconst 2, 1) := op_5 (rd_at 7 sL_law_20)
theorem dL_law_328 : decode cL_law 328 = .ok (.iadd, 1) := op_96 (rd_at 8 sL_law_20)
theorem dL_law_329 : decode cL_law 329 = .ok (.iaload, 1) := op_46 (rd_at 9 sL_law_20)
theorem dL_law_330 : decode cL_law 330 = .ok (.invokevirtual 36, 3) := op_182 (rd_at 10 sL_law_20) rfl
theorem dL_law_333 : decode cL_law 333 = .ok (.pop, 1) := op_87 (rd_at 13 sL_law_20)
theorem dL_law_334 : decode cL_law 334 = .ok (.goto 1012, 3) := op_167 (rd_at 14 sL_law_20) rfl
theorem dL_law_337 : decode cL_law 337 = .ok (.aload_n 1, 1) := op_43 (rd_at 1 sL_law_21)
theorem dL_law_338 : decode cL_law 338 = .ok (.aload_n 0, 1) := op_42 (rd_at 2 sL_law_21)
theorem dL_law_339 : decode cL_law 339 = .ok (.iload_n 3, 1) := op_29 (rd_at 3 sL_law_21)
theorem dL_law_340 : decode cL_law 340 = .ok (.iconst 1, 1) := op_4 (rd_at 4 sL_law_21)
theorem dL_law_341 : decode cL_law 341 = .ok (.iadd, 1) := op_96 (rd_at 5 sL_law_21)
theorem dL_law_342 : decode cL_law 342 = .ok (.iaload, 1) := op_46 (rd_at 6 sL_law_21)
theorem dL_law_343 : decode cL_law 343 = .ok (.aload_n 0, 1) := op_42 (rd_at 7 sL_law_21)
theorem dL_law_344 : decode cL_law 344 = .ok (.iload_n 3, 1) := op_29 (rd_at 8 sL_law_21)
theorem dL_law_345 : decode cL_law 345 = .ok (.iconst 2, 1) := op_5 (rd_at 9 sL_law_21)
theorem dL_law_346 : decode cL_law 346 = .ok (.iadd, 1) := op_96 (rd_at 10 sL_law_21)
theorem dL_law_347 : decode cL_law 347 = .ok (.iaload, 1) := op_46 (rd_at 11 sL_law_21)
theorem dL_law_348 : decode cL_law 348 = .ok (.invokevirtual 37, 3) := op_182 (rd_at 12 sL_law_21) rfl
theorem dL_law_351 : decode cL_law 351 = .ok (.pop, 1) := op_87 (rd_at 15 sL_law_21)
theorem dL_law_352 : decode cL_law 352 = .ok (.aload_n 2, 1) := op_44 sL_law_22
theorem dL_law_353 : decode cL_law 353 = .ok (.aload_n 0, 1) := op_42 (rd_at 1 sL_law_22)
theorem dL_law_354 : decode cL_law 354 = .ok (.iload_n 3, 1) := op_29 (rd_at 2 sL_law_22)
theorem dL_law_355 : decode cL_law 355 = .ok (.iconst 1, 1) := op_4 (rd_at 3 sL_law_22)
theorem dL_law_356 : decode cL_law 356 = .ok (.iadd, 1) := op_96 (rd_at 4 sL_law_22)
theorem dL_law_357 : decode cL_law 357 = .ok (.iaload, 1) := op_46 (rd_at 5 sL_law_22)
theorem dL_law_358 : decode cL_law 358 = .ok (.aload_n 0, 1) := op_42 (rd_at 6 sL_law_22)
theorem dL_law_359 : decode cL_law 359 = .ok (.iload_n 3, 1) := op_29 (rd_at 7 sL_law_22)
theorem dL_law_360 : decode cL_law 360 = .ok (.iconst 2, 1) := op_5 (rd_at 8 sL_law_22)
theorem dL_law_361 : decode cL_law 361 = .ok (.iadd, 1) := op_96 (rd_at 9 sL_law_22)
theorem dL_law_362 : decode cL_law 362 = .ok (.iaload, 1) := op_46 (rd_at 10 sL_law_22)
theorem dL_law_363 : decode cL_law 363 = .ok (.invokevirtual 40, 3) := op_182 (rd_at 11 sL_law_22) rfl
theorem dL_law_366 : decode cL_law 366 = .ok (.pop, 1) := op_87 (rd_at 14 sL_law_22)
theorem dL_law_367 : decode cL_law 367 = .ok (.goto 979, 3) := op_167 (rd_at 15 sL_law_22) rfl
theorem dL_law_370 : decode cL_law 370 = .ok (.aload_n 1, 1) := op_43 (rd_at 2 sL_law_23)
theorem dL_law_371 : decode cL_law 371 = .ok (.aload_n 0, 1) := op_42 (rd_at 3 sL_law_23)
theorem dL_law_372 : decode cL_law 372 = .ok (.iload_n 3, 1) := op_29 (rd_at 4 sL_law_23)
theorem dL_law_373 : decode cL_law 373 = .ok (.iconst 1, 1) := op_4 (rd_at 5 sL_law_23)
theorem dL_law_374 : decode cL_law 374 = .ok (.iadd, 1) := op_96 (rd_at 6 sL_law_23)
theorem dL_law_375 : decode cL_law 375 = .ok (.iaload, 1) := op_46 (rd_at 7 sL_law_23)
theorem dL_law_376 : decode cL_law 376 = .ok (.invokevirtual 41, 3) := op_182 (rd_at 8 sL_law_23) rfl
theorem dL_law_379 : decode cL_law 379 = .ok (.pop, 1) := op_87 (rd_at 11 sL_law_23)
theorem dL_law_380 : decode cL_law 380 = .ok (.aload_n 2, 1) := op_44 (rd_at 12 sL_law_23)
theorem dL_law_381 : decode cL_law 381 = .ok (.aload_n 0, 1) := op_42 (rd_at 13 sL_law_23)
theorem dL_law_382 : decode cL_law 382 = .ok (.iload_n 3, 1) := op_29 (rd_at 14 sL_law_23)
theorem dL_law_383 : decode cL_law 383 = .ok (.iconst 1, 1) := op_4 (rd_at 15 sL_law_23)
theorem dL_law_384 : decode cL_law 384 = .ok (.iadd, 1) := op_96 sL_law_24
theorem dL_law_385 : decode cL_law 385 = .ok (.iaload, 1) := op_46 (rd_at 1 sL_law_24)
theorem dL_law_386 : decode cL_law 386 = .ok (.invokevirtual 44, 3) := op_182 (rd_at 2 sL_law_24) rfl
theorem dL_law_389 : decode cL_law 389 = .ok (.pop, 1) := op_87 (rd_at 5 sL_law_24)
theorem dL_law_390 : decode cL_law 390 = .ok (.goto 956, 3) := op_167 (rd_at 6 sL_law_24) rfl
theorem dL_law_393 : decode cL_law 393 = .ok (.aload_n 1, 1) := op_43 (rd_at 9 sL_law_24)
theorem dL_law_394 : decode cL_law 394 = .ok (.aload_n 0, 1) := op_42 (rd_at 10 sL_law_24)
theorem dL_law_395 : decode cL_law 395 = .ok (.iload_n 3, 1) := op_29 (rd_at 11 sL_law_24)
theorem dL_law_396 : decode cL_law 396 = .ok (.iconst 1, 1) := op_4 (rd_at 12 sL_law_24)
theorem dL_law_397 : decode cL_law 397 = .ok (.iadd, 1) := op_96 (rd_at 13 sL_law_24)
theorem dL_law_398 : decode cL_law 398 = .ok (.iaload, 1) := op_46 (rd_at 14 sL_law_24)
theorem dL_law_399 : decode cL_law 399 = .ok (.invokevirtual 45, 3) := op_182 (rd_at 15 sL_law_24) rfl
theorem dL_law_402 : decode cL_law 402 = .ok (.pop, 1) := op_87 (rd_at 2 sL_law_25)
theorem dL_law_403 : decode cL_law 403 = .ok (.aload_n 2, 1) := op_44 (rd_at 3 sL_law_25)
theorem dL_law_404 : decode cL_law 404 = .ok (.aload_n 0, 1) := op_42 (rd_at 4 sL_law_25)
theorem dL_law_405 : decode cL_law 405 = .ok (.iload_n 3, 1) := op_29 (rd_at 5 sL_law_25)
theorem dL_law_406 : decode cL_law 406 = .ok (.iconst 1, 1) := op_4 (rd_at 6 sL_law_25)
theorem dL_law_407 : decode cL_law 407 = .ok (.iadd, 1) := op_96 (rd_at 7 sL_law_25)
theorem dL_law_408 : decode cL_law 408 = .ok (.iaload, 1) := op_46 (rd_at 8 sL_law_25)
theorem dL_law_409 : decode cL_law 409 = .ok (.invokevirtual 48, 3) := op_182 (rd_at 9 sL_law_25) rfl
theorem dL_law_412 : decode cL_law 412 = .ok (.pop, 1) := op_87 (rd_at 12 sL_law_25)
theorem dL_law_413 : decode cL_law 413 = .ok (.goto 933, 3) := op_167 (rd_at 13 sL_law_25) rfl
theorem dL_law_416 : decode cL_law 416 = .ok (.aload_n 1, 1) := op_43 sL_law_26
theorem dL_law_417 : decode cL_law 417 = .ok (.aload_n 0, 1) := op_42 (rd_at 1 sL_law_26)
theorem dL_law_418 : decode cL_law 418 = .ok (.iload_n 3, 1) := op_29 (rd_at 2 sL_law_26)
theorem dL_law_419 : decode cL_law 419 = .ok (.iconst 1, 1) := op_4 (rd_at 3 sL_law_26)
theorem dL_law_420 : decode cL_law 420 = .ok (.iadd, 1) := op_96 (rd_at 4 sL_law_26)
theorem dL_law_421 : decode cL_law 421 = .ok (.iaload, 1) := op_46 (rd_at 5 sL_law_26)
theorem dL_law_422 : decode cL_law 422 = .ok (.aload_n 0, 1) := op_42 (rd_at 6 sL_law_26)
theorem dL_law_423 : decode cL_law 423 = .ok (.iload_n 3, 1) := op_29 (rd_at 7 sL_law_26)
theorem dL_law_424 : decode cL_law 424 = .ok (.iconst 2, 1) := op_5 (rd_at 8 sL_law_26)
theorem dL_law_425 : decode cL_law 425 = .ok (.iadd, 1) := op_96 (rd_at 9 sL_law_26)
theorem dL_law_426 : decode cL_law 426 = .ok (.iaload, 1) := op_46 (rd_at 10 sL_law_26)
theorem dL_law_427 : decode cL_law 427 = .ok (.ifCond .eq 7, 3) := op_153 (rd_at 11 sL_law_26) rfl
theorem dL_law_430 : decode cL_law 430 = .ok (.iconst 1, 1) := op_4 (rd_at 14 sL_law_26)
theorem dL_law_431 : decode cL_law 431 = .ok (.goto 4, 3) := op_167 (rd_at 15 sL_law_26) rfl
theorem dL_law_434 : decode cL_law 434 = .ok (.iconst 0, 1) := op_3 (rd_at 2 sL_law_27)
theorem dL_law_435 : decode cL_law 435 = .ok (.invokevirtual 49, 3) := op_182 (rd_at 3 sL_law_27) rfl
theorem dL_law_438 : decode cL_law 438 = .ok (.pop, 1) := op_87 (rd_at 6 sL_law_27)
theorem dL_law_439 : decode cL_law 439 = .ok (.aload_n 2, 1) := op_44 (rd_at 7 sL_law_27)
theorem dL_law_440 : decode cL_law 440 = .ok (.aload_n 0, 1) := op_42 (rd_at 8 sL_law_27)
theorem dL_law_441 : decode cL_law 441 = .ok (.iload_n 3, 1) := op_29 (rd_at 9 sL_law_27)
theorem dL_law_442 : decode cL_law 442 = .ok (.iconst 1, 1) := op_4 (rd_at 10 sL_law_27)
theorem dL_law_443 : decode cL_law 443 = .ok (.iadd, 1) := op_96 (rd_at 11 sL_law_27)
theorem dL_law_444 : decode cL_law 444 = .ok (.iaload, 1) := op_46 (rd_at 12 sL_law_27)
theorem dL_law_445 : decode cL_law 445 = .ok (.aload_n 0, 1) := op_42 (rd_at 13 sL_law_27)
theorem dL_law_446 : decode cL_law 446 = .ok (.iload_n 3, 1) := op_29 (rd_at 14 sL_law_27)
theorem dL_law_447 : decode cL_law 447 = .ok (.iconst 2, 1) := op_5 (rd_at 15 sL_law_27)
theorem dL_law_448 : decode cL_law 448 = .ok (.iadd, 1) := op_96 sL_law_28
theorem dL_law_449 : decode cL_law 449 = .ok (.iaload, 1) := op_46 (rd_at 1 sL_law_28)
theorem dL_law_450 : decode cL_law 450 = .ok (.ifCond .eq 7, 3) := op_153 (rd_at 2 sL_law_28) rfl
theorem dL_law_453 : decode cL_law 453 = .ok (.iconst 1, 1) := op_4 (rd_at 5 sL_law_28)
theorem dL_law_454 : decode cL_law 454 = .ok (.goto 4, 3) := op_167 (rd_at 6 sL_law_28) rfl
theorem dL_law_457 : decode cL_law 457 = .ok (.iconst 0, 1) := op_3 (rd_at 9 sL_law_28)
theorem dL_law_458 : decode cL_law 458 = .ok (.invokevirtual 53, 3) := op_182 (rd_at 10 sL_law_28) rfl
theorem dL_law_461 : decode cL_law 461 = .ok (.pop, 1) := op_87 (rd_at 13 sL_law_28)
theorem dL_law_462 : decode cL_law 462 = .ok (.goto 884, 3) := op_167 (rd_at 14 sL_law_28) rfl
theorem dL_law_465 : decode cL_law 465 = .ok (.aload_n 1, 1) := op_43 (rd_at 1 sL_law_29)
theorem dL_law_466 : decode cL_law 466 = .ok (.aload_n 0, 1) := op_42 (rd_at 2 sL_law_29)
theorem dL_law_467 : decode cL_law 467 = .ok (.iload_n 3, 1) := op_29 (rd_at 3 sL_law_29)
theorem dL_law_468 : decode cL_law 468 = .ok (.iconst 1, 1) := op_4 (rd_at 4 sL_law_29)
theorem dL_law_469 : decode cL_law 469 = .ok (.iadd, 1) := op_96 (rd_at 5 sL_law_29)
theorem dL_law_470 : decode cL_law 470 = .ok (.iaload, 1) := op_46 (rd_at 6 sL_law_29)
theorem dL_law_471 : decode cL_law 471 = .ok (.aload_n 0, 1) := op_42 (rd_at 7 sL_law_29)
theorem dL_law_472 : decode cL_law 472 = .ok (.iload_n 3, 1) := op_29 (rd_at 8 sL_law_29)
theorem dL_law_473 : decode cL_law 473 = .ok (.iconst 2, 1) := op_5 (rd_at 9 sL_law_29)
theorem dL_law_474 : decode cL_law 474 = .ok (.iadd, 1) := op_96 (rd_at 10 sL_law_29)
theorem dL_law_475 : decode cL_law 475 = .ok (.iaload, 1) := op_46 (rd_at 11 sL_law_29)
theorem dL_law_476 : decode cL_law 476 = .ok (.invokevirtual 54, 3) := op_182 (rd_at 12 sL_law_29) rfl
theorem dL_law_479 : decode cL_law 479 = .ok (.pop, 1) := op_87 (rd_at 15 sL_law_29)
theorem dL_law_480 : decode cL_law 480 = .ok (.aload_n 2, 1) := op_44 sL_law_30
theorem dL_law_481 : decode cL_law 481 = .ok (.aload_n 0, 1) := op_42 (rd_at 1 sL_law_30)
theorem dL_law_482 : decode cL_law 482 = .ok (.iload_n 3, 1) := op_29 (rd_at 2 sL_law_30)
theorem dL_law_483 : decode cL_law 483 = .ok (.iconst 1, 1) := op_4 (rd_at 3 sL_law_30)
theorem dL_law_484 : decode cL_law 484 = .ok (.iadd, 1) := op_96 (rd_at 4 sL_law_30)
theorem dL_law_485 : decode cL_law 485 = .ok (.iaload, 1) := op_46 (rd_at 5 sL_law_30)
theorem dL_law_486 : decode cL_law 486 = .ok (.aload_n 0, 1) := op_42 (rd_at 6 sL_law_30)
theorem dL_law_487 : decode cL_law 487 = .ok (.iload_n 3, 1) := op_29 (rd_at 7 sL_law_30)
theorem dL_law_488 : decode cL_law 488 = .ok (.iconst 2, 1) := op_5 (rd_at 8 sL_law_30)
theorem dL_law_489 : decode cL_law 489 = .ok (.iadd, 1) := op_96 (rd_at 9 sL_law_30)
theorem dL_law_490 : decode cL_law 490 = .ok (.iaload, 1) := op_46 (rd_at 10 sL_law_30)
theorem dL_law_491 : decode cL_law 491 = .ok (.invokevirtual 58, 3) := op_182 (rd_at 11 sL_law_30) rfl
theorem dL_law_494 : decode cL_law 494 = .ok (.pop, 1) := op_87 (rd_at 14 sL_law_30)
theorem dL_law_495 : decode cL_law 495 = .ok (.goto 851, 3) := op_167 (rd_at 15 sL_law_30) rfl
theorem dL_law_498 : decode cL_law 498 = .ok (.aload_n 1, 1) := op_43 (rd_at 2 sL_law_31)
theorem dL_law_499 : decode cL_law 499 = .ok (.aload_n 0, 1) := op_42 (rd_at 3 sL_law_31)
theorem dL_law_500 : decode cL_law 500 = .ok (.iload_n 3, 1) := op_29 (rd_at 4 sL_law_31)
theorem dL_law_501 : decode cL_law 501 = .ok (.iconst 1, 1) := op_4 (rd_at 5 sL_law_31)
theorem dL_law_502 : decode cL_law 502 = .ok (.iadd, 1) := op_96 (rd_at 6 sL_law_31)
theorem dL_law_503 : decode cL_law 503 = .ok (.iaload, 1) := op_46 (rd_at 7 sL_law_31)
theorem dL_law_504 : decode cL_law 504 = .ok (.aload_n 0, 1) := op_42 (rd_at 8 sL_law_31)
theorem dL_law_505 : decode cL_law 505 = .ok (.iload_n 3, 1) := op_29 (rd_at 9 sL_law_31)
theorem dL_law_506 : decode cL_law 506 = .ok (.iconst 2, 1) := op_5 (rd_at 10 sL_law_31)
theorem dL_law_507 : decode cL_law 507 = .ok (.iadd, 1) := op_96 (rd_at 11 sL_law_31)
theorem dL_law_508 : decode cL_law 508 = .ok (.iaload, 1) := op_46 (rd_at 12 sL_law_31)
theorem dL_law_509 : decode cL_law 509 = .ok (.invokevirtual 59, 3) := op_182 (rd_at 13 sL_law_31) rfl
theorem dL_law_512 : decode cL_law 512 = .ok (.pop, 1) := op_87 sL_law_32
theorem dL_law_513 : decode cL_law 513 = .ok (.aload_n 2, 1) := op_44 (rd_at 1 sL_law_32)
theorem dL_law_514 : decode cL_law 514 = .ok (.aload_n 0, 1) := op_42 (rd_at 2 sL_law_32)
theorem dL_law_515 : decode cL_law 515 = .ok (.iload_n 3, 1) := op_29 (rd_at 3 sL_law_32)
theorem dL_law_516 : decode cL_law 516 = .ok (.iconst 1, 1) := op_4 (rd_at 4 sL_law_32)
theorem dL_law_517 : decode cL_law 517 = .ok (.iadd, 1) := op_96 (rd_at 5 sL_law_32)
theorem dL_law_518 : decode cL_law 518 = .ok (.iaload, 1) := op_46 (rd_at 6 sL_law_32)
theorem dL_law_519 : decode cL_law 519 = .ok (.aload_n 0, 1) := op_42 (rd_at 7 sL_law_32)
theorem dL_law_520 : decode cL_law 520 = .ok (.iload_n 3, 1) := op_29 (rd_at 8 sL_law_32)
theorem dL_law_521 : decode cL_law 521 = .ok (.iconst 2, 1) := op_5 (rd_at 9 sL_law_32)
theorem dL_law_522 : decode cL_law 522 = .ok (.iadd, 1) := op_96 (rd_at 10 sL_law_32)
theorem dL_law_523 : decode cL_law 523 = .ok (.iaload, 1) := op_46 (rd_at 11 sL_law_32)
theorem dL_law_524 : decode cL_law 524 = .ok (.invokevirtual 62, 3) := op_182 (rd_at 12 sL_law_32) rfl
theorem dL_law_527 : decode cL_law 527 = .ok (.pop, 1) := op_87 (rd_at 15 sL_law_32)
theorem dL_law_528 : decode cL_law 528 = .ok (.goto 818, 3) := op_167 sL_law_33 rfl
theorem dL_law_531 : decode cL_law 531 = .ok (.aload_n 1, 1) := op_43 (rd_at 3 sL_law_33)
theorem dL_law_532 : decode cL_law 532 = .ok (.aload_n 0, 1) := op_42 (rd_at 4 sL_law_33)
theorem dL_law_533 : decode cL_law 533 = .ok (.iload_n 3, 1) := op_29 (rd_at 5 sL_law_33)
theorem dL_law_534 : decode cL_law 534 = .ok (.iconst 1, 1) := op_4 (rd_at 6 sL_law_33)
theorem dL_law_535 : decode cL_law 535 = .ok (.iadd, 1) := op_96 (rd_at 7 sL_law_33)
theorem dL_law_536 : decode cL_law 536 = .ok (.iaload, 1) := op_46 (rd_at 8 sL_law_33)
theorem dL_law_537 : decode cL_law 537 = .ok (.aload_n 0, 1) := op_42 (rd_at 9 sL_law_33)
theorem dL_law_538 : decode cL_law 538 = .ok (.iload_n 3, 1) := op_29 (rd_at 10 sL_law_33)
theorem dL_law_539 : decode cL_law 539 = .ok (.iconst 2, 1) := op_5 (rd_at 11 sL_law_33)
theorem dL_law_540 : decode cL_law 540 = .ok (.iadd, 1) := op_96 (rd_at 12 sL_law_33)
theorem dL_law_541 : decode cL_law 541 = .ok (.iaload, 1) := op_46 (rd_at 13 sL_law_33)
theorem dL_law_542 : decode cL_law 542 = .ok (.invokevirtual 63, 3) := op_182 (rd_at 14 sL_law_33) rfl
theorem dL_law_545 : decode cL_law 545 = .ok (.pop, 1) := op_87 (rd_at 1 sL_law_34)
theorem dL_law_546 : decode cL_law 546 = .ok (.aload_n 2, 1) := op_44 (rd_at 2 sL_law_34)
theorem dL_law_547 : decode cL_law 547 = .ok (.aload_n 0, 1) := op_42 (rd_at 3 sL_law_34)
theorem dL_law_548 : decode cL_law 548 = .ok (.iload_n 3, 1) := op_29 (rd_at 4 sL_law_34)
theorem dL_law_549 : decode cL_law 549 = .ok (.iconst 1, 1) := op_4 (rd_at 5 sL_law_34)
theorem dL_law_550 : decode cL_law 550 = .ok (.iadd, 1) := op_96 (rd_at 6 sL_law_34)
theorem dL_law_551 : decode cL_law 551 = .ok (.iaload, 1) := op_46 (rd_at 7 sL_law_34)
theorem dL_law_552 : decode cL_law 552 = .ok (.aload_n 0, 1) := op_42 (rd_at 8 sL_law_34)
theorem dL_law_553 : decode cL_law 553 = .ok (.iload_n 3, 1) := op_29 (rd_at 9 sL_law_34)
theorem dL_law_554 : decode cL_law 554 = .ok (.iconst 2, 1) := op_5 (rd_at 10 sL_law_34)
theorem dL_law_555 : decode cL_law 555 = .ok (.iadd, 1) := op_96 (rd_at 11 sL_law_34)
theorem dL_law_556 : decode cL_law 556 = .ok (.iaload, 1) := op_46 (rd_at 12 sL_law_34)
theorem dL_law_557 : decode cL_law 557 = .ok (.invokevirtual 66, 3) := op_182 (rd_at 13 sL_law_34) rfl
theorem dL_law_560 : decode cL_law 560 = .ok (.pop, 1) := op_87 sL_law_35
theorem dL_law_561 : decode cL_law 561 = .ok (.goto 785, 3) := op_167 (rd_at 1 sL_law_35) rfl
theorem dL_law_564 : decode cL_law 564 = .ok (.aload_n 1, 1) := op_43 (rd_at 4 sL_law_35)
theorem dL_law_565 : decode cL_law 565 = .ok (.aload_n 0, 1) := op_42 (rd_at 5 sL_law_35)
theorem dL_law_566 : decode cL_law 566 = .ok (.iload_n 3, 1) := op_29 (rd_at 6 sL_law_35)
theorem dL_law_567 : decode cL_law 567 = .ok (.iconst 1, 1) := op_4 (rd_at 7 sL_law_35)
theorem dL_law_568 : decode cL_law 568 = .ok (.iadd, 1) := op_96 (rd_at 8 sL_law_35)
theorem dL_law_569 : decode cL_law 569 = .ok (.iaload, 1) := op_46 (rd_at 9 sL_law_35)
theorem dL_law_570 : decode cL_law 570 = .ok (.aload_n 0, 1) := op_42 (rd_at 10 sL_law_35)
theorem dL_law_571 : decode cL_law 571 = .ok (.iload_n 3, 1) := op_29 (rd_at 11 sL_law_35)
theorem dL_law_572 : decode cL_law 572 = .ok (.iconst 2, 1) := op_5 (rd_at 12 sL_law_35)
theorem dL_law_573 : decode cL_law 573 = .ok (.iadd, 1) := op_96 (rd_at 13 sL_law_35)
theorem dL_law_574 : decode cL_law 574 = .ok (.iaload, 1) := op_46 (rd_at 14 sL_law_35)
theorem dL_law_575 : decode cL_law 575 = .ok (.aload_n 0, 1) := op_42 (rd_at 15 sL_law_35)
theorem dL_law_576 : decode cL_law 576 = .ok (.iload_n 3, 1) := op_29 sL_law_36
theorem dL_law_577 : decode cL_law 577 = .ok (.iconst 3, 1) := op_6 (rd_at 1 sL_law_36)
theorem dL_law_578 : decode cL_law 578 = .ok (.iadd, 1) := op_96 (rd_at 2 sL_law_36)
theorem dL_law_579 : decode cL_law 579 = .ok (.iaload, 1) := op_46 (rd_at 3 sL_law_36)
theorem dL_law_580 : decode cL_law 580 = .ok (.invokevirtual 67, 3) := op_182 (rd_at 4 sL_law_36) rfl
theorem dL_law_583 : decode cL_law 583 = .ok (.pop, 1) := op_87 (rd_at 7 sL_law_36)
theorem dL_law_584 : decode cL_law 584 = .ok (.aload_n 2, 1) := op_44 (rd_at 8 sL_law_36)
theorem dL_law_585 : decode cL_law 585 = .ok (.aload_n 0, 1) := op_42 (rd_at 9 sL_law_36)
theorem dL_law_586 : decode cL_law 586 = .ok (.iload_n 3, 1) := op_29 (rd_at 10 sL_law_36)
theorem dL_law_587 : decode cL_law 587 = .ok (.iconst 1, 1) := op_4 (rd_at 11 sL_law_36)
theorem dL_law_588 : decode cL_law 588 = .ok (.iadd, 1) := op_96 (rd_at 12 sL_law_36)
theorem dL_law_589 : decode cL_law 589 = .ok (.iaload, 1) := op_46 (rd_at 13 sL_law_36)
theorem dL_law_590 : decode cL_law 590 = .ok (.aload_n 0, 1) := op_42 (rd_at 14 sL_law_36)
theorem dL_law_591 : decode cL_law 591 = .ok (.iload_n 3, 1) := op_29 (rd_at 15 sL_law_36)
theorem dL_law_592 : decode cL_law 592 = .ok (.iconst 2, 1) := op_5 sL_law_37
theorem dL_law_593 : decode cL_law 593 = .ok (.iadd, 1) := op_96 (rd_at 1 sL_law_37)
theorem dL_law_594 : decode cL_law 594 = .ok (.iaload, 1) := op_46 (rd_at 2 sL_law_37)
theorem dL_law_595 : decode cL_law 595 = .ok (.aload_n 0, 1) := op_42 (rd_at 3 sL_law_37)
theorem dL_law_596 : decode cL_law 596 = .ok (.iload_n 3, 1) := op_29 (rd_at 4 sL_law_37)
theorem dL_law_597 : decode cL_law 597 = .ok (.iconst 3, 1) := op_6 (rd_at 5 sL_law_37)
theorem dL_law_598 : decode cL_law 598 = .ok (.iadd, 1) := op_96 (rd_at 6 sL_law_37)
theorem dL_law_599 : decode cL_law 599 = .ok (.iaload, 1) := op_46 (rd_at 7 sL_law_37)
theorem dL_law_600 : decode cL_law 600 = .ok (.invokevirtual 71, 3) := op_182 (rd_at 8 sL_law_37) rfl
theorem dL_law_603 : decode cL_law 603 = .ok (.pop, 1) := op_87 (rd_at 11 sL_law_37)
theorem dL_law_604 : decode cL_law 604 = .ok (.goto 742, 3) := op_167 (rd_at 12 sL_law_37) rfl
theorem dL_law_607 : decode cL_law 607 = .ok (.aload_n 1, 1) := op_43 (rd_at 15 sL_law_37)
theorem dL_law_608 : decode cL_law 608 = .ok (.aload_n 0, 1) := op_42 sL_law_38
theorem dL_law_609 : decode cL_law 609 = .ok (.iload_n 3, 1) := op_29 (rd_at 1 sL_law_38)
theorem dL_law_610 : decode cL_law 610 = .ok (.iconst 1, 1) := op_4 (rd_at 2 sL_law_38)
theorem dL_law_611 : decode cL_law 611 = .ok (.iadd, 1) := op_96 (rd_at 3 sL_law_38)
theorem dL_law_612 : decode cL_law 612 = .ok (.iaload, 1) := op_46 (rd_at 4 sL_law_38)
theorem dL_law_613 : decode cL_law 613 = .ok (.aload_n 0, 1) := op_42 (rd_at 5 sL_law_38)
theorem dL_law_614 : decode cL_law 614 = .ok (.iload_n 3, 1) := op_29 (rd_at 6 sL_law_38)
theorem dL_law_615 : decode cL_law 615 = .ok (.iconst 2, 1) := op_5 (rd_at 7 sL_law_38)
theorem dL_law_616 : decode cL_law 616 = .ok (.iadd, 1) := op_96 (rd_at 8 sL_law_38)
theorem dL_law_617 : decode cL_law 617 = .ok (.iaload, 1) := op_46 (rd_at 9 sL_law_38)
theorem dL_law_618 : decode cL_law 618 = .ok (.aload_n 0, 1) := op_42 (rd_at 10 sL_law_38)
theorem dL_law_619 : decode cL_law 619 = .ok (.iload_n 3, 1) := op_29 (rd_at 11 sL_law_38)
theorem dL_law_620 : decode cL_law 620 = .ok (.iconst 3, 1) := op_6 (rd_at 12 sL_law_38)
theorem dL_law_621 : decode cL_law 621 = .ok (.iadd, 1) := op_96 (rd_at 13 sL_law_38)
theorem dL_law_622 : decode cL_law 622 = .ok (.iaload, 1) := op_46 (rd_at 14 sL_law_38)
theorem dL_law_623 : decode cL_law 623 = .ok (.aload_n 0, 1) := op_42 (rd_at 15 sL_law_38)
theorem dL_law_624 : decode cL_law 624 = .ok (.iload_n 3, 1) := op_29 sL_law_39
theorem dL_law_625 : decode cL_law 625 = .ok (.iconst 4, 1) := op_7 (rd_at 1 sL_law_39)
theorem dL_law_626 : decode cL_law 626 = .ok (.iadd, 1) := op_96 (rd_at 2 sL_law_39)
theorem dL_law_627 : decode cL_law 627 = .ok (.iaload, 1) := op_46 (rd_at 3 sL_law_39)
theorem dL_law_628 : decode cL_law 628 = .ok (.invokevirtual 72, 3) := op_182 (rd_at 4 sL_law_39) rfl
theorem dL_law_631 : decode cL_law 631 = .ok (.pop, 1) := op_87 (rd_at 7 sL_law_39)
theorem dL_law_632 : decode cL_law 632 = .ok (.aload_n 2, 1) := op_44 (rd_at 8 sL_law_39)
theorem dL_law_633 : decode cL_law 633 = .ok (.aload_n 0, 1) := op_42 (rd_at 9 sL_law_39)
theorem dL_law_634 : decode cL_law 634 = .ok (.iload_n 3, 1) := op_29 (rd_at 10 sL_law_39)
theorem dL_law_635 : decode cL_law 635 = .ok (.iconst 1, 1) := op_4 (rd_at 11 sL_law_39)
theorem dL_law_636 : decode cL_law 636 = .ok (.iadd, 1) := op_96 (rd_at 12 sL_law_39)
theorem dL_law_637 : decode cL_law 637 = .ok (.iaload, 1) := op_46 (rd_at 13 sL_law_39)
theorem dL_law_638 : decode cL_law 638 = .ok (.aload_n 0, 1) := op_42 (rd_at 14 sL_law_39)
theorem dL_law_639 : decode cL_law 639 = .ok (.iload_n 3, 1) := op_29 (rd_at 15 sL_law_39)
theorem dL_law_640 : decode cL_law 640 = .ok (.iconst 2, 1) := op_5 sL_law_40
theorem dL_law_641 : decode cL_law 641 = .ok (.iadd, 1) := op_96 (rd_at 1 sL_law_40)
theorem dL_law_642 : decode cL_law 642 = .ok (.iaload, 1) := op_46 (rd_at 2 sL_law_40)
theorem dL_law_643 : decode cL_law 643 = .ok (.aload_n 0, 1) := op_42 (rd_at 3 sL_law_40)
theorem dL_law_644 : decode cL_law 644 = .ok (.iload_n 3, 1) := op_29 (rd_at 4 sL_law_40)
theorem dL_law_645 : decode cL_law 645 = .ok (.iconst 3, 1) := op_6 (rd_at 5 sL_law_40)
theorem dL_law_646 : decode cL_law 646 = .ok (.iadd, 1) := op_96 (rd_at 6 sL_law_40)
theorem dL_law_647 : decode cL_law 647 = .ok (.iaload, 1) := op_46 (rd_at 7 sL_law_40)
theorem dL_law_648 : decode cL_law 648 = .ok (.aload_n 0, 1) := op_42 (rd_at 8 sL_law_40)
theorem dL_law_649 : decode cL_law 649 = .ok (.iload_n 3, 1) := op_29 (rd_at 9 sL_law_40)
theorem dL_law_650 : decode cL_law 650 = .ok (.iconst 4, 1) := op_7 (rd_at 10 sL_law_40)
theorem dL_law_651 : decode cL_law 651 = .ok (.iadd, 1) := op_96 (rd_at 11 sL_law_40)
theorem dL_law_652 : decode cL_law 652 = .ok (.iaload, 1) := op_46 (rd_at 12 sL_law_40)
theorem dL_law_653 : decode cL_law 653 = .ok (.invokevirtual 76, 3) := op_182 (rd_at 13 sL_law_40) rfl
theorem dL_law_656 : decode cL_law 656 = .ok (.pop, 1) := op_87 sL_law_41
theorem dL_law_657 : decode cL_law 657 = .ok (.goto 689, 3) := op_167 (rd_at 1 sL_law_41) rfl
theorem dL_law_660 : decode cL_law 660 = .ok (.aload_n 1, 1) := op_43 (rd_at 4 sL_law_41)
theorem dL_law_661 : decode cL_law 661 = .ok (.aload_n 0, 1) := op_42 (rd_at 5 sL_law_41)
theorem dL_law_662 : decode cL_law 662 = .ok (.iload_n 3, 1) := op_29 (rd_at 6 sL_law_41)
theorem dL_law_663 : decode cL_law 663 = .ok (.iconst 1, 1) := op_4 (rd_at 7 sL_law_41)
theorem dL_law_664 : decode cL_law 664 = .ok (.iadd, 1) := op_96 (rd_at 8 sL_law_41)
theorem dL_law_665 : decode cL_law 665 = .ok (.iaload, 1) := op_46 (rd_at 9 sL_law_41)
theorem dL_law_666 : decode cL_law 666 = .ok (.aload_n 0, 1) := op_42 (rd_at 10 sL_law_41)
theorem dL_law_667 : decode cL_law 667 = .ok (.iload_n 3, 1) := op_29 (rd_at 11 sL_law_41)
theorem dL_law_668 : decode cL_law 668 = .ok (.iconst 2, 1) := op_5 (rd_at 12 sL_law_41)
theorem dL_law_669 : decode cL_law 669 = .ok (.iadd, 1) := op_96 (rd_at 13 sL_law_41)
theorem dL_law_670 : decode cL_law 670 = .ok (.iaload, 1) := op_46 (rd_at 14 sL_law_41)
theorem dL_law_671 : decode cL_law 671 = .ok (.aload_n 0, 1) := op_42 (rd_at 15 sL_law_41)
theorem dL_law_672 : decode cL_law 672 = .ok (.iload_n 3, 1) := op_29 sL_law_42
theorem dL_law_673 : decode cL_law 673 = .ok (.iconst 3, 1) := op_6 (rd_at 1 sL_law_42)
theorem dL_law_674 : decode cL_law 674 = .ok (.iadd, 1) := op_96 (rd_at 2 sL_law_42)
theorem dL_law_675 : decode cL_law 675 = .ok (.iaload, 1) := op_46 (rd_at 3 sL_law_42)
theorem dL_law_676 : decode cL_law 676 = .ok (.aload_n 0, 1) := op_42 (rd_at 4 sL_law_42)
theorem dL_law_677 : decode cL_law 677 = .ok (.iload_n 3, 1) := op_29 (rd_at 5 sL_law_42)
theorem dL_law_678 : decode cL_law 678 = .ok (.iconst 4, 1) := op_7 (rd_at 6 sL_law_42)
theorem dL_law_679 : decode cL_law 679 = .ok (.iadd, 1) := op_96 (rd_at 7 sL_law_42)
theorem dL_law_680 : decode cL_law 680 = .ok (.iaload, 1) := op_46 (rd_at 8 sL_law_42)
theorem dL_law_681 : decode cL_law 681 = .ok (.invokevirtual 77, 3) := op_182 (rd_at 9 sL_law_42) rfl
theorem dL_law_684 : decode cL_law 684 = .ok (.pop, 1) := op_87 (rd_at 12 sL_law_42)
theorem dL_law_685 : decode cL_law 685 = .ok (.aload_n 2, 1) := op_44 (rd_at 13 sL_law_42)
theorem dL_law_686 : decode cL_law 686 = .ok (.aload_n 0, 1) := op_42 (rd_at 14 sL_law_42)
theorem dL_law_687 : decode cL_law 687 = .ok (.iload_n 3, 1) := op_29 (rd_at 15 sL_law_42)
theorem dL_law_688 : decode cL_law 688 = .ok (.iconst 1, 1) := op_4 sL_law_43
theorem dL_law_689 : decode cL_law 689 = .ok (.iadd, 1) := op_96 (rd_at 1 sL_law_43)
theorem dL_law_690 : decode cL_law 690 = .ok (.iaload, 1) := op_46 (rd_at 2 sL_law_43)
theorem dL_law_691 : decode cL_law 691 = .ok (.aload_n 0, 1) := op_42 (rd_at 3 sL_law_43)
theorem dL_law_692 : decode cL_law 692 = .ok (.iload_n 3, 1) := op_29 (rd_at 4 sL_law_43)
theorem dL_law_693 : decode cL_law 693 = .ok (.iconst 2, 1) := op_5 (rd_at 5 sL_law_43)
theorem dL_law_694 : decode cL_law 694 = .ok (.iadd, 1) := op_96 (rd_at 6 sL_law_43)
theorem dL_law_695 : decode cL_law 695 = .ok (.iaload, 1) := op_46 (rd_at 7 sL_law_43)
theorem dL_law_696 : decode cL_law 696 = .ok (.aload_n 0, 1) := op_42 (rd_at 8 sL_law_43)
theorem dL_law_697 : decode cL_law 697 = .ok (.iload_n 3, 1) := op_29 (rd_at 9 sL_law_43)
theorem dL_law_698 : decode cL_law 698 = .ok (.iconst 3, 1) := op_6 (rd_at 10 sL_law_43)
theorem dL_law_699 : decode cL_law 699 = .ok (.iadd, 1) := op_96 (rd_at 11 sL_law_43)
theorem dL_law_700 : decode cL_law 700 = .ok (.iaload, 1) := op_46 (rd_at 12 sL_law_43)
theorem dL_law_701 : decode cL_law 701 = .ok (.aload_n 0, 1) := op_42 (rd_at 13 sL_law_43)
theorem dL_law_702 : decode cL_law 702 = .ok (.iload_n 3, 1) := op_29 (rd_at 14 sL_law_43)
theorem dL_law_703 : decode cL_law 703 = .ok (.iconst 4, 1) := op_7 (rd_at 15 sL_law_43)
theorem dL_law_704 : decode cL_law 704 = .ok (.iadd, 1) := op_96 sL_law_44
theorem dL_law_705 : decode cL_law 705 = .ok (.iaload, 1) := op_46 (rd_at 1 sL_law_44)
theorem dL_law_706 : decode cL_law 706 = .ok (.invokevirtual 80, 3) := op_182 (rd_at 2 sL_law_44) rfl
theorem dL_law_709 : decode cL_law 709 = .ok (.pop, 1) := op_87 (rd_at 5 sL_law_44)
theorem dL_law_710 : decode cL_law 710 = .ok (.goto 636, 3) := op_167 (rd_at 6 sL_law_44) rfl
theorem dL_law_713 : decode cL_law 713 = .ok (.aload_n 1, 1) := op_43 (rd_at 9 sL_law_44)
theorem dL_law_714 : decode cL_law 714 = .ok (.aload_n 0, 1) := op_42 (rd_at 10 sL_law_44)
theorem dL_law_715 : decode cL_law 715 = .ok (.iload_n 3, 1) := op_29 (rd_at 11 sL_law_44)
theorem dL_law_716 : decode cL_law 716 = .ok (.iconst 1, 1) := op_4 (rd_at 12 sL_law_44)
theorem dL_law_717 : decode cL_law 717 = .ok (.iadd, 1) := op_96 (rd_at 13 sL_law_44)
theorem dL_law_718 : decode cL_law 718 = .ok (.iaload, 1) := op_46 (rd_at 14 sL_law_44)
theorem dL_law_719 : decode cL_law 719 = .ok (.invokevirtual 81, 3) := op_182 (rd_at 15 sL_law_44) rfl
theorem dL_law_722 : decode cL_law 722 = .ok (.pop, 1) := op_87 (rd_at 2 sL_law_45)
theorem dL_law_723 : decode cL_law 723 = .ok (.aload_n 2, 1) := op_44 (rd_at 3 sL_law_45)
theorem dL_law_724 : decode cL_law 724 = .ok (.aload_n 0, 1) := op_42 (rd_at 4 sL_law_45)
theorem dL_law_725 : decode cL_law 725 = .ok (.iload_n 3, 1) := op_29 (rd_at 5 sL_law_45)
theorem dL_law_726 : decode cL_law 726 = .ok (.iconst 1, 1) := op_4 (rd_at 6 sL_law_45)
theorem dL_law_727 : decode cL_law 727 = .ok (.iadd, 1) := op_96 (rd_at 7 sL_law_45)
theorem dL_law_728 : decode cL_law 728 = .ok (.iaload, 1) := op_46 (rd_at 8 sL_law_45)
theorem dL_law_729 : decode cL_law 729 = .ok (.invokevirtual 84, 3) := op_182 (rd_at 9 sL_law_45) rfl
theorem dL_law_732 : decode cL_law 732 = .ok (.pop, 1) := op_87 (rd_at 12 sL_law_45)
theorem dL_law_733 : decode cL_law 733 = .ok (.goto 613, 3) := op_167 (rd_at 13 sL_law_45) rfl
theorem dL_law_736 : decode cL_law 736 = .ok (.aload_n 1, 1) := op_43 sL_law_46
theorem dL_law_737 : decode cL_law 737 = .ok (.aload_n 0, 1) := op_42 (rd_at 1 sL_law_46)
theorem dL_law_738 : decode cL_law 738 = .ok (.iload_n 3, 1) := op_29 (rd_at 2 sL_law_46)
theorem dL_law_739 : decode cL_law 739 = .ok (.iconst 1, 1) := op_4 (rd_at 3 sL_law_46)
theorem dL_law_740 : decode cL_law 740 = .ok (.iadd, 1) := op_96 (rd_at 4 sL_law_46)
theorem dL_law_741 : decode cL_law 741 = .ok (.iaload, 1) := op_46 (rd_at 5 sL_law_46)
theorem dL_law_742 : decode cL_law 742 = .ok (.aload_n 0, 1) := op_42 (rd_at 6 sL_law_46)
theorem dL_law_743 : decode cL_law 743 = .ok (.iload_n 3, 1) := op_29 (rd_at 7 sL_law_46)
theorem dL_law_744 : decode cL_law 744 = .ok (.iconst 2, 1) := op_5 (rd_at 8 sL_law_46)
theorem dL_law_745 : decode cL_law 745 = .ok (.iadd, 1) := op_96 (rd_at 9 sL_law_46)
theorem dL_law_746 : decode cL_law 746 = .ok (.iaload, 1) := op_46 (rd_at 10 sL_law_46)
theorem dL_law_747 : decode cL_law 747 = .ok (.invokevirtual 85, 3) := op_182 (rd_at 11 sL_law_46) rfl
theorem dL_law_750 : decode cL_law 750 = .ok (.pop, 1) := op_87 (rd_at 14 sL_law_46)
theorem dL_law_751 : decode cL_law 751 = .ok (.aload_n 2, 1) := op_44 (rd_at 15 sL_law_46)
theorem dL_law_752 : decode cL_law 752 = .ok (.aload_n 0, 1) := op_42 sL_law_47
theorem dL_law_753 : decode cL_law 753 = .ok (.iload_n 3, 1) := op_29 (rd_at 1 sL_law_47)
theorem dL_law_754 : decode cL_law 754 = .ok (.iconst 1, 1) := op_4 (rd_at 2 sL_law_47)
theorem dL_law_755 : decode cL_law 755 = .ok (.iadd, 1) := op_96 (rd_at 3 sL_law_47)
theorem dL_law_756 : decode cL_law 756 = .ok (.iaload, 1) := op_46 (rd_at 4 sL_law_47)
theorem dL_law_757 : decode cL_law 757 = .ok (.aload_n 0, 1) := op_42 (rd_at 5 sL_law_47)
theorem dL_law_758 : decode cL_law 758 = .ok (.iload_n 3, 1) := op_29 (rd_at 6 sL_law_47)
theorem dL_law_759 : decode cL_law 759 = .ok (.iconst 2, 1) := op_5 (rd_at 7 sL_law_47)
theorem dL_law_760 : decode cL_law 760 = .ok (.iadd, 1) := op_96 (rd_at 8 sL_law_47)
theorem dL_law_761 : decode cL_law 761 = .ok (.iaload, 1) := op_46 (rd_at 9 sL_law_47)
theorem dL_law_762 : decode cL_law 762 = .ok (.invokevirtual 88, 3) := op_182 (rd_at 10 sL_law_47) rfl
theorem dL_law_765 : decode cL_law 765 = .ok (.pop, 1) := op_87 (rd_at 13 sL_law_47)
theorem dL_law_766 : decode cL_law 766 = .ok (.goto 580, 3) := op_167 (rd_at 14 sL_law_47) rfl
theorem dL_law_769 : decode cL_law 769 = .ok (.aload_n 1, 1) := op_43 (rd_at 1 sL_law_48)
theorem dL_law_770 : decode cL_law 770 = .ok (.aload_n 0, 1) := op_42 (rd_at 2 sL_law_48)
theorem dL_law_771 : decode cL_law 771 = .ok (.iload_n 3, 1) := op_29 (rd_at 3 sL_law_48)
theorem dL_law_772 : decode cL_law 772 = .ok (.iconst 1, 1) := op_4 (rd_at 4 sL_law_48)
theorem dL_law_773 : decode cL_law 773 = .ok (.iadd, 1) := op_96 (rd_at 5 sL_law_48)
theorem dL_law_774 : decode cL_law 774 = .ok (.iaload, 1) := op_46 (rd_at 6 sL_law_48)
theorem dL_law_775 : decode cL_law 775 = .ok (.invokevirtual 89, 3) := op_182 (rd_at 7 sL_law_48) rfl
theorem dL_law_778 : decode cL_law 778 = .ok (.pop, 1) := op_87 (rd_at 10 sL_law_48)
theorem dL_law_779 : decode cL_law 779 = .ok (.aload_n 2, 1) := op_44 (rd_at 11 sL_law_48)
theorem dL_law_780 : decode cL_law 780 = .ok (.aload_n 0, 1) := op_42 (rd_at 12 sL_law_48)
theorem dL_law_781 : decode cL_law 781 = .ok (.iload_n 3, 1) := op_29 (rd_at 13 sL_law_48)
theorem dL_law_782 : decode cL_law 782 = .ok (.iconst 1, 1) := op_4 (rd_at 14 sL_law_48)
theorem dL_law_783 : decode cL_law 783 = .ok (.iadd, 1) := op_96 (rd_at 15 sL_law_48)
theorem dL_law_784 : decode cL_law 784 = .ok (.iaload, 1) := op_46 sL_law_49
theorem dL_law_785 : decode cL_law 785 = .ok (.invokevirtual 92, 3) := op_182 (rd_at 1 sL_law_49) rfl
theorem dL_law_788 : decode cL_law 788 = .ok (.pop, 1) := op_87 (rd_at 4 sL_law_49)
theorem dL_law_789 : decode cL_law 789 = .ok (.goto 557, 3) := op_167 (rd_at 5 sL_law_49) rfl
theorem dL_law_792 : decode cL_law 792 = .ok (.aload_n 1, 1) := op_43 (rd_at 8 sL_law_49)
theorem dL_law_793 : decode cL_law 793 = .ok (.aload_n 0, 1) := op_42 (rd_at 9 sL_law_49)
theorem dL_law_794 : decode cL_law 794 = .ok (.iload_n 3, 1) := op_29 (rd_at 10 sL_law_49)
theorem dL_law_795 : decode cL_law 795 = .ok (.iconst 1, 1) := op_4 (rd_at 11 sL_law_49)
theorem dL_law_796 : decode cL_law 796 = .ok (.iadd, 1) := op_96 (rd_at 12 sL_law_49)
theorem dL_law_797 : decode cL_law 797 = .ok (.iaload, 1) := op_46 (rd_at 13 sL_law_49)
theorem dL_law_798 : decode cL_law 798 = .ok (.invokevirtual 93, 3) := op_182 (rd_at 14 sL_law_49) rfl
theorem dL_law_801 : decode cL_law 801 = .ok (.pop, 1) := op_87 (rd_at 1 sL_law_50)
theorem dL_law_802 : decode cL_law 802 = .ok (.aload_n 2, 1) := op_44 (rd_at 2 sL_law_50)
theorem dL_law_803 : decode cL_law 803 = .ok (.aload_n 0, 1) := op_42 (rd_at 3 sL_law_50)
theorem dL_law_804 : decode cL_law 804 = .ok (.iload_n 3, 1) := op_29 (rd_at 4 sL_law_50)
theorem dL_law_805 : decode cL_law 805 = .ok (.iconst 1, 1) := op_4 (rd_at 5 sL_law_50)
theorem dL_law_806 : decode cL_law 806 = .ok (.iadd, 1) := op_96 (rd_at 6 sL_law_50)
theorem dL_law_807 : decode cL_law 807 = .ok (.iaload, 1) := op_46 (rd_at 7 sL_law_50)
theorem dL_law_808 : decode cL_law 808 = .ok (.invokevirtual 96, 3) := op_182 (rd_at 8 sL_law_50) rfl
theorem dL_law_811 : decode cL_law 811 = .ok (.pop, 1) := op_87 (rd_at 11 sL_law_50)
theorem dL_law_812 : decode cL_law 812 = .ok (.goto 534, 3) := op_167 (rd_at 12 sL_law_50) rfl
theorem dL_law_815 : decode cL_law 815 = .ok (.aload_n 1, 1) := op_43 (rd_at 15 sL_law_50)
theorem dL_law_816 : decode cL_law 816 = .ok (.aload_n 0, 1) := op_42 sL_law_51
theorem dL_law_817 : decode cL_law 817 = .ok (.iload_n 3, 1) := op_29 (rd_at 1 sL_law_51)
theorem dL_law_818 : decode cL_law 818 = .ok (.iconst 1, 1) := op_4 (rd_at 2 sL_law_51)
theorem dL_law_819 : decode cL_law 819 = .ok (.iadd, 1) := op_96 (rd_at 3 sL_law_51)
theorem dL_law_820 : decode cL_law 820 = .ok (.iaload, 1) := op_46 (rd_at 4 sL_law_51)
theorem dL_law_821 : decode cL_law 821 = .ok (.aload_n 0, 1) := op_42 (rd_at 5 sL_law_51)
theorem dL_law_822 : decode cL_law 822 = .ok (.iload_n 3, 1) := op_29 (rd_at 6 sL_law_51)
theorem dL_law_823 : decode cL_law 823 = .ok (.iconst 2, 1) := op_5 (rd_at 7 sL_law_51)
theorem dL_law_824 : decode cL_law 824 = .ok (.iadd, 1) := op_96 (rd_at 8 sL_law_51)
theorem dL_law_825 : decode cL_law 825 = .ok (.iaload, 1) := op_46 (rd_at 9 sL_law_51)
theorem dL_law_826 : decode cL_law 826 = .ok (.invokevirtual 97, 3) := op_182 (rd_at 10 sL_law_51) rfl
theorem dL_law_829 : decode cL_law 829 = .ok (.pop, 1) := op_87 (rd_at 13 sL_law_51)
theorem dL_law_830 : decode cL_law 830 = .ok (.aload_n 2, 1) := op_44 (rd_at 14 sL_law_51)
theorem dL_law_831 : decode cL_law 831 = .ok (.aload_n 0, 1) := op_42 (rd_at 15 sL_law_51)
theorem dL_law_832 : decode cL_law 832 = .ok (.iload_n 3, 1) := op_29 sL_law_52
theorem dL_law_833 : decode cL_law 833 = .ok (.iconst 1, 1) := op_4 (rd_at 1 sL_law_52)
theorem dL_law_834 : decode cL_law 834 = .ok (.iadd, 1) := op_96 (rd_at 2 sL_law_52)
theorem dL_law_835 : decode cL_law 835 = .ok (.iaload, 1) := op_46 (rd_at 3 sL_law_52)
theorem dL_law_836 : decode cL_law 836 = .ok (.aload_n 0, 1) := op_42 (rd_at 4 sL_law_52)
theorem dL_law_837 : decode cL_law 837 = .ok (.iload_n 3, 1) := op_29 (rd_at 5 sL_law_52)
theorem dL_law_838 : decode cL_law 838 = .ok (.iconst 2, 1) := op_5 (rd_at 6 sL_law_52)
theorem dL_law_839 : decode cL_law 839 = .ok (.iadd, 1) := op_96 (rd_at 7 sL_law_52)
theorem dL_law_840 : decode cL_law 840 = .ok (.iaload, 1) := op_46 (rd_at 8 sL_law_52)
theorem dL_law_841 : decode cL_law 841 = .ok (.invokevirtual 100, 3) := op_182 (rd_at 9 sL_law_52) rfl
theorem dL_law_844 : decode cL_law 844 = .ok (.pop, 1) := op_87 (rd_at 12 sL_law_52)
theorem dL_law_845 : decode cL_law 845 = .ok (.goto 501, 3) := op_167 (rd_at 13 sL_law_52) rfl
theorem dL_law_848 : decode cL_law 848 = .ok (.aload_n 1, 1) := op_43 sL_law_53
theorem dL_law_849 : decode cL_law 849 = .ok (.aload_n 0, 1) := op_42 (rd_at 1 sL_law_53)
theorem dL_law_850 : decode cL_law 850 = .ok (.iload_n 3, 1) := op_29 (rd_at 2 sL_law_53)
theorem dL_law_851 : decode cL_law 851 = .ok (.iconst 1, 1) := op_4 (rd_at 3 sL_law_53)
theorem dL_law_852 : decode cL_law 852 = .ok (.iadd, 1) := op_96 (rd_at 4 sL_law_53)
theorem dL_law_853 : decode cL_law 853 = .ok (.iaload, 1) := op_46 (rd_at 5 sL_law_53)
theorem dL_law_854 : decode cL_law 854 = .ok (.aload_n 0, 1) := op_42 (rd_at 6 sL_law_53)
theorem dL_law_855 : decode cL_law 855 = .ok (.iload_n 3, 1) := op_29 (rd_at 7 sL_law_53)
theorem dL_law_856 : decode cL_law 856 = .ok (.iconst 2, 1) := op_5 (rd_at 8 sL_law_53)
theorem dL_law_857 : decode cL_law 857 = .ok (.iadd, 1) := op_96 (rd_at 9 sL_law_53)
theorem dL_law_858 : decode cL_law 858 = .ok (.iaload, 1) := op_46 (rd_at 10 sL_law_53)
theorem dL_law_859 : decode cL_law 859 = .ok (.invokevirtual 101, 3) := op_182 (rd_at 11 sL_law_53) rfl
theorem dL_law_862 : decode cL_law 862 = .ok (.pop, 1) := op_87 (rd_at 14 sL_law_53)
theorem dL_law_863 : decode cL_law 863 = .ok (.aload_n 2, 1) := op_44 (rd_at 15 sL_law_53)
theorem dL_law_864 : decode cL_law 864 = .ok (.aload_n 0, 1) := op_42 sL_law_54
theorem dL_law_865 : decode cL_law 865 = .ok (.iload_n 3, 1) := op_29 (rd_at 1 sL_law_54)
theorem dL_law_866 : decode cL_law 866 = .ok (.iconst 1, 1) := op_4 (rd_at 2 sL_law_54)
theorem dL_law_867 : decode cL_law 867 = .ok (.iadd, 1) := op_96 (rd_at 3 sL_law_54)
theorem dL_law_868 : decode cL_law 868 = .ok (.iaload, 1) := op_46 (rd_at 4 sL_law_54)
theorem dL_law_869 : decode cL_law 869 = .ok (.aload_n 0, 1) := op_42 (rd_at 5 sL_law_54)
theorem dL_law_870 : decode cL_law 870 = .ok (.iload_n 3, 1) := op_29 (rd_at 6 sL_law_54)
theorem dL_law_871 : decode cL_law 871 = .ok (.iconst 2, 1) := op_5 (rd_at 7 sL_law_54)
theorem dL_law_872 : decode cL_law 872 = .ok (.iadd, 1) := op_96 (rd_at 8 sL_law_54)
theorem dL_law_873 : decode cL_law 873 = .ok (.iaload, 1) := op_46 (rd_at 9 sL_law_54)
theorem dL_law_874 : decode cL_law 874 = .ok (.invokevirtual 104, 3) := op_182 (rd_at 10 sL_law_54) rfl
theorem dL_law_877 : decode cL_law 877 = .ok (.pop, 1) := op_87 (rd_at 13 sL_law_54)
theorem dL_law_878 : decode cL_law 878 = .ok (.goto 468, 3) := op_167 (rd_at 14 sL_law_54) rfl
theorem dL_law_881 : decode cL_law 881 = .ok (.aload_n 1, 1) := op_43 (rd_at 1 sL_law_55)
theorem dL_law_882 : decode cL_law 882 = .ok (.invokevirtual 105, 3) := op_182 (rd_at 2 sL_law_55) rfl
theorem dL_law_885 : decode cL_law 885 = .ok (.pop, 1) := op_87 (rd_at 5 sL_law_55)
theorem dL_law_886 : decode cL_law 886 = .ok (.aload_n 2, 1) := op_44 (rd_at 6 sL_law_55)
theorem dL_law_887 : decode cL_law 887 = .ok (.invokevirtual 108, 3) := op_182 (rd_at 7 sL_law_55) rfl
theorem dL_law_890 : decode cL_law 890 = .ok (.pop, 1) := op_87 (rd_at 10 sL_law_55)
theorem dL_law_891 : decode cL_law 891 = .ok (.goto 455, 3) := op_167 (rd_at 11 sL_law_55) rfl
theorem dL_law_894 : decode cL_law 894 = .ok (.aload_n 1, 1) := op_43 (rd_at 14 sL_law_55)
theorem dL_law_895 : decode cL_law 895 = .ok (.invokevirtual 109, 3) := op_182 (rd_at 15 sL_law_55) rfl
theorem dL_law_898 : decode cL_law 898 = .ok (.pop, 1) := op_87 (rd_at 2 sL_law_56)
theorem dL_law_899 : decode cL_law 899 = .ok (.aload_n 2, 1) := op_44 (rd_at 3 sL_law_56)
theorem dL_law_900 : decode cL_law 900 = .ok (.invokevirtual 112, 3) := op_182 (rd_at 4 sL_law_56) rfl
theorem dL_law_903 : decode cL_law 903 = .ok (.pop, 1) := op_87 (rd_at 7 sL_law_56)
theorem dL_law_904 : decode cL_law 904 = .ok (.goto 442, 3) := op_167 (rd_at 8 sL_law_56) rfl
theorem dL_law_907 : decode cL_law 907 = .ok (.aload_n 1, 1) := op_43 (rd_at 11 sL_law_56)
theorem dL_law_908 : decode cL_law 908 = .ok (.aload_n 0, 1) := op_42 (rd_at 12 sL_law_56)
theorem dL_law_909 : decode cL_law 909 = .ok (.iload_n 3, 1) := op_29 (rd_at 13 sL_law_56)
theorem dL_law_910 : decode cL_law 910 = .ok (.iconst 1, 1) := op_4 (rd_at 14 sL_law_56)
theorem dL_law_911 : decode cL_law 911 = .ok (.iadd, 1) := op_96 (rd_at 15 sL_law_56)
theorem dL_law_912 : decode cL_law 912 = .ok (.iaload, 1) := op_46 sL_law_57
theorem dL_law_913 : decode cL_law 913 = .ok (.aload_n 0, 1) := op_42 (rd_at 1 sL_law_57)
theorem dL_law_914 : decode cL_law 914 = .ok (.iload_n 3, 1) := op_29 (rd_at 2 sL_law_57)
theorem dL_law_915 : decode cL_law 915 = .ok (.iconst 2, 1) := op_5 (rd_at 3 sL_law_57)
theorem dL_law_916 : decode cL_law 916 = .ok (.iadd, 1) := op_96 (rd_at 4 sL_law_57)
theorem dL_law_917 : decode cL_law 917 = .ok (.iaload, 1) := op_46 (rd_at 5 sL_law_57)
theorem dL_law_918 : decode cL_law 918 = .ok (.aload_n 0, 1) := op_42 (rd_at 6 sL_law_57)
theorem dL_law_919 : decode cL_law 919 = .ok (.iload_n 3, 1) := op_29 (rd_at 7 sL_law_57)
theorem dL_law_920 : decode cL_law 920 = .ok (.iconst 3, 1) := op_6 (rd_at 8 sL_law_57)
theorem dL_law_921 : decode cL_law 921 = .ok (.iadd, 1) := op_96 (rd_at 9 sL_law_57)
theorem dL_law_922 : decode cL_law 922 = .ok (.iaload, 1) := op_46 (rd_at 10 sL_law_57)
theorem dL_law_923 : decode cL_law 923 = .ok (.invokevirtual 113, 3) := op_182 (rd_at 11 sL_law_57) rfl
theorem dL_law_926 : decode cL_law 926 = .ok (.pop, 1) := op_87 (rd_at 14 sL_law_57)
theorem dL_law_927 : decode cL_law 927 = .ok (.aload_n 2, 1) := op_44 (rd_at 15 sL_law_57)
theorem dL_law_928 : decode cL_law 928 = .ok (.aload_n 0, 1) := op_42 sL_law_58
theorem dL_law_929 : decode cL_law 929 = .ok (.iload_n 3, 1) := op_29 (rd_at 1 sL_law_58)
theorem dL_law_930 : decode cL_law 930 = .ok (.iconst 1, 1) := op_4 (rd_at 2 sL_law_58)
theorem dL_law_931 : decode cL_law 931 = .ok (.iadd, 1) := op_96 (rd_at 3 sL_law_58)
theorem dL_law_932 : decode cL_law 932 = .ok (.iaload, 1) := op_46 (rd_at 4 sL_law_58)
theorem dL_law_933 : decode cL_law 933 = .ok (.aload_n 0, 1) := op_42 (rd_at 5 sL_law_58)
theorem dL_law_934 : decode cL_law 934 = .ok (.iload_n 3, 1) := op_29 (rd_at 6 sL_law_58)
theorem dL_law_935 : decode cL_law 935 = .ok (.iconst 2, 1) := op_5 (rd_at 7 sL_law_58)
theorem dL_law_936 : decode cL_law 936 = .ok (.iadd, 1) := op_96 (rd_at 8 sL_law_58)
theorem dL_law_937 : decode cL_law 937 = .ok (.iaload, 1) := op_46 (rd_at 9 sL_law_58)
theorem dL_law_938 : decode cL_law 938 = .ok (.aload_n 0, 1) := op_42 (rd_at 10 sL_law_58)
theorem dL_law_939 : decode cL_law 939 = .ok (.iload_n 3, 1) := op_29 (rd_at 11 sL_law_58)
theorem dL_law_940 : decode cL_law 940 = .ok (.iconst 3, 1) := op_6 (rd_at 12 sL_law_58)
theorem dL_law_941 : decode cL_law 941 = .ok (.iadd, 1) := op_96 (rd_at 13 sL_law_58)
theorem dL_law_942 : decode cL_law 942 = .ok (.iaload, 1) := op_46 (rd_at 14 sL_law_58)
theorem dL_law_943 : decode cL_law 943 = .ok (.invokevirtual 116, 3) := op_182 (rd_at 15 sL_law_58) rfl
theorem dL_law_946 : decode cL_law 946 = .ok (.pop, 1) := op_87 (rd_at 2 sL_law_59)
theorem dL_law_947 : decode cL_law 947 = .ok (.goto 399, 3) := op_167 (rd_at 3 sL_law_59) rfl
theorem dL_law_950 : decode cL_law 950 = .ok (.aload_n 1, 1) := op_43 (rd_at 6 sL_law_59)
theorem dL_law_951 : decode cL_law 951 = .ok (.aload_n 0, 1) := op_42 (rd_at 7 sL_law_59)
theorem dL_law_952 : decode cL_law 952 = .ok (.iload_n 3, 1) := op_29 (rd_at 8 sL_law_59)
theorem dL_law_953 : decode cL_law 953 = .ok (.iconst 1, 1) := op_4 (rd_at 9 sL_law_59)
theorem dL_law_954 : decode cL_law 954 = .ok (.iadd, 1) := op_96 (rd_at 10 sL_law_59)
theorem dL_law_955 : decode cL_law 955 = .ok (.iaload, 1) := op_46 (rd_at 11 sL_law_59)
theorem dL_law_956 : decode cL_law 956 = .ok (.aload_n 0, 1) := op_42 (rd_at 12 sL_law_59)
theorem dL_law_957 : decode cL_law 957 = .ok (.iload_n 3, 1) := op_29 (rd_at 13 sL_law_59)
theorem dL_law_958 : decode cL_law 958 = .ok (.iconst 2, 1) := op_5 (rd_at 14 sL_law_59)
theorem dL_law_959 : decode cL_law 959 = .ok (.iadd, 1) := op_96 (rd_at 15 sL_law_59)
theorem dL_law_960 : decode cL_law 960 = .ok (.iaload, 1) := op_46 sL_law_60
theorem dL_law_961 : decode cL_law 961 = .ok (.aload_n 0, 1) := op_42 (rd_at 1 sL_law_60)
theorem dL_law_962 : decode cL_law 962 = .ok (.iload_n 3, 1) := op_29 (rd_at 2 sL_law_60)
theorem dL_law_963 : decode cL_law 963 = .ok (.iconst 3, 1) := op_6 (rd_at 3 sL_law_60)
theorem dL_law_964 : decode cL_law 964 = .ok (.iadd, 1) := op_96 (rd_at 4 sL_law_60)
theorem dL_law_965 : decode cL_law 965 = .ok (.iaload, 1) := op_46 (rd_at 5 sL_law_60)
theorem dL_law_966 : decode cL_law 966 = .ok (.invokevirtual 117, 3) := op_182 (rd_at 6 sL_law_60) rfl
theorem dL_law_969 : decode cL_law 969 = .ok (.pop, 1) := op_87 (rd_at 9 sL_law_60)
theorem dL_law_970 : decode cL_law 970 = .ok (.aload_n 2, 1) := op_44 (rd_at 10 sL_law_60)
theorem dL_law_971 : decode cL_law 971 = .ok (.aload_n 0, 1) := op_42 (rd_at 11 sL_law_60)
theorem dL_law_972 : decode cL_law 972 = .ok (.iload_n 3, 1) := op_29 (rd_at 12 sL_law_60)
theorem dL_law_973 : decode cL_law 973 = .ok (.iconst 1, 1) := op_4 (rd_at 13 sL_law_60)
theorem dL_law_974 : decode cL_law 974 = .ok (.iadd, 1) := op_96 (rd_at 14 sL_law_60)
theorem dL_law_975 : decode cL_law 975 = .ok (.iaload, 1) := op_46 (rd_at 15 sL_law_60)
theorem dL_law_976 : decode cL_law 976 = .ok (.aload_n 0, 1) := op_42 sL_law_61
theorem dL_law_977 : decode cL_law 977 = .ok (.iload_n 3, 1) := op_29 (rd_at 1 sL_law_61)
theorem dL_law_978 : decode cL_law 978 = .ok (.iconst 2, 1) := op_5 (rd_at 2 sL_law_61)
theorem dL_law_979 : decode cL_law 979 = .ok (.iadd, 1) := op_96 (rd_at 3 sL_law_61)
theorem dL_law_980 : decode cL_law 980 = .ok (.iaload, 1) := op_46 (rd_at 4 sL_law_61)
theorem dL_law_981 : decode cL_law 981 = .ok (.aload_n 0, 1) := op_42 (rd_at 5 sL_law_61)
theorem dL_law_982 : decode cL_law 982 = .ok (.iload_n 3, 1) := op_29 (rd_at 6 sL_law_61)
theorem dL_law_983 : decode cL_law 983 = .ok (.iconst 3, 1) := op_6 (rd_at 7 sL_law_61)
theorem dL_law_984 : decode cL_law 984 = .ok (.iadd, 1) := op_96 (rd_at 8 sL_law_61)
theorem dL_law_985 : decode cL_law 985 = .ok (.iaload, 1) := op_46 (rd_at 9 sL_law_61)
theorem dL_law_986 : decode cL_law 986 = .ok (.invokevirtual 120, 3) := op_182 (rd_at 10 sL_law_61) rfl
theorem dL_law_989 : decode cL_law 989 = .ok (.pop, 1) := op_87 (rd_at 13 sL_law_61)
theorem dL_law_990 : decode cL_law 990 = .ok (.goto 356, 3) := op_167 (rd_at 14 sL_law_61) rfl
theorem dL_law_993 : decode cL_law 993 = .ok (.aload_n 1, 1) := op_43 (rd_at 1 sL_law_62)
theorem dL_law_994 : decode cL_law 994 = .ok (.aload_n 0, 1) := op_42 (rd_at 2 sL_law_62)
theorem dL_law_995 : decode cL_law 995 = .ok (.iload_n 3, 1) := op_29 (rd_at 3 sL_law_62)
theorem dL_law_996 : decode cL_law 996 = .ok (.iconst 1, 1) := op_4 (rd_at 4 sL_law_62)
theorem dL_law_997 : decode cL_law 997 = .ok (.iadd, 1) := op_96 (rd_at 5 sL_law_62)
theorem dL_law_998 : decode cL_law 998 = .ok (.iaload, 1) := op_46 (rd_at 6 sL_law_62)
theorem dL_law_999 : decode cL_law 999 = .ok (.aload_n 0, 1) := op_42 (rd_at 7 sL_law_62)
theorem dL_law_1000 : decode cL_law 1000 = .ok (.iload_n 3, 1) := op_29 (rd_at 8 sL_law_62)
theorem dL_law_1001 : decode cL_law 1001 = .ok (.iconst 2, 1) := op_5 (rd_at 9 sL_law_62)
theorem dL_law_1002 : decode cL_law 1002 = .ok (.iadd, 1) := op_96 (rd_at 10 sL_law_62)
theorem dL_law_1003 : decode cL_law 1003 = .ok (.iaload, 1) := op_46 (rd_at 11 sL_law_62)
theorem dL_law_1004 : decode cL_law 1004 = .ok (.aload_n 0, 1) := op_42 (rd_at 12 sL_law_62)
theorem dL_law_1005 : decode cL_law 1005 = .ok (.iload_n 3, 1) := op_29 (rd_at 13 sL_law_62)
theorem dL_law_1006 : decode cL_law 1006 = .ok (.iconst 3, 1) := op_6 (rd_at 14 sL_law_62)
theorem dL_law_1007 : decode cL_law 1007 = .ok (.iadd, 1) := op_96 (rd_at 15 sL_law_62)
theorem dL_law_1008 : decode cL_law 1008 = .ok (.iaload, 1) := op_46 sL_law_63
theorem dL_law_1009 : decode cL_law 1009 = .ok (.invokevirtual 121, 3) := op_182 (rd_at 1 sL_law_63) rfl
theorem dL_law_1012 : decode cL_law 1012 = .ok (.pop, 1) := op_87 (rd_at 4 sL_law_63)
theorem dL_law_1013 : decode cL_law 1013 = .ok (.aload_n 2, 1) := op_44 (rd_at 5 sL_law_63)
theorem dL_law_1014 : decode cL_law 1014 = .ok (.aload_n 0, 1) := op_42 (rd_at 6 sL_law_63)
theorem dL_law_1015 : decode cL_law 1015 = .ok (.iload_n 3, 1) := op_29 (rd_at 7 sL_law_63)
theorem dL_law_1016 : decode cL_law 1016 = .ok (.iconst 1, 1) := op_4 (rd_at 8 sL_law_63)
theorem dL_law_1017 : decode cL_law 1017 = .ok (.iadd, 1) := op_96 (rd_at 9 sL_law_63)
theorem dL_law_1018 : decode cL_law 1018 = .ok (.iaload, 1) := op_46 (rd_at 10 sL_law_63)
theorem dL_law_1019 : decode cL_law 1019 = .ok (.aload_n 0, 1) := op_42 (rd_at 11 sL_law_63)
theorem dL_law_1020 : decode cL_law 1020 = .ok (.iload_n 3, 1) := op_29 (rd_at 12 sL_law_63)
theorem dL_law_1021 : decode cL_law 1021 = .ok (.iconst 2, 1) := op_5 (rd_at 13 sL_law_63)
theorem dL_law_1022 : decode cL_law 1022 = .ok (.iadd, 1) := op_96 (rd_at 14 sL_law_63)
theorem dL_law_1023 : decode cL_law 1023 = .ok (.iaload, 1) := op_46 (rd_at 15 sL_law_63)
theorem dL_law_1024 : decode cL_law 1024 = .ok (.aload_n 0, 1) := op_42 sL_law_64
theorem dL_law_1025 : decode cL_law 1025 = .ok (.iload_n 3, 1) := op_29 (rd_at 1 sL_law_64)
theorem dL_law_1026 : decode cL_law 1026 = .ok (.iconst 3, 1) := op_6 (rd_at 2 sL_law_64)
theorem dL_law_1027 : decode cL_law 1027 = .ok (.iadd, 1) := op_96 (rd_at 3 sL_law_64)
theorem dL_law_1028 : decode cL_law 1028 = .ok (.iaload, 1) := op_46 (rd_at 4 sL_law_64)
theorem dL_law_1029 : decode cL_law 1029 = .ok (.invokevirtual 124, 3) := op_182 (rd_at 5 sL_law_64) rfl
theorem dL_law_1032 : decode cL_law 1032 = .ok (.pop, 1) := op_87 (rd_at 8 sL_law_64)
theorem dL_law_1033 : decode cL_law 1033 = .ok (.goto 313, 3) := op_167 (rd_at 9 sL_law_64) rfl
theorem dL_law_1036 : decode cL_law 1036 = .ok (.aload_n 1, 1) := op_43 (rd_at 12 sL_law_64)
theorem dL_law_1037 : decode cL_law 1037 = .ok (.invokevirtual 125, 3) := op_182 (rd_at 13 sL_law_64) rfl
theorem dL_law_1040 : decode cL_law 1040 = .ok (.aload_n 2, 1) := op_44 sL_law_65
theorem dL_law_1041 : decode cL_law 1041 = .ok (.invokevirtual 128, 3) := op_182 (rd_at 1 sL_law_65) rfl
theorem dL_law_1044 : decode cL_law 1044 = .ok (.if_icmp .eq 302, 3) := op_159 (rd_at 4 sL_law_65) rfl
theorem dL_law_1047 : decode cL_law 1047 = .ok (.iconst 0, 1) := op_3 (rd_at 7 sL_law_65)
theorem dL_law_1048 : decode cL_law 1048 = .ok (.ireturn, 1) := op_172 (rd_at 8 sL_law_65)
theorem dL_law_1049 : decode cL_law 1049 = .ok (.aload_n 1, 1) := op_43 (rd_at 9 sL_law_65)
theorem dL_law_1050 : decode cL_law 1050 = .ok (.aload_n 0, 1) := op_42 (rd_at 10 sL_law_65)
theorem dL_law_1051 : decode cL_law 1051 = .ok (.iload_n 3, 1) := op_29 (rd_at 11 sL_law_65)
theorem dL_law_1052 : decode cL_law 1052 = .ok (.iconst 1, 1) := op_4 (rd_at 12 sL_law_65)
theorem dL_law_1053 : decode cL_law 1053 = .ok (.iadd, 1) := op_96 (rd_at 13 sL_law_65)
theorem dL_law_1054 : decode cL_law 1054 = .ok (.iaload, 1) := op_46 (rd_at 14 sL_law_65)
theorem dL_law_1055 : decode cL_law 1055 = .ok (.invokevirtual 129, 3) := op_182 (rd_at 15 sL_law_65) rfl
theorem dL_law_1058 : decode cL_law 1058 = .ok (.pop, 1) := op_87 (rd_at 2 sL_law_66)
theorem dL_law_1059 : decode cL_law 1059 = .ok (.aload_n 2, 1) := op_44 (rd_at 3 sL_law_66)
theorem dL_law_1060 : decode cL_law 1060 = .ok (.aload_n 0, 1) := op_42 (rd_at 4 sL_law_66)
theorem dL_law_1061 : decode cL_law 1061 = .ok (.iload_n 3, 1) := op_29 (rd_at 5 sL_law_66)
theorem dL_law_1062 : decode cL_law 1062 = .ok (.iconst 1, 1) := op_4 (rd_at 6 sL_law_66)
theorem dL_law_1063 : decode cL_law 1063 = .ok (.iadd, 1) := op_96 (rd_at 7 sL_law_66)
theorem dL_law_1064 : decode cL_law 1064 = .ok (.iaload, 1) := op_46 (rd_at 8 sL_law_66)
theorem dL_law_1065 : decode cL_law 1065 = .ok (.invokevirtual 132, 3) := op_182 (rd_at 9 sL_law_66) rfl
theorem dL_law_1068 : decode cL_law 1068 = .ok (.pop, 1) := op_87 (rd_at 12 sL_law_66)
theorem dL_law_1069 : decode cL_law 1069 = .ok (.goto 277, 3) := op_167 (rd_at 13 sL_law_66) rfl
theorem dL_law_1072 : decode cL_law 1072 = .ok (.aload_n 1, 1) := op_43 sL_law_67
theorem dL_law_1073 : decode cL_law 1073 = .ok (.aload_n 0, 1) := op_42 (rd_at 1 sL_law_67)
theorem dL_law_1074 : decode cL_law 1074 = .ok (.iload_n 3, 1) := op_29 (rd_at 2 sL_law_67)
theorem dL_law_1075 : decode cL_law 1075 = .ok (.iconst 1, 1) := op_4 (rd_at 3 sL_law_67)
theorem dL_law_1076 : decode cL_law 1076 = .ok (.iadd, 1) := op_96 (rd_at 4 sL_law_67)
theorem dL_law_1077 : decode cL_law 1077 = .ok (.iaload, 1) := op_46 (rd_at 5 sL_law_67)
theorem dL_law_1078 : decode cL_law 1078 = .ok (.aload_n 0, 1) := op_42 (rd_at 6 sL_law_67)
theorem dL_law_1079 : decode cL_law 1079 = .ok (.iload_n 3, 1) := op_29 (rd_at 7 sL_law_67)
theorem dL_law_1080 : decode cL_law 1080 = .ok (.iconst 2, 1) := op_5 (rd_at 8 sL_law_67)
theorem dL_law_1081 : decode cL_law 1081 = .ok (.iadd, 1) := op_96 (rd_at 9 sL_law_67)
theorem dL_law_1082 : decode cL_law 1082 = .ok (.iaload, 1) := op_46 (rd_at 10 sL_law_67)
theorem dL_law_1083 : decode cL_law 1083 = .ok (.invokevirtual 133, 3) := op_182 (rd_at 11 sL_law_67) rfl
theorem dL_law_1086 : decode cL_law 1086 = .ok (.pop, 1) := op_87 (rd_at 14 sL_law_67)
theorem dL_law_1087 : decode cL_law 1087 = .ok (.aload_n 2, 1) := op_44 (rd_at 15 sL_law_67)
theorem dL_law_1088 : decode cL_law 1088 = .ok (.aload_n 0, 1) := op_42 sL_law_68
theorem dL_law_1089 : decode cL_law 1089 = .ok (.iload_n 3, 1) := op_29 (rd_at 1 sL_law_68)
theorem dL_law_1090 : decode cL_law 1090 = .ok (.iconst 1, 1) := op_4 (rd_at 2 sL_law_68)
theorem dL_law_1091 : decode cL_law 1091 = .ok (.iadd, 1) := op_96 (rd_at 3 sL_law_68)
theorem dL_law_1092 : decode cL_law 1092 = .ok (.iaload, 1) := op_46 (rd_at 4 sL_law_68)
theorem dL_law_1093 : decode cL_law 1093 = .ok (.aload_n 0, 1) := op_42 (rd_at 5 sL_law_68)
theorem dL_law_1094 : decode cL_law 1094 = .ok (.iload_n 3, 1) := op_29 (rd_at 6 sL_law_68)
theorem dL_law_1095 : decode cL_law 1095 = .ok (.iconst 2, 1) := op_5 (rd_at 7 sL_law_68)
theorem dL_law_1096 : decode cL_law 1096 = .ok (.iadd, 1) := op_96 (rd_at 8 sL_law_68)
theorem dL_law_1097 : decode cL_law 1097 = .ok (.iaload, 1) := op_46 (rd_at 9 sL_law_68)
theorem dL_law_1098 : decode cL_law 1098 = .ok (.invokevirtual 136, 3) := op_182 (rd_at 10 sL_law_68) rfl
theorem dL_law_1101 : decode cL_law 1101 = .ok (.pop, 1) := op_87 (rd_at 13 sL_law_68)
theorem dL_law_1102 : decode cL_law 1102 = .ok (.goto 244, 3) := op_167 (rd_at 14 sL_law_68) rfl
theorem dL_law_1105 : decode cL_law 1105 = .ok (.aload_n 1, 1) := op_43 (rd_at 1 sL_law_69)
theorem dL_law_1106 : decode cL_law 1106 = .ok (.aload_n 0, 1) := op_42 (rd_at 2 sL_law_69)
theorem dL_law_1107 : decode cL_law 1107 = .ok (.iload_n 3, 1) := op_29 (rd_at 3 sL_law_69)
theorem dL_law_1108 : decode cL_law 1108 = .ok (.iconst 1, 1) := op_4 (rd_at 4 sL_law_69)
theorem dL_law_1109 : decode cL_law 1109 = .ok (.iadd, 1) := op_96 (rd_at 5 sL_law_69)
theorem dL_law_1110 : decode cL_law 1110 = .ok (.iaload, 1) := op_46 (rd_at 6 sL_law_69)
theorem dL_law_1111 : decode cL_law 1111 = .ok (.aload_n 0, 1) := op_42 (rd_at 7 sL_law_69)
theorem dL_law_1112 : decode cL_law 1112 = .ok (.iload_n 3, 1) := op_29 (rd_at 8 sL_law_69)
theorem dL_law_1113 : decode cL_law 1113 = .ok (.iconst 2, 1) := op_5 (rd_at 9 sL_law_69)
theorem dL_law_1114 : decode cL_law 1114 = .ok (.iadd, 1) := op_96 (rd_at 10 sL_law_69)
theorem dL_law_1115 : decode cL_law 1115 = .ok (.iaload, 1) := op_46 (rd_at 11 sL_law_69)
theorem dL_law_1116 : decode cL_law 1116 = .ok (.invokevirtual 137, 3) := op_182 (rd_at 12 sL_law_69) rfl
theorem dL_law_1119 : decode cL_law 1119 = .ok (.pop, 1) := op_87 (rd_at 15 sL_law_69)
theorem dL_law_1120 : decode cL_law 1120 = .ok (.aload_n 2, 1) := op_44 sL_law_70
theorem dL_law_1121 : decode cL_law 1121 = .ok (.aload_n 0, 1) := op_42 (rd_at 1 sL_law_70)
theorem dL_law_1122 : decode cL_law 1122 = .ok (.iload_n 3, 1) := op_29 (rd_at 2 sL_law_70)
theorem dL_law_1123 : decode cL_law 1123 = .ok (.iconst 1, 1) := op_4 (rd_at 3 sL_law_70)
theorem dL_law_1124 : decode cL_law 1124 = .ok (.iadd, 1) := op_96 (rd_at 4 sL_law_70)
theorem dL_law_1125 : decode cL_law 1125 = .ok (.iaload, 1) := op_46 (rd_at 5 sL_law_70)
theorem dL_law_1126 : decode cL_law 1126 = .ok (.aload_n 0, 1) := op_42 (rd_at 6 sL_law_70)
theorem dL_law_1127 : decode cL_law 1127 = .ok (.iload_n 3, 1) := op_29 (rd_at 7 sL_law_70)
theorem dL_law_1128 : decode cL_law 1128 = .ok (.iconst 2, 1) := op_5 (rd_at 8 sL_law_70)
theorem dL_law_1129 : decode cL_law 1129 = .ok (.iadd, 1) := op_96 (rd_at 9 sL_law_70)
theorem dL_law_1130 : decode cL_law 1130 = .ok (.iaload, 1) := op_46 (rd_at 10 sL_law_70)
theorem dL_law_1131 : decode cL_law 1131 = .ok (.invokevirtual 140, 3) := op_182 (rd_at 11 sL_law_70) rfl
theorem dL_law_1134 : decode cL_law 1134 = .ok (.pop, 1) := op_87 (rd_at 14 sL_law_70)
theorem dL_law_1135 : decode cL_law 1135 = .ok (.goto 211, 3) := op_167 (rd_at 15 sL_law_70) rfl
theorem dL_law_1138 : decode cL_law 1138 = .ok (.aload_n 1, 1) := op_43 (rd_at 2 sL_law_71)
theorem dL_law_1139 : decode cL_law 1139 = .ok (.aload_n 0, 1) := op_42 (rd_at 3 sL_law_71)
theorem dL_law_1140 : decode cL_law 1140 = .ok (.iload_n 3, 1) := op_29 (rd_at 4 sL_law_71)
theorem dL_law_1141 : decode cL_law 1141 = .ok (.iconst 1, 1) := op_4 (rd_at 5 sL_law_71)
theorem dL_law_1142 : decode cL_law 1142 = .ok (.iadd, 1) := op_96 (rd_at 6 sL_law_71)
theorem dL_law_1143 : decode cL_law 1143 = .ok (.iaload, 1) := op_46 (rd_at 7 sL_law_71)
theorem dL_law_1144 : decode cL_law 1144 = .ok (.aload_n 0, 1) := op_42 (rd_at 8 sL_law_71)
theorem dL_law_1145 : decode cL_law 1145 = .ok (.iload_n 3, 1) := op_29 (rd_at 9 sL_law_71)
theorem dL_law_1146 : decode cL_law 1146 = .ok (.iconst 2, 1) := op_5 (rd_at 10 sL_law_71)
theorem dL_law_1147 : decode cL_law 1147 = .ok (.iadd, 1) := op_96 (rd_at 11 sL_law_71)
theorem dL_law_1148 : decode cL_law 1148 = .ok (.iaload, 1) := op_46 (rd_at 12 sL_law_71)
theorem dL_law_1149 : decode cL_law 1149 = .ok (.aload_n 0, 1) := op_42 (rd_at 13 sL_law_71)
theorem dL_law_1150 : decode cL_law 1150 = .ok (.iload_n 3, 1) := op_29 (rd_at 14 sL_law_71)
theorem dL_law_1151 : decode cL_law 1151 = .ok (.iconst 3, 1) := op_6 (rd_at 15 sL_law_71)
theorem dL_law_1152 : decode cL_law 1152 = .ok (.iadd, 1) := op_96 sL_law_72
theorem dL_law_1153 : decode cL_law 1153 = .ok (.iaload, 1) := op_46 (rd_at 1 sL_law_72)
theorem dL_law_1154 : decode cL_law 1154 = .ok (.aload_n 0, 1) := op_42 (rd_at 2 sL_law_72)
theorem dL_law_1155 : decode cL_law 1155 = .ok (.iload_n 3, 1) := op_29 (rd_at 3 sL_law_72)
theorem dL_law_1156 : decode cL_law 1156 = .ok (.iconst 4, 1) := op_7 (rd_at 4 sL_law_72)
theorem dL_law_1157 : decode cL_law 1157 = .ok (.iadd, 1) := op_96 (rd_at 5 sL_law_72)
theorem dL_law_1158 : decode cL_law 1158 = .ok (.iaload, 1) := op_46 (rd_at 6 sL_law_72)
theorem dL_law_1159 : decode cL_law 1159 = .ok (.invokevirtual 141, 3) := op_182 (rd_at 7 sL_law_72) rfl
theorem dL_law_1162 : decode cL_law 1162 = .ok (.pop, 1) := op_87 (rd_at 10 sL_law_72)
theorem dL_law_1163 : decode cL_law 1163 = .ok (.aload_n 2, 1) := op_44 (rd_at 11 sL_law_72)
theorem dL_law_1164 : decode cL_law 1164 = .ok (.aload_n 0, 1) := op_42 (rd_at 12 sL_law_72)
theorem dL_law_1165 : decode cL_law 1165 = .ok (.iload_n 3, 1) := op_29 (rd_at 13 sL_law_72)
theorem dL_law_1166 : decode cL_law 1166 = .ok (.iconst 1, 1) := op_4 (rd_at 14 sL_law_72)
theorem dL_law_1167 : decode cL_law 1167 = .ok (.iadd, 1) := op_96 (rd_at 15 sL_law_72)
theorem dL_law_1168 : decode cL_law 1168 = .ok (.iaload, 1) := op_46 sL_law_73
theorem dL_law_1169 : decode cL_law 1169 = .ok (.aload_n 0, 1) := op_42 (rd_at 1 sL_law_73)
theorem dL_law_1170 : decode cL_law 1170 = .ok (.iload_n 3, 1) := op_29 (rd_at 2 sL_law_73)
theorem dL_law_1171 : decode cL_law 1171 = .ok (.iconst 2, 1) := op_5 (rd_at 3 sL_law_73)
theorem dL_law_1172 : decode cL_law 1172 = .ok (.iadd, 1) := op_96 (rd_at 4 sL_law_73)
theorem dL_law_1173 : decode cL_law 1173 = .ok (.iaload, 1) := op_46 (rd_at 5 sL_law_73)
theorem dL_law_1174 : decode cL_law 1174 = .ok (.aload_n 0, 1) := op_42 (rd_at 6 sL_law_73)
theorem dL_law_1175 : decode cL_law 1175 = .ok (.iload_n 3, 1) := op_29 (rd_at 7 sL_law_73)
theorem dL_law_1176 : decode cL_law 1176 = .ok (.iconst 3, 1) := op_6 (rd_at 8 sL_law_73)
theorem dL_law_1177 : decode cL_law 1177 = .ok (.iadd, 1) := op_96 (rd_at 9 sL_law_73)
theorem dL_law_1178 : decode cL_law 1178 = .ok (.iaload, 1) := op_46 (rd_at 10 sL_law_73)
theorem dL_law_1179 : decode cL_law 1179 = .ok (.aload_n 0, 1) := op_42 (rd_at 11 sL_law_73)
theorem dL_law_1180 : decode cL_law 1180 = .ok (.iload_n 3, 1) := op_29 (rd_at 12 sL_law_73)
theorem dL_law_1181 : decode cL_law 1181 = .ok (.iconst 4, 1) := op_7 (rd_at 13 sL_law_73)
theorem dL_law_1182 : decode cL_law 1182 = .ok (.iadd, 1) := op_96 (rd_at 14 sL_law_73)
theorem dL_law_1183 : decode cL_law 1183 = .ok (.iaload, 1) := op_46 (rd_at 15 sL_law_73)
theorem dL_law_1184 : decode cL_law 1184 = .ok (.invokevirtual 144, 3) := op_182 sL_law_74 rfl
theorem dL_law_1187 : decode cL_law 1187 = .ok (.pop, 1) := op_87 (rd_at 3 sL_law_74)
theorem dL_law_1188 : decode cL_law 1188 = .ok (.goto 158, 3) := op_167 (rd_at 4 sL_law_74) rfl
theorem dL_law_1191 : decode cL_law 1191 = .ok (.aload_n 1, 1) := op_43 (rd_at 7 sL_law_74)
theorem dL_law_1192 : decode cL_law 1192 = .ok (.aload_n 0, 1) := op_42 (rd_at 8 sL_law_74)
theorem dL_law_1193 : decode cL_law 1193 = .ok (.iload_n 3, 1) := op_29 (rd_at 9 sL_law_74)
theorem dL_law_1194 : decode cL_law 1194 = .ok (.iconst 1, 1) := op_4 (rd_at 10 sL_law_74)
theorem dL_law_1195 : decode cL_law 1195 = .ok (.iadd, 1) := op_96 (rd_at 11 sL_law_74)
theorem dL_law_1196 : decode cL_law 1196 = .ok (.iaload, 1) := op_46 (rd_at 12 sL_law_74)
theorem dL_law_1197 : decode cL_law 1197 = .ok (.aload_n 0, 1) := op_42 (rd_at 13 sL_law_74)
theorem dL_law_1198 : decode cL_law 1198 = .ok (.iload_n 3, 1) := op_29 (rd_at 14 sL_law_74)
theorem dL_law_1199 : decode cL_law 1199 = .ok (.iconst 2, 1) := op_5 (rd_at 15 sL_law_74)
theorem dL_law_1200 : decode cL_law 1200 = .ok (.iadd, 1) := op_96 sL_law_75
theorem dL_law_1201 : decode cL_law 1201 = .ok (.iaload, 1) := op_46 (rd_at 1 sL_law_75)
theorem dL_law_1202 : decode cL_law 1202 = .ok (.aload_n 0, 1) := op_42 (rd_at 2 sL_law_75)
theorem dL_law_1203 : decode cL_law 1203 = .ok (.iload_n 3, 1) := op_29 (rd_at 3 sL_law_75)
theorem dL_law_1204 : decode cL_law 1204 = .ok (.iconst 3, 1) := op_6 (rd_at 4 sL_law_75)
theorem dL_law_1205 : decode cL_law 1205 = .ok (.iadd, 1) := op_96 (rd_at 5 sL_law_75)
theorem dL_law_1206 : decode cL_law 1206 = .ok (.iaload, 1) := op_46 (rd_at 6 sL_law_75)
theorem dL_law_1207 : decode cL_law 1207 = .ok (.aload_n 0, 1) := op_42 (rd_at 7 sL_law_75)
theorem dL_law_1208 : decode cL_law 1208 = .ok (.iload_n 3, 1) := op_29 (rd_at 8 sL_law_75)
theorem dL_law_1209 : decode cL_law 1209 = .ok (.iconst 4, 1) := op_7 (rd_at 9 sL_law_75)
theorem dL_law_1210 : decode cL_law 1210 = .ok (.iadd, 1) := op_96 (rd_at 10 sL_law_75)
theorem dL_law_1211 : decode cL_law 1211 = .ok (.iaload, 1) := op_46 (rd_at 11 sL_law_75)
theorem dL_law_1212 : decode cL_law 1212 = .ok (.invokevirtual 145, 3) := op_182 (rd_at 12 sL_law_75) rfl
theorem dL_law_1215 : decode cL_law 1215 = .ok (.pop, 1) := op_87 (rd_at 15 sL_law_75)
theorem dL_law_1216 : decode cL_law 1216 = .ok (.aload_n 2, 1) := op_44 sL_law_76
theorem dL_law_1217 : decode cL_law 1217 = .ok (.aload_n 0, 1) := op_42 (rd_at 1 sL_law_76)
theorem dL_law_1218 : decode cL_law 1218 = .ok (.iload_n 3, 1) := op_29 (rd_at 2 sL_law_76)
theorem dL_law_1219 : decode cL_law 1219 = .ok (.iconst 1, 1) := op_4 (rd_at 3 sL_law_76)
theorem dL_law_1220 : decode cL_law 1220 = .ok (.iadd, 1) := op_96 (rd_at 4 sL_law_76)
theorem dL_law_1221 : decode cL_law 1221 = .ok (.iaload, 1) := op_46 (rd_at 5 sL_law_76)
theorem dL_law_1222 : decode cL_law 1222 = .ok (.aload_n 0, 1) := op_42 (rd_at 6 sL_law_76)
theorem dL_law_1223 : decode cL_law 1223 = .ok (.iload_n 3, 1) := op_29 (rd_at 7 sL_law_76)
theorem dL_law_1224 : decode cL_law 1224 = .ok (.iconst 2, 1) := op_5 (rd_at 8 sL_law_76)
theorem dL_law_1225 : decode cL_law 1225 = .ok (.iadd, 1) := op_96 (rd_at 9 sL_law_76)
theorem dL_law_1226 : decode cL_law 1226 = .ok (.iaload, 1) := op_46 (rd_at 10 sL_law_76)
theorem dL_law_1227 : decode cL_law 1227 = .ok (.aload_n 0, 1) := op_42 (rd_at 11 sL_law_76)
theorem dL_law_1228 : decode cL_law 1228 = .ok (.iload_n 3, 1) := op_29 (rd_at 12 sL_law_76)
theorem dL_law_1229 : decode cL_law 1229 = .ok (.iconst 3, 1) := op_6 (rd_at 13 sL_law_76)
theorem dL_law_1230 : decode cL_law 1230 = .ok (.iadd, 1) := op_96 (rd_at 14 sL_law_76)
theorem dL_law_1231 : decode cL_law 1231 = .ok (.iaload, 1) := op_46 (rd_at 15 sL_law_76)
theorem dL_law_1232 : decode cL_law 1232 = .ok (.aload_n 0, 1) := op_42 sL_law_77
theorem dL_law_1233 : decode cL_law 1233 = .ok (.iload_n 3, 1) := op_29 (rd_at 1 sL_law_77)
theorem dL_law_1234 : decode cL_law 1234 = .ok (.iconst 4, 1) := op_7 (rd_at 2 sL_law_77)
theorem dL_law_1235 : decode cL_law 1235 = .ok (.iadd, 1) := op_96 (rd_at 3 sL_law_77)
theorem dL_law_1236 : decode cL_law 1236 = .ok (.iaload, 1) := op_46 (rd_at 4 sL_law_77)
theorem dL_law_1237 : decode cL_law 1237 = .ok (.invokevirtual 148, 3) := op_182 (rd_at 5 sL_law_77) rfl
theorem dL_law_1240 : decode cL_law 1240 = .ok (.pop, 1) := op_87 (rd_at 8 sL_law_77)
theorem dL_law_1241 : decode cL_law 1241 = .ok (.goto 105, 3) := op_167 (rd_at 9 sL_law_77) rfl
theorem dL_law_1244 : decode cL_law 1244 = .ok (.aload_n 1, 1) := op_43 (rd_at 12 sL_law_77)
theorem dL_law_1245 : decode cL_law 1245 = .ok (.aload_n 0, 1) := op_42 (rd_at 13 sL_law_77)
theorem dL_law_1246 : decode cL_law 1246 = .ok (.iload_n 3, 1) := op_29 (rd_at 14 sL_law_77)
theorem dL_law_1247 : decode cL_law 1247 = .ok (.iconst 1, 1) := op_4 (rd_at 15 sL_law_77)
theorem dL_law_1248 : decode cL_law 1248 = .ok (.iadd, 1) := op_96 sL_law_78
theorem dL_law_1249 : decode cL_law 1249 = .ok (.iaload, 1) := op_46 (rd_at 1 sL_law_78)
theorem dL_law_1250 : decode cL_law 1250 = .ok (.aload_n 0, 1) := op_42 (rd_at 2 sL_law_78)
theorem dL_law_1251 : decode cL_law 1251 = .ok (.iload_n 3, 1) := op_29 (rd_at 3 sL_law_78)
theorem dL_law_1252 : decode cL_law 1252 = .ok (.iconst 2, 1) := op_5 (rd_at 4 sL_law_78)
theorem dL_law_1253 : decode cL_law 1253 = .ok (.iadd, 1) := op_96 (rd_at 5 sL_law_78)
theorem dL_law_1254 : decode cL_law 1254 = .ok (.iaload, 1) := op_46 (rd_at 6 sL_law_78)
theorem dL_law_1255 : decode cL_law 1255 = .ok (.invokevirtual 149, 3) := op_182 (rd_at 7 sL_law_78) rfl
theorem dL_law_1258 : decode cL_law 1258 = .ok (.pop, 1) := op_87 (rd_at 10 sL_law_78)
theorem dL_law_1259 : decode cL_law 1259 = .ok (.aload_n 2, 1) := op_44 (rd_at 11 sL_law_78)
theorem dL_law_1260 : decode cL_law 1260 = .ok (.aload_n 0, 1) := op_42 (rd_at 12 sL_law_78)
theorem dL_law_1261 : decode cL_law 1261 = .ok (.iload_n 3, 1) := op_29 (rd_at 13 sL_law_78)
theorem dL_law_1262 : decode cL_law 1262 = .ok (.iconst 1, 1) := op_4 (rd_at 14 sL_law_78)
theorem dL_law_1263 : decode cL_law 1263 = .ok (.iadd, 1) := op_96 (rd_at 15 sL_law_78)
theorem dL_law_1264 : decode cL_law 1264 = .ok (.iaload, 1) := op_46 sL_law_79
theorem dL_law_1265 : decode cL_law 1265 = .ok (.aload_n 0, 1) := op_42 (rd_at 1 sL_law_79)
theorem dL_law_1266 : decode cL_law 1266 = .ok (.iload_n 3, 1) := op_29 (rd_at 2 sL_law_79)
theorem dL_law_1267 : decode cL_law 1267 = .ok (.iconst 2, 1) := op_5 (rd_at 3 sL_law_79)
theorem dL_law_1268 : decode cL_law 1268 = .ok (.iadd, 1) := op_96 (rd_at 4 sL_law_79)
theorem dL_law_1269 : decode cL_law 1269 = .ok (.iaload, 1) := op_46 (rd_at 5 sL_law_79)
theorem dL_law_1270 : decode cL_law 1270 = .ok (.invokevirtual 152, 3) := op_182 (rd_at 6 sL_law_79) rfl
theorem dL_law_1273 : decode cL_law 1273 = .ok (.pop, 1) := op_87 (rd_at 9 sL_law_79)
theorem dL_law_1274 : decode cL_law 1274 = .ok (.goto 72, 3) := op_167 (rd_at 10 sL_law_79) rfl
theorem dL_law_1277 : decode cL_law 1277 = .ok (.aload_n 1, 1) := op_43 (rd_at 13 sL_law_79)
theorem dL_law_1278 : decode cL_law 1278 = .ok (.aload_n 0, 1) := op_42 (rd_at 14 sL_law_79)
theorem dL_law_1279 : decode cL_law 1279 = .ok (.iload_n 3, 1) := op_29 (rd_at 15 sL_law_79)
theorem dL_law_1280 : decode cL_law 1280 = .ok (.iconst 1, 1) := op_4 sL_law_80
theorem dL_law_1281 : decode cL_law 1281 = .ok (.iadd, 1) := op_96 (rd_at 1 sL_law_80)
theorem dL_law_1282 : decode cL_law 1282 = .ok (.iaload, 1) := op_46 (rd_at 2 sL_law_80)
theorem dL_law_1283 : decode cL_law 1283 = .ok (.invokevirtual 153, 3) := op_182 (rd_at 3 sL_law_80) rfl
theorem dL_law_1286 : decode cL_law 1286 = .ok (.pop, 1) := op_87 (rd_at 6 sL_law_80)
theorem dL_law_1287 : decode cL_law 1287 = .ok (.aload_n 2, 1) := op_44 (rd_at 7 sL_law_80)
theorem dL_law_1288 : decode cL_law 1288 = .ok (.aload_n 0, 1) := op_42 (rd_at 8 sL_law_80)
theorem dL_law_1289 : decode cL_law 1289 = .ok (.iload_n 3, 1) := op_29 (rd_at 9 sL_law_80)
theorem dL_law_1290 : decode cL_law 1290 = .ok (.iconst 1, 1) := op_4 (rd_at 10 sL_law_80)
theorem dL_law_1291 : decode cL_law 1291 = .ok (.iadd, 1) := op_96 (rd_at 11 sL_law_80)
theorem dL_law_1292 : decode cL_law 1292 = .ok (.iaload, 1) := op_46 (rd_at 12 sL_law_80)
theorem dL_law_1293 : decode cL_law 1293 = .ok (.invokevirtual 157, 3) := op_182 (rd_at 13 sL_law_80) rfl
theorem dL_law_1296 : decode cL_law 1296 = .ok (.pop, 1) := op_87 sL_law_81
theorem dL_law_1297 : decode cL_law 1297 = .ok (.goto 49, 3) := op_167 (rd_at 1 sL_law_81) rfl
theorem dL_law_1300 : decode cL_law 1300 = .ok (.aload_n 1, 1) := op_43 (rd_at 4 sL_law_81)
theorem dL_law_1301 : decode cL_law 1301 = .ok (.aload_n 0, 1) := op_42 (rd_at 5 sL_law_81)
theorem dL_law_1302 : decode cL_law 1302 = .ok (.iload_n 3, 1) := op_29 (rd_at 6 sL_law_81)
theorem dL_law_1303 : decode cL_law 1303 = .ok (.iconst 1, 1) := op_4 (rd_at 7 sL_law_81)
theorem dL_law_1304 : decode cL_law 1304 = .ok (.iadd, 1) := op_96 (rd_at 8 sL_law_81)
theorem dL_law_1305 : decode cL_law 1305 = .ok (.iaload, 1) := op_46 (rd_at 9 sL_law_81)
theorem dL_law_1306 : decode cL_law 1306 = .ok (.invokevirtual 158, 3) := op_182 (rd_at 10 sL_law_81) rfl
theorem dL_law_1309 : decode cL_law 1309 = .ok (.pop, 1) := op_87 (rd_at 13 sL_law_81)
theorem dL_law_1310 : decode cL_law 1310 = .ok (.aload_n 2, 1) := op_44 (rd_at 14 sL_law_81)
theorem dL_law_1311 : decode cL_law 1311 = .ok (.aload_n 0, 1) := op_42 (rd_at 15 sL_law_81)
theorem dL_law_1312 : decode cL_law 1312 = .ok (.iload_n 3, 1) := op_29 sL_law_82
theorem dL_law_1313 : decode cL_law 1313 = .ok (.iconst 1, 1) := op_4 (rd_at 1 sL_law_82)
theorem dL_law_1314 : decode cL_law 1314 = .ok (.iadd, 1) := op_96 (rd_at 2 sL_law_82)
theorem dL_law_1315 : decode cL_law 1315 = .ok (.iaload, 1) := op_46 (rd_at 3 sL_law_82)
theorem dL_law_1316 : decode cL_law 1316 = .ok (.invokevirtual 161, 3) := op_182 (rd_at 4 sL_law_82) rfl
theorem dL_law_1319 : decode cL_law 1319 = .ok (.pop, 1) := op_87 (rd_at 7 sL_law_82)
theorem dL_law_1320 : decode cL_law 1320 = .ok (.goto 26, 3) := op_167 (rd_at 8 sL_law_82) rfl
theorem dL_law_1323 : decode cL_law 1323 = .ok (.aload_n 1, 1) := op_43 (rd_at 11 sL_law_82)
theorem dL_law_1324 : decode cL_law 1324 = .ok (.aload_n 0, 1) := op_42 (rd_at 12 sL_law_82)
theorem dL_law_1325 : decode cL_law 1325 = .ok (.iload_n 3, 1) := op_29 (rd_at 13 sL_law_82)
theorem dL_law_1326 : decode cL_law 1326 = .ok (.iconst 1, 1) := op_4 (rd_at 14 sL_law_82)
theorem dL_law_1327 : decode cL_law 1327 = .ok (.iadd, 1) := op_96 (rd_at 15 sL_law_82)
theorem dL_law_1328 : decode cL_law 1328 = .ok (.iaload, 1) := op_46 sL_law_83
theorem dL_law_1329 : decode cL_law 1329 = .ok (.invokevirtual 162, 3) := op_182 (rd_at 1 sL_law_83) rfl
theorem dL_law_1332 : decode cL_law 1332 = .ok (.pop, 1) := op_87 (rd_at 4 sL_law_83)
theorem dL_law_1333 : decode cL_law 1333 = .ok (.aload_n 2, 1) := op_44 (rd_at 5 sL_law_83)
theorem dL_law_1334 : decode cL_law 1334 = .ok (.aload_n 0, 1) := op_42 (rd_at 6 sL_law_83)
theorem dL_law_1335 : decode cL_law 1335 = .ok (.iload_n 3, 1) := op_29 (rd_at 7 sL_law_83)
theorem dL_law_1336 : decode cL_law 1336 = .ok (.iconst 1, 1) := op_4 (rd_at 8 sL_law_83)
theorem dL_law_1337 : decode cL_law 1337 = .ok (.iadd, 1) := op_96 (rd_at 9 sL_law_83)
theorem dL_law_1338 : decode cL_law 1338 = .ok (.iaload, 1) := op_46 (rd_at 10 sL_law_83)
theorem dL_law_1339 : decode cL_law 1339 = .ok (.invokevirtual 165, 3) := op_182 (rd_at 11 sL_law_83) rfl
theorem dL_law_1342 : decode cL_law 1342 = .ok (.pop, 1) := op_87 (rd_at 14 sL_law_83)
theorem dL_law_1343 : decode cL_law 1343 = .ok (.goto 3, 3) := op_167 (rd_at 15 sL_law_83) rfl
theorem dL_law_1346 : decode cL_law 1346 = .ok (.iinc 3 6, 3) := op_132 (rd_at 2 sL_law_84) rfl
theorem dL_law_1349 : decode cL_law 1349 = .ok (.goto (-1331), 3) := op_167 (rd_at 5 sL_law_84) rfl
theorem dL_law_1352 : decode cL_law 1352 = .ok (.iconst 1, 1) := op_4 (rd_at 8 sL_law_84)
theorem dL_law_1353 : decode cL_law 1353 = .ok (.ireturn, 1) := op_172 (rd_at 9 sL_law_84)
