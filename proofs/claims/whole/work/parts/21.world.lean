/-! THE CELLS after both constructors (by program; checked by the kernel in a later part): 0 .. 107 the class, 108 .. 137 the reference -/
def mm_sh : List (Nat × Nat) := [(8, 0), (1, 0), (102, 8), (108, 8), (100, 4), (0, 0), (0, 0), (0, 0), (0, 0), (0, 0), (0, 0), (0, 0), (0, 0), (6, 0), (6, 0), (6, 0), (6, 0), (6, 0), (6, 0), (6, 0), (6, 0), (1, 0), (102, 8), (108, 8), (100, 4), (0, 0), (0, 0), (0, 0), (0, 0), (0, 0), (0, 0), (0, 0), (0, 0), (6, 0), (6, 0), (6, 0), (6, 0), (6, 0), (6, 0), (6, 0), (6, 0), (1, 0), (102, 8), (108, 8), (100, 4), (0, 0), (0, 0), (0, 0), (0, 0), (0, 0), (0, 0), (0, 0), (0, 0), (6, 0), (6, 0), (6, 0), (6, 0), (6, 0), (6, 0), (6, 0), (6, 0), (109, 8), (4, 0), (0, 0), (106, 8), (5, 0), (100, 3), (2, 0), (100, 40), (100, 5), (100, 5), (3, 0), (100, 20), (100, 8), (100, 8), (100, 8), (7, 0), (101, 160), (7, 0), (101, 160), (7, 0), (101, 160), (7, 0), (101, 160), (7, 0), (101, 160), (7, 0), (101, 160), (7, 0), (101, 160), (7, 0), (101, 160), (4, 0), (0, 0), (4, 0), (0, 0), (4, 0), (0, 0), (4, 0), (0, 0), (4, 0), (0, 0), (4, 0), (0, 0), (4, 0), (0, 0), (4, 0), (0, 0), (9, 0), (100, 8), (100, 8), (100, 8), (100, 8), (100, 8), (100, 8), (100, 8), (100, 8), (100, 8), (100, 8), (100, 8), (100, 8), (100, 8), (101, 1280), (101, 160), (100, 48), (100, 8), (100, 3), (100, 80), (100, 80), (100, 40), (100, 5), (100, 5), (100, 8), (100, 8), (100, 8), (100, 8), (100, 8), (100, 20)]
def mm_RL : List (List (Option Nat)) := [[some 1, some 21, some 41, none, some 61, some 62, some 64, some 65, some 67, some 71, some 73, some 74, some 75],
  [some 2, none, some 3, none, some 4],
  [some 5, some 6, some 7, some 8, some 9, some 10, some 11, some 12],
  [some 13, some 14, some 15, some 16, some 17, some 18, some 19, some 20],
  [],
  [],
  [],
  [],
  [],
  [],
  [],
  [],
  [],
  [],
  [],
  [],
  [],
  [],
  [],
  [],
  [],
  [some 22, none, some 23, none, some 24],
  [some 25, some 26, some 27, some 28, some 29, some 30, some 31, some 32],
  [some 33, some 34, some 35, some 36, some 37, some 38, some 39, some 40],
  [],
  [],
  [],
  [],
  [],
  [],
  [],
  [],
  [],
  [],
  [],
  [],
  [],
  [],
  [],
  [],
  [],
  [some 42, none, some 43, none, some 44],
  [some 45, some 46, some 47, some 48, some 49, some 50, some 51, some 52],
  [some 53, some 54, some 55, some 56, some 57, some 58, some 59, some 60],
  [],
  [],
  [],
  [],
  [],
  [],
  [],
  [],
  [],
  [],
  [],
  [],
  [],
  [],
  [],
  [],
  [],
  [some 76, some 78, some 80, some 82, some 84, some 86, some 88, some 90],
  [some 63],
  [],
  [some 92, some 94, some 96, some 98, some 100, some 102, some 104, some 106],
  [some 66],
  [],
  [some 68, some 69, some 70],
  [],
  [],
  [],
  [some 72],
  [],
  [],
  [],
  [],
  [none, none, some 77],
  [],
  [none, none, some 79],
  [],
  [none, none, some 81],
  [],
  [none, none, some 83],
  [],
  [none, none, some 85],
  [],
  [none, none, some 87],
  [],
  [none, none, some 89],
  [],
  [none, none, some 91],
  [],
  [some 93],
  [],
  [some 95],
  [],
  [some 97],
  [],
  [some 99],
  [],
  [some 101],
  [],
  [some 103],
  [],
  [some 105],
  [],
  [some 107],
  [],
  [none, none, none, none, none, none, none, none, none, none, some 109, some 110, some 111, some 112, some 113, some 114, some 115, some 116, some 117, some 118, some 119, some 120, some 121, some 122, some 123, some 124, some 125, some 126, none, none, none, none, none, some 127, some 128, none, none, none, none, none, none, none, none, none, none, none, none, some 129, some 130, some 131, none, some 132, some 133, some 134, some 135, some 136, some 137],
  [],
  [],
  [],
  [],
  [],
  [],
  [],
  [],
  [],
  [],
  [],
  [],
  [],
  [],
  [],
  [],
  [],
  [],
  [],
  [],
  [],
  [],
  [],
  [],
  [],
  [],
  [],
  [],
  []]
def mm_R : Nat → Nat → Option Nat := fun k j => (mm_RL.getD k []).getD j none
theorem mf_0_7 : mm_fld 0 7 = some (0, 0) := rfl
theorem mf_0_13 : mm_fld 0 13 = some (0, 1) := rfl
theorem mf_0_16 : mm_fld 0 16 = some (0, 2) := rfl
theorem mf_0_19 : mm_fld 0 19 = some (0, 3) := rfl
theorem mf_0_22 : mm_fld 0 22 = some (0, 4) := rfl
theorem mf_0_25 : mm_fld 0 25 = some (0, 5) := rfl
theorem mf_1_11 : mm_fld 1 11 = some (1, 0) := rfl
theorem mf_1_19 : mm_fld 1 19 = some (1, 2) := rfl
theorem mf_1_23 : mm_fld 1 23 = some (1, 4) := rfl
theorem mf_1_27 : mm_fld 1 27 = some (1, 7) := rfl
theorem mf_1_33 : mm_fld 1 33 = some (1, 1) := rfl
theorem mf_1_36 : mm_fld 1 36 = some (1, 3) := rfl
theorem mf_1_39 : mm_fld 1 39 = some (0, 0) := rfl
theorem mf_1_42 : mm_fld 1 42 = some (0, 1) := rfl
theorem mf_1_45 : mm_fld 1 45 = some (0, 2) := rfl
theorem mf_1_52 : mm_fld 1 52 = some (0, 3) := rfl
theorem mf_1_55 : mm_fld 1 55 = some (0, 4) := rfl
theorem mf_1_58 : mm_fld 1 58 = some (0, 5) := rfl
theorem mf_1_61 : mm_fld 1 61 = some (6, 0) := rfl
theorem mf_1_64 : mm_fld 1 64 = some (6, 1) := rfl
theorem mf_1_81 : mm_fld 1 81 = some (1, 5) := rfl
theorem mf_1_85 : mm_fld 1 85 = some (1, 6) := rfl
theorem mf_2_9 : mm_fld 2 9 = some (2, 0) := rfl
theorem mf_2_15 : mm_fld 2 15 = some (2, 1) := rfl
theorem mf_2_18 : mm_fld 2 18 = some (2, 2) := rfl
theorem mf_2_21 : mm_fld 2 21 = some (2, 4) := rfl
theorem mf_2_31 : mm_fld 2 31 = some (2, 5) := rfl
theorem mf_2_34 : mm_fld 2 34 = some (2, 6) := rfl
theorem mf_2_40 : mm_fld 2 40 = some (2, 3) := rfl
theorem mf_3_11 : mm_fld 3 11 = some (3, 0) := rfl
theorem mf_3_15 : mm_fld 3 15 = some (0, 0) := rfl
theorem mf_3_21 : mm_fld 3 21 = some (3, 2) := rfl
theorem mf_3_22 : mm_fld 3 22 = some (3, 3) := rfl
theorem mf_3_25 : mm_fld 3 25 = some (0, 1) := rfl
theorem mf_3_28 : mm_fld 3 28 = some (3, 4) := rfl
theorem mf_3_35 : mm_fld 3 35 = some (3, 1) := rfl
theorem mf_4_12 : mm_fld 4 12 = some (4, 0) := rfl
theorem mf_4_18 : mm_fld 4 18 = some (4, 14) := rfl
theorem mf_4_28 : mm_fld 4 28 = some (1, 0) := rfl
theorem mf_4_36 : mm_fld 4 36 = some (4, 1) := rfl
theorem mf_4_39 : mm_fld 4 39 = some (1, 5) := rfl
theorem mf_4_43 : mm_fld 4 43 = some (4, 2) := rfl
theorem mf_4_44 : mm_fld 4 44 = some (0, 3) := rfl
theorem mf_4_50 : mm_fld 4 50 = some (1, 2) := rfl
theorem mf_4_54 : mm_fld 4 54 = some (6, 0) := rfl
theorem mf_4_59 : mm_fld 4 59 = some (0, 2) := rfl
theorem mf_4_68 : mm_fld 4 68 = some (6, 1) := rfl
theorem mf_4_75 : mm_fld 4 75 = some (4, 6) := rfl
theorem mf_4_78 : mm_fld 4 78 = some (0, 0) := rfl
theorem mf_4_84 : mm_fld 4 84 = some (4, 7) := rfl
theorem mf_4_87 : mm_fld 4 87 = some (4, 8) := rfl
theorem mf_4_94 : mm_fld 4 94 = some (1, 4) := rfl
theorem mf_4_98 : mm_fld 4 98 = some (4, 3) := rfl
theorem mf_4_101 : mm_fld 4 101 = some (4, 4) := rfl
theorem mf_4_108 : mm_fld 4 108 = some (4, 5) := rfl
theorem mf_4_111 : mm_fld 4 111 = some (4, 10) := rfl
theorem mf_4_114 : mm_fld 4 114 = some (0, 4) := rfl
theorem mf_4_117 : mm_fld 4 117 = some (4, 9) := rfl
theorem mf_4_120 : mm_fld 4 120 = some (4, 11) := rfl
theorem mf_4_123 : mm_fld 4 123 = some (4, 12) := rfl
theorem mf_4_126 : mm_fld 4 126 = some (4, 13) := rfl
theorem mf_4_129 : mm_fld 4 129 = some (4, 15) := rfl
theorem mf_4_132 : mm_fld 4 132 = some (0, 1) := rfl
theorem mf_5_11 : mm_fld 5 11 = some (5, 0) := rfl
theorem mf_5_15 : mm_fld 5 15 = some (5, 2) := rfl
theorem mf_5_19 : mm_fld 5 19 = some (5, 1) := rfl
theorem mf_5_26 : mm_fld 5 26 = some (7, 1) := rfl
theorem mf_5_101 : mm_fld 5 101 = some (1, 0) := rfl
theorem mf_5_105 : mm_fld 5 105 = some (0, 3) := rfl
theorem mf_5_110 : mm_fld 5 110 = some (0, 4) := rfl
theorem mf_5_117 : mm_fld 5 117 = some (1, 1) := rfl
theorem mf_5_120 : mm_fld 5 120 = some (1, 3) := rfl
theorem mf_7_9 : mm_fld 7 9 = some (7, 0) := rfl
theorem mf_7_15 : mm_fld 7 15 = some (7, 2) := rfl
theorem mf_7_19 : mm_fld 7 19 = some (7, 1) := rfl
theorem mf_8_10 : mm_fld 8 10 = some (8, 0) := rfl
theorem mf_8_16 : mm_fld 8 16 = some (8, 1) := rfl
theorem mf_8_19 : mm_fld 8 19 = some (8, 2) := rfl
theorem mf_8_24 : mm_fld 8 24 = some (8, 4) := rfl
theorem mf_8_31 : mm_fld 8 31 = some (8, 5) := rfl
theorem mf_8_35 : mm_fld 8 35 = some (8, 6) := rfl
theorem mf_8_42 : mm_fld 8 42 = some (8, 7) := rfl
theorem mf_8_49 : mm_fld 8 49 = some (8, 8) := rfl
theorem mf_8_56 : mm_fld 8 56 = some (8, 9) := rfl
theorem mf_8_60 : mm_fld 8 60 = some (8, 10) := rfl
theorem mf_8_64 : mm_fld 8 64 = some (8, 11) := rfl
theorem mf_8_67 : mm_fld 8 67 = some (8, 12) := rfl
theorem mf_8_70 : mm_fld 8 70 = some (8, 13) := rfl
theorem mf_8_112 : mm_fld 8 112 = some (7, 2) := rfl
theorem mf_8_132 : mm_fld 8 132 = some (7, 0) := rfl
theorem mf_8_138 : mm_fld 8 138 = some (1, 0) := rfl
theorem mf_8_142 : mm_fld 8 142 = some (0, 0) := rfl
theorem mf_8_154 : mm_fld 8 154 = some (1, 1) := rfl
theorem mf_8_161 : mm_fld 8 161 = some (1, 3) := rfl
theorem mf_8_175 : mm_fld 8 175 = some (4, 0) := rfl
theorem mf_8_179 : mm_fld 8 179 = some (0, 1) := rfl
theorem mf_8_182 : mm_fld 8 182 = some (0, 2) := rfl
theorem mf_8_185 : mm_fld 8 185 = some (0, 3) := rfl
theorem mf_8_188 : mm_fld 8 188 = some (0, 4) := rfl
theorem mf_8_191 : mm_fld 8 191 = some (4, 6) := rfl
theorem mf_8_194 : mm_fld 8 194 = some (4, 7) := rfl
theorem mf_8_197 : mm_fld 8 197 = some (4, 8) := rfl
theorem mf_8_200 : mm_fld 8 200 = some (0, 5) := rfl
theorem mf_8_206 : mm_fld 8 206 = some (1, 2) := rfl
theorem mf_8_210 : mm_fld 8 210 = some (6, 0) := rfl
theorem mf_8_215 : mm_fld 8 215 = some (6, 1) := rfl
theorem mf_8_227 : mm_fld 8 227 = some (1, 4) := rfl
theorem mf_8_233 : mm_fld 8 233 = some (1, 5) := rfl
theorem mf_8_248 : mm_fld 8 248 = some (5, 2) := rfl
theorem mf_8_254 : mm_fld 8 254 = some (4, 9) := rfl
theorem mf_8_256 : mm_fld 8 256 = some (4, 10) := rfl
theorem mf_8_259 : mm_fld 8 259 = some (4, 11) := rfl
theorem mf_8_262 : mm_fld 8 262 = some (4, 12) := rfl
theorem mf_8_265 : mm_fld 8 265 = some (4, 13) := rfl
theorem mf_8_304 : mm_fld 8 304 = some (2, 3) := rfl
theorem mf_8_307 : mm_fld 8 307 = some (2, 2) := rfl
theorem mf_8_323 : mm_fld 8 323 = some (4, 14) := rfl
theorem mf_8_326 : mm_fld 8 326 = some (7, 1) := rfl
theorem mf_8_340 : mm_fld 8 340 = some (1, 7) := rfl
theorem mf_8_353 : mm_fld 8 353 = some (8, 3) := rfl
theorem mf_8_356 : mm_fld 8 356 = some (1, 6) := rfl
theorem mf_8_359 : mm_fld 8 359 = some (3, 1) := rfl
theorem mf_8_365 : mm_fld 8 365 = some (4, 2) := rfl
theorem mf_8_374 : mm_fld 8 374 = some (4, 1) := rfl
theorem mf_8_390 : mm_fld 8 390 = some (4, 3) := rfl
theorem mf_9_7 : mm_fld 9 7 = some (9, 2) := rfl
theorem mf_9_13 : mm_fld 9 13 = some (9, 3) := rfl
theorem mf_9_16 : mm_fld 9 16 = some (9, 4) := rfl
theorem mf_9_19 : mm_fld 9 19 = some (9, 5) := rfl
theorem mf_9_22 : mm_fld 9 22 = some (9, 8) := rfl
theorem mf_9_25 : mm_fld 9 25 = some (9, 9) := rfl
theorem mf_9_28 : mm_fld 9 28 = some (9, 10) := rfl
theorem mf_9_32 : mm_fld 9 32 = some (9, 11) := rfl
theorem mf_9_35 : mm_fld 9 35 = some (9, 12) := rfl
theorem mf_9_38 : mm_fld 9 38 = some (9, 13) := rfl
theorem mf_9_41 : mm_fld 9 41 = some (9, 14) := rfl
theorem mf_9_44 : mm_fld 9 44 = some (9, 15) := rfl
theorem mf_9_47 : mm_fld 9 47 = some (9, 16) := rfl
theorem mf_9_50 : mm_fld 9 50 = some (9, 17) := rfl
theorem mf_9_53 : mm_fld 9 53 = some (9, 18) := rfl
theorem mf_9_56 : mm_fld 9 56 = some (9, 19) := rfl
theorem mf_9_59 : mm_fld 9 59 = some (9, 20) := rfl
theorem mf_9_62 : mm_fld 9 62 = some (9, 21) := rfl
theorem mf_9_65 : mm_fld 9 65 = some (9, 22) := rfl
theorem mf_9_68 : mm_fld 9 68 = some (9, 23) := rfl
theorem mf_9_72 : mm_fld 9 72 = some (9, 24) := rfl
theorem mf_9_75 : mm_fld 9 75 = some (9, 25) := rfl
theorem mf_9_78 : mm_fld 9 78 = some (9, 26) := rfl
theorem mf_9_81 : mm_fld 9 81 = some (9, 27) := rfl
theorem mf_9_84 : mm_fld 9 84 = some (9, 33) := rfl
theorem mf_9_87 : mm_fld 9 87 = some (9, 34) := rfl
theorem mf_9_90 : mm_fld 9 90 = some (9, 47) := rfl
theorem mf_9_93 : mm_fld 9 93 = some (9, 48) := rfl
theorem mf_9_96 : mm_fld 9 96 = some (9, 49) := rfl
theorem mf_9_99 : mm_fld 9 99 = some (9, 51) := rfl
theorem mf_9_102 : mm_fld 9 102 = some (9, 52) := rfl
theorem mf_9_105 : mm_fld 9 105 = some (9, 53) := rfl
theorem mf_9_108 : mm_fld 9 108 = some (9, 54) := rfl
theorem mf_9_111 : mm_fld 9 111 = some (9, 55) := rfl
theorem mf_9_114 : mm_fld 9 114 = some (9, 56) := rfl
theorem mf_9_117 : mm_fld 9 117 = some (9, 0) := rfl
theorem mf_9_120 : mm_fld 9 120 = some (9, 1) := rfl
theorem mf_9_170 : mm_fld 9 170 = some (9, 6) := rfl
theorem mf_9_173 : mm_fld 9 173 = some (9, 32) := rfl
theorem mf_9_176 : mm_fld 9 176 = some (9, 29) := rfl
theorem mf_9_179 : mm_fld 9 179 = some (9, 30) := rfl
theorem mf_9_182 : mm_fld 9 182 = some (9, 28) := rfl
theorem mf_9_185 : mm_fld 9 185 = some (9, 31) := rfl
theorem mf_9_211 : mm_fld 9 211 = some (9, 7) := rfl
theorem mf_9_224 : mm_fld 9 224 = some (9, 35) := rfl
theorem mf_9_227 : mm_fld 9 227 = some (9, 36) := rfl
theorem mf_9_230 : mm_fld 9 230 = some (9, 37) := rfl
theorem mf_9_233 : mm_fld 9 233 = some (9, 40) := rfl
theorem mf_9_236 : mm_fld 9 236 = some (9, 41) := rfl
theorem mf_9_245 : mm_fld 9 245 = some (9, 38) := rfl
theorem mf_9_248 : mm_fld 9 248 = some (9, 39) := rfl
theorem mf_9_254 : mm_fld 9 254 = some (9, 43) := rfl
theorem mf_9_257 : mm_fld 9 257 = some (9, 42) := rfl
theorem mf_9_260 : mm_fld 9 260 = some (9, 44) := rfl
theorem mf_9_263 : mm_fld 9 263 = some (9, 45) := rfl
theorem mf_9_266 : mm_fld 9 266 = some (9, 46) := rfl
theorem mf_9_314 : mm_fld 9 314 = some (9, 50) := rfl
theorem mf_9_346 : mm_fld 9 346 = some (9, 57) := rfl
theorem mf_9_361 : mm_fld 9 361 = some (9, 58) := rfl
theorem mk_0_1 : mm_mt 0 1 = some (900, 0) := rfl
theorem mk_1_3 : mm_mt 1 3 = some (900, 0) := rfl
theorem mk_1_31 : mm_mt 1 31 = some (0, 1) := rfl
theorem mk_1_32 : mm_mt 1 32 = some (47, 1) := rfl
theorem mk_1_48 : mm_mt 1 48 = some (4, 0) := rfl
theorem mk_1_67 : mm_mt 1 67 = some (103, 1) := rfl
theorem mk_1_71 : mm_mt 1 71 = some (1, 0) := rfl
theorem mk_1_75 : mm_mt 1 75 = some (906, 0) := rfl
theorem mk_2_3 : mm_mt 2 3 = some (900, 0) := rfl
theorem mk_2_25 : mm_mt 2 25 = some (903, 0) := rfl
theorem mk_2_43 : mm_mt 2 43 = some (13, 0) := rfl
theorem mk_2_47 : mm_mt 2 47 = some (906, 0) := rfl
theorem mk_2_53 : mm_mt 2 53 = some (902, 0) := rfl
theorem mk_3_3 : mm_mt 3 3 = some (900, 0) := rfl
theorem mk_3_31 : mm_mt 3 31 = some (20, 0) := rfl
theorem mk_3_38 : mm_mt 3 38 = some (102, 1) := rfl
theorem mk_3_48 : mm_mt 3 48 = some (19, 0) := rfl
theorem mk_3_52 : mm_mt 3 52 = some (18, 0) := rfl
theorem mk_4_3 : mm_mt 4 3 = some (900, 0) := rfl
theorem mk_4_11 : mm_mt 4 11 = some (0, 1) := rfl
theorem mk_4_22 : mm_mt 4 22 = some (3, 0) := rfl
theorem mk_4_32 : mm_mt 4 32 = some (1, 0) := rfl
theorem mk_4_47 : mm_mt 4 47 = some (4, 0) := rfl
theorem mk_4_62 : mm_mt 4 62 = some (901, 0) := rfl
theorem mk_4_71 : mm_mt 4 71 = some (24, 0) := rfl
theorem mk_4_81 : mm_mt 4 81 = some (25, 0) := rfl
theorem mk_4_90 : mm_mt 4 90 = some (104, 1) := rfl
theorem mk_4_104 : mm_mt 4 104 = some (902, 0) := rfl
theorem mk_4_135 : mm_mt 4 135 = some (903, 0) := rfl
theorem mk_4_138 : mm_mt 4 138 = some (27, 0) := rfl
theorem mk_4_141 : mm_mt 4 141 = some (26, 0) := rfl
theorem mk_4_145 : mm_mt 4 145 = some (28, 0) := rfl
theorem mk_4_149 : mm_mt 4 149 = some (29, 0) := rfl
theorem mk_4_152 : mm_mt 4 152 = some (23, 0) := rfl
theorem mk_4_156 : mm_mt 4 156 = some (30, 0) := rfl
theorem mk_4_160 : mm_mt 4 160 = some (31, 0) := rfl
theorem mk_5_5 : mm_mt 5 5 = some (900, 0) := rfl
theorem mk_5_22 : mm_mt 5 22 = some (36, 0) := rfl
theorem mk_5_31 : mm_mt 5 31 = some (58, 0) := rfl
theorem mk_5_35 : mm_mt 5 35 = some (37, 0) := rfl
theorem mk_5_39 : mm_mt 5 39 = some (42, 0) := rfl
theorem mk_5_43 : mm_mt 5 43 = some (43, 0) := rfl
theorem mk_5_47 : mm_mt 5 47 = some (904, 0) := rfl
theorem mk_5_53 : mm_mt 5 53 = some (44, 0) := rfl
theorem mk_5_56 : mm_mt 5 56 = some (45, 0) := rfl
theorem mk_5_60 : mm_mt 5 60 = some (46, 0) := rfl
theorem mk_5_64 : mm_mt 5 64 = some (39, 0) := rfl
theorem mk_5_68 : mm_mt 5 68 = some (40, 0) := rfl
theorem mk_5_72 : mm_mt 5 72 = some (38, 0) := rfl
theorem mk_5_76 : mm_mt 5 76 = some (902, 0) := rfl
theorem mk_5_81 : mm_mt 5 81 = some (905, 0) := rfl
theorem mk_5_85 : mm_mt 5 85 = some (41, 0) := rfl
theorem mk_5_89 : mm_mt 5 89 = some (5, 0) := rfl
theorem mk_5_95 : mm_mt 5 95 = some (6, 0) := rfl
theorem mk_5_98 : mm_mt 5 98 = some (3, 0) := rfl
theorem mk_5_113 : mm_mt 5 113 = some (7, 0) := rfl
theorem mk_5_137 : mm_mt 5 137 = some (103, 1) := rfl
theorem mk_6_1 : mm_mt 6 1 = some (900, 0) := rfl
theorem mk_7_3 : mm_mt 7 3 = some (900, 0) := rfl
theorem mk_7_22 : mm_mt 7 22 = some (221, 0) := rfl
theorem mk_7_28 : mm_mt 7 28 = some (51, 0) := rfl
theorem mk_7_32 : mm_mt 7 32 = some (56, 0) := rfl
theorem mk_8_1 : mm_mt 8 1 = some (900, 0) := rfl
theorem mk_8_9 : mm_mt 8 9 = some (2, 0) := rfl
theorem mk_8_30 : mm_mt 8 30 = some (21, 1) := rfl
theorem mk_8_41 : mm_mt 8 41 = some (34, 1) := rfl
theorem mk_8_48 : mm_mt 8 48 = some (10, 1) := rfl
theorem mk_8_55 : mm_mt 8 55 = some (14, 1) := rfl
theorem mk_8_74 : mm_mt 8 74 = some (48, 1) := rfl
theorem mk_8_75 : mm_mt 8 75 = some (101, 0) := rfl
theorem mk_8_79 : mm_mt 8 79 = some (100, 0) := rfl
theorem mk_8_83 : mm_mt 8 83 = some (53, 0) := rfl
theorem mk_8_87 : mm_mt 8 87 = some (107, 0) := rfl
theorem mk_8_90 : mm_mt 8 90 = some (51, 0) := rfl
theorem mk_8_93 : mm_mt 8 93 = some (55, 0) := rfl
theorem mk_8_97 : mm_mt 8 97 = some (50, 0) := rfl
theorem mk_8_101 : mm_mt 8 101 = some (106, 0) := rfl
theorem mk_8_105 : mm_mt 8 105 = some (49, 0) := rfl
theorem mk_8_108 : mm_mt 8 108 = some (52, 0) := rfl
theorem mk_8_116 : mm_mt 8 116 = some (906, 0) := rfl
theorem mk_8_122 : mm_mt 8 122 = some (57, 0) := rfl
theorem mk_8_126 : mm_mt 8 126 = some (3, 0) := rfl
theorem mk_8_128 : mm_mt 8 128 = some (54, 0) := rfl
theorem mk_8_135 : mm_mt 8 135 = some (102, 0) := rfl
theorem mk_8_147 : mm_mt 8 147 = some (104, 0) := rfl
theorem mk_8_150 : mm_mt 8 150 = some (108, 0) := rfl
theorem mk_8_157 : mm_mt 8 157 = some (5, 0) := rfl
theorem mk_8_164 : mm_mt 8 164 = some (6, 0) := rfl
theorem mk_8_167 : mm_mt 8 167 = some (22, 0) := rfl
theorem mk_8_171 : mm_mt 8 171 = some (23, 0) := rfl
theorem mk_8_203 : mm_mt 8 203 = some (4, 0) := rfl
theorem mk_8_218 : mm_mt 8 218 = some (103, 0) := rfl
theorem mk_8_230 : mm_mt 8 230 = some (7, 0) := rfl
theorem mk_8_237 : mm_mt 8 237 = some (105, 0) := rfl
theorem mk_8_241 : mm_mt 8 241 = some (9, 0) := rfl
theorem mk_8_244 : mm_mt 8 244 = some (35, 0) := rfl
theorem mk_8_251 : mm_mt 8 251 = some (30, 0) := rfl
theorem mk_8_268 : mm_mt 8 268 = some (109, 0) := rfl
theorem mk_8_271 : mm_mt 8 271 = some (114, 0) := rfl
theorem mk_8_274 : mm_mt 8 274 = some (115, 0) := rfl
theorem mk_8_278 : mm_mt 8 278 = some (116, 0) := rfl
theorem mk_8_281 : mm_mt 8 281 = some (117, 0) := rfl
theorem mk_8_284 : mm_mt 8 284 = some (110, 0) := rfl
theorem mk_8_287 : mm_mt 8 287 = some (118, 0) := rfl
theorem mk_8_290 : mm_mt 8 290 = some (112, 0) := rfl
theorem mk_8_294 : mm_mt 8 294 = some (111, 0) := rfl
theorem mk_8_297 : mm_mt 8 297 = some (11, 0) := rfl
theorem mk_8_301 : mm_mt 8 301 = some (12, 0) := rfl
theorem mk_8_310 : mm_mt 8 310 = some (113, 0) := rfl
theorem mk_8_313 : mm_mt 8 313 = some (119, 0) := rfl
theorem mk_8_316 : mm_mt 8 316 = some (120, 0) := rfl
theorem mk_8_319 : mm_mt 8 319 = some (32, 0) := rfl
theorem mk_8_329 : mm_mt 8 329 = some (121, 0) := rfl
theorem mk_8_333 : mm_mt 8 333 = some (122, 0) := rfl
theorem mk_8_337 : mm_mt 8 337 = some (123, 0) := rfl
theorem mk_8_343 : mm_mt 8 343 = some (16, 0) := rfl
theorem mk_8_346 : mm_mt 8 346 = some (15, 0) := rfl
theorem mk_8_350 : mm_mt 8 350 = some (17, 0) := rfl
theorem mk_8_366 : mm_mt 8 366 = some (903, 0) := rfl
theorem mk_8_371 : mm_mt 8 371 = some (901, 0) := rfl
theorem mk_8_377 : mm_mt 8 377 = some (33, 0) := rfl
theorem mk_8_381 : mm_mt 8 381 = some (58, 0) := rfl
theorem mk_8_384 : mm_mt 8 384 = some (124, 0) := rfl
theorem mk_8_387 : mm_mt 8 387 = some (125, 0) := rfl
theorem mk_8_393 : mm_mt 8 393 = some (27, 0) := rfl
theorem mk_8_396 : mm_mt 8 396 = some (8, 0) := rfl
theorem mk_8_399 : mm_mt 8 399 = some (26, 0) := rfl
theorem mk_8_402 : mm_mt 8 402 = some (28, 0) := rfl
theorem mk_8_406 : mm_mt 8 406 = some (31, 0) := rfl
theorem mk_9_1 : mm_mt 9 1 = some (900, 0) := rfl
theorem mk_9_123 : mm_mt 9 123 = some (129, 0) := rfl
theorem mk_9_127 : mm_mt 9 127 = some (127, 0) := rfl
theorem mk_9_131 : mm_mt 9 131 = some (130, 0) := rfl
theorem mk_9_134 : mm_mt 9 134 = some (166, 0) := rfl
theorem mk_9_138 : mm_mt 9 138 = some (170, 0) := rfl
theorem mk_9_142 : mm_mt 9 142 = some (169, 0) := rfl
theorem mk_9_145 : mm_mt 9 145 = some (171, 0) := rfl
theorem mk_9_148 : mm_mt 9 148 = some (142, 0) := rfl
theorem mk_9_152 : mm_mt 9 152 = some (143, 0) := rfl
theorem mk_9_156 : mm_mt 9 156 = some (131, 0) := rfl
theorem mk_9_159 : mm_mt 9 159 = some (150, 0) := rfl
theorem mk_9_163 : mm_mt 9 163 = some (151, 0) := rfl
theorem mk_9_166 : mm_mt 9 166 = some (152, 0) := rfl
theorem mk_9_188 : mm_mt 9 188 = some (158, 0) := rfl
theorem mk_9_192 : mm_mt 9 192 = some (155, 0) := rfl
theorem mk_9_195 : mm_mt 9 195 = some (156, 0) := rfl
theorem mk_9_198 : mm_mt 9 198 = some (157, 0) := rfl
theorem mk_9_201 : mm_mt 9 201 = some (159, 0) := rfl
theorem mk_9_204 : mm_mt 9 204 = some (160, 0) := rfl
theorem mk_9_207 : mm_mt 9 207 = some (162, 0) := rfl
theorem mk_9_214 : mm_mt 9 214 = some (140, 0) := rfl
theorem mk_9_217 : mm_mt 9 217 = some (163, 0) := rfl
theorem mk_9_221 : mm_mt 9 221 = some (161, 0) := rfl
theorem mk_9_239 : mm_mt 9 239 = some (167, 0) := rfl
theorem mk_9_242 : mm_mt 9 242 = some (132, 0) := rfl
theorem mk_9_251 : mm_mt 9 251 = some (168, 0) := rfl
theorem mk_9_269 : mm_mt 9 269 = some (175, 0) := rfl
theorem mk_9_272 : mm_mt 9 272 = some (172, 0) := rfl
theorem mk_9_275 : mm_mt 9 275 = some (176, 0) := rfl
theorem mk_9_278 : mm_mt 9 278 = some (174, 0) := rfl
theorem mk_9_281 : mm_mt 9 281 = some (173, 0) := rfl
theorem mk_9_284 : mm_mt 9 284 = some (177, 0) := rfl
theorem mk_9_287 : mm_mt 9 287 = some (178, 0) := rfl
theorem mk_9_290 : mm_mt 9 290 = some (179, 0) := rfl
theorem mk_9_293 : mm_mt 9 293 = some (180, 0) := rfl
theorem mk_9_296 : mm_mt 9 296 = some (187, 0) := rfl
theorem mk_9_299 : mm_mt 9 299 = some (182, 0) := rfl
theorem mk_9_302 : mm_mt 9 302 = some (181, 0) := rfl
theorem mk_9_305 : mm_mt 9 305 = some (189, 0) := rfl
theorem mk_9_308 : mm_mt 9 308 = some (190, 0) := rfl
theorem mk_9_311 : mm_mt 9 311 = some (184, 0) := rfl
theorem mk_9_317 : mm_mt 9 317 = some (192, 0) := rfl
theorem mk_9_321 : mm_mt 9 321 = some (194, 0) := rfl
theorem mk_9_324 : mm_mt 9 324 = some (183, 0) := rfl
theorem mk_9_327 : mm_mt 9 327 = some (197, 0) := rfl
theorem mk_9_330 : mm_mt 9 330 = some (128, 0) := rfl
theorem mk_9_333 : mm_mt 9 333 = some (141, 0) := rfl
theorem mk_9_337 : mm_mt 9 337 = some (206, 0) := rfl
theorem mk_9_340 : mm_mt 9 340 = some (207, 0) := rfl
theorem mk_9_343 : mm_mt 9 343 = some (208, 0) := rfl
theorem mk_9_349 : mm_mt 9 349 = some (212, 0) := rfl
theorem mk_9_352 : mm_mt 9 352 = some (213, 0) := rfl
theorem mk_9_355 : mm_mt 9 355 = some (214, 0) := rfl
theorem mk_9_358 : mm_mt 9 358 = some (215, 0) := rfl
theorem mk_10_9 : mm_mt 10 9 = some (59, 0) := rfl
theorem mk_10_12 : mm_mt 10 12 = some (126, 0) := rfl
theorem mk_10_13 : mm_mt 10 13 = some (60, 0) := rfl
theorem mk_10_17 : mm_mt 10 17 = some (133, 0) := rfl
theorem mk_10_20 : mm_mt 10 20 = some (61, 0) := rfl
theorem mk_10_24 : mm_mt 10 24 = some (134, 0) := rfl
theorem mk_10_25 : mm_mt 10 25 = some (62, 0) := rfl
theorem mk_10_29 : mm_mt 10 29 = some (135, 0) := rfl
theorem mk_10_30 : mm_mt 10 30 = some (63, 0) := rfl
theorem mk_10_34 : mm_mt 10 34 = some (136, 0) := rfl
theorem mk_10_35 : mm_mt 10 35 = some (64, 0) := rfl
theorem mk_10_39 : mm_mt 10 39 = some (137, 0) := rfl
theorem mk_10_40 : mm_mt 10 40 = some (65, 0) := rfl
theorem mk_10_44 : mm_mt 10 44 = some (138, 0) := rfl
theorem mk_10_45 : mm_mt 10 45 = some (66, 0) := rfl
theorem mk_10_48 : mm_mt 10 48 = some (139, 0) := rfl
theorem mk_10_49 : mm_mt 10 49 = some (67, 0) := rfl
theorem mk_10_52 : mm_mt 10 52 = some (144, 0) := rfl
theorem mk_10_53 : mm_mt 10 53 = some (68, 0) := rfl
theorem mk_10_56 : mm_mt 10 56 = some (145, 0) := rfl
theorem mk_10_57 : mm_mt 10 57 = some (69, 0) := rfl
theorem mk_10_60 : mm_mt 10 60 = some (146, 0) := rfl
theorem mk_10_61 : mm_mt 10 61 = some (70, 0) := rfl
theorem mk_10_64 : mm_mt 10 64 = some (147, 0) := rfl
theorem mk_10_65 : mm_mt 10 65 = some (71, 0) := rfl
theorem mk_10_68 : mm_mt 10 68 = some (148, 0) := rfl
theorem mk_10_69 : mm_mt 10 69 = some (72, 0) := rfl
theorem mk_10_72 : mm_mt 10 72 = some (149, 0) := rfl
theorem mk_10_73 : mm_mt 10 73 = some (73, 0) := rfl
theorem mk_10_76 : mm_mt 10 76 = some (153, 0) := rfl
theorem mk_10_77 : mm_mt 10 77 = some (74, 0) := rfl
theorem mk_10_81 : mm_mt 10 81 = some (154, 0) := rfl
theorem mk_10_82 : mm_mt 10 82 = some (75, 0) := rfl
theorem mk_10_85 : mm_mt 10 85 = some (164, 0) := rfl
theorem mk_10_86 : mm_mt 10 86 = some (76, 0) := rfl
theorem mk_10_90 : mm_mt 10 90 = some (165, 0) := rfl
theorem mk_10_91 : mm_mt 10 91 = some (77, 0) := rfl
theorem mk_10_94 : mm_mt 10 94 = some (185, 0) := rfl
theorem mk_10_95 : mm_mt 10 95 = some (78, 0) := rfl
theorem mk_10_98 : mm_mt 10 98 = some (186, 0) := rfl
theorem mk_10_99 : mm_mt 10 99 = some (79, 0) := rfl
theorem mk_10_102 : mm_mt 10 102 = some (188, 0) := rfl
theorem mk_10_103 : mm_mt 10 103 = some (80, 0) := rfl
theorem mk_10_106 : mm_mt 10 106 = some (191, 0) := rfl
theorem mk_10_107 : mm_mt 10 107 = some (81, 0) := rfl
theorem mk_10_110 : mm_mt 10 110 = some (193, 0) := rfl
theorem mk_10_111 : mm_mt 10 111 = some (82, 0) := rfl
theorem mk_10_114 : mm_mt 10 114 = some (195, 0) := rfl
theorem mk_10_115 : mm_mt 10 115 = some (83, 0) := rfl
theorem mk_10_118 : mm_mt 10 118 = some (196, 0) := rfl
theorem mk_10_119 : mm_mt 10 119 = some (84, 0) := rfl
theorem mk_10_122 : mm_mt 10 122 = some (198, 0) := rfl
theorem mk_10_123 : mm_mt 10 123 = some (85, 0) := rfl
theorem mk_10_126 : mm_mt 10 126 = some (199, 0) := rfl
theorem mk_10_127 : mm_mt 10 127 = some (86, 0) := rfl
theorem mk_10_130 : mm_mt 10 130 = some (200, 0) := rfl
theorem mk_10_131 : mm_mt 10 131 = some (87, 0) := rfl
theorem mk_10_134 : mm_mt 10 134 = some (201, 0) := rfl
theorem mk_10_135 : mm_mt 10 135 = some (88, 0) := rfl
theorem mk_10_138 : mm_mt 10 138 = some (202, 0) := rfl
theorem mk_10_139 : mm_mt 10 139 = some (89, 0) := rfl
theorem mk_10_142 : mm_mt 10 142 = some (203, 0) := rfl
theorem mk_10_143 : mm_mt 10 143 = some (90, 0) := rfl
theorem mk_10_146 : mm_mt 10 146 = some (204, 0) := rfl
theorem mk_10_147 : mm_mt 10 147 = some (91, 0) := rfl
theorem mk_10_150 : mm_mt 10 150 = some (205, 0) := rfl
theorem mk_10_151 : mm_mt 10 151 = some (92, 0) := rfl
theorem mk_10_154 : mm_mt 10 154 = some (209, 0) := rfl
theorem mk_10_155 : mm_mt 10 155 = some (93, 0) := rfl
theorem mk_10_158 : mm_mt 10 158 = some (210, 0) := rfl
theorem mk_10_159 : mm_mt 10 159 = some (94, 0) := rfl
theorem mk_10_162 : mm_mt 10 162 = some (211, 0) := rfl
theorem mk_10_163 : mm_mt 10 163 = some (95, 0) := rfl
theorem mk_10_166 : mm_mt 10 166 = some (216, 0) := rfl
theorem mk_10_167 : mm_mt 10 167 = some (96, 0) := rfl
theorem mk_10_170 : mm_mt 10 170 = some (217, 0) := rfl
theorem mk_10_171 : mm_mt 10 171 = some (97, 0) := rfl
theorem mk_10_174 : mm_mt 10 174 = some (218, 0) := rfl
theorem mk_10_175 : mm_mt 10 175 = some (98, 0) := rfl
theorem mk_10_178 : mm_mt 10 178 = some (219, 0) := rfl
theorem mk_10_179 : mm_mt 10 179 = some (99, 0) := rfl
theorem mk_10_182 : mm_mt 10 182 = some (220, 0) := rfl
theorem me_0 : mm_me 0 = some (yX0_init, 0, cX0_init, 1, none, true, 1, false) := rfl
theorem me_1 : mm_me 1 = some (yX0_become, 0, cX0_become, 2, none, false, 2, false) := rfl
theorem me_2 : mm_me 2 = some (yX1_init, 1, cX1_init, 2, none, true, 1, false) := rfl
theorem me_3 : mm_me 3 = some (yX1_hasChild, 1, cX1_hasChild, 2, some .boolean, false, 2, false) := rfl
theorem me_4 : mm_me 4 = some (yX1_hasSack, 1, cX1_hasSack, 2, some .boolean, false, 2, false) := rfl
theorem me_5 : mm_me 5 = some (yX1_addChild, 1, cX1_addChild, 6, some .int, false, 4, false) := rfl
theorem me_6 : mm_me 6 = some (yX1_addSack, 1, cX1_addSack, 3, some .int, false, 3, false) := rfl
theorem me_7 : mm_me 7 = some (yX1_setTerm, 1, cX1_setTerm, 3, none, false, 3, false) := rfl
theorem me_8 : mm_me 8 = some (yX1_draw, 1, cX1_draw, 2, some .int, false, 2, false) := rfl
theorem me_9 : mm_me 9 = some (yX1_become, 1, cX1_become, 3, none, false, 2, false) := rfl
theorem me_10 : mm_me 10 = some (yX2_init, 2, cX2_init, 1, none, true, 1, false) := rfl
theorem me_11 : mm_me 11 = some (yX2_tell, 2, cX2_tell, 4, none, false, 4, false) := rfl
theorem me_12 : mm_me 12 = some (yX2_find, 2, cX2_find, 4, none, false, 4, false) := rfl
theorem me_13 : mm_me 13 = some (yX2_giveFrom, 2, cX2_giveFrom, 9, none, false, 6, true) := rfl
theorem me_14 : mm_me 14 = some (yX3_init, 3, cX3_init, 1, none, true, 1, false) := rfl
theorem me_15 : mm_me 15 = some (yX3_run, 3, cX3_run, 5, some .int, false, 5, false) := rfl
theorem me_16 : mm_me 16 = some (yX3_forget, 3, cX3_forget, 1, none, false, 1, false) := rfl
theorem me_17 : mm_me 17 = some (yX3_noted, 3, cX3_noted, 2, some .int, false, 2, false) := rfl
theorem me_18 : mm_me 18 = some (yX3_note, 3, cX3_note, 2, none, false, 2, false) := rfl
theorem me_19 : mm_me 19 = some (yX3_holderOf, 3, cX3_holderOf, 4, some .int, false, 2, true) := rfl
theorem me_20 : mm_me 20 = some (yX3_runFrom, 3, cX3_runFrom, 9, some .int, false, 5, true) := rfl
theorem me_21 : mm_me 21 = some (yX4_init, 4, cX4_init, 1, none, true, 1, false) := rfl
theorem me_22 : mm_me 22 = some (yX4_take, 4, cX4_take, 3, none, false, 3, false) := rfl
theorem me_23 : mm_me 23 = some (yX4_begin, 4, cX4_begin, 5, none, false, 2, false) := rfl
theorem me_24 : mm_me 24 = some (yX4_strideOf, 4, cX4_strideOf, 2, some .int, false, 2, true) := rfl
theorem me_25 : mm_me 25 = some (yX4_puffOf, 4, cX4_puffOf, 1, some .int, false, 1, true) := rfl
theorem me_26 : mm_me 26 = some (yX4_riskNow, 4, cX4_riskNow, 1, some .int, false, 1, false) := rfl
theorem me_27 : mm_me 27 = some (yX4_lie, 4, cX4_lie, 1, none, false, 1, false) := rfl
theorem me_28 : mm_me 28 = some (yX4_hop, 4, cX4_hop, 2, none, false, 2, false) := rfl
theorem me_29 : mm_me 29 = some (yX4_goASecond, 4, cX4_goASecond, 2, none, false, 1, false) := rfl
theorem me_30 : mm_me 30 = some (yX4_goToWay, 4, cX4_goToWay, 3, none, false, 2, false) := rfl
theorem me_31 : mm_me 31 = some (yX4_timeNow, 4, cX4_timeNow, 1, some .int, false, 1, false) := rfl
theorem me_32 : mm_me 32 = some (yX4_timeToRope, 4, cX4_timeToRope, 2, some .int, false, 2, false) := rfl
theorem me_33 : mm_me 33 = some (yX4_leastAheadFor, 4, cX4_leastAheadFor, 5, some .int, false, 3, false) := rfl
theorem me_34 : mm_me 34 = some (yX5_init, 5, cX5_init, 1, none, true, 1, false) := rfl
theorem me_35 : mm_me 35 = some (yX5_read, 5, cX5_read, 4, some .int, false, 3, false) := rfl
theorem me_36 : mm_me 36 = some (yX5_readItem, 5, cX5_readItem, 6, none, false, 3, false) := rfl
theorem me_37 : mm_me 37 = some (yX5_readWord, 5, cX5_readWord, 5, some .int, false, 2, false) := rfl
theorem me_38 : mm_me 38 = some (yX5_lettersAlike, 5, cX5_lettersAlike, 4, some .int, false, 3, false) := rfl
theorem me_39 : mm_me 39 = some (yX5_readNumber, 5, cX5_readNumber, 7, none, false, 5, false) := rfl
theorem me_40 : mm_me 40 = some (yX5_tell, 5, cX5_tell, 3, none, false, 3, false) := rfl
theorem me_41 : mm_me 41 = some (yX5_isDigit, 5, cX5_isDigit, 1, some .boolean, false, 1, true) := rfl
theorem me_42 : mm_me 42 = some (yX5_hasRoom, 5, cX5_hasRoom, 2, some .boolean, false, 2, true) := rfl
theorem me_43 : mm_me 43 = some (yX5_wordOf, 5, cX5_wordOf, 1, some (.object "java/lang/String"), false, 1, true) := rfl
theorem me_44 : mm_me 44 = some (yX5_numbersOf, 5, cX5_numbersOf, 1, some .int, false, 1, true) := rfl
theorem me_45 : mm_me 45 = some (yX5_leastOf, 5, cX5_leastOf, 2, some .int, false, 2, true) := rfl
theorem me_46 : mm_me 46 = some (yX5_mostOf, 5, cX5_mostOf, 3, some .int, false, 3, true) := rfl
theorem me_47 : mm_me 47 = some (yX6_init, 6, cX6_init, 1, none, true, 1, false) := rfl
theorem me_48 : mm_me 48 = some (yX7_init, 7, cX7_init, 1, none, true, 1, false) := rfl
theorem me_49 : mm_me 49 = some (yX7_hasRow, 7, cX7_hasRow, 1, some .boolean, false, 1, false) := rfl
theorem me_50 : mm_me 50 = some (yX7_hasChild, 7, cX7_hasChild, 1, some .boolean, false, 1, false) := rfl
theorem me_51 : mm_me 51 = some (yX7_has, 7, cX7_has, 2, some .boolean, false, 2, false) := rfl
theorem me_52 : mm_me 52 = some (yX7_hasPart, 7, cX7_hasPart, 3, some .boolean, false, 3, false) := rfl
theorem me_53 : mm_me 53 = some (yX7_holdRow, 7, cX7_holdRow, 3, none, false, 3, false) := rfl
theorem me_54 : mm_me 54 = some (yX7_holdChild, 7, cX7_holdChild, 2, none, false, 2, false) := rfl
theorem me_55 : mm_me 55 = some (yX7_put, 7, cX7_put, 4, none, false, 3, false) := rfl
theorem me_56 : mm_me 56 = some (yX7_lowest, 7, cX7_lowest, 3, some .long, false, 2, false) := rfl
theorem me_57 : mm_me 57 = some (yX7_at, 7, cX7_at, 2, some .long, false, 2, false) := rfl
theorem me_58 : mm_me 58 = some (yX7_asInt, 7, cX7_asInt, 2, some .int, false, 2, false) := rfl
theorem me_59 : mm_me 59 = some (yX8_init, 8, cX8_init, 2, none, true, 1, false) := rfl
theorem me_60 : mm_me 60 = some (yX8_row, 8, cX8_row, 4, some .int, false, 4, false) := rfl
theorem me_61 : mm_me 61 = some (yX8_set, 8, cX8_set, 6, some .int, false, 4, false) := rfl
theorem me_62 : mm_me 62 = some (yX8_copy, 8, cX8_copy, 8, some .int, false, 6, false) := rfl
theorem me_63 : mm_me 63 = some (yX8_element, 8, cX8_element, 3, some .long, false, 3, false) := rfl
theorem me_64 : mm_me 64 = some (yX8_show, 8, cX8_show, 3, some .int, false, 3, false) := rfl
theorem me_65 : mm_me 65 = some (yX8_holds, 8, cX8_holds, 2, some .int, false, 2, false) := rfl
theorem me_66 : mm_me 66 = some (yX8_says, 8, cX8_says, 4, some .int, false, 3, false) := rfl
theorem me_67 : mm_me 67 = some (yX8_child, 8, cX8_child, 4, some .int, false, 4, false) := rfl
theorem me_68 : mm_me 68 = some (yX8_sack, 8, cX8_sack, 3, some .int, false, 3, false) := rfl
theorem me_69 : mm_me 69 = some (yX8_childOf, 8, cX8_childOf, 3, some .int, false, 3, false) := rfl
theorem me_70 : mm_me 70 = some (yX8_sackOf, 8, cX8_sackOf, 3, some .int, false, 3, false) := rfl
theorem me_71 : mm_me 71 = some (yX8_wears, 8, cX8_wears, 4, some .int, false, 3, false) := rfl
theorem me_72 : mm_me 72 = some (yX8_ahead, 8, cX8_ahead, 4, some .int, false, 3, false) := rfl
theorem me_73 : mm_me 73 = some (yX8_ask, 8, cX8_ask, 4, some .int, false, 3, false) := rfl
theorem me_74 : mm_me 74 = some (yX8_roll, 8, cX8_roll, 3, some .int, false, 2, false) := rfl
theorem me_75 : mm_me 75 = some (yX8_field, 8, cX8_field, 4, some .int, false, 2, false) := rfl
theorem me_76 : mm_me 76 = some (yX8_fault, 8, cX8_fault, 1, some .int, false, 1, false) := rfl
theorem me_77 : mm_me 77 = some (yX8_behind, 8, cX8_behind, 4, some .int, false, 4, false) := rfl
theorem me_78 : mm_me 78 = some (yX8_comesIn, 8, cX8_comesIn, 2, some .int, false, 2, false) := rfl
theorem me_79 : mm_me 79 = some (yX8_wins, 8, cX8_wins, 3, some .int, false, 2, false) := rfl
theorem me_80 : mm_me 80 = some (yX8_best, 8, cX8_best, 3, some .int, false, 3, false) := rfl
theorem me_81 : mm_me 81 = some (yX8_given, 8, cX8_given, 6, some .int, false, 4, false) := rfl
theorem me_82 : mm_me 82 = some (yX8_two, 8, cX8_two, 4, some .int, false, 4, false) := rfl
theorem me_83 : mm_me 83 = some (yX8_pair, 8, cX8_pair, 6, some .int, false, 1, false) := rfl
theorem me_84 : mm_me 84 = some (yX8_start, 8, cX8_start, 3, some .int, false, 3, false) := rfl
theorem me_85 : mm_me 85 = some (yX8_atOnce, 8, cX8_atOnce, 5, some .int, false, 1, false) := rfl
theorem me_86 : mm_me 86 = some (yX8_heats, 8, cX8_heats, 6, some .int, false, 3, false) := rfl
theorem me_87 : mm_me 87 = some (yX8_legs, 8, cX8_legs, 4, some .int, false, 3, false) := rfl
theorem me_88 : mm_me 88 = some (yX8_wall, 8, cX8_wall, 2, some .int, false, 2, false) := rfl
theorem me_89 : mm_me 89 = some (yX8_judge, 8, cX8_judge, 4, some .int, false, 3, false) := rfl
theorem me_90 : mm_me 90 = some (yX8_meant, 8, cX8_meant, 5, some .int, false, 2, false) := rfl
theorem me_91 : mm_me 91 = some (yX8_worn, 8, cX8_worn, 5, some .int, false, 3, false) := rfl
theorem me_92 : mm_me 92 = some (yX8_race, 8, cX8_race, 1, some .int, false, 1, false) := rfl
theorem me_93 : mm_me 93 = some (yX8_summer, 8, cX8_summer, 5, some .int, false, 3, false) := rfl
theorem me_94 : mm_me 94 = some (yX8_seed, 8, cX8_seed, 3, some .int, false, 2, false) := rfl
theorem me_95 : mm_me 95 = some (yX8_act, 8, cX8_act, 4, some .int, false, 4, false) := rfl
theorem me_96 : mm_me 96 = some (yX8_trace, 8, cX8_trace, 2, some .int, false, 2, false) := rfl
theorem me_97 : mm_me 97 = some (yX8_image, 8, cX8_image, 1, some .int, false, 1, false) := rfl
theorem me_98 : mm_me 98 = some (yX8_restore, 8, cX8_restore, 2, some .int, false, 1, false) := rfl
theorem me_99 : mm_me 99 = some (yX8_status, 8, cX8_status, 2, some .int, false, 2, false) := rfl
theorem me_100 : mm_me 100 = some (yX8_refuse, 8, cX8_refuse, 3, some .int, false, 2, false) := rfl
theorem me_101 : mm_me 101 = some (yX8_isShelf, 8, cX8_isShelf, 1, some .boolean, false, 1, true) := rfl
theorem me_102 : mm_me 102 = some (yX8_isKind, 8, cX8_isKind, 1, some .boolean, false, 1, true) := rfl
theorem me_103 : mm_me 103 = some (yX8_isTerm, 8, cX8_isTerm, 1, some .boolean, false, 1, true) := rfl
theorem me_104 : mm_me 104 = some (yX8_isUnder, 8, cX8_isUnder, 4, some .boolean, false, 2, true) := rfl
theorem me_105 : mm_me 105 = some (yX8_bit, 8, cX8_bit, 1, some .int, false, 1, true) := rfl
theorem me_106 : mm_me 106 = some (yX8_areTwoSorts, 8, cX8_areTwoSorts, 2, some .boolean, false, 2, true) := rfl
theorem me_107 : mm_me 107 = some (yX8_whyNoRow, 8, cX8_whyNoRow, 2, some .int, false, 2, false) := rfl
theorem me_108 : mm_me 108 = some (yX8_saysAs, 8, cX8_saysAs, 3, some .int, false, 3, false) := rfl
theorem me_109 : mm_me 109 = some (yX8_timeOf, 8, cX8_timeOf, 2, some .int, false, 2, false) := rfl
theorem me_110 : mm_me 110 = some (yX8_timeAs, 8, cX8_timeAs, 3, some .int, false, 3, false) := rfl
theorem me_111 : mm_me 111 = some (yX8_timeIn, 8, cX8_timeIn, 3, some .int, false, 3, false) := rfl
theorem me_112 : mm_me 112 = some (yX8_timeRolling, 8, cX8_timeRolling, 3, some .int, false, 3, false) := rfl
theorem me_113 : mm_me 113 = some (yX8_timeOfTwo, 8, cX8_timeOfTwo, 6, some .int, false, 4, false) := rfl
theorem me_114 : mm_me 114 = some (yX8_timeAll, 8, cX8_timeAll, 2, none, false, 1, false) := rfl
theorem me_115 : mm_me 115 = some (yX8_winner, 8, cX8_winner, 3, some .int, false, 1, false) := rfl
theorem me_116 : mm_me 116 = some (yX8_leadOf, 8, cX8_leadOf, 4, some .int, false, 2, false) := rfl
theorem me_117 : mm_me 117 = some (yX8_bestKind, 8, cX8_bestKind, 6, some .int, false, 2, false) := rfl
theorem me_118 : mm_me 118 = some (yX8_bestSack, 8, cX8_bestSack, 6, some .int, false, 2, false) := rfl
theorem me_119 : mm_me 119 = some (yX8_leastAhead, 8, cX8_leastAhead, 3, some .int, false, 3, false) := rfl
theorem me_120 : mm_me 120 = some (yX8_heatsOfRound, 8, cX8_heatsOfRound, 7, some .int, false, 3, false) := rfl
theorem me_121 : mm_me 121 = some (yX8_wrongIn, 8, cX8_wrongIn, 8, some .int, false, 3, false) := rfl
theorem me_122 : mm_me 122 = some (yX8_allAsTold, 8, cX8_allAsTold, 4, some .boolean, false, 3, false) := rfl
theorem me_123 : mm_me 123 = some (yX8_raceInTruth, 8, cX8_raceInTruth, 3, some .int, false, 1, false) := rfl
theorem me_124 : mm_me 124 = some (yX8_secondInTruth, 8, cX8_secondInTruth, 4, some .int, false, 1, false) := rfl
theorem me_125 : mm_me 125 = some (yX8_firstInTruth, 8, cX8_firstInTruth, 5, some .int, false, 1, false) := rfl
theorem me_126 : mm_me 126 = some (yX9_init, 9, cX9_init, 1, none, true, 1, false) := rfl
theorem me_127 : mm_me 127 = some (yX9_no, 9, cX9_no, 2, some .int, false, 2, false) := rfl
theorem me_128 : mm_me 128 = some (yX9_noTen, 9, cX9_noTen, 2, some .int, false, 2, false) := rfl
theorem me_129 : mm_me 129 = some (yX9_isShelf, 9, cX9_isShelf, 2, some .boolean, false, 2, false) := rfl
theorem me_130 : mm_me 130 = some (yX9_isChild, 9, cX9_isChild, 2, some .boolean, false, 2, false) := rfl
theorem me_131 : mm_me 131 = some (yX9_isSack, 9, cX9_isSack, 2, some .boolean, false, 2, false) := rfl
theorem me_132 : mm_me 132 = some (yX9_abs, 9, cX9_abs, 2, some .int, false, 2, false) := rfl
theorem me_133 : mm_me 133 = some (yX9_row, 9, cX9_row, 5, some .int, false, 4, false) := rfl
theorem me_134 : mm_me 134 = some (yX9_set, 9, cX9_set, 5, some .int, false, 4, false) := rfl
theorem me_135 : mm_me 135 = some (yX9_copy, 9, cX9_copy, 7, some .int, false, 6, false) := rfl
theorem me_136 : mm_me 136 = some (yX9_element, 9, cX9_element, 3, some .long, false, 3, false) := rfl
theorem me_137 : mm_me 137 = some (yX9_show, 9, cX9_show, 3, some .int, false, 3, false) := rfl
theorem me_138 : mm_me 138 = some (yX9_holds, 9, cX9_holds, 2, some .int, false, 2, false) := rfl
theorem me_139 : mm_me 139 = some (yX9_says, 9, cX9_says, 6, some .int, false, 3, false) := rfl
theorem me_140 : mm_me 140 = some (yX9_wanted, 9, cX9_wanted, 2, some .int, false, 2, false) := rfl
theorem me_141 : mm_me 141 = some (yX9_intAt, 9, cX9_intAt, 3, some .int, false, 3, false) := rfl
theorem me_142 : mm_me 142 = some (yX9_addsChild, 9, cX9_addsChild, 4, some .int, false, 4, false) := rfl
theorem me_143 : mm_me 143 = some (yX9_addsSack, 9, cX9_addsSack, 3, some .int, false, 3, false) := rfl
theorem me_144 : mm_me 144 = some (yX9_child, 9, cX9_child, 4, some .int, false, 4, false) := rfl
theorem me_145 : mm_me 145 = some (yX9_sack, 9, cX9_sack, 3, some .int, false, 3, false) := rfl
theorem me_146 : mm_me 146 = some (yX9_childOf, 9, cX9_childOf, 3, some .int, false, 3, false) := rfl
theorem me_147 : mm_me 147 = some (yX9_sackOf, 9, cX9_sackOf, 3, some .int, false, 3, false) := rfl
theorem me_148 : mm_me 148 = some (yX9_wears, 9, cX9_wears, 4, some .int, false, 3, false) := rfl
theorem me_149 : mm_me 149 = some (yX9_ahead, 9, cX9_ahead, 4, some .int, false, 3, false) := rfl
theorem me_150 : mm_me 150 = some (yX9_isAsked, 9, cX9_isAsked, 3, some .boolean, false, 3, false) := rfl
theorem me_151 : mm_me 151 = some (yX9_told, 9, cX9_told, 2, some .int, false, 2, false) := rfl
theorem me_152 : mm_me 152 = some (yX9_tells, 9, cX9_tells, 3, none, false, 3, false) := rfl
theorem me_153 : mm_me 153 = some (yX9_ask, 9, cX9_ask, 4, some .int, false, 3, false) := rfl
theorem me_154 : mm_me 154 = some (yX9_roll, 9, cX9_roll, 3, some .int, false, 2, false) := rfl
theorem me_155 : mm_me 155 = some (yX9_wrong, 9, cX9_wrong, 2, some .boolean, false, 2, false) := rfl
theorem me_156 : mm_me 156 = some (yX9_stands, 9, cX9_stands, 4, some .boolean, false, 2, false) := rfl
theorem me_157 : mm_me 157 = some (yX9_word, 9, cX9_word, 6, some .int, false, 1, false) := rfl
theorem me_158 : mm_me 158 = some (yX9_isDigit, 9, cX9_isDigit, 1, some .boolean, false, 1, false) := rfl
theorem me_159 : mm_me 159 = some (yX9_reads, 9, cX9_reads, 2, some .boolean, false, 1, false) := rfl
theorem me_160 : mm_me 160 = some (yX9_isSo, 9, cX9_isSo, 3, some .boolean, false, 3, false) := rfl
theorem me_161 : mm_me 161 = some (yX9_item, 9, cX9_item, 4, some .boolean, false, 1, false) := rfl
theorem me_162 : mm_me 162 = some (yX9_carries, 9, cX9_carries, 6, some .int, false, 5, false) := rfl
theorem me_163 : mm_me 163 = some (yX9_all, 9, cX9_all, 5, none, false, 3, false) := rfl
theorem me_164 : mm_me 164 = some (yX9_field, 9, cX9_field, 5, some .int, false, 2, false) := rfl
theorem me_165 : mm_me 165 = some (yX9_fault, 9, cX9_fault, 1, some .int, false, 1, false) := rfl
theorem me_166 : mm_me 166 = some (yX9_puts, 9, cX9_puts, 2, none, false, 2, false) := rfl
theorem me_167 : mm_me 167 = some (yX9_putsIn, 9, cX9_putsIn, 2, none, false, 2, false) := rfl
theorem me_168 : mm_me 168 = some (yX9_one, 9, cX9_one, 2, some .int, false, 2, false) := rfl
theorem me_169 : mm_me 169 = some (yX9_stride, 9, cX9_stride, 1, some .int, false, 1, false) := rfl
theorem me_170 : mm_me 170 = some (yX9_puff, 9, cX9_puff, 1, some .int, false, 1, false) := rfl
theorem me_171 : mm_me 171 = some (yX9_risk, 9, cX9_risk, 2, some .int, false, 1, false) := rfl
theorem me_172 : mm_me 172 = some (yX9_riskNow, 9, cX9_riskNow, 1, some .int, false, 1, false) := rfl
theorem me_173 : mm_me 173 = some (yX9_starts, 9, cX9_starts, 1, none, false, 1, false) := rfl
theorem me_174 : mm_me 174 = some (yX9_falls, 9, cX9_falls, 1, none, false, 1, false) := rfl
theorem me_175 : mm_me 175 = some (yX9_rests, 9, cX9_rests, 1, none, false, 1, false) := rfl
theorem me_176 : mm_me 176 = some (yX9_puffs, 9, cX9_puffs, 1, none, false, 1, false) := rfl
theorem me_177 : mm_me 177 = some (yX9_second, 9, cX9_second, 1, none, false, 1, false) := rfl
theorem me_178 : mm_me 178 = some (yX9_withRope, 9, cX9_withRope, 3, some .int, false, 2, false) := rfl
theorem me_179 : mm_me 179 = some (yX9_in, 9, cX9_in, 2, some .int, false, 1, false) := rfl
theorem me_180 : mm_me 180 = some (yX9_inOf, 9, cX9_inOf, 2, some .int, false, 2, false) := rfl
theorem me_181 : mm_me 181 = some (yX9_inWith, 9, cX9_inWith, 3, some .int, false, 3, false) := rfl
theorem me_182 : mm_me 182 = some (yX9_inAs, 9, cX9_inAs, 3, some .int, false, 3, false) := rfl
theorem me_183 : mm_me 183 = some (yX9_inFrom, 9, cX9_inFrom, 3, some .int, false, 3, false) := rfl
theorem me_184 : mm_me 184 = some (yX9_inRolling, 9, cX9_inRolling, 3, some .int, false, 3, false) := rfl
theorem me_185 : mm_me 185 = some (yX9_behind, 9, cX9_behind, 5, some .int, false, 4, false) := rfl
theorem me_186 : mm_me 186 = some (yX9_comesIn, 9, cX9_comesIn, 2, some .int, false, 2, false) := rfl
theorem me_187 : mm_me 187 = some (yX9_firstIn, 9, cX9_firstIn, 3, some .int, false, 1, false) := rfl
theorem me_188 : mm_me 188 = some (yX9_wins, 9, cX9_wins, 6, some .int, false, 2, false) := rfl
theorem me_189 : mm_me 189 = some (yX9_how, 9, cX9_how, 4, some .int, false, 2, false) := rfl
theorem me_190 : mm_me 190 = some (yX9_bestSack, 9, cX9_bestSack, 4, some .int, false, 2, false) := rfl
theorem me_191 : mm_me 191 = some (yX9_best, 9, cX9_best, 3, some .int, false, 3, false) := rfl
theorem me_192 : mm_me 192 = some (yX9_gives, 9, cX9_gives, 10, none, false, 8, false) := rfl
theorem me_193 : mm_me 193 = some (yX9_given, 9, cX9_given, 6, some .int, false, 4, false) := rfl
theorem me_194 : mm_me 194 = some (yX9_twoIn, 9, cX9_twoIn, 4, some .int, false, 4, false) := rfl
theorem me_195 : mm_me 195 = some (yX9_two, 9, cX9_two, 4, some .int, false, 4, false) := rfl
theorem me_196 : mm_me 196 = some (yX9_pair, 9, cX9_pair, 6, some .int, false, 1, false) := rfl
theorem me_197 : mm_me 197 = some (yX9_startOf, 9, cX9_startOf, 4, some .int, false, 3, false) := rfl
theorem me_198 : mm_me 198 = some (yX9_start, 9, cX9_start, 3, some .int, false, 3, false) := rfl
theorem me_199 : mm_me 199 = some (yX9_atOnce, 9, cX9_atOnce, 5, some .int, false, 1, false) := rfl
theorem me_200 : mm_me 200 = some (yX9_heats, 9, cX9_heats, 9, some .int, false, 3, false) := rfl
theorem me_201 : mm_me 201 = some (yX9_legs, 9, cX9_legs, 6, some .int, false, 3, false) := rfl
theorem me_202 : mm_me 202 = some (yX9_wall, 9, cX9_wall, 3, some .int, false, 2, false) := rfl
theorem me_203 : mm_me 203 = some (yX9_judge, 9, cX9_judge, 8, some .int, false, 3, false) := rfl
theorem me_204 : mm_me 204 = some (yX9_meant, 9, cX9_meant, 7, some .int, false, 2, false) := rfl
theorem me_205 : mm_me 205 = some (yX9_worn, 9, cX9_worn, 5, some .int, false, 3, false) := rfl
theorem me_206 : mm_me 206 = some (yX9_draw, 9, cX9_draw, 2, some .int, false, 2, false) := rfl
theorem me_207 : mm_me 207 = some (yX9_secondInTruth, 9, cX9_secondInTruth, 2, none, false, 1, false) := rfl
theorem me_208 : mm_me 208 = some (yX9_raced, 9, cX9_raced, 3, some .int, false, 1, false) := rfl
theorem me_209 : mm_me 209 = some (yX9_race, 9, cX9_race, 1, some .int, false, 1, false) := rfl
theorem me_210 : mm_me 210 = some (yX9_summer, 9, cX9_summer, 5, some .int, false, 3, false) := rfl
theorem me_211 : mm_me 211 = some (yX9_seed, 9, cX9_seed, 3, some .int, false, 2, false) := rfl
theorem me_212 : mm_me 212 = some (yX9_body, 9, cX9_body, 2, none, false, 2, false) := rfl
theorem me_213 : mm_me 213 = some (yX9_hopping, 9, cX9_hopping, 5, some .int, false, 3, false) := rfl
theorem me_214 : mm_me 214 = some (yX9_falling, 9, cX9_falling, 7, some .int, false, 3, false) := rfl
theorem me_215 : mm_me 215 = some (yX9_rising, 9, cX9_rising, 5, some .int, false, 3, false) := rfl
theorem me_216 : mm_me 216 = some (yX9_act, 9, cX9_act, 4, some .int, false, 4, false) := rfl
theorem me_217 : mm_me 217 = some (yX9_trace, 9, cX9_trace, 2, some .int, false, 2, false) := rfl
theorem me_218 : mm_me 218 = some (yX9_image, 9, cX9_image, 1, some .int, false, 1, false) := rfl
theorem me_219 : mm_me 219 = some (yX9_restore, 9, cX9_restore, 2, some .int, false, 1, false) := rfl
theorem me_220 : mm_me 220 = some (yX9_status, 9, cX9_status, 2, some .int, false, 2, false) := rfl
theorem me_221 : mm_me 221 = some (yJ7_fill_d0a16, 11, cJ7_fill_d0a16, 5, none, false, 2, true) := rfl
