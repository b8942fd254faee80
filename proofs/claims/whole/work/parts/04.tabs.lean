/-! fields and constants by the places of the pools: (class, field, sort, how far behind) -/
def FL0 : List (Nat × Nat × Nat × Nat × Nat) := [(10, 0, 0, 2, 1), (19, 0, 1, 2, 8)]
def FX0 : Nat → Option (Nat × Nat × Nat × Nat) := fun i => FL0.lookup i
def CL0 : List (Nat × AV) := []
def CX0 : Nat → Option AV := fun i => CL0.lookup i
theorem FX0_10 : FX0 10 = some (0, 0, 2, 1) := rfl
theorem FX0_19 : FX0 19 = some (0, 1, 2, 8) := rfl
def FL1 : List (Nat × Nat × Nat × Nat × Nat) := [(11, 1, 0, 2, 1), (20, 1, 1, 0, 0), (16, 1, 2, 0, 0), (23, 1, 3, 0, 0), (26, 1, 4, 0, 0), (29, 1, 5, 0, 0), (32, 1, 6, 0, 0)]
def FX1 : Nat → Option (Nat × Nat × Nat × Nat) := fun i => FL1.lookup i
def CL1 : List (Nat × AV) := [(73, .inl 999999)]
def CX1 : Nat → Option AV := fun i => CL1.lookup i
theorem FX1_11 : FX1 11 = some (1, 0, 2, 1) := rfl
theorem FX1_20 : FX1 20 = some (1, 1, 0, 0) := rfl
theorem FX1_16 : FX1 16 = some (1, 2, 0, 0) := rfl
theorem FX1_23 : FX1 23 = some (1, 3, 0, 0) := rfl
theorem FX1_26 : FX1 26 = some (1, 4, 0, 0) := rfl
theorem FX1_29 : FX1 29 = some (1, 5, 0, 0) := rfl
theorem FX1_32 : FX1 32 = some (1, 6, 0, 0) := rfl
theorem CX1_73 : CX1 73 = some (.inl 999999) := rfl
def FL2 : List (Nat × Nat × Nat × Nat × Nat) := [(55, 1, 0, 2, 1), (9, 2, 0, 2, 1), (15, 2, 1, 2, 2), (18, 2, 2, 2, 3), (21, 2, 3, 0, 0)]
def FX2 : Nat → Option (Nat × Nat × Nat × Nat) := fun i => FL2.lookup i
def CL2 : List (Nat × AV) := []
def CX2 : Nat → Option AV := fun i => CL2.lookup i
theorem FX2_55 : FX2 55 = some (1, 0, 2, 1) := rfl
theorem FX2_9 : FX2 9 = some (2, 0, 2, 1) := rfl
theorem FX2_15 : FX2 15 = some (2, 1, 2, 2) := rfl
theorem FX2_18 : FX2 18 = some (2, 2, 2, 3) := rfl
theorem FX2_21 : FX2 21 = some (2, 3, 0, 0) := rfl
def FL3 : List (Nat × Nat × Nat × Nat × Nat) := [(9, 3, 0, 2, 1), (15, 3, 1, 0, 0), (19, 3, 2, 0, 0)]
def FX3 : Nat → Option (Nat × Nat × Nat × Nat) := fun i => FL3.lookup i
def CL3 : List (Nat × AV) := []
def CX3 : Nat → Option AV := fun i => CL3.lookup i
theorem FX3_9 : FX3 9 = some (3, 0, 2, 1) := rfl
theorem FX3_15 : FX3 15 = some (3, 1, 0, 0) := rfl
theorem FX3_19 : FX3 19 = some (3, 2, 0, 0) := rfl
def FL4 : List (Nat × Nat × Nat × Nat × Nat) := [(79, 1, 0, 2, 1), (43, 1, 1, 0, 0), (40, 1, 2, 0, 0), (9, 4, 0, 2, 1), (50, 4, 1, 0, 0), (20, 4, 2, 0, 0), (119, 4, 3, 0, 0), (24, 4, 4, 0, 0), (30, 4, 5, 0, 0), (61, 4, 6, 0, 0)]
def FX4 : Nat → Option (Nat × Nat × Nat × Nat) := fun i => FL4.lookup i
def CL4 : List (Nat × AV) := [(83, .inr (.inr 100)), (87, .inr (.inr 101)), (90, .inr (.inr 110)), (96, .inr (.inr 111)), (98, .inr (.inr 112)), (100, .inr (.inr 113)), (102, .inr (.inr 114))]
def CX4 : Nat → Option AV := fun i => CL4.lookup i
theorem FX4_79 : FX4 79 = some (1, 0, 2, 1) := rfl
theorem FX4_43 : FX4 43 = some (1, 1, 0, 0) := rfl
theorem FX4_40 : FX4 40 = some (1, 2, 0, 0) := rfl
theorem FX4_9 : FX4 9 = some (4, 0, 2, 1) := rfl
theorem FX4_50 : FX4 50 = some (4, 1, 0, 0) := rfl
theorem FX4_20 : FX4 20 = some (4, 2, 0, 0) := rfl
theorem FX4_119 : FX4 119 = some (4, 3, 0, 0) := rfl
theorem FX4_24 : FX4 24 = some (4, 4, 0, 0) := rfl
theorem FX4_30 : FX4 30 = some (4, 5, 0, 0) := rfl
theorem FX4_61 : FX4 61 = some (4, 6, 0, 0) := rfl
theorem CX4_83 : CX4 83 = some (.inr (.inr 100)) := rfl
theorem CX4_87 : CX4 87 = some (.inr (.inr 101)) := rfl
theorem CX4_90 : CX4 90 = some (.inr (.inr 110)) := rfl
theorem CX4_96 : CX4 96 = some (.inr (.inr 111)) := rfl
theorem CX4_98 : CX4 98 = some (.inr (.inr 112)) := rfl
theorem CX4_100 : CX4 100 = some (.inr (.inr 113)) := rfl
theorem CX4_102 : CX4 102 = some (.inr (.inr 114)) := rfl
def FL5 : List (Nat × Nat × Nat × Nat × Nat) := [(115, 1, 0, 2, 1), (85, 1, 1, 0, 0), (88, 1, 2, 0, 0), (91, 1, 3, 0, 0), (94, 1, 4, 0, 0), (97, 1, 5, 0, 0), (100, 1, 6, 0, 0), (78, 2, 3, 0, 0), (60, 4, 0, 2, 1), (56, 4, 1, 0, 0), (68, 4, 2, 0, 0), (71, 4, 3, 0, 0), (190, 0, 0, 2, 1), (191, 0, 1, 2, 8), (81, 0, 2, 3, 0), (207, 3, 0, 2, 1), (198, 3, 1, 0, 0), (219, 3, 2, 0, 0), (10, 5, 0, 2, 1), (16, 5, 1, 2, 8), (22, 5, 2, 2, 15), (29, 5, 3, 2, 19), (35, 5, 4, 2, 21), (41, 5, 5, 2, 46), (47, 5, 6, 2, 55), (213, 5, 7, 0, 0)]
def FX5 : Nat → Option (Nat × Nat × Nat × Nat) := fun i => FL5.lookup i
def CL5 : List (Nat × AV) := [(118, .inr (.inr 100)), (122, .inr (.inr 101)), (160, .inr (.inl (-1))), (225, .inr (.inl 10)), (189, .inl 1103515245)]
def CX5 : Nat → Option AV := fun i => CL5.lookup i
theorem FX5_115 : FX5 115 = some (1, 0, 2, 1) := rfl
theorem FX5_85 : FX5 85 = some (1, 1, 0, 0) := rfl
theorem FX5_88 : FX5 88 = some (1, 2, 0, 0) := rfl
theorem FX5_91 : FX5 91 = some (1, 3, 0, 0) := rfl
theorem FX5_94 : FX5 94 = some (1, 4, 0, 0) := rfl
theorem FX5_97 : FX5 97 = some (1, 5, 0, 0) := rfl
theorem FX5_100 : FX5 100 = some (1, 6, 0, 0) := rfl
theorem FX5_78 : FX5 78 = some (2, 3, 0, 0) := rfl
theorem FX5_60 : FX5 60 = some (4, 0, 2, 1) := rfl
theorem FX5_56 : FX5 56 = some (4, 1, 0, 0) := rfl
theorem FX5_68 : FX5 68 = some (4, 2, 0, 0) := rfl
theorem FX5_71 : FX5 71 = some (4, 3, 0, 0) := rfl
theorem FX5_190 : FX5 190 = some (0, 0, 2, 1) := rfl
theorem FX5_191 : FX5 191 = some (0, 1, 2, 8) := rfl
theorem FX5_81 : FX5 81 = some (0, 2, 3, 0) := rfl
theorem FX5_207 : FX5 207 = some (3, 0, 2, 1) := rfl
theorem FX5_198 : FX5 198 = some (3, 1, 0, 0) := rfl
theorem FX5_219 : FX5 219 = some (3, 2, 0, 0) := rfl
theorem FX5_10 : FX5 10 = some (5, 0, 2, 1) := rfl
theorem FX5_16 : FX5 16 = some (5, 1, 2, 8) := rfl
theorem FX5_22 : FX5 22 = some (5, 2, 2, 15) := rfl
theorem FX5_29 : FX5 29 = some (5, 3, 2, 19) := rfl
theorem FX5_35 : FX5 35 = some (5, 4, 2, 21) := rfl
theorem FX5_41 : FX5 41 = some (5, 5, 2, 46) := rfl
theorem FX5_47 : FX5 47 = some (5, 6, 2, 55) := rfl
theorem FX5_213 : FX5 213 = some (5, 7, 0, 0) := rfl
theorem CX5_118 : CX5 118 = some (.inr (.inr 100)) := rfl
theorem CX5_122 : CX5 122 = some (.inr (.inr 101)) := rfl
theorem CX5_160 : CX5 160 = some (.inr (.inl (-1))) := rfl
theorem CX5_225 : CX5 225 = some (.inr (.inl 10)) := rfl
theorem CX5_189 : CX5 189 = some (.inl 1103515245) := rfl
def FL6 : List (Nat × Nat × Nat × Nat × Nat) := [(7, 6, 0, 2, 1), (13, 6, 1, 2, 2), (16, 6, 2, 2, 3), (20, 6, 3, 2, 4), (53, 6, 4, 3, 0), (23, 6, 5, 2, 5), (63, 6, 6, 0, 0), (76, 6, 7, 0, 0), (70, 6, 8, 0, 0), (87, 6, 9, 0, 0), (98, 6, 10, 0, 0), (67, 6, 11, 0, 0), (73, 6, 12, 0, 0), (129, 6, 13, 0, 0), (132, 6, 14, 0, 0), (135, 6, 15, 0, 0), (138, 6, 16, 0, 0), (26, 6, 17, 2, 6), (212, 6, 18, 0, 0), (215, 6, 19, 0, 0), (238, 6, 20, 1, 0), (242, 6, 21, 1, 0), (245, 6, 22, 1, 0), (29, 6, 23, 2, 7), (32, 6, 24, 2, 8), (35, 6, 25, 2, 9), (38, 6, 26, 2, 10), (41, 6, 27, 2, 11), (283, 6, 28, 0, 0), (44, 6, 29, 2, 12)]
def FX6 : Nat → Option (Nat × Nat × Nat × Nat) := fun i => FL6.lookup i
def CL6 : List (Nat × AV) := [(57, .inr (.inl 127)), (90, .inr (.inl 97)), (92, .inr (.inl 122)), (94, .inr (.inl 48)), (96, .inr (.inl 57)), (183, .inr (.inl 6)), (185, .inr (.inl 4)), (190, .inr (.inl 99)), (141, .inl 999999), (198, .inr (.inl 100)), (203, .inr (.inl 200)), (208, .inr (.inl 3)), (210, .inr (.inl 2)), (230, .inl 1000000000), (248, .inr (.inl 10)), (250, .inr (.inl 8)), (252, .inr (.inl (-1))), (262, .inr (.inl 40)), (271, .inl 1103515245), (278, .inr (.inl 20))]
def CX6 : Nat → Option AV := fun i => CL6.lookup i
theorem FX6_7 : FX6 7 = some (6, 0, 2, 1) := rfl
theorem FX6_13 : FX6 13 = some (6, 1, 2, 2) := rfl
theorem FX6_16 : FX6 16 = some (6, 2, 2, 3) := rfl
theorem FX6_20 : FX6 20 = some (6, 3, 2, 4) := rfl
theorem FX6_53 : FX6 53 = some (6, 4, 3, 0) := rfl
theorem FX6_23 : FX6 23 = some (6, 5, 2, 5) := rfl
theorem FX6_63 : FX6 63 = some (6, 6, 0, 0) := rfl
theorem FX6_76 : FX6 76 = some (6, 7, 0, 0) := rfl
theorem FX6_70 : FX6 70 = some (6, 8, 0, 0) := rfl
theorem FX6_87 : FX6 87 = some (6, 9, 0, 0) := rfl
theorem FX6_98 : FX6 98 = some (6, 10, 0, 0) := rfl
theorem FX6_67 : FX6 67 = some (6, 11, 0, 0) := rfl
theorem FX6_73 : FX6 73 = some (6, 12, 0, 0) := rfl
theorem FX6_129 : FX6 129 = some (6, 13, 0, 0) := rfl
theorem FX6_132 : FX6 132 = some (6, 14, 0, 0) := rfl
theorem FX6_135 : FX6 135 = some (6, 15, 0, 0) := rfl
theorem FX6_138 : FX6 138 = some (6, 16, 0, 0) := rfl
theorem FX6_26 : FX6 26 = some (6, 17, 2, 6) := rfl
theorem FX6_212 : FX6 212 = some (6, 18, 0, 0) := rfl
theorem FX6_215 : FX6 215 = some (6, 19, 0, 0) := rfl
theorem FX6_238 : FX6 238 = some (6, 20, 1, 0) := rfl
theorem FX6_242 : FX6 242 = some (6, 21, 1, 0) := rfl
theorem FX6_245 : FX6 245 = some (6, 22, 1, 0) := rfl
theorem FX6_29 : FX6 29 = some (6, 23, 2, 7) := rfl
theorem FX6_32 : FX6 32 = some (6, 24, 2, 8) := rfl
theorem FX6_35 : FX6 35 = some (6, 25, 2, 9) := rfl
theorem FX6_38 : FX6 38 = some (6, 26, 2, 10) := rfl
theorem FX6_41 : FX6 41 = some (6, 27, 2, 11) := rfl
theorem FX6_283 : FX6 283 = some (6, 28, 0, 0) := rfl
theorem FX6_44 : FX6 44 = some (6, 29, 2, 12) := rfl
theorem CX6_57 : CX6 57 = some (.inr (.inl 127)) := rfl
theorem CX6_90 : CX6 90 = some (.inr (.inl 97)) := rfl
theorem CX6_92 : CX6 92 = some (.inr (.inl 122)) := rfl
theorem CX6_94 : CX6 94 = some (.inr (.inl 48)) := rfl
theorem CX6_96 : CX6 96 = some (.inr (.inl 57)) := rfl
theorem CX6_183 : CX6 183 = some (.inr (.inl 6)) := rfl
theorem CX6_185 : CX6 185 = some (.inr (.inl 4)) := rfl
theorem CX6_190 : CX6 190 = some (.inr (.inl 99)) := rfl
theorem CX6_141 : CX6 141 = some (.inl 999999) := rfl
theorem CX6_198 : CX6 198 = some (.inr (.inl 100)) := rfl
theorem CX6_203 : CX6 203 = some (.inr (.inl 200)) := rfl
theorem CX6_208 : CX6 208 = some (.inr (.inl 3)) := rfl
theorem CX6_210 : CX6 210 = some (.inr (.inl 2)) := rfl
theorem CX6_230 : CX6 230 = some (.inl 1000000000) := rfl
theorem CX6_248 : CX6 248 = some (.inr (.inl 10)) := rfl
theorem CX6_250 : CX6 250 = some (.inr (.inl 8)) := rfl
theorem CX6_252 : CX6 252 = some (.inr (.inl (-1))) := rfl
theorem CX6_262 : CX6 262 = some (.inr (.inl 40)) := rfl
theorem CX6_271 : CX6 271 = some (.inl 1103515245) := rfl
theorem CX6_278 : CX6 278 = some (.inr (.inl 20)) := rfl
