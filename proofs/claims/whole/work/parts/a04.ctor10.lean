def P10 : List (Nat × Nat × Nat) := [(0, 0, 1), (0, 1, 3), (0, 2, 4), (0, 3, 17), (0, 5, 30), (0, 6, 41), (0, 7, 44), (0, 8, 47), (0, 9, 76), (0, 11, 85), (0, 12, 88), (0, 13, 91), (0, 14, 92), (0, 15, 93), (1, 0, 2), (4, 7, 5), (4, 8, 6), (4, 9, 11), (6, 0, 7), (6, 1, 8), (6, 2, 9), (6, 3, 10), (11, 0, 12), (11, 1, 13), (11, 2, 14), (11, 3, 15), (11, 4, 16), (17, 7, 18), (17, 8, 19), (17, 9, 24), (19, 0, 20), (19, 1, 21), (19, 2, 22), (19, 3, 23), (24, 0, 25), (24, 1, 26), (24, 2, 27), (24, 3, 28), (24, 4, 29), (30, 1, 31), (30, 2, 35), (31, 0, 32), (31, 1, 33), (31, 2, 34), (35, 0, 36), (35, 1, 37), (35, 2, 38), (35, 3, 39), (35, 4, 40), (41, 1, 42), (41, 2, 43), (44, 0, 45), (44, 1, 46), (47, 0, 48), (47, 1, 62), (48, 1, 49), (48, 2, 60), (48, 3, 61), (49, 1, 50), (49, 2, 54), (50, 0, 51), (50, 1, 52), (50, 2, 53), (54, 0, 55), (54, 1, 56), (54, 2, 57), (54, 3, 58), (54, 4, 59), (62, 1, 63), (62, 2, 74), (62, 3, 75), (63, 1, 64), (63, 2, 68), (64, 0, 65), (64, 1, 66), (64, 2, 67), (68, 0, 69), (68, 1, 70), (68, 2, 71), (68, 3, 72), (68, 4, 73), (76, 0, 77), (76, 1, 79), (76, 2, 81), (76, 3, 83), (77, 2, 78), (79, 2, 80), (81, 2, 82), (83, 2, 84), (85, 0, 86), (85, 1, 87), (88, 0, 89), (88, 1, 90), (93, 0, 94), (93, 1, 95)]
def V10 : List (Nat × Nat × Int) := [(4, 0, 0), (4, 1, 0), (4, 2, 11), (4, 3, 20), (4, 4, 35), (4, 5, 0), (4, 6, 1), (5, 0, 0), (5, 1, 1), (5, 2, 1), (5, 3, 1), (30, 0, 0), (45, 0, 0), (45, 1, 0), (45, 2, 89), (45, 3, 3), (45, 4, 255), (46, 0, 0), (46, 1, 0), (46, 2, 89), (46, 3, 3), (46, 4, 255), (41, 0, 1), (1, 1, 0), (0, 4, 0), (48, 0, 0), (62, 0, 0), (77, 0, (-1)), (79, 0, (-1)), (81, 0, (-1)), (83, 0, (-1)), (0, 10, 0)]
def ptK (l : List (Nat × Nat × Nat)) (m : Mem) : Prop := (l.all fun t => decide (m.2 t.1 t.2.1 = some t.2.2)) = true
def vlK (l : List (Nat × Nat × Int)) (m : Mem) : Prop := (l.all fun t => decide (m.1 t.1 t.2.1 = t.2.2)) = true
/-- behind the class's constructor -/
def K10 (m : Mem) : Prop := ptK P10 m ∧ vlK V10 m ∧ (∀ i, m.1 78 i = 0) ∧ (∀ i, m.1 80 i = 0) ∧ (∀ i, m.1 82 i = 0) ∧ ∀ i, m.1 84 i = 0
section
variable {Γ : GX} {m m' : Mem} {S : Shp}
set_option maxRecDepth 10000 in
theorem k_X10_init : C Γ mX10_init 4 200 95 2959 [vr 0] (1, shF) m (QV (96, shF) K10) := by
  refine C_of_R rfl (Nat.le_of_ble_eq_true rfl) ?_
  refine R_aload_n 1 rfl dX10_init_0 rfl ?_
  refine R_objInit 4 rfl dX10_init_1 ml_X10_1 (by decide) ⟨Nat.le_of_ble_eq_true rfl, Nat.le_of_ble_eq_true rfl⟩ ?_
  refine R_aload_n 5 rfl dX10_init_4 rfl ?_
  refine R_new 9 8 2 1 2 rfl dX10_init_5 (by decide) rfl rfl (by decide) rfl rfl cl_X10_7 inst_X9 ini_X9 ⟨Nat.le_of_ble_eq_true rfl, Nat.le_of_ble_eq_true rfl⟩ ?_
  refine R_dup 9 rfl dX10_init_8 rfl ?_
  refine R_callI_v (M' := mX9_init) 12 2 322 rfl dX10_init_9 ml_X10_9 kmX9_init im_X9_init rfl rfl (by decide) (k_X9_init1) rfl rfl ⟨Nat.le_of_ble_eq_true rfl, Nat.le_of_ble_eq_true rfl⟩ rfl rfl ⟨Nat.le_of_ble_eq_true rfl, Nat.le_of_ble_eq_true rfl⟩ (Nat.le_of_ble_eq_true rfl) ?_
  refine R_putFP 0 15 rfl dX10_init_12 rfl rfl fl_X10_10 rfl rfl ?_
  refine R_aload_n 16 rfl dX10_init_15 rfl ?_
  refine R_new 5 19 4 3 331 rfl dX10_init_16 (by decide) rfl rfl (by decide) rfl rfl cl_X10_16 inst_X5 ini_X5 ⟨Nat.le_of_ble_eq_true rfl, Nat.le_of_ble_eq_true rfl⟩ ?_
  refine R_dup 20 rfl dX10_init_19 rfl ?_
  refine R_callI_v (M' := mX5_init) 23 3 331 rfl dX10_init_20 ml_X10_18 kmX5_init im_X5_init rfl rfl (by decide) (k_X5_init3) rfl rfl ⟨Nat.le_of_ble_eq_true rfl, Nat.le_of_ble_eq_true rfl⟩ rfl rfl ⟨Nat.le_of_ble_eq_true rfl, Nat.le_of_ble_eq_true rfl⟩ (Nat.le_of_ble_eq_true rfl) ?_
  refine R_putFP 1 26 rfl dX10_init_23 rfl rfl fl_X10_19 rfl rfl ?_
  refine R_aload_n 27 rfl dX10_init_26 rfl ?_
  refine R_new 4 30 5 4 341 rfl dX10_init_27 (by decide) rfl rfl (by decide) rfl rfl cl_X10_23 inst_X4 ini_X4 ⟨Nat.le_of_ble_eq_true rfl, Nat.le_of_ble_eq_true rfl⟩ ?_
  refine R_dup 31 rfl dX10_init_30 rfl ?_
  refine R_callI_v (M' := mX4_init) 34 16 442 rfl dX10_init_31 ml_X10_25 kmX4_init im_X4_init rfl rfl (by decide) (k_X4_init4) rfl rfl ⟨Nat.le_of_ble_eq_true rfl, Nat.le_of_ble_eq_true rfl⟩ rfl rfl ⟨Nat.le_of_ble_eq_true rfl, Nat.le_of_ble_eq_true rfl⟩ (Nat.le_of_ble_eq_true rfl) ?_
  refine R_putP 2 37 rfl dX10_init_34 rfl rfl fl_X10_26 ?_
  refine R_aload_n 38 rfl dX10_init_37 rfl ?_
  refine R_new 4 41 18 17 452 rfl dX10_init_38 (by decide) rfl rfl (by decide) rfl rfl cl_X10_23 inst_X4 ini_X4 ⟨Nat.le_of_ble_eq_true rfl, Nat.le_of_ble_eq_true rfl⟩ ?_
  refine R_dup 42 rfl dX10_init_41 rfl ?_
  refine R_callI_v (M' := mX4_init) 45 29 553 rfl dX10_init_42 ml_X10_25 kmX4_init im_X4_init rfl rfl (by decide) (k_X4_init17) rfl rfl ⟨Nat.le_of_ble_eq_true rfl, Nat.le_of_ble_eq_true rfl⟩ rfl rfl ⟨Nat.le_of_ble_eq_true rfl, Nat.le_of_ble_eq_true rfl⟩ (Nat.le_of_ble_eq_true rfl) ?_
  refine R_putP 3 48 rfl dX10_init_45 rfl rfl fl_X10_30 ?_
  refine R_aload_n 49 rfl dX10_init_48 rfl ?_
  refine R_iconst 50 rfl dX10_init_49 ?_
  refine R_putI 4 53 rfl dX10_init_50 rfl rfl fl_X10_33 ?_
  refine R_aload_n 54 rfl dX10_init_53 rfl ?_
  refine R_new 0 57 31 30 556 rfl dX10_init_54 (by decide) rfl rfl (by decide) rfl rfl cl_X10_37 inst_X0 ini_X0 ⟨Nat.le_of_ble_eq_true rfl, Nat.le_of_ble_eq_true rfl⟩ ?_
  refine R_dup 58 rfl dX10_init_57 rfl ?_
  refine R_callI_v (M' := mX0_init) 61 40 1084 rfl dX10_init_58 ml_X10_39 kmX0_init im_X0_init rfl rfl (by decide) (k_X0_init30) rfl rfl ⟨Nat.le_of_ble_eq_true rfl, Nat.le_of_ble_eq_true rfl⟩ rfl rfl ⟨Nat.le_of_ble_eq_true rfl, Nat.le_of_ble_eq_true rfl⟩ (Nat.le_of_ble_eq_true rfl) ?_
  refine R_putFP 5 64 rfl dX10_init_61 rfl rfl fl_X10_40 rfl rfl ?_
  refine R_aload_n 65 rfl dX10_init_64 rfl ?_
  refine R_new 3 68 42 41 1089 rfl dX10_init_65 (by decide) rfl rfl (by decide) rfl rfl cl_X10_44 inst_X3 ini_X3 ⟨Nat.le_of_ble_eq_true rfl, Nat.le_of_ble_eq_true rfl⟩ ?_
  refine R_dup 69 rfl dX10_init_68 rfl ?_
  refine R_callI_v (M' := mX3_init) 72 43 1249 rfl dX10_init_69 ml_X10_46 kmX3_init im_X3_init rfl rfl (by decide) (k_X3_init41) rfl rfl ⟨Nat.le_of_ble_eq_true rfl, Nat.le_of_ble_eq_true rfl⟩ rfl rfl ⟨Nat.le_of_ble_eq_true rfl, Nat.le_of_ble_eq_true rfl⟩ (Nat.le_of_ble_eq_true rfl) ?_
  refine R_putFP 6 75 rfl dX10_init_72 rfl rfl fl_X10_47 rfl rfl ?_
  refine R_aload_n 76 rfl dX10_init_75 rfl ?_
  refine R_iconst 77 rfl dX10_init_76 ?_
  refine R_anewX1 2 80 45 44 1251 rfl dX10_init_77 cl_X10_51 rfl rfl (by decide) rfl (by decide) rfl rfl ⟨Nat.le_of_ble_eq_true rfl, Nat.le_of_ble_eq_true rfl⟩ ?_
  refine R_dup 81 rfl dX10_init_80 rfl ?_
  refine R_iconst 82 rfl dX10_init_81 ?_
  refine R_new 1 85 46 45 1256 rfl dX10_init_82 (by decide) rfl rfl (by decide) rfl rfl cl_X10_51 inst_X1 ini_X1 ⟨Nat.le_of_ble_eq_true rfl, Nat.le_of_ble_eq_true rfl⟩ ?_
  refine R_dup 86 rfl dX10_init_85 rfl ?_
  refine R_callI_v (M' := mX1_init) 89 45 1256 rfl dX10_init_86 ml_X10_53 kmX1_init im_X1_init rfl rfl (by decide) (k_X1_init45) rfl rfl ⟨Nat.le_of_ble_eq_true rfl, Nat.le_of_ble_eq_true rfl⟩ rfl rfl ⟨Nat.le_of_ble_eq_true rfl, Nat.le_of_ble_eq_true rfl⟩ (Nat.le_of_ble_eq_true rfl) ?_
  refine R_aastX1 0 90 rfl dX10_init_89 rfl rfl (by first | rfl | omega) (by decide) (by decide) ?_
  refine R_dup 91 rfl dX10_init_90 rfl ?_
  refine R_iconst 92 rfl dX10_init_91 ?_
  refine R_new 1 95 47 46 1261 rfl dX10_init_92 (by decide) rfl rfl (by decide) rfl rfl cl_X10_51 inst_X1 ini_X1 ⟨Nat.le_of_ble_eq_true rfl, Nat.le_of_ble_eq_true rfl⟩ ?_
  refine R_dup 96 rfl dX10_init_95 rfl ?_
  refine R_callI_v (M' := mX1_init) 99 46 1261 rfl dX10_init_96 ml_X10_53 kmX1_init im_X1_init rfl rfl (by decide) (k_X1_init46) rfl rfl ⟨Nat.le_of_ble_eq_true rfl, Nat.le_of_ble_eq_true rfl⟩ rfl rfl ⟨Nat.le_of_ble_eq_true rfl, Nat.le_of_ble_eq_true rfl⟩ (Nat.le_of_ble_eq_true rfl) ?_
  refine R_aastX1 1 100 rfl dX10_init_99 rfl rfl (by first | rfl | omega) (by decide) (by decide) ?_
  refine R_putFP 7 103 rfl dX10_init_100 rfl rfl fl_X10_54 rfl rfl ?_
  refine R_aload_n 104 rfl dX10_init_103 rfl ?_
  refine R_iconst 105 rfl dX10_init_104 ?_
  refine R_anewX2 2 108 48 47 1263 rfl dX10_init_105 cl_X10_58 rfl rfl (by decide) rfl (by decide) rfl rfl ⟨Nat.le_of_ble_eq_true rfl, Nat.le_of_ble_eq_true rfl⟩ ?_
  refine R_dup 109 rfl dX10_init_108 rfl ?_
  refine R_iconst 110 rfl dX10_init_109 ?_
  refine R_new 2 113 49 48 1267 rfl dX10_init_110 (by decide) rfl rfl (by decide) rfl rfl cl_X10_58 inst_X2 ini_X2 ⟨Nat.le_of_ble_eq_true rfl, Nat.le_of_ble_eq_true rfl⟩ ?_
  refine R_dup 114 rfl dX10_init_113 rfl ?_
  refine R_callI_v (M' := mX2_init) 117 61 1808 rfl dX10_init_114 ml_X10_60 kmX2_init im_X2_init rfl rfl (by decide) (k_X2_init48) rfl rfl ⟨Nat.le_of_ble_eq_true rfl, Nat.le_of_ble_eq_true rfl⟩ rfl rfl ⟨Nat.le_of_ble_eq_true rfl, Nat.le_of_ble_eq_true rfl⟩ (Nat.le_of_ble_eq_true rfl) ?_
  refine R_aastX2 0 118 rfl dX10_init_117 rfl rfl (by first | rfl | omega) (by decide) (by decide) ?_
  refine R_dup 119 rfl dX10_init_118 rfl ?_
  refine R_iconst 120 rfl dX10_init_119 ?_
  refine R_new 2 123 63 62 1812 rfl dX10_init_120 (by decide) rfl rfl (by decide) rfl rfl cl_X10_58 inst_X2 ini_X2 ⟨Nat.le_of_ble_eq_true rfl, Nat.le_of_ble_eq_true rfl⟩ ?_
  refine R_dup 124 rfl dX10_init_123 rfl ?_
  refine R_callI_v (M' := mX2_init) 127 75 2353 rfl dX10_init_124 ml_X10_60 kmX2_init im_X2_init rfl rfl (by decide) (k_X2_init62) rfl rfl ⟨Nat.le_of_ble_eq_true rfl, Nat.le_of_ble_eq_true rfl⟩ rfl rfl ⟨Nat.le_of_ble_eq_true rfl, Nat.le_of_ble_eq_true rfl⟩ (Nat.le_of_ble_eq_true rfl) ?_
  refine R_aastX2 1 128 rfl dX10_init_127 rfl rfl (by first | rfl | omega) (by decide) (by decide) ?_
  refine R_putFP 8 131 rfl dX10_init_128 rfl rfl fl_X10_61 rfl rfl ?_
  refine R_aload_n 132 rfl dX10_init_131 rfl ?_
  refine R_iconst 133 rfl dX10_init_132 ?_
  refine R_anewX7 4 136 77 76 2357 rfl dX10_init_133 cl_X10_65 rfl rfl (by decide) rfl (by decide) rfl rfl ⟨Nat.le_of_ble_eq_true rfl, Nat.le_of_ble_eq_true rfl⟩ ?_
  refine R_dup 137 rfl dX10_init_136 rfl ?_
  refine R_iconst 138 rfl dX10_init_137 ?_
  refine R_new 7 141 78 77 2360 rfl dX10_init_138 (by decide) rfl rfl (by decide) rfl rfl cl_X10_65 inst_X7 ini_X7 ⟨Nat.le_of_ble_eq_true rfl, Nat.le_of_ble_eq_true rfl⟩ ?_
  refine R_dup 142 rfl dX10_init_141 rfl ?_
  refine R_callI_v (M' := mX7_init) 145 78 2420 rfl dX10_init_142 ml_X10_67 kmX7_init im_X7_init rfl rfl (by decide) (k_X7_init77) rfl rfl ⟨Nat.le_of_ble_eq_true rfl, Nat.le_of_ble_eq_true rfl⟩ rfl rfl ⟨Nat.le_of_ble_eq_true rfl, Nat.le_of_ble_eq_true rfl⟩ (Nat.le_of_ble_eq_true rfl) ?_
  refine R_aastX7 0 146 rfl dX10_init_145 rfl rfl (by first | rfl | omega) (by decide) (by decide) ?_
  refine R_dup 147 rfl dX10_init_146 rfl ?_
  refine R_iconst 148 rfl dX10_init_147 ?_
  refine R_new 7 151 80 79 2423 rfl dX10_init_148 (by decide) rfl rfl (by decide) rfl rfl cl_X10_65 inst_X7 ini_X7 ⟨Nat.le_of_ble_eq_true rfl, Nat.le_of_ble_eq_true rfl⟩ ?_
  refine R_dup 152 rfl dX10_init_151 rfl ?_
  refine R_callI_v (M' := mX7_init) 155 80 2483 rfl dX10_init_152 ml_X10_67 kmX7_init im_X7_init rfl rfl (by decide) (k_X7_init79) rfl rfl ⟨Nat.le_of_ble_eq_true rfl, Nat.le_of_ble_eq_true rfl⟩ rfl rfl ⟨Nat.le_of_ble_eq_true rfl, Nat.le_of_ble_eq_true rfl⟩ (Nat.le_of_ble_eq_true rfl) ?_
  refine R_aastX7 1 156 rfl dX10_init_155 rfl rfl (by first | rfl | omega) (by decide) (by decide) ?_
  refine R_dup 157 rfl dX10_init_156 rfl ?_
  refine R_iconst 158 rfl dX10_init_157 ?_
  refine R_new 7 161 82 81 2486 rfl dX10_init_158 (by decide) rfl rfl (by decide) rfl rfl cl_X10_65 inst_X7 ini_X7 ⟨Nat.le_of_ble_eq_true rfl, Nat.le_of_ble_eq_true rfl⟩ ?_
  refine R_dup 162 rfl dX10_init_161 rfl ?_
  refine R_callI_v (M' := mX7_init) 165 82 2546 rfl dX10_init_162 ml_X10_67 kmX7_init im_X7_init rfl rfl (by decide) (k_X7_init81) rfl rfl ⟨Nat.le_of_ble_eq_true rfl, Nat.le_of_ble_eq_true rfl⟩ rfl rfl ⟨Nat.le_of_ble_eq_true rfl, Nat.le_of_ble_eq_true rfl⟩ (Nat.le_of_ble_eq_true rfl) ?_
  refine R_aastX7 2 166 rfl dX10_init_165 rfl rfl (by first | rfl | omega) (by decide) (by decide) ?_
  refine R_dup 167 rfl dX10_init_166 rfl ?_
  refine R_iconst 168 rfl dX10_init_167 ?_
  refine R_new 7 171 84 83 2549 rfl dX10_init_168 (by decide) rfl rfl (by decide) rfl rfl cl_X10_65 inst_X7 ini_X7 ⟨Nat.le_of_ble_eq_true rfl, Nat.le_of_ble_eq_true rfl⟩ ?_
  refine R_dup 172 rfl dX10_init_171 rfl ?_
  refine R_callI_v (M' := mX7_init) 175 84 2609 rfl dX10_init_172 ml_X10_67 kmX7_init im_X7_init rfl rfl (by decide) (k_X7_init83) rfl rfl ⟨Nat.le_of_ble_eq_true rfl, Nat.le_of_ble_eq_true rfl⟩ rfl rfl ⟨Nat.le_of_ble_eq_true rfl, Nat.le_of_ble_eq_true rfl⟩ (Nat.le_of_ble_eq_true rfl) ?_
  refine R_aastX7 3 176 rfl dX10_init_175 rfl rfl (by first | rfl | omega) (by decide) (by decide) ?_
  refine R_putFP 9 179 rfl dX10_init_176 rfl rfl fl_X10_68 rfl rfl ?_
  refine R_aload_n 180 rfl dX10_init_179 rfl ?_
  refine R_iconst 181 rfl dX10_init_180 ?_
  refine R_putI 10 184 rfl dX10_init_181 rfl rfl fl_X10_72 ?_
  refine R_aload_n 185 rfl dX10_init_184 rfl ?_
  refine R_new 8 188 86 85 2612 rfl dX10_init_185 (by decide) rfl rfl (by decide) rfl rfl cl_X10_75 inst_X8 ini_X8 ⟨Nat.le_of_ble_eq_true rfl, Nat.le_of_ble_eq_true rfl⟩ ?_
  refine R_dup 189 rfl dX10_init_188 rfl ?_
  refine R_callI_v (M' := mX8_init) 192 87 2642 rfl dX10_init_189 ml_X10_77 kmX8_init im_X8_init rfl rfl (by decide) (k_X8_init85) rfl rfl ⟨Nat.le_of_ble_eq_true rfl, Nat.le_of_ble_eq_true rfl⟩ rfl rfl ⟨Nat.le_of_ble_eq_true rfl, Nat.le_of_ble_eq_true rfl⟩ (Nat.le_of_ble_eq_true rfl) ?_
  refine R_putFP 11 195 rfl dX10_init_192 rfl rfl fl_X10_78 rfl rfl ?_
  refine R_aload_n 196 rfl dX10_init_195 rfl ?_
  refine R_new 8 199 89 88 2645 rfl dX10_init_196 (by decide) rfl rfl (by decide) rfl rfl cl_X10_75 inst_X8 ini_X8 ⟨Nat.le_of_ble_eq_true rfl, Nat.le_of_ble_eq_true rfl⟩ ?_
  refine R_dup 200 rfl dX10_init_199 rfl ?_
  refine R_callI_v (M' := mX8_init) 203 90 2675 rfl dX10_init_200 ml_X10_77 kmX8_init im_X8_init rfl rfl (by decide) (k_X8_init88) rfl rfl ⟨Nat.le_of_ble_eq_true rfl, Nat.le_of_ble_eq_true rfl⟩ rfl rfl ⟨Nat.le_of_ble_eq_true rfl, Nat.le_of_ble_eq_true rfl⟩ (Nat.le_of_ble_eq_true rfl) ?_
  refine R_putFP 12 206 rfl dX10_init_203 rfl rfl fl_X10_82 rfl rfl ?_
  refine R_aload_n 207 rfl dX10_init_206 rfl ?_
  refine R_new 6 210 92 91 2677 rfl dX10_init_207 (by decide) rfl rfl (by decide) rfl rfl cl_X10_85 inst_X6 ini_X6 ⟨Nat.le_of_ble_eq_true rfl, Nat.le_of_ble_eq_true rfl⟩ ?_
  refine R_dup 211 rfl dX10_init_210 rfl ?_
  refine R_callI_v (M' := mX6_init) 214 91 2677 rfl dX10_init_211 ml_X10_87 kmX6_init im_X6_init rfl rfl (by decide) (k_X6_init91) rfl rfl ⟨Nat.le_of_ble_eq_true rfl, Nat.le_of_ble_eq_true rfl⟩ rfl rfl ⟨Nat.le_of_ble_eq_true rfl, Nat.le_of_ble_eq_true rfl⟩ (Nat.le_of_ble_eq_true rfl) ?_
  refine R_putFP 13 217 rfl dX10_init_214 rfl rfl fl_X10_88 rfl rfl ?_
  refine R_aload_n 218 rfl dX10_init_217 rfl ?_
  refine R_bipush 220 rfl dX10_init_218 (by decide) ?_
  refine R_newaI 80 222 93 92 2757 rfl dX10_init_220 rfl rfl (by decide) rfl (by decide) rfl rfl ⟨Nat.le_of_ble_eq_true rfl, Nat.le_of_ble_eq_true rfl⟩ ?_
  refine R_putFP 14 225 rfl dX10_init_222 rfl rfl fl_X10_92 rfl rfl ?_
  refine R_aload_n 226 rfl dX10_init_225 rfl ?_
  refine R_iconst 227 rfl dX10_init_226 ?_
  refine R_bipush 229 rfl dX10_init_227 (by decide) ?_
  refine R_manew 2 100 233 96 95 2959 rfl dX10_init_229 cl_X10_96 rfl rfl rfl (by decide) (by decide) rfl (by decide) rfl rfl ⟨Nat.le_of_ble_eq_true rfl, Nat.le_of_ble_eq_true rfl⟩ ?_
  refine R_putFP 15 236 rfl dX10_init_233 rfl rfl fl_X10_98 rfl rfl ?_
  refine R_return dX10_init_236 rfl ?_
  exact QV_mk ⟨rfl, rfl, fun i => rfl, fun i => rfl, fun i => rfl, fun i => rfl⟩
end
