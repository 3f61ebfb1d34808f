theorem dX10_init_0 : decode cX10_init 0 = .ok (.aload_n 0, 1) := by decide +kernel
theorem dX10_init_1 : decode cX10_init 1 = .ok (.invokespecial 1, 3) := by decide +kernel
theorem dX10_init_4 : decode cX10_init 4 = .ok (.aload_n 0, 1) := by decide +kernel
theorem dX10_init_5 : decode cX10_init 5 = .ok (.new 7, 3) := by decide +kernel
theorem dX10_init_8 : decode cX10_init 8 = .ok (.dup, 1) := by decide +kernel
theorem dX10_init_9 : decode cX10_init 9 = .ok (.invokespecial 9, 3) := by decide +kernel
theorem dX10_init_12 : decode cX10_init 12 = .ok (.putfield 10, 3) := by decide +kernel
theorem dX10_init_15 : decode cX10_init 15 = .ok (.aload_n 0, 1) := by decide +kernel
theorem dX10_init_16 : decode cX10_init 16 = .ok (.new 16, 3) := by decide +kernel
theorem dX10_init_19 : decode cX10_init 19 = .ok (.dup, 1) := by decide +kernel
theorem dX10_init_20 : decode cX10_init 20 = .ok (.invokespecial 18, 3) := by decide +kernel
theorem dX10_init_23 : decode cX10_init 23 = .ok (.putfield 19, 3) := by decide +kernel
theorem dX10_init_26 : decode cX10_init 26 = .ok (.aload_n 0, 1) := by decide +kernel
theorem dX10_init_27 : decode cX10_init 27 = .ok (.new 23, 3) := by decide +kernel
theorem dX10_init_30 : decode cX10_init 30 = .ok (.dup, 1) := by decide +kernel
theorem dX10_init_31 : decode cX10_init 31 = .ok (.invokespecial 25, 3) := by decide +kernel
theorem dX10_init_34 : decode cX10_init 34 = .ok (.putfield 26, 3) := by decide +kernel
theorem dX10_init_37 : decode cX10_init 37 = .ok (.aload_n 0, 1) := by decide +kernel
theorem dX10_init_38 : decode cX10_init 38 = .ok (.new 23, 3) := by decide +kernel
theorem dX10_init_41 : decode cX10_init 41 = .ok (.dup, 1) := by decide +kernel
theorem dX10_init_42 : decode cX10_init 42 = .ok (.invokespecial 25, 3) := by decide +kernel
theorem dX10_init_45 : decode cX10_init 45 = .ok (.putfield 30, 3) := by decide +kernel
theorem dX10_init_48 : decode cX10_init 48 = .ok (.aload_n 0, 1) := by decide +kernel
theorem dX10_init_49 : decode cX10_init 49 = .ok (.iconst 0, 1) := by decide +kernel
theorem dX10_init_50 : decode cX10_init 50 = .ok (.putfield 33, 3) := by decide +kernel
theorem dX10_init_53 : decode cX10_init 53 = .ok (.aload_n 0, 1) := by decide +kernel
theorem dX10_init_54 : decode cX10_init 54 = .ok (.new 37, 3) := by decide +kernel
theorem dX10_init_57 : decode cX10_init 57 = .ok (.dup, 1) := by decide +kernel
theorem dX10_init_58 : decode cX10_init 58 = .ok (.invokespecial 39, 3) := by decide +kernel
theorem dX10_init_61 : decode cX10_init 61 = .ok (.putfield 40, 3) := by decide +kernel
theorem dX10_init_64 : decode cX10_init 64 = .ok (.aload_n 0, 1) := by decide +kernel
theorem dX10_init_65 : decode cX10_init 65 = .ok (.new 44, 3) := by decide +kernel
theorem dX10_init_68 : decode cX10_init 68 = .ok (.dup, 1) := by decide +kernel
theorem dX10_init_69 : decode cX10_init 69 = .ok (.invokespecial 46, 3) := by decide +kernel
theorem dX10_init_72 : decode cX10_init 72 = .ok (.putfield 47, 3) := by decide +kernel
theorem dX10_init_75 : decode cX10_init 75 = .ok (.aload_n 0, 1) := by decide +kernel
theorem dX10_init_76 : decode cX10_init 76 = .ok (.iconst 2, 1) := by decide +kernel
theorem dX10_init_77 : decode cX10_init 77 = .ok (.anewarray 51, 3) := by decide +kernel
theorem dX10_init_80 : decode cX10_init 80 = .ok (.dup, 1) := by decide +kernel
theorem dX10_init_81 : decode cX10_init 81 = .ok (.iconst 0, 1) := by decide +kernel
theorem dX10_init_82 : decode cX10_init 82 = .ok (.new 51, 3) := by decide +kernel
theorem dX10_init_85 : decode cX10_init 85 = .ok (.dup, 1) := by decide +kernel
theorem dX10_init_86 : decode cX10_init 86 = .ok (.invokespecial 53, 3) := by decide +kernel
theorem dX10_init_89 : decode cX10_init 89 = .ok (.aastore, 1) := by decide +kernel
theorem dX10_init_90 : decode cX10_init 90 = .ok (.dup, 1) := by decide +kernel
theorem dX10_init_91 : decode cX10_init 91 = .ok (.iconst 1, 1) := by decide +kernel
theorem dX10_init_92 : decode cX10_init 92 = .ok (.new 51, 3) := by decide +kernel
theorem dX10_init_95 : decode cX10_init 95 = .ok (.dup, 1) := by decide +kernel
theorem dX10_init_96 : decode cX10_init 96 = .ok (.invokespecial 53, 3) := by decide +kernel
theorem dX10_init_99 : decode cX10_init 99 = .ok (.aastore, 1) := by decide +kernel
theorem dX10_init_100 : decode cX10_init 100 = .ok (.putfield 54, 3) := by decide +kernel
theorem dX10_init_103 : decode cX10_init 103 = .ok (.aload_n 0, 1) := by decide +kernel
theorem dX10_init_104 : decode cX10_init 104 = .ok (.iconst 2, 1) := by decide +kernel
theorem dX10_init_105 : decode cX10_init 105 = .ok (.anewarray 58, 3) := by decide +kernel
theorem dX10_init_108 : decode cX10_init 108 = .ok (.dup, 1) := by decide +kernel
theorem dX10_init_109 : decode cX10_init 109 = .ok (.iconst 0, 1) := by decide +kernel
theorem dX10_init_110 : decode cX10_init 110 = .ok (.new 58, 3) := by decide +kernel
theorem dX10_init_113 : decode cX10_init 113 = .ok (.dup, 1) := by decide +kernel
theorem dX10_init_114 : decode cX10_init 114 = .ok (.invokespecial 60, 3) := by decide +kernel
theorem dX10_init_117 : decode cX10_init 117 = .ok (.aastore, 1) := by decide +kernel
theorem dX10_init_118 : decode cX10_init 118 = .ok (.dup, 1) := by decide +kernel
theorem dX10_init_119 : decode cX10_init 119 = .ok (.iconst 1, 1) := by decide +kernel
theorem dX10_init_120 : decode cX10_init 120 = .ok (.new 58, 3) := by decide +kernel
theorem dX10_init_123 : decode cX10_init 123 = .ok (.dup, 1) := by decide +kernel
theorem dX10_init_124 : decode cX10_init 124 = .ok (.invokespecial 60, 3) := by decide +kernel
theorem dX10_init_127 : decode cX10_init 127 = .ok (.aastore, 1) := by decide +kernel
theorem dX10_init_128 : decode cX10_init 128 = .ok (.putfield 61, 3) := by decide +kernel
theorem dX10_init_131 : decode cX10_init 131 = .ok (.aload_n 0, 1) := by decide +kernel
theorem dX10_init_132 : decode cX10_init 132 = .ok (.iconst 4, 1) := by decide +kernel
theorem dX10_init_133 : decode cX10_init 133 = .ok (.anewarray 65, 3) := by decide +kernel
theorem dX10_init_136 : decode cX10_init 136 = .ok (.dup, 1) := by decide +kernel
theorem dX10_init_137 : decode cX10_init 137 = .ok (.iconst 0, 1) := by decide +kernel
theorem dX10_init_138 : decode cX10_init 138 = .ok (.new 65, 3) := by decide +kernel
theorem dX10_init_141 : decode cX10_init 141 = .ok (.dup, 1) := by decide +kernel
theorem dX10_init_142 : decode cX10_init 142 = .ok (.invokespecial 67, 3) := by decide +kernel
theorem dX10_init_145 : decode cX10_init 145 = .ok (.aastore, 1) := by decide +kernel
theorem dX10_init_146 : decode cX10_init 146 = .ok (.dup, 1) := by decide +kernel
theorem dX10_init_147 : decode cX10_init 147 = .ok (.iconst 1, 1) := by decide +kernel
theorem dX10_init_148 : decode cX10_init 148 = .ok (.new 65, 3) := by decide +kernel
theorem dX10_init_151 : decode cX10_init 151 = .ok (.dup, 1) := by decide +kernel
theorem dX10_init_152 : decode cX10_init 152 = .ok (.invokespecial 67, 3) := by decide +kernel
theorem dX10_init_155 : decode cX10_init 155 = .ok (.aastore, 1) := by decide +kernel
theorem dX10_init_156 : decode cX10_init 156 = .ok (.dup, 1) := by decide +kernel
theorem dX10_init_157 : decode cX10_init 157 = .ok (.iconst 2, 1) := by decide +kernel
theorem dX10_init_158 : decode cX10_init 158 = .ok (.new 65, 3) := by decide +kernel
theorem dX10_init_161 : decode cX10_init 161 = .ok (.dup, 1) := by decide +kernel
theorem dX10_init_162 : decode cX10_init 162 = .ok (.invokespecial 67, 3) := by decide +kernel
theorem dX10_init_165 : decode cX10_init 165 = .ok (.aastore, 1) := by decide +kernel
theorem dX10_init_166 : decode cX10_init 166 = .ok (.dup, 1) := by decide +kernel
theorem dX10_init_167 : decode cX10_init 167 = .ok (.iconst 3, 1) := by decide +kernel
theorem dX10_init_168 : decode cX10_init 168 = .ok (.new 65, 3) := by decide +kernel
theorem dX10_init_171 : decode cX10_init 171 = .ok (.dup, 1) := by decide +kernel
theorem dX10_init_172 : decode cX10_init 172 = .ok (.invokespecial 67, 3) := by decide +kernel
theorem dX10_init_175 : decode cX10_init 175 = .ok (.aastore, 1) := by decide +kernel
theorem dX10_init_176 : decode cX10_init 176 = .ok (.putfield 68, 3) := by decide +kernel
theorem dX10_init_179 : decode cX10_init 179 = .ok (.aload_n 0, 1) := by decide +kernel
theorem dX10_init_180 : decode cX10_init 180 = .ok (.iconst 0, 1) := by decide +kernel
theorem dX10_init_181 : decode cX10_init 181 = .ok (.putfield 72, 3) := by decide +kernel
theorem dX10_init_184 : decode cX10_init 184 = .ok (.aload_n 0, 1) := by decide +kernel
theorem dX10_init_185 : decode cX10_init 185 = .ok (.new 75, 3) := by decide +kernel
theorem dX10_init_188 : decode cX10_init 188 = .ok (.dup, 1) := by decide +kernel
theorem dX10_init_189 : decode cX10_init 189 = .ok (.invokespecial 77, 3) := by decide +kernel
theorem dX10_init_192 : decode cX10_init 192 = .ok (.putfield 78, 3) := by decide +kernel
theorem dX10_init_195 : decode cX10_init 195 = .ok (.aload_n 0, 1) := by decide +kernel
theorem dX10_init_196 : decode cX10_init 196 = .ok (.new 75, 3) := by decide +kernel
theorem dX10_init_199 : decode cX10_init 199 = .ok (.dup, 1) := by decide +kernel
theorem dX10_init_200 : decode cX10_init 200 = .ok (.invokespecial 77, 3) := by decide +kernel
theorem dX10_init_203 : decode cX10_init 203 = .ok (.putfield 82, 3) := by decide +kernel
theorem dX10_init_206 : decode cX10_init 206 = .ok (.aload_n 0, 1) := by decide +kernel
theorem dX10_init_207 : decode cX10_init 207 = .ok (.new 85, 3) := by decide +kernel
theorem dX10_init_210 : decode cX10_init 210 = .ok (.dup, 1) := by decide +kernel
theorem dX10_init_211 : decode cX10_init 211 = .ok (.invokespecial 87, 3) := by decide +kernel
theorem dX10_init_214 : decode cX10_init 214 = .ok (.putfield 88, 3) := by decide +kernel
theorem dX10_init_217 : decode cX10_init 217 = .ok (.aload_n 0, 1) := by decide +kernel
theorem dX10_init_218 : decode cX10_init 218 = .ok (.bipush 80, 2) := by decide +kernel
theorem dX10_init_220 : decode cX10_init 220 = .ok (.newarray .int, 2) := by decide +kernel
theorem dX10_init_222 : decode cX10_init 222 = .ok (.putfield 92, 3) := by decide +kernel
theorem dX10_init_225 : decode cX10_init 225 = .ok (.aload_n 0, 1) := by decide +kernel
theorem dX10_init_226 : decode cX10_init 226 = .ok (.iconst 2, 1) := by decide +kernel
theorem dX10_init_227 : decode cX10_init 227 = .ok (.bipush 100, 2) := by decide +kernel
theorem dX10_init_229 : decode cX10_init 229 = .ok (.multianewarray 96 2, 4) := by decide +kernel
theorem dX10_init_233 : decode cX10_init 233 = .ok (.putfield 98, 3) := by decide +kernel
theorem dX10_init_236 : decode cX10_init 236 = .ok (.return_, 1) := by decide +kernel
theorem dX10_feed_0 : decode cX10_feed 0 = .ok (.aload_n 0, 1) := by decide +kernel
theorem dX10_feed_1 : decode cX10_feed 1 = .ok (.getfield 10, 3) := by decide +kernel
theorem dX10_feed_4 : decode cX10_feed 4 = .ok (.lload_n 1, 1) := by decide +kernel
theorem dX10_feed_5 : decode cX10_feed 5 = .ok (.invokevirtual 101, 3) := by decide +kernel
theorem dX10_feed_8 : decode cX10_feed 8 = .ok (.ifCond .eq 13, 3) := by decide +kernel
theorem dX10_feed_11 : decode cX10_feed 11 = .ok (.aload_n 0, 1) := by decide +kernel
theorem dX10_feed_12 : decode cX10_feed 12 = .ok (.getfield 10, 3) := by decide +kernel
theorem dX10_feed_15 : decode cX10_feed 15 = .ok (.getfield 105, 3) := by decide +kernel
theorem dX10_feed_18 : decode cX10_feed 18 = .ok (.goto 5, 3) := by decide +kernel
theorem dX10_feed_21 : decode cX10_feed 21 = .ok (.bipush (-3), 2) := by decide +kernel
theorem dX10_feed_23 : decode cX10_feed 23 = .ok (.ireturn, 1) := by decide +kernel
theorem dX10_end_0 : decode cX10_end 0 = .ok (.iload_n 1, 1) := by decide +kernel
theorem dX10_end_1 : decode cX10_end 1 = .ok (.iconst 0, 1) := by decide +kernel
theorem dX10_end_2 : decode cX10_end 2 = .ok (.aload_n 0, 1) := by decide +kernel
theorem dX10_end_3 : decode cX10_end 3 = .ok (.getfield 10, 3) := by decide +kernel
theorem dX10_end_6 : decode cX10_end 6 = .ok (.getfield 105, 3) := by decide +kernel
theorem dX10_end_9 : decode cX10_end 9 = .ok (.invokestatic 108, 3) := by decide +kernel
theorem dX10_end_12 : decode cX10_end 12 = .ok (.ifCond .ne 5, 3) := by decide +kernel
theorem dX10_end_15 : decode cX10_end 15 = .ok (.iconst (-1), 1) := by decide +kernel
theorem dX10_end_16 : decode cX10_end 16 = .ok (.ireturn, 1) := by decide +kernel
theorem dX10_end_17 : decode cX10_end 17 = .ok (.aload_n 0, 1) := by decide +kernel
theorem dX10_end_18 : decode cX10_end 18 = .ok (.getfield 10, 3) := by decide +kernel
theorem dX10_end_21 : decode cX10_end 21 = .ok (.getfield 105, 3) := by decide +kernel
theorem dX10_end_24 : decode cX10_end 24 = .ok (.istore_n 2, 1) := by decide +kernel
theorem dX10_end_25 : decode cX10_end 25 = .ok (.aload_n 0, 1) := by decide +kernel
theorem dX10_end_26 : decode cX10_end 26 = .ok (.getfield 10, 3) := by decide +kernel
theorem dX10_end_29 : decode cX10_end 29 = .ok (.iload_n 1, 1) := by decide +kernel
theorem dX10_end_30 : decode cX10_end 30 = .ok (.putfield 105, 3) := by decide +kernel
theorem dX10_end_33 : decode cX10_end 33 = .ok (.iload_n 2, 1) := by decide +kernel
theorem dX10_end_34 : decode cX10_end 34 = .ok (.ireturn, 1) := by decide +kernel
theorem dX10_land_0 : decode cX10_land 0 = .ok (.aload_n 0, 1) := by decide +kernel
theorem dX10_land_1 : decode cX10_land 1 = .ok (.getfield 19, 3) := by decide +kernel
theorem dX10_land_4 : decode cX10_land 4 = .ok (.aload_n 0, 1) := by decide +kernel
theorem dX10_land_5 : decode cX10_land 5 = .ok (.getfield 10, 3) := by decide +kernel
theorem dX10_land_8 : decode cX10_land 8 = .ok (.aload_n 0, 1) := by decide +kernel
theorem dX10_land_9 : decode cX10_land 9 = .ok (.getfield 30, 3) := by decide +kernel
theorem dX10_land_12 : decode cX10_land 12 = .ok (.invokevirtual 112, 3) := by decide +kernel
theorem dX10_land_15 : decode cX10_land 15 = .ok (.istore_n 1, 1) := by decide +kernel
theorem dX10_land_16 : decode cX10_land 16 = .ok (.aload_n 0, 1) := by decide +kernel
theorem dX10_land_17 : decode cX10_land 17 = .ok (.getfield 10, 3) := by decide +kernel
theorem dX10_land_20 : decode cX10_land 20 = .ok (.iconst 0, 1) := by decide +kernel
theorem dX10_land_21 : decode cX10_land 21 = .ok (.putfield 105, 3) := by decide +kernel
theorem dX10_land_24 : decode cX10_land 24 = .ok (.aload_n 0, 1) := by decide +kernel
theorem dX10_land_25 : decode cX10_land 25 = .ok (.aload_n 0, 1) := by decide +kernel
theorem dX10_land_26 : decode cX10_land 26 = .ok (.getfield 19, 3) := by decide +kernel
theorem dX10_land_29 : decode cX10_land 29 = .ok (.getfield 116, 3) := by decide +kernel
theorem dX10_land_32 : decode cX10_land 32 = .ok (.putfield 33, 3) := by decide +kernel
theorem dX10_land_35 : decode cX10_land 35 = .ok (.aload_n 0, 1) := by decide +kernel
theorem dX10_land_36 : decode cX10_land 36 = .ok (.getfield 33, 3) := by decide +kernel
theorem dX10_land_39 : decode cX10_land 39 = .ok (.ifCond .eq 14, 3) := by decide +kernel
theorem dX10_land_42 : decode cX10_land 42 = .ok (.bipush (-10), 2) := by decide +kernel
theorem dX10_land_44 : decode cX10_land 44 = .ok (.aload_n 0, 1) := by decide +kernel
theorem dX10_land_45 : decode cX10_land 45 = .ok (.getfield 19, 3) := by decide +kernel
theorem dX10_land_48 : decode cX10_land 48 = .ok (.getfield 119, 3) := by decide +kernel
theorem dX10_land_51 : decode cX10_land 51 = .ok (.isub, 1) := by decide +kernel
theorem dX10_land_52 : decode cX10_land 52 = .ok (.ireturn, 1) := by decide +kernel
theorem dX10_land_53 : decode cX10_land 53 = .ok (.aload_n 0, 1) := by decide +kernel
theorem dX10_land_54 : decode cX10_land 54 = .ok (.invokevirtual 122, 3) := by decide +kernel
theorem dX10_land_57 : decode cX10_land 57 = .ok (.iload_n 1, 1) := by decide +kernel
theorem dX10_land_58 : decode cX10_land 58 = .ok (.ireturn, 1) := by decide +kernel
theorem dX10_fault_0 : decode cX10_fault 0 = .ok (.aload_n 0, 1) := by decide +kernel
theorem dX10_fault_1 : decode cX10_fault 1 = .ok (.getfield 33, 3) := by decide +kernel
theorem dX10_fault_4 : decode cX10_fault 4 = .ok (.ireturn, 1) := by decide +kernel
theorem dX10_told_0 : decode cX10_told 0 = .ok (.iload_n 1, 1) := by decide +kernel
theorem dX10_told_1 : decode cX10_told 1 = .ok (.tableswitch 128 0 10 #[59, 67, 75, 83, 91, 99, 107, 115, 115, 115, 115], 59) := by decide +kernel
theorem dX10_told_60 : decode cX10_told 60 = .ok (.aload_n 0, 1) := by decide +kernel
theorem dX10_told_61 : decode cX10_told 61 = .ok (.getfield 26, 3) := by decide +kernel
theorem dX10_told_64 : decode cX10_told 64 = .ok (.getfield 125, 3) := by decide +kernel
theorem dX10_told_67 : decode cX10_told 67 = .ok (.ireturn, 1) := by decide +kernel
theorem dX10_told_68 : decode cX10_told 68 = .ok (.aload_n 0, 1) := by decide +kernel
theorem dX10_told_69 : decode cX10_told 69 = .ok (.getfield 26, 3) := by decide +kernel
theorem dX10_told_72 : decode cX10_told 72 = .ok (.getfield 128, 3) := by decide +kernel
theorem dX10_told_75 : decode cX10_told 75 = .ok (.ireturn, 1) := by decide +kernel
theorem dX10_told_76 : decode cX10_told 76 = .ok (.aload_n 0, 1) := by decide +kernel
theorem dX10_told_77 : decode cX10_told 77 = .ok (.getfield 26, 3) := by decide +kernel
theorem dX10_told_80 : decode cX10_told 80 = .ok (.getfield 131, 3) := by decide +kernel
theorem dX10_told_83 : decode cX10_told 83 = .ok (.ireturn, 1) := by decide +kernel
theorem dX10_told_84 : decode cX10_told 84 = .ok (.aload_n 0, 1) := by decide +kernel
theorem dX10_told_85 : decode cX10_told 85 = .ok (.getfield 26, 3) := by decide +kernel
theorem dX10_told_88 : decode cX10_told 88 = .ok (.getfield 134, 3) := by decide +kernel
theorem dX10_told_91 : decode cX10_told 91 = .ok (.ireturn, 1) := by decide +kernel
theorem dX10_told_92 : decode cX10_told 92 = .ok (.aload_n 0, 1) := by decide +kernel
theorem dX10_told_93 : decode cX10_told 93 = .ok (.getfield 26, 3) := by decide +kernel
theorem dX10_told_96 : decode cX10_told 96 = .ok (.getfield 137, 3) := by decide +kernel
theorem dX10_told_99 : decode cX10_told 99 = .ok (.ireturn, 1) := by decide +kernel
theorem dX10_told_100 : decode cX10_told 100 = .ok (.aload_n 0, 1) := by decide +kernel
theorem dX10_told_101 : decode cX10_told 101 = .ok (.getfield 26, 3) := by decide +kernel
theorem dX10_told_104 : decode cX10_told 104 = .ok (.getfield 140, 3) := by decide +kernel
theorem dX10_told_107 : decode cX10_told 107 = .ok (.ireturn, 1) := by decide +kernel
theorem dX10_told_108 : decode cX10_told 108 = .ok (.aload_n 0, 1) := by decide +kernel
theorem dX10_told_109 : decode cX10_told 109 = .ok (.getfield 26, 3) := by decide +kernel
theorem dX10_told_112 : decode cX10_told 112 = .ok (.getfield 143, 3) := by decide +kernel
theorem dX10_told_115 : decode cX10_told 115 = .ok (.ireturn, 1) := by decide +kernel
theorem dX10_told_116 : decode cX10_told 116 = .ok (.aload_n 0, 1) := by decide +kernel
theorem dX10_told_117 : decode cX10_told 117 = .ok (.getfield 26, 3) := by decide +kernel
theorem dX10_told_120 : decode cX10_told 120 = .ok (.getfield 146, 3) := by decide +kernel
theorem dX10_told_123 : decode cX10_told 123 = .ok (.iload_n 1, 1) := by decide +kernel
theorem dX10_told_124 : decode cX10_told 124 = .ok (.bipush 7, 2) := by decide +kernel
theorem dX10_told_126 : decode cX10_told 126 = .ok (.isub, 1) := by decide +kernel
theorem dX10_told_127 : decode cX10_told 127 = .ok (.iaload, 1) := by decide +kernel
theorem dX10_told_128 : decode cX10_told 128 = .ok (.ireturn, 1) := by decide +kernel
theorem dX10_told_129 : decode cX10_told 129 = .ok (.iconst (-1), 1) := by decide +kernel
theorem dX10_told_130 : decode cX10_told 130 = .ok (.ireturn, 1) := by decide +kernel
theorem dX10_parish_0 : decode cX10_parish 0 = .ok (.aload_n 0, 1) := by decide +kernel
theorem dX10_parish_1 : decode cX10_parish 1 = .ok (.iload_n 1, 1) := by decide +kernel
theorem dX10_parish_2 : decode cX10_parish 2 = .ok (.invokevirtual 149, 3) := by decide +kernel
theorem dX10_parish_5 : decode cX10_parish 5 = .ok (.ifCond .eq 12, 3) := by decide +kernel
theorem dX10_parish_8 : decode cX10_parish 8 = .ok (.iload_n 2, 1) := by decide +kernel
theorem dX10_parish_9 : decode cX10_parish 9 = .ok (.iconst 0, 1) := by decide +kernel
theorem dX10_parish_10 : decode cX10_parish 10 = .ok (.iconst 4, 1) := by decide +kernel
theorem dX10_parish_11 : decode cX10_parish 11 = .ok (.invokestatic 108, 3) := by decide +kernel
theorem dX10_parish_14 : decode cX10_parish 14 = .ok (.ifCond .ne 5, 3) := by decide +kernel
theorem dX10_parish_17 : decode cX10_parish 17 = .ok (.iconst (-1), 1) := by decide +kernel
theorem dX10_parish_18 : decode cX10_parish 18 = .ok (.ireturn, 1) := by decide +kernel
theorem dX10_parish_19 : decode cX10_parish 19 = .ok (.iload_n 2, 1) := by decide +kernel
theorem dX10_parish_20 : decode cX10_parish 20 = .ok (.iconst 4, 1) := by decide +kernel
theorem dX10_parish_21 : decode cX10_parish 21 = .ok (.if_icmp .ne 14, 3) := by decide +kernel
theorem dX10_parish_24 : decode cX10_parish 24 = .ok (.aload_n 0, 1) := by decide +kernel
theorem dX10_parish_25 : decode cX10_parish 25 = .ok (.getfield 40, 3) := by decide +kernel
theorem dX10_parish_28 : decode cX10_parish 28 = .ok (.iload_n 1, 1) := by decide +kernel
theorem dX10_parish_29 : decode cX10_parish 29 = .ok (.invokevirtual 153, 3) := by decide +kernel
theorem dX10_parish_32 : decode cX10_parish 32 = .ok (.goto 14, 3) := by decide +kernel
theorem dX10_parish_35 : decode cX10_parish 35 = .ok (.aload_n 0, 1) := by decide +kernel
theorem dX10_parish_36 : decode cX10_parish 36 = .ok (.getfield 26, 3) := by decide +kernel
theorem dX10_parish_39 : decode cX10_parish 39 = .ok (.getfield 157, 3) := by decide +kernel
theorem dX10_parish_42 : decode cX10_parish 42 = .ok (.iload_n 2, 1) := by decide +kernel
theorem dX10_parish_43 : decode cX10_parish 43 = .ok (.aaload, 1) := by decide +kernel
theorem dX10_parish_44 : decode cX10_parish 44 = .ok (.iload_n 1, 1) := by decide +kernel
theorem dX10_parish_45 : decode cX10_parish 45 = .ok (.iaload, 1) := by decide +kernel
theorem dX10_parish_46 : decode cX10_parish 46 = .ok (.ireturn, 1) := by decide +kernel
theorem dX10_clerk_0 : decode cX10_clerk 0 = .ok (.iload_n 1, 1) := by decide +kernel
theorem dX10_clerk_1 : decode cX10_clerk 1 = .ok (.iconst 0, 1) := by decide +kernel
theorem dX10_clerk_2 : decode cX10_clerk 2 = .ok (.aload_n 0, 1) := by decide +kernel
theorem dX10_clerk_3 : decode cX10_clerk 3 = .ok (.getfield 26, 3) := by decide +kernel
theorem dX10_clerk_6 : decode cX10_clerk 6 = .ok (.getfield 128, 3) := by decide +kernel
theorem dX10_clerk_9 : decode cX10_clerk 9 = .ok (.iconst 1, 1) := by decide +kernel
theorem dX10_clerk_10 : decode cX10_clerk 10 = .ok (.isub, 1) := by decide +kernel
theorem dX10_clerk_11 : decode cX10_clerk 11 = .ok (.invokestatic 108, 3) := by decide +kernel
theorem dX10_clerk_14 : decode cX10_clerk 14 = .ok (.ifCond .eq 12, 3) := by decide +kernel
theorem dX10_clerk_17 : decode cX10_clerk 17 = .ok (.iload_n 2, 1) := by decide +kernel
theorem dX10_clerk_18 : decode cX10_clerk 18 = .ok (.iconst 0, 1) := by decide +kernel
theorem dX10_clerk_19 : decode cX10_clerk 19 = .ok (.iconst 5, 1) := by decide +kernel
theorem dX10_clerk_20 : decode cX10_clerk 20 = .ok (.invokestatic 108, 3) := by decide +kernel
theorem dX10_clerk_23 : decode cX10_clerk 23 = .ok (.ifCond .ne 5, 3) := by decide +kernel
theorem dX10_clerk_26 : decode cX10_clerk 26 = .ok (.iconst (-1), 1) := by decide +kernel
theorem dX10_clerk_27 : decode cX10_clerk 27 = .ok (.ireturn, 1) := by decide +kernel
theorem dX10_clerk_28 : decode cX10_clerk 28 = .ok (.iload_n 2, 1) := by decide +kernel
theorem dX10_clerk_29 : decode cX10_clerk 29 = .ok (.iconst 5, 1) := by decide +kernel
theorem dX10_clerk_30 : decode cX10_clerk 30 = .ok (.if_icmp .ge 15, 3) := by decide +kernel
theorem dX10_clerk_33 : decode cX10_clerk 33 = .ok (.aload_n 0, 1) := by decide +kernel
theorem dX10_clerk_34 : decode cX10_clerk 34 = .ok (.getfield 26, 3) := by decide +kernel
theorem dX10_clerk_37 : decode cX10_clerk 37 = .ok (.getfield 160, 3) := by decide +kernel
theorem dX10_clerk_40 : decode cX10_clerk 40 = .ok (.iload_n 2, 1) := by decide +kernel
theorem dX10_clerk_41 : decode cX10_clerk 41 = .ok (.aaload, 1) := by decide +kernel
theorem dX10_clerk_42 : decode cX10_clerk 42 = .ok (.iload_n 1, 1) := by decide +kernel
theorem dX10_clerk_43 : decode cX10_clerk 43 = .ok (.iaload, 1) := by decide +kernel
theorem dX10_clerk_44 : decode cX10_clerk 44 = .ok (.ireturn, 1) := by decide +kernel
theorem dX10_clerk_45 : decode cX10_clerk 45 = .ok (.aload_n 0, 1) := by decide +kernel
theorem dX10_clerk_46 : decode cX10_clerk 46 = .ok (.getfield 47, 3) := by decide +kernel
theorem dX10_clerk_49 : decode cX10_clerk 49 = .ok (.aload_n 0, 1) := by decide +kernel
theorem dX10_clerk_50 : decode cX10_clerk 50 = .ok (.getfield 40, 3) := by decide +kernel
theorem dX10_clerk_53 : decode cX10_clerk 53 = .ok (.aload_n 0, 1) := by decide +kernel
theorem dX10_clerk_54 : decode cX10_clerk 54 = .ok (.getfield 26, 3) := by decide +kernel
theorem dX10_clerk_57 : decode cX10_clerk 57 = .ok (.invokevirtual 163, 3) := by decide +kernel
theorem dX10_clerk_60 : decode cX10_clerk 60 = .ok (.aload_n 0, 1) := by decide +kernel
theorem dX10_clerk_61 : decode cX10_clerk 61 = .ok (.getfield 47, 3) := by decide +kernel
theorem dX10_clerk_64 : decode cX10_clerk 64 = .ok (.iload_n 1, 1) := by decide +kernel
theorem dX10_clerk_65 : decode cX10_clerk 65 = .ok (.aload_n 0, 1) := by decide +kernel
theorem dX10_clerk_66 : decode cX10_clerk 66 = .ok (.getfield 40, 3) := by decide +kernel
theorem dX10_clerk_69 : decode cX10_clerk 69 = .ok (.invokevirtual 167, 3) := by decide +kernel
theorem dX10_clerk_72 : decode cX10_clerk 72 = .ok (.invokevirtual 171, 3) := by decide +kernel
theorem dX10_clerk_75 : decode cX10_clerk 75 = .ok (.ireturn, 1) := by decide +kernel
theorem dX10_marry_0 : decode cX10_marry 0 = .ok (.aload_n 0, 1) := by decide +kernel
theorem dX10_marry_1 : decode cX10_marry 1 = .ok (.iload_n 1, 1) := by decide +kernel
theorem dX10_marry_2 : decode cX10_marry 2 = .ok (.iload_n 2, 1) := by decide +kernel
theorem dX10_marry_3 : decode cX10_marry 3 = .ok (.iload_n 3, 1) := by decide +kernel
theorem dX10_marry_4 : decode cX10_marry 4 = .ok (.iload 4, 2) := by decide +kernel
theorem dX10_marry_6 : decode cX10_marry 6 = .ok (.iload 5, 2) := by decide +kernel
theorem dX10_marry_8 : decode cX10_marry 8 = .ok (.invokevirtual 175, 3) := by decide +kernel
theorem dX10_marry_11 : decode cX10_marry 11 = .ok (.ifCond .ne 5, 3) := by decide +kernel
theorem dX10_marry_14 : decode cX10_marry 14 = .ok (.iconst (-1), 1) := by decide +kernel
theorem dX10_marry_15 : decode cX10_marry 15 = .ok (.ireturn, 1) := by decide +kernel
theorem dX10_marry_16 : decode cX10_marry 16 = .ok (.aload_n 0, 1) := by decide +kernel
theorem dX10_marry_17 : decode cX10_marry 17 = .ok (.getfield 40, 3) := by decide +kernel
theorem dX10_marry_20 : decode cX10_marry 20 = .ok (.getfield 179, 3) := by decide +kernel
theorem dX10_marry_23 : decode cX10_marry 23 = .ok (.bipush 40, 2) := by decide +kernel
theorem dX10_marry_25 : decode cX10_marry 25 = .ok (.if_icmp .lt 6, 3) := by decide +kernel
theorem dX10_marry_28 : decode cX10_marry 28 = .ok (.bipush (-3), 2) := by decide +kernel
theorem dX10_marry_30 : decode cX10_marry 30 = .ok (.ireturn, 1) := by decide +kernel
theorem dX10_marry_31 : decode cX10_marry 31 = .ok (.aload_n 0, 1) := by decide +kernel
theorem dX10_marry_32 : decode cX10_marry 32 = .ok (.getfield 47, 3) := by decide +kernel
theorem dX10_marry_35 : decode cX10_marry 35 = .ok (.iconst 1, 1) := by decide +kernel
theorem dX10_marry_36 : decode cX10_marry 36 = .ok (.putfield 182, 3) := by decide +kernel
theorem dX10_marry_39 : decode cX10_marry 39 = .ok (.aload_n 0, 1) := by decide +kernel
theorem dX10_marry_40 : decode cX10_marry 40 = .ok (.getfield 40, 3) := by decide +kernel
theorem dX10_marry_43 : decode cX10_marry 43 = .ok (.iload_n 1, 1) := by decide +kernel
theorem dX10_marry_44 : decode cX10_marry 44 = .ok (.iload_n 2, 1) := by decide +kernel
theorem dX10_marry_45 : decode cX10_marry 45 = .ok (.iload_n 3, 1) := by decide +kernel
theorem dX10_marry_46 : decode cX10_marry 46 = .ok (.iload 4, 2) := by decide +kernel
theorem dX10_marry_48 : decode cX10_marry 48 = .ok (.iload 5, 2) := by decide +kernel
theorem dX10_marry_50 : decode cX10_marry 50 = .ok (.invokevirtual 186, 3) := by decide +kernel
theorem dX10_marry_53 : decode cX10_marry 53 = .ok (.ireturn, 1) := by decide +kernel
theorem dX10_set_0 : decode cX10_set 0 = .ok (.aload_n 0, 1) := by decide +kernel
theorem dX10_set_1 : decode cX10_set 1 = .ok (.iload_n 1, 1) := by decide +kernel
theorem dX10_set_2 : decode cX10_set 2 = .ok (.iload_n 2, 1) := by decide +kernel
theorem dX10_set_3 : decode cX10_set 3 = .ok (.invokevirtual 189, 3) := by decide +kernel
theorem dX10_set_6 : decode cX10_set 6 = .ok (.ifCond .eq 12, 3) := by decide +kernel
theorem dX10_set_9 : decode cX10_set 9 = .ok (.iload_n 3, 1) := by decide +kernel
theorem dX10_set_10 : decode cX10_set 10 = .ok (.iload 4, 2) := by decide +kernel
theorem dX10_set_12 : decode cX10_set 12 = .ok (.invokestatic 193, 3) := by decide +kernel
theorem dX10_set_15 : decode cX10_set 15 = .ok (.ifCond .ne 5, 3) := by decide +kernel
theorem dX10_set_18 : decode cX10_set 18 = .ok (.iconst (-1), 1) := by decide +kernel
theorem dX10_set_19 : decode cX10_set 19 = .ok (.ireturn, 1) := by decide +kernel
theorem dX10_set_20 : decode cX10_set 20 = .ok (.iconst 2, 1) := by decide +kernel
theorem dX10_set_21 : decode cX10_set 21 = .ok (.iload_n 1, 1) := by decide +kernel
theorem dX10_set_22 : decode cX10_set 22 = .ok (.imul, 1) := by decide +kernel
theorem dX10_set_23 : decode cX10_set 23 = .ok (.iload_n 2, 1) := by decide +kernel
theorem dX10_set_24 : decode cX10_set 24 = .ok (.iadd, 1) := by decide +kernel
theorem dX10_set_25 : decode cX10_set 25 = .ok (.istore 5, 2) := by decide +kernel
theorem dX10_set_27 : decode cX10_set 27 = .ok (.iload_n 3, 1) := by decide +kernel
theorem dX10_set_28 : decode cX10_set 28 = .ok (.iconst 2, 1) := by decide +kernel
theorem dX10_set_29 : decode cX10_set 29 = .ok (.if_icmp .ne 21, 3) := by decide +kernel
theorem dX10_set_32 : decode cX10_set 32 = .ok (.aload_n 0, 1) := by decide +kernel
theorem dX10_set_33 : decode cX10_set 33 = .ok (.getfield 40, 3) := by decide +kernel
theorem dX10_set_36 : decode cX10_set 36 = .ok (.getfield 196, 3) := by decide +kernel
theorem dX10_set_39 : decode cX10_set 39 = .ok (.iconst 0, 1) := by decide +kernel
theorem dX10_set_40 : decode cX10_set 40 = .ok (.aaload, 1) := by decide +kernel
theorem dX10_set_41 : decode cX10_set 41 = .ok (.iload 5, 2) := by decide +kernel
theorem dX10_set_43 : decode cX10_set 43 = .ok (.iaload, 1) := by decide +kernel
theorem dX10_set_44 : decode cX10_set 44 = .ok (.ifCond .ne 6, 3) := by decide +kernel
theorem dX10_set_47 : decode cX10_set 47 = .ok (.bipush (-2), 2) := by decide +kernel
theorem dX10_set_49 : decode cX10_set 49 = .ok (.ireturn, 1) := by decide +kernel
theorem dX10_set_50 : decode cX10_set 50 = .ok (.aload_n 0, 1) := by decide +kernel
theorem dX10_set_51 : decode cX10_set 51 = .ok (.getfield 40, 3) := by decide +kernel
theorem dX10_set_54 : decode cX10_set 54 = .ok (.getfield 196, 3) := by decide +kernel
theorem dX10_set_57 : decode cX10_set 57 = .ok (.iload_n 3, 1) := by decide +kernel
theorem dX10_set_58 : decode cX10_set 58 = .ok (.aaload, 1) := by decide +kernel
theorem dX10_set_59 : decode cX10_set 59 = .ok (.iload 5, 2) := by decide +kernel
theorem dX10_set_61 : decode cX10_set 61 = .ok (.iaload, 1) := by decide +kernel
theorem dX10_set_62 : decode cX10_set 62 = .ok (.istore 6, 2) := by decide +kernel
theorem dX10_set_64 : decode cX10_set 64 = .ok (.aload_n 0, 1) := by decide +kernel
theorem dX10_set_65 : decode cX10_set 65 = .ok (.getfield 40, 3) := by decide +kernel
theorem dX10_set_68 : decode cX10_set 68 = .ok (.getfield 196, 3) := by decide +kernel
theorem dX10_set_71 : decode cX10_set 71 = .ok (.iload_n 3, 1) := by decide +kernel
theorem dX10_set_72 : decode cX10_set 72 = .ok (.aaload, 1) := by decide +kernel
theorem dX10_set_73 : decode cX10_set 73 = .ok (.iload 5, 2) := by decide +kernel
theorem dX10_set_75 : decode cX10_set 75 = .ok (.iload 4, 2) := by decide +kernel
theorem dX10_set_77 : decode cX10_set 77 = .ok (.iastore, 1) := by decide +kernel
theorem dX10_set_78 : decode cX10_set 78 = .ok (.iload_n 3, 1) := by decide +kernel
theorem dX10_set_79 : decode cX10_set 79 = .ok (.ifCond .ne 21, 3) := by decide +kernel
theorem dX10_set_82 : decode cX10_set 82 = .ok (.iload 4, 2) := by decide +kernel
theorem dX10_set_84 : decode cX10_set 84 = .ok (.ifCond .ne 16, 3) := by decide +kernel
theorem dX10_set_87 : decode cX10_set 87 = .ok (.aload_n 0, 1) := by decide +kernel
theorem dX10_set_88 : decode cX10_set 88 = .ok (.getfield 40, 3) := by decide +kernel
theorem dX10_set_91 : decode cX10_set 91 = .ok (.getfield 196, 3) := by decide +kernel
theorem dX10_set_94 : decode cX10_set 94 = .ok (.iconst 2, 1) := by decide +kernel
theorem dX10_set_95 : decode cX10_set 95 = .ok (.aaload, 1) := by decide +kernel
theorem dX10_set_96 : decode cX10_set 96 = .ok (.iload 5, 2) := by decide +kernel
theorem dX10_set_98 : decode cX10_set 98 = .ok (.iconst 0, 1) := by decide +kernel
theorem dX10_set_99 : decode cX10_set 99 = .ok (.iastore, 1) := by decide +kernel
theorem dX10_set_100 : decode cX10_set 100 = .ok (.aload_n 0, 1) := by decide +kernel
theorem dX10_set_101 : decode cX10_set 101 = .ok (.getfield 47, 3) := by decide +kernel
theorem dX10_set_104 : decode cX10_set 104 = .ok (.iconst 1, 1) := by decide +kernel
theorem dX10_set_105 : decode cX10_set 105 = .ok (.putfield 182, 3) := by decide +kernel
theorem dX10_set_108 : decode cX10_set 108 = .ok (.iload 6, 2) := by decide +kernel
theorem dX10_set_110 : decode cX10_set 110 = .ok (.ireturn, 1) := by decide +kernel
theorem dX10_of_0 : decode cX10_of 0 = .ok (.aload_n 0, 1) := by decide +kernel
theorem dX10_of_1 : decode cX10_of 1 = .ok (.iload_n 1, 1) := by decide +kernel
theorem dX10_of_2 : decode cX10_of 2 = .ok (.invokevirtual 199, 3) := by decide +kernel
theorem dX10_of_5 : decode cX10_of 5 = .ok (.ifCond .eq 12, 3) := by decide +kernel
theorem dX10_of_8 : decode cX10_of 8 = .ok (.iload_n 2, 1) := by decide +kernel
theorem dX10_of_9 : decode cX10_of 9 = .ok (.iconst 0, 1) := by decide +kernel
theorem dX10_of_10 : decode cX10_of 10 = .ok (.iconst 2, 1) := by decide +kernel
theorem dX10_of_11 : decode cX10_of 11 = .ok (.invokestatic 108, 3) := by decide +kernel
theorem dX10_of_14 : decode cX10_of 14 = .ok (.ifCond .ne 5, 3) := by decide +kernel
theorem dX10_of_17 : decode cX10_of 17 = .ok (.iconst (-1), 1) := by decide +kernel
theorem dX10_of_18 : decode cX10_of 18 = .ok (.ireturn, 1) := by decide +kernel
theorem dX10_of_19 : decode cX10_of 19 = .ok (.aload_n 0, 1) := by decide +kernel
theorem dX10_of_20 : decode cX10_of 20 = .ok (.getfield 40, 3) := by decide +kernel
theorem dX10_of_23 : decode cX10_of 23 = .ok (.getfield 202, 3) := by decide +kernel
theorem dX10_of_26 : decode cX10_of 26 = .ok (.iload_n 2, 1) := by decide +kernel
theorem dX10_of_27 : decode cX10_of 27 = .ok (.aaload, 1) := by decide +kernel
theorem dX10_of_28 : decode cX10_of 28 = .ok (.iload_n 1, 1) := by decide +kernel
theorem dX10_of_29 : decode cX10_of 29 = .ok (.iaload, 1) := by decide +kernel
theorem dX10_of_30 : decode cX10_of 30 = .ok (.ireturn, 1) := by decide +kernel
theorem dX10_has_0 : decode cX10_has 0 = .ok (.aload_n 0, 1) := by decide +kernel
theorem dX10_has_1 : decode cX10_has 1 = .ok (.iload_n 1, 1) := by decide +kernel
theorem dX10_has_2 : decode cX10_has 2 = .ok (.iload_n 2, 1) := by decide +kernel
theorem dX10_has_3 : decode cX10_has 3 = .ok (.invokevirtual 189, 3) := by decide +kernel
theorem dX10_has_6 : decode cX10_has 6 = .ok (.ifCond .eq 12, 3) := by decide +kernel
theorem dX10_has_9 : decode cX10_has 9 = .ok (.iload_n 3, 1) := by decide +kernel
theorem dX10_has_10 : decode cX10_has 10 = .ok (.iconst 0, 1) := by decide +kernel
theorem dX10_has_11 : decode cX10_has 11 = .ok (.iconst 4, 1) := by decide +kernel
theorem dX10_has_12 : decode cX10_has 12 = .ok (.invokestatic 108, 3) := by decide +kernel
theorem dX10_has_15 : decode cX10_has 15 = .ok (.ifCond .ne 5, 3) := by decide +kernel
theorem dX10_has_18 : decode cX10_has 18 = .ok (.iconst (-1), 1) := by decide +kernel
theorem dX10_has_19 : decode cX10_has 19 = .ok (.ireturn, 1) := by decide +kernel
theorem dX10_has_20 : decode cX10_has 20 = .ok (.aload_n 0, 1) := by decide +kernel
theorem dX10_has_21 : decode cX10_has 21 = .ok (.getfield 40, 3) := by decide +kernel
theorem dX10_has_24 : decode cX10_has 24 = .ok (.getfield 196, 3) := by decide +kernel
theorem dX10_has_27 : decode cX10_has 27 = .ok (.iload_n 3, 1) := by decide +kernel
theorem dX10_has_28 : decode cX10_has 28 = .ok (.aaload, 1) := by decide +kernel
theorem dX10_has_29 : decode cX10_has 29 = .ok (.iconst 2, 1) := by decide +kernel
theorem dX10_has_30 : decode cX10_has 30 = .ok (.iload_n 1, 1) := by decide +kernel
theorem dX10_has_31 : decode cX10_has 31 = .ok (.imul, 1) := by decide +kernel
theorem dX10_has_32 : decode cX10_has 32 = .ok (.iload_n 2, 1) := by decide +kernel
theorem dX10_has_33 : decode cX10_has 33 = .ok (.iadd, 1) := by decide +kernel
theorem dX10_has_34 : decode cX10_has 34 = .ok (.iaload, 1) := by decide +kernel
theorem dX10_has_35 : decode cX10_has 35 = .ok (.ireturn, 1) := by decide +kernel
theorem dX10_kind_0 : decode cX10_kind 0 = .ok (.aload_n 0, 1) := by decide +kernel
theorem dX10_kind_1 : decode cX10_kind 1 = .ok (.iload_n 1, 1) := by decide +kernel
theorem dX10_kind_2 : decode cX10_kind 2 = .ok (.iload_n 2, 1) := by decide +kernel
theorem dX10_kind_3 : decode cX10_kind 3 = .ok (.invokevirtual 189, 3) := by decide +kernel
theorem dX10_kind_6 : decode cX10_kind 6 = .ok (.ifCond .ne 5, 3) := by decide +kernel
theorem dX10_kind_9 : decode cX10_kind 9 = .ok (.iconst (-1), 1) := by decide +kernel
theorem dX10_kind_10 : decode cX10_kind 10 = .ok (.ireturn, 1) := by decide +kernel
theorem dX10_kind_11 : decode cX10_kind 11 = .ok (.aload_n 0, 1) := by decide +kernel
theorem dX10_kind_12 : decode cX10_kind 12 = .ok (.getfield 47, 3) := by decide +kernel
theorem dX10_kind_15 : decode cX10_kind 15 = .ok (.aload_n 0, 1) := by decide +kernel
theorem dX10_kind_16 : decode cX10_kind 16 = .ok (.getfield 40, 3) := by decide +kernel
theorem dX10_kind_19 : decode cX10_kind 19 = .ok (.aload_n 0, 1) := by decide +kernel
theorem dX10_kind_20 : decode cX10_kind 20 = .ok (.getfield 26, 3) := by decide +kernel
theorem dX10_kind_23 : decode cX10_kind 23 = .ok (.invokevirtual 163, 3) := by decide +kernel
theorem dX10_kind_26 : decode cX10_kind 26 = .ok (.aload_n 0, 1) := by decide +kernel
theorem dX10_kind_27 : decode cX10_kind 27 = .ok (.getfield 47, 3) := by decide +kernel
theorem dX10_kind_30 : decode cX10_kind 30 = .ok (.getfield 205, 3) := by decide +kernel
theorem dX10_kind_33 : decode cX10_kind 33 = .ok (.iconst 2, 1) := by decide +kernel
theorem dX10_kind_34 : decode cX10_kind 34 = .ok (.iload_n 1, 1) := by decide +kernel
theorem dX10_kind_35 : decode cX10_kind 35 = .ok (.imul, 1) := by decide +kernel
theorem dX10_kind_36 : decode cX10_kind 36 = .ok (.iload_n 2, 1) := by decide +kernel
theorem dX10_kind_37 : decode cX10_kind 37 = .ok (.iadd, 1) := by decide +kernel
theorem dX10_kind_38 : decode cX10_kind 38 = .ok (.iaload, 1) := by decide +kernel
theorem dX10_kind_39 : decode cX10_kind 39 = .ok (.ireturn, 1) := by decide +kernel
theorem dX10_writer_0 : decode cX10_writer 0 = .ok (.aload_n 0, 1) := by decide +kernel
theorem dX10_writer_1 : decode cX10_writer 1 = .ok (.iload_n 1, 1) := by decide +kernel
theorem dX10_writer_2 : decode cX10_writer 2 = .ok (.iload_n 2, 1) := by decide +kernel
theorem dX10_writer_3 : decode cX10_writer 3 = .ok (.invokevirtual 189, 3) := by decide +kernel
theorem dX10_writer_6 : decode cX10_writer 6 = .ok (.ifCond .ne 5, 3) := by decide +kernel
theorem dX10_writer_9 : decode cX10_writer 9 = .ok (.iconst (-1), 1) := by decide +kernel
theorem dX10_writer_10 : decode cX10_writer 10 = .ok (.ireturn, 1) := by decide +kernel
theorem dX10_writer_11 : decode cX10_writer 11 = .ok (.aload_n 0, 1) := by decide +kernel
theorem dX10_writer_12 : decode cX10_writer 12 = .ok (.getfield 47, 3) := by decide +kernel
theorem dX10_writer_15 : decode cX10_writer 15 = .ok (.aload_n 0, 1) := by decide +kernel
theorem dX10_writer_16 : decode cX10_writer 16 = .ok (.getfield 40, 3) := by decide +kernel
theorem dX10_writer_19 : decode cX10_writer 19 = .ok (.aload_n 0, 1) := by decide +kernel
theorem dX10_writer_20 : decode cX10_writer 20 = .ok (.getfield 26, 3) := by decide +kernel
theorem dX10_writer_23 : decode cX10_writer 23 = .ok (.invokevirtual 163, 3) := by decide +kernel
theorem dX10_writer_26 : decode cX10_writer 26 = .ok (.aload_n 0, 1) := by decide +kernel
theorem dX10_writer_27 : decode cX10_writer 27 = .ok (.getfield 47, 3) := by decide +kernel
theorem dX10_writer_30 : decode cX10_writer 30 = .ok (.getfield 208, 3) := by decide +kernel
theorem dX10_writer_33 : decode cX10_writer 33 = .ok (.iconst 2, 1) := by decide +kernel
theorem dX10_writer_34 : decode cX10_writer 34 = .ok (.iload_n 1, 1) := by decide +kernel
theorem dX10_writer_35 : decode cX10_writer 35 = .ok (.imul, 1) := by decide +kernel
theorem dX10_writer_36 : decode cX10_writer 36 = .ok (.iload_n 2, 1) := by decide +kernel
theorem dX10_writer_37 : decode cX10_writer 37 = .ok (.iadd, 1) := by decide +kernel
theorem dX10_writer_38 : decode cX10_writer 38 = .ok (.iaload, 1) := by decide +kernel
theorem dX10_writer_39 : decode cX10_writer 39 = .ok (.ireturn, 1) := by decide +kernel
theorem dX10_apart_0 : decode cX10_apart 0 = .ok (.iload_n 1, 1) := by decide +kernel
theorem dX10_apart_1 : decode cX10_apart 1 = .ok (.iconst 0, 1) := by decide +kernel
theorem dX10_apart_2 : decode cX10_apart 2 = .ok (.sipush 255, 3) := by decide +kernel
theorem dX10_apart_5 : decode cX10_apart 5 = .ok (.invokestatic 108, 3) := by decide +kernel
theorem dX10_apart_8 : decode cX10_apart 8 = .ok (.ifCond .eq 14, 3) := by decide +kernel
theorem dX10_apart_11 : decode cX10_apart 11 = .ok (.iload_n 2, 1) := by decide +kernel
theorem dX10_apart_12 : decode cX10_apart 12 = .ok (.iconst 0, 1) := by decide +kernel
theorem dX10_apart_13 : decode cX10_apart 13 = .ok (.sipush 255, 3) := by decide +kernel
theorem dX10_apart_16 : decode cX10_apart 16 = .ok (.invokestatic 108, 3) := by decide +kernel
theorem dX10_apart_19 : decode cX10_apart 19 = .ok (.ifCond .ne 5, 3) := by decide +kernel
theorem dX10_apart_22 : decode cX10_apart 22 = .ok (.iconst (-1), 1) := by decide +kernel
theorem dX10_apart_23 : decode cX10_apart 23 = .ok (.ireturn, 1) := by decide +kernel
theorem dX10_apart_24 : decode cX10_apart 24 = .ok (.iload_n 1, 1) := by decide +kernel
theorem dX10_apart_25 : decode cX10_apart 25 = .ok (.iload_n 2, 1) := by decide +kernel
theorem dX10_apart_26 : decode cX10_apart 26 = .ok (.invokestatic 211, 3) := by decide +kernel
theorem dX10_apart_29 : decode cX10_apart 29 = .ok (.ireturn, 1) := by decide +kernel
theorem dX10_tear_0 : decode cX10_tear 0 = .ok (.aload_n 0, 1) := by decide +kernel
theorem dX10_tear_1 : decode cX10_tear 1 = .ok (.iload_n 1, 1) := by decide +kernel
theorem dX10_tear_2 : decode cX10_tear 2 = .ok (.invokevirtual 199, 3) := by decide +kernel
theorem dX10_tear_5 : decode cX10_tear 5 = .ok (.ifCond .ne 5, 3) := by decide +kernel
theorem dX10_tear_8 : decode cX10_tear 8 = .ok (.iconst (-1), 1) := by decide +kernel
theorem dX10_tear_9 : decode cX10_tear 9 = .ok (.ireturn, 1) := by decide +kernel
theorem dX10_tear_10 : decode cX10_tear 10 = .ok (.aload_n 0, 1) := by decide +kernel
theorem dX10_tear_11 : decode cX10_tear 11 = .ok (.getfield 40, 3) := by decide +kernel
theorem dX10_tear_14 : decode cX10_tear 14 = .ok (.iload_n 1, 1) := by decide +kernel
theorem dX10_tear_15 : decode cX10_tear 15 = .ok (.invokevirtual 214, 3) := by decide +kernel
theorem dX10_tear_18 : decode cX10_tear 18 = .ok (.aload_n 0, 1) := by decide +kernel
theorem dX10_tear_19 : decode cX10_tear 19 = .ok (.getfield 47, 3) := by decide +kernel
theorem dX10_tear_22 : decode cX10_tear 22 = .ok (.iconst 1, 1) := by decide +kernel
theorem dX10_tear_23 : decode cX10_tear 23 = .ok (.putfield 182, 3) := by decide +kernel
theorem dX10_tear_26 : decode cX10_tear 26 = .ok (.aload_n 0, 1) := by decide +kernel
theorem dX10_tear_27 : decode cX10_tear 27 = .ok (.getfield 40, 3) := by decide +kernel
theorem dX10_tear_30 : decode cX10_tear 30 = .ok (.getfield 179, 3) := by decide +kernel
theorem dX10_tear_33 : decode cX10_tear 33 = .ok (.ireturn, 1) := by decide +kernel
theorem dX10_choose_0 : decode cX10_choose 0 = .ok (.iload_n 1, 1) := by decide +kernel
theorem dX10_choose_1 : decode cX10_choose 1 = .ok (.invokestatic 218, 3) := by decide +kernel
theorem dX10_choose_4 : decode cX10_choose 4 = .ok (.ifCond .eq 54, 3) := by decide +kernel
theorem dX10_choose_7 : decode cX10_choose 7 = .ok (.aload_n 0, 1) := by decide +kernel
theorem dX10_choose_8 : decode cX10_choose 8 = .ok (.iload_n 2, 1) := by decide +kernel
theorem dX10_choose_9 : decode cX10_choose 9 = .ok (.invokevirtual 221, 3) := by decide +kernel
theorem dX10_choose_12 : decode cX10_choose 12 = .ok (.ifCond .eq 46, 3) := by decide +kernel
theorem dX10_choose_15 : decode cX10_choose 15 = .ok (.iload_n 3, 1) := by decide +kernel
theorem dX10_choose_16 : decode cX10_choose 16 = .ok (.iconst 0, 1) := by decide +kernel
theorem dX10_choose_17 : decode cX10_choose 17 = .ok (.bipush 89, 2) := by decide +kernel
theorem dX10_choose_19 : decode cX10_choose 19 = .ok (.invokestatic 108, 3) := by decide +kernel
theorem dX10_choose_22 : decode cX10_choose 22 = .ok (.ifCond .eq 36, 3) := by decide +kernel
theorem dX10_choose_25 : decode cX10_choose 25 = .ok (.iload 4, 2) := by decide +kernel
theorem dX10_choose_27 : decode cX10_choose 27 = .ok (.iload_n 3, 1) := by decide +kernel
theorem dX10_choose_28 : decode cX10_choose 28 = .ok (.bipush 89, 2) := by decide +kernel
theorem dX10_choose_30 : decode cX10_choose 30 = .ok (.invokestatic 108, 3) := by decide +kernel
theorem dX10_choose_33 : decode cX10_choose 33 = .ok (.ifCond .eq 25, 3) := by decide +kernel
theorem dX10_choose_36 : decode cX10_choose 36 = .ok (.iload 5, 2) := by decide +kernel
theorem dX10_choose_38 : decode cX10_choose 38 = .ok (.iconst 0, 1) := by decide +kernel
theorem dX10_choose_39 : decode cX10_choose 39 = .ok (.iconst 3, 1) := by decide +kernel
theorem dX10_choose_40 : decode cX10_choose 40 = .ok (.invokestatic 108, 3) := by decide +kernel
theorem dX10_choose_43 : decode cX10_choose 43 = .ok (.ifCond .eq 15, 3) := by decide +kernel
theorem dX10_choose_46 : decode cX10_choose 46 = .ok (.iload 6, 2) := by decide +kernel
theorem dX10_choose_48 : decode cX10_choose 48 = .ok (.iconst 0, 1) := by decide +kernel
theorem dX10_choose_49 : decode cX10_choose 49 = .ok (.sipush 255, 3) := by decide +kernel
theorem dX10_choose_52 : decode cX10_choose 52 = .ok (.invokestatic 108, 3) := by decide +kernel
theorem dX10_choose_55 : decode cX10_choose 55 = .ok (.ifCond .ne 5, 3) := by decide +kernel
theorem dX10_choose_58 : decode cX10_choose 58 = .ok (.iconst (-1), 1) := by decide +kernel
theorem dX10_choose_59 : decode cX10_choose 59 = .ok (.ireturn, 1) := by decide +kernel
theorem dX10_choose_60 : decode cX10_choose 60 = .ok (.aload_n 0, 1) := by decide +kernel
theorem dX10_choose_61 : decode cX10_choose 61 = .ok (.getfield 54, 3) := by decide +kernel
theorem dX10_choose_64 : decode cX10_choose 64 = .ok (.iload_n 1, 1) := by decide +kernel
theorem dX10_choose_65 : decode cX10_choose 65 = .ok (.aaload, 1) := by decide +kernel
theorem dX10_choose_66 : decode cX10_choose 66 = .ok (.iload_n 2, 1) := by decide +kernel
theorem dX10_choose_67 : decode cX10_choose 67 = .ok (.iload_n 3, 1) := by decide +kernel
theorem dX10_choose_68 : decode cX10_choose 68 = .ok (.iload 4, 2) := by decide +kernel
theorem dX10_choose_70 : decode cX10_choose 70 = .ok (.iload 5, 2) := by decide +kernel
theorem dX10_choose_72 : decode cX10_choose 72 = .ok (.iload 6, 2) := by decide +kernel
theorem dX10_choose_74 : decode cX10_choose 74 = .ok (.invokevirtual 224, 3) := by decide +kernel
theorem dX10_choose_77 : decode cX10_choose 77 = .ok (.aload_n 0, 1) := by decide +kernel
theorem dX10_choose_78 : decode cX10_choose 78 = .ok (.iload_n 1, 1) := by decide +kernel
theorem dX10_choose_79 : decode cX10_choose 79 = .ok (.iconst 0, 1) := by decide +kernel
theorem dX10_choose_80 : decode cX10_choose 80 = .ok (.invokevirtual 228, 3) := by decide +kernel
theorem dX10_choose_83 : decode cX10_choose 83 = .ok (.ireturn, 1) := by decide +kernel
theorem dX10_many_0 : decode cX10_many 0 = .ok (.iload_n 1, 1) := by decide +kernel
theorem dX10_many_1 : decode cX10_many 1 = .ok (.invokestatic 218, 3) := by decide +kernel
theorem dX10_many_4 : decode cX10_many 4 = .ok (.ifCond .eq 23, 3) := by decide +kernel
theorem dX10_many_7 : decode cX10_many 7 = .ok (.iload_n 2, 1) := by decide +kernel
theorem dX10_many_8 : decode cX10_many 8 = .ok (.iconst 0, 1) := by decide +kernel
theorem dX10_many_9 : decode cX10_many 9 = .ok (.iconst 2, 1) := by decide +kernel
theorem dX10_many_10 : decode cX10_many 10 = .ok (.invokestatic 108, 3) := by decide +kernel
theorem dX10_many_13 : decode cX10_many 13 = .ok (.ifCond .ne 16, 3) := by decide +kernel
theorem dX10_many_16 : decode cX10_many 16 = .ok (.iload_n 2, 1) := by decide +kernel
theorem dX10_many_17 : decode cX10_many 17 = .ok (.bipush 11, 2) := by decide +kernel
theorem dX10_many_19 : decode cX10_many 19 = .ok (.bipush 15, 2) := by decide +kernel
theorem dX10_many_21 : decode cX10_many 21 = .ok (.invokestatic 108, 3) := by decide +kernel
theorem dX10_many_24 : decode cX10_many 24 = .ok (.ifCond .ne 5, 3) := by decide +kernel
theorem dX10_many_27 : decode cX10_many 27 = .ok (.iconst (-1), 1) := by decide +kernel
theorem dX10_many_28 : decode cX10_many 28 = .ok (.ireturn, 1) := by decide +kernel
theorem dX10_many_29 : decode cX10_many 29 = .ok (.aload_n 0, 1) := by decide +kernel
theorem dX10_many_30 : decode cX10_many 30 = .ok (.iload_n 1, 1) := by decide +kernel
theorem dX10_many_31 : decode cX10_many 31 = .ok (.iload_n 2, 1) := by decide +kernel
theorem dX10_many_32 : decode cX10_many 32 = .ok (.invokevirtual 228, 3) := by decide +kernel
theorem dX10_many_35 : decode cX10_many 35 = .ok (.ireturn, 1) := by decide +kernel
theorem dX10_share_0 : decode cX10_share 0 = .ok (.iload_n 1, 1) := by decide +kernel
theorem dX10_share_1 : decode cX10_share 1 = .ok (.invokestatic 218, 3) := by decide +kernel
theorem dX10_share_4 : decode cX10_share 4 = .ok (.ifCond .eq 12, 3) := by decide +kernel
theorem dX10_share_7 : decode cX10_share 7 = .ok (.iload_n 2, 1) := by decide +kernel
theorem dX10_share_8 : decode cX10_share 8 = .ok (.iconst 0, 1) := by decide +kernel
theorem dX10_share_9 : decode cX10_share 9 = .ok (.iconst 1, 1) := by decide +kernel
theorem dX10_share_10 : decode cX10_share 10 = .ok (.invokestatic 108, 3) := by decide +kernel
theorem dX10_share_13 : decode cX10_share 13 = .ok (.ifCond .ne 5, 3) := by decide +kernel
theorem dX10_share_16 : decode cX10_share 16 = .ok (.iconst (-1), 1) := by decide +kernel
theorem dX10_share_17 : decode cX10_share 17 = .ok (.ireturn, 1) := by decide +kernel
theorem dX10_share_18 : decode cX10_share 18 = .ok (.aload_n 0, 1) := by decide +kernel
theorem dX10_share_19 : decode cX10_share 19 = .ok (.aload_n 0, 1) := by decide +kernel
theorem dX10_share_20 : decode cX10_share 20 = .ok (.iload_n 1, 1) := by decide +kernel
theorem dX10_share_21 : decode cX10_share 21 = .ok (.iconst 1, 1) := by decide +kernel
theorem dX10_share_22 : decode cX10_share 22 = .ok (.invokevirtual 228, 3) := by decide +kernel
theorem dX10_share_25 : decode cX10_share 25 = .ok (.aload_n 0, 1) := by decide +kernel
theorem dX10_share_26 : decode cX10_share 26 = .ok (.iload_n 1, 1) := by decide +kernel
theorem dX10_share_27 : decode cX10_share 27 = .ok (.iconst 0, 1) := by decide +kernel
theorem dX10_share_28 : decode cX10_share 28 = .ok (.invokevirtual 228, 3) := by decide +kernel
theorem dX10_share_31 : decode cX10_share 31 = .ok (.iload_n 2, 1) := by decide +kernel
theorem dX10_share_32 : decode cX10_share 32 = .ok (.invokevirtual 231, 3) := by decide +kernel
theorem dX10_share_35 : decode cX10_share 35 = .ok (.ireturn, 1) := by decide +kernel
theorem dX10_best_0 : decode cX10_best 0 = .ok (.iload_n 1, 1) := by decide +kernel
theorem dX10_best_1 : decode cX10_best 1 = .ok (.invokestatic 218, 3) := by decide +kernel
theorem dX10_best_4 : decode cX10_best 4 = .ok (.ifCond .eq 32, 3) := by decide +kernel
theorem dX10_best_7 : decode cX10_best 7 = .ok (.iload_n 2, 1) := by decide +kernel
theorem dX10_best_8 : decode cX10_best 8 = .ok (.iconst 0, 1) := by decide +kernel
theorem dX10_best_9 : decode cX10_best 9 = .ok (.iconst 3, 1) := by decide +kernel
theorem dX10_best_10 : decode cX10_best 10 = .ok (.invokestatic 108, 3) := by decide +kernel
theorem dX10_best_13 : decode cX10_best 13 = .ok (.ifCond .eq 23, 3) := by decide +kernel
theorem dX10_best_16 : decode cX10_best 16 = .ok (.iload_n 3, 1) := by decide +kernel
theorem dX10_best_17 : decode cX10_best 17 = .ok (.iconst 1, 1) := by decide +kernel
theorem dX10_best_18 : decode cX10_best 18 = .ok (.bipush 99, 2) := by decide +kernel
theorem dX10_best_20 : decode cX10_best 20 = .ok (.invokestatic 108, 3) := by decide +kernel
theorem dX10_best_23 : decode cX10_best 23 = .ok (.ifCond .eq 13, 3) := by decide +kernel
theorem dX10_best_26 : decode cX10_best 26 = .ok (.iload 4, 2) := by decide +kernel
theorem dX10_best_28 : decode cX10_best 28 = .ok (.iconst 0, 1) := by decide +kernel
theorem dX10_best_29 : decode cX10_best 29 = .ok (.iconst 2, 1) := by decide +kernel
theorem dX10_best_30 : decode cX10_best 30 = .ok (.invokestatic 108, 3) := by decide +kernel
theorem dX10_best_33 : decode cX10_best 33 = .ok (.ifCond .ne 5, 3) := by decide +kernel
theorem dX10_best_36 : decode cX10_best 36 = .ok (.iconst (-1), 1) := by decide +kernel
theorem dX10_best_37 : decode cX10_best 37 = .ok (.ireturn, 1) := by decide +kernel
theorem dX10_best_38 : decode cX10_best 38 = .ok (.aload_n 0, 1) := by decide +kernel
theorem dX10_best_39 : decode cX10_best 39 = .ok (.aload_n 0, 1) := by decide +kernel
theorem dX10_best_40 : decode cX10_best 40 = .ok (.getfield 82, 3) := by decide +kernel
theorem dX10_best_43 : decode cX10_best 43 = .ok (.iload_n 1, 1) := by decide +kernel
theorem dX10_best_44 : decode cX10_best 44 = .ok (.iload_n 2, 1) := by decide +kernel
theorem dX10_best_45 : decode cX10_best 45 = .ok (.invokevirtual 235, 3) := by decide +kernel
theorem dX10_best_48 : decode cX10_best 48 = .ok (.aload_n 0, 1) := by decide +kernel
theorem dX10_best_49 : decode cX10_best 49 = .ok (.getfield 82, 3) := by decide +kernel
theorem dX10_best_52 : decode cX10_best 52 = .ok (.iload_n 3, 1) := by decide +kernel
theorem dX10_best_53 : decode cX10_best 53 = .ok (.invokevirtual 239, 3) := by decide +kernel
theorem dX10_best_56 : decode cX10_best 56 = .ok (.istore 5, 2) := by decide +kernel
theorem dX10_best_58 : decode cX10_best 58 = .ok (.iload 5, 2) := by decide +kernel
theorem dX10_best_60 : decode cX10_best 60 = .ok (.ifCond .ge 6, 3) := by decide +kernel
theorem dX10_best_63 : decode cX10_best 63 = .ok (.bipush (-4), 2) := by decide +kernel
theorem dX10_best_65 : decode cX10_best 65 = .ok (.ireturn, 1) := by decide +kernel
theorem dX10_best_66 : decode cX10_best 66 = .ok (.iload 4, 2) := by decide +kernel
theorem dX10_best_68 : decode cX10_best 68 = .ok (.ifCond .ne 6, 3) := by decide +kernel
theorem dX10_best_71 : decode cX10_best 71 = .ok (.iload 5, 2) := by decide +kernel
theorem dX10_best_73 : decode cX10_best 73 = .ok (.ireturn, 1) := by decide +kernel
theorem dX10_best_74 : decode cX10_best 74 = .ok (.iload 4, 2) := by decide +kernel
theorem dX10_best_76 : decode cX10_best 76 = .ok (.iconst 1, 1) := by decide +kernel
theorem dX10_best_77 : decode cX10_best 77 = .ok (.if_icmp .ne 16, 3) := by decide +kernel
theorem dX10_best_80 : decode cX10_best 80 = .ok (.aload_n 0, 1) := by decide +kernel
theorem dX10_best_81 : decode cX10_best 81 = .ok (.getfield 82, 3) := by decide +kernel
theorem dX10_best_84 : decode cX10_best 84 = .ok (.getfield 242, 3) := by decide +kernel
theorem dX10_best_87 : decode cX10_best 87 = .ok (.iload 5, 2) := by decide +kernel
theorem dX10_best_89 : decode cX10_best 89 = .ok (.iaload, 1) := by decide +kernel
theorem dX10_best_90 : decode cX10_best 90 = .ok (.goto 13, 3) := by decide +kernel
theorem dX10_best_93 : decode cX10_best 93 = .ok (.aload_n 0, 1) := by decide +kernel
theorem dX10_best_94 : decode cX10_best 94 = .ok (.getfield 82, 3) := by decide +kernel
theorem dX10_best_97 : decode cX10_best 97 = .ok (.getfield 244, 3) := by decide +kernel
theorem dX10_best_100 : decode cX10_best 100 = .ok (.iload 5, 2) := by decide +kernel
theorem dX10_best_102 : decode cX10_best 102 = .ok (.iaload, 1) := by decide +kernel
theorem dX10_best_103 : decode cX10_best 103 = .ok (.ireturn, 1) := by decide +kernel
theorem dX10_pairs_0 : decode cX10_pairs 0 = .ok (.iload_n 1, 1) := by decide +kernel
theorem dX10_pairs_1 : decode cX10_pairs 1 = .ok (.invokestatic 218, 3) := by decide +kernel
theorem dX10_pairs_4 : decode cX10_pairs 4 = .ok (.ifCond .eq 12, 3) := by decide +kernel
theorem dX10_pairs_7 : decode cX10_pairs 7 = .ok (.iload_n 2, 1) := by decide +kernel
theorem dX10_pairs_8 : decode cX10_pairs 8 = .ok (.iconst 0, 1) := by decide +kernel
theorem dX10_pairs_9 : decode cX10_pairs 9 = .ok (.iconst 3, 1) := by decide +kernel
theorem dX10_pairs_10 : decode cX10_pairs 10 = .ok (.invokestatic 108, 3) := by decide +kernel
theorem dX10_pairs_13 : decode cX10_pairs 13 = .ok (.ifCond .ne 5, 3) := by decide +kernel
theorem dX10_pairs_16 : decode cX10_pairs 16 = .ok (.iconst (-1), 1) := by decide +kernel
theorem dX10_pairs_17 : decode cX10_pairs 17 = .ok (.ireturn, 1) := by decide +kernel
theorem dX10_pairs_18 : decode cX10_pairs 18 = .ok (.aload_n 0, 1) := by decide +kernel
theorem dX10_pairs_19 : decode cX10_pairs 19 = .ok (.iload_n 1, 1) := by decide +kernel
theorem dX10_pairs_20 : decode cX10_pairs 20 = .ok (.iload_n 2, 1) := by decide +kernel
theorem dX10_pairs_21 : decode cX10_pairs 21 = .ok (.iconst 2, 1) := by decide +kernel
theorem dX10_pairs_22 : decode cX10_pairs 22 = .ok (.idiv, 1) := by decide +kernel
theorem dX10_pairs_23 : decode cX10_pairs 23 = .ok (.iload_n 2, 1) := by decide +kernel
theorem dX10_pairs_24 : decode cX10_pairs 24 = .ok (.iconst 2, 1) := by decide +kernel
theorem dX10_pairs_25 : decode cX10_pairs 25 = .ok (.irem, 1) := by decide +kernel
theorem dX10_pairs_26 : decode cX10_pairs 26 = .ok (.invokevirtual 247, 3) := by decide +kernel
theorem dX10_pairs_29 : decode cX10_pairs 29 = .ok (.ireturn, 1) := by decide +kernel
theorem dX10_spared_0 : decode cX10_spared 0 = .ok (.iload_n 1, 1) := by decide +kernel
theorem dX10_spared_1 : decode cX10_spared 1 = .ok (.invokestatic 218, 3) := by decide +kernel
theorem dX10_spared_4 : decode cX10_spared 4 = .ok (.ifCond .eq 12, 3) := by decide +kernel
theorem dX10_spared_7 : decode cX10_spared 7 = .ok (.iload_n 2, 1) := by decide +kernel
theorem dX10_spared_8 : decode cX10_spared 8 = .ok (.iconst 0, 1) := by decide +kernel
theorem dX10_spared_9 : decode cX10_spared 9 = .ok (.iconst 1, 1) := by decide +kernel
theorem dX10_spared_10 : decode cX10_spared 10 = .ok (.invokestatic 108, 3) := by decide +kernel
theorem dX10_spared_13 : decode cX10_spared 13 = .ok (.ifCond .ne 5, 3) := by decide +kernel
theorem dX10_spared_16 : decode cX10_spared 16 = .ok (.iconst (-1), 1) := by decide +kernel
theorem dX10_spared_17 : decode cX10_spared 17 = .ok (.ireturn, 1) := by decide +kernel
theorem dX10_spared_18 : decode cX10_spared 18 = .ok (.aload_n 0, 1) := by decide +kernel
theorem dX10_spared_19 : decode cX10_spared 19 = .ok (.iload_n 1, 1) := by decide +kernel
theorem dX10_spared_20 : decode cX10_spared 20 = .ok (.iconst 0, 1) := by decide +kernel
theorem dX10_spared_21 : decode cX10_spared 21 = .ok (.iconst 0, 1) := by decide +kernel
theorem dX10_spared_22 : decode cX10_spared 22 = .ok (.invokevirtual 247, 3) := by decide +kernel
theorem dX10_spared_25 : decode cX10_spared 25 = .ok (.istore_n 3, 1) := by decide +kernel
theorem dX10_spared_26 : decode cX10_spared 26 = .ok (.iload_n 3, 1) := by decide +kernel
theorem dX10_spared_27 : decode cX10_spared 27 = .ok (.aload_n 0, 1) := by decide +kernel
theorem dX10_spared_28 : decode cX10_spared 28 = .ok (.iload_n 1, 1) := by decide +kernel
theorem dX10_spared_29 : decode cX10_spared 29 = .ok (.iconst 0, 1) := by decide +kernel
theorem dX10_spared_30 : decode cX10_spared 30 = .ok (.iconst 1, 1) := by decide +kernel
theorem dX10_spared_31 : decode cX10_spared 31 = .ok (.invokevirtual 247, 3) := by decide +kernel
theorem dX10_spared_34 : decode cX10_spared 34 = .ok (.iadd, 1) := by decide +kernel
theorem dX10_spared_35 : decode cX10_spared 35 = .ok (.istore 4, 2) := by decide +kernel
theorem dX10_spared_37 : decode cX10_spared 37 = .ok (.aload_n 0, 1) := by decide +kernel
theorem dX10_spared_38 : decode cX10_spared 38 = .ok (.iload_n 1, 1) := by decide +kernel
theorem dX10_spared_39 : decode cX10_spared 39 = .ok (.iconst 1, 1) := by decide +kernel
theorem dX10_spared_40 : decode cX10_spared 40 = .ok (.iconst 0, 1) := by decide +kernel
theorem dX10_spared_41 : decode cX10_spared 41 = .ok (.invokevirtual 247, 3) := by decide +kernel
theorem dX10_spared_44 : decode cX10_spared 44 = .ok (.istore 5, 2) := by decide +kernel
theorem dX10_spared_46 : decode cX10_spared 46 = .ok (.iload 5, 2) := by decide +kernel
theorem dX10_spared_48 : decode cX10_spared 48 = .ok (.aload_n 0, 1) := by decide +kernel
theorem dX10_spared_49 : decode cX10_spared 49 = .ok (.iload_n 1, 1) := by decide +kernel
theorem dX10_spared_50 : decode cX10_spared 50 = .ok (.iconst 1, 1) := by decide +kernel
theorem dX10_spared_51 : decode cX10_spared 51 = .ok (.iconst 1, 1) := by decide +kernel
theorem dX10_spared_52 : decode cX10_spared 52 = .ok (.invokevirtual 247, 3) := by decide +kernel
theorem dX10_spared_55 : decode cX10_spared 55 = .ok (.iadd, 1) := by decide +kernel
theorem dX10_spared_56 : decode cX10_spared 56 = .ok (.istore 6, 2) := by decide +kernel
theorem dX10_spared_58 : decode cX10_spared 58 = .ok (.iload_n 3, 1) := by decide +kernel
theorem dX10_spared_59 : decode cX10_spared 59 = .ok (.iload 6, 2) := by decide +kernel
theorem dX10_spared_61 : decode cX10_spared 61 = .ok (.imul, 1) := by decide +kernel
theorem dX10_spared_62 : decode cX10_spared 62 = .ok (.iload 4, 2) := by decide +kernel
theorem dX10_spared_64 : decode cX10_spared 64 = .ok (.iload 5, 2) := by decide +kernel
theorem dX10_spared_66 : decode cX10_spared 66 = .ok (.imul, 1) := by decide +kernel
theorem dX10_spared_67 : decode cX10_spared 67 = .ok (.isub, 1) := by decide +kernel
theorem dX10_spared_68 : decode cX10_spared 68 = .ok (.istore 7, 2) := by decide +kernel
theorem dX10_spared_70 : decode cX10_spared 70 = .ok (.aload_n 0, 1) := by decide +kernel
theorem dX10_spared_71 : decode cX10_spared 71 = .ok (.iload 7, 2) := by decide +kernel
theorem dX10_spared_73 : decode cX10_spared 73 = .ok (.iconst 0, 1) := by decide +kernel
theorem dX10_spared_74 : decode cX10_spared 74 = .ok (.invokestatic 250, 3) := by decide +kernel
theorem dX10_spared_77 : decode cX10_spared 77 = .ok (.iload 6, 2) := by decide +kernel
theorem dX10_spared_79 : decode cX10_spared 79 = .ok (.iload_n 2, 1) := by decide +kernel
theorem dX10_spared_80 : decode cX10_spared 80 = .ok (.invokevirtual 231, 3) := by decide +kernel
theorem dX10_spared_83 : decode cX10_spared 83 = .ok (.ireturn, 1) := by decide +kernel
theorem dX10_learnt_0 : decode cX10_learnt 0 = .ok (.iload_n 1, 1) := by decide +kernel
theorem dX10_learnt_1 : decode cX10_learnt 1 = .ok (.invokestatic 218, 3) := by decide +kernel
theorem dX10_learnt_4 : decode cX10_learnt 4 = .ok (.ifCond .eq 21, 3) := by decide +kernel
theorem dX10_learnt_7 : decode cX10_learnt 7 = .ok (.iload_n 2, 1) := by decide +kernel
theorem dX10_learnt_8 : decode cX10_learnt 8 = .ok (.iload_n 3, 1) := by decide +kernel
theorem dX10_learnt_9 : decode cX10_learnt 9 = .ok (.invokestatic 255, 3) := by decide +kernel
theorem dX10_learnt_12 : decode cX10_learnt 12 = .ok (.ifCond .eq 13, 3) := by decide +kernel
theorem dX10_learnt_15 : decode cX10_learnt 15 = .ok (.iload 4, 2) := by decide +kernel
theorem dX10_learnt_17 : decode cX10_learnt 17 = .ok (.iconst 0, 1) := by decide +kernel
theorem dX10_learnt_18 : decode cX10_learnt 18 = .ok (.iconst 3, 1) := by decide +kernel
theorem dX10_learnt_19 : decode cX10_learnt 19 = .ok (.invokestatic 108, 3) := by decide +kernel
theorem dX10_learnt_22 : decode cX10_learnt 22 = .ok (.ifCond .ne 5, 3) := by decide +kernel
theorem dX10_learnt_25 : decode cX10_learnt 25 = .ok (.iconst (-1), 1) := by decide +kernel
theorem dX10_learnt_26 : decode cX10_learnt 26 = .ok (.ireturn, 1) := by decide +kernel
theorem dX10_learnt_27 : decode cX10_learnt 27 = .ok (.aload_n 0, 1) := by decide +kernel
theorem dX10_learnt_28 : decode cX10_learnt 28 = .ok (.iload_n 1, 1) := by decide +kernel
theorem dX10_learnt_29 : decode cX10_learnt 29 = .ok (.iload_n 2, 1) := by decide +kernel
theorem dX10_learnt_30 : decode cX10_learnt 30 = .ok (.iload_n 3, 1) := by decide +kernel
theorem dX10_learnt_31 : decode cX10_learnt 31 = .ok (.iload 4, 2) := by decide +kernel
theorem dX10_learnt_33 : decode cX10_learnt 33 = .ok (.invokevirtual 258, 3) := by decide +kernel
theorem dX10_learnt_36 : decode cX10_learnt 36 = .ok (.ireturn, 1) := by decide +kernel
theorem dX10_bounds_0 : decode cX10_bounds 0 = .ok (.iload_n 1, 1) := by decide +kernel
theorem dX10_bounds_1 : decode cX10_bounds 1 = .ok (.invokestatic 218, 3) := by decide +kernel
theorem dX10_bounds_4 : decode cX10_bounds 4 = .ok (.ifCond .eq 21, 3) := by decide +kernel
theorem dX10_bounds_7 : decode cX10_bounds 7 = .ok (.iload_n 2, 1) := by decide +kernel
theorem dX10_bounds_8 : decode cX10_bounds 8 = .ok (.iload_n 3, 1) := by decide +kernel
theorem dX10_bounds_9 : decode cX10_bounds 9 = .ok (.invokestatic 255, 3) := by decide +kernel
theorem dX10_bounds_12 : decode cX10_bounds 12 = .ok (.ifCond .eq 13, 3) := by decide +kernel
theorem dX10_bounds_15 : decode cX10_bounds 15 = .ok (.iload 4, 2) := by decide +kernel
theorem dX10_bounds_17 : decode cX10_bounds 17 = .ok (.iconst 0, 1) := by decide +kernel
theorem dX10_bounds_18 : decode cX10_bounds 18 = .ok (.iconst 3, 1) := by decide +kernel
theorem dX10_bounds_19 : decode cX10_bounds 19 = .ok (.invokestatic 108, 3) := by decide +kernel
theorem dX10_bounds_22 : decode cX10_bounds 22 = .ok (.ifCond .ne 5, 3) := by decide +kernel
theorem dX10_bounds_25 : decode cX10_bounds 25 = .ok (.iconst (-1), 1) := by decide +kernel
theorem dX10_bounds_26 : decode cX10_bounds 26 = .ok (.ireturn, 1) := by decide +kernel
theorem dX10_bounds_27 : decode cX10_bounds 27 = .ok (.aload_n 0, 1) := by decide +kernel
theorem dX10_bounds_28 : decode cX10_bounds 28 = .ok (.iload_n 1, 1) := by decide +kernel
theorem dX10_bounds_29 : decode cX10_bounds 29 = .ok (.iload_n 2, 1) := by decide +kernel
theorem dX10_bounds_30 : decode cX10_bounds 30 = .ok (.iload_n 3, 1) := by decide +kernel
theorem dX10_bounds_31 : decode cX10_bounds 31 = .ok (.iconst 0, 1) := by decide +kernel
theorem dX10_bounds_32 : decode cX10_bounds 32 = .ok (.invokevirtual 258, 3) := by decide +kernel
theorem dX10_bounds_35 : decode cX10_bounds 35 = .ok (.istore 5, 2) := by decide +kernel
theorem dX10_bounds_37 : decode cX10_bounds 37 = .ok (.aload_n 0, 1) := by decide +kernel
theorem dX10_bounds_38 : decode cX10_bounds 38 = .ok (.iload_n 1, 1) := by decide +kernel
theorem dX10_bounds_39 : decode cX10_bounds 39 = .ok (.iload_n 2, 1) := by decide +kernel
theorem dX10_bounds_40 : decode cX10_bounds 40 = .ok (.iload_n 3, 1) := by decide +kernel
theorem dX10_bounds_41 : decode cX10_bounds 41 = .ok (.iconst 2, 1) := by decide +kernel
theorem dX10_bounds_42 : decode cX10_bounds 42 = .ok (.invokevirtual 258, 3) := by decide +kernel
theorem dX10_bounds_45 : decode cX10_bounds 45 = .ok (.istore 6, 2) := by decide +kernel
theorem dX10_bounds_47 : decode cX10_bounds 47 = .ok (.aload_n 0, 1) := by decide +kernel
theorem dX10_bounds_48 : decode cX10_bounds 48 = .ok (.iload_n 1, 1) := by decide +kernel
theorem dX10_bounds_49 : decode cX10_bounds 49 = .ok (.iload_n 2, 1) := by decide +kernel
theorem dX10_bounds_50 : decode cX10_bounds 50 = .ok (.iload_n 3, 1) := by decide +kernel
theorem dX10_bounds_51 : decode cX10_bounds 51 = .ok (.iconst 3, 1) := by decide +kernel
theorem dX10_bounds_52 : decode cX10_bounds 52 = .ok (.invokevirtual 258, 3) := by decide +kernel
theorem dX10_bounds_55 : decode cX10_bounds 55 = .ok (.istore 7, 2) := by decide +kernel
theorem dX10_bounds_57 : decode cX10_bounds 57 = .ok (.iload 4, 2) := by decide +kernel
theorem dX10_bounds_59 : decode cX10_bounds 59 = .ok (.iconst 2, 1) := by decide +kernel
theorem dX10_bounds_60 : decode cX10_bounds 60 = .ok (.if_icmp .lt 20, 3) := by decide +kernel
theorem dX10_bounds_63 : decode cX10_bounds 63 = .ok (.aload_n 0, 1) := by decide +kernel
theorem dX10_bounds_64 : decode cX10_bounds 64 = .ok (.iload 6, 2) := by decide +kernel
theorem dX10_bounds_66 : decode cX10_bounds 66 = .ok (.iload 7, 2) := by decide +kernel
theorem dX10_bounds_68 : decode cX10_bounds 68 = .ok (.iadd, 1) := by decide +kernel
theorem dX10_bounds_69 : decode cX10_bounds 69 = .ok (.iload 5, 2) := by decide +kernel
theorem dX10_bounds_71 : decode cX10_bounds 71 = .ok (.iload 7, 2) := by decide +kernel
theorem dX10_bounds_73 : decode cX10_bounds 73 = .ok (.iadd, 1) := by decide +kernel
theorem dX10_bounds_74 : decode cX10_bounds 74 = .ok (.iload 4, 2) := by decide +kernel
theorem dX10_bounds_76 : decode cX10_bounds 76 = .ok (.invokevirtual 231, 3) := by decide +kernel
theorem dX10_bounds_79 : decode cX10_bounds 79 = .ok (.ireturn, 1) := by decide +kernel
theorem dX10_bounds_80 : decode cX10_bounds 80 = .ok (.aload_n 0, 1) := by decide +kernel
theorem dX10_bounds_81 : decode cX10_bounds 81 = .ok (.iload_n 1, 1) := by decide +kernel
theorem dX10_bounds_82 : decode cX10_bounds 82 = .ok (.iload_n 2, 1) := by decide +kernel
theorem dX10_bounds_83 : decode cX10_bounds 83 = .ok (.iload_n 3, 1) := by decide +kernel
theorem dX10_bounds_84 : decode cX10_bounds 84 = .ok (.iconst 1, 1) := by decide +kernel
theorem dX10_bounds_85 : decode cX10_bounds 85 = .ok (.invokevirtual 258, 3) := by decide +kernel
theorem dX10_bounds_88 : decode cX10_bounds 88 = .ok (.iload 7, 2) := by decide +kernel
theorem dX10_bounds_90 : decode cX10_bounds 90 = .ok (.isub, 1) := by decide +kernel
theorem dX10_bounds_91 : decode cX10_bounds 91 = .ok (.istore 8, 2) := by decide +kernel
theorem dX10_bounds_93 : decode cX10_bounds 93 = .ok (.aload_n 0, 1) := by decide +kernel
theorem dX10_bounds_94 : decode cX10_bounds 94 = .ok (.iload 6, 2) := by decide +kernel
theorem dX10_bounds_96 : decode cX10_bounds 96 = .ok (.iload 5, 2) := by decide +kernel
theorem dX10_bounds_98 : decode cX10_bounds 98 = .ok (.iload 8, 2) := by decide +kernel
theorem dX10_bounds_100 : decode cX10_bounds 100 = .ok (.iadd, 1) := by decide +kernel
theorem dX10_bounds_101 : decode cX10_bounds 101 = .ok (.iload 4, 2) := by decide +kernel
theorem dX10_bounds_103 : decode cX10_bounds 103 = .ok (.invokevirtual 231, 3) := by decide +kernel
theorem dX10_bounds_106 : decode cX10_bounds 106 = .ok (.ireturn, 1) := by decide +kernel
theorem dX10_tens_0 : decode cX10_tens 0 = .ok (.iload_n 1, 1) := by decide +kernel
theorem dX10_tens_1 : decode cX10_tens 1 = .ok (.invokestatic 218, 3) := by decide +kernel
theorem dX10_tens_4 : decode cX10_tens 4 = .ok (.ifCond .eq 12, 3) := by decide +kernel
theorem dX10_tens_7 : decode cX10_tens 7 = .ok (.iload_n 2, 1) := by decide +kernel
theorem dX10_tens_8 : decode cX10_tens 8 = .ok (.iconst 0, 1) := by decide +kernel
theorem dX10_tens_9 : decode cX10_tens 9 = .ok (.iconst 1, 1) := by decide +kernel
theorem dX10_tens_10 : decode cX10_tens 10 = .ok (.invokestatic 108, 3) := by decide +kernel
theorem dX10_tens_13 : decode cX10_tens 13 = .ok (.ifCond .ne 7, 3) := by decide +kernel
theorem dX10_tens_16 : decode cX10_tens 16 = .ok (.sipush (-1000), 3) := by decide +kernel
theorem dX10_tens_19 : decode cX10_tens 19 = .ok (.ireturn, 1) := by decide +kernel
theorem dX10_tens_20 : decode cX10_tens 20 = .ok (.aload_n 0, 1) := by decide +kernel
theorem dX10_tens_21 : decode cX10_tens 21 = .ok (.iload_n 1, 1) := by decide +kernel
theorem dX10_tens_22 : decode cX10_tens 22 = .ok (.invokevirtual 262, 3) := by decide +kernel
theorem dX10_tens_25 : decode cX10_tens 25 = .ok (.aload_n 0, 1) := by decide +kernel
theorem dX10_tens_26 : decode cX10_tens 26 = .ok (.getfield 82, 3) := by decide +kernel
theorem dX10_tens_29 : decode cX10_tens 29 = .ok (.invokevirtual 265, 3) := by decide +kernel
theorem dX10_tens_32 : decode cX10_tens 32 = .ok (.istore_n 3, 1) := by decide +kernel
theorem dX10_tens_33 : decode cX10_tens 33 = .ok (.aload_n 0, 1) := by decide +kernel
theorem dX10_tens_34 : decode cX10_tens 34 = .ok (.getfield 82, 3) := by decide +kernel
theorem dX10_tens_37 : decode cX10_tens 37 = .ok (.getfield 242, 3) := by decide +kernel
theorem dX10_tens_40 : decode cX10_tens 40 = .ok (.iload_n 3, 1) := by decide +kernel
theorem dX10_tens_41 : decode cX10_tens 41 = .ok (.iaload, 1) := by decide +kernel
theorem dX10_tens_42 : decode cX10_tens 42 = .ok (.ifCond .ne 7, 3) := by decide +kernel
theorem dX10_tens_45 : decode cX10_tens 45 = .ok (.sipush (-1004), 3) := by decide +kernel
theorem dX10_tens_48 : decode cX10_tens 48 = .ok (.ireturn, 1) := by decide +kernel
theorem dX10_tens_49 : decode cX10_tens 49 = .ok (.iload_n 2, 1) := by decide +kernel
theorem dX10_tens_50 : decode cX10_tens 50 = .ok (.ifCond .ne 13, 3) := by decide +kernel
theorem dX10_tens_53 : decode cX10_tens 53 = .ok (.bipush (-60), 2) := by decide +kernel
theorem dX10_tens_55 : decode cX10_tens 55 = .ok (.bipush 10, 2) := by decide +kernel
theorem dX10_tens_57 : decode cX10_tens 57 = .ok (.iload_n 3, 1) := by decide +kernel
theorem dX10_tens_58 : decode cX10_tens 58 = .ok (.imul, 1) := by decide +kernel
theorem dX10_tens_59 : decode cX10_tens 59 = .ok (.iadd, 1) := by decide +kernel
theorem dX10_tens_60 : decode cX10_tens 60 = .ok (.goto 12, 3) := by decide +kernel
theorem dX10_tens_63 : decode cX10_tens 63 = .ok (.aload_n 0, 1) := by decide +kernel
theorem dX10_tens_64 : decode cX10_tens 64 = .ok (.getfield 82, 3) := by decide +kernel
theorem dX10_tens_67 : decode cX10_tens 67 = .ok (.getfield 242, 3) := by decide +kernel
theorem dX10_tens_70 : decode cX10_tens 70 = .ok (.iload_n 3, 1) := by decide +kernel
theorem dX10_tens_71 : decode cX10_tens 71 = .ok (.iaload, 1) := by decide +kernel
theorem dX10_tens_72 : decode cX10_tens 72 = .ok (.ireturn, 1) := by decide +kernel
theorem dX10_span_0 : decode cX10_span 0 = .ok (.aload_n 0, 1) := by decide +kernel
theorem dX10_span_1 : decode cX10_span 1 = .ok (.iload_n 1, 1) := by decide +kernel
theorem dX10_span_2 : decode cX10_span 2 = .ok (.invokevirtual 221, 3) := by decide +kernel
theorem dX10_span_5 : decode cX10_span 5 = .ok (.ifCond .eq 12, 3) := by decide +kernel
theorem dX10_span_8 : decode cX10_span 8 = .ok (.iload_n 2, 1) := by decide +kernel
theorem dX10_span_9 : decode cX10_span 9 = .ok (.iconst 0, 1) := by decide +kernel
theorem dX10_span_10 : decode cX10_span 10 = .ok (.iconst 3, 1) := by decide +kernel
theorem dX10_span_11 : decode cX10_span 11 = .ok (.invokestatic 108, 3) := by decide +kernel
theorem dX10_span_14 : decode cX10_span 14 = .ok (.ifCond .ne 7, 3) := by decide +kernel
theorem dX10_span_17 : decode cX10_span 17 = .ok (.ldc2_w 268, 3) := by decide +kernel
theorem dX10_span_20 : decode cX10_span 20 = .ok (.lreturn, 1) := by decide +kernel
theorem dX10_span_21 : decode cX10_span 21 = .ok (.aload_n 0, 1) := by decide +kernel
theorem dX10_span_22 : decode cX10_span 22 = .ok (.aload_n 0, 1) := by decide +kernel
theorem dX10_span_23 : decode cX10_span 23 = .ok (.getfield 82, 3) := by decide +kernel
theorem dX10_span_26 : decode cX10_span 26 = .ok (.iconst 0, 1) := by decide +kernel
theorem dX10_span_27 : decode cX10_span 27 = .ok (.iconst 0, 1) := by decide +kernel
theorem dX10_span_28 : decode cX10_span 28 = .ok (.invokevirtual 235, 3) := by decide +kernel
theorem dX10_span_31 : decode cX10_span 31 = .ok (.aload_n 0, 1) := by decide +kernel
theorem dX10_span_32 : decode cX10_span 32 = .ok (.iload_n 1, 1) := by decide +kernel
theorem dX10_span_33 : decode cX10_span 33 = .ok (.invokevirtual 270, 3) := by decide +kernel
theorem dX10_span_36 : decode cX10_span 36 = .ok (.ifCond .ne 7, 3) := by decide +kernel
theorem dX10_span_39 : decode cX10_span 39 = .ok (.ldc2_w 268, 3) := by decide +kernel
theorem dX10_span_42 : decode cX10_span 42 = .ok (.lreturn, 1) := by decide +kernel
theorem dX10_span_43 : decode cX10_span 43 = .ok (.aload_n 0, 1) := by decide +kernel
theorem dX10_span_44 : decode cX10_span 44 = .ok (.getfield 26, 3) := by decide +kernel
theorem dX10_span_47 : decode cX10_span 47 = .ok (.aload_n 0, 1) := by decide +kernel
theorem dX10_span_48 : decode cX10_span 48 = .ok (.getfield 26, 3) := by decide +kernel
theorem dX10_span_51 : decode cX10_span 51 = .ok (.invokevirtual 273, 3) := by decide +kernel
theorem dX10_span_54 : decode cX10_span 54 = .ok (.invokevirtual 276, 3) := by decide +kernel
theorem dX10_span_57 : decode cX10_span 57 = .ok (.istore_n 3, 1) := by decide +kernel
theorem dX10_span_58 : decode cX10_span 58 = .ok (.iload_n 3, 1) := by decide +kernel
theorem dX10_span_59 : decode cX10_span 59 = .ok (.ifCond .ne 7, 3) := by decide +kernel
theorem dX10_span_62 : decode cX10_span 62 = .ok (.ldc2_w 279, 3) := by decide +kernel
theorem dX10_span_65 : decode cX10_span 65 = .ok (.lreturn, 1) := by decide +kernel
theorem dX10_span_66 : decode cX10_span 66 = .ok (.aload_n 0, 1) := by decide +kernel
theorem dX10_span_67 : decode cX10_span 67 = .ok (.getfield 88, 3) := by decide +kernel
theorem dX10_span_70 : decode cX10_span 70 = .ok (.lconst 0, 1) := by decide +kernel
theorem dX10_span_71 : decode cX10_span 71 = .ok (.lconst 1, 1) := by decide +kernel
theorem dX10_span_72 : decode cX10_span 72 = .ok (.invokevirtual 281, 3) := by decide +kernel
theorem dX10_span_75 : decode cX10_span 75 = .ok (.iconst 0, 1) := by decide +kernel
theorem dX10_span_76 : decode cX10_span 76 = .ok (.istore 4, 2) := by decide +kernel
theorem dX10_span_78 : decode cX10_span 78 = .ok (.iload 4, 2) := by decide +kernel
theorem dX10_span_80 : decode cX10_span 80 = .ok (.aload_n 0, 1) := by decide +kernel
theorem dX10_span_81 : decode cX10_span 81 = .ok (.getfield 26, 3) := by decide +kernel
theorem dX10_span_84 : decode cX10_span 84 = .ok (.getfield 125, 3) := by decide +kernel
theorem dX10_span_87 : decode cX10_span 87 = .ok (.if_icmp .ge 61, 3) := by decide +kernel
theorem dX10_span_90 : decode cX10_span 90 = .ok (.iload_n 1, 1) := by decide +kernel
theorem dX10_span_91 : decode cX10_span 91 = .ok (.iload 4, 2) := by decide +kernel
theorem dX10_span_93 : decode cX10_span 93 = .ok (.invokestatic 284, 3) := by decide +kernel
theorem dX10_span_96 : decode cX10_span 96 = .ok (.ifCond .eq 46, 3) := by decide +kernel
theorem dX10_span_99 : decode cX10_span 99 = .ok (.aload_n 0, 1) := by decide +kernel
theorem dX10_span_100 : decode cX10_span 100 = .ok (.getfield 88, 3) := by decide +kernel
theorem dX10_span_103 : decode cX10_span 103 = .ok (.aload_n 0, 1) := by decide +kernel
theorem dX10_span_104 : decode cX10_span 104 = .ok (.getfield 82, 3) := by decide +kernel
theorem dX10_span_107 : decode cX10_span 107 = .ok (.getfield 244, 3) := by decide +kernel
theorem dX10_span_110 : decode cX10_span 110 = .ok (.iload 4, 2) := by decide +kernel
theorem dX10_span_112 : decode cX10_span 112 = .ok (.iaload, 1) := by decide +kernel
theorem dX10_span_113 : decode cX10_span 113 = .ok (.i2l, 1) := by decide +kernel
theorem dX10_span_114 : decode cX10_span 114 = .ok (.aload_n 0, 1) := by decide +kernel
theorem dX10_span_115 : decode cX10_span 115 = .ok (.getfield 26, 3) := by decide +kernel
theorem dX10_span_118 : decode cX10_span 118 = .ok (.getfield 157, 3) := by decide +kernel
theorem dX10_span_121 : decode cX10_span 121 = .ok (.iconst 0, 1) := by decide +kernel
theorem dX10_span_122 : decode cX10_span 122 = .ok (.aaload, 1) := by decide +kernel
theorem dX10_span_123 : decode cX10_span 123 = .ok (.iload 4, 2) := by decide +kernel
theorem dX10_span_125 : decode cX10_span 125 = .ok (.iaload, 1) := by decide +kernel
theorem dX10_span_126 : decode cX10_span 126 = .ok (.i2l, 1) := by decide +kernel
theorem dX10_span_127 : decode cX10_span 127 = .ok (.lmul, 1) := by decide +kernel
theorem dX10_span_128 : decode cX10_span 128 = .ok (.aload_n 0, 1) := by decide +kernel
theorem dX10_span_129 : decode cX10_span 129 = .ok (.getfield 82, 3) := by decide +kernel
theorem dX10_span_132 : decode cX10_span 132 = .ok (.getfield 242, 3) := by decide +kernel
theorem dX10_span_135 : decode cX10_span 135 = .ok (.iload 4, 2) := by decide +kernel
theorem dX10_span_137 : decode cX10_span 137 = .ok (.iaload, 1) := by decide +kernel
theorem dX10_span_138 : decode cX10_span 138 = .ok (.i2l, 1) := by decide +kernel
theorem dX10_span_139 : decode cX10_span 139 = .ok (.invokevirtual 287, 3) := by decide +kernel
theorem dX10_span_142 : decode cX10_span 142 = .ok (.iinc 4 1, 3) := by decide +kernel
theorem dX10_span_145 : decode cX10_span 145 = .ok (.goto (-67), 3) := by decide +kernel
theorem dX10_span_148 : decode cX10_span 148 = .ok (.iload_n 2, 1) := by decide +kernel
theorem dX10_span_149 : decode cX10_span 149 = .ok (.iconst 2, 1) := by decide +kernel
theorem dX10_span_150 : decode cX10_span 150 = .ok (.if_icmp .lt 30, 3) := by decide +kernel
theorem dX10_span_153 : decode cX10_span 153 = .ok (.aload_n 0, 1) := by decide +kernel
theorem dX10_span_154 : decode cX10_span 154 = .ok (.getfield 88, 3) := by decide +kernel
theorem dX10_span_157 : decode cX10_span 157 = .ok (.aload_n 0, 1) := by decide +kernel
theorem dX10_span_158 : decode cX10_span 158 = .ok (.getfield 26, 3) := by decide +kernel
theorem dX10_span_161 : decode cX10_span 161 = .ok (.aload_n 0, 1) := by decide +kernel
theorem dX10_span_162 : decode cX10_span 162 = .ok (.getfield 26, 3) := by decide +kernel
theorem dX10_span_165 : decode cX10_span 165 = .ok (.invokevirtual 273, 3) := by decide +kernel
theorem dX10_span_168 : decode cX10_span 168 = .ok (.iload_n 1, 1) := by decide +kernel
theorem dX10_span_169 : decode cX10_span 169 = .ok (.iconst (-1), 1) := by decide +kernel
theorem dX10_span_170 : decode cX10_span 170 = .ok (.ixor, 1) := by decide +kernel
theorem dX10_span_171 : decode cX10_span 171 = .ok (.iand, 1) := by decide +kernel
theorem dX10_span_172 : decode cX10_span 172 = .ok (.invokevirtual 276, 3) := by decide +kernel
theorem dX10_span_175 : decode cX10_span 175 = .ok (.i2l, 1) := by decide +kernel
theorem dX10_span_176 : decode cX10_span 176 = .ok (.lconst 1, 1) := by decide +kernel
theorem dX10_span_177 : decode cX10_span 177 = .ok (.invokevirtual 287, 3) := by decide +kernel
theorem dX10_span_180 : decode cX10_span 180 = .ok (.aload_n 0, 1) := by decide +kernel
theorem dX10_span_181 : decode cX10_span 181 = .ok (.getfield 88, 3) := by decide +kernel
theorem dX10_span_184 : decode cX10_span 184 = .ok (.aload_n 0, 1) := by decide +kernel
theorem dX10_span_185 : decode cX10_span 185 = .ok (.getfield 88, 3) := by decide +kernel
theorem dX10_span_188 : decode cX10_span 188 = .ok (.getfield 290, 3) := by decide +kernel
theorem dX10_span_191 : decode cX10_span 191 = .ok (.aload_n 0, 1) := by decide +kernel
theorem dX10_span_192 : decode cX10_span 192 = .ok (.getfield 88, 3) := by decide +kernel
theorem dX10_span_195 : decode cX10_span 195 = .ok (.getfield 294, 3) := by decide +kernel
theorem dX10_span_198 : decode cX10_span 198 = .ok (.iload_n 3, 1) := by decide +kernel
theorem dX10_span_199 : decode cX10_span 199 = .ok (.i2l, 1) := by decide +kernel
theorem dX10_span_200 : decode cX10_span 200 = .ok (.lmul, 1) := by decide +kernel
theorem dX10_span_201 : decode cX10_span 201 = .ok (.invokevirtual 281, 3) := by decide +kernel
theorem dX10_span_204 : decode cX10_span 204 = .ok (.aload_n 0, 1) := by decide +kernel
theorem dX10_span_205 : decode cX10_span 205 = .ok (.getfield 88, 3) := by decide +kernel
theorem dX10_span_208 : decode cX10_span 208 = .ok (.iload_n 2, 1) := by decide +kernel
theorem dX10_span_209 : decode cX10_span 209 = .ok (.invokevirtual 297, 3) := by decide +kernel
theorem dX10_span_212 : decode cX10_span 212 = .ok (.lreturn, 1) := by decide +kernel
theorem dX10_next_0 : decode cX10_next 0 = .ok (.aload_n 0, 1) := by decide +kernel
theorem dX10_next_1 : decode cX10_next 1 = .ok (.iload_n 1, 1) := by decide +kernel
theorem dX10_next_2 : decode cX10_next 2 = .ok (.invokevirtual 221, 3) := by decide +kernel
theorem dX10_next_5 : decode cX10_next 5 = .ok (.ifCond .ne 5, 3) := by decide +kernel
theorem dX10_next_8 : decode cX10_next 8 = .ok (.iconst (-1), 1) := by decide +kernel
theorem dX10_next_9 : decode cX10_next 9 = .ok (.ireturn, 1) := by decide +kernel
theorem dX10_next_10 : decode cX10_next 10 = .ok (.aload_n 0, 1) := by decide +kernel
theorem dX10_next_11 : decode cX10_next 11 = .ok (.aload_n 0, 1) := by decide +kernel
theorem dX10_next_12 : decode cX10_next 12 = .ok (.getfield 82, 3) := by decide +kernel
theorem dX10_next_15 : decode cX10_next 15 = .ok (.iconst 0, 1) := by decide +kernel
theorem dX10_next_16 : decode cX10_next 16 = .ok (.iconst 0, 1) := by decide +kernel
theorem dX10_next_17 : decode cX10_next 17 = .ok (.invokevirtual 235, 3) := by decide +kernel
theorem dX10_next_20 : decode cX10_next 20 = .ok (.aload_n 0, 1) := by decide +kernel
theorem dX10_next_21 : decode cX10_next 21 = .ok (.iload_n 1, 1) := by decide +kernel
theorem dX10_next_22 : decode cX10_next 22 = .ok (.invokevirtual 270, 3) := by decide +kernel
theorem dX10_next_25 : decode cX10_next 25 = .ok (.ifCond .ne 5, 3) := by decide +kernel
theorem dX10_next_28 : decode cX10_next 28 = .ok (.iconst (-1), 1) := by decide +kernel
theorem dX10_next_29 : decode cX10_next 29 = .ok (.ireturn, 1) := by decide +kernel
theorem dX10_next_30 : decode cX10_next 30 = .ok (.aload_n 0, 1) := by decide +kernel
theorem dX10_next_31 : decode cX10_next 31 = .ok (.aload_n 0, 1) := by decide +kernel
theorem dX10_next_32 : decode cX10_next 32 = .ok (.getfield 26, 3) := by decide +kernel
theorem dX10_next_35 : decode cX10_next 35 = .ok (.getfield 125, 3) := by decide +kernel
theorem dX10_next_38 : decode cX10_next 38 = .ok (.iload_n 1, 1) := by decide +kernel
theorem dX10_next_39 : decode cX10_next 39 = .ok (.invokevirtual 301, 3) := by decide +kernel
theorem dX10_next_42 : decode cX10_next 42 = .ok (.istore_n 2, 1) := by decide +kernel
theorem dX10_next_43 : decode cX10_next 43 = .ok (.iload_n 2, 1) := by decide +kernel
theorem dX10_next_44 : decode cX10_next 44 = .ok (.ifCond .ge 8, 3) := by decide +kernel
theorem dX10_next_47 : decode cX10_next 47 = .ok (.bipush (-4), 2) := by decide +kernel
theorem dX10_next_49 : decode cX10_next 49 = .ok (.goto 4, 3) := by decide +kernel
theorem dX10_next_52 : decode cX10_next 52 = .ok (.iload_n 2, 1) := by decide +kernel
theorem dX10_next_53 : decode cX10_next 53 = .ok (.ireturn, 1) := by decide +kernel
theorem dX10_enough_0 : decode cX10_enough 0 = .ok (.iload_n 2, 1) := by decide +kernel
theorem dX10_enough_1 : decode cX10_enough 1 = .ok (.iconst 1, 1) := by decide +kernel
theorem dX10_enough_2 : decode cX10_enough 2 = .ok (.sipush 999, 3) := by decide +kernel
theorem dX10_enough_5 : decode cX10_enough 5 = .ok (.invokestatic 108, 3) := by decide +kernel
theorem dX10_enough_8 : decode cX10_enough 8 = .ok (.ifCond .eq 21, 3) := by decide +kernel
theorem dX10_enough_11 : decode cX10_enough 11 = .ok (.iload_n 1, 1) := by decide +kernel
theorem dX10_enough_12 : decode cX10_enough 12 = .ok (.iconst 0, 1) := by decide +kernel
theorem dX10_enough_13 : decode cX10_enough 13 = .ok (.iload_n 2, 1) := by decide +kernel
theorem dX10_enough_14 : decode cX10_enough 14 = .ok (.invokestatic 108, 3) := by decide +kernel
theorem dX10_enough_17 : decode cX10_enough 17 = .ok (.ifCond .eq 12, 3) := by decide +kernel
theorem dX10_enough_20 : decode cX10_enough 20 = .ok (.iload_n 3, 1) := by decide +kernel
theorem dX10_enough_21 : decode cX10_enough 21 = .ok (.iconst 0, 1) := by decide +kernel
theorem dX10_enough_22 : decode cX10_enough 22 = .ok (.iconst 1, 1) := by decide +kernel
theorem dX10_enough_23 : decode cX10_enough 23 = .ok (.invokestatic 108, 3) := by decide +kernel
theorem dX10_enough_26 : decode cX10_enough 26 = .ok (.ifCond .ne 5, 3) := by decide +kernel
theorem dX10_enough_29 : decode cX10_enough 29 = .ok (.iconst (-1), 1) := by decide +kernel
theorem dX10_enough_30 : decode cX10_enough 30 = .ok (.ireturn, 1) := by decide +kernel
theorem dX10_enough_31 : decode cX10_enough 31 = .ok (.aload_n 0, 1) := by decide +kernel
theorem dX10_enough_32 : decode cX10_enough 32 = .ok (.getfield 26, 3) := by decide +kernel
theorem dX10_enough_35 : decode cX10_enough 35 = .ok (.aload_n 0, 1) := by decide +kernel
theorem dX10_enough_36 : decode cX10_enough 36 = .ok (.getfield 26, 3) := by decide +kernel
theorem dX10_enough_39 : decode cX10_enough 39 = .ok (.invokevirtual 273, 3) := by decide +kernel
theorem dX10_enough_42 : decode cX10_enough 42 = .ok (.invokevirtual 276, 3) := by decide +kernel
theorem dX10_enough_45 : decode cX10_enough 45 = .ok (.istore 4, 2) := by decide +kernel
theorem dX10_enough_47 : decode cX10_enough 47 = .ok (.iload 4, 2) := by decide +kernel
theorem dX10_enough_49 : decode cX10_enough 49 = .ok (.ifCond .ne 6, 3) := by decide +kernel
theorem dX10_enough_52 : decode cX10_enough 52 = .ok (.bipush (-4), 2) := by decide +kernel
theorem dX10_enough_54 : decode cX10_enough 54 = .ok (.ireturn, 1) := by decide +kernel
theorem dX10_enough_55 : decode cX10_enough 55 = .ok (.aload_n 0, 1) := by decide +kernel
theorem dX10_enough_56 : decode cX10_enough 56 = .ok (.aload_n 0, 1) := by decide +kernel
theorem dX10_enough_57 : decode cX10_enough 57 = .ok (.getfield 82, 3) := by decide +kernel
theorem dX10_enough_60 : decode cX10_enough 60 = .ok (.iconst 0, 1) := by decide +kernel
theorem dX10_enough_61 : decode cX10_enough 61 = .ok (.iconst 0, 1) := by decide +kernel
theorem dX10_enough_62 : decode cX10_enough 62 = .ok (.invokevirtual 235, 3) := by decide +kernel
theorem dX10_enough_65 : decode cX10_enough 65 = .ok (.iload 4, 2) := by decide +kernel
theorem dX10_enough_67 : decode cX10_enough 67 = .ok (.iload_n 1, 1) := by decide +kernel
theorem dX10_enough_68 : decode cX10_enough 68 = .ok (.iload_n 2, 1) := by decide +kernel
theorem dX10_enough_69 : decode cX10_enough 69 = .ok (.invokestatic 304, 3) := by decide +kernel
theorem dX10_enough_72 : decode cX10_enough 72 = .ok (.istore 5, 2) := by decide +kernel
theorem dX10_enough_74 : decode cX10_enough 74 = .ok (.aload_n 0, 1) := by decide +kernel
theorem dX10_enough_75 : decode cX10_enough 75 = .ok (.aload_n 0, 1) := by decide +kernel
theorem dX10_enough_76 : decode cX10_enough 76 = .ok (.getfield 26, 3) := by decide +kernel
theorem dX10_enough_79 : decode cX10_enough 79 = .ok (.getfield 125, 3) := by decide +kernel
theorem dX10_enough_82 : decode cX10_enough 82 = .ok (.iload 5, 2) := by decide +kernel
theorem dX10_enough_84 : decode cX10_enough 84 = .ok (.invokevirtual 307, 3) := by decide +kernel
theorem dX10_enough_87 : decode cX10_enough 87 = .ok (.istore 6, 2) := by decide +kernel
theorem dX10_enough_89 : decode cX10_enough 89 = .ok (.iload 6, 2) := by decide +kernel
theorem dX10_enough_91 : decode cX10_enough 91 = .ok (.ifCond .ge 6, 3) := by decide +kernel
theorem dX10_enough_94 : decode cX10_enough 94 = .ok (.bipush (-4), 2) := by decide +kernel
theorem dX10_enough_96 : decode cX10_enough 96 = .ok (.ireturn, 1) := by decide +kernel
theorem dX10_enough_97 : decode cX10_enough 97 = .ok (.iload_n 3, 1) := by decide +kernel
theorem dX10_enough_98 : decode cX10_enough 98 = .ok (.ifCond .ne 8, 3) := by decide +kernel
theorem dX10_enough_101 : decode cX10_enough 101 = .ok (.iload 6, 2) := by decide +kernel
theorem dX10_enough_103 : decode cX10_enough 103 = .ok (.goto 11, 3) := by decide +kernel
theorem dX10_enough_106 : decode cX10_enough 106 = .ok (.aload_n 0, 1) := by decide +kernel
theorem dX10_enough_107 : decode cX10_enough 107 = .ok (.iload 6, 2) := by decide +kernel
theorem dX10_enough_109 : decode cX10_enough 109 = .ok (.iload 5, 2) := by decide +kernel
theorem dX10_enough_111 : decode cX10_enough 111 = .ok (.invokevirtual 310, 3) := by decide +kernel
theorem dX10_enough_114 : decode cX10_enough 114 = .ok (.ireturn, 1) := by decide +kernel
theorem dX10_reading_0 : decode cX10_reading 0 = .ok (.iload_n 1, 1) := by decide +kernel
theorem dX10_reading_1 : decode cX10_reading 1 = .ok (.invokestatic 218, 3) := by decide +kernel
theorem dX10_reading_4 : decode cX10_reading 4 = .ok (.ifCond .eq 12, 3) := by decide +kernel
theorem dX10_reading_7 : decode cX10_reading 7 = .ok (.iload_n 2, 1) := by decide +kernel
theorem dX10_reading_8 : decode cX10_reading 8 = .ok (.iconst 0, 1) := by decide +kernel
theorem dX10_reading_9 : decode cX10_reading 9 = .ok (.iconst 1, 1) := by decide +kernel
theorem dX10_reading_10 : decode cX10_reading 10 = .ok (.invokestatic 108, 3) := by decide +kernel
theorem dX10_reading_13 : decode cX10_reading 13 = .ok (.ifCond .ne 7, 3) := by decide +kernel
theorem dX10_reading_16 : decode cX10_reading 16 = .ok (.ldc2_w 268, 3) := by decide +kernel
theorem dX10_reading_19 : decode cX10_reading 19 = .ok (.lreturn, 1) := by decide +kernel
theorem dX10_reading_20 : decode cX10_reading 20 = .ok (.aload_n 0, 1) := by decide +kernel
theorem dX10_reading_21 : decode cX10_reading 21 = .ok (.iload_n 1, 1) := by decide +kernel
theorem dX10_reading_22 : decode cX10_reading 22 = .ok (.iconst 0, 1) := by decide +kernel
theorem dX10_reading_23 : decode cX10_reading 23 = .ok (.invokevirtual 228, 3) := by decide +kernel
theorem dX10_reading_26 : decode cX10_reading 26 = .ok (.istore_n 3, 1) := by decide +kernel
theorem dX10_reading_27 : decode cX10_reading 27 = .ok (.iload_n 3, 1) := by decide +kernel
theorem dX10_reading_28 : decode cX10_reading 28 = .ok (.ifCond .ne 7, 3) := by decide +kernel
theorem dX10_reading_31 : decode cX10_reading 31 = .ok (.ldc2_w 279, 3) := by decide +kernel
theorem dX10_reading_34 : decode cX10_reading 34 = .ok (.lreturn, 1) := by decide +kernel
theorem dX10_reading_35 : decode cX10_reading 35 = .ok (.aload_n 0, 1) := by decide +kernel
theorem dX10_reading_36 : decode cX10_reading 36 = .ok (.iload_n 1, 1) := by decide +kernel
theorem dX10_reading_37 : decode cX10_reading 37 = .ok (.iconst 2, 1) := by decide +kernel
theorem dX10_reading_38 : decode cX10_reading 38 = .ok (.invokevirtual 228, 3) := by decide +kernel
theorem dX10_reading_41 : decode cX10_reading 41 = .ok (.istore 4, 2) := by decide +kernel
theorem dX10_reading_43 : decode cX10_reading 43 = .ok (.aload_n 0, 1) := by decide +kernel
theorem dX10_reading_44 : decode cX10_reading 44 = .ok (.getfield 88, 3) := by decide +kernel
theorem dX10_reading_47 : decode cX10_reading 47 = .ok (.lconst 0, 1) := by decide +kernel
theorem dX10_reading_48 : decode cX10_reading 48 = .ok (.lconst 1, 1) := by decide +kernel
theorem dX10_reading_49 : decode cX10_reading 49 = .ok (.invokevirtual 281, 3) := by decide +kernel
theorem dX10_reading_52 : decode cX10_reading 52 = .ok (.aload_n 0, 1) := by decide +kernel
theorem dX10_reading_53 : decode cX10_reading 53 = .ok (.getfield 88, 3) := by decide +kernel
theorem dX10_reading_56 : decode cX10_reading 56 = .ok (.iload 4, 2) := by decide +kernel
theorem dX10_reading_58 : decode cX10_reading 58 = .ok (.i2l, 1) := by decide +kernel
theorem dX10_reading_59 : decode cX10_reading 59 = .ok (.aload_n 0, 1) := by decide +kernel
theorem dX10_reading_60 : decode cX10_reading 60 = .ok (.getfield 26, 3) := by decide +kernel
theorem dX10_reading_63 : decode cX10_reading 63 = .ok (.getfield 146, 3) := by decide +kernel
theorem dX10_reading_66 : decode cX10_reading 66 = .ok (.iconst 0, 1) := by decide +kernel
theorem dX10_reading_67 : decode cX10_reading 67 = .ok (.iaload, 1) := by decide +kernel
theorem dX10_reading_68 : decode cX10_reading 68 = .ok (.i2l, 1) := by decide +kernel
theorem dX10_reading_69 : decode cX10_reading 69 = .ok (.lmul, 1) := by decide +kernel
theorem dX10_reading_70 : decode cX10_reading 70 = .ok (.iload_n 3, 1) := by decide +kernel
theorem dX10_reading_71 : decode cX10_reading 71 = .ok (.i2l, 1) := by decide +kernel
theorem dX10_reading_72 : decode cX10_reading 72 = .ok (.aload_n 0, 1) := by decide +kernel
theorem dX10_reading_73 : decode cX10_reading 73 = .ok (.getfield 26, 3) := by decide +kernel
theorem dX10_reading_76 : decode cX10_reading 76 = .ok (.getfield 146, 3) := by decide +kernel
theorem dX10_reading_79 : decode cX10_reading 79 = .ok (.iconst 1, 1) := by decide +kernel
theorem dX10_reading_80 : decode cX10_reading 80 = .ok (.iaload, 1) := by decide +kernel
theorem dX10_reading_81 : decode cX10_reading 81 = .ok (.i2l, 1) := by decide +kernel
theorem dX10_reading_82 : decode cX10_reading 82 = .ok (.lmul, 1) := by decide +kernel
theorem dX10_reading_83 : decode cX10_reading 83 = .ok (.invokevirtual 287, 3) := by decide +kernel
theorem dX10_reading_86 : decode cX10_reading 86 = .ok (.aload_n 0, 1) := by decide +kernel
theorem dX10_reading_87 : decode cX10_reading 87 = .ok (.getfield 88, 3) := by decide +kernel
theorem dX10_reading_90 : decode cX10_reading 90 = .ok (.iload_n 3, 1) := by decide +kernel
theorem dX10_reading_91 : decode cX10_reading 91 = .ok (.iload 4, 2) := by decide +kernel
theorem dX10_reading_93 : decode cX10_reading 93 = .ok (.isub, 1) := by decide +kernel
theorem dX10_reading_94 : decode cX10_reading 94 = .ok (.i2l, 1) := by decide +kernel
theorem dX10_reading_95 : decode cX10_reading 95 = .ok (.aload_n 0, 1) := by decide +kernel
theorem dX10_reading_96 : decode cX10_reading 96 = .ok (.getfield 26, 3) := by decide +kernel
theorem dX10_reading_99 : decode cX10_reading 99 = .ok (.getfield 146, 3) := by decide +kernel
theorem dX10_reading_102 : decode cX10_reading 102 = .ok (.iconst 2, 1) := by decide +kernel
theorem dX10_reading_103 : decode cX10_reading 103 = .ok (.iaload, 1) := by decide +kernel
theorem dX10_reading_104 : decode cX10_reading 104 = .ok (.i2l, 1) := by decide +kernel
theorem dX10_reading_105 : decode cX10_reading 105 = .ok (.lmul, 1) := by decide +kernel
theorem dX10_reading_106 : decode cX10_reading 106 = .ok (.iload_n 3, 1) := by decide +kernel
theorem dX10_reading_107 : decode cX10_reading 107 = .ok (.i2l, 1) := by decide +kernel
theorem dX10_reading_108 : decode cX10_reading 108 = .ok (.aload_n 0, 1) := by decide +kernel
theorem dX10_reading_109 : decode cX10_reading 109 = .ok (.getfield 26, 3) := by decide +kernel
theorem dX10_reading_112 : decode cX10_reading 112 = .ok (.getfield 146, 3) := by decide +kernel
theorem dX10_reading_115 : decode cX10_reading 115 = .ok (.iconst 3, 1) := by decide +kernel
theorem dX10_reading_116 : decode cX10_reading 116 = .ok (.iaload, 1) := by decide +kernel
theorem dX10_reading_117 : decode cX10_reading 117 = .ok (.i2l, 1) := by decide +kernel
theorem dX10_reading_118 : decode cX10_reading 118 = .ok (.lmul, 1) := by decide +kernel
theorem dX10_reading_119 : decode cX10_reading 119 = .ok (.invokevirtual 287, 3) := by decide +kernel
theorem dX10_reading_122 : decode cX10_reading 122 = .ok (.aload_n 0, 1) := by decide +kernel
theorem dX10_reading_123 : decode cX10_reading 123 = .ok (.getfield 88, 3) := by decide +kernel
theorem dX10_reading_126 : decode cX10_reading 126 = .ok (.iload_n 2, 1) := by decide +kernel
theorem dX10_reading_127 : decode cX10_reading 127 = .ok (.invokevirtual 297, 3) := by decide +kernel
theorem dX10_reading_130 : decode cX10_reading 130 = .ok (.lreturn, 1) := by decide +kernel
theorem dX10_unwed_0 : decode cX10_unwed 0 = .ok (.iload_n 1, 1) := by decide +kernel
theorem dX10_unwed_1 : decode cX10_unwed 1 = .ok (.invokestatic 218, 3) := by decide +kernel
theorem dX10_unwed_4 : decode cX10_unwed 4 = .ok (.ifCond .eq 12, 3) := by decide +kernel
theorem dX10_unwed_7 : decode cX10_unwed 7 = .ok (.iload_n 2, 1) := by decide +kernel
theorem dX10_unwed_8 : decode cX10_unwed 8 = .ok (.iconst 0, 1) := by decide +kernel
theorem dX10_unwed_9 : decode cX10_unwed 9 = .ok (.iconst 3, 1) := by decide +kernel
theorem dX10_unwed_10 : decode cX10_unwed 10 = .ok (.invokestatic 108, 3) := by decide +kernel
theorem dX10_unwed_13 : decode cX10_unwed 13 = .ok (.ifCond .ne 5, 3) := by decide +kernel
theorem dX10_unwed_16 : decode cX10_unwed 16 = .ok (.iconst (-1), 1) := by decide +kernel
theorem dX10_unwed_17 : decode cX10_unwed 17 = .ok (.ireturn, 1) := by decide +kernel
theorem dX10_unwed_18 : decode cX10_unwed 18 = .ok (.aload_n 0, 1) := by decide +kernel
theorem dX10_unwed_19 : decode cX10_unwed 19 = .ok (.iload_n 1, 1) := by decide +kernel
theorem dX10_unwed_20 : decode cX10_unwed 20 = .ok (.iconst 1, 1) := by decide +kernel
theorem dX10_unwed_21 : decode cX10_unwed 21 = .ok (.invokevirtual 228, 3) := by decide +kernel
theorem dX10_unwed_24 : decode cX10_unwed 24 = .ok (.istore_n 3, 1) := by decide +kernel
theorem dX10_unwed_25 : decode cX10_unwed 25 = .ok (.iload_n 2, 1) := by decide +kernel
theorem dX10_unwed_26 : decode cX10_unwed 26 = .ok (.iconst 2, 1) := by decide +kernel
theorem dX10_unwed_27 : decode cX10_unwed 27 = .ok (.if_icmp .ge 7, 3) := by decide +kernel
theorem dX10_unwed_30 : decode cX10_unwed 30 = .ok (.iload_n 3, 1) := by decide +kernel
theorem dX10_unwed_31 : decode cX10_unwed 31 = .ok (.goto 12, 3) := by decide +kernel
theorem dX10_unwed_34 : decode cX10_unwed 34 = .ok (.iload_n 3, 1) := by decide +kernel
theorem dX10_unwed_35 : decode cX10_unwed 35 = .ok (.aload_n 0, 1) := by decide +kernel
theorem dX10_unwed_36 : decode cX10_unwed 36 = .ok (.getfield 26, 3) := by decide +kernel
theorem dX10_unwed_39 : decode cX10_unwed 39 = .ok (.getfield 140, 3) := by decide +kernel
theorem dX10_unwed_42 : decode cX10_unwed 42 = .ok (.iadd, 1) := by decide +kernel
theorem dX10_unwed_43 : decode cX10_unwed 43 = .ok (.istore 4, 2) := by decide +kernel
theorem dX10_unwed_45 : decode cX10_unwed 45 = .ok (.aload_n 0, 1) := by decide +kernel
theorem dX10_unwed_46 : decode cX10_unwed 46 = .ok (.iload 4, 2) := by decide +kernel
theorem dX10_unwed_48 : decode cX10_unwed 48 = .ok (.aload_n 0, 1) := by decide +kernel
theorem dX10_unwed_49 : decode cX10_unwed 49 = .ok (.iload_n 1, 1) := by decide +kernel
theorem dX10_unwed_50 : decode cX10_unwed 50 = .ok (.iconst 0, 1) := by decide +kernel
theorem dX10_unwed_51 : decode cX10_unwed 51 = .ok (.invokevirtual 228, 3) := by decide +kernel
theorem dX10_unwed_54 : decode cX10_unwed 54 = .ok (.aload_n 0, 1) := by decide +kernel
theorem dX10_unwed_55 : decode cX10_unwed 55 = .ok (.getfield 26, 3) := by decide +kernel
theorem dX10_unwed_58 : decode cX10_unwed 58 = .ok (.getfield 140, 3) := by decide +kernel
theorem dX10_unwed_61 : decode cX10_unwed 61 = .ok (.iadd, 1) := by decide +kernel
theorem dX10_unwed_62 : decode cX10_unwed 62 = .ok (.iload_n 2, 1) := by decide +kernel
theorem dX10_unwed_63 : decode cX10_unwed 63 = .ok (.invokevirtual 231, 3) := by decide +kernel
theorem dX10_unwed_66 : decode cX10_unwed 66 = .ok (.ireturn, 1) := by decide +kernel
theorem dX10_parts_0 : decode cX10_parts 0 = .ok (.iload_n 1, 1) := by decide +kernel
theorem dX10_parts_1 : decode cX10_parts 1 = .ok (.iconst 0, 1) := by decide +kernel
theorem dX10_parts_2 : decode cX10_parts 2 = .ok (.iconst 3, 1) := by decide +kernel
theorem dX10_parts_3 : decode cX10_parts 3 = .ok (.invokestatic 108, 3) := by decide +kernel
theorem dX10_parts_6 : decode cX10_parts 6 = .ok (.ifCond .eq 12, 3) := by decide +kernel
theorem dX10_parts_9 : decode cX10_parts 9 = .ok (.iload_n 2, 1) := by decide +kernel
theorem dX10_parts_10 : decode cX10_parts 10 = .ok (.iconst 0, 1) := by decide +kernel
theorem dX10_parts_11 : decode cX10_parts 11 = .ok (.iconst 5, 1) := by decide +kernel
theorem dX10_parts_12 : decode cX10_parts 12 = .ok (.invokestatic 108, 3) := by decide +kernel
theorem dX10_parts_15 : decode cX10_parts 15 = .ok (.ifCond .ne 7, 3) := by decide +kernel
theorem dX10_parts_18 : decode cX10_parts 18 = .ok (.ldc2_w 268, 3) := by decide +kernel
theorem dX10_parts_21 : decode cX10_parts 21 = .ok (.lreturn, 1) := by decide +kernel
theorem dX10_parts_22 : decode cX10_parts 22 = .ok (.aload_n 0, 1) := by decide +kernel
theorem dX10_parts_23 : decode cX10_parts 23 = .ok (.aload_n 0, 1) := by decide +kernel
theorem dX10_parts_24 : decode cX10_parts 24 = .ok (.getfield 78, 3) := by decide +kernel
theorem dX10_parts_27 : decode cX10_parts 27 = .ok (.iconst 0, 1) := by decide +kernel
theorem dX10_parts_28 : decode cX10_parts 28 = .ok (.iload_n 1, 1) := by decide +kernel
theorem dX10_parts_29 : decode cX10_parts 29 = .ok (.invokevirtual 235, 3) := by decide +kernel
theorem dX10_parts_32 : decode cX10_parts 32 = .ok (.aload_n 0, 1) := by decide +kernel
theorem dX10_parts_33 : decode cX10_parts 33 = .ok (.aload_n 0, 1) := by decide +kernel
theorem dX10_parts_34 : decode cX10_parts 34 = .ok (.getfield 82, 3) := by decide +kernel
theorem dX10_parts_37 : decode cX10_parts 37 = .ok (.iconst 1, 1) := by decide +kernel
theorem dX10_parts_38 : decode cX10_parts 38 = .ok (.iload_n 1, 1) := by decide +kernel
theorem dX10_parts_39 : decode cX10_parts 39 = .ok (.invokevirtual 235, 3) := by decide +kernel
theorem dX10_parts_42 : decode cX10_parts 42 = .ok (.aload_n 0, 1) := by decide +kernel
theorem dX10_parts_43 : decode cX10_parts 43 = .ok (.getfield 78, 3) := by decide +kernel
theorem dX10_parts_46 : decode cX10_parts 46 = .ok (.getfield 313, 3) := by decide +kernel
theorem dX10_parts_49 : decode cX10_parts 49 = .ok (.ifCond .eq 13, 3) := by decide +kernel
theorem dX10_parts_52 : decode cX10_parts 52 = .ok (.aload_n 0, 1) := by decide +kernel
theorem dX10_parts_53 : decode cX10_parts 53 = .ok (.getfield 82, 3) := by decide +kernel
theorem dX10_parts_56 : decode cX10_parts 56 = .ok (.getfield 313, 3) := by decide +kernel
theorem dX10_parts_59 : decode cX10_parts 59 = .ok (.ifCond .ne 7, 3) := by decide +kernel
theorem dX10_parts_62 : decode cX10_parts 62 = .ok (.ldc2_w 279, 3) := by decide +kernel
theorem dX10_parts_65 : decode cX10_parts 65 = .ok (.lreturn, 1) := by decide +kernel
theorem dX10_parts_66 : decode cX10_parts 66 = .ok (.aload_n 0, 1) := by decide +kernel
theorem dX10_parts_67 : decode cX10_parts 67 = .ok (.getfield 88, 3) := by decide +kernel
theorem dX10_parts_70 : decode cX10_parts 70 = .ok (.lconst 0, 1) := by decide +kernel
theorem dX10_parts_71 : decode cX10_parts 71 = .ok (.lconst 1, 1) := by decide +kernel
theorem dX10_parts_72 : decode cX10_parts 72 = .ok (.invokevirtual 281, 3) := by decide +kernel
theorem dX10_parts_75 : decode cX10_parts 75 = .ok (.iconst 0, 1) := by decide +kernel
theorem dX10_parts_76 : decode cX10_parts 76 = .ok (.istore_n 3, 1) := by decide +kernel
theorem dX10_parts_77 : decode cX10_parts 77 = .ok (.iload_n 3, 1) := by decide +kernel
theorem dX10_parts_78 : decode cX10_parts 78 = .ok (.bipush 15, 2) := by decide +kernel
theorem dX10_parts_80 : decode cX10_parts 80 = .ok (.if_icmp .ge 34, 3) := by decide +kernel
theorem dX10_parts_83 : decode cX10_parts 83 = .ok (.iload_n 2, 1) := by decide +kernel
theorem dX10_parts_84 : decode cX10_parts 84 = .ok (.iconst 2, 1) := by decide +kernel
theorem dX10_parts_85 : decode cX10_parts 85 = .ok (.if_icmp .lt 8, 3) := by decide +kernel
theorem dX10_parts_88 : decode cX10_parts 88 = .ok (.iload_n 2, 1) := by decide +kernel
theorem dX10_parts_89 : decode cX10_parts 89 = .ok (.iconst 4, 1) := by decide +kernel
theorem dX10_parts_90 : decode cX10_parts 90 = .ok (.if_icmp .lt 8, 3) := by decide +kernel
theorem dX10_parts_93 : decode cX10_parts 93 = .ok (.aload_n 0, 1) := by decide +kernel
theorem dX10_parts_94 : decode cX10_parts 94 = .ok (.iload_n 3, 1) := by decide +kernel
theorem dX10_parts_95 : decode cX10_parts 95 = .ok (.invokevirtual 316, 3) := by decide +kernel
theorem dX10_parts_98 : decode cX10_parts 98 = .ok (.iload_n 2, 1) := by decide +kernel
theorem dX10_parts_99 : decode cX10_parts 99 = .ok (.iconst 2, 1) := by decide +kernel
theorem dX10_parts_100 : decode cX10_parts 100 = .ok (.if_icmp .lt 8, 3) := by decide +kernel
theorem dX10_parts_103 : decode cX10_parts 103 = .ok (.aload_n 0, 1) := by decide +kernel
theorem dX10_parts_104 : decode cX10_parts 104 = .ok (.iload_n 3, 1) := by decide +kernel
theorem dX10_parts_105 : decode cX10_parts 105 = .ok (.invokevirtual 319, 3) := by decide +kernel
theorem dX10_parts_108 : decode cX10_parts 108 = .ok (.iinc 3 1, 3) := by decide +kernel
theorem dX10_parts_111 : decode cX10_parts 111 = .ok (.goto (-34), 3) := by decide +kernel
theorem dX10_parts_114 : decode cX10_parts 114 = .ok (.aload_n 0, 1) := by decide +kernel
theorem dX10_parts_115 : decode cX10_parts 115 = .ok (.getfield 88, 3) := by decide +kernel
theorem dX10_parts_118 : decode cX10_parts 118 = .ok (.iload_n 2, 1) := by decide +kernel
theorem dX10_parts_119 : decode cX10_parts 119 = .ok (.invokevirtual 297, 3) := by decide +kernel
theorem dX10_parts_122 : decode cX10_parts 122 = .ok (.lreturn, 1) := by decide +kernel
theorem dX10_worth_0 : decode cX10_worth 0 = .ok (.iload_n 1, 1) := by decide +kernel
theorem dX10_worth_1 : decode cX10_worth 1 = .ok (.iconst 0, 1) := by decide +kernel
theorem dX10_worth_2 : decode cX10_worth 2 = .ok (.iconst 1, 1) := by decide +kernel
theorem dX10_worth_3 : decode cX10_worth 3 = .ok (.invokestatic 108, 3) := by decide +kernel
theorem dX10_worth_6 : decode cX10_worth 6 = .ok (.ifCond .eq 22, 3) := by decide +kernel
theorem dX10_worth_9 : decode cX10_worth 9 = .ok (.iload_n 2, 1) := by decide +kernel
theorem dX10_worth_10 : decode cX10_worth 10 = .ok (.iconst 0, 1) := by decide +kernel
theorem dX10_worth_11 : decode cX10_worth 11 = .ok (.bipush 89, 2) := by decide +kernel
theorem dX10_worth_13 : decode cX10_worth 13 = .ok (.invokestatic 108, 3) := by decide +kernel
theorem dX10_worth_16 : decode cX10_worth 16 = .ok (.ifCond .eq 12, 3) := by decide +kernel
theorem dX10_worth_19 : decode cX10_worth 19 = .ok (.iload_n 3, 1) := by decide +kernel
theorem dX10_worth_20 : decode cX10_worth 20 = .ok (.iconst 0, 1) := by decide +kernel
theorem dX10_worth_21 : decode cX10_worth 21 = .ok (.iconst 1, 1) := by decide +kernel
theorem dX10_worth_22 : decode cX10_worth 22 = .ok (.invokestatic 108, 3) := by decide +kernel
theorem dX10_worth_25 : decode cX10_worth 25 = .ok (.ifCond .ne 7, 3) := by decide +kernel
theorem dX10_worth_28 : decode cX10_worth 28 = .ok (.ldc_w 322, 3) := by decide +kernel
theorem dX10_worth_31 : decode cX10_worth 31 = .ok (.ireturn, 1) := by decide +kernel
theorem dX10_worth_32 : decode cX10_worth 32 = .ok (.aload_n 0, 1) := by decide +kernel
theorem dX10_worth_33 : decode cX10_worth 33 = .ok (.iload_n 1, 1) := by decide +kernel
theorem dX10_worth_34 : decode cX10_worth 34 = .ok (.iload_n 2, 1) := by decide +kernel
theorem dX10_worth_35 : decode cX10_worth 35 = .ok (.invokevirtual 323, 3) := by decide +kernel
theorem dX10_worth_38 : decode cX10_worth 38 = .ok (.iconst 0, 1) := by decide +kernel
theorem dX10_worth_39 : decode cX10_worth 39 = .ok (.istore 4, 2) := by decide +kernel
theorem dX10_worth_41 : decode cX10_worth 41 = .ok (.iload 4, 2) := by decide +kernel
theorem dX10_worth_43 : decode cX10_worth 43 = .ok (.iconst 4, 1) := by decide +kernel
theorem dX10_worth_44 : decode cX10_worth 44 = .ok (.if_icmp .ge 26, 3) := by decide +kernel
theorem dX10_worth_47 : decode cX10_worth 47 = .ok (.aload_n 0, 1) := by decide +kernel
theorem dX10_worth_48 : decode cX10_worth 48 = .ok (.getfield 82, 3) := by decide +kernel
theorem dX10_worth_51 : decode cX10_worth 51 = .ok (.getfield 242, 3) := by decide +kernel
theorem dX10_worth_54 : decode cX10_worth 54 = .ok (.iload 4, 2) := by decide +kernel
theorem dX10_worth_56 : decode cX10_worth 56 = .ok (.iaload, 1) := by decide +kernel
theorem dX10_worth_57 : decode cX10_worth 57 = .ok (.ifCond .ne 7, 3) := by decide +kernel
theorem dX10_worth_60 : decode cX10_worth 60 = .ok (.ldc_w 327, 3) := by decide +kernel
theorem dX10_worth_63 : decode cX10_worth 63 = .ok (.ireturn, 1) := by decide +kernel
theorem dX10_worth_64 : decode cX10_worth 64 = .ok (.iinc 4 1, 3) := by decide +kernel
theorem dX10_worth_67 : decode cX10_worth 67 = .ok (.goto (-26), 3) := by decide +kernel
theorem dX10_worth_70 : decode cX10_worth 70 = .ok (.aload_n 0, 1) := by decide +kernel
theorem dX10_worth_71 : decode cX10_worth 71 = .ok (.getfield 88, 3) := by decide +kernel
theorem dX10_worth_74 : decode cX10_worth 74 = .ok (.aload_n 0, 1) := by decide +kernel
theorem dX10_worth_75 : decode cX10_worth 75 = .ok (.getfield 82, 3) := by decide +kernel
theorem dX10_worth_78 : decode cX10_worth 78 = .ok (.getfield 244, 3) := by decide +kernel
theorem dX10_worth_81 : decode cX10_worth 81 = .ok (.iconst 3, 1) := by decide +kernel
theorem dX10_worth_82 : decode cX10_worth 82 = .ok (.iaload, 1) := by decide +kernel
theorem dX10_worth_83 : decode cX10_worth 83 = .ok (.i2l, 1) := by decide +kernel
theorem dX10_worth_84 : decode cX10_worth 84 = .ok (.aload_n 0, 1) := by decide +kernel
theorem dX10_worth_85 : decode cX10_worth 85 = .ok (.getfield 82, 3) := by decide +kernel
theorem dX10_worth_88 : decode cX10_worth 88 = .ok (.getfield 242, 3) := by decide +kernel
theorem dX10_worth_91 : decode cX10_worth 91 = .ok (.iconst 3, 1) := by decide +kernel
theorem dX10_worth_92 : decode cX10_worth 92 = .ok (.iaload, 1) := by decide +kernel
theorem dX10_worth_93 : decode cX10_worth 93 = .ok (.i2l, 1) := by decide +kernel
theorem dX10_worth_94 : decode cX10_worth 94 = .ok (.invokevirtual 281, 3) := by decide +kernel
theorem dX10_worth_97 : decode cX10_worth 97 = .ok (.aload_n 0, 1) := by decide +kernel
theorem dX10_worth_98 : decode cX10_worth 98 = .ok (.getfield 88, 3) := by decide +kernel
theorem dX10_worth_101 : decode cX10_worth 101 = .ok (.aload_n 0, 1) := by decide +kernel
theorem dX10_worth_102 : decode cX10_worth 102 = .ok (.getfield 82, 3) := by decide +kernel
theorem dX10_worth_105 : decode cX10_worth 105 = .ok (.getfield 244, 3) := by decide +kernel
theorem dX10_worth_108 : decode cX10_worth 108 = .ok (.iconst 2, 1) := by decide +kernel
theorem dX10_worth_109 : decode cX10_worth 109 = .ok (.iaload, 1) := by decide +kernel
theorem dX10_worth_110 : decode cX10_worth 110 = .ok (.ineg, 1) := by decide +kernel
theorem dX10_worth_111 : decode cX10_worth 111 = .ok (.i2l, 1) := by decide +kernel
theorem dX10_worth_112 : decode cX10_worth 112 = .ok (.aload_n 0, 1) := by decide +kernel
theorem dX10_worth_113 : decode cX10_worth 113 = .ok (.getfield 82, 3) := by decide +kernel
theorem dX10_worth_116 : decode cX10_worth 116 = .ok (.getfield 242, 3) := by decide +kernel
theorem dX10_worth_119 : decode cX10_worth 119 = .ok (.iconst 2, 1) := by decide +kernel
theorem dX10_worth_120 : decode cX10_worth 120 = .ok (.iaload, 1) := by decide +kernel
theorem dX10_worth_121 : decode cX10_worth 121 = .ok (.i2l, 1) := by decide +kernel
theorem dX10_worth_122 : decode cX10_worth 122 = .ok (.invokevirtual 287, 3) := by decide +kernel
theorem dX10_worth_125 : decode cX10_worth 125 = .ok (.aload_n 0, 1) := by decide +kernel
theorem dX10_worth_126 : decode cX10_worth 126 = .ok (.getfield 88, 3) := by decide +kernel
theorem dX10_worth_129 : decode cX10_worth 129 = .ok (.aload_n 0, 1) := by decide +kernel
theorem dX10_worth_130 : decode cX10_worth 130 = .ok (.getfield 82, 3) := by decide +kernel
theorem dX10_worth_133 : decode cX10_worth 133 = .ok (.getfield 244, 3) := by decide +kernel
theorem dX10_worth_136 : decode cX10_worth 136 = .ok (.iconst 1, 1) := by decide +kernel
theorem dX10_worth_137 : decode cX10_worth 137 = .ok (.iaload, 1) := by decide +kernel
theorem dX10_worth_138 : decode cX10_worth 138 = .ok (.ineg, 1) := by decide +kernel
theorem dX10_worth_139 : decode cX10_worth 139 = .ok (.i2l, 1) := by decide +kernel
theorem dX10_worth_140 : decode cX10_worth 140 = .ok (.aload_n 0, 1) := by decide +kernel
theorem dX10_worth_141 : decode cX10_worth 141 = .ok (.getfield 82, 3) := by decide +kernel
theorem dX10_worth_144 : decode cX10_worth 144 = .ok (.getfield 242, 3) := by decide +kernel
theorem dX10_worth_147 : decode cX10_worth 147 = .ok (.iconst 1, 1) := by decide +kernel
theorem dX10_worth_148 : decode cX10_worth 148 = .ok (.iaload, 1) := by decide +kernel
theorem dX10_worth_149 : decode cX10_worth 149 = .ok (.i2l, 1) := by decide +kernel
theorem dX10_worth_150 : decode cX10_worth 150 = .ok (.invokevirtual 287, 3) := by decide +kernel
theorem dX10_worth_153 : decode cX10_worth 153 = .ok (.aload_n 0, 1) := by decide +kernel
theorem dX10_worth_154 : decode cX10_worth 154 = .ok (.getfield 88, 3) := by decide +kernel
theorem dX10_worth_157 : decode cX10_worth 157 = .ok (.aload_n 0, 1) := by decide +kernel
theorem dX10_worth_158 : decode cX10_worth 158 = .ok (.getfield 82, 3) := by decide +kernel
theorem dX10_worth_161 : decode cX10_worth 161 = .ok (.getfield 244, 3) := by decide +kernel
theorem dX10_worth_164 : decode cX10_worth 164 = .ok (.iconst 0, 1) := by decide +kernel
theorem dX10_worth_165 : decode cX10_worth 165 = .ok (.iaload, 1) := by decide +kernel
theorem dX10_worth_166 : decode cX10_worth 166 = .ok (.i2l, 1) := by decide +kernel
theorem dX10_worth_167 : decode cX10_worth 167 = .ok (.aload_n 0, 1) := by decide +kernel
theorem dX10_worth_168 : decode cX10_worth 168 = .ok (.getfield 82, 3) := by decide +kernel
theorem dX10_worth_171 : decode cX10_worth 171 = .ok (.getfield 242, 3) := by decide +kernel
theorem dX10_worth_174 : decode cX10_worth 174 = .ok (.iconst 0, 1) := by decide +kernel
theorem dX10_worth_175 : decode cX10_worth 175 = .ok (.iaload, 1) := by decide +kernel
theorem dX10_worth_176 : decode cX10_worth 176 = .ok (.i2l, 1) := by decide +kernel
theorem dX10_worth_177 : decode cX10_worth 177 = .ok (.invokevirtual 287, 3) := by decide +kernel
theorem dX10_worth_180 : decode cX10_worth 180 = .ok (.aload_n 0, 1) := by decide +kernel
theorem dX10_worth_181 : decode cX10_worth 181 = .ok (.getfield 88, 3) := by decide +kernel
theorem dX10_worth_184 : decode cX10_worth 184 = .ok (.iload_n 3, 1) := by decide +kernel
theorem dX10_worth_185 : decode cX10_worth 185 = .ok (.invokevirtual 297, 3) := by decide +kernel
theorem dX10_worth_188 : decode cX10_worth 188 = .ok (.l2i, 1) := by decide +kernel
theorem dX10_worth_189 : decode cX10_worth 189 = .ok (.ireturn, 1) := by decide +kernel
theorem dX10_person_0 : decode cX10_person 0 = .ok (.iload_n 1, 1) := by decide +kernel
theorem dX10_person_1 : decode cX10_person 1 = .ok (.iconst 1, 1) := by decide +kernel
theorem dX10_person_2 : decode cX10_person 2 = .ok (.bipush 99, 2) := by decide +kernel
theorem dX10_person_4 : decode cX10_person 4 = .ok (.invokestatic 108, 3) := by decide +kernel
theorem dX10_person_7 : decode cX10_person 7 = .ok (.ifCond .eq 12, 3) := by decide +kernel
theorem dX10_person_10 : decode cX10_person 10 = .ok (.iload_n 2, 1) := by decide +kernel
theorem dX10_person_11 : decode cX10_person 11 = .ok (.iconst 0, 1) := by decide +kernel
theorem dX10_person_12 : decode cX10_person 12 = .ok (.iconst 4, 1) := by decide +kernel
theorem dX10_person_13 : decode cX10_person 13 = .ok (.invokestatic 108, 3) := by decide +kernel
theorem dX10_person_16 : decode cX10_person 16 = .ok (.ifCond .ne 5, 3) := by decide +kernel
theorem dX10_person_19 : decode cX10_person 19 = .ok (.iconst (-1), 1) := by decide +kernel
theorem dX10_person_20 : decode cX10_person 20 = .ok (.ireturn, 1) := by decide +kernel
theorem dX10_person_21 : decode cX10_person 21 = .ok (.aload_n 0, 1) := by decide +kernel
theorem dX10_person_22 : decode cX10_person 22 = .ok (.getfield 40, 3) := by decide +kernel
theorem dX10_person_25 : decode cX10_person 25 = .ok (.iload_n 1, 1) := by decide +kernel
theorem dX10_person_26 : decode cX10_person 26 = .ok (.iconst 1, 1) := by decide +kernel
theorem dX10_person_27 : decode cX10_person 27 = .ok (.invokevirtual 328, 3) := by decide +kernel
theorem dX10_person_30 : decode cX10_person 30 = .ok (.istore_n 3, 1) := by decide +kernel
theorem dX10_person_31 : decode cX10_person 31 = .ok (.iload_n 2, 1) := by decide +kernel
theorem dX10_person_32 : decode cX10_person 32 = .ok (.tableswitch 82 0 3 #[32, 44, 46, 64], 32) := by decide +kernel
theorem dX10_person_64 : decode cX10_person 64 = .ok (.iload_n 3, 1) := by decide +kernel
theorem dX10_person_65 : decode cX10_person 65 = .ok (.aload_n 0, 1) := by decide +kernel
theorem dX10_person_66 : decode cX10_person 66 = .ok (.getfield 40, 3) := by decide +kernel
theorem dX10_person_69 : decode cX10_person 69 = .ok (.iload_n 1, 1) := by decide +kernel
theorem dX10_person_70 : decode cX10_person 70 = .ok (.iconst 0, 1) := by decide +kernel
theorem dX10_person_71 : decode cX10_person 71 = .ok (.invokevirtual 328, 3) := by decide +kernel
theorem dX10_person_74 : decode cX10_person 74 = .ok (.iadd, 1) := by decide +kernel
theorem dX10_person_75 : decode cX10_person 75 = .ok (.ireturn, 1) := by decide +kernel
theorem dX10_person_76 : decode cX10_person 76 = .ok (.iload_n 3, 1) := by decide +kernel
theorem dX10_person_77 : decode cX10_person 77 = .ok (.ireturn, 1) := by decide +kernel
theorem dX10_person_78 : decode cX10_person 78 = .ok (.aload_n 0, 1) := by decide +kernel
theorem dX10_person_79 : decode cX10_person 79 = .ok (.getfield 40, 3) := by decide +kernel
theorem dX10_person_82 : decode cX10_person 82 = .ok (.iload_n 1, 1) := by decide +kernel
theorem dX10_person_83 : decode cX10_person 83 = .ok (.iconst 0, 1) := by decide +kernel
theorem dX10_person_84 : decode cX10_person 84 = .ok (.invokevirtual 331, 3) := by decide +kernel
theorem dX10_person_87 : decode cX10_person 87 = .ok (.ifCond .eq 7, 3) := by decide +kernel
theorem dX10_person_90 : decode cX10_person 90 = .ok (.iconst 1, 1) := by decide +kernel
theorem dX10_person_91 : decode cX10_person 91 = .ok (.goto 4, 3) := by decide +kernel
theorem dX10_person_94 : decode cX10_person 94 = .ok (.iconst 0, 1) := by decide +kernel
theorem dX10_person_95 : decode cX10_person 95 = .ok (.ireturn, 1) := by decide +kernel
theorem dX10_person_96 : decode cX10_person 96 = .ok (.aload_n 0, 1) := by decide +kernel
theorem dX10_person_97 : decode cX10_person 97 = .ok (.getfield 40, 3) := by decide +kernel
theorem dX10_person_100 : decode cX10_person 100 = .ok (.iload_n 1, 1) := by decide +kernel
theorem dX10_person_101 : decode cX10_person 101 = .ok (.iconst 1, 1) := by decide +kernel
theorem dX10_person_102 : decode cX10_person 102 = .ok (.invokevirtual 331, 3) := by decide +kernel
theorem dX10_person_105 : decode cX10_person 105 = .ok (.ifCond .eq 7, 3) := by decide +kernel
theorem dX10_person_108 : decode cX10_person 108 = .ok (.iconst 1, 1) := by decide +kernel
theorem dX10_person_109 : decode cX10_person 109 = .ok (.goto 4, 3) := by decide +kernel
theorem dX10_person_112 : decode cX10_person 112 = .ok (.iconst 0, 1) := by decide +kernel
theorem dX10_person_113 : decode cX10_person 113 = .ok (.ireturn, 1) := by decide +kernel
theorem dX10_person_114 : decode cX10_person 114 = .ok (.iload_n 3, 1) := by decide +kernel
theorem dX10_person_115 : decode cX10_person 115 = .ok (.iconst 2, 1) := by decide +kernel
theorem dX10_person_116 : decode cX10_person 116 = .ok (.if_icmp .ge 8, 3) := by decide +kernel
theorem dX10_person_119 : decode cX10_person 119 = .ok (.bipush (-4), 2) := by decide +kernel
theorem dX10_person_121 : decode cX10_person 121 = .ok (.goto 11, 3) := by decide +kernel
theorem dX10_person_124 : decode cX10_person 124 = .ok (.aload_n 0, 1) := by decide +kernel
theorem dX10_person_125 : decode cX10_person 125 = .ok (.getfield 40, 3) := by decide +kernel
theorem dX10_person_128 : decode cX10_person 128 = .ok (.iload_n 1, 1) := by decide +kernel
theorem dX10_person_129 : decode cX10_person 129 = .ok (.invokevirtual 334, 3) := by decide +kernel
theorem dX10_person_132 : decode cX10_person 132 = .ok (.ireturn, 1) := by decide +kernel
theorem dX10_twice_0 : decode cX10_twice 0 = .ok (.iload_n 1, 1) := by decide +kernel
theorem dX10_twice_1 : decode cX10_twice 1 = .ok (.iconst 0, 1) := by decide +kernel
theorem dX10_twice_2 : decode cX10_twice 2 = .ok (.iconst 2, 1) := by decide +kernel
theorem dX10_twice_3 : decode cX10_twice 3 = .ok (.invokestatic 108, 3) := by decide +kernel
theorem dX10_twice_6 : decode cX10_twice 6 = .ok (.ifCond .ne 5, 3) := by decide +kernel
theorem dX10_twice_9 : decode cX10_twice 9 = .ok (.iconst (-1), 1) := by decide +kernel
theorem dX10_twice_10 : decode cX10_twice 10 = .ok (.ireturn, 1) := by decide +kernel
theorem dX10_twice_11 : decode cX10_twice 11 = .ok (.aload_n 0, 1) := by decide +kernel
theorem dX10_twice_12 : decode cX10_twice 12 = .ok (.invokevirtual 337, 3) := by decide +kernel
theorem dX10_twice_15 : decode cX10_twice 15 = .ok (.iconst 0, 1) := by decide +kernel
theorem dX10_twice_16 : decode cX10_twice 16 = .ok (.istore_n 2, 1) := by decide +kernel
theorem dX10_twice_17 : decode cX10_twice 17 = .ok (.iconst 1, 1) := by decide +kernel
theorem dX10_twice_18 : decode cX10_twice 18 = .ok (.istore_n 3, 1) := by decide +kernel
theorem dX10_twice_19 : decode cX10_twice 19 = .ok (.iload_n 3, 1) := by decide +kernel
theorem dX10_twice_20 : decode cX10_twice 20 = .ok (.bipush 99, 2) := by decide +kernel
theorem dX10_twice_22 : decode cX10_twice 22 = .ok (.if_icmp .gt 63, 3) := by decide +kernel
theorem dX10_twice_25 : decode cX10_twice 25 = .ok (.aload_n 0, 1) := by decide +kernel
theorem dX10_twice_26 : decode cX10_twice 26 = .ok (.getfield 98, 3) := by decide +kernel
theorem dX10_twice_29 : decode cX10_twice 29 = .ok (.iconst 0, 1) := by decide +kernel
theorem dX10_twice_30 : decode cX10_twice 30 = .ok (.aaload, 1) := by decide +kernel
theorem dX10_twice_31 : decode cX10_twice 31 = .ok (.iload_n 3, 1) := by decide +kernel
theorem dX10_twice_32 : decode cX10_twice 32 = .ok (.iaload, 1) := by decide +kernel
theorem dX10_twice_33 : decode cX10_twice 33 = .ok (.istore 4, 2) := by decide +kernel
theorem dX10_twice_35 : decode cX10_twice 35 = .ok (.aload_n 0, 1) := by decide +kernel
theorem dX10_twice_36 : decode cX10_twice 36 = .ok (.getfield 98, 3) := by decide +kernel
theorem dX10_twice_39 : decode cX10_twice 39 = .ok (.iconst 1, 1) := by decide +kernel
theorem dX10_twice_40 : decode cX10_twice 40 = .ok (.aaload, 1) := by decide +kernel
theorem dX10_twice_41 : decode cX10_twice 41 = .ok (.iload_n 3, 1) := by decide +kernel
theorem dX10_twice_42 : decode cX10_twice 42 = .ok (.iaload, 1) := by decide +kernel
theorem dX10_twice_43 : decode cX10_twice 43 = .ok (.istore 5, 2) := by decide +kernel
theorem dX10_twice_45 : decode cX10_twice 45 = .ok (.iload 4, 2) := by decide +kernel
theorem dX10_twice_47 : decode cX10_twice 47 = .ok (.iload 5, 2) := by decide +kernel
theorem dX10_twice_49 : decode cX10_twice 49 = .ok (.iadd, 1) := by decide +kernel
theorem dX10_twice_50 : decode cX10_twice 50 = .ok (.iconst 2, 1) := by decide +kernel
theorem dX10_twice_51 : decode cX10_twice 51 = .ok (.if_icmp .lt 28, 3) := by decide +kernel
theorem dX10_twice_54 : decode cX10_twice 54 = .ok (.iload_n 1, 1) := by decide +kernel
theorem dX10_twice_55 : decode cX10_twice 55 = .ok (.iconst 2, 1) := by decide +kernel
theorem dX10_twice_56 : decode cX10_twice 56 = .ok (.if_icmp .ne 13, 3) := by decide +kernel
theorem dX10_twice_59 : decode cX10_twice 59 = .ok (.iload 4, 2) := by decide +kernel
theorem dX10_twice_61 : decode cX10_twice 61 = .ok (.ifCond .le 18, 3) := by decide +kernel
theorem dX10_twice_64 : decode cX10_twice 64 = .ok (.iload 5, 2) := by decide +kernel
theorem dX10_twice_66 : decode cX10_twice 66 = .ok (.ifCond .le 13, 3) := by decide +kernel
theorem dX10_twice_69 : decode cX10_twice 69 = .ok (.iload_n 1, 1) := by decide +kernel
theorem dX10_twice_70 : decode cX10_twice 70 = .ok (.iconst 1, 1) := by decide +kernel
theorem dX10_twice_71 : decode cX10_twice 71 = .ok (.if_icmp .ne 5, 3) := by decide +kernel
theorem dX10_twice_74 : decode cX10_twice 74 = .ok (.iload_n 3, 1) := by decide +kernel
theorem dX10_twice_75 : decode cX10_twice 75 = .ok (.ireturn, 1) := by decide +kernel
theorem dX10_twice_76 : decode cX10_twice 76 = .ok (.iinc 2 1, 3) := by decide +kernel
theorem dX10_twice_79 : decode cX10_twice 79 = .ok (.iinc 3 1, 3) := by decide +kernel
theorem dX10_twice_82 : decode cX10_twice 82 = .ok (.goto (-63), 3) := by decide +kernel
theorem dX10_twice_85 : decode cX10_twice 85 = .ok (.iload_n 1, 1) := by decide +kernel
theorem dX10_twice_86 : decode cX10_twice 86 = .ok (.iconst 1, 1) := by decide +kernel
theorem dX10_twice_87 : decode cX10_twice 87 = .ok (.if_icmp .ne 8, 3) := by decide +kernel
theorem dX10_twice_90 : decode cX10_twice 90 = .ok (.bipush (-4), 2) := by decide +kernel
theorem dX10_twice_92 : decode cX10_twice 92 = .ok (.goto 4, 3) := by decide +kernel
theorem dX10_twice_95 : decode cX10_twice 95 = .ok (.iload_n 2, 1) := by decide +kernel
theorem dX10_twice_96 : decode cX10_twice 96 = .ok (.ireturn, 1) := by decide +kernel
theorem dX10_find_0 : decode cX10_find 0 = .ok (.aload_n 0, 1) := by decide +kernel
theorem dX10_find_1 : decode cX10_find 1 = .ok (.iload_n 1, 1) := by decide +kernel
theorem dX10_find_2 : decode cX10_find 2 = .ok (.invokevirtual 149, 3) := by decide +kernel
theorem dX10_find_5 : decode cX10_find 5 = .ok (.ifCond .eq 21, 3) := by decide +kernel
theorem dX10_find_8 : decode cX10_find 8 = .ok (.iload_n 2, 1) := by decide +kernel
theorem dX10_find_9 : decode cX10_find 9 = .ok (.iconst 0, 1) := by decide +kernel
theorem dX10_find_10 : decode cX10_find 10 = .ok (.iconst 4, 1) := by decide +kernel
theorem dX10_find_11 : decode cX10_find 11 = .ok (.invokestatic 108, 3) := by decide +kernel
theorem dX10_find_14 : decode cX10_find 14 = .ok (.ifCond .eq 12, 3) := by decide +kernel
theorem dX10_find_17 : decode cX10_find 17 = .ok (.iload_n 3, 1) := by decide +kernel
theorem dX10_find_18 : decode cX10_find 18 = .ok (.iconst 0, 1) := by decide +kernel
theorem dX10_find_19 : decode cX10_find 19 = .ok (.iconst 1, 1) := by decide +kernel
theorem dX10_find_20 : decode cX10_find 20 = .ok (.invokestatic 108, 3) := by decide +kernel
theorem dX10_find_23 : decode cX10_find 23 = .ok (.ifCond .ne 5, 3) := by decide +kernel
theorem dX10_find_26 : decode cX10_find 26 = .ok (.iconst (-1), 1) := by decide +kernel
theorem dX10_find_27 : decode cX10_find 27 = .ok (.ireturn, 1) := by decide +kernel
theorem dX10_find_28 : decode cX10_find 28 = .ok (.aload_n 0, 1) := by decide +kernel
theorem dX10_find_29 : decode cX10_find 29 = .ok (.iload_n 1, 1) := by decide +kernel
theorem dX10_find_30 : decode cX10_find 30 = .ok (.invokevirtual 340, 3) := by decide +kernel
theorem dX10_find_33 : decode cX10_find 33 = .ok (.istore 4, 2) := by decide +kernel
theorem dX10_find_35 : decode cX10_find 35 = .ok (.iload 4, 2) := by decide +kernel
theorem dX10_find_37 : decode cX10_find 37 = .ok (.ifCond .ne 6, 3) := by decide +kernel
theorem dX10_find_40 : decode cX10_find 40 = .ok (.bipush (-4), 2) := by decide +kernel
theorem dX10_find_42 : decode cX10_find 42 = .ok (.ireturn, 1) := by decide +kernel
theorem dX10_find_43 : decode cX10_find 43 = .ok (.iconst 0, 1) := by decide +kernel
theorem dX10_find_44 : decode cX10_find 44 = .ok (.istore 5, 2) := by decide +kernel
theorem dX10_find_46 : decode cX10_find 46 = .ok (.iconst 0, 1) := by decide +kernel
theorem dX10_find_47 : decode cX10_find 47 = .ok (.istore 6, 2) := by decide +kernel
theorem dX10_find_49 : decode cX10_find 49 = .ok (.iconst 0, 1) := by decide +kernel
theorem dX10_find_50 : decode cX10_find 50 = .ok (.istore 7, 2) := by decide +kernel
theorem dX10_find_52 : decode cX10_find 52 = .ok (.iload 7, 2) := by decide +kernel
theorem dX10_find_54 : decode cX10_find 54 = .ok (.sipush 255, 3) := by decide +kernel
theorem dX10_find_57 : decode cX10_find 57 = .ok (.if_icmp .gt 35, 3) := by decide +kernel
theorem dX10_find_60 : decode cX10_find 60 = .ok (.aload_n 0, 1) := by decide +kernel
theorem dX10_find_61 : decode cX10_find 61 = .ok (.iload 7, 2) := by decide +kernel
theorem dX10_find_63 : decode cX10_find 63 = .ok (.iload_n 2, 1) := by decide +kernel
theorem dX10_find_64 : decode cX10_find 64 = .ok (.iload 4, 2) := by decide +kernel
theorem dX10_find_66 : decode cX10_find 66 = .ok (.invokevirtual 343, 3) := by decide +kernel
theorem dX10_find_69 : decode cX10_find 69 = .ok (.istore 8, 2) := by decide +kernel
theorem dX10_find_71 : decode cX10_find 71 = .ok (.iload 8, 2) := by decide +kernel
theorem dX10_find_73 : decode cX10_find 73 = .ok (.iload 6, 2) := by decide +kernel
theorem dX10_find_75 : decode cX10_find 75 = .ok (.if_icmp .le 11, 3) := by decide +kernel
theorem dX10_find_78 : decode cX10_find 78 = .ok (.iload 7, 2) := by decide +kernel
theorem dX10_find_80 : decode cX10_find 80 = .ok (.istore 5, 2) := by decide +kernel
theorem dX10_find_82 : decode cX10_find 82 = .ok (.iload 8, 2) := by decide +kernel
theorem dX10_find_84 : decode cX10_find 84 = .ok (.istore 6, 2) := by decide +kernel
theorem dX10_find_86 : decode cX10_find 86 = .ok (.iinc 7 1, 3) := by decide +kernel
theorem dX10_find_89 : decode cX10_find 89 = .ok (.goto (-37), 3) := by decide +kernel
theorem dX10_find_92 : decode cX10_find 92 = .ok (.iload_n 3, 1) := by decide +kernel
theorem dX10_find_93 : decode cX10_find 93 = .ok (.ifCond .ne 8, 3) := by decide +kernel
theorem dX10_find_96 : decode cX10_find 96 = .ok (.iload 5, 2) := by decide +kernel
theorem dX10_find_98 : decode cX10_find 98 = .ok (.goto 5, 3) := by decide +kernel
theorem dX10_find_101 : decode cX10_find 101 = .ok (.iload 6, 2) := by decide +kernel
theorem dX10_find_103 : decode cX10_find 103 = .ok (.ireturn, 1) := by decide +kernel
theorem dX10_keep_0 : decode cX10_keep 0 = .ok (.iload_n 1, 1) := by decide +kernel
theorem dX10_keep_1 : decode cX10_keep 1 = .ok (.iconst 0, 1) := by decide +kernel
theorem dX10_keep_2 : decode cX10_keep 2 = .ok (.iconst 1, 1) := by decide +kernel
theorem dX10_keep_3 : decode cX10_keep 3 = .ok (.invokestatic 108, 3) := by decide +kernel
theorem dX10_keep_6 : decode cX10_keep 6 = .ok (.ifCond .ne 5, 3) := by decide +kernel
theorem dX10_keep_9 : decode cX10_keep 9 = .ok (.iconst (-1), 1) := by decide +kernel
theorem dX10_keep_10 : decode cX10_keep 10 = .ok (.ireturn, 1) := by decide +kernel
theorem dX10_keep_11 : decode cX10_keep 11 = .ok (.aload_n 0, 1) := by decide +kernel
theorem dX10_keep_12 : decode cX10_keep 12 = .ok (.getfield 61, 3) := by decide +kernel
theorem dX10_keep_15 : decode cX10_keep 15 = .ok (.iload_n 1, 1) := by decide +kernel
theorem dX10_keep_16 : decode cX10_keep 16 = .ok (.aaload, 1) := by decide +kernel
theorem dX10_keep_17 : decode cX10_keep 17 = .ok (.astore_n 2, 1) := by decide +kernel
theorem dX10_keep_18 : decode cX10_keep 18 = .ok (.aload_n 2, 1) := by decide +kernel
theorem dX10_keep_19 : decode cX10_keep 19 = .ok (.getfield 346, 3) := by decide +kernel
theorem dX10_keep_22 : decode cX10_keep 22 = .ok (.ifCond .eq 7, 3) := by decide +kernel
theorem dX10_keep_25 : decode cX10_keep 25 = .ok (.iconst 1, 1) := by decide +kernel
theorem dX10_keep_26 : decode cX10_keep 26 = .ok (.goto 4, 3) := by decide +kernel
theorem dX10_keep_29 : decode cX10_keep 29 = .ok (.iconst 0, 1) := by decide +kernel
theorem dX10_keep_30 : decode cX10_keep 30 = .ok (.istore_n 3, 1) := by decide +kernel
theorem dX10_keep_31 : decode cX10_keep 31 = .ok (.aload_n 2, 1) := by decide +kernel
theorem dX10_keep_32 : decode cX10_keep 32 = .ok (.iconst 1, 1) := by decide +kernel
theorem dX10_keep_33 : decode cX10_keep 33 = .ok (.putfield 346, 3) := by decide +kernel
theorem dX10_keep_36 : decode cX10_keep 36 = .ok (.aload_n 2, 1) := by decide +kernel
theorem dX10_keep_37 : decode cX10_keep 37 = .ok (.getfield 349, 3) := by decide +kernel
theorem dX10_keep_40 : decode cX10_keep 40 = .ok (.aload_n 0, 1) := by decide +kernel
theorem dX10_keep_41 : decode cX10_keep 41 = .ok (.getfield 40, 3) := by decide +kernel
theorem dX10_keep_44 : decode cX10_keep 44 = .ok (.invokevirtual 350, 3) := by decide +kernel
theorem dX10_keep_47 : decode cX10_keep 47 = .ok (.aload_n 2, 1) := by decide +kernel
theorem dX10_keep_48 : decode cX10_keep 48 = .ok (.getfield 354, 3) := by decide +kernel
theorem dX10_keep_51 : decode cX10_keep 51 = .ok (.aload_n 0, 1) := by decide +kernel
theorem dX10_keep_52 : decode cX10_keep 52 = .ok (.getfield 54, 3) := by decide +kernel
theorem dX10_keep_55 : decode cX10_keep 55 = .ok (.iconst 0, 1) := by decide +kernel
theorem dX10_keep_56 : decode cX10_keep 56 = .ok (.aaload, 1) := by decide +kernel
theorem dX10_keep_57 : decode cX10_keep 57 = .ok (.invokevirtual 358, 3) := by decide +kernel
theorem dX10_keep_60 : decode cX10_keep 60 = .ok (.aload_n 2, 1) := by decide +kernel
theorem dX10_keep_61 : decode cX10_keep 61 = .ok (.getfield 361, 3) := by decide +kernel
theorem dX10_keep_64 : decode cX10_keep 64 = .ok (.aload_n 0, 1) := by decide +kernel
theorem dX10_keep_65 : decode cX10_keep 65 = .ok (.getfield 54, 3) := by decide +kernel
theorem dX10_keep_68 : decode cX10_keep 68 = .ok (.iconst 1, 1) := by decide +kernel
theorem dX10_keep_69 : decode cX10_keep 69 = .ok (.aaload, 1) := by decide +kernel
theorem dX10_keep_70 : decode cX10_keep 70 = .ok (.invokevirtual 358, 3) := by decide +kernel
theorem dX10_keep_73 : decode cX10_keep 73 = .ok (.iload_n 3, 1) := by decide +kernel
theorem dX10_keep_74 : decode cX10_keep 74 = .ok (.ireturn, 1) := by decide +kernel
theorem dX10_back_0 : decode cX10_back 0 = .ok (.iload_n 1, 1) := by decide +kernel
theorem dX10_back_1 : decode cX10_back 1 = .ok (.iconst 0, 1) := by decide +kernel
theorem dX10_back_2 : decode cX10_back 2 = .ok (.iconst 1, 1) := by decide +kernel
theorem dX10_back_3 : decode cX10_back 3 = .ok (.invokestatic 108, 3) := by decide +kernel
theorem dX10_back_6 : decode cX10_back 6 = .ok (.ifCond .ne 5, 3) := by decide +kernel
theorem dX10_back_9 : decode cX10_back 9 = .ok (.iconst (-1), 1) := by decide +kernel
theorem dX10_back_10 : decode cX10_back 10 = .ok (.ireturn, 1) := by decide +kernel
theorem dX10_back_11 : decode cX10_back 11 = .ok (.aload_n 0, 1) := by decide +kernel
theorem dX10_back_12 : decode cX10_back 12 = .ok (.getfield 61, 3) := by decide +kernel
theorem dX10_back_15 : decode cX10_back 15 = .ok (.iload_n 1, 1) := by decide +kernel
theorem dX10_back_16 : decode cX10_back 16 = .ok (.aaload, 1) := by decide +kernel
theorem dX10_back_17 : decode cX10_back 17 = .ok (.astore_n 2, 1) := by decide +kernel
theorem dX10_back_18 : decode cX10_back 18 = .ok (.aload_n 2, 1) := by decide +kernel
theorem dX10_back_19 : decode cX10_back 19 = .ok (.getfield 346, 3) := by decide +kernel
theorem dX10_back_22 : decode cX10_back 22 = .ok (.ifCond .eq 20, 3) := by decide +kernel
theorem dX10_back_25 : decode cX10_back 25 = .ok (.aload_n 2, 1) := by decide +kernel
theorem dX10_back_26 : decode cX10_back 26 = .ok (.getfield 349, 3) := by decide +kernel
theorem dX10_back_29 : decode cX10_back 29 = .ok (.aload_n 0, 1) := by decide +kernel
theorem dX10_back_30 : decode cX10_back 30 = .ok (.getfield 26, 3) := by decide +kernel
theorem dX10_back_33 : decode cX10_back 33 = .ok (.getfield 125, 3) := by decide +kernel
theorem dX10_back_36 : decode cX10_back 36 = .ok (.invokevirtual 364, 3) := by decide +kernel
theorem dX10_back_39 : decode cX10_back 39 = .ok (.ifCond .ne 6, 3) := by decide +kernel
theorem dX10_back_42 : decode cX10_back 42 = .ok (.bipush (-2), 2) := by decide +kernel
theorem dX10_back_44 : decode cX10_back 44 = .ok (.ireturn, 1) := by decide +kernel
theorem dX10_back_45 : decode cX10_back 45 = .ok (.aload_n 0, 1) := by decide +kernel
theorem dX10_back_46 : decode cX10_back 46 = .ok (.getfield 40, 3) := by decide +kernel
theorem dX10_back_49 : decode cX10_back 49 = .ok (.aload_n 2, 1) := by decide +kernel
theorem dX10_back_50 : decode cX10_back 50 = .ok (.getfield 349, 3) := by decide +kernel
theorem dX10_back_53 : decode cX10_back 53 = .ok (.invokevirtual 350, 3) := by decide +kernel
theorem dX10_back_56 : decode cX10_back 56 = .ok (.aload_n 0, 1) := by decide +kernel
theorem dX10_back_57 : decode cX10_back 57 = .ok (.getfield 54, 3) := by decide +kernel
theorem dX10_back_60 : decode cX10_back 60 = .ok (.iconst 0, 1) := by decide +kernel
theorem dX10_back_61 : decode cX10_back 61 = .ok (.aaload, 1) := by decide +kernel
theorem dX10_back_62 : decode cX10_back 62 = .ok (.aload_n 2, 1) := by decide +kernel
theorem dX10_back_63 : decode cX10_back 63 = .ok (.getfield 354, 3) := by decide +kernel
theorem dX10_back_66 : decode cX10_back 66 = .ok (.invokevirtual 358, 3) := by decide +kernel
theorem dX10_back_69 : decode cX10_back 69 = .ok (.aload_n 0, 1) := by decide +kernel
theorem dX10_back_70 : decode cX10_back 70 = .ok (.getfield 54, 3) := by decide +kernel
theorem dX10_back_73 : decode cX10_back 73 = .ok (.iconst 1, 1) := by decide +kernel
theorem dX10_back_74 : decode cX10_back 74 = .ok (.aaload, 1) := by decide +kernel
theorem dX10_back_75 : decode cX10_back 75 = .ok (.aload_n 2, 1) := by decide +kernel
theorem dX10_back_76 : decode cX10_back 76 = .ok (.getfield 361, 3) := by decide +kernel
theorem dX10_back_79 : decode cX10_back 79 = .ok (.invokevirtual 358, 3) := by decide +kernel
theorem dX10_back_82 : decode cX10_back 82 = .ok (.aload_n 0, 1) := by decide +kernel
theorem dX10_back_83 : decode cX10_back 83 = .ok (.getfield 54, 3) := by decide +kernel
theorem dX10_back_86 : decode cX10_back 86 = .ok (.iconst 0, 1) := by decide +kernel
theorem dX10_back_87 : decode cX10_back 87 = .ok (.aaload, 1) := by decide +kernel
theorem dX10_back_88 : decode cX10_back 88 = .ok (.dup, 1) := by decide +kernel
theorem dX10_back_89 : decode cX10_back 89 = .ok (.getfield 367, 3) := by decide +kernel
theorem dX10_back_92 : decode cX10_back 92 = .ok (.aload_n 0, 1) := by decide +kernel
theorem dX10_back_93 : decode cX10_back 93 = .ok (.getfield 26, 3) := by decide +kernel
theorem dX10_back_96 : decode cX10_back 96 = .ok (.invokevirtual 273, 3) := by decide +kernel
theorem dX10_back_99 : decode cX10_back 99 = .ok (.iand, 1) := by decide +kernel
theorem dX10_back_100 : decode cX10_back 100 = .ok (.putfield 367, 3) := by decide +kernel
theorem dX10_back_103 : decode cX10_back 103 = .ok (.aload_n 0, 1) := by decide +kernel
theorem dX10_back_104 : decode cX10_back 104 = .ok (.getfield 54, 3) := by decide +kernel
theorem dX10_back_107 : decode cX10_back 107 = .ok (.iconst 1, 1) := by decide +kernel
theorem dX10_back_108 : decode cX10_back 108 = .ok (.aaload, 1) := by decide +kernel
theorem dX10_back_109 : decode cX10_back 109 = .ok (.dup, 1) := by decide +kernel
theorem dX10_back_110 : decode cX10_back 110 = .ok (.getfield 367, 3) := by decide +kernel
theorem dX10_back_113 : decode cX10_back 113 = .ok (.aload_n 0, 1) := by decide +kernel
theorem dX10_back_114 : decode cX10_back 114 = .ok (.getfield 26, 3) := by decide +kernel
theorem dX10_back_117 : decode cX10_back 117 = .ok (.invokevirtual 273, 3) := by decide +kernel
theorem dX10_back_120 : decode cX10_back 120 = .ok (.iand, 1) := by decide +kernel
theorem dX10_back_121 : decode cX10_back 121 = .ok (.putfield 367, 3) := by decide +kernel
theorem dX10_back_124 : decode cX10_back 124 = .ok (.aload_n 0, 1) := by decide +kernel
theorem dX10_back_125 : decode cX10_back 125 = .ok (.getfield 47, 3) := by decide +kernel
theorem dX10_back_128 : decode cX10_back 128 = .ok (.iconst 1, 1) := by decide +kernel
theorem dX10_back_129 : decode cX10_back 129 = .ok (.putfield 182, 3) := by decide +kernel
theorem dX10_back_132 : decode cX10_back 132 = .ok (.aload_n 0, 1) := by decide +kernel
theorem dX10_back_133 : decode cX10_back 133 = .ok (.getfield 40, 3) := by decide +kernel
theorem dX10_back_136 : decode cX10_back 136 = .ok (.getfield 179, 3) := by decide +kernel
theorem dX10_back_139 : decode cX10_back 139 = .ok (.ireturn, 1) := by decide +kernel
theorem dX10_sheet_0 : decode cX10_sheet 0 = .ok (.iload_n 1, 1) := by decide +kernel
theorem dX10_sheet_1 : decode cX10_sheet 1 = .ok (.invokestatic 368, 3) := by decide +kernel
theorem dX10_sheet_4 : decode cX10_sheet 4 = .ok (.ifCond .eq 16, 3) := by decide +kernel
theorem dX10_sheet_7 : decode cX10_sheet 7 = .ok (.iload_n 2, 1) := by decide +kernel
theorem dX10_sheet_8 : decode cX10_sheet 8 = .ok (.invokestatic 371, 3) := by decide +kernel
theorem dX10_sheet_11 : decode cX10_sheet 11 = .ok (.ifCond .eq 9, 3) := by decide +kernel
theorem dX10_sheet_14 : decode cX10_sheet 14 = .ok (.iload_n 3, 1) := by decide +kernel
theorem dX10_sheet_15 : decode cX10_sheet 15 = .ok (.bipush 60, 2) := by decide +kernel
theorem dX10_sheet_17 : decode cX10_sheet 17 = .ok (.if_icmp .le 5, 3) := by decide +kernel
theorem dX10_sheet_20 : decode cX10_sheet 20 = .ok (.iconst (-1), 1) := by decide +kernel
theorem dX10_sheet_21 : decode cX10_sheet 21 = .ok (.ireturn, 1) := by decide +kernel
theorem dX10_sheet_22 : decode cX10_sheet 22 = .ok (.iload_n 3, 1) := by decide +kernel
theorem dX10_sheet_23 : decode cX10_sheet 23 = .ok (.ifCond .ge 6, 3) := by decide +kernel
theorem dX10_sheet_26 : decode cX10_sheet 26 = .ok (.bipush (-14), 2) := by decide +kernel
theorem dX10_sheet_28 : decode cX10_sheet 28 = .ok (.ireturn, 1) := by decide +kernel
theorem dX10_sheet_29 : decode cX10_sheet 29 = .ok (.aload_n 0, 1) := by decide +kernel
theorem dX10_sheet_30 : decode cX10_sheet 30 = .ok (.getfield 68, 3) := by decide +kernel
theorem dX10_sheet_33 : decode cX10_sheet 33 = .ok (.iload_n 1, 1) := by decide +kernel
theorem dX10_sheet_34 : decode cX10_sheet 34 = .ok (.aaload, 1) := by decide +kernel
theorem dX10_sheet_35 : decode cX10_sheet 35 = .ok (.iload_n 2, 1) := by decide +kernel
theorem dX10_sheet_36 : decode cX10_sheet 36 = .ok (.iload_n 3, 1) := by decide +kernel
theorem dX10_sheet_37 : decode cX10_sheet 37 = .ok (.invokevirtual 374, 3) := by decide +kernel
theorem dX10_sheet_40 : decode cX10_sheet 40 = .ok (.iconst 1, 1) := by decide +kernel
theorem dX10_sheet_41 : decode cX10_sheet 41 = .ok (.ireturn, 1) := by decide +kernel
theorem dX10_lay_0 : decode cX10_lay 0 = .ok (.iload_n 1, 1) := by decide +kernel
theorem dX10_lay_1 : decode cX10_lay 1 = .ok (.invokestatic 368, 3) := by decide +kernel
theorem dX10_lay_4 : decode cX10_lay 4 = .ok (.ifCond .ne 5, 3) := by decide +kernel
theorem dX10_lay_7 : decode cX10_lay 7 = .ok (.iconst (-1), 1) := by decide +kernel
theorem dX10_lay_8 : decode cX10_lay 8 = .ok (.ireturn, 1) := by decide +kernel
theorem dX10_lay_9 : decode cX10_lay 9 = .ok (.aload_n 0, 1) := by decide +kernel
theorem dX10_lay_10 : decode cX10_lay 10 = .ok (.getfield 68, 3) := by decide +kernel
theorem dX10_lay_13 : decode cX10_lay 13 = .ok (.iload_n 1, 1) := by decide +kernel
theorem dX10_lay_14 : decode cX10_lay 14 = .ok (.aaload, 1) := by decide +kernel
theorem dX10_lay_15 : decode cX10_lay 15 = .ok (.astore 4, 2) := by decide +kernel
theorem dX10_lay_17 : decode cX10_lay 17 = .ok (.aload 4, 2) := by decide +kernel
theorem dX10_lay_19 : decode cX10_lay 19 = .ok (.getfield 377, 3) := by decide +kernel
theorem dX10_lay_22 : decode cX10_lay 22 = .ok (.ifCond .ge 6, 3) := by decide +kernel
theorem dX10_lay_25 : decode cX10_lay 25 = .ok (.bipush (-11), 2) := by decide +kernel
theorem dX10_lay_27 : decode cX10_lay 27 = .ok (.ireturn, 1) := by decide +kernel
theorem dX10_lay_28 : decode cX10_lay 28 = .ok (.iload_n 2, 1) := by decide +kernel
theorem dX10_lay_29 : decode cX10_lay 29 = .ok (.iconst 0, 1) := by decide +kernel
theorem dX10_lay_30 : decode cX10_lay 30 = .ok (.aload 4, 2) := by decide +kernel
theorem dX10_lay_32 : decode cX10_lay 32 = .ok (.getfield 377, 3) := by decide +kernel
theorem dX10_lay_35 : decode cX10_lay 35 = .ok (.iconst 1, 1) := by decide +kernel
theorem dX10_lay_36 : decode cX10_lay 36 = .ok (.isub, 1) := by decide +kernel
theorem dX10_lay_37 : decode cX10_lay 37 = .ok (.invokestatic 108, 3) := by decide +kernel
theorem dX10_lay_40 : decode cX10_lay 40 = .ok (.ifCond .ne 6, 3) := by decide +kernel
theorem dX10_lay_43 : decode cX10_lay 43 = .ok (.bipush (-12), 2) := by decide +kernel
theorem dX10_lay_45 : decode cX10_lay 45 = .ok (.ireturn, 1) := by decide +kernel
theorem dX10_lay_46 : decode cX10_lay 46 = .ok (.aload 4, 2) := by decide +kernel
theorem dX10_lay_48 : decode cX10_lay 48 = .ok (.iload_n 2, 1) := by decide +kernel
theorem dX10_lay_49 : decode cX10_lay 49 = .ok (.iload_n 3, 1) := by decide +kernel
theorem dX10_lay_50 : decode cX10_lay 50 = .ok (.invokevirtual 378, 3) := by decide +kernel
theorem dX10_lay_53 : decode cX10_lay 53 = .ok (.iconst 1, 1) := by decide +kernel
theorem dX10_lay_54 : decode cX10_lay 54 = .ok (.ireturn, 1) := by decide +kernel
theorem dX10_read_0 : decode cX10_read 0 = .ok (.iload_n 1, 1) := by decide +kernel
theorem dX10_read_1 : decode cX10_read 1 = .ok (.invokestatic 368, 3) := by decide +kernel
theorem dX10_read_4 : decode cX10_read 4 = .ok (.ifCond .eq 21, 3) := by decide +kernel
theorem dX10_read_7 : decode cX10_read 7 = .ok (.iload_n 2, 1) := by decide +kernel
theorem dX10_read_8 : decode cX10_read 8 = .ok (.invokestatic 371, 3) := by decide +kernel
theorem dX10_read_11 : decode cX10_read 11 = .ok (.ifCond .eq 14, 3) := by decide +kernel
theorem dX10_read_14 : decode cX10_read 14 = .ok (.iload 4, 2) := by decide +kernel
theorem dX10_read_16 : decode cX10_read 16 = .ok (.iconst 0, 1) := by decide +kernel
theorem dX10_read_17 : decode cX10_read 17 = .ok (.bipush 12, 2) := by decide +kernel
theorem dX10_read_19 : decode cX10_read 19 = .ok (.invokestatic 108, 3) := by decide +kernel
theorem dX10_read_22 : decode cX10_read 22 = .ok (.ifCond .ne 5, 3) := by decide +kernel
theorem dX10_read_25 : decode cX10_read 25 = .ok (.iconst (-1), 1) := by decide +kernel
theorem dX10_read_26 : decode cX10_read 26 = .ok (.ireturn, 1) := by decide +kernel
theorem dX10_read_27 : decode cX10_read 27 = .ok (.aload_n 0, 1) := by decide +kernel
theorem dX10_read_28 : decode cX10_read 28 = .ok (.getfield 68, 3) := by decide +kernel
theorem dX10_read_31 : decode cX10_read 31 = .ok (.iload_n 1, 1) := by decide +kernel
theorem dX10_read_32 : decode cX10_read 32 = .ok (.aaload, 1) := by decide +kernel
theorem dX10_read_33 : decode cX10_read 33 = .ok (.astore 5, 2) := by decide +kernel
theorem dX10_read_35 : decode cX10_read 35 = .ok (.iload 4, 2) := by decide +kernel
theorem dX10_read_37 : decode cX10_read 37 = .ok (.ifCond .ne 7, 3) := by decide +kernel
theorem dX10_read_40 : decode cX10_read 40 = .ok (.iconst 0, 1) := by decide +kernel
theorem dX10_read_41 : decode cX10_read 41 = .ok (.goto 9, 3) := by decide +kernel
theorem dX10_read_44 : decode cX10_read 44 = .ok (.aload 5, 2) := by decide +kernel
theorem dX10_read_46 : decode cX10_read 46 = .ok (.iload_n 2, 1) := by decide +kernel
theorem dX10_read_47 : decode cX10_read 47 = .ok (.invokevirtual 381, 3) := by decide +kernel
theorem dX10_read_50 : decode cX10_read 50 = .ok (.istore 6, 2) := by decide +kernel
theorem dX10_read_52 : decode cX10_read 52 = .ok (.iload 4, 2) := by decide +kernel
theorem dX10_read_54 : decode cX10_read 54 = .ok (.ifCond .eq 8, 3) := by decide +kernel
theorem dX10_read_57 : decode cX10_read 57 = .ok (.iload 6, 2) := by decide +kernel
theorem dX10_read_59 : decode cX10_read 59 = .ok (.ifCond .eq 7, 3) := by decide +kernel
theorem dX10_read_62 : decode cX10_read 62 = .ok (.iconst 0, 1) := by decide +kernel
theorem dX10_read_63 : decode cX10_read 63 = .ok (.goto 11, 3) := by decide +kernel
theorem dX10_read_66 : decode cX10_read 66 = .ok (.aload 5, 2) := by decide +kernel
theorem dX10_read_68 : decode cX10_read 68 = .ok (.iload_n 3, 1) := by decide +kernel
theorem dX10_read_69 : decode cX10_read 69 = .ok (.iload 4, 2) := by decide +kernel
theorem dX10_read_71 : decode cX10_read 71 = .ok (.invokevirtual 384, 3) := by decide +kernel
theorem dX10_read_74 : decode cX10_read 74 = .ok (.istore 7, 2) := by decide +kernel
theorem dX10_read_76 : decode cX10_read 76 = .ok (.iload 6, 2) := by decide +kernel
theorem dX10_read_78 : decode cX10_read 78 = .ok (.ifCond .ne 13, 3) := by decide +kernel
theorem dX10_read_81 : decode cX10_read 81 = .ok (.iload 7, 2) := by decide +kernel
theorem dX10_read_83 : decode cX10_read 83 = .ok (.iload 4, 2) := by decide +kernel
theorem dX10_read_85 : decode cX10_read 85 = .ok (.if_icmp .ge 6, 3) := by decide +kernel
theorem dX10_read_88 : decode cX10_read 88 = .ok (.iconst 2, 1) := by decide +kernel
theorem dX10_read_89 : decode cX10_read 89 = .ok (.istore 6, 2) := by decide +kernel
theorem dX10_read_91 : decode cX10_read 91 = .ok (.aload_n 0, 1) := by decide +kernel
theorem dX10_read_92 : decode cX10_read 92 = .ok (.aload 5, 2) := by decide +kernel
theorem dX10_read_94 : decode cX10_read 94 = .ok (.iload_n 3, 1) := by decide +kernel
theorem dX10_read_95 : decode cX10_read 95 = .ok (.iload 7, 2) := by decide +kernel
theorem dX10_read_97 : decode cX10_read 97 = .ok (.invokevirtual 387, 3) := by decide +kernel
theorem dX10_read_100 : decode cX10_read 100 = .ok (.istore 8, 2) := by decide +kernel
theorem dX10_read_102 : decode cX10_read 102 = .ok (.iload 8, 2) := by decide +kernel
theorem dX10_read_104 : decode cX10_read 104 = .ok (.ifCond .eq 6, 3) := by decide +kernel
theorem dX10_read_107 : decode cX10_read 107 = .ok (.iload 8, 2) := by decide +kernel
theorem dX10_read_109 : decode cX10_read 109 = .ok (.ireturn, 1) := by decide +kernel
theorem dX10_read_110 : decode cX10_read 110 = .ok (.aload_n 0, 1) := by decide +kernel
theorem dX10_read_111 : decode cX10_read 111 = .ok (.aload 5, 2) := by decide +kernel
theorem dX10_read_113 : decode cX10_read 113 = .ok (.iload_n 3, 1) := by decide +kernel
theorem dX10_read_114 : decode cX10_read 114 = .ok (.iload 7, 2) := by decide +kernel
theorem dX10_read_116 : decode cX10_read 116 = .ok (.invokevirtual 391, 3) := by decide +kernel
theorem dX10_read_119 : decode cX10_read 119 = .ok (.aload_n 0, 1) := by decide +kernel
theorem dX10_read_120 : decode cX10_read 120 = .ok (.iload 6, 2) := by decide +kernel
theorem dX10_read_122 : decode cX10_read 122 = .ok (.putfield 72, 3) := by decide +kernel
theorem dX10_read_125 : decode cX10_read 125 = .ok (.iload 7, 2) := by decide +kernel
theorem dX10_read_127 : decode cX10_read 127 = .ok (.ireturn, 1) := by decide +kernel
theorem dX10_torn_0 : decode cX10_torn 0 = .ok (.aload_n 0, 1) := by decide +kernel
theorem dX10_torn_1 : decode cX10_torn 1 = .ok (.getfield 72, 3) := by decide +kernel
theorem dX10_torn_4 : decode cX10_torn 4 = .ok (.ireturn, 1) := by decide +kernel
theorem dX10_count_0 : decode cX10_count 0 = .ok (.iload_n 1, 1) := by decide +kernel
theorem dX10_count_1 : decode cX10_count 1 = .ok (.tableswitch 122 0 4 #[35, 43, 51, 78, 114], 35) := by decide +kernel
theorem dX10_count_36 : decode cX10_count 36 = .ok (.aload_n 0, 1) := by decide +kernel
theorem dX10_count_37 : decode cX10_count 37 = .ok (.getfield 40, 3) := by decide +kernel
theorem dX10_count_40 : decode cX10_count 40 = .ok (.getfield 179, 3) := by decide +kernel
theorem dX10_count_43 : decode cX10_count 43 = .ok (.ireturn, 1) := by decide +kernel
theorem dX10_count_44 : decode cX10_count 44 = .ok (.aload_n 0, 1) := by decide +kernel
theorem dX10_count_45 : decode cX10_count 45 = .ok (.getfield 10, 3) := by decide +kernel
theorem dX10_count_48 : decode cX10_count 48 = .ok (.getfield 105, 3) := by decide +kernel
theorem dX10_count_51 : decode cX10_count 51 = .ok (.ireturn, 1) := by decide +kernel
theorem dX10_count_52 : decode cX10_count 52 = .ok (.aload_n 0, 1) := by decide +kernel
theorem dX10_count_53 : decode cX10_count 53 = .ok (.getfield 68, 3) := by decide +kernel
theorem dX10_count_56 : decode cX10_count 56 = .ok (.iconst 0, 1) := by decide +kernel
theorem dX10_count_57 : decode cX10_count 57 = .ok (.aaload, 1) := by decide +kernel
theorem dX10_count_58 : decode cX10_count 58 = .ok (.getfield 377, 3) := by decide +kernel
theorem dX10_count_61 : decode cX10_count 61 = .ok (.ifCond .ge 8, 3) := by decide +kernel
theorem dX10_count_64 : decode cX10_count 64 = .ok (.bipush (-4), 2) := by decide +kernel
theorem dX10_count_66 : decode cX10_count 66 = .ok (.goto 12, 3) := by decide +kernel
theorem dX10_count_69 : decode cX10_count 69 = .ok (.aload_n 0, 1) := by decide +kernel
theorem dX10_count_70 : decode cX10_count 70 = .ok (.getfield 68, 3) := by decide +kernel
theorem dX10_count_73 : decode cX10_count 73 = .ok (.iconst 0, 1) := by decide +kernel
theorem dX10_count_74 : decode cX10_count 74 = .ok (.aaload, 1) := by decide +kernel
theorem dX10_count_75 : decode cX10_count 75 = .ok (.getfield 377, 3) := by decide +kernel
theorem dX10_count_78 : decode cX10_count 78 = .ok (.ireturn, 1) := by decide +kernel
theorem dX10_count_79 : decode cX10_count 79 = .ok (.aload_n 0, 1) := by decide +kernel
theorem dX10_count_80 : decode cX10_count 80 = .ok (.getfield 61, 3) := by decide +kernel
theorem dX10_count_83 : decode cX10_count 83 = .ok (.iconst 0, 1) := by decide +kernel
theorem dX10_count_84 : decode cX10_count 84 = .ok (.aaload, 1) := by decide +kernel
theorem dX10_count_85 : decode cX10_count 85 = .ok (.getfield 346, 3) := by decide +kernel
theorem dX10_count_88 : decode cX10_count 88 = .ok (.ifCond .eq 7, 3) := by decide +kernel
theorem dX10_count_91 : decode cX10_count 91 = .ok (.iconst 1, 1) := by decide +kernel
theorem dX10_count_92 : decode cX10_count 92 = .ok (.goto 4, 3) := by decide +kernel
theorem dX10_count_95 : decode cX10_count 95 = .ok (.iconst 0, 1) := by decide +kernel
theorem dX10_count_96 : decode cX10_count 96 = .ok (.aload_n 0, 1) := by decide +kernel
theorem dX10_count_97 : decode cX10_count 97 = .ok (.getfield 61, 3) := by decide +kernel
theorem dX10_count_100 : decode cX10_count 100 = .ok (.iconst 1, 1) := by decide +kernel
theorem dX10_count_101 : decode cX10_count 101 = .ok (.aaload, 1) := by decide +kernel
theorem dX10_count_102 : decode cX10_count 102 = .ok (.getfield 346, 3) := by decide +kernel
theorem dX10_count_105 : decode cX10_count 105 = .ok (.ifCond .eq 7, 3) := by decide +kernel
theorem dX10_count_108 : decode cX10_count 108 = .ok (.iconst 1, 1) := by decide +kernel
theorem dX10_count_109 : decode cX10_count 109 = .ok (.goto 4, 3) := by decide +kernel
theorem dX10_count_112 : decode cX10_count 112 = .ok (.iconst 0, 1) := by decide +kernel
theorem dX10_count_113 : decode cX10_count 113 = .ok (.iadd, 1) := by decide +kernel
theorem dX10_count_114 : decode cX10_count 114 = .ok (.ireturn, 1) := by decide +kernel
theorem dX10_count_115 : decode cX10_count 115 = .ok (.aload_n 0, 1) := by decide +kernel
theorem dX10_count_116 : decode cX10_count 116 = .ok (.getfield 26, 3) := by decide +kernel
theorem dX10_count_119 : decode cX10_count 119 = .ok (.invokevirtual 395, 3) := by decide +kernel
theorem dX10_count_122 : decode cX10_count 122 = .ok (.ireturn, 1) := by decide +kernel
theorem dX10_count_123 : decode cX10_count 123 = .ok (.iconst (-1), 1) := by decide +kernel
theorem dX10_count_124 : decode cX10_count 124 = .ok (.ireturn, 1) := by decide +kernel
theorem dX10_within_0 : decode cX10_within 0 = .ok (.iload_n 0, 1) := by decide +kernel
theorem dX10_within_1 : decode cX10_within 1 = .ok (.iload_n 1, 1) := by decide +kernel
theorem dX10_within_2 : decode cX10_within 2 = .ok (.if_icmp .lt 12, 3) := by decide +kernel
theorem dX10_within_5 : decode cX10_within 5 = .ok (.iload_n 0, 1) := by decide +kernel
theorem dX10_within_6 : decode cX10_within 6 = .ok (.iload_n 2, 1) := by decide +kernel
theorem dX10_within_7 : decode cX10_within 7 = .ok (.if_icmp .gt 7, 3) := by decide +kernel
theorem dX10_within_10 : decode cX10_within 10 = .ok (.iconst 1, 1) := by decide +kernel
theorem dX10_within_11 : decode cX10_within 11 = .ok (.goto 4, 3) := by decide +kernel
theorem dX10_within_14 : decode cX10_within 14 = .ok (.iconst 0, 1) := by decide +kernel
theorem dX10_within_15 : decode cX10_within 15 = .ok (.ireturn, 1) := by decide +kernel
theorem dX10_hasBit_0 : decode cX10_hasBit 0 = .ok (.iload_n 0, 1) := by decide +kernel
theorem dX10_hasBit_1 : decode cX10_hasBit 1 = .ok (.iload_n 1, 1) := by decide +kernel
theorem dX10_hasBit_2 : decode cX10_hasBit 2 = .ok (.ishr, 1) := by decide +kernel
theorem dX10_hasBit_3 : decode cX10_hasBit 3 = .ok (.iconst 1, 1) := by decide +kernel
theorem dX10_hasBit_4 : decode cX10_hasBit 4 = .ok (.iand, 1) := by decide +kernel
theorem dX10_hasBit_5 : decode cX10_hasBit 5 = .ok (.ifCond .eq 7, 3) := by decide +kernel
theorem dX10_hasBit_8 : decode cX10_hasBit 8 = .ok (.iconst 1, 1) := by decide +kernel
theorem dX10_hasBit_9 : decode cX10_hasBit 9 = .ok (.goto 4, 3) := by decide +kernel
theorem dX10_hasBit_12 : decode cX10_hasBit 12 = .ok (.iconst 0, 1) := by decide +kernel
theorem dX10_hasBit_13 : decode cX10_hasBit 13 = .ok (.ireturn, 1) := by decide +kernel
theorem dX10_bitsApart_0 : decode cX10_bitsApart 0 = .ok (.iload_n 0, 1) := by decide +kernel
theorem dX10_bitsApart_1 : decode cX10_bitsApart 1 = .ok (.iload_n 1, 1) := by decide +kernel
theorem dX10_bitsApart_2 : decode cX10_bitsApart 2 = .ok (.ixor, 1) := by decide +kernel
theorem dX10_bitsApart_3 : decode cX10_bitsApart 3 = .ok (.invokestatic 398, 3) := by decide +kernel
theorem dX10_bitsApart_6 : decode cX10_bitsApart 6 = .ok (.ireturn, 1) := by decide +kernel
theorem dX10_isParish_0 : decode cX10_isParish 0 = .ok (.iload_n 1, 1) := by decide +kernel
theorem dX10_isParish_1 : decode cX10_isParish 1 = .ok (.iconst 0, 1) := by decide +kernel
theorem dX10_isParish_2 : decode cX10_isParish 2 = .ok (.aload_n 0, 1) := by decide +kernel
theorem dX10_isParish_3 : decode cX10_isParish 3 = .ok (.getfield 26, 3) := by decide +kernel
theorem dX10_isParish_6 : decode cX10_isParish 6 = .ok (.getfield 125, 3) := by decide +kernel
theorem dX10_isParish_9 : decode cX10_isParish 9 = .ok (.iconst 1, 1) := by decide +kernel
theorem dX10_isParish_10 : decode cX10_isParish 10 = .ok (.isub, 1) := by decide +kernel
theorem dX10_isParish_11 : decode cX10_isParish 11 = .ok (.invokestatic 108, 3) := by decide +kernel
theorem dX10_isParish_14 : decode cX10_isParish 14 = .ok (.ireturn, 1) := by decide +kernel
theorem dX10_areParishes_0 : decode cX10_areParishes 0 = .ok (.iload_n 1, 1) := by decide +kernel
theorem dX10_areParishes_1 : decode cX10_areParishes 1 = .ok (.iconst 0, 1) := by decide +kernel
theorem dX10_areParishes_2 : decode cX10_areParishes 2 = .ok (.aload_n 0, 1) := by decide +kernel
theorem dX10_areParishes_3 : decode cX10_areParishes 3 = .ok (.getfield 26, 3) := by decide +kernel
theorem dX10_areParishes_6 : decode cX10_areParishes 6 = .ok (.invokevirtual 273, 3) := by decide +kernel
theorem dX10_areParishes_9 : decode cX10_areParishes 9 = .ok (.invokestatic 108, 3) := by decide +kernel
theorem dX10_areParishes_12 : decode cX10_areParishes 12 = .ok (.ireturn, 1) := by decide +kernel
theorem dX10_isInBooks_0 : decode cX10_isInBooks 0 = .ok (.iload_n 1, 1) := by decide +kernel
theorem dX10_isInBooks_1 : decode cX10_isInBooks 1 = .ok (.iconst 0, 1) := by decide +kernel
theorem dX10_isInBooks_2 : decode cX10_isInBooks 2 = .ok (.aload_n 0, 1) := by decide +kernel
theorem dX10_isInBooks_3 : decode cX10_isInBooks 3 = .ok (.getfield 40, 3) := by decide +kernel
theorem dX10_isInBooks_6 : decode cX10_isInBooks 6 = .ok (.getfield 179, 3) := by decide +kernel
theorem dX10_isInBooks_9 : decode cX10_isInBooks 9 = .ok (.iconst 1, 1) := by decide +kernel
theorem dX10_isInBooks_10 : decode cX10_isInBooks 10 = .ok (.isub, 1) := by decide +kernel
theorem dX10_isInBooks_11 : decode cX10_isInBooks 11 = .ok (.invokestatic 108, 3) := by decide +kernel
theorem dX10_isInBooks_14 : decode cX10_isInBooks 14 = .ok (.ireturn, 1) := by decide +kernel
theorem dX10_isMark_0 : decode cX10_isMark 0 = .ok (.aload_n 0, 1) := by decide +kernel
theorem dX10_isMark_1 : decode cX10_isMark 1 = .ok (.iload_n 1, 1) := by decide +kernel
theorem dX10_isMark_2 : decode cX10_isMark 2 = .ok (.invokevirtual 199, 3) := by decide +kernel
theorem dX10_isMark_5 : decode cX10_isMark 5 = .ok (.ifCond .eq 16, 3) := by decide +kernel
theorem dX10_isMark_8 : decode cX10_isMark 8 = .ok (.iload_n 2, 1) := by decide +kernel
theorem dX10_isMark_9 : decode cX10_isMark 9 = .ok (.iconst 0, 1) := by decide +kernel
theorem dX10_isMark_10 : decode cX10_isMark 10 = .ok (.iconst 1, 1) := by decide +kernel
theorem dX10_isMark_11 : decode cX10_isMark 11 = .ok (.invokestatic 108, 3) := by decide +kernel
theorem dX10_isMark_14 : decode cX10_isMark 14 = .ok (.ifCond .eq 7, 3) := by decide +kernel
theorem dX10_isMark_17 : decode cX10_isMark 17 = .ok (.iconst 1, 1) := by decide +kernel
theorem dX10_isMark_18 : decode cX10_isMark 18 = .ok (.goto 4, 3) := by decide +kernel
theorem dX10_isMark_21 : decode cX10_isMark 21 = .ok (.iconst 0, 1) := by decide +kernel
theorem dX10_isMark_22 : decode cX10_isMark 22 = .ok (.ireturn, 1) := by decide +kernel
theorem dX10_isChoice_0 : decode cX10_isChoice 0 = .ok (.iload_n 0, 1) := by decide +kernel
theorem dX10_isChoice_1 : decode cX10_isChoice 1 = .ok (.iconst 0, 1) := by decide +kernel
theorem dX10_isChoice_2 : decode cX10_isChoice 2 = .ok (.iconst 1, 1) := by decide +kernel
theorem dX10_isChoice_3 : decode cX10_isChoice 3 = .ok (.invokestatic 108, 3) := by decide +kernel
theorem dX10_isChoice_6 : decode cX10_isChoice 6 = .ok (.ireturn, 1) := by decide +kernel
theorem dX10_isSheet_0 : decode cX10_isSheet 0 = .ok (.iload_n 0, 1) := by decide +kernel
theorem dX10_isSheet_1 : decode cX10_isSheet 1 = .ok (.iconst 0, 1) := by decide +kernel
theorem dX10_isSheet_2 : decode cX10_isSheet 2 = .ok (.iconst 3, 1) := by decide +kernel
theorem dX10_isSheet_3 : decode cX10_isSheet 3 = .ok (.invokestatic 108, 3) := by decide +kernel
theorem dX10_isSheet_6 : decode cX10_isSheet 6 = .ok (.ireturn, 1) := by decide +kernel
theorem dX10_isLane_0 : decode cX10_isLane 0 = .ok (.iload_n 0, 1) := by decide +kernel
theorem dX10_isLane_1 : decode cX10_isLane 1 = .ok (.iconst 0, 1) := by decide +kernel
theorem dX10_isLane_2 : decode cX10_isLane 2 = .ok (.iconst 2, 1) := by decide +kernel
theorem dX10_isLane_3 : decode cX10_isLane 3 = .ok (.invokestatic 108, 3) := by decide +kernel
theorem dX10_isLane_6 : decode cX10_isLane 6 = .ok (.ireturn, 1) := by decide +kernel
theorem dX10_areLearntYears_0 : decode cX10_areLearntYears 0 = .ok (.iload_n 0, 1) := by decide +kernel
theorem dX10_areLearntYears_1 : decode cX10_areLearntYears 1 = .ok (.bipush (-60), 2) := by decide +kernel
theorem dX10_areLearntYears_3 : decode cX10_areLearntYears 3 = .ok (.bipush 89, 2) := by decide +kernel
theorem dX10_areLearntYears_5 : decode cX10_areLearntYears 5 = .ok (.invokestatic 108, 3) := by decide +kernel
theorem dX10_areLearntYears_8 : decode cX10_areLearntYears 8 = .ok (.ifCond .eq 17, 3) := by decide +kernel
theorem dX10_areLearntYears_11 : decode cX10_areLearntYears 11 = .ok (.iload_n 1, 1) := by decide +kernel
theorem dX10_areLearntYears_12 : decode cX10_areLearntYears 12 = .ok (.iload_n 0, 1) := by decide +kernel
theorem dX10_areLearntYears_13 : decode cX10_areLearntYears 13 = .ok (.bipush 89, 2) := by decide +kernel
theorem dX10_areLearntYears_15 : decode cX10_areLearntYears 15 = .ok (.invokestatic 108, 3) := by decide +kernel
theorem dX10_areLearntYears_18 : decode cX10_areLearntYears 18 = .ok (.ifCond .eq 7, 3) := by decide +kernel
theorem dX10_areLearntYears_21 : decode cX10_areLearntYears 21 = .ok (.iconst 1, 1) := by decide +kernel
theorem dX10_areLearntYears_22 : decode cX10_areLearntYears 22 = .ok (.goto 4, 3) := by decide +kernel
theorem dX10_areLearntYears_25 : decode cX10_areLearntYears 25 = .ok (.iconst 0, 1) := by decide +kernel
theorem dX10_areLearntYears_26 : decode cX10_areLearntYears 26 = .ok (.ireturn, 1) := by decide +kernel
theorem dX10_isMarriage_0 : decode cX10_isMarriage 0 = .ok (.aload_n 0, 1) := by decide +kernel
theorem dX10_isMarriage_1 : decode cX10_isMarriage 1 = .ok (.iload_n 1, 1) := by decide +kernel
theorem dX10_isMarriage_2 : decode cX10_isMarriage 2 = .ok (.invokevirtual 149, 3) := by decide +kernel
theorem dX10_isMarriage_5 : decode cX10_isMarriage 5 = .ok (.ifCond .eq 47, 3) := by decide +kernel
theorem dX10_isMarriage_8 : decode cX10_isMarriage 8 = .ok (.iload_n 2, 1) := by decide +kernel
theorem dX10_isMarriage_9 : decode cX10_isMarriage 9 = .ok (.iconst 0, 1) := by decide +kernel
theorem dX10_isMarriage_10 : decode cX10_isMarriage 10 = .ok (.bipush 89, 2) := by decide +kernel
theorem dX10_isMarriage_12 : decode cX10_isMarriage 12 = .ok (.invokestatic 108, 3) := by decide +kernel
theorem dX10_isMarriage_15 : decode cX10_isMarriage 15 = .ok (.ifCond .eq 37, 3) := by decide +kernel
theorem dX10_isMarriage_18 : decode cX10_isMarriage 18 = .ok (.iload_n 3, 1) := by decide +kernel
theorem dX10_isMarriage_19 : decode cX10_isMarriage 19 = .ok (.iconst 0, 1) := by decide +kernel
theorem dX10_isMarriage_20 : decode cX10_isMarriage 20 = .ok (.bipush 7, 2) := by decide +kernel
theorem dX10_isMarriage_22 : decode cX10_isMarriage 22 = .ok (.invokestatic 108, 3) := by decide +kernel
theorem dX10_isMarriage_25 : decode cX10_isMarriage 25 = .ok (.ifCond .eq 27, 3) := by decide +kernel
theorem dX10_isMarriage_28 : decode cX10_isMarriage 28 = .ok (.iload 4, 2) := by decide +kernel
theorem dX10_isMarriage_30 : decode cX10_isMarriage 30 = .ok (.iconst 0, 1) := by decide +kernel
theorem dX10_isMarriage_31 : decode cX10_isMarriage 31 = .ok (.iconst 1, 1) := by decide +kernel
theorem dX10_isMarriage_32 : decode cX10_isMarriage 32 = .ok (.invokestatic 108, 3) := by decide +kernel
theorem dX10_isMarriage_35 : decode cX10_isMarriage 35 = .ok (.ifCond .eq 17, 3) := by decide +kernel
theorem dX10_isMarriage_38 : decode cX10_isMarriage 38 = .ok (.iload 5, 2) := by decide +kernel
theorem dX10_isMarriage_40 : decode cX10_isMarriage 40 = .ok (.iconst 0, 1) := by decide +kernel
theorem dX10_isMarriage_41 : decode cX10_isMarriage 41 = .ok (.iconst 1, 1) := by decide +kernel
theorem dX10_isMarriage_42 : decode cX10_isMarriage 42 = .ok (.invokestatic 108, 3) := by decide +kernel
theorem dX10_isMarriage_45 : decode cX10_isMarriage 45 = .ok (.ifCond .eq 7, 3) := by decide +kernel
theorem dX10_isMarriage_48 : decode cX10_isMarriage 48 = .ok (.iconst 1, 1) := by decide +kernel
theorem dX10_isMarriage_49 : decode cX10_isMarriage 49 = .ok (.goto 4, 3) := by decide +kernel
theorem dX10_isMarriage_52 : decode cX10_isMarriage 52 = .ok (.iconst 0, 1) := by decide +kernel
theorem dX10_isMarriage_53 : decode cX10_isMarriage 53 = .ok (.ireturn, 1) := by decide +kernel
theorem dX10_mayBe_0 : decode cX10_mayBe 0 = .ok (.iload_n 0, 1) := by decide +kernel
theorem dX10_mayBe_1 : decode cX10_mayBe 1 = .ok (.tableswitch 87 0 4 #[35, 42, 63, 72, 80], 35) := by decide +kernel
theorem dX10_mayBe_36 : decode cX10_mayBe 36 = .ok (.iload_n 1, 1) := by decide +kernel
theorem dX10_mayBe_37 : decode cX10_mayBe 37 = .ok (.iconst 0, 1) := by decide +kernel
theorem dX10_mayBe_38 : decode cX10_mayBe 38 = .ok (.iconst 1, 1) := by decide +kernel
theorem dX10_mayBe_39 : decode cX10_mayBe 39 = .ok (.invokestatic 108, 3) := by decide +kernel
theorem dX10_mayBe_42 : decode cX10_mayBe 42 = .ok (.ireturn, 1) := by decide +kernel
theorem dX10_mayBe_43 : decode cX10_mayBe 43 = .ok (.iload_n 1, 1) := by decide +kernel
theorem dX10_mayBe_44 : decode cX10_mayBe 44 = .ok (.ifCond .eq 14, 3) := by decide +kernel
theorem dX10_mayBe_47 : decode cX10_mayBe 47 = .ok (.iload_n 1, 1) := by decide +kernel
theorem dX10_mayBe_48 : decode cX10_mayBe 48 = .ok (.bipush 16, 2) := by decide +kernel
theorem dX10_mayBe_50 : decode cX10_mayBe 50 = .ok (.bipush 60, 2) := by decide +kernel
theorem dX10_mayBe_52 : decode cX10_mayBe 52 = .ok (.invokestatic 108, 3) := by decide +kernel
theorem dX10_mayBe_55 : decode cX10_mayBe 55 = .ok (.ifCond .eq 7, 3) := by decide +kernel
theorem dX10_mayBe_58 : decode cX10_mayBe 58 = .ok (.iconst 1, 1) := by decide +kernel
theorem dX10_mayBe_59 : decode cX10_mayBe 59 = .ok (.goto 4, 3) := by decide +kernel
theorem dX10_mayBe_62 : decode cX10_mayBe 62 = .ok (.iconst 0, 1) := by decide +kernel
theorem dX10_mayBe_63 : decode cX10_mayBe 63 = .ok (.ireturn, 1) := by decide +kernel
theorem dX10_mayBe_64 : decode cX10_mayBe 64 = .ok (.iload_n 1, 1) := by decide +kernel
theorem dX10_mayBe_65 : decode cX10_mayBe 65 = .ok (.iconst 0, 1) := by decide +kernel
theorem dX10_mayBe_66 : decode cX10_mayBe 66 = .ok (.sipush 255, 3) := by decide +kernel
theorem dX10_mayBe_69 : decode cX10_mayBe 69 = .ok (.invokestatic 108, 3) := by decide +kernel
theorem dX10_mayBe_72 : decode cX10_mayBe 72 = .ok (.ireturn, 1) := by decide +kernel
theorem dX10_mayBe_73 : decode cX10_mayBe 73 = .ok (.iload_n 1, 1) := by decide +kernel
theorem dX10_mayBe_74 : decode cX10_mayBe 74 = .ok (.iconst 0, 1) := by decide +kernel
theorem dX10_mayBe_75 : decode cX10_mayBe 75 = .ok (.bipush 99, 2) := by decide +kernel
theorem dX10_mayBe_77 : decode cX10_mayBe 77 = .ok (.invokestatic 108, 3) := by decide +kernel
theorem dX10_mayBe_80 : decode cX10_mayBe 80 = .ok (.ireturn, 1) := by decide +kernel
theorem dX10_mayBe_81 : decode cX10_mayBe 81 = .ok (.iload_n 1, 1) := by decide +kernel
theorem dX10_mayBe_82 : decode cX10_mayBe 82 = .ok (.iconst 0, 1) := by decide +kernel
theorem dX10_mayBe_83 : decode cX10_mayBe 83 = .ok (.iconst 1, 1) := by decide +kernel
theorem dX10_mayBe_84 : decode cX10_mayBe 84 = .ok (.invokestatic 108, 3) := by decide +kernel
theorem dX10_mayBe_87 : decode cX10_mayBe 87 = .ok (.ireturn, 1) := by decide +kernel
theorem dX10_mayBe_88 : decode cX10_mayBe 88 = .ok (.iconst 0, 1) := by decide +kernel
theorem dX10_mayBe_89 : decode cX10_mayBe 89 = .ok (.ireturn, 1) := by decide +kernel
theorem dX10_takeDraft_0 : decode cX10_takeDraft 0 = .ok (.aload_n 0, 1) := by decide +kernel
theorem dX10_takeDraft_1 : decode cX10_takeDraft 1 = .ok (.getfield 26, 3) := by decide +kernel
theorem dX10_takeDraft_4 : decode cX10_takeDraft 4 = .ok (.astore_n 1, 1) := by decide +kernel
theorem dX10_takeDraft_5 : decode cX10_takeDraft 5 = .ok (.aload_n 0, 1) := by decide +kernel
theorem dX10_takeDraft_6 : decode cX10_takeDraft 6 = .ok (.aload_n 0, 1) := by decide +kernel
theorem dX10_takeDraft_7 : decode cX10_takeDraft 7 = .ok (.getfield 30, 3) := by decide +kernel
theorem dX10_takeDraft_10 : decode cX10_takeDraft 10 = .ok (.putfield 26, 3) := by decide +kernel
theorem dX10_takeDraft_13 : decode cX10_takeDraft 13 = .ok (.aload_n 0, 1) := by decide +kernel
theorem dX10_takeDraft_14 : decode cX10_takeDraft 14 = .ok (.aload_n 1, 1) := by decide +kernel
theorem dX10_takeDraft_15 : decode cX10_takeDraft 15 = .ok (.putfield 30, 3) := by decide +kernel
theorem dX10_takeDraft_18 : decode cX10_takeDraft 18 = .ok (.aload_n 0, 1) := by decide +kernel
theorem dX10_takeDraft_19 : decode cX10_takeDraft 19 = .ok (.getfield 40, 3) := by decide +kernel
theorem dX10_takeDraft_22 : decode cX10_takeDraft 22 = .ok (.iconst 0, 1) := by decide +kernel
theorem dX10_takeDraft_23 : decode cX10_takeDraft 23 = .ok (.putfield 179, 3) := by decide +kernel
theorem dX10_takeDraft_26 : decode cX10_takeDraft 26 = .ok (.aload_n 0, 1) := by decide +kernel
theorem dX10_takeDraft_27 : decode cX10_takeDraft 27 = .ok (.getfield 54, 3) := by decide +kernel
theorem dX10_takeDraft_30 : decode cX10_takeDraft 30 = .ok (.iconst 0, 1) := by decide +kernel
theorem dX10_takeDraft_31 : decode cX10_takeDraft 31 = .ok (.aaload, 1) := by decide +kernel
theorem dX10_takeDraft_32 : decode cX10_takeDraft 32 = .ok (.aload_n 0, 1) := by decide +kernel
theorem dX10_takeDraft_33 : decode cX10_takeDraft 33 = .ok (.getfield 26, 3) := by decide +kernel
theorem dX10_takeDraft_36 : decode cX10_takeDraft 36 = .ok (.invokevirtual 273, 3) := by decide +kernel
theorem dX10_takeDraft_39 : decode cX10_takeDraft 39 = .ok (.invokevirtual 403, 3) := by decide +kernel
theorem dX10_takeDraft_42 : decode cX10_takeDraft 42 = .ok (.aload_n 0, 1) := by decide +kernel
theorem dX10_takeDraft_43 : decode cX10_takeDraft 43 = .ok (.getfield 54, 3) := by decide +kernel
theorem dX10_takeDraft_46 : decode cX10_takeDraft 46 = .ok (.iconst 1, 1) := by decide +kernel
theorem dX10_takeDraft_47 : decode cX10_takeDraft 47 = .ok (.aaload, 1) := by decide +kernel
theorem dX10_takeDraft_48 : decode cX10_takeDraft 48 = .ok (.aload_n 0, 1) := by decide +kernel
theorem dX10_takeDraft_49 : decode cX10_takeDraft 49 = .ok (.getfield 26, 3) := by decide +kernel
theorem dX10_takeDraft_52 : decode cX10_takeDraft 52 = .ok (.invokevirtual 273, 3) := by decide +kernel
theorem dX10_takeDraft_55 : decode cX10_takeDraft 55 = .ok (.invokevirtual 403, 3) := by decide +kernel
theorem dX10_takeDraft_58 : decode cX10_takeDraft 58 = .ok (.aload_n 0, 1) := by decide +kernel
theorem dX10_takeDraft_59 : decode cX10_takeDraft 59 = .ok (.getfield 47, 3) := by decide +kernel
theorem dX10_takeDraft_62 : decode cX10_takeDraft 62 = .ok (.iconst 1, 1) := by decide +kernel
theorem dX10_takeDraft_63 : decode cX10_takeDraft 63 = .ok (.putfield 182, 3) := by decide +kernel
theorem dX10_takeDraft_66 : decode cX10_takeDraft 66 = .ok (.return_, 1) := by decide +kernel
theorem dX10_howMany_0 : decode cX10_howMany 0 = .ok (.aload_n 0, 1) := by decide +kernel
theorem dX10_howMany_1 : decode cX10_howMany 1 = .ok (.getfield 47, 3) := by decide +kernel
theorem dX10_howMany_4 : decode cX10_howMany 4 = .ok (.aload_n 0, 1) := by decide +kernel
theorem dX10_howMany_5 : decode cX10_howMany 5 = .ok (.getfield 40, 3) := by decide +kernel
theorem dX10_howMany_8 : decode cX10_howMany 8 = .ok (.aload_n 0, 1) := by decide +kernel
theorem dX10_howMany_9 : decode cX10_howMany 9 = .ok (.getfield 26, 3) := by decide +kernel
theorem dX10_howMany_12 : decode cX10_howMany 12 = .ok (.invokevirtual 163, 3) := by decide +kernel
theorem dX10_howMany_15 : decode cX10_howMany 15 = .ok (.iconst 0, 1) := by decide +kernel
theorem dX10_howMany_16 : decode cX10_howMany 16 = .ok (.istore_n 3, 1) := by decide +kernel
theorem dX10_howMany_17 : decode cX10_howMany 17 = .ok (.iconst 0, 1) := by decide +kernel
theorem dX10_howMany_18 : decode cX10_howMany 18 = .ok (.istore 4, 2) := by decide +kernel
theorem dX10_howMany_20 : decode cX10_howMany 20 = .ok (.iload 4, 2) := by decide +kernel
theorem dX10_howMany_22 : decode cX10_howMany 22 = .ok (.aload_n 0, 1) := by decide +kernel
theorem dX10_howMany_23 : decode cX10_howMany 23 = .ok (.getfield 40, 3) := by decide +kernel
theorem dX10_howMany_26 : decode cX10_howMany 26 = .ok (.invokevirtual 167, 3) := by decide +kernel
theorem dX10_howMany_29 : decode cX10_howMany 29 = .ok (.if_icmp .ge 40, 3) := by decide +kernel
theorem dX10_howMany_32 : decode cX10_howMany 32 = .ok (.aload_n 0, 1) := by decide +kernel
theorem dX10_howMany_33 : decode cX10_howMany 33 = .ok (.getfield 54, 3) := by decide +kernel
theorem dX10_howMany_36 : decode cX10_howMany 36 = .ok (.iload_n 1, 1) := by decide +kernel
theorem dX10_howMany_37 : decode cX10_howMany 37 = .ok (.aaload, 1) := by decide +kernel
theorem dX10_howMany_38 : decode cX10_howMany 38 = .ok (.aload_n 0, 1) := by decide +kernel
theorem dX10_howMany_39 : decode cX10_howMany 39 = .ok (.getfield 40, 3) := by decide +kernel
theorem dX10_howMany_42 : decode cX10_howMany 42 = .ok (.iload 4, 2) := by decide +kernel
theorem dX10_howMany_44 : decode cX10_howMany 44 = .ok (.invokevirtual 406, 3) := by decide +kernel
theorem dX10_howMany_47 : decode cX10_howMany 47 = .ok (.ifCond .eq 16, 3) := by decide +kernel
theorem dX10_howMany_50 : decode cX10_howMany 50 = .ok (.aload_n 0, 1) := by decide +kernel
theorem dX10_howMany_51 : decode cX10_howMany 51 = .ok (.iload 4, 2) := by decide +kernel
theorem dX10_howMany_53 : decode cX10_howMany 53 = .ok (.iload_n 2, 1) := by decide +kernel
theorem dX10_howMany_54 : decode cX10_howMany 54 = .ok (.invokevirtual 410, 3) := by decide +kernel
theorem dX10_howMany_57 : decode cX10_howMany 57 = .ok (.ifCond .eq 6, 3) := by decide +kernel
theorem dX10_howMany_60 : decode cX10_howMany 60 = .ok (.iinc 3 1, 3) := by decide +kernel
theorem dX10_howMany_63 : decode cX10_howMany 63 = .ok (.iinc 4 1, 3) := by decide +kernel
theorem dX10_howMany_66 : decode cX10_howMany 66 = .ok (.goto (-46), 3) := by decide +kernel
theorem dX10_howMany_69 : decode cX10_howMany 69 = .ok (.iload_n 3, 1) := by decide +kernel
theorem dX10_howMany_70 : decode cX10_howMany 70 = .ok (.ireturn, 1) := by decide +kernel
theorem dX10_isOfSort_0 : decode cX10_isOfSort 0 = .ok (.iload_n 2, 1) := by decide +kernel
theorem dX10_isOfSort_1 : decode cX10_isOfSort 1 = .ok (.tableswitch 58 0 2 #[27, 29, 38], 27) := by decide +kernel
theorem dX10_isOfSort_28 : decode cX10_isOfSort 28 = .ok (.iconst 1, 1) := by decide +kernel
theorem dX10_isOfSort_29 : decode cX10_isOfSort 29 = .ok (.ireturn, 1) := by decide +kernel
theorem dX10_isOfSort_30 : decode cX10_isOfSort 30 = .ok (.aload_n 0, 1) := by decide +kernel
theorem dX10_isOfSort_31 : decode cX10_isOfSort 31 = .ok (.getfield 47, 3) := by decide +kernel
theorem dX10_isOfSort_34 : decode cX10_isOfSort 34 = .ok (.iload_n 1, 1) := by decide +kernel
theorem dX10_isOfSort_35 : decode cX10_isOfSort 35 = .ok (.invokevirtual 413, 3) := by decide +kernel
theorem dX10_isOfSort_38 : decode cX10_isOfSort 38 = .ok (.ireturn, 1) := by decide +kernel
theorem dX10_isOfSort_39 : decode cX10_isOfSort 39 = .ok (.aload_n 0, 1) := by decide +kernel
theorem dX10_isOfSort_40 : decode cX10_isOfSort 40 = .ok (.getfield 40, 3) := by decide +kernel
theorem dX10_isOfSort_43 : decode cX10_isOfSort 43 = .ok (.getfield 196, 3) := by decide +kernel
theorem dX10_isOfSort_46 : decode cX10_isOfSort 46 = .ok (.iconst 0, 1) := by decide +kernel
theorem dX10_isOfSort_47 : decode cX10_isOfSort 47 = .ok (.aaload, 1) := by decide +kernel
theorem dX10_isOfSort_48 : decode cX10_isOfSort 48 = .ok (.iload_n 1, 1) := by decide +kernel
theorem dX10_isOfSort_49 : decode cX10_isOfSort 49 = .ok (.iaload, 1) := by decide +kernel
theorem dX10_isOfSort_50 : decode cX10_isOfSort 50 = .ok (.ifCond .ne 7, 3) := by decide +kernel
theorem dX10_isOfSort_53 : decode cX10_isOfSort 53 = .ok (.iconst 1, 1) := by decide +kernel
theorem dX10_isOfSort_54 : decode cX10_isOfSort 54 = .ok (.goto 4, 3) := by decide +kernel
theorem dX10_isOfSort_57 : decode cX10_isOfSort 57 = .ok (.iconst 0, 1) := by decide +kernel
theorem dX10_isOfSort_58 : decode cX10_isOfSort 58 = .ok (.ireturn, 1) := by decide +kernel
theorem dX10_isOfSort_59 : decode cX10_isOfSort 59 = .ok (.aload_n 0, 1) := by decide +kernel
theorem dX10_isOfSort_60 : decode cX10_isOfSort 60 = .ok (.getfield 47, 3) := by decide +kernel
theorem dX10_isOfSort_63 : decode cX10_isOfSort 63 = .ok (.getfield 205, 3) := by decide +kernel
theorem dX10_isOfSort_66 : decode cX10_isOfSort 66 = .ok (.iload_n 1, 1) := by decide +kernel
theorem dX10_isOfSort_67 : decode cX10_isOfSort 67 = .ok (.iaload, 1) := by decide +kernel
theorem dX10_isOfSort_68 : decode cX10_isOfSort 68 = .ok (.iload_n 2, 1) := by decide +kernel
theorem dX10_isOfSort_69 : decode cX10_isOfSort 69 = .ok (.bipush 10, 2) := by decide +kernel
theorem dX10_isOfSort_71 : decode cX10_isOfSort 71 = .ok (.isub, 1) := by decide +kernel
theorem dX10_isOfSort_72 : decode cX10_isOfSort 72 = .ok (.if_icmp .ne 7, 3) := by decide +kernel
theorem dX10_isOfSort_75 : decode cX10_isOfSort 75 = .ok (.iconst 1, 1) := by decide +kernel
theorem dX10_isOfSort_76 : decode cX10_isOfSort 76 = .ok (.goto 4, 3) := by decide +kernel
theorem dX10_isOfSort_79 : decode cX10_isOfSort 79 = .ok (.iconst 0, 1) := by decide +kernel
theorem dX10_isOfSort_80 : decode cX10_isOfSort 80 = .ok (.ireturn, 1) := by decide +kernel
theorem dX10_howManyPairs_0 : decode cX10_howManyPairs 0 = .ok (.iconst 0, 1) := by decide +kernel
theorem dX10_howManyPairs_1 : decode cX10_howManyPairs 1 = .ok (.istore 4, 2) := by decide +kernel
theorem dX10_howManyPairs_3 : decode cX10_howManyPairs 3 = .ok (.iconst 0, 1) := by decide +kernel
theorem dX10_howManyPairs_4 : decode cX10_howManyPairs 4 = .ok (.istore 5, 2) := by decide +kernel
theorem dX10_howManyPairs_6 : decode cX10_howManyPairs 6 = .ok (.iload 5, 2) := by decide +kernel
theorem dX10_howManyPairs_8 : decode cX10_howManyPairs 8 = .ok (.aload_n 0, 1) := by decide +kernel
theorem dX10_howManyPairs_9 : decode cX10_howManyPairs 9 = .ok (.getfield 40, 3) := by decide +kernel
theorem dX10_howManyPairs_12 : decode cX10_howManyPairs 12 = .ok (.getfield 179, 3) := by decide +kernel
theorem dX10_howManyPairs_15 : decode cX10_howManyPairs 15 = .ok (.if_icmp .ge 92, 3) := by decide +kernel
theorem dX10_howManyPairs_18 : decode cX10_howManyPairs 18 = .ok (.aload_n 0, 1) := by decide +kernel
theorem dX10_howManyPairs_19 : decode cX10_howManyPairs 19 = .ok (.getfield 54, 3) := by decide +kernel
theorem dX10_howManyPairs_22 : decode cX10_howManyPairs 22 = .ok (.iload_n 1, 1) := by decide +kernel
theorem dX10_howManyPairs_23 : decode cX10_howManyPairs 23 = .ok (.aaload, 1) := by decide +kernel
theorem dX10_howManyPairs_24 : decode cX10_howManyPairs 24 = .ok (.aload_n 0, 1) := by decide +kernel
theorem dX10_howManyPairs_25 : decode cX10_howManyPairs 25 = .ok (.getfield 40, 3) := by decide +kernel
theorem dX10_howManyPairs_28 : decode cX10_howManyPairs 28 = .ok (.iconst 2, 1) := by decide +kernel
theorem dX10_howManyPairs_29 : decode cX10_howManyPairs 29 = .ok (.iload 5, 2) := by decide +kernel
theorem dX10_howManyPairs_31 : decode cX10_howManyPairs 31 = .ok (.imul, 1) := by decide +kernel
theorem dX10_howManyPairs_32 : decode cX10_howManyPairs 32 = .ok (.invokevirtual 406, 3) := by decide +kernel
theorem dX10_howManyPairs_35 : decode cX10_howManyPairs 35 = .ok (.ifCond .eq 66, 3) := by decide +kernel
theorem dX10_howManyPairs_38 : decode cX10_howManyPairs 38 = .ok (.aload_n 0, 1) := by decide +kernel
theorem dX10_howManyPairs_39 : decode cX10_howManyPairs 39 = .ok (.getfield 54, 3) := by decide +kernel
theorem dX10_howManyPairs_42 : decode cX10_howManyPairs 42 = .ok (.iload_n 1, 1) := by decide +kernel
theorem dX10_howManyPairs_43 : decode cX10_howManyPairs 43 = .ok (.aaload, 1) := by decide +kernel
theorem dX10_howManyPairs_44 : decode cX10_howManyPairs 44 = .ok (.aload_n 0, 1) := by decide +kernel
theorem dX10_howManyPairs_45 : decode cX10_howManyPairs 45 = .ok (.getfield 40, 3) := by decide +kernel
theorem dX10_howManyPairs_48 : decode cX10_howManyPairs 48 = .ok (.iconst 2, 1) := by decide +kernel
theorem dX10_howManyPairs_49 : decode cX10_howManyPairs 49 = .ok (.iload 5, 2) := by decide +kernel
theorem dX10_howManyPairs_51 : decode cX10_howManyPairs 51 = .ok (.imul, 1) := by decide +kernel
theorem dX10_howManyPairs_52 : decode cX10_howManyPairs 52 = .ok (.iconst 1, 1) := by decide +kernel
theorem dX10_howManyPairs_53 : decode cX10_howManyPairs 53 = .ok (.iadd, 1) := by decide +kernel
theorem dX10_howManyPairs_54 : decode cX10_howManyPairs 54 = .ok (.invokevirtual 406, 3) := by decide +kernel
theorem dX10_howManyPairs_57 : decode cX10_howManyPairs 57 = .ok (.ifCond .eq 44, 3) := by decide +kernel
theorem dX10_howManyPairs_60 : decode cX10_howManyPairs 60 = .ok (.aload_n 0, 1) := by decide +kernel
theorem dX10_howManyPairs_61 : decode cX10_howManyPairs 61 = .ok (.getfield 40, 3) := by decide +kernel
theorem dX10_howManyPairs_64 : decode cX10_howManyPairs 64 = .ok (.getfield 196, 3) := by decide +kernel
theorem dX10_howManyPairs_67 : decode cX10_howManyPairs 67 = .ok (.iconst 0, 1) := by decide +kernel
theorem dX10_howManyPairs_68 : decode cX10_howManyPairs 68 = .ok (.aaload, 1) := by decide +kernel
theorem dX10_howManyPairs_69 : decode cX10_howManyPairs 69 = .ok (.iconst 2, 1) := by decide +kernel
theorem dX10_howManyPairs_70 : decode cX10_howManyPairs 70 = .ok (.iload 5, 2) := by decide +kernel
theorem dX10_howManyPairs_72 : decode cX10_howManyPairs 72 = .ok (.imul, 1) := by decide +kernel
theorem dX10_howManyPairs_73 : decode cX10_howManyPairs 73 = .ok (.iaload, 1) := by decide +kernel
theorem dX10_howManyPairs_74 : decode cX10_howManyPairs 74 = .ok (.iload_n 2, 1) := by decide +kernel
theorem dX10_howManyPairs_75 : decode cX10_howManyPairs 75 = .ok (.if_icmp .ne 26, 3) := by decide +kernel
theorem dX10_howManyPairs_78 : decode cX10_howManyPairs 78 = .ok (.aload_n 0, 1) := by decide +kernel
theorem dX10_howManyPairs_79 : decode cX10_howManyPairs 79 = .ok (.getfield 40, 3) := by decide +kernel
theorem dX10_howManyPairs_82 : decode cX10_howManyPairs 82 = .ok (.getfield 196, 3) := by decide +kernel
theorem dX10_howManyPairs_85 : decode cX10_howManyPairs 85 = .ok (.iconst 0, 1) := by decide +kernel
theorem dX10_howManyPairs_86 : decode cX10_howManyPairs 86 = .ok (.aaload, 1) := by decide +kernel
theorem dX10_howManyPairs_87 : decode cX10_howManyPairs 87 = .ok (.iconst 2, 1) := by decide +kernel
theorem dX10_howManyPairs_88 : decode cX10_howManyPairs 88 = .ok (.iload 5, 2) := by decide +kernel
theorem dX10_howManyPairs_90 : decode cX10_howManyPairs 90 = .ok (.imul, 1) := by decide +kernel
theorem dX10_howManyPairs_91 : decode cX10_howManyPairs 91 = .ok (.iconst 1, 1) := by decide +kernel
theorem dX10_howManyPairs_92 : decode cX10_howManyPairs 92 = .ok (.iadd, 1) := by decide +kernel
theorem dX10_howManyPairs_93 : decode cX10_howManyPairs 93 = .ok (.iaload, 1) := by decide +kernel
theorem dX10_howManyPairs_94 : decode cX10_howManyPairs 94 = .ok (.iload_n 3, 1) := by decide +kernel
theorem dX10_howManyPairs_95 : decode cX10_howManyPairs 95 = .ok (.if_icmp .ne 6, 3) := by decide +kernel
theorem dX10_howManyPairs_98 : decode cX10_howManyPairs 98 = .ok (.iinc 4 1, 3) := by decide +kernel
theorem dX10_howManyPairs_101 : decode cX10_howManyPairs 101 = .ok (.iinc 5 1, 3) := by decide +kernel
theorem dX10_howManyPairs_104 : decode cX10_howManyPairs 104 = .ok (.goto (-98), 3) := by decide +kernel
theorem dX10_howManyPairs_107 : decode cX10_howManyPairs 107 = .ok (.iload 4, 2) := by decide +kernel
theorem dX10_howManyPairs_109 : decode cX10_howManyPairs 109 = .ok (.ireturn, 1) := by decide +kernel
theorem dX10_howManyLearnt_0 : decode cX10_howManyLearnt 0 = .ok (.aload_n 0, 1) := by decide +kernel
theorem dX10_howManyLearnt_1 : decode cX10_howManyLearnt 1 = .ok (.getfield 47, 3) := by decide +kernel
theorem dX10_howManyLearnt_4 : decode cX10_howManyLearnt 4 = .ok (.aload_n 0, 1) := by decide +kernel
theorem dX10_howManyLearnt_5 : decode cX10_howManyLearnt 5 = .ok (.getfield 40, 3) := by decide +kernel
theorem dX10_howManyLearnt_8 : decode cX10_howManyLearnt 8 = .ok (.aload_n 0, 1) := by decide +kernel
theorem dX10_howManyLearnt_9 : decode cX10_howManyLearnt 9 = .ok (.getfield 26, 3) := by decide +kernel
theorem dX10_howManyLearnt_12 : decode cX10_howManyLearnt 12 = .ok (.invokevirtual 163, 3) := by decide +kernel
theorem dX10_howManyLearnt_15 : decode cX10_howManyLearnt 15 = .ok (.iload 4, 2) := by decide +kernel
theorem dX10_howManyLearnt_17 : decode cX10_howManyLearnt 17 = .ok (.iconst 2, 1) := by decide +kernel
theorem dX10_howManyLearnt_18 : decode cX10_howManyLearnt 18 = .ok (.irem, 1) := by decide +kernel
theorem dX10_howManyLearnt_19 : decode cX10_howManyLearnt 19 = .ok (.ifCond .ne 7, 3) := by decide +kernel
theorem dX10_howManyLearnt_22 : decode cX10_howManyLearnt 22 = .ok (.iconst 2, 1) := by decide +kernel
theorem dX10_howManyLearnt_23 : decode cX10_howManyLearnt 23 = .ok (.goto 4, 3) := by decide +kernel
theorem dX10_howManyLearnt_26 : decode cX10_howManyLearnt 26 = .ok (.iconst 1, 1) := by decide +kernel
theorem dX10_howManyLearnt_27 : decode cX10_howManyLearnt 27 = .ok (.istore 5, 2) := by decide +kernel
theorem dX10_howManyLearnt_29 : decode cX10_howManyLearnt 29 = .ok (.iconst 0, 1) := by decide +kernel
theorem dX10_howManyLearnt_30 : decode cX10_howManyLearnt 30 = .ok (.istore 6, 2) := by decide +kernel
theorem dX10_howManyLearnt_32 : decode cX10_howManyLearnt 32 = .ok (.iconst 0, 1) := by decide +kernel
theorem dX10_howManyLearnt_33 : decode cX10_howManyLearnt 33 = .ok (.istore 7, 2) := by decide +kernel
theorem dX10_howManyLearnt_35 : decode cX10_howManyLearnt 35 = .ok (.iload 7, 2) := by decide +kernel
theorem dX10_howManyLearnt_37 : decode cX10_howManyLearnt 37 = .ok (.aload_n 0, 1) := by decide +kernel
theorem dX10_howManyLearnt_38 : decode cX10_howManyLearnt 38 = .ok (.getfield 40, 3) := by decide +kernel
theorem dX10_howManyLearnt_41 : decode cX10_howManyLearnt 41 = .ok (.invokevirtual 167, 3) := by decide +kernel
theorem dX10_howManyLearnt_44 : decode cX10_howManyLearnt 44 = .ok (.if_icmp .ge 61, 3) := by decide +kernel
theorem dX10_howManyLearnt_47 : decode cX10_howManyLearnt 47 = .ok (.aload_n 0, 1) := by decide +kernel
theorem dX10_howManyLearnt_48 : decode cX10_howManyLearnt 48 = .ok (.getfield 54, 3) := by decide +kernel
theorem dX10_howManyLearnt_51 : decode cX10_howManyLearnt 51 = .ok (.iload_n 1, 1) := by decide +kernel
theorem dX10_howManyLearnt_52 : decode cX10_howManyLearnt 52 = .ok (.aaload, 1) := by decide +kernel
theorem dX10_howManyLearnt_53 : decode cX10_howManyLearnt 53 = .ok (.aload_n 0, 1) := by decide +kernel
theorem dX10_howManyLearnt_54 : decode cX10_howManyLearnt 54 = .ok (.getfield 40, 3) := by decide +kernel
theorem dX10_howManyLearnt_57 : decode cX10_howManyLearnt 57 = .ok (.iload 7, 2) := by decide +kernel
theorem dX10_howManyLearnt_59 : decode cX10_howManyLearnt 59 = .ok (.invokevirtual 406, 3) := by decide +kernel
theorem dX10_howManyLearnt_62 : decode cX10_howManyLearnt 62 = .ok (.ifCond .eq 37, 3) := by decide +kernel
theorem dX10_howManyLearnt_65 : decode cX10_howManyLearnt 65 = .ok (.iload 4, 2) := by decide +kernel
theorem dX10_howManyLearnt_67 : decode cX10_howManyLearnt 67 = .ok (.iconst 2, 1) := by decide +kernel
theorem dX10_howManyLearnt_68 : decode cX10_howManyLearnt 68 = .ok (.if_icmp .lt 15, 3) := by decide +kernel
theorem dX10_howManyLearnt_71 : decode cX10_howManyLearnt 71 = .ok (.aload_n 0, 1) := by decide +kernel
theorem dX10_howManyLearnt_72 : decode cX10_howManyLearnt 72 = .ok (.getfield 47, 3) := by decide +kernel
theorem dX10_howManyLearnt_75 : decode cX10_howManyLearnt 75 = .ok (.iload 7, 2) := by decide +kernel
theorem dX10_howManyLearnt_77 : decode cX10_howManyLearnt 77 = .ok (.invokevirtual 413, 3) := by decide +kernel
theorem dX10_howManyLearnt_80 : decode cX10_howManyLearnt 80 = .ok (.ifCond .eq 19, 3) := by decide +kernel
theorem dX10_howManyLearnt_83 : decode cX10_howManyLearnt 83 = .ok (.aload_n 0, 1) := by decide +kernel
theorem dX10_howManyLearnt_84 : decode cX10_howManyLearnt 84 = .ok (.iload 7, 2) := by decide +kernel
theorem dX10_howManyLearnt_86 : decode cX10_howManyLearnt 86 = .ok (.iload_n 2, 1) := by decide +kernel
theorem dX10_howManyLearnt_87 : decode cX10_howManyLearnt 87 = .ok (.iload_n 3, 1) := by decide +kernel
theorem dX10_howManyLearnt_88 : decode cX10_howManyLearnt 88 = .ok (.invokevirtual 416, 3) := by decide +kernel
theorem dX10_howManyLearnt_91 : decode cX10_howManyLearnt 91 = .ok (.iload 5, 2) := by decide +kernel
theorem dX10_howManyLearnt_93 : decode cX10_howManyLearnt 93 = .ok (.if_icmp .ne 6, 3) := by decide +kernel
theorem dX10_howManyLearnt_96 : decode cX10_howManyLearnt 96 = .ok (.iinc 6 1, 3) := by decide +kernel
theorem dX10_howManyLearnt_99 : decode cX10_howManyLearnt 99 = .ok (.iinc 7 1, 3) := by decide +kernel
theorem dX10_howManyLearnt_102 : decode cX10_howManyLearnt 102 = .ok (.goto (-67), 3) := by decide +kernel
theorem dX10_howManyLearnt_105 : decode cX10_howManyLearnt 105 = .ok (.iload 6, 2) := by decide +kernel
theorem dX10_howManyLearnt_107 : decode cX10_howManyLearnt 107 = .ok (.ireturn, 1) := by decide +kernel
theorem dX10_howSurelyLearnt_0 : decode cX10_howSurelyLearnt 0 = .ok (.aload_n 0, 1) := by decide +kernel
theorem dX10_howSurelyLearnt_1 : decode cX10_howSurelyLearnt 1 = .ok (.getfield 40, 3) := by decide +kernel
theorem dX10_howSurelyLearnt_4 : decode cX10_howSurelyLearnt 4 = .ok (.iload_n 1, 1) := by decide +kernel
theorem dX10_howSurelyLearnt_5 : decode cX10_howSurelyLearnt 5 = .ok (.invokevirtual 419, 3) := by decide +kernel
theorem dX10_howSurelyLearnt_8 : decode cX10_howSurelyLearnt 8 = .ok (.aload_n 0, 1) := by decide +kernel
theorem dX10_howSurelyLearnt_9 : decode cX10_howSurelyLearnt 9 = .ok (.getfield 26, 3) := by decide +kernel
theorem dX10_howSurelyLearnt_12 : decode cX10_howSurelyLearnt 12 = .ok (.getfield 131, 3) := by decide +kernel
theorem dX10_howSurelyLearnt_15 : decode cX10_howSurelyLearnt 15 = .ok (.iadd, 1) := by decide +kernel
theorem dX10_howSurelyLearnt_16 : decode cX10_howSurelyLearnt 16 = .ok (.istore 4, 2) := by decide +kernel
theorem dX10_howSurelyLearnt_18 : decode cX10_howSurelyLearnt 18 = .ok (.aload_n 0, 1) := by decide +kernel
theorem dX10_howSurelyLearnt_19 : decode cX10_howSurelyLearnt 19 = .ok (.getfield 40, 3) := by decide +kernel
theorem dX10_howSurelyLearnt_22 : decode cX10_howSurelyLearnt 22 = .ok (.getfield 196, 3) := by decide +kernel
theorem dX10_howSurelyLearnt_25 : decode cX10_howSurelyLearnt 25 = .ok (.iconst 1, 1) := by decide +kernel
theorem dX10_howSurelyLearnt_26 : decode cX10_howSurelyLearnt 26 = .ok (.aaload, 1) := by decide +kernel
theorem dX10_howSurelyLearnt_27 : decode cX10_howSurelyLearnt 27 = .ok (.iload_n 1, 1) := by decide +kernel
theorem dX10_howSurelyLearnt_28 : decode cX10_howSurelyLearnt 28 = .ok (.iaload, 1) := by decide +kernel
theorem dX10_howSurelyLearnt_29 : decode cX10_howSurelyLearnt 29 = .ok (.istore 5, 2) := by decide +kernel
theorem dX10_howSurelyLearnt_31 : decode cX10_howSurelyLearnt 31 = .ok (.iload 4, 2) := by decide +kernel
theorem dX10_howSurelyLearnt_33 : decode cX10_howSurelyLearnt 33 = .ok (.iload 5, 2) := by decide +kernel
theorem dX10_howSurelyLearnt_35 : decode cX10_howSurelyLearnt 35 = .ok (.ifCond .ne 13, 3) := by decide +kernel
theorem dX10_howSurelyLearnt_38 : decode cX10_howSurelyLearnt 38 = .ok (.aload_n 0, 1) := by decide +kernel
theorem dX10_howSurelyLearnt_39 : decode cX10_howSurelyLearnt 39 = .ok (.getfield 26, 3) := by decide +kernel
theorem dX10_howSurelyLearnt_42 : decode cX10_howSurelyLearnt 42 = .ok (.getfield 137, 3) := by decide +kernel
theorem dX10_howSurelyLearnt_45 : decode cX10_howSurelyLearnt 45 = .ok (.goto 5, 3) := by decide +kernel
theorem dX10_howSurelyLearnt_48 : decode cX10_howSurelyLearnt 48 = .ok (.iload 5, 2) := by decide +kernel
theorem dX10_howSurelyLearnt_50 : decode cX10_howSurelyLearnt 50 = .ok (.isub, 1) := by decide +kernel
theorem dX10_howSurelyLearnt_51 : decode cX10_howSurelyLearnt 51 = .ok (.istore 6, 2) := by decide +kernel
theorem dX10_howSurelyLearnt_53 : decode cX10_howSurelyLearnt 53 = .ok (.iload 4, 2) := by decide +kernel
theorem dX10_howSurelyLearnt_55 : decode cX10_howSurelyLearnt 55 = .ok (.iload 5, 2) := by decide +kernel
theorem dX10_howSurelyLearnt_57 : decode cX10_howSurelyLearnt 57 = .ok (.ifCond .ne 13, 3) := by decide +kernel
theorem dX10_howSurelyLearnt_60 : decode cX10_howSurelyLearnt 60 = .ok (.aload_n 0, 1) := by decide +kernel
theorem dX10_howSurelyLearnt_61 : decode cX10_howSurelyLearnt 61 = .ok (.getfield 26, 3) := by decide +kernel
theorem dX10_howSurelyLearnt_64 : decode cX10_howSurelyLearnt 64 = .ok (.getfield 134, 3) := by decide +kernel
theorem dX10_howSurelyLearnt_67 : decode cX10_howSurelyLearnt 67 = .ok (.goto 5, 3) := by decide +kernel
theorem dX10_howSurelyLearnt_70 : decode cX10_howSurelyLearnt 70 = .ok (.iload 5, 2) := by decide +kernel
theorem dX10_howSurelyLearnt_72 : decode cX10_howSurelyLearnt 72 = .ok (.isub, 1) := by decide +kernel
theorem dX10_howSurelyLearnt_73 : decode cX10_howSurelyLearnt 73 = .ok (.istore 7, 2) := by decide +kernel
theorem dX10_howSurelyLearnt_75 : decode cX10_howSurelyLearnt 75 = .ok (.iload 6, 2) := by decide +kernel
theorem dX10_howSurelyLearnt_77 : decode cX10_howSurelyLearnt 77 = .ok (.iload_n 2, 1) := by decide +kernel
theorem dX10_howSurelyLearnt_78 : decode cX10_howSurelyLearnt 78 = .ok (.if_icmp .lt 11, 3) := by decide +kernel
theorem dX10_howSurelyLearnt_81 : decode cX10_howSurelyLearnt 81 = .ok (.iload 7, 2) := by decide +kernel
theorem dX10_howSurelyLearnt_83 : decode cX10_howSurelyLearnt 83 = .ok (.iload_n 3, 1) := by decide +kernel
theorem dX10_howSurelyLearnt_84 : decode cX10_howSurelyLearnt 84 = .ok (.if_icmp .gt 5, 3) := by decide +kernel
theorem dX10_howSurelyLearnt_87 : decode cX10_howSurelyLearnt 87 = .ok (.iconst 2, 1) := by decide +kernel
theorem dX10_howSurelyLearnt_88 : decode cX10_howSurelyLearnt 88 = .ok (.ireturn, 1) := by decide +kernel
theorem dX10_howSurelyLearnt_89 : decode cX10_howSurelyLearnt 89 = .ok (.iload 6, 2) := by decide +kernel
theorem dX10_howSurelyLearnt_91 : decode cX10_howSurelyLearnt 91 = .ok (.iload_n 3, 1) := by decide +kernel
theorem dX10_howSurelyLearnt_92 : decode cX10_howSurelyLearnt 92 = .ok (.if_icmp .gt 13, 3) := by decide +kernel
theorem dX10_howSurelyLearnt_95 : decode cX10_howSurelyLearnt 95 = .ok (.iload 7, 2) := by decide +kernel
theorem dX10_howSurelyLearnt_97 : decode cX10_howSurelyLearnt 97 = .ok (.iload_n 2, 1) := by decide +kernel
theorem dX10_howSurelyLearnt_98 : decode cX10_howSurelyLearnt 98 = .ok (.if_icmp .lt 7, 3) := by decide +kernel
theorem dX10_howSurelyLearnt_101 : decode cX10_howSurelyLearnt 101 = .ok (.iconst 1, 1) := by decide +kernel
theorem dX10_howSurelyLearnt_102 : decode cX10_howSurelyLearnt 102 = .ok (.goto 4, 3) := by decide +kernel
theorem dX10_howSurelyLearnt_105 : decode cX10_howSurelyLearnt 105 = .ok (.iconst 0, 1) := by decide +kernel
theorem dX10_howSurelyLearnt_106 : decode cX10_howSurelyLearnt 106 = .ok (.ireturn, 1) := by decide +kernel
theorem dX10_tallyGroups_0 : decode cX10_tallyGroups 0 = .ok (.aload_n 0, 1) := by decide +kernel
theorem dX10_tallyGroups_1 : decode cX10_tallyGroups 1 = .ok (.getfield 47, 3) := by decide +kernel
theorem dX10_tallyGroups_4 : decode cX10_tallyGroups 4 = .ok (.aload_n 0, 1) := by decide +kernel
theorem dX10_tallyGroups_5 : decode cX10_tallyGroups 5 = .ok (.getfield 40, 3) := by decide +kernel
theorem dX10_tallyGroups_8 : decode cX10_tallyGroups 8 = .ok (.aload_n 0, 1) := by decide +kernel
theorem dX10_tallyGroups_9 : decode cX10_tallyGroups 9 = .ok (.getfield 26, 3) := by decide +kernel
theorem dX10_tallyGroups_12 : decode cX10_tallyGroups 12 = .ok (.invokevirtual 163, 3) := by decide +kernel
theorem dX10_tallyGroups_15 : decode cX10_tallyGroups 15 = .ok (.aload_n 1, 1) := by decide +kernel
theorem dX10_tallyGroups_16 : decode cX10_tallyGroups 16 = .ok (.invokevirtual 422, 3) := by decide +kernel
theorem dX10_tallyGroups_19 : decode cX10_tallyGroups 19 = .ok (.iconst 0, 1) := by decide +kernel
theorem dX10_tallyGroups_20 : decode cX10_tallyGroups 20 = .ok (.istore 4, 2) := by decide +kernel
theorem dX10_tallyGroups_22 : decode cX10_tallyGroups 22 = .ok (.iload 4, 2) := by decide +kernel
theorem dX10_tallyGroups_24 : decode cX10_tallyGroups 24 = .ok (.aload_n 0, 1) := by decide +kernel
theorem dX10_tallyGroups_25 : decode cX10_tallyGroups 25 = .ok (.getfield 40, 3) := by decide +kernel
theorem dX10_tallyGroups_28 : decode cX10_tallyGroups 28 = .ok (.invokevirtual 167, 3) := by decide +kernel
theorem dX10_tallyGroups_31 : decode cX10_tallyGroups 31 = .ok (.if_icmp .ge 50, 3) := by decide +kernel
theorem dX10_tallyGroups_34 : decode cX10_tallyGroups 34 = .ok (.aload_n 0, 1) := by decide +kernel
theorem dX10_tallyGroups_35 : decode cX10_tallyGroups 35 = .ok (.getfield 54, 3) := by decide +kernel
theorem dX10_tallyGroups_38 : decode cX10_tallyGroups 38 = .ok (.iload_n 2, 1) := by decide +kernel
theorem dX10_tallyGroups_39 : decode cX10_tallyGroups 39 = .ok (.aaload, 1) := by decide +kernel
theorem dX10_tallyGroups_40 : decode cX10_tallyGroups 40 = .ok (.aload_n 0, 1) := by decide +kernel
theorem dX10_tallyGroups_41 : decode cX10_tallyGroups 41 = .ok (.getfield 40, 3) := by decide +kernel
theorem dX10_tallyGroups_44 : decode cX10_tallyGroups 44 = .ok (.iload 4, 2) := by decide +kernel
theorem dX10_tallyGroups_46 : decode cX10_tallyGroups 46 = .ok (.invokevirtual 406, 3) := by decide +kernel
theorem dX10_tallyGroups_49 : decode cX10_tallyGroups 49 = .ok (.ifCond .eq 26, 3) := by decide +kernel
theorem dX10_tallyGroups_52 : decode cX10_tallyGroups 52 = .ok (.aload_n 1, 1) := by decide +kernel
theorem dX10_tallyGroups_53 : decode cX10_tallyGroups 53 = .ok (.aload_n 0, 1) := by decide +kernel
theorem dX10_tallyGroups_54 : decode cX10_tallyGroups 54 = .ok (.getfield 40, 3) := by decide +kernel
theorem dX10_tallyGroups_57 : decode cX10_tallyGroups 57 = .ok (.iload 4, 2) := by decide +kernel
theorem dX10_tallyGroups_59 : decode cX10_tallyGroups 59 = .ok (.iload_n 3, 1) := by decide +kernel
theorem dX10_tallyGroups_60 : decode cX10_tallyGroups 60 = .ok (.invokevirtual 424, 3) := by decide +kernel
theorem dX10_tallyGroups_63 : decode cX10_tallyGroups 63 = .ok (.aload_n 0, 1) := by decide +kernel
theorem dX10_tallyGroups_64 : decode cX10_tallyGroups 64 = .ok (.getfield 47, 3) := by decide +kernel
theorem dX10_tallyGroups_67 : decode cX10_tallyGroups 67 = .ok (.iload 4, 2) := by decide +kernel
theorem dX10_tallyGroups_69 : decode cX10_tallyGroups 69 = .ok (.invokevirtual 413, 3) := by decide +kernel
theorem dX10_tallyGroups_72 : decode cX10_tallyGroups 72 = .ok (.invokevirtual 427, 3) := by decide +kernel
theorem dX10_tallyGroups_75 : decode cX10_tallyGroups 75 = .ok (.iinc 4 1, 3) := by decide +kernel
theorem dX10_tallyGroups_78 : decode cX10_tallyGroups 78 = .ok (.goto (-56), 3) := by decide +kernel
theorem dX10_tallyGroups_81 : decode cX10_tallyGroups 81 = .ok (.return_, 1) := by decide +kernel
theorem dX10_tallyTens_0 : decode cX10_tallyTens 0 = .ok (.aload_n 0, 1) := by decide +kernel
theorem dX10_tallyTens_1 : decode cX10_tallyTens 1 = .ok (.getfield 47, 3) := by decide +kernel
theorem dX10_tallyTens_4 : decode cX10_tallyTens 4 = .ok (.aload_n 0, 1) := by decide +kernel
theorem dX10_tallyTens_5 : decode cX10_tallyTens 5 = .ok (.getfield 40, 3) := by decide +kernel
theorem dX10_tallyTens_8 : decode cX10_tallyTens 8 = .ok (.aload_n 0, 1) := by decide +kernel
theorem dX10_tallyTens_9 : decode cX10_tallyTens 9 = .ok (.getfield 26, 3) := by decide +kernel
theorem dX10_tallyTens_12 : decode cX10_tallyTens 12 = .ok (.invokevirtual 163, 3) := by decide +kernel
theorem dX10_tallyTens_15 : decode cX10_tallyTens 15 = .ok (.aload_n 0, 1) := by decide +kernel
theorem dX10_tallyTens_16 : decode cX10_tallyTens 16 = .ok (.getfield 82, 3) := by decide +kernel
theorem dX10_tallyTens_19 : decode cX10_tallyTens 19 = .ok (.invokevirtual 422, 3) := by decide +kernel
theorem dX10_tallyTens_22 : decode cX10_tallyTens 22 = .ok (.iconst 0, 1) := by decide +kernel
theorem dX10_tallyTens_23 : decode cX10_tallyTens 23 = .ok (.istore_n 2, 1) := by decide +kernel
theorem dX10_tallyTens_24 : decode cX10_tallyTens 24 = .ok (.iload_n 2, 1) := by decide +kernel
theorem dX10_tallyTens_25 : decode cX10_tallyTens 25 = .ok (.aload_n 0, 1) := by decide +kernel
theorem dX10_tallyTens_26 : decode cX10_tallyTens 26 = .ok (.getfield 40, 3) := by decide +kernel
theorem dX10_tallyTens_29 : decode cX10_tallyTens 29 = .ok (.invokevirtual 167, 3) := by decide +kernel
theorem dX10_tallyTens_32 : decode cX10_tallyTens 32 = .ok (.if_icmp .ge 97, 3) := by decide +kernel
theorem dX10_tallyTens_35 : decode cX10_tallyTens 35 = .ok (.aload_n 0, 1) := by decide +kernel
theorem dX10_tallyTens_36 : decode cX10_tallyTens 36 = .ok (.getfield 40, 3) := by decide +kernel
theorem dX10_tallyTens_39 : decode cX10_tallyTens 39 = .ok (.getfield 196, 3) := by decide +kernel
theorem dX10_tallyTens_42 : decode cX10_tallyTens 42 = .ok (.iconst 1, 1) := by decide +kernel
theorem dX10_tallyTens_43 : decode cX10_tallyTens 43 = .ok (.aaload, 1) := by decide +kernel
theorem dX10_tallyTens_44 : decode cX10_tallyTens 44 = .ok (.iload_n 2, 1) := by decide +kernel
theorem dX10_tallyTens_45 : decode cX10_tallyTens 45 = .ok (.iaload, 1) := by decide +kernel
theorem dX10_tallyTens_46 : decode cX10_tallyTens 46 = .ok (.istore_n 3, 1) := by decide +kernel
theorem dX10_tallyTens_47 : decode cX10_tallyTens 47 = .ok (.aload_n 0, 1) := by decide +kernel
theorem dX10_tallyTens_48 : decode cX10_tallyTens 48 = .ok (.getfield 40, 3) := by decide +kernel
theorem dX10_tallyTens_51 : decode cX10_tallyTens 51 = .ok (.iload_n 2, 1) := by decide +kernel
theorem dX10_tallyTens_52 : decode cX10_tallyTens 52 = .ok (.invokevirtual 419, 3) := by decide +kernel
theorem dX10_tallyTens_55 : decode cX10_tallyTens 55 = .ok (.iload_n 3, 1) := by decide +kernel
theorem dX10_tallyTens_56 : decode cX10_tallyTens 56 = .ok (.isub, 1) := by decide +kernel
theorem dX10_tallyTens_57 : decode cX10_tallyTens 57 = .ok (.aload_n 0, 1) := by decide +kernel
theorem dX10_tallyTens_58 : decode cX10_tallyTens 58 = .ok (.getfield 26, 3) := by decide +kernel
theorem dX10_tallyTens_61 : decode cX10_tallyTens 61 = .ok (.getfield 131, 3) := by decide +kernel
theorem dX10_tallyTens_64 : decode cX10_tallyTens 64 = .ok (.iadd, 1) := by decide +kernel
theorem dX10_tallyTens_65 : decode cX10_tallyTens 65 = .ok (.istore 4, 2) := by decide +kernel
theorem dX10_tallyTens_67 : decode cX10_tallyTens 67 = .ok (.iload_n 3, 1) := by decide +kernel
theorem dX10_tallyTens_68 : decode cX10_tallyTens 68 = .ok (.ifCond .eq 55, 3) := by decide +kernel
theorem dX10_tallyTens_71 : decode cX10_tallyTens 71 = .ok (.iload 4, 2) := by decide +kernel
theorem dX10_tallyTens_73 : decode cX10_tallyTens 73 = .ok (.bipush (-60), 2) := by decide +kernel
theorem dX10_tallyTens_75 : decode cX10_tallyTens 75 = .ok (.bipush 89, 2) := by decide +kernel
theorem dX10_tallyTens_77 : decode cX10_tallyTens 77 = .ok (.invokestatic 108, 3) := by decide +kernel
theorem dX10_tallyTens_80 : decode cX10_tallyTens 80 = .ok (.ifCond .eq 43, 3) := by decide +kernel
theorem dX10_tallyTens_83 : decode cX10_tallyTens 83 = .ok (.aload_n 0, 1) := by decide +kernel
theorem dX10_tallyTens_84 : decode cX10_tallyTens 84 = .ok (.getfield 54, 3) := by decide +kernel
theorem dX10_tallyTens_87 : decode cX10_tallyTens 87 = .ok (.iload_n 1, 1) := by decide +kernel
theorem dX10_tallyTens_88 : decode cX10_tallyTens 88 = .ok (.aaload, 1) := by decide +kernel
theorem dX10_tallyTens_89 : decode cX10_tallyTens 89 = .ok (.aload_n 0, 1) := by decide +kernel
theorem dX10_tallyTens_90 : decode cX10_tallyTens 90 = .ok (.getfield 40, 3) := by decide +kernel
theorem dX10_tallyTens_93 : decode cX10_tallyTens 93 = .ok (.iload_n 2, 1) := by decide +kernel
theorem dX10_tallyTens_94 : decode cX10_tallyTens 94 = .ok (.invokevirtual 406, 3) := by decide +kernel
theorem dX10_tallyTens_97 : decode cX10_tallyTens 97 = .ok (.ifCond .eq 26, 3) := by decide +kernel
theorem dX10_tallyTens_100 : decode cX10_tallyTens 100 = .ok (.aload_n 0, 1) := by decide +kernel
theorem dX10_tallyTens_101 : decode cX10_tallyTens 101 = .ok (.getfield 82, 3) := by decide +kernel
theorem dX10_tallyTens_104 : decode cX10_tallyTens 104 = .ok (.iload 4, 2) := by decide +kernel
theorem dX10_tallyTens_106 : decode cX10_tallyTens 106 = .ok (.bipush (-60), 2) := by decide +kernel
theorem dX10_tallyTens_108 : decode cX10_tallyTens 108 = .ok (.isub, 1) := by decide +kernel
theorem dX10_tallyTens_109 : decode cX10_tallyTens 109 = .ok (.bipush 10, 2) := by decide +kernel
theorem dX10_tallyTens_111 : decode cX10_tallyTens 111 = .ok (.idiv, 1) := by decide +kernel
theorem dX10_tallyTens_112 : decode cX10_tallyTens 112 = .ok (.aload_n 0, 1) := by decide +kernel
theorem dX10_tallyTens_113 : decode cX10_tallyTens 113 = .ok (.getfield 47, 3) := by decide +kernel
theorem dX10_tallyTens_116 : decode cX10_tallyTens 116 = .ok (.iload_n 2, 1) := by decide +kernel
theorem dX10_tallyTens_117 : decode cX10_tallyTens 117 = .ok (.invokevirtual 413, 3) := by decide +kernel
theorem dX10_tallyTens_120 : decode cX10_tallyTens 120 = .ok (.invokevirtual 427, 3) := by decide +kernel
theorem dX10_tallyTens_123 : decode cX10_tallyTens 123 = .ok (.iinc 2 1, 3) := by decide +kernel
theorem dX10_tallyTens_126 : decode cX10_tallyTens 126 = .ok (.goto (-102), 3) := by decide +kernel
theorem dX10_tallyTens_129 : decode cX10_tallyTens 129 = .ok (.return_, 1) := by decide +kernel
theorem dX10_tallyQuarters_0 : decode cX10_tallyQuarters 0 = .ok (.aload_n 0, 1) := by decide +kernel
theorem dX10_tallyQuarters_1 : decode cX10_tallyQuarters 1 = .ok (.getfield 47, 3) := by decide +kernel
theorem dX10_tallyQuarters_4 : decode cX10_tallyQuarters 4 = .ok (.aload_n 0, 1) := by decide +kernel
theorem dX10_tallyQuarters_5 : decode cX10_tallyQuarters 5 = .ok (.getfield 40, 3) := by decide +kernel
theorem dX10_tallyQuarters_8 : decode cX10_tallyQuarters 8 = .ok (.aload_n 0, 1) := by decide +kernel
theorem dX10_tallyQuarters_9 : decode cX10_tallyQuarters 9 = .ok (.getfield 26, 3) := by decide +kernel
theorem dX10_tallyQuarters_12 : decode cX10_tallyQuarters 12 = .ok (.invokevirtual 163, 3) := by decide +kernel
theorem dX10_tallyQuarters_15 : decode cX10_tallyQuarters 15 = .ok (.aload_n 0, 1) := by decide +kernel
theorem dX10_tallyQuarters_16 : decode cX10_tallyQuarters 16 = .ok (.getfield 82, 3) := by decide +kernel
theorem dX10_tallyQuarters_19 : decode cX10_tallyQuarters 19 = .ok (.invokevirtual 422, 3) := by decide +kernel
theorem dX10_tallyQuarters_22 : decode cX10_tallyQuarters 22 = .ok (.iconst 0, 1) := by decide +kernel
theorem dX10_tallyQuarters_23 : decode cX10_tallyQuarters 23 = .ok (.istore_n 3, 1) := by decide +kernel
theorem dX10_tallyQuarters_24 : decode cX10_tallyQuarters 24 = .ok (.iload_n 3, 1) := by decide +kernel
theorem dX10_tallyQuarters_25 : decode cX10_tallyQuarters 25 = .ok (.aload_n 0, 1) := by decide +kernel
theorem dX10_tallyQuarters_26 : decode cX10_tallyQuarters 26 = .ok (.getfield 40, 3) := by decide +kernel
theorem dX10_tallyQuarters_29 : decode cX10_tallyQuarters 29 = .ok (.invokevirtual 167, 3) := by decide +kernel
theorem dX10_tallyQuarters_32 : decode cX10_tallyQuarters 32 = .ok (.if_icmp .ge 105, 3) := by decide +kernel
theorem dX10_tallyQuarters_35 : decode cX10_tallyQuarters 35 = .ok (.aload_n 0, 1) := by decide +kernel
theorem dX10_tallyQuarters_36 : decode cX10_tallyQuarters 36 = .ok (.getfield 54, 3) := by decide +kernel
theorem dX10_tallyQuarters_39 : decode cX10_tallyQuarters 39 = .ok (.iconst 0, 1) := by decide +kernel
theorem dX10_tallyQuarters_40 : decode cX10_tallyQuarters 40 = .ok (.aaload, 1) := by decide +kernel
theorem dX10_tallyQuarters_41 : decode cX10_tallyQuarters 41 = .ok (.aload_n 0, 1) := by decide +kernel
theorem dX10_tallyQuarters_42 : decode cX10_tallyQuarters 42 = .ok (.getfield 40, 3) := by decide +kernel
theorem dX10_tallyQuarters_45 : decode cX10_tallyQuarters 45 = .ok (.iload_n 3, 1) := by decide +kernel
theorem dX10_tallyQuarters_46 : decode cX10_tallyQuarters 46 = .ok (.invokevirtual 406, 3) := by decide +kernel
theorem dX10_tallyQuarters_49 : decode cX10_tallyQuarters 49 = .ok (.ifCond .eq 82, 3) := by decide +kernel
theorem dX10_tallyQuarters_52 : decode cX10_tallyQuarters 52 = .ok (.aload_n 0, 1) := by decide +kernel
theorem dX10_tallyQuarters_53 : decode cX10_tallyQuarters 53 = .ok (.getfield 26, 3) := by decide +kernel
theorem dX10_tallyQuarters_56 : decode cX10_tallyQuarters 56 = .ok (.getfield 157, 3) := by decide +kernel
theorem dX10_tallyQuarters_59 : decode cX10_tallyQuarters 59 = .ok (.iconst 2, 1) := by decide +kernel
theorem dX10_tallyQuarters_60 : decode cX10_tallyQuarters 60 = .ok (.iload_n 1, 1) := by decide +kernel
theorem dX10_tallyQuarters_61 : decode cX10_tallyQuarters 61 = .ok (.iadd, 1) := by decide +kernel
theorem dX10_tallyQuarters_62 : decode cX10_tallyQuarters 62 = .ok (.aaload, 1) := by decide +kernel
theorem dX10_tallyQuarters_63 : decode cX10_tallyQuarters 63 = .ok (.aload_n 0, 1) := by decide +kernel
theorem dX10_tallyQuarters_64 : decode cX10_tallyQuarters 64 = .ok (.getfield 40, 3) := by decide +kernel
theorem dX10_tallyQuarters_67 : decode cX10_tallyQuarters 67 = .ok (.getfield 202, 3) := by decide +kernel
theorem dX10_tallyQuarters_70 : decode cX10_tallyQuarters 70 = .ok (.iconst 0, 1) := by decide +kernel
theorem dX10_tallyQuarters_71 : decode cX10_tallyQuarters 71 = .ok (.aaload, 1) := by decide +kernel
theorem dX10_tallyQuarters_72 : decode cX10_tallyQuarters 72 = .ok (.iload_n 3, 1) := by decide +kernel
theorem dX10_tallyQuarters_73 : decode cX10_tallyQuarters 73 = .ok (.iconst 2, 1) := by decide +kernel
theorem dX10_tallyQuarters_74 : decode cX10_tallyQuarters 74 = .ok (.idiv, 1) := by decide +kernel
theorem dX10_tallyQuarters_75 : decode cX10_tallyQuarters 75 = .ok (.iaload, 1) := by decide +kernel
theorem dX10_tallyQuarters_76 : decode cX10_tallyQuarters 76 = .ok (.iaload, 1) := by decide +kernel
theorem dX10_tallyQuarters_77 : decode cX10_tallyQuarters 77 = .ok (.istore 4, 2) := by decide +kernel
theorem dX10_tallyQuarters_79 : decode cX10_tallyQuarters 79 = .ok (.iload 4, 2) := by decide +kernel
theorem dX10_tallyQuarters_81 : decode cX10_tallyQuarters 81 = .ok (.iconst 0, 1) := by decide +kernel
theorem dX10_tallyQuarters_82 : decode cX10_tallyQuarters 82 = .ok (.iload_n 2, 1) := by decide +kernel
theorem dX10_tallyQuarters_83 : decode cX10_tallyQuarters 83 = .ok (.invokestatic 108, 3) := by decide +kernel
theorem dX10_tallyQuarters_86 : decode cX10_tallyQuarters 86 = .ok (.ifCond .eq 7, 3) := by decide +kernel
theorem dX10_tallyQuarters_89 : decode cX10_tallyQuarters 89 = .ok (.iconst 2, 1) := by decide +kernel
theorem dX10_tallyQuarters_90 : decode cX10_tallyQuarters 90 = .ok (.goto 4, 3) := by decide +kernel
theorem dX10_tallyQuarters_93 : decode cX10_tallyQuarters 93 = .ok (.iconst 0, 1) := by decide +kernel
theorem dX10_tallyQuarters_94 : decode cX10_tallyQuarters 94 = .ok (.istore 5, 2) := by decide +kernel
theorem dX10_tallyQuarters_96 : decode cX10_tallyQuarters 96 = .ok (.aload_n 0, 1) := by decide +kernel
theorem dX10_tallyQuarters_97 : decode cX10_tallyQuarters 97 = .ok (.getfield 82, 3) := by decide +kernel
theorem dX10_tallyQuarters_100 : decode cX10_tallyQuarters 100 = .ok (.iload 5, 2) := by decide +kernel
theorem dX10_tallyQuarters_102 : decode cX10_tallyQuarters 102 = .ok (.aload_n 0, 1) := by decide +kernel
theorem dX10_tallyQuarters_103 : decode cX10_tallyQuarters 103 = .ok (.getfield 40, 3) := by decide +kernel
theorem dX10_tallyQuarters_106 : decode cX10_tallyQuarters 106 = .ok (.iload_n 3, 1) := by decide +kernel
theorem dX10_tallyQuarters_107 : decode cX10_tallyQuarters 107 = .ok (.invokevirtual 419, 3) := by decide +kernel
theorem dX10_tallyQuarters_110 : decode cX10_tallyQuarters 110 = .ok (.iload_n 2, 1) := by decide +kernel
theorem dX10_tallyQuarters_111 : decode cX10_tallyQuarters 111 = .ok (.if_icmp .lt 7, 3) := by decide +kernel
theorem dX10_tallyQuarters_114 : decode cX10_tallyQuarters 114 = .ok (.iconst 1, 1) := by decide +kernel
theorem dX10_tallyQuarters_115 : decode cX10_tallyQuarters 115 = .ok (.goto 4, 3) := by decide +kernel
theorem dX10_tallyQuarters_118 : decode cX10_tallyQuarters 118 = .ok (.iconst 0, 1) := by decide +kernel
theorem dX10_tallyQuarters_119 : decode cX10_tallyQuarters 119 = .ok (.iadd, 1) := by decide +kernel
theorem dX10_tallyQuarters_120 : decode cX10_tallyQuarters 120 = .ok (.aload_n 0, 1) := by decide +kernel
theorem dX10_tallyQuarters_121 : decode cX10_tallyQuarters 121 = .ok (.getfield 47, 3) := by decide +kernel
theorem dX10_tallyQuarters_124 : decode cX10_tallyQuarters 124 = .ok (.iload_n 3, 1) := by decide +kernel
theorem dX10_tallyQuarters_125 : decode cX10_tallyQuarters 125 = .ok (.invokevirtual 413, 3) := by decide +kernel
theorem dX10_tallyQuarters_128 : decode cX10_tallyQuarters 128 = .ok (.invokevirtual 427, 3) := by decide +kernel
theorem dX10_tallyQuarters_131 : decode cX10_tallyQuarters 131 = .ok (.iinc 3 1, 3) := by decide +kernel
theorem dX10_tallyQuarters_134 : decode cX10_tallyQuarters 134 = .ok (.goto (-110), 3) := by decide +kernel
theorem dX10_tallyQuarters_137 : decode cX10_tallyQuarters 137 = .ok (.return_, 1) := by decide +kernel
theorem dX10_fractionOrNone_0 : decode cX10_fractionOrNone 0 = .ok (.iload_n 2, 1) := by decide +kernel
theorem dX10_fractionOrNone_1 : decode cX10_fractionOrNone 1 = .ok (.ifCond .ne 6, 3) := by decide +kernel
theorem dX10_fractionOrNone_4 : decode cX10_fractionOrNone 4 = .ok (.bipush (-4), 2) := by decide +kernel
theorem dX10_fractionOrNone_6 : decode cX10_fractionOrNone 6 = .ok (.ireturn, 1) := by decide +kernel
theorem dX10_fractionOrNone_7 : decode cX10_fractionOrNone 7 = .ok (.aload_n 0, 1) := by decide +kernel
theorem dX10_fractionOrNone_8 : decode cX10_fractionOrNone 8 = .ok (.getfield 88, 3) := by decide +kernel
theorem dX10_fractionOrNone_11 : decode cX10_fractionOrNone 11 = .ok (.iload_n 1, 1) := by decide +kernel
theorem dX10_fractionOrNone_12 : decode cX10_fractionOrNone 12 = .ok (.i2l, 1) := by decide +kernel
theorem dX10_fractionOrNone_13 : decode cX10_fractionOrNone 13 = .ok (.iload_n 2, 1) := by decide +kernel
theorem dX10_fractionOrNone_14 : decode cX10_fractionOrNone 14 = .ok (.i2l, 1) := by decide +kernel
theorem dX10_fractionOrNone_15 : decode cX10_fractionOrNone 15 = .ok (.invokevirtual 281, 3) := by decide +kernel
theorem dX10_fractionOrNone_18 : decode cX10_fractionOrNone 18 = .ok (.aload_n 0, 1) := by decide +kernel
theorem dX10_fractionOrNone_19 : decode cX10_fractionOrNone 19 = .ok (.getfield 88, 3) := by decide +kernel
theorem dX10_fractionOrNone_22 : decode cX10_fractionOrNone 22 = .ok (.iload_n 3, 1) := by decide +kernel
theorem dX10_fractionOrNone_23 : decode cX10_fractionOrNone 23 = .ok (.invokevirtual 297, 3) := by decide +kernel
theorem dX10_fractionOrNone_26 : decode cX10_fractionOrNone 26 = .ok (.l2i, 1) := by decide +kernel
theorem dX10_fractionOrNone_27 : decode cX10_fractionOrNone 27 = .ok (.ireturn, 1) := by decide +kernel
theorem dX10_allHaveMarks_0 : decode cX10_allHaveMarks 0 = .ok (.iconst 0, 1) := by decide +kernel
theorem dX10_allHaveMarks_1 : decode cX10_allHaveMarks 1 = .ok (.istore_n 2, 1) := by decide +kernel
theorem dX10_allHaveMarks_2 : decode cX10_allHaveMarks 2 = .ok (.iload_n 2, 1) := by decide +kernel
theorem dX10_allHaveMarks_3 : decode cX10_allHaveMarks 3 = .ok (.aload_n 0, 1) := by decide +kernel
theorem dX10_allHaveMarks_4 : decode cX10_allHaveMarks 4 = .ok (.getfield 26, 3) := by decide +kernel
theorem dX10_allHaveMarks_7 : decode cX10_allHaveMarks 7 = .ok (.getfield 125, 3) := by decide +kernel
theorem dX10_allHaveMarks_10 : decode cX10_allHaveMarks 10 = .ok (.if_icmp .ge 31, 3) := by decide +kernel
theorem dX10_allHaveMarks_13 : decode cX10_allHaveMarks 13 = .ok (.iload_n 1, 1) := by decide +kernel
theorem dX10_allHaveMarks_14 : decode cX10_allHaveMarks 14 = .ok (.iload_n 2, 1) := by decide +kernel
theorem dX10_allHaveMarks_15 : decode cX10_allHaveMarks 15 = .ok (.invokestatic 284, 3) := by decide +kernel
theorem dX10_allHaveMarks_18 : decode cX10_allHaveMarks 18 = .ok (.ifCond .eq 17, 3) := by decide +kernel
theorem dX10_allHaveMarks_21 : decode cX10_allHaveMarks 21 = .ok (.aload_n 0, 1) := by decide +kernel
theorem dX10_allHaveMarks_22 : decode cX10_allHaveMarks 22 = .ok (.getfield 82, 3) := by decide +kernel
theorem dX10_allHaveMarks_25 : decode cX10_allHaveMarks 25 = .ok (.getfield 242, 3) := by decide +kernel
theorem dX10_allHaveMarks_28 : decode cX10_allHaveMarks 28 = .ok (.iload_n 2, 1) := by decide +kernel
theorem dX10_allHaveMarks_29 : decode cX10_allHaveMarks 29 = .ok (.iaload, 1) := by decide +kernel
theorem dX10_allHaveMarks_30 : decode cX10_allHaveMarks 30 = .ok (.ifCond .ne 5, 3) := by decide +kernel
theorem dX10_allHaveMarks_33 : decode cX10_allHaveMarks 33 = .ok (.iconst 0, 1) := by decide +kernel
theorem dX10_allHaveMarks_34 : decode cX10_allHaveMarks 34 = .ok (.ireturn, 1) := by decide +kernel
theorem dX10_allHaveMarks_35 : decode cX10_allHaveMarks 35 = .ok (.iinc 2 1, 3) := by decide +kernel
theorem dX10_allHaveMarks_38 : decode cX10_allHaveMarks 38 = .ok (.goto (-36), 3) := by decide +kernel
theorem dX10_allHaveMarks_41 : decode cX10_allHaveMarks 41 = .ok (.iconst 1, 1) := by decide +kernel
theorem dX10_allHaveMarks_42 : decode cX10_allHaveMarks 42 = .ok (.ireturn, 1) := by decide +kernel
theorem dX10_largestBelow_0 : decode cX10_largestBelow 0 = .ok (.iconst (-1), 1) := by decide +kernel
theorem dX10_largestBelow_1 : decode cX10_largestBelow 1 = .ok (.istore_n 3, 1) := by decide +kernel
theorem dX10_largestBelow_2 : decode cX10_largestBelow 2 = .ok (.iconst 0, 1) := by decide +kernel
theorem dX10_largestBelow_3 : decode cX10_largestBelow 3 = .ok (.istore 4, 2) := by decide +kernel
theorem dX10_largestBelow_5 : decode cX10_largestBelow 5 = .ok (.iload 4, 2) := by decide +kernel
theorem dX10_largestBelow_7 : decode cX10_largestBelow 7 = .ok (.iload_n 1, 1) := by decide +kernel
theorem dX10_largestBelow_8 : decode cX10_largestBelow 8 = .ok (.if_icmp .ge 76, 3) := by decide +kernel
theorem dX10_largestBelow_11 : decode cX10_largestBelow 11 = .ok (.aload_n 0, 1) := by decide +kernel
theorem dX10_largestBelow_12 : decode cX10_largestBelow 12 = .ok (.getfield 82, 3) := by decide +kernel
theorem dX10_largestBelow_15 : decode cX10_largestBelow 15 = .ok (.getfield 242, 3) := by decide +kernel
theorem dX10_largestBelow_18 : decode cX10_largestBelow 18 = .ok (.iload 4, 2) := by decide +kernel
theorem dX10_largestBelow_20 : decode cX10_largestBelow 20 = .ok (.iaload, 1) := by decide +kernel
theorem dX10_largestBelow_21 : decode cX10_largestBelow 21 = .ok (.ifCond .le 16, 3) := by decide +kernel
theorem dX10_largestBelow_24 : decode cX10_largestBelow 24 = .ok (.iload_n 2, 1) := by decide +kernel
theorem dX10_largestBelow_25 : decode cX10_largestBelow 25 = .ok (.iload 4, 2) := by decide +kernel
theorem dX10_largestBelow_27 : decode cX10_largestBelow 27 = .ok (.invokestatic 284, 3) := by decide +kernel
theorem dX10_largestBelow_30 : decode cX10_largestBelow 30 = .ok (.ifCond .ne 7, 3) := by decide +kernel
theorem dX10_largestBelow_33 : decode cX10_largestBelow 33 = .ok (.iconst 1, 1) := by decide +kernel
theorem dX10_largestBelow_34 : decode cX10_largestBelow 34 = .ok (.goto 4, 3) := by decide +kernel
theorem dX10_largestBelow_37 : decode cX10_largestBelow 37 = .ok (.iconst 0, 1) := by decide +kernel
theorem dX10_largestBelow_38 : decode cX10_largestBelow 38 = .ok (.istore 5, 2) := by decide +kernel
theorem dX10_largestBelow_40 : decode cX10_largestBelow 40 = .ok (.iload 5, 2) := by decide +kernel
theorem dX10_largestBelow_42 : decode cX10_largestBelow 42 = .ok (.ifCond .eq 36, 3) := by decide +kernel
theorem dX10_largestBelow_45 : decode cX10_largestBelow 45 = .ok (.iload_n 3, 1) := by decide +kernel
theorem dX10_largestBelow_46 : decode cX10_largestBelow 46 = .ok (.ifCond .lt 29, 3) := by decide +kernel
theorem dX10_largestBelow_49 : decode cX10_largestBelow 49 = .ok (.aload_n 0, 1) := by decide +kernel
theorem dX10_largestBelow_50 : decode cX10_largestBelow 50 = .ok (.getfield 26, 3) := by decide +kernel
theorem dX10_largestBelow_53 : decode cX10_largestBelow 53 = .ok (.getfield 157, 3) := by decide +kernel
theorem dX10_largestBelow_56 : decode cX10_largestBelow 56 = .ok (.iconst 0, 1) := by decide +kernel
theorem dX10_largestBelow_57 : decode cX10_largestBelow 57 = .ok (.aaload, 1) := by decide +kernel
theorem dX10_largestBelow_58 : decode cX10_largestBelow 58 = .ok (.iload 4, 2) := by decide +kernel
theorem dX10_largestBelow_60 : decode cX10_largestBelow 60 = .ok (.iaload, 1) := by decide +kernel
theorem dX10_largestBelow_61 : decode cX10_largestBelow 61 = .ok (.aload_n 0, 1) := by decide +kernel
theorem dX10_largestBelow_62 : decode cX10_largestBelow 62 = .ok (.getfield 26, 3) := by decide +kernel
theorem dX10_largestBelow_65 : decode cX10_largestBelow 65 = .ok (.getfield 157, 3) := by decide +kernel
theorem dX10_largestBelow_68 : decode cX10_largestBelow 68 = .ok (.iconst 0, 1) := by decide +kernel
theorem dX10_largestBelow_69 : decode cX10_largestBelow 69 = .ok (.aaload, 1) := by decide +kernel
theorem dX10_largestBelow_70 : decode cX10_largestBelow 70 = .ok (.iload_n 3, 1) := by decide +kernel
theorem dX10_largestBelow_71 : decode cX10_largestBelow 71 = .ok (.iaload, 1) := by decide +kernel
theorem dX10_largestBelow_72 : decode cX10_largestBelow 72 = .ok (.if_icmp .le 6, 3) := by decide +kernel
theorem dX10_largestBelow_75 : decode cX10_largestBelow 75 = .ok (.iload 4, 2) := by decide +kernel
theorem dX10_largestBelow_77 : decode cX10_largestBelow 77 = .ok (.istore_n 3, 1) := by decide +kernel
theorem dX10_largestBelow_78 : decode cX10_largestBelow 78 = .ok (.iinc 4 1, 3) := by decide +kernel
theorem dX10_largestBelow_81 : decode cX10_largestBelow 81 = .ok (.goto (-76), 3) := by decide +kernel
theorem dX10_largestBelow_84 : decode cX10_largestBelow 84 = .ok (.iload_n 3, 1) := by decide +kernel
theorem dX10_largestBelow_85 : decode cX10_largestBelow 85 = .ok (.ireturn, 1) := by decide +kernel
theorem dX10_leastDrawn_0 : decode cX10_leastDrawn 0 = .ok (.iload_n 2, 1) := by decide +kernel
theorem dX10_leastDrawn_1 : decode cX10_leastDrawn 1 = .ok (.iconst 1, 1) := by decide +kernel
theorem dX10_leastDrawn_2 : decode cX10_leastDrawn 2 = .ok (.if_icmp .ge 7, 3) := by decide +kernel
theorem dX10_leastDrawn_5 : decode cX10_leastDrawn 5 = .ok (.iload_n 0, 1) := by decide +kernel
theorem dX10_leastDrawn_6 : decode cX10_leastDrawn 6 = .ok (.goto 10, 3) := by decide +kernel
theorem dX10_leastDrawn_9 : decode cX10_leastDrawn 9 = .ok (.iload_n 0, 1) := by decide +kernel
theorem dX10_leastDrawn_10 : decode cX10_leastDrawn 10 = .ok (.iload_n 0, 1) := by decide +kernel
theorem dX10_leastDrawn_11 : decode cX10_leastDrawn 11 = .ok (.iload_n 1, 1) := by decide +kernel
theorem dX10_leastDrawn_12 : decode cX10_leastDrawn 12 = .ok (.imul, 1) := by decide +kernel
theorem dX10_leastDrawn_13 : decode cX10_leastDrawn 13 = .ok (.iload_n 2, 1) := by decide +kernel
theorem dX10_leastDrawn_14 : decode cX10_leastDrawn 14 = .ok (.idiv, 1) := by decide +kernel
theorem dX10_leastDrawn_15 : decode cX10_leastDrawn 15 = .ok (.isub, 1) := by decide +kernel
theorem dX10_leastDrawn_16 : decode cX10_leastDrawn 16 = .ok (.ireturn, 1) := by decide +kernel
theorem dX10_fewestBelow_0 : decode cX10_fewestBelow 0 = .ok (.iconst 0, 1) := by decide +kernel
theorem dX10_fewestBelow_1 : decode cX10_fewestBelow 1 = .ok (.istore_n 3, 1) := by decide +kernel
theorem dX10_fewestBelow_2 : decode cX10_fewestBelow 2 = .ok (.iconst 0, 1) := by decide +kernel
theorem dX10_fewestBelow_3 : decode cX10_fewestBelow 3 = .ok (.istore 4, 2) := by decide +kernel
theorem dX10_fewestBelow_5 : decode cX10_fewestBelow 5 = .ok (.iload_n 2, 1) := by decide +kernel
theorem dX10_fewestBelow_6 : decode cX10_fewestBelow 6 = .ok (.istore 5, 2) := by decide +kernel
theorem dX10_fewestBelow_8 : decode cX10_fewestBelow 8 = .ok (.iload 5, 2) := by decide +kernel
theorem dX10_fewestBelow_10 : decode cX10_fewestBelow 10 = .ok (.ifCond .le 55, 3) := by decide +kernel
theorem dX10_fewestBelow_13 : decode cX10_fewestBelow 13 = .ok (.iload 4, 2) := by decide +kernel
theorem dX10_fewestBelow_15 : decode cX10_fewestBelow 15 = .ok (.bipush 12, 2) := by decide +kernel
theorem dX10_fewestBelow_17 : decode cX10_fewestBelow 17 = .ok (.if_icmp .gt 48, 3) := by decide +kernel
theorem dX10_fewestBelow_20 : decode cX10_fewestBelow 20 = .ok (.aload_n 0, 1) := by decide +kernel
theorem dX10_fewestBelow_21 : decode cX10_fewestBelow 21 = .ok (.iload_n 1, 1) := by decide +kernel
theorem dX10_fewestBelow_22 : decode cX10_fewestBelow 22 = .ok (.iload_n 3, 1) := by decide +kernel
theorem dX10_fewestBelow_23 : decode cX10_fewestBelow 23 = .ok (.invokevirtual 301, 3) := by decide +kernel
theorem dX10_fewestBelow_26 : decode cX10_fewestBelow 26 = .ok (.istore 6, 2) := by decide +kernel
theorem dX10_fewestBelow_28 : decode cX10_fewestBelow 28 = .ok (.iload 6, 2) := by decide +kernel
theorem dX10_fewestBelow_30 : decode cX10_fewestBelow 30 = .ok (.ifCond .ge 5, 3) := by decide +kernel
theorem dX10_fewestBelow_33 : decode cX10_fewestBelow 33 = .ok (.iconst (-1), 1) := by decide +kernel
theorem dX10_fewestBelow_34 : decode cX10_fewestBelow 34 = .ok (.ireturn, 1) := by decide +kernel
theorem dX10_fewestBelow_35 : decode cX10_fewestBelow 35 = .ok (.iload_n 3, 1) := by decide +kernel
theorem dX10_fewestBelow_36 : decode cX10_fewestBelow 36 = .ok (.iconst 1, 1) := by decide +kernel
theorem dX10_fewestBelow_37 : decode cX10_fewestBelow 37 = .ok (.iload 6, 2) := by decide +kernel
theorem dX10_fewestBelow_39 : decode cX10_fewestBelow 39 = .ok (.ishl, 1) := by decide +kernel
theorem dX10_fewestBelow_40 : decode cX10_fewestBelow 40 = .ok (.ior, 1) := by decide +kernel
theorem dX10_fewestBelow_41 : decode cX10_fewestBelow 41 = .ok (.istore_n 3, 1) := by decide +kernel
theorem dX10_fewestBelow_42 : decode cX10_fewestBelow 42 = .ok (.iload 5, 2) := by decide +kernel
theorem dX10_fewestBelow_44 : decode cX10_fewestBelow 44 = .ok (.aload_n 0, 1) := by decide +kernel
theorem dX10_fewestBelow_45 : decode cX10_fewestBelow 45 = .ok (.getfield 26, 3) := by decide +kernel
theorem dX10_fewestBelow_48 : decode cX10_fewestBelow 48 = .ok (.getfield 157, 3) := by decide +kernel
theorem dX10_fewestBelow_51 : decode cX10_fewestBelow 51 = .ok (.iconst 0, 1) := by decide +kernel
theorem dX10_fewestBelow_52 : decode cX10_fewestBelow 52 = .ok (.aaload, 1) := by decide +kernel
theorem dX10_fewestBelow_53 : decode cX10_fewestBelow 53 = .ok (.iload 6, 2) := by decide +kernel
theorem dX10_fewestBelow_55 : decode cX10_fewestBelow 55 = .ok (.iaload, 1) := by decide +kernel
theorem dX10_fewestBelow_56 : decode cX10_fewestBelow 56 = .ok (.isub, 1) := by decide +kernel
theorem dX10_fewestBelow_57 : decode cX10_fewestBelow 57 = .ok (.istore 5, 2) := by decide +kernel
theorem dX10_fewestBelow_59 : decode cX10_fewestBelow 59 = .ok (.iinc 4 1, 3) := by decide +kernel
theorem dX10_fewestBelow_62 : decode cX10_fewestBelow 62 = .ok (.goto (-54), 3) := by decide +kernel
theorem dX10_fewestBelow_65 : decode cX10_fewestBelow 65 = .ok (.iload 4, 2) := by decide +kernel
theorem dX10_fewestBelow_67 : decode cX10_fewestBelow 67 = .ok (.ireturn, 1) := by decide +kernel
theorem dX10_leastBits_0 : decode cX10_leastBits 0 = .ok (.iconst 0, 1) := by decide +kernel
theorem dX10_leastBits_1 : decode cX10_leastBits 1 = .ok (.istore_n 3, 1) := by decide +kernel
theorem dX10_leastBits_2 : decode cX10_leastBits 2 = .ok (.iload_n 1, 1) := by decide +kernel
theorem dX10_leastBits_3 : decode cX10_leastBits 3 = .ok (.istore 4, 2) := by decide +kernel
theorem dX10_leastBits_5 : decode cX10_leastBits 5 = .ok (.iload_n 2, 1) := by decide +kernel
theorem dX10_leastBits_6 : decode cX10_leastBits 6 = .ok (.istore 5, 2) := by decide +kernel
theorem dX10_leastBits_8 : decode cX10_leastBits 8 = .ok (.aload_n 0, 1) := by decide +kernel
theorem dX10_leastBits_9 : decode cX10_leastBits 9 = .ok (.getfield 26, 3) := by decide +kernel
theorem dX10_leastBits_12 : decode cX10_leastBits 12 = .ok (.getfield 125, 3) := by decide +kernel
theorem dX10_leastBits_15 : decode cX10_leastBits 15 = .ok (.iconst 1, 1) := by decide +kernel
theorem dX10_leastBits_16 : decode cX10_leastBits 16 = .ok (.isub, 1) := by decide +kernel
theorem dX10_leastBits_17 : decode cX10_leastBits 17 = .ok (.istore 6, 2) := by decide +kernel
theorem dX10_leastBits_19 : decode cX10_leastBits 19 = .ok (.iload 6, 2) := by decide +kernel
theorem dX10_leastBits_21 : decode cX10_leastBits 21 = .ok (.ifCond .lt 58, 3) := by decide +kernel
theorem dX10_leastBits_24 : decode cX10_leastBits 24 = .ok (.aload_n 0, 1) := by decide +kernel
theorem dX10_leastBits_25 : decode cX10_leastBits 25 = .ok (.iload 6, 2) := by decide +kernel
theorem dX10_leastBits_27 : decode cX10_leastBits 27 = .ok (.iload 5, 2) := by decide +kernel
theorem dX10_leastBits_29 : decode cX10_leastBits 29 = .ok (.invokevirtual 307, 3) := by decide +kernel
theorem dX10_leastBits_32 : decode cX10_leastBits 32 = .ok (.istore 7, 2) := by decide +kernel
theorem dX10_leastBits_34 : decode cX10_leastBits 34 = .ok (.iload 7, 2) := by decide +kernel
theorem dX10_leastBits_36 : decode cX10_leastBits 36 = .ok (.ifCond .lt 10, 3) := by decide +kernel
theorem dX10_leastBits_39 : decode cX10_leastBits 39 = .ok (.iload 7, 2) := by decide +kernel
theorem dX10_leastBits_41 : decode cX10_leastBits 41 = .ok (.iload 4, 2) := by decide +kernel
theorem dX10_leastBits_43 : decode cX10_leastBits 43 = .ok (.if_icmp .le 30, 3) := by decide +kernel
theorem dX10_leastBits_46 : decode cX10_leastBits 46 = .ok (.iload_n 3, 1) := by decide +kernel
theorem dX10_leastBits_47 : decode cX10_leastBits 47 = .ok (.iconst 1, 1) := by decide +kernel
theorem dX10_leastBits_48 : decode cX10_leastBits 48 = .ok (.iload 6, 2) := by decide +kernel
theorem dX10_leastBits_50 : decode cX10_leastBits 50 = .ok (.ishl, 1) := by decide +kernel
theorem dX10_leastBits_51 : decode cX10_leastBits 51 = .ok (.ior, 1) := by decide +kernel
theorem dX10_leastBits_52 : decode cX10_leastBits 52 = .ok (.istore_n 3, 1) := by decide +kernel
theorem dX10_leastBits_53 : decode cX10_leastBits 53 = .ok (.iinc 4 (-1), 3) := by decide +kernel
theorem dX10_leastBits_56 : decode cX10_leastBits 56 = .ok (.iload 5, 2) := by decide +kernel
theorem dX10_leastBits_58 : decode cX10_leastBits 58 = .ok (.aload_n 0, 1) := by decide +kernel
theorem dX10_leastBits_59 : decode cX10_leastBits 59 = .ok (.getfield 26, 3) := by decide +kernel
theorem dX10_leastBits_62 : decode cX10_leastBits 62 = .ok (.getfield 157, 3) := by decide +kernel
theorem dX10_leastBits_65 : decode cX10_leastBits 65 = .ok (.iconst 0, 1) := by decide +kernel
theorem dX10_leastBits_66 : decode cX10_leastBits 66 = .ok (.aaload, 1) := by decide +kernel
theorem dX10_leastBits_67 : decode cX10_leastBits 67 = .ok (.iload 6, 2) := by decide +kernel
theorem dX10_leastBits_69 : decode cX10_leastBits 69 = .ok (.iaload, 1) := by decide +kernel
theorem dX10_leastBits_70 : decode cX10_leastBits 70 = .ok (.isub, 1) := by decide +kernel
theorem dX10_leastBits_71 : decode cX10_leastBits 71 = .ok (.istore 5, 2) := by decide +kernel
theorem dX10_leastBits_73 : decode cX10_leastBits 73 = .ok (.iinc 6 (-1), 3) := by decide +kernel
theorem dX10_leastBits_76 : decode cX10_leastBits 76 = .ok (.goto (-57), 3) := by decide +kernel
theorem dX10_leastBits_79 : decode cX10_leastBits 79 = .ok (.iload_n 3, 1) := by decide +kernel
theorem dX10_leastBits_80 : decode cX10_leastBits 80 = .ok (.ireturn, 1) := by decide +kernel
theorem dX10_ableOf_0 : decode cX10_ableOf 0 = .ok (.aload_n 0, 1) := by decide +kernel
theorem dX10_ableOf_1 : decode cX10_ableOf 1 = .ok (.getfield 242, 3) := by decide +kernel
theorem dX10_ableOf_4 : decode cX10_ableOf 4 = .ok (.iload_n 2, 1) := by decide +kernel
theorem dX10_ableOf_5 : decode cX10_ableOf 5 = .ok (.iaload, 1) := by decide +kernel
theorem dX10_ableOf_6 : decode cX10_ableOf 6 = .ok (.ifCond .le 12, 3) := by decide +kernel
theorem dX10_ableOf_9 : decode cX10_ableOf 9 = .ok (.aload_n 0, 1) := by decide +kernel
theorem dX10_ableOf_10 : decode cX10_ableOf 10 = .ok (.getfield 244, 3) := by decide +kernel
theorem dX10_ableOf_13 : decode cX10_ableOf 13 = .ok (.iload_n 2, 1) := by decide +kernel
theorem dX10_ableOf_14 : decode cX10_ableOf 14 = .ok (.iaload, 1) := by decide +kernel
theorem dX10_ableOf_15 : decode cX10_ableOf 15 = .ok (.goto 9, 3) := by decide +kernel
theorem dX10_ableOf_18 : decode cX10_ableOf 18 = .ok (.aload_n 1, 1) := by decide +kernel
theorem dX10_ableOf_19 : decode cX10_ableOf 19 = .ok (.getfield 244, 3) := by decide +kernel
theorem dX10_ableOf_22 : decode cX10_ableOf 22 = .ok (.iload_n 2, 1) := by decide +kernel
theorem dX10_ableOf_23 : decode cX10_ableOf 23 = .ok (.iaload, 1) := by decide +kernel
theorem dX10_ableOf_24 : decode cX10_ableOf 24 = .ok (.ireturn, 1) := by decide +kernel
theorem dX10_marksOf_0 : decode cX10_marksOf 0 = .ok (.aload_n 0, 1) := by decide +kernel
theorem dX10_marksOf_1 : decode cX10_marksOf 1 = .ok (.getfield 242, 3) := by decide +kernel
theorem dX10_marksOf_4 : decode cX10_marksOf 4 = .ok (.iload_n 2, 1) := by decide +kernel
theorem dX10_marksOf_5 : decode cX10_marksOf 5 = .ok (.iaload, 1) := by decide +kernel
theorem dX10_marksOf_6 : decode cX10_marksOf 6 = .ok (.ifCond .le 12, 3) := by decide +kernel
theorem dX10_marksOf_9 : decode cX10_marksOf 9 = .ok (.aload_n 0, 1) := by decide +kernel
theorem dX10_marksOf_10 : decode cX10_marksOf 10 = .ok (.getfield 242, 3) := by decide +kernel
theorem dX10_marksOf_13 : decode cX10_marksOf 13 = .ok (.iload_n 2, 1) := by decide +kernel
theorem dX10_marksOf_14 : decode cX10_marksOf 14 = .ok (.iaload, 1) := by decide +kernel
theorem dX10_marksOf_15 : decode cX10_marksOf 15 = .ok (.goto 9, 3) := by decide +kernel
theorem dX10_marksOf_18 : decode cX10_marksOf 18 = .ok (.aload_n 1, 1) := by decide +kernel
theorem dX10_marksOf_19 : decode cX10_marksOf 19 = .ok (.getfield 242, 3) := by decide +kernel
theorem dX10_marksOf_22 : decode cX10_marksOf 22 = .ok (.iload_n 2, 1) := by decide +kernel
theorem dX10_marksOf_23 : decode cX10_marksOf 23 = .ok (.iaload, 1) := by decide +kernel
theorem dX10_marksOf_24 : decode cX10_marksOf 24 = .ok (.ireturn, 1) := by decide +kernel
theorem dX10_bottomOf_0 : decode cX10_bottomOf 0 = .ok (.ldc2_w 430, 3) := by decide +kernel
theorem dX10_bottomOf_3 : decode cX10_bottomOf 3 = .ok (.aload_n 0, 1) := by decide +kernel
theorem dX10_bottomOf_4 : decode cX10_bottomOf 4 = .ok (.getfield 78, 3) := by decide +kernel
theorem dX10_bottomOf_7 : decode cX10_bottomOf 7 = .ok (.getfield 313, 3) := by decide +kernel
theorem dX10_bottomOf_10 : decode cX10_bottomOf 10 = .ok (.i2l, 1) := by decide +kernel
theorem dX10_bottomOf_11 : decode cX10_bottomOf 11 = .ok (.lmul, 1) := by decide +kernel
theorem dX10_bottomOf_12 : decode cX10_bottomOf 12 = .ok (.aload_n 0, 1) := by decide +kernel
theorem dX10_bottomOf_13 : decode cX10_bottomOf 13 = .ok (.getfield 82, 3) := by decide +kernel
theorem dX10_bottomOf_16 : decode cX10_bottomOf 16 = .ok (.getfield 313, 3) := by decide +kernel
theorem dX10_bottomOf_19 : decode cX10_bottomOf 19 = .ok (.i2l, 1) := by decide +kernel
theorem dX10_bottomOf_20 : decode cX10_bottomOf 20 = .ok (.lmul, 1) := by decide +kernel
theorem dX10_bottomOf_21 : decode cX10_bottomOf 21 = .ok (.aload_n 0, 1) := by decide +kernel
theorem dX10_bottomOf_22 : decode cX10_bottomOf 22 = .ok (.getfield 78, 3) := by decide +kernel
theorem dX10_bottomOf_25 : decode cX10_bottomOf 25 = .ok (.aload_n 0, 1) := by decide +kernel
theorem dX10_bottomOf_26 : decode cX10_bottomOf 26 = .ok (.getfield 82, 3) := by decide +kernel
theorem dX10_bottomOf_29 : decode cX10_bottomOf 29 = .ok (.iload_n 1, 1) := by decide +kernel
theorem dX10_bottomOf_30 : decode cX10_bottomOf 30 = .ok (.invokestatic 432, 3) := by decide +kernel
theorem dX10_bottomOf_33 : decode cX10_bottomOf 33 = .ok (.i2l, 1) := by decide +kernel
theorem dX10_bottomOf_34 : decode cX10_bottomOf 34 = .ok (.lmul, 1) := by decide +kernel
theorem dX10_bottomOf_35 : decode cX10_bottomOf 35 = .ok (.aload_n 0, 1) := by decide +kernel
theorem dX10_bottomOf_36 : decode cX10_bottomOf 36 = .ok (.getfield 82, 3) := by decide +kernel
theorem dX10_bottomOf_39 : decode cX10_bottomOf 39 = .ok (.aload_n 0, 1) := by decide +kernel
theorem dX10_bottomOf_40 : decode cX10_bottomOf 40 = .ok (.getfield 78, 3) := by decide +kernel
theorem dX10_bottomOf_43 : decode cX10_bottomOf 43 = .ok (.iload_n 1, 1) := by decide +kernel
theorem dX10_bottomOf_44 : decode cX10_bottomOf 44 = .ok (.invokestatic 432, 3) := by decide +kernel
theorem dX10_bottomOf_47 : decode cX10_bottomOf 47 = .ok (.i2l, 1) := by decide +kernel
theorem dX10_bottomOf_48 : decode cX10_bottomOf 48 = .ok (.lmul, 1) := by decide +kernel
theorem dX10_bottomOf_49 : decode cX10_bottomOf 49 = .ok (.lreturn, 1) := by decide +kernel
theorem dX10_addMore_0 : decode cX10_addMore 0 = .ok (.aload_n 0, 1) := by decide +kernel
theorem dX10_addMore_1 : decode cX10_addMore 1 = .ok (.getfield 82, 3) := by decide +kernel
theorem dX10_addMore_4 : decode cX10_addMore 4 = .ok (.getfield 242, 3) := by decide +kernel
theorem dX10_addMore_7 : decode cX10_addMore 7 = .ok (.iload_n 1, 1) := by decide +kernel
theorem dX10_addMore_8 : decode cX10_addMore 8 = .ok (.iaload, 1) := by decide +kernel
theorem dX10_addMore_9 : decode cX10_addMore 9 = .ok (.i2l, 1) := by decide +kernel
theorem dX10_addMore_10 : decode cX10_addMore 10 = .ok (.aload_n 0, 1) := by decide +kernel
theorem dX10_addMore_11 : decode cX10_addMore 11 = .ok (.getfield 78, 3) := by decide +kernel
theorem dX10_addMore_14 : decode cX10_addMore 14 = .ok (.getfield 313, 3) := by decide +kernel
theorem dX10_addMore_17 : decode cX10_addMore 17 = .ok (.i2l, 1) := by decide +kernel
theorem dX10_addMore_18 : decode cX10_addMore 18 = .ok (.lmul, 1) := by decide +kernel
theorem dX10_addMore_19 : decode cX10_addMore 19 = .ok (.aload_n 0, 1) := by decide +kernel
theorem dX10_addMore_20 : decode cX10_addMore 20 = .ok (.getfield 78, 3) := by decide +kernel
theorem dX10_addMore_23 : decode cX10_addMore 23 = .ok (.getfield 242, 3) := by decide +kernel
theorem dX10_addMore_26 : decode cX10_addMore 26 = .ok (.iload_n 1, 1) := by decide +kernel
theorem dX10_addMore_27 : decode cX10_addMore 27 = .ok (.iaload, 1) := by decide +kernel
theorem dX10_addMore_28 : decode cX10_addMore 28 = .ok (.i2l, 1) := by decide +kernel
theorem dX10_addMore_29 : decode cX10_addMore 29 = .ok (.aload_n 0, 1) := by decide +kernel
theorem dX10_addMore_30 : decode cX10_addMore 30 = .ok (.getfield 82, 3) := by decide +kernel
theorem dX10_addMore_33 : decode cX10_addMore 33 = .ok (.getfield 313, 3) := by decide +kernel
theorem dX10_addMore_36 : decode cX10_addMore 36 = .ok (.i2l, 1) := by decide +kernel
theorem dX10_addMore_37 : decode cX10_addMore 37 = .ok (.lmul, 1) := by decide +kernel
theorem dX10_addMore_38 : decode cX10_addMore 38 = .ok (.lsub, 1) := by decide +kernel
theorem dX10_addMore_39 : decode cX10_addMore 39 = .ok (.lstore_n 2, 1) := by decide +kernel
theorem dX10_addMore_40 : decode cX10_addMore 40 = .ok (.aload_n 0, 1) := by decide +kernel
theorem dX10_addMore_41 : decode cX10_addMore 41 = .ok (.getfield 78, 3) := by decide +kernel
theorem dX10_addMore_44 : decode cX10_addMore 44 = .ok (.aload_n 0, 1) := by decide +kernel
theorem dX10_addMore_45 : decode cX10_addMore 45 = .ok (.getfield 82, 3) := by decide +kernel
theorem dX10_addMore_48 : decode cX10_addMore 48 = .ok (.iload_n 1, 1) := by decide +kernel
theorem dX10_addMore_49 : decode cX10_addMore 49 = .ok (.invokestatic 435, 3) := by decide +kernel
theorem dX10_addMore_52 : decode cX10_addMore 52 = .ok (.i2l, 1) := by decide +kernel
theorem dX10_addMore_53 : decode cX10_addMore 53 = .ok (.aload_n 0, 1) := by decide +kernel
theorem dX10_addMore_54 : decode cX10_addMore 54 = .ok (.getfield 82, 3) := by decide +kernel
theorem dX10_addMore_57 : decode cX10_addMore 57 = .ok (.aload_n 0, 1) := by decide +kernel
theorem dX10_addMore_58 : decode cX10_addMore 58 = .ok (.getfield 78, 3) := by decide +kernel
theorem dX10_addMore_61 : decode cX10_addMore 61 = .ok (.iload_n 1, 1) := by decide +kernel
theorem dX10_addMore_62 : decode cX10_addMore 62 = .ok (.invokestatic 432, 3) := by decide +kernel
theorem dX10_addMore_65 : decode cX10_addMore 65 = .ok (.i2l, 1) := by decide +kernel
theorem dX10_addMore_66 : decode cX10_addMore 66 = .ok (.lmul, 1) := by decide +kernel
theorem dX10_addMore_67 : decode cX10_addMore 67 = .ok (.aload_n 0, 1) := by decide +kernel
theorem dX10_addMore_68 : decode cX10_addMore 68 = .ok (.getfield 82, 3) := by decide +kernel
theorem dX10_addMore_71 : decode cX10_addMore 71 = .ok (.aload_n 0, 1) := by decide +kernel
theorem dX10_addMore_72 : decode cX10_addMore 72 = .ok (.getfield 78, 3) := by decide +kernel
theorem dX10_addMore_75 : decode cX10_addMore 75 = .ok (.iload_n 1, 1) := by decide +kernel
theorem dX10_addMore_76 : decode cX10_addMore 76 = .ok (.invokestatic 435, 3) := by decide +kernel
theorem dX10_addMore_79 : decode cX10_addMore 79 = .ok (.i2l, 1) := by decide +kernel
theorem dX10_addMore_80 : decode cX10_addMore 80 = .ok (.aload_n 0, 1) := by decide +kernel
theorem dX10_addMore_81 : decode cX10_addMore 81 = .ok (.getfield 78, 3) := by decide +kernel
theorem dX10_addMore_84 : decode cX10_addMore 84 = .ok (.aload_n 0, 1) := by decide +kernel
theorem dX10_addMore_85 : decode cX10_addMore 85 = .ok (.getfield 82, 3) := by decide +kernel
theorem dX10_addMore_88 : decode cX10_addMore 88 = .ok (.iload_n 1, 1) := by decide +kernel
theorem dX10_addMore_89 : decode cX10_addMore 89 = .ok (.invokestatic 432, 3) := by decide +kernel
theorem dX10_addMore_92 : decode cX10_addMore 92 = .ok (.i2l, 1) := by decide +kernel
theorem dX10_addMore_93 : decode cX10_addMore 93 = .ok (.lmul, 1) := by decide +kernel
theorem dX10_addMore_94 : decode cX10_addMore 94 = .ok (.ladd, 1) := by decide +kernel
theorem dX10_addMore_95 : decode cX10_addMore 95 = .ok (.lstore 4, 2) := by decide +kernel
theorem dX10_addMore_97 : decode cX10_addMore 97 = .ok (.aload_n 0, 1) := by decide +kernel
theorem dX10_addMore_98 : decode cX10_addMore 98 = .ok (.getfield 88, 3) := by decide +kernel
theorem dX10_addMore_101 : decode cX10_addMore 101 = .ok (.lload_n 2, 1) := by decide +kernel
theorem dX10_addMore_102 : decode cX10_addMore 102 = .ok (.lload 4, 2) := by decide +kernel
theorem dX10_addMore_104 : decode cX10_addMore 104 = .ok (.lmul, 1) := by decide +kernel
theorem dX10_addMore_105 : decode cX10_addMore 105 = .ok (.aload_n 0, 1) := by decide +kernel
theorem dX10_addMore_106 : decode cX10_addMore 106 = .ok (.iload_n 1, 1) := by decide +kernel
theorem dX10_addMore_107 : decode cX10_addMore 107 = .ok (.invokevirtual 438, 3) := by decide +kernel
theorem dX10_addMore_110 : decode cX10_addMore 110 = .ok (.invokevirtual 287, 3) := by decide +kernel
theorem dX10_addMore_113 : decode cX10_addMore 113 = .ok (.return_, 1) := by decide +kernel
theorem dX10_addBetter_0 : decode cX10_addBetter 0 = .ok (.aload_n 0, 1) := by decide +kernel
theorem dX10_addBetter_1 : decode cX10_addBetter 1 = .ok (.getfield 82, 3) := by decide +kernel
theorem dX10_addBetter_4 : decode cX10_addBetter 4 = .ok (.getfield 242, 3) := by decide +kernel
theorem dX10_addBetter_7 : decode cX10_addBetter 7 = .ok (.iload_n 1, 1) := by decide +kernel
theorem dX10_addBetter_8 : decode cX10_addBetter 8 = .ok (.iaload, 1) := by decide +kernel
theorem dX10_addBetter_9 : decode cX10_addBetter 9 = .ok (.i2l, 1) := by decide +kernel
theorem dX10_addBetter_10 : decode cX10_addBetter 10 = .ok (.aload_n 0, 1) := by decide +kernel
theorem dX10_addBetter_11 : decode cX10_addBetter 11 = .ok (.getfield 78, 3) := by decide +kernel
theorem dX10_addBetter_14 : decode cX10_addBetter 14 = .ok (.getfield 313, 3) := by decide +kernel
theorem dX10_addBetter_17 : decode cX10_addBetter 17 = .ok (.i2l, 1) := by decide +kernel
theorem dX10_addBetter_18 : decode cX10_addBetter 18 = .ok (.lmul, 1) := by decide +kernel
theorem dX10_addBetter_19 : decode cX10_addBetter 19 = .ok (.aload_n 0, 1) := by decide +kernel
theorem dX10_addBetter_20 : decode cX10_addBetter 20 = .ok (.getfield 78, 3) := by decide +kernel
theorem dX10_addBetter_23 : decode cX10_addBetter 23 = .ok (.getfield 242, 3) := by decide +kernel
theorem dX10_addBetter_26 : decode cX10_addBetter 26 = .ok (.iload_n 1, 1) := by decide +kernel
theorem dX10_addBetter_27 : decode cX10_addBetter 27 = .ok (.iaload, 1) := by decide +kernel
theorem dX10_addBetter_28 : decode cX10_addBetter 28 = .ok (.i2l, 1) := by decide +kernel
theorem dX10_addBetter_29 : decode cX10_addBetter 29 = .ok (.aload_n 0, 1) := by decide +kernel
theorem dX10_addBetter_30 : decode cX10_addBetter 30 = .ok (.getfield 82, 3) := by decide +kernel
theorem dX10_addBetter_33 : decode cX10_addBetter 33 = .ok (.getfield 313, 3) := by decide +kernel
theorem dX10_addBetter_36 : decode cX10_addBetter 36 = .ok (.i2l, 1) := by decide +kernel
theorem dX10_addBetter_37 : decode cX10_addBetter 37 = .ok (.lmul, 1) := by decide +kernel
theorem dX10_addBetter_38 : decode cX10_addBetter 38 = .ok (.ladd, 1) := by decide +kernel
theorem dX10_addBetter_39 : decode cX10_addBetter 39 = .ok (.lstore_n 2, 1) := by decide +kernel
theorem dX10_addBetter_40 : decode cX10_addBetter 40 = .ok (.aload_n 0, 1) := by decide +kernel
theorem dX10_addBetter_41 : decode cX10_addBetter 41 = .ok (.getfield 82, 3) := by decide +kernel
theorem dX10_addBetter_44 : decode cX10_addBetter 44 = .ok (.aload_n 0, 1) := by decide +kernel
theorem dX10_addBetter_45 : decode cX10_addBetter 45 = .ok (.getfield 78, 3) := by decide +kernel
theorem dX10_addBetter_48 : decode cX10_addBetter 48 = .ok (.iload_n 1, 1) := by decide +kernel
theorem dX10_addBetter_49 : decode cX10_addBetter 49 = .ok (.invokestatic 435, 3) := by decide +kernel
theorem dX10_addBetter_52 : decode cX10_addBetter 52 = .ok (.i2l, 1) := by decide +kernel
theorem dX10_addBetter_53 : decode cX10_addBetter 53 = .ok (.aload_n 0, 1) := by decide +kernel
theorem dX10_addBetter_54 : decode cX10_addBetter 54 = .ok (.getfield 78, 3) := by decide +kernel
theorem dX10_addBetter_57 : decode cX10_addBetter 57 = .ok (.aload_n 0, 1) := by decide +kernel
theorem dX10_addBetter_58 : decode cX10_addBetter 58 = .ok (.getfield 82, 3) := by decide +kernel
theorem dX10_addBetter_61 : decode cX10_addBetter 61 = .ok (.iload_n 1, 1) := by decide +kernel
theorem dX10_addBetter_62 : decode cX10_addBetter 62 = .ok (.invokestatic 432, 3) := by decide +kernel
theorem dX10_addBetter_65 : decode cX10_addBetter 65 = .ok (.i2l, 1) := by decide +kernel
theorem dX10_addBetter_66 : decode cX10_addBetter 66 = .ok (.lmul, 1) := by decide +kernel
theorem dX10_addBetter_67 : decode cX10_addBetter 67 = .ok (.aload_n 0, 1) := by decide +kernel
theorem dX10_addBetter_68 : decode cX10_addBetter 68 = .ok (.getfield 78, 3) := by decide +kernel
theorem dX10_addBetter_71 : decode cX10_addBetter 71 = .ok (.aload_n 0, 1) := by decide +kernel
theorem dX10_addBetter_72 : decode cX10_addBetter 72 = .ok (.getfield 82, 3) := by decide +kernel
theorem dX10_addBetter_75 : decode cX10_addBetter 75 = .ok (.iload_n 1, 1) := by decide +kernel
theorem dX10_addBetter_76 : decode cX10_addBetter 76 = .ok (.invokestatic 435, 3) := by decide +kernel
theorem dX10_addBetter_79 : decode cX10_addBetter 79 = .ok (.i2l, 1) := by decide +kernel
theorem dX10_addBetter_80 : decode cX10_addBetter 80 = .ok (.aload_n 0, 1) := by decide +kernel
theorem dX10_addBetter_81 : decode cX10_addBetter 81 = .ok (.getfield 82, 3) := by decide +kernel
theorem dX10_addBetter_84 : decode cX10_addBetter 84 = .ok (.aload_n 0, 1) := by decide +kernel
theorem dX10_addBetter_85 : decode cX10_addBetter 85 = .ok (.getfield 78, 3) := by decide +kernel
theorem dX10_addBetter_88 : decode cX10_addBetter 88 = .ok (.iload_n 1, 1) := by decide +kernel
theorem dX10_addBetter_89 : decode cX10_addBetter 89 = .ok (.invokestatic 432, 3) := by decide +kernel
theorem dX10_addBetter_92 : decode cX10_addBetter 92 = .ok (.i2l, 1) := by decide +kernel
theorem dX10_addBetter_93 : decode cX10_addBetter 93 = .ok (.lmul, 1) := by decide +kernel
theorem dX10_addBetter_94 : decode cX10_addBetter 94 = .ok (.lsub, 1) := by decide +kernel
theorem dX10_addBetter_95 : decode cX10_addBetter 95 = .ok (.lstore 4, 2) := by decide +kernel
theorem dX10_addBetter_97 : decode cX10_addBetter 97 = .ok (.aload_n 0, 1) := by decide +kernel
theorem dX10_addBetter_98 : decode cX10_addBetter 98 = .ok (.getfield 88, 3) := by decide +kernel
theorem dX10_addBetter_101 : decode cX10_addBetter 101 = .ok (.lload_n 2, 1) := by decide +kernel
theorem dX10_addBetter_102 : decode cX10_addBetter 102 = .ok (.lload 4, 2) := by decide +kernel
theorem dX10_addBetter_104 : decode cX10_addBetter 104 = .ok (.lmul, 1) := by decide +kernel
theorem dX10_addBetter_105 : decode cX10_addBetter 105 = .ok (.aload_n 0, 1) := by decide +kernel
theorem dX10_addBetter_106 : decode cX10_addBetter 106 = .ok (.iload_n 1, 1) := by decide +kernel
theorem dX10_addBetter_107 : decode cX10_addBetter 107 = .ok (.invokevirtual 438, 3) := by decide +kernel
theorem dX10_addBetter_110 : decode cX10_addBetter 110 = .ok (.invokevirtual 287, 3) := by decide +kernel
theorem dX10_addBetter_113 : decode cX10_addBetter 113 = .ok (.return_, 1) := by decide +kernel
theorem dX10_tallyPersons_0 : decode cX10_tallyPersons 0 = .ok (.iconst 0, 1) := by decide +kernel
theorem dX10_tallyPersons_1 : decode cX10_tallyPersons 1 = .ok (.istore_n 1, 1) := by decide +kernel
theorem dX10_tallyPersons_2 : decode cX10_tallyPersons 2 = .ok (.iload_n 1, 1) := by decide +kernel
theorem dX10_tallyPersons_3 : decode cX10_tallyPersons 3 = .ok (.bipush 99, 2) := by decide +kernel
theorem dX10_tallyPersons_5 : decode cX10_tallyPersons 5 = .ok (.if_icmp .gt 27, 3) := by decide +kernel
theorem dX10_tallyPersons_8 : decode cX10_tallyPersons 8 = .ok (.aload_n 0, 1) := by decide +kernel
theorem dX10_tallyPersons_9 : decode cX10_tallyPersons 9 = .ok (.getfield 98, 3) := by decide +kernel
theorem dX10_tallyPersons_12 : decode cX10_tallyPersons 12 = .ok (.iconst 0, 1) := by decide +kernel
theorem dX10_tallyPersons_13 : decode cX10_tallyPersons 13 = .ok (.aaload, 1) := by decide +kernel
theorem dX10_tallyPersons_14 : decode cX10_tallyPersons 14 = .ok (.iload_n 1, 1) := by decide +kernel
theorem dX10_tallyPersons_15 : decode cX10_tallyPersons 15 = .ok (.iconst 0, 1) := by decide +kernel
theorem dX10_tallyPersons_16 : decode cX10_tallyPersons 16 = .ok (.iastore, 1) := by decide +kernel
theorem dX10_tallyPersons_17 : decode cX10_tallyPersons 17 = .ok (.aload_n 0, 1) := by decide +kernel
theorem dX10_tallyPersons_18 : decode cX10_tallyPersons 18 = .ok (.getfield 98, 3) := by decide +kernel
theorem dX10_tallyPersons_21 : decode cX10_tallyPersons 21 = .ok (.iconst 1, 1) := by decide +kernel
theorem dX10_tallyPersons_22 : decode cX10_tallyPersons 22 = .ok (.aaload, 1) := by decide +kernel
theorem dX10_tallyPersons_23 : decode cX10_tallyPersons 23 = .ok (.iload_n 1, 1) := by decide +kernel
theorem dX10_tallyPersons_24 : decode cX10_tallyPersons 24 = .ok (.iconst 0, 1) := by decide +kernel
theorem dX10_tallyPersons_25 : decode cX10_tallyPersons 25 = .ok (.iastore, 1) := by decide +kernel
theorem dX10_tallyPersons_26 : decode cX10_tallyPersons 26 = .ok (.iinc 1 1, 3) := by decide +kernel
theorem dX10_tallyPersons_29 : decode cX10_tallyPersons 29 = .ok (.goto (-27), 3) := by decide +kernel
theorem dX10_tallyPersons_32 : decode cX10_tallyPersons 32 = .ok (.iconst 0, 1) := by decide +kernel
theorem dX10_tallyPersons_33 : decode cX10_tallyPersons 33 = .ok (.istore_n 1, 1) := by decide +kernel
theorem dX10_tallyPersons_34 : decode cX10_tallyPersons 34 = .ok (.iload_n 1, 1) := by decide +kernel
theorem dX10_tallyPersons_35 : decode cX10_tallyPersons 35 = .ok (.aload_n 0, 1) := by decide +kernel
theorem dX10_tallyPersons_36 : decode cX10_tallyPersons 36 = .ok (.getfield 40, 3) := by decide +kernel
theorem dX10_tallyPersons_39 : decode cX10_tallyPersons 39 = .ok (.invokevirtual 167, 3) := by decide +kernel
theorem dX10_tallyPersons_42 : decode cX10_tallyPersons 42 = .ok (.if_icmp .ge 41, 3) := by decide +kernel
theorem dX10_tallyPersons_45 : decode cX10_tallyPersons 45 = .ok (.aload_n 0, 1) := by decide +kernel
theorem dX10_tallyPersons_46 : decode cX10_tallyPersons 46 = .ok (.getfield 98, 3) := by decide +kernel
theorem dX10_tallyPersons_49 : decode cX10_tallyPersons 49 = .ok (.aload_n 0, 1) := by decide +kernel
theorem dX10_tallyPersons_50 : decode cX10_tallyPersons 50 = .ok (.getfield 40, 3) := by decide +kernel
theorem dX10_tallyPersons_53 : decode cX10_tallyPersons 53 = .ok (.getfield 196, 3) := by decide +kernel
theorem dX10_tallyPersons_56 : decode cX10_tallyPersons 56 = .ok (.iconst 0, 1) := by decide +kernel
theorem dX10_tallyPersons_57 : decode cX10_tallyPersons 57 = .ok (.aaload, 1) := by decide +kernel
theorem dX10_tallyPersons_58 : decode cX10_tallyPersons 58 = .ok (.iload_n 1, 1) := by decide +kernel
theorem dX10_tallyPersons_59 : decode cX10_tallyPersons 59 = .ok (.iaload, 1) := by decide +kernel
theorem dX10_tallyPersons_60 : decode cX10_tallyPersons 60 = .ok (.aaload, 1) := by decide +kernel
theorem dX10_tallyPersons_61 : decode cX10_tallyPersons 61 = .ok (.aload_n 0, 1) := by decide +kernel
theorem dX10_tallyPersons_62 : decode cX10_tallyPersons 62 = .ok (.getfield 40, 3) := by decide +kernel
theorem dX10_tallyPersons_65 : decode cX10_tallyPersons 65 = .ok (.getfield 196, 3) := by decide +kernel
theorem dX10_tallyPersons_68 : decode cX10_tallyPersons 68 = .ok (.iconst 3, 1) := by decide +kernel
theorem dX10_tallyPersons_69 : decode cX10_tallyPersons 69 = .ok (.aaload, 1) := by decide +kernel
theorem dX10_tallyPersons_70 : decode cX10_tallyPersons 70 = .ok (.iload_n 1, 1) := by decide +kernel
theorem dX10_tallyPersons_71 : decode cX10_tallyPersons 71 = .ok (.iaload, 1) := by decide +kernel
theorem dX10_tallyPersons_72 : decode cX10_tallyPersons 72 = .ok (.dup2, 1) := by decide +kernel
theorem dX10_tallyPersons_73 : decode cX10_tallyPersons 73 = .ok (.iaload, 1) := by decide +kernel
theorem dX10_tallyPersons_74 : decode cX10_tallyPersons 74 = .ok (.iconst 1, 1) := by decide +kernel
theorem dX10_tallyPersons_75 : decode cX10_tallyPersons 75 = .ok (.iadd, 1) := by decide +kernel
theorem dX10_tallyPersons_76 : decode cX10_tallyPersons 76 = .ok (.iastore, 1) := by decide +kernel
theorem dX10_tallyPersons_77 : decode cX10_tallyPersons 77 = .ok (.iinc 1 1, 3) := by decide +kernel
theorem dX10_tallyPersons_80 : decode cX10_tallyPersons 80 = .ok (.goto (-46), 3) := by decide +kernel
theorem dX10_tallyPersons_83 : decode cX10_tallyPersons 83 = .ok (.return_, 1) := by decide +kernel
theorem dX10_gatherHands_0 : decode cX10_gatherHands 0 = .ok (.iconst 0, 1) := by decide +kernel
theorem dX10_gatherHands_1 : decode cX10_gatherHands 1 = .ok (.istore_n 2, 1) := by decide +kernel
theorem dX10_gatherHands_2 : decode cX10_gatherHands 2 = .ok (.iconst 0, 1) := by decide +kernel
theorem dX10_gatherHands_3 : decode cX10_gatherHands 3 = .ok (.istore_n 3, 1) := by decide +kernel
theorem dX10_gatherHands_4 : decode cX10_gatherHands 4 = .ok (.iload_n 3, 1) := by decide +kernel
theorem dX10_gatherHands_5 : decode cX10_gatherHands 5 = .ok (.aload_n 0, 1) := by decide +kernel
theorem dX10_gatherHands_6 : decode cX10_gatherHands 6 = .ok (.getfield 40, 3) := by decide +kernel
theorem dX10_gatherHands_9 : decode cX10_gatherHands 9 = .ok (.invokevirtual 167, 3) := by decide +kernel
theorem dX10_gatherHands_12 : decode cX10_gatherHands 12 = .ok (.if_icmp .ge 61, 3) := by decide +kernel
theorem dX10_gatherHands_15 : decode cX10_gatherHands 15 = .ok (.aload_n 0, 1) := by decide +kernel
theorem dX10_gatherHands_16 : decode cX10_gatherHands 16 = .ok (.getfield 40, 3) := by decide +kernel
theorem dX10_gatherHands_19 : decode cX10_gatherHands 19 = .ok (.getfield 202, 3) := by decide +kernel
theorem dX10_gatherHands_22 : decode cX10_gatherHands 22 = .ok (.iconst 0, 1) := by decide +kernel
theorem dX10_gatherHands_23 : decode cX10_gatherHands 23 = .ok (.aaload, 1) := by decide +kernel
theorem dX10_gatherHands_24 : decode cX10_gatherHands 24 = .ok (.iload_n 3, 1) := by decide +kernel
theorem dX10_gatherHands_25 : decode cX10_gatherHands 25 = .ok (.iconst 2, 1) := by decide +kernel
theorem dX10_gatherHands_26 : decode cX10_gatherHands 26 = .ok (.idiv, 1) := by decide +kernel
theorem dX10_gatherHands_27 : decode cX10_gatherHands 27 = .ok (.iaload, 1) := by decide +kernel
theorem dX10_gatherHands_28 : decode cX10_gatherHands 28 = .ok (.iload_n 1, 1) := by decide +kernel
theorem dX10_gatherHands_29 : decode cX10_gatherHands 29 = .ok (.if_icmp .ne 38, 3) := by decide +kernel
theorem dX10_gatherHands_32 : decode cX10_gatherHands 32 = .ok (.aload_n 0, 1) := by decide +kernel
theorem dX10_gatherHands_33 : decode cX10_gatherHands 33 = .ok (.getfield 40, 3) := by decide +kernel
theorem dX10_gatherHands_36 : decode cX10_gatherHands 36 = .ok (.getfield 196, 3) := by decide +kernel
theorem dX10_gatherHands_39 : decode cX10_gatherHands 39 = .ok (.iconst 0, 1) := by decide +kernel
theorem dX10_gatherHands_40 : decode cX10_gatherHands 40 = .ok (.aaload, 1) := by decide +kernel
theorem dX10_gatherHands_41 : decode cX10_gatherHands 41 = .ok (.iload_n 3, 1) := by decide +kernel
theorem dX10_gatherHands_42 : decode cX10_gatherHands 42 = .ok (.iaload, 1) := by decide +kernel
theorem dX10_gatherHands_43 : decode cX10_gatherHands 43 = .ok (.iconst 1, 1) := by decide +kernel
theorem dX10_gatherHands_44 : decode cX10_gatherHands 44 = .ok (.if_icmp .ne 23, 3) := by decide +kernel
theorem dX10_gatherHands_47 : decode cX10_gatherHands 47 = .ok (.aload_n 0, 1) := by decide +kernel
theorem dX10_gatherHands_48 : decode cX10_gatherHands 48 = .ok (.getfield 92, 3) := by decide +kernel
theorem dX10_gatherHands_51 : decode cX10_gatherHands 51 = .ok (.iload_n 2, 1) := by decide +kernel
theorem dX10_gatherHands_52 : decode cX10_gatherHands 52 = .ok (.aload_n 0, 1) := by decide +kernel
theorem dX10_gatherHands_53 : decode cX10_gatherHands 53 = .ok (.getfield 40, 3) := by decide +kernel
theorem dX10_gatherHands_56 : decode cX10_gatherHands 56 = .ok (.getfield 196, 3) := by decide +kernel
theorem dX10_gatherHands_59 : decode cX10_gatherHands 59 = .ok (.iconst 2, 1) := by decide +kernel
theorem dX10_gatherHands_60 : decode cX10_gatherHands 60 = .ok (.aaload, 1) := by decide +kernel
theorem dX10_gatherHands_61 : decode cX10_gatherHands 61 = .ok (.iload_n 3, 1) := by decide +kernel
theorem dX10_gatherHands_62 : decode cX10_gatherHands 62 = .ok (.iaload, 1) := by decide +kernel
theorem dX10_gatherHands_63 : decode cX10_gatherHands 63 = .ok (.iastore, 1) := by decide +kernel
theorem dX10_gatherHands_64 : decode cX10_gatherHands 64 = .ok (.iinc 2 1, 3) := by decide +kernel
theorem dX10_gatherHands_67 : decode cX10_gatherHands 67 = .ok (.iinc 3 1, 3) := by decide +kernel
theorem dX10_gatherHands_70 : decode cX10_gatherHands 70 = .ok (.goto (-66), 3) := by decide +kernel
theorem dX10_gatherHands_73 : decode cX10_gatherHands 73 = .ok (.iload_n 2, 1) := by decide +kernel
theorem dX10_gatherHands_74 : decode cX10_gatherHands 74 = .ok (.ireturn, 1) := by decide +kernel
theorem dX10_howManyNear_0 : decode cX10_howManyNear 0 = .ok (.iconst 0, 1) := by decide +kernel
theorem dX10_howManyNear_1 : decode cX10_howManyNear 1 = .ok (.istore 4, 2) := by decide +kernel
theorem dX10_howManyNear_3 : decode cX10_howManyNear 3 = .ok (.iconst 0, 1) := by decide +kernel
theorem dX10_howManyNear_4 : decode cX10_howManyNear 4 = .ok (.istore 5, 2) := by decide +kernel
theorem dX10_howManyNear_6 : decode cX10_howManyNear 6 = .ok (.iload 5, 2) := by decide +kernel
theorem dX10_howManyNear_8 : decode cX10_howManyNear 8 = .ok (.iload_n 3, 1) := by decide +kernel
theorem dX10_howManyNear_9 : decode cX10_howManyNear 9 = .ok (.if_icmp .ge 27, 3) := by decide +kernel
theorem dX10_howManyNear_12 : decode cX10_howManyNear 12 = .ok (.aload_n 0, 1) := by decide +kernel
theorem dX10_howManyNear_13 : decode cX10_howManyNear 13 = .ok (.getfield 92, 3) := by decide +kernel
theorem dX10_howManyNear_16 : decode cX10_howManyNear 16 = .ok (.iload 5, 2) := by decide +kernel
theorem dX10_howManyNear_18 : decode cX10_howManyNear 18 = .ok (.iaload, 1) := by decide +kernel
theorem dX10_howManyNear_19 : decode cX10_howManyNear 19 = .ok (.iload_n 1, 1) := by decide +kernel
theorem dX10_howManyNear_20 : decode cX10_howManyNear 20 = .ok (.invokestatic 211, 3) := by decide +kernel
theorem dX10_howManyNear_23 : decode cX10_howManyNear 23 = .ok (.iload_n 2, 1) := by decide +kernel
theorem dX10_howManyNear_24 : decode cX10_howManyNear 24 = .ok (.if_icmp .gt 6, 3) := by decide +kernel
theorem dX10_howManyNear_27 : decode cX10_howManyNear 27 = .ok (.iinc 4 1, 3) := by decide +kernel
theorem dX10_howManyNear_30 : decode cX10_howManyNear 30 = .ok (.iinc 5 1, 3) := by decide +kernel
theorem dX10_howManyNear_33 : decode cX10_howManyNear 33 = .ok (.goto (-27), 3) := by decide +kernel
theorem dX10_howManyNear_36 : decode cX10_howManyNear 36 = .ok (.iload 4, 2) := by decide +kernel
theorem dX10_howManyNear_38 : decode cX10_howManyNear 38 = .ok (.ireturn, 1) := by decide +kernel
theorem dX10_refusalOf_0 : decode cX10_refusalOf 0 = .ok (.iconst 0, 1) := by decide +kernel
theorem dX10_refusalOf_1 : decode cX10_refusalOf 1 = .ok (.istore 4, 2) := by decide +kernel
theorem dX10_refusalOf_3 : decode cX10_refusalOf 3 = .ok (.iload 4, 2) := by decide +kernel
theorem dX10_refusalOf_5 : decode cX10_refusalOf 5 = .ok (.iload_n 3, 1) := by decide +kernel
theorem dX10_refusalOf_6 : decode cX10_refusalOf 6 = .ok (.if_icmp .ge 91, 3) := by decide +kernel
theorem dX10_refusalOf_9 : decode cX10_refusalOf 9 = .ok (.iload_n 2, 1) := by decide +kernel
theorem dX10_refusalOf_10 : decode cX10_refusalOf 10 = .ok (.iconst 5, 1) := by decide +kernel
theorem dX10_refusalOf_11 : decode cX10_refusalOf 11 = .ok (.iload 4, 2) := by decide +kernel
theorem dX10_refusalOf_13 : decode cX10_refusalOf 13 = .ok (.imul, 1) := by decide +kernel
theorem dX10_refusalOf_14 : decode cX10_refusalOf 14 = .ok (.iadd, 1) := by decide +kernel
theorem dX10_refusalOf_15 : decode cX10_refusalOf 15 = .ok (.istore 5, 2) := by decide +kernel
theorem dX10_refusalOf_17 : decode cX10_refusalOf 17 = .ok (.aload_n 0, 1) := by decide +kernel
theorem dX10_refusalOf_18 : decode cX10_refusalOf 18 = .ok (.aload_n 1, 1) := by decide +kernel
theorem dX10_refusalOf_19 : decode cX10_refusalOf 19 = .ok (.getfield 441, 3) := by decide +kernel
theorem dX10_refusalOf_22 : decode cX10_refusalOf 22 = .ok (.iload 5, 2) := by decide +kernel
theorem dX10_refusalOf_24 : decode cX10_refusalOf 24 = .ok (.iaload, 1) := by decide +kernel
theorem dX10_refusalOf_25 : decode cX10_refusalOf 25 = .ok (.aload_n 1, 1) := by decide +kernel
theorem dX10_refusalOf_26 : decode cX10_refusalOf 26 = .ok (.getfield 441, 3) := by decide +kernel
theorem dX10_refusalOf_29 : decode cX10_refusalOf 29 = .ok (.iload 5, 2) := by decide +kernel
theorem dX10_refusalOf_31 : decode cX10_refusalOf 31 = .ok (.iconst 1, 1) := by decide +kernel
theorem dX10_refusalOf_32 : decode cX10_refusalOf 32 = .ok (.iadd, 1) := by decide +kernel
theorem dX10_refusalOf_33 : decode cX10_refusalOf 33 = .ok (.iaload, 1) := by decide +kernel
theorem dX10_refusalOf_34 : decode cX10_refusalOf 34 = .ok (.aload_n 1, 1) := by decide +kernel
theorem dX10_refusalOf_35 : decode cX10_refusalOf 35 = .ok (.getfield 441, 3) := by decide +kernel
theorem dX10_refusalOf_38 : decode cX10_refusalOf 38 = .ok (.iload 5, 2) := by decide +kernel
theorem dX10_refusalOf_40 : decode cX10_refusalOf 40 = .ok (.iconst 2, 1) := by decide +kernel
theorem dX10_refusalOf_41 : decode cX10_refusalOf 41 = .ok (.iadd, 1) := by decide +kernel
theorem dX10_refusalOf_42 : decode cX10_refusalOf 42 = .ok (.iaload, 1) := by decide +kernel
theorem dX10_refusalOf_43 : decode cX10_refusalOf 43 = .ok (.aload_n 1, 1) := by decide +kernel
theorem dX10_refusalOf_44 : decode cX10_refusalOf 44 = .ok (.getfield 441, 3) := by decide +kernel
theorem dX10_refusalOf_47 : decode cX10_refusalOf 47 = .ok (.iload 5, 2) := by decide +kernel
theorem dX10_refusalOf_49 : decode cX10_refusalOf 49 = .ok (.iconst 3, 1) := by decide +kernel
theorem dX10_refusalOf_50 : decode cX10_refusalOf 50 = .ok (.iadd, 1) := by decide +kernel
theorem dX10_refusalOf_51 : decode cX10_refusalOf 51 = .ok (.iaload, 1) := by decide +kernel
theorem dX10_refusalOf_52 : decode cX10_refusalOf 52 = .ok (.aload_n 1, 1) := by decide +kernel
theorem dX10_refusalOf_53 : decode cX10_refusalOf 53 = .ok (.getfield 441, 3) := by decide +kernel
theorem dX10_refusalOf_56 : decode cX10_refusalOf 56 = .ok (.iload 5, 2) := by decide +kernel
theorem dX10_refusalOf_58 : decode cX10_refusalOf 58 = .ok (.iconst 4, 1) := by decide +kernel
theorem dX10_refusalOf_59 : decode cX10_refusalOf 59 = .ok (.iadd, 1) := by decide +kernel
theorem dX10_refusalOf_60 : decode cX10_refusalOf 60 = .ok (.iaload, 1) := by decide +kernel
theorem dX10_refusalOf_61 : decode cX10_refusalOf 61 = .ok (.invokevirtual 175, 3) := by decide +kernel
theorem dX10_refusalOf_64 : decode cX10_refusalOf 64 = .ok (.ifCond .ne 9, 3) := by decide +kernel
theorem dX10_refusalOf_67 : decode cX10_refusalOf 67 = .ok (.bipush (-20), 2) := by decide +kernel
theorem dX10_refusalOf_69 : decode cX10_refusalOf 69 = .ok (.iload 4, 2) := by decide +kernel
theorem dX10_refusalOf_71 : decode cX10_refusalOf 71 = .ok (.isub, 1) := by decide +kernel
theorem dX10_refusalOf_72 : decode cX10_refusalOf 72 = .ok (.ireturn, 1) := by decide +kernel
theorem dX10_refusalOf_73 : decode cX10_refusalOf 73 = .ok (.aload_n 0, 1) := by decide +kernel
theorem dX10_refusalOf_74 : decode cX10_refusalOf 74 = .ok (.getfield 40, 3) := by decide +kernel
theorem dX10_refusalOf_77 : decode cX10_refusalOf 77 = .ok (.getfield 179, 3) := by decide +kernel
theorem dX10_refusalOf_80 : decode cX10_refusalOf 80 = .ok (.iload 4, 2) := by decide +kernel
theorem dX10_refusalOf_82 : decode cX10_refusalOf 82 = .ok (.iadd, 1) := by decide +kernel
theorem dX10_refusalOf_83 : decode cX10_refusalOf 83 = .ok (.bipush 40, 2) := by decide +kernel
theorem dX10_refusalOf_85 : decode cX10_refusalOf 85 = .ok (.if_icmp .lt 6, 3) := by decide +kernel
theorem dX10_refusalOf_88 : decode cX10_refusalOf 88 = .ok (.bipush (-3), 2) := by decide +kernel
theorem dX10_refusalOf_90 : decode cX10_refusalOf 90 = .ok (.ireturn, 1) := by decide +kernel
theorem dX10_refusalOf_91 : decode cX10_refusalOf 91 = .ok (.iinc 4 1, 3) := by decide +kernel
theorem dX10_refusalOf_94 : decode cX10_refusalOf 94 = .ok (.goto (-91), 3) := by decide +kernel
theorem dX10_refusalOf_97 : decode cX10_refusalOf 97 = .ok (.iconst 0, 1) := by decide +kernel
theorem dX10_refusalOf_98 : decode cX10_refusalOf 98 = .ok (.ireturn, 1) := by decide +kernel
theorem dX10_appendFrom_0 : decode cX10_appendFrom 0 = .ok (.iconst 0, 1) := by decide +kernel
theorem dX10_appendFrom_1 : decode cX10_appendFrom 1 = .ok (.istore 4, 2) := by decide +kernel
theorem dX10_appendFrom_3 : decode cX10_appendFrom 3 = .ok (.iload 4, 2) := by decide +kernel
theorem dX10_appendFrom_5 : decode cX10_appendFrom 5 = .ok (.iload_n 3, 1) := by decide +kernel
theorem dX10_appendFrom_6 : decode cX10_appendFrom 6 = .ok (.if_icmp .ge 76, 3) := by decide +kernel
theorem dX10_appendFrom_9 : decode cX10_appendFrom 9 = .ok (.iload_n 2, 1) := by decide +kernel
theorem dX10_appendFrom_10 : decode cX10_appendFrom 10 = .ok (.iconst 5, 1) := by decide +kernel
theorem dX10_appendFrom_11 : decode cX10_appendFrom 11 = .ok (.iload 4, 2) := by decide +kernel
theorem dX10_appendFrom_13 : decode cX10_appendFrom 13 = .ok (.imul, 1) := by decide +kernel
theorem dX10_appendFrom_14 : decode cX10_appendFrom 14 = .ok (.iadd, 1) := by decide +kernel
theorem dX10_appendFrom_15 : decode cX10_appendFrom 15 = .ok (.istore 5, 2) := by decide +kernel
theorem dX10_appendFrom_17 : decode cX10_appendFrom 17 = .ok (.aload_n 0, 1) := by decide +kernel
theorem dX10_appendFrom_18 : decode cX10_appendFrom 18 = .ok (.getfield 40, 3) := by decide +kernel
theorem dX10_appendFrom_21 : decode cX10_appendFrom 21 = .ok (.aload_n 1, 1) := by decide +kernel
theorem dX10_appendFrom_22 : decode cX10_appendFrom 22 = .ok (.getfield 441, 3) := by decide +kernel
theorem dX10_appendFrom_25 : decode cX10_appendFrom 25 = .ok (.iload 5, 2) := by decide +kernel
theorem dX10_appendFrom_27 : decode cX10_appendFrom 27 = .ok (.iaload, 1) := by decide +kernel
theorem dX10_appendFrom_28 : decode cX10_appendFrom 28 = .ok (.aload_n 1, 1) := by decide +kernel
theorem dX10_appendFrom_29 : decode cX10_appendFrom 29 = .ok (.getfield 441, 3) := by decide +kernel
theorem dX10_appendFrom_32 : decode cX10_appendFrom 32 = .ok (.iload 5, 2) := by decide +kernel
theorem dX10_appendFrom_34 : decode cX10_appendFrom 34 = .ok (.iconst 1, 1) := by decide +kernel
theorem dX10_appendFrom_35 : decode cX10_appendFrom 35 = .ok (.iadd, 1) := by decide +kernel
theorem dX10_appendFrom_36 : decode cX10_appendFrom 36 = .ok (.iaload, 1) := by decide +kernel
theorem dX10_appendFrom_37 : decode cX10_appendFrom 37 = .ok (.aload_n 1, 1) := by decide +kernel
theorem dX10_appendFrom_38 : decode cX10_appendFrom 38 = .ok (.getfield 441, 3) := by decide +kernel
theorem dX10_appendFrom_41 : decode cX10_appendFrom 41 = .ok (.iload 5, 2) := by decide +kernel
theorem dX10_appendFrom_43 : decode cX10_appendFrom 43 = .ok (.iconst 2, 1) := by decide +kernel
theorem dX10_appendFrom_44 : decode cX10_appendFrom 44 = .ok (.iadd, 1) := by decide +kernel
theorem dX10_appendFrom_45 : decode cX10_appendFrom 45 = .ok (.iaload, 1) := by decide +kernel
theorem dX10_appendFrom_46 : decode cX10_appendFrom 46 = .ok (.aload_n 1, 1) := by decide +kernel
theorem dX10_appendFrom_47 : decode cX10_appendFrom 47 = .ok (.getfield 441, 3) := by decide +kernel
theorem dX10_appendFrom_50 : decode cX10_appendFrom 50 = .ok (.iload 5, 2) := by decide +kernel
theorem dX10_appendFrom_52 : decode cX10_appendFrom 52 = .ok (.iconst 3, 1) := by decide +kernel
theorem dX10_appendFrom_53 : decode cX10_appendFrom 53 = .ok (.iadd, 1) := by decide +kernel
theorem dX10_appendFrom_54 : decode cX10_appendFrom 54 = .ok (.iaload, 1) := by decide +kernel
theorem dX10_appendFrom_55 : decode cX10_appendFrom 55 = .ok (.aload_n 1, 1) := by decide +kernel
theorem dX10_appendFrom_56 : decode cX10_appendFrom 56 = .ok (.getfield 441, 3) := by decide +kernel
theorem dX10_appendFrom_59 : decode cX10_appendFrom 59 = .ok (.iload 5, 2) := by decide +kernel
theorem dX10_appendFrom_61 : decode cX10_appendFrom 61 = .ok (.iconst 4, 1) := by decide +kernel
theorem dX10_appendFrom_62 : decode cX10_appendFrom 62 = .ok (.iadd, 1) := by decide +kernel
theorem dX10_appendFrom_63 : decode cX10_appendFrom 63 = .ok (.iaload, 1) := by decide +kernel
theorem dX10_appendFrom_64 : decode cX10_appendFrom 64 = .ok (.invokevirtual 186, 3) := by decide +kernel
theorem dX10_appendFrom_67 : decode cX10_appendFrom 67 = .ok (.pop, 1) := by decide +kernel
theorem dX10_appendFrom_68 : decode cX10_appendFrom 68 = .ok (.aload_n 0, 1) := by decide +kernel
theorem dX10_appendFrom_69 : decode cX10_appendFrom 69 = .ok (.getfield 47, 3) := by decide +kernel
theorem dX10_appendFrom_72 : decode cX10_appendFrom 72 = .ok (.iconst 1, 1) := by decide +kernel
theorem dX10_appendFrom_73 : decode cX10_appendFrom 73 = .ok (.putfield 182, 3) := by decide +kernel
theorem dX10_appendFrom_76 : decode cX10_appendFrom 76 = .ok (.iinc 4 1, 3) := by decide +kernel
theorem dX10_appendFrom_79 : decode cX10_appendFrom 79 = .ok (.goto (-76), 3) := by decide +kernel
theorem dX10_appendFrom_82 : decode cX10_appendFrom 82 = .ok (.return_, 1) := by decide +kernel
