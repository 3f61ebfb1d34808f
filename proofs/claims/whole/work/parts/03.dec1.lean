theorem dX0_init_0 : decode cX0_init 0 = .ok (.aload_n 0, 1) := by decide +kernel
theorem dX0_init_1 : decode cX0_init 1 = .ok (.invokespecial 3, 3) := by decide +kernel
theorem dX0_init_4 : decode cX0_init 4 = .ok (.aload_n 0, 1) := by decide +kernel
theorem dX0_init_5 : decode cX0_init 5 = .ok (.iconst 0, 1) := by decide +kernel
theorem dX0_init_6 : decode cX0_init 6 = .ok (.putfield 9, 3) := by decide +kernel
theorem dX0_init_9 : decode cX0_init 9 = .ok (.aload_n 0, 1) := by decide +kernel
theorem dX0_init_10 : decode cX0_init 10 = .ok (.iconst 3, 1) := by decide +kernel
theorem dX0_init_11 : decode cX0_init 11 = .ok (.bipush 40, 2) := by decide +kernel
theorem dX0_init_13 : decode cX0_init 13 = .ok (.multianewarray 15 2, 4) := by decide +kernel
theorem dX0_init_17 : decode cX0_init 17 = .ok (.putfield 17, 3) := by decide +kernel
theorem dX0_init_20 : decode cX0_init 20 = .ok (.aload_n 0, 1) := by decide +kernel
theorem dX0_init_21 : decode cX0_init 21 = .ok (.iconst 5, 1) := by decide +kernel
theorem dX0_init_22 : decode cX0_init 22 = .ok (.bipush 80, 2) := by decide +kernel
theorem dX0_init_24 : decode cX0_init 24 = .ok (.multianewarray 15 2, 4) := by decide +kernel
theorem dX0_init_28 : decode cX0_init 28 = .ok (.putfield 20, 3) := by decide +kernel
theorem dX0_init_31 : decode cX0_init 31 = .ok (.return_, 1) := by decide +kernel
theorem dX0_marks_0 : decode cX0_marks 0 = .ok (.iconst 2, 1) := by decide +kernel
theorem dX0_marks_1 : decode cX0_marks 1 = .ok (.aload_n 0, 1) := by decide +kernel
theorem dX0_marks_2 : decode cX0_marks 2 = .ok (.getfield 9, 3) := by decide +kernel
theorem dX0_marks_5 : decode cX0_marks 5 = .ok (.imul, 1) := by decide +kernel
theorem dX0_marks_6 : decode cX0_marks 6 = .ok (.ireturn, 1) := by decide +kernel
theorem dX0_yearOf_0 : decode cX0_yearOf 0 = .ok (.aload_n 0, 1) := by decide +kernel
theorem dX0_yearOf_1 : decode cX0_yearOf 1 = .ok (.getfield 17, 3) := by decide +kernel
theorem dX0_yearOf_4 : decode cX0_yearOf 4 = .ok (.iconst 1, 1) := by decide +kernel
theorem dX0_yearOf_5 : decode cX0_yearOf 5 = .ok (.aaload, 1) := by decide +kernel
theorem dX0_yearOf_6 : decode cX0_yearOf 6 = .ok (.iload_n 1, 1) := by decide +kernel
theorem dX0_yearOf_7 : decode cX0_yearOf 7 = .ok (.iconst 2, 1) := by decide +kernel
theorem dX0_yearOf_8 : decode cX0_yearOf 8 = .ok (.idiv, 1) := by decide +kernel
theorem dX0_yearOf_9 : decode cX0_yearOf 9 = .ok (.iaload, 1) := by decide +kernel
theorem dX0_yearOf_10 : decode cX0_yearOf 10 = .ok (.ireturn, 1) := by decide +kernel
theorem dX0_append_0 : decode cX0_append 0 = .ok (.aload_n 0, 1) := by decide +kernel
theorem dX0_append_1 : decode cX0_append 1 = .ok (.getfield 9, 3) := by decide +kernel
theorem dX0_append_4 : decode cX0_append 4 = .ok (.istore 6, 2) := by decide +kernel
theorem dX0_append_6 : decode cX0_append 6 = .ok (.aload_n 0, 1) := by decide +kernel
theorem dX0_append_7 : decode cX0_append 7 = .ok (.getfield 17, 3) := by decide +kernel
theorem dX0_append_10 : decode cX0_append 10 = .ok (.iconst 0, 1) := by decide +kernel
theorem dX0_append_11 : decode cX0_append 11 = .ok (.aaload, 1) := by decide +kernel
theorem dX0_append_12 : decode cX0_append 12 = .ok (.iload 6, 2) := by decide +kernel
theorem dX0_append_14 : decode cX0_append 14 = .ok (.iload_n 1, 1) := by decide +kernel
theorem dX0_append_15 : decode cX0_append 15 = .ok (.iastore, 1) := by decide +kernel
theorem dX0_append_16 : decode cX0_append 16 = .ok (.aload_n 0, 1) := by decide +kernel
theorem dX0_append_17 : decode cX0_append 17 = .ok (.getfield 17, 3) := by decide +kernel
theorem dX0_append_20 : decode cX0_append 20 = .ok (.iconst 1, 1) := by decide +kernel
theorem dX0_append_21 : decode cX0_append 21 = .ok (.aaload, 1) := by decide +kernel
theorem dX0_append_22 : decode cX0_append 22 = .ok (.iload 6, 2) := by decide +kernel
theorem dX0_append_24 : decode cX0_append 24 = .ok (.iload_n 2, 1) := by decide +kernel
theorem dX0_append_25 : decode cX0_append 25 = .ok (.iastore, 1) := by decide +kernel
theorem dX0_append_26 : decode cX0_append 26 = .ok (.aload_n 0, 1) := by decide +kernel
theorem dX0_append_27 : decode cX0_append 27 = .ok (.getfield 17, 3) := by decide +kernel
theorem dX0_append_30 : decode cX0_append 30 = .ok (.iconst 2, 1) := by decide +kernel
theorem dX0_append_31 : decode cX0_append 31 = .ok (.aaload, 1) := by decide +kernel
theorem dX0_append_32 : decode cX0_append 32 = .ok (.iload 6, 2) := by decide +kernel
theorem dX0_append_34 : decode cX0_append 34 = .ok (.iload_n 3, 1) := by decide +kernel
theorem dX0_append_35 : decode cX0_append 35 = .ok (.iastore, 1) := by decide +kernel
theorem dX0_append_36 : decode cX0_append 36 = .ok (.aload_n 0, 1) := by decide +kernel
theorem dX0_append_37 : decode cX0_append 37 = .ok (.iconst 2, 1) := by decide +kernel
theorem dX0_append_38 : decode cX0_append 38 = .ok (.iload 6, 2) := by decide +kernel
theorem dX0_append_40 : decode cX0_append 40 = .ok (.imul, 1) := by decide +kernel
theorem dX0_append_41 : decode cX0_append 41 = .ok (.iload 4, 2) := by decide +kernel
theorem dX0_append_43 : decode cX0_append 43 = .ok (.invokevirtual 23, 3) := by decide +kernel
theorem dX0_append_46 : decode cX0_append 46 = .ok (.aload_n 0, 1) := by decide +kernel
theorem dX0_append_47 : decode cX0_append 47 = .ok (.iconst 2, 1) := by decide +kernel
theorem dX0_append_48 : decode cX0_append 48 = .ok (.iload 6, 2) := by decide +kernel
theorem dX0_append_50 : decode cX0_append 50 = .ok (.imul, 1) := by decide +kernel
theorem dX0_append_51 : decode cX0_append 51 = .ok (.iconst 1, 1) := by decide +kernel
theorem dX0_append_52 : decode cX0_append 52 = .ok (.iadd, 1) := by decide +kernel
theorem dX0_append_53 : decode cX0_append 53 = .ok (.iload 5, 2) := by decide +kernel
theorem dX0_append_55 : decode cX0_append 55 = .ok (.invokevirtual 23, 3) := by decide +kernel
theorem dX0_append_58 : decode cX0_append 58 = .ok (.aload_n 0, 1) := by decide +kernel
theorem dX0_append_59 : decode cX0_append 59 = .ok (.dup, 1) := by decide +kernel
theorem dX0_append_60 : decode cX0_append 60 = .ok (.getfield 9, 3) := by decide +kernel
theorem dX0_append_63 : decode cX0_append 63 = .ok (.iconst 1, 1) := by decide +kernel
theorem dX0_append_64 : decode cX0_append 64 = .ok (.iadd, 1) := by decide +kernel
theorem dX0_append_65 : decode cX0_append 65 = .ok (.putfield 9, 3) := by decide +kernel
theorem dX0_append_68 : decode cX0_append 68 = .ok (.iload 6, 2) := by decide +kernel
theorem dX0_append_70 : decode cX0_append 70 = .ok (.ireturn, 1) := by decide +kernel
theorem dX0_startSide_0 : decode cX0_startSide 0 = .ok (.aload_n 0, 1) := by decide +kernel
theorem dX0_startSide_1 : decode cX0_startSide 1 = .ok (.getfield 20, 3) := by decide +kernel
theorem dX0_startSide_4 : decode cX0_startSide 4 = .ok (.iconst 0, 1) := by decide +kernel
theorem dX0_startSide_5 : decode cX0_startSide 5 = .ok (.aaload, 1) := by decide +kernel
theorem dX0_startSide_6 : decode cX0_startSide 6 = .ok (.iload_n 1, 1) := by decide +kernel
theorem dX0_startSide_7 : decode cX0_startSide 7 = .ok (.iload_n 2, 1) := by decide +kernel
theorem dX0_startSide_8 : decode cX0_startSide 8 = .ok (.iastore, 1) := by decide +kernel
theorem dX0_startSide_9 : decode cX0_startSide 9 = .ok (.aload_n 0, 1) := by decide +kernel
theorem dX0_startSide_10 : decode cX0_startSide 10 = .ok (.getfield 20, 3) := by decide +kernel
theorem dX0_startSide_13 : decode cX0_startSide 13 = .ok (.iconst 1, 1) := by decide +kernel
theorem dX0_startSide_14 : decode cX0_startSide 14 = .ok (.aaload, 1) := by decide +kernel
theorem dX0_startSide_15 : decode cX0_startSide 15 = .ok (.iload_n 1, 1) := by decide +kernel
theorem dX0_startSide_16 : decode cX0_startSide 16 = .ok (.iconst 0, 1) := by decide +kernel
theorem dX0_startSide_17 : decode cX0_startSide 17 = .ok (.iastore, 1) := by decide +kernel
theorem dX0_startSide_18 : decode cX0_startSide 18 = .ok (.aload_n 0, 1) := by decide +kernel
theorem dX0_startSide_19 : decode cX0_startSide 19 = .ok (.getfield 20, 3) := by decide +kernel
theorem dX0_startSide_22 : decode cX0_startSide 22 = .ok (.iconst 2, 1) := by decide +kernel
theorem dX0_startSide_23 : decode cX0_startSide 23 = .ok (.aaload, 1) := by decide +kernel
theorem dX0_startSide_24 : decode cX0_startSide 24 = .ok (.iload_n 1, 1) := by decide +kernel
theorem dX0_startSide_25 : decode cX0_startSide 25 = .ok (.iconst 0, 1) := by decide +kernel
theorem dX0_startSide_26 : decode cX0_startSide 26 = .ok (.iastore, 1) := by decide +kernel
theorem dX0_startSide_27 : decode cX0_startSide 27 = .ok (.aload_n 0, 1) := by decide +kernel
theorem dX0_startSide_28 : decode cX0_startSide 28 = .ok (.getfield 20, 3) := by decide +kernel
theorem dX0_startSide_31 : decode cX0_startSide 31 = .ok (.iconst 3, 1) := by decide +kernel
theorem dX0_startSide_32 : decode cX0_startSide 32 = .ok (.aaload, 1) := by decide +kernel
theorem dX0_startSide_33 : decode cX0_startSide 33 = .ok (.iload_n 1, 1) := by decide +kernel
theorem dX0_startSide_34 : decode cX0_startSide 34 = .ok (.iconst 0, 1) := by decide +kernel
theorem dX0_startSide_35 : decode cX0_startSide 35 = .ok (.iastore, 1) := by decide +kernel
theorem dX0_startSide_36 : decode cX0_startSide 36 = .ok (.aload_n 0, 1) := by decide +kernel
theorem dX0_startSide_37 : decode cX0_startSide 37 = .ok (.getfield 20, 3) := by decide +kernel
theorem dX0_startSide_40 : decode cX0_startSide 40 = .ok (.iconst 4, 1) := by decide +kernel
theorem dX0_startSide_41 : decode cX0_startSide 41 = .ok (.aaload, 1) := by decide +kernel
theorem dX0_startSide_42 : decode cX0_startSide 42 = .ok (.iload_n 1, 1) := by decide +kernel
theorem dX0_startSide_43 : decode cX0_startSide 43 = .ok (.iconst 1, 1) := by decide +kernel
theorem dX0_startSide_44 : decode cX0_startSide 44 = .ok (.iastore, 1) := by decide +kernel
theorem dX0_startSide_45 : decode cX0_startSide 45 = .ok (.return_, 1) := by decide +kernel
theorem dX0_drop_0 : decode cX0_drop 0 = .ok (.aload_n 0, 1) := by decide +kernel
theorem dX0_drop_1 : decode cX0_drop 1 = .ok (.getfield 9, 3) := by decide +kernel
theorem dX0_drop_4 : decode cX0_drop 4 = .ok (.iload_n 1, 1) := by decide +kernel
theorem dX0_drop_5 : decode cX0_drop 5 = .ok (.isub, 1) := by decide +kernel
theorem dX0_drop_6 : decode cX0_drop 6 = .ok (.iconst 1, 1) := by decide +kernel
theorem dX0_drop_7 : decode cX0_drop 7 = .ok (.isub, 1) := by decide +kernel
theorem dX0_drop_8 : decode cX0_drop 8 = .ok (.istore_n 2, 1) := by decide +kernel
theorem dX0_drop_9 : decode cX0_drop 9 = .ok (.iconst 0, 1) := by decide +kernel
theorem dX0_drop_10 : decode cX0_drop 10 = .ok (.istore_n 3, 1) := by decide +kernel
theorem dX0_drop_11 : decode cX0_drop 11 = .ok (.iload_n 3, 1) := by decide +kernel
theorem dX0_drop_12 : decode cX0_drop 12 = .ok (.aload_n 0, 1) := by decide +kernel
theorem dX0_drop_13 : decode cX0_drop 13 = .ok (.getfield 17, 3) := by decide +kernel
theorem dX0_drop_16 : decode cX0_drop 16 = .ok (.arraylength, 1) := by decide +kernel
theorem dX0_drop_17 : decode cX0_drop 17 = .ok (.if_icmp .ge 29, 3) := by decide +kernel
theorem dX0_drop_20 : decode cX0_drop 20 = .ok (.aload_n 0, 1) := by decide +kernel
theorem dX0_drop_21 : decode cX0_drop 21 = .ok (.getfield 17, 3) := by decide +kernel
theorem dX0_drop_24 : decode cX0_drop 24 = .ok (.iload_n 3, 1) := by decide +kernel
theorem dX0_drop_25 : decode cX0_drop 25 = .ok (.aaload, 1) := by decide +kernel
theorem dX0_drop_26 : decode cX0_drop 26 = .ok (.iload_n 1, 1) := by decide +kernel
theorem dX0_drop_27 : decode cX0_drop 27 = .ok (.iconst 1, 1) := by decide +kernel
theorem dX0_drop_28 : decode cX0_drop 28 = .ok (.iadd, 1) := by decide +kernel
theorem dX0_drop_29 : decode cX0_drop 29 = .ok (.aload_n 0, 1) := by decide +kernel
theorem dX0_drop_30 : decode cX0_drop 30 = .ok (.getfield 17, 3) := by decide +kernel
theorem dX0_drop_33 : decode cX0_drop 33 = .ok (.iload_n 3, 1) := by decide +kernel
theorem dX0_drop_34 : decode cX0_drop 34 = .ok (.aaload, 1) := by decide +kernel
theorem dX0_drop_35 : decode cX0_drop 35 = .ok (.iload_n 1, 1) := by decide +kernel
theorem dX0_drop_36 : decode cX0_drop 36 = .ok (.iload_n 2, 1) := by decide +kernel
theorem dX0_drop_37 : decode cX0_drop 37 = .ok (.invokestatic 27, 3) := by decide +kernel
theorem dX0_drop_40 : decode cX0_drop 40 = .ok (.iinc 3 1, 3) := by decide +kernel
theorem dX0_drop_43 : decode cX0_drop 43 = .ok (.goto (-32), 3) := by decide +kernel
theorem dX0_drop_46 : decode cX0_drop 46 = .ok (.iconst 0, 1) := by decide +kernel
theorem dX0_drop_47 : decode cX0_drop 47 = .ok (.istore_n 3, 1) := by decide +kernel
theorem dX0_drop_48 : decode cX0_drop 48 = .ok (.iload_n 3, 1) := by decide +kernel
theorem dX0_drop_49 : decode cX0_drop 49 = .ok (.aload_n 0, 1) := by decide +kernel
theorem dX0_drop_50 : decode cX0_drop 50 = .ok (.getfield 20, 3) := by decide +kernel
theorem dX0_drop_53 : decode cX0_drop 53 = .ok (.arraylength, 1) := by decide +kernel
theorem dX0_drop_54 : decode cX0_drop 54 = .ok (.if_icmp .ge 35, 3) := by decide +kernel
theorem dX0_drop_57 : decode cX0_drop 57 = .ok (.aload_n 0, 1) := by decide +kernel
theorem dX0_drop_58 : decode cX0_drop 58 = .ok (.getfield 20, 3) := by decide +kernel
theorem dX0_drop_61 : decode cX0_drop 61 = .ok (.iload_n 3, 1) := by decide +kernel
theorem dX0_drop_62 : decode cX0_drop 62 = .ok (.aaload, 1) := by decide +kernel
theorem dX0_drop_63 : decode cX0_drop 63 = .ok (.iconst 2, 1) := by decide +kernel
theorem dX0_drop_64 : decode cX0_drop 64 = .ok (.iload_n 1, 1) := by decide +kernel
theorem dX0_drop_65 : decode cX0_drop 65 = .ok (.imul, 1) := by decide +kernel
theorem dX0_drop_66 : decode cX0_drop 66 = .ok (.iconst 2, 1) := by decide +kernel
theorem dX0_drop_67 : decode cX0_drop 67 = .ok (.iadd, 1) := by decide +kernel
theorem dX0_drop_68 : decode cX0_drop 68 = .ok (.aload_n 0, 1) := by decide +kernel
theorem dX0_drop_69 : decode cX0_drop 69 = .ok (.getfield 20, 3) := by decide +kernel
theorem dX0_drop_72 : decode cX0_drop 72 = .ok (.iload_n 3, 1) := by decide +kernel
theorem dX0_drop_73 : decode cX0_drop 73 = .ok (.aaload, 1) := by decide +kernel
theorem dX0_drop_74 : decode cX0_drop 74 = .ok (.iconst 2, 1) := by decide +kernel
theorem dX0_drop_75 : decode cX0_drop 75 = .ok (.iload_n 1, 1) := by decide +kernel
theorem dX0_drop_76 : decode cX0_drop 76 = .ok (.imul, 1) := by decide +kernel
theorem dX0_drop_77 : decode cX0_drop 77 = .ok (.iconst 2, 1) := by decide +kernel
theorem dX0_drop_78 : decode cX0_drop 78 = .ok (.iload_n 2, 1) := by decide +kernel
theorem dX0_drop_79 : decode cX0_drop 79 = .ok (.imul, 1) := by decide +kernel
theorem dX0_drop_80 : decode cX0_drop 80 = .ok (.invokestatic 27, 3) := by decide +kernel
theorem dX0_drop_83 : decode cX0_drop 83 = .ok (.iinc 3 1, 3) := by decide +kernel
theorem dX0_drop_86 : decode cX0_drop 86 = .ok (.goto (-38), 3) := by decide +kernel
theorem dX0_drop_89 : decode cX0_drop 89 = .ok (.aload_n 0, 1) := by decide +kernel
theorem dX0_drop_90 : decode cX0_drop 90 = .ok (.dup, 1) := by decide +kernel
theorem dX0_drop_91 : decode cX0_drop 91 = .ok (.getfield 9, 3) := by decide +kernel
theorem dX0_drop_94 : decode cX0_drop 94 = .ok (.iconst 1, 1) := by decide +kernel
theorem dX0_drop_95 : decode cX0_drop 95 = .ok (.isub, 1) := by decide +kernel
theorem dX0_drop_96 : decode cX0_drop 96 = .ok (.putfield 9, 3) := by decide +kernel
theorem dX0_drop_99 : decode cX0_drop 99 = .ok (.return_, 1) := by decide +kernel
theorem dX0_copy_0 : decode cX0_copy 0 = .ok (.aload_n 0, 1) := by decide +kernel
theorem dX0_copy_1 : decode cX0_copy 1 = .ok (.aload_n 1, 1) := by decide +kernel
theorem dX0_copy_2 : decode cX0_copy 2 = .ok (.getfield 9, 3) := by decide +kernel
theorem dX0_copy_5 : decode cX0_copy 5 = .ok (.putfield 9, 3) := by decide +kernel
theorem dX0_copy_8 : decode cX0_copy 8 = .ok (.iconst 0, 1) := by decide +kernel
theorem dX0_copy_9 : decode cX0_copy 9 = .ok (.istore_n 2, 1) := by decide +kernel
theorem dX0_copy_10 : decode cX0_copy 10 = .ok (.iload_n 2, 1) := by decide +kernel
theorem dX0_copy_11 : decode cX0_copy 11 = .ok (.aload_n 0, 1) := by decide +kernel
theorem dX0_copy_12 : decode cX0_copy 12 = .ok (.getfield 17, 3) := by decide +kernel
theorem dX0_copy_15 : decode cX0_copy 15 = .ok (.arraylength, 1) := by decide +kernel
theorem dX0_copy_16 : decode cX0_copy 16 = .ok (.if_icmp .ge 30, 3) := by decide +kernel
theorem dX0_copy_19 : decode cX0_copy 19 = .ok (.aload_n 1, 1) := by decide +kernel
theorem dX0_copy_20 : decode cX0_copy 20 = .ok (.getfield 17, 3) := by decide +kernel
theorem dX0_copy_23 : decode cX0_copy 23 = .ok (.iload_n 2, 1) := by decide +kernel
theorem dX0_copy_24 : decode cX0_copy 24 = .ok (.aaload, 1) := by decide +kernel
theorem dX0_copy_25 : decode cX0_copy 25 = .ok (.iconst 0, 1) := by decide +kernel
theorem dX0_copy_26 : decode cX0_copy 26 = .ok (.aload_n 0, 1) := by decide +kernel
theorem dX0_copy_27 : decode cX0_copy 27 = .ok (.getfield 17, 3) := by decide +kernel
theorem dX0_copy_30 : decode cX0_copy 30 = .ok (.iload_n 2, 1) := by decide +kernel
theorem dX0_copy_31 : decode cX0_copy 31 = .ok (.aaload, 1) := by decide +kernel
theorem dX0_copy_32 : decode cX0_copy 32 = .ok (.iconst 0, 1) := by decide +kernel
theorem dX0_copy_33 : decode cX0_copy 33 = .ok (.aload_n 0, 1) := by decide +kernel
theorem dX0_copy_34 : decode cX0_copy 34 = .ok (.getfield 9, 3) := by decide +kernel
theorem dX0_copy_37 : decode cX0_copy 37 = .ok (.invokestatic 27, 3) := by decide +kernel
theorem dX0_copy_40 : decode cX0_copy 40 = .ok (.iinc 2 1, 3) := by decide +kernel
theorem dX0_copy_43 : decode cX0_copy 43 = .ok (.goto (-33), 3) := by decide +kernel
theorem dX0_copy_46 : decode cX0_copy 46 = .ok (.iconst 0, 1) := by decide +kernel
theorem dX0_copy_47 : decode cX0_copy 47 = .ok (.istore_n 2, 1) := by decide +kernel
theorem dX0_copy_48 : decode cX0_copy 48 = .ok (.iload_n 2, 1) := by decide +kernel
theorem dX0_copy_49 : decode cX0_copy 49 = .ok (.aload_n 0, 1) := by decide +kernel
theorem dX0_copy_50 : decode cX0_copy 50 = .ok (.getfield 20, 3) := by decide +kernel
theorem dX0_copy_53 : decode cX0_copy 53 = .ok (.arraylength, 1) := by decide +kernel
theorem dX0_copy_54 : decode cX0_copy 54 = .ok (.if_icmp .ge 32, 3) := by decide +kernel
theorem dX0_copy_57 : decode cX0_copy 57 = .ok (.aload_n 1, 1) := by decide +kernel
theorem dX0_copy_58 : decode cX0_copy 58 = .ok (.getfield 20, 3) := by decide +kernel
theorem dX0_copy_61 : decode cX0_copy 61 = .ok (.iload_n 2, 1) := by decide +kernel
theorem dX0_copy_62 : decode cX0_copy 62 = .ok (.aaload, 1) := by decide +kernel
theorem dX0_copy_63 : decode cX0_copy 63 = .ok (.iconst 0, 1) := by decide +kernel
theorem dX0_copy_64 : decode cX0_copy 64 = .ok (.aload_n 0, 1) := by decide +kernel
theorem dX0_copy_65 : decode cX0_copy 65 = .ok (.getfield 20, 3) := by decide +kernel
theorem dX0_copy_68 : decode cX0_copy 68 = .ok (.iload_n 2, 1) := by decide +kernel
theorem dX0_copy_69 : decode cX0_copy 69 = .ok (.aaload, 1) := by decide +kernel
theorem dX0_copy_70 : decode cX0_copy 70 = .ok (.iconst 0, 1) := by decide +kernel
theorem dX0_copy_71 : decode cX0_copy 71 = .ok (.iconst 2, 1) := by decide +kernel
theorem dX0_copy_72 : decode cX0_copy 72 = .ok (.aload_n 0, 1) := by decide +kernel
theorem dX0_copy_73 : decode cX0_copy 73 = .ok (.getfield 9, 3) := by decide +kernel
theorem dX0_copy_76 : decode cX0_copy 76 = .ok (.imul, 1) := by decide +kernel
theorem dX0_copy_77 : decode cX0_copy 77 = .ok (.invokestatic 27, 3) := by decide +kernel
theorem dX0_copy_80 : decode cX0_copy 80 = .ok (.iinc 2 1, 3) := by decide +kernel
theorem dX0_copy_83 : decode cX0_copy 83 = .ok (.goto (-35), 3) := by decide +kernel
theorem dX0_copy_86 : decode cX0_copy 86 = .ok (.return_, 1) := by decide +kernel
theorem dX0_areAllBelow_0 : decode cX0_areAllBelow 0 = .ok (.iconst 0, 1) := by decide +kernel
theorem dX0_areAllBelow_1 : decode cX0_areAllBelow 1 = .ok (.istore_n 2, 1) := by decide +kernel
theorem dX0_areAllBelow_2 : decode cX0_areAllBelow 2 = .ok (.iload_n 2, 1) := by decide +kernel
theorem dX0_areAllBelow_3 : decode cX0_areAllBelow 3 = .ok (.aload_n 0, 1) := by decide +kernel
theorem dX0_areAllBelow_4 : decode cX0_areAllBelow 4 = .ok (.getfield 9, 3) := by decide +kernel
theorem dX0_areAllBelow_7 : decode cX0_areAllBelow 7 = .ok (.if_icmp .ge 23, 3) := by decide +kernel
theorem dX0_areAllBelow_10 : decode cX0_areAllBelow 10 = .ok (.aload_n 0, 1) := by decide +kernel
theorem dX0_areAllBelow_11 : decode cX0_areAllBelow 11 = .ok (.getfield 17, 3) := by decide +kernel
theorem dX0_areAllBelow_14 : decode cX0_areAllBelow 14 = .ok (.iconst 0, 1) := by decide +kernel
theorem dX0_areAllBelow_15 : decode cX0_areAllBelow 15 = .ok (.aaload, 1) := by decide +kernel
theorem dX0_areAllBelow_16 : decode cX0_areAllBelow 16 = .ok (.iload_n 2, 1) := by decide +kernel
theorem dX0_areAllBelow_17 : decode cX0_areAllBelow 17 = .ok (.iaload, 1) := by decide +kernel
theorem dX0_areAllBelow_18 : decode cX0_areAllBelow 18 = .ok (.iload_n 1, 1) := by decide +kernel
theorem dX0_areAllBelow_19 : decode cX0_areAllBelow 19 = .ok (.if_icmp .lt 5, 3) := by decide +kernel
theorem dX0_areAllBelow_22 : decode cX0_areAllBelow 22 = .ok (.iconst 0, 1) := by decide +kernel
theorem dX0_areAllBelow_23 : decode cX0_areAllBelow 23 = .ok (.ireturn, 1) := by decide +kernel
theorem dX0_areAllBelow_24 : decode cX0_areAllBelow 24 = .ok (.iinc 2 1, 3) := by decide +kernel
theorem dX0_areAllBelow_27 : decode cX0_areAllBelow 27 = .ok (.goto (-25), 3) := by decide +kernel
theorem dX0_areAllBelow_30 : decode cX0_areAllBelow 30 = .ok (.iconst 1, 1) := by decide +kernel
theorem dX0_areAllBelow_31 : decode cX0_areAllBelow 31 = .ok (.ireturn, 1) := by decide +kernel
theorem dX0_marriagesIn_0 : decode cX0_marriagesIn 0 = .ok (.iconst 0, 1) := by decide +kernel
theorem dX0_marriagesIn_1 : decode cX0_marriagesIn 1 = .ok (.istore_n 2, 1) := by decide +kernel
theorem dX0_marriagesIn_2 : decode cX0_marriagesIn 2 = .ok (.iconst 0, 1) := by decide +kernel
theorem dX0_marriagesIn_3 : decode cX0_marriagesIn 3 = .ok (.istore_n 3, 1) := by decide +kernel
theorem dX0_marriagesIn_4 : decode cX0_marriagesIn 4 = .ok (.iload_n 3, 1) := by decide +kernel
theorem dX0_marriagesIn_5 : decode cX0_marriagesIn 5 = .ok (.aload_n 0, 1) := by decide +kernel
theorem dX0_marriagesIn_6 : decode cX0_marriagesIn 6 = .ok (.getfield 9, 3) := by decide +kernel
theorem dX0_marriagesIn_9 : decode cX0_marriagesIn 9 = .ok (.if_icmp .ge 24, 3) := by decide +kernel
theorem dX0_marriagesIn_12 : decode cX0_marriagesIn 12 = .ok (.aload_n 0, 1) := by decide +kernel
theorem dX0_marriagesIn_13 : decode cX0_marriagesIn 13 = .ok (.getfield 17, 3) := by decide +kernel
theorem dX0_marriagesIn_16 : decode cX0_marriagesIn 16 = .ok (.iconst 0, 1) := by decide +kernel
theorem dX0_marriagesIn_17 : decode cX0_marriagesIn 17 = .ok (.aaload, 1) := by decide +kernel
theorem dX0_marriagesIn_18 : decode cX0_marriagesIn 18 = .ok (.iload_n 3, 1) := by decide +kernel
theorem dX0_marriagesIn_19 : decode cX0_marriagesIn 19 = .ok (.iaload, 1) := by decide +kernel
theorem dX0_marriagesIn_20 : decode cX0_marriagesIn 20 = .ok (.iload_n 1, 1) := by decide +kernel
theorem dX0_marriagesIn_21 : decode cX0_marriagesIn 21 = .ok (.if_icmp .ne 6, 3) := by decide +kernel
theorem dX0_marriagesIn_24 : decode cX0_marriagesIn 24 = .ok (.iinc 2 1, 3) := by decide +kernel
theorem dX0_marriagesIn_27 : decode cX0_marriagesIn 27 = .ok (.iinc 3 1, 3) := by decide +kernel
theorem dX0_marriagesIn_30 : decode cX0_marriagesIn 30 = .ok (.goto (-26), 3) := by decide +kernel
theorem dX0_marriagesIn_33 : decode cX0_marriagesIn 33 = .ok (.iload_n 2, 1) := by decide +kernel
theorem dX0_marriagesIn_34 : decode cX0_marriagesIn 34 = .ok (.ireturn, 1) := by decide +kernel
theorem dX0_groupOf_0 : decode cX0_groupOf 0 = .ok (.iload_n 2, 1) := by decide +kernel
theorem dX0_groupOf_1 : decode cX0_groupOf 1 = .ok (.tableswitch 53 0 2 #[27, 38, 49], 27) := by decide +kernel
theorem dX0_groupOf_28 : decode cX0_groupOf 28 = .ok (.aload_n 0, 1) := by decide +kernel
theorem dX0_groupOf_29 : decode cX0_groupOf 29 = .ok (.getfield 17, 3) := by decide +kernel
theorem dX0_groupOf_32 : decode cX0_groupOf 32 = .ok (.iconst 0, 1) := by decide +kernel
theorem dX0_groupOf_33 : decode cX0_groupOf 33 = .ok (.aaload, 1) := by decide +kernel
theorem dX0_groupOf_34 : decode cX0_groupOf 34 = .ok (.iload_n 1, 1) := by decide +kernel
theorem dX0_groupOf_35 : decode cX0_groupOf 35 = .ok (.iconst 2, 1) := by decide +kernel
theorem dX0_groupOf_36 : decode cX0_groupOf 36 = .ok (.idiv, 1) := by decide +kernel
theorem dX0_groupOf_37 : decode cX0_groupOf 37 = .ok (.iaload, 1) := by decide +kernel
theorem dX0_groupOf_38 : decode cX0_groupOf 38 = .ok (.ireturn, 1) := by decide +kernel
theorem dX0_groupOf_39 : decode cX0_groupOf 39 = .ok (.aload_n 0, 1) := by decide +kernel
theorem dX0_groupOf_40 : decode cX0_groupOf 40 = .ok (.getfield 17, 3) := by decide +kernel
theorem dX0_groupOf_43 : decode cX0_groupOf 43 = .ok (.iconst 2, 1) := by decide +kernel
theorem dX0_groupOf_44 : decode cX0_groupOf 44 = .ok (.aaload, 1) := by decide +kernel
theorem dX0_groupOf_45 : decode cX0_groupOf 45 = .ok (.iload_n 1, 1) := by decide +kernel
theorem dX0_groupOf_46 : decode cX0_groupOf 46 = .ok (.iconst 2, 1) := by decide +kernel
theorem dX0_groupOf_47 : decode cX0_groupOf 47 = .ok (.idiv, 1) := by decide +kernel
theorem dX0_groupOf_48 : decode cX0_groupOf 48 = .ok (.iaload, 1) := by decide +kernel
theorem dX0_groupOf_49 : decode cX0_groupOf 49 = .ok (.ireturn, 1) := by decide +kernel
theorem dX0_groupOf_50 : decode cX0_groupOf 50 = .ok (.iload_n 1, 1) := by decide +kernel
theorem dX0_groupOf_51 : decode cX0_groupOf 51 = .ok (.iconst 2, 1) := by decide +kernel
theorem dX0_groupOf_52 : decode cX0_groupOf 52 = .ok (.irem, 1) := by decide +kernel
theorem dX0_groupOf_53 : decode cX0_groupOf 53 = .ok (.ireturn, 1) := by decide +kernel
theorem dX0_groupOf_54 : decode cX0_groupOf 54 = .ok (.aload_n 0, 1) := by decide +kernel
theorem dX0_groupOf_55 : decode cX0_groupOf 55 = .ok (.getfield 20, 3) := by decide +kernel
theorem dX0_groupOf_58 : decode cX0_groupOf 58 = .ok (.iconst 4, 1) := by decide +kernel
theorem dX0_groupOf_59 : decode cX0_groupOf 59 = .ok (.aaload, 1) := by decide +kernel
theorem dX0_groupOf_60 : decode cX0_groupOf 60 = .ok (.iload_n 1, 1) := by decide +kernel
theorem dX0_groupOf_61 : decode cX0_groupOf 61 = .ok (.iaload, 1) := by decide +kernel
theorem dX0_groupOf_62 : decode cX0_groupOf 62 = .ok (.ireturn, 1) := by decide +kernel
theorem dX0_isOf_0 : decode cX0_isOf 0 = .ok (.aload_n 0, 1) := by decide +kernel
theorem dX0_isOf_1 : decode cX0_isOf 1 = .ok (.getfield 20, 3) := by decide +kernel
theorem dX0_isOf_4 : decode cX0_isOf 4 = .ok (.iconst 3, 1) := by decide +kernel
theorem dX0_isOf_5 : decode cX0_isOf 5 = .ok (.aaload, 1) := by decide +kernel
theorem dX0_isOf_6 : decode cX0_isOf 6 = .ok (.iload_n 1, 1) := by decide +kernel
theorem dX0_isOf_7 : decode cX0_isOf 7 = .ok (.iaload, 1) := by decide +kernel
theorem dX0_isOf_8 : decode cX0_isOf 8 = .ok (.iload_n 2, 1) := by decide +kernel
theorem dX0_isOf_9 : decode cX0_isOf 9 = .ok (.if_icmp .ne 19, 3) := by decide +kernel
theorem dX0_isOf_12 : decode cX0_isOf 12 = .ok (.aload_n 0, 1) := by decide +kernel
theorem dX0_isOf_13 : decode cX0_isOf 13 = .ok (.getfield 20, 3) := by decide +kernel
theorem dX0_isOf_16 : decode cX0_isOf 16 = .ok (.iconst 0, 1) := by decide +kernel
theorem dX0_isOf_17 : decode cX0_isOf 17 = .ok (.aaload, 1) := by decide +kernel
theorem dX0_isOf_18 : decode cX0_isOf 18 = .ok (.iload_n 1, 1) := by decide +kernel
theorem dX0_isOf_19 : decode cX0_isOf 19 = .ok (.iaload, 1) := by decide +kernel
theorem dX0_isOf_20 : decode cX0_isOf 20 = .ok (.iload_n 3, 1) := by decide +kernel
theorem dX0_isOf_21 : decode cX0_isOf 21 = .ok (.if_icmp .ne 7, 3) := by decide +kernel
theorem dX0_isOf_24 : decode cX0_isOf 24 = .ok (.iconst 1, 1) := by decide +kernel
theorem dX0_isOf_25 : decode cX0_isOf 25 = .ok (.goto 4, 3) := by decide +kernel
theorem dX0_isOf_28 : decode cX0_isOf 28 = .ok (.iconst 0, 1) := by decide +kernel
theorem dX0_isOf_29 : decode cX0_isOf 29 = .ok (.ireturn, 1) := by decide +kernel
theorem dX0_marksOf_0 : decode cX0_marksOf 0 = .ok (.iconst 0, 1) := by decide +kernel
theorem dX0_marksOf_1 : decode cX0_marksOf 1 = .ok (.istore_n 3, 1) := by decide +kernel
theorem dX0_marksOf_2 : decode cX0_marksOf 2 = .ok (.iconst 0, 1) := by decide +kernel
theorem dX0_marksOf_3 : decode cX0_marksOf 3 = .ok (.istore 4, 2) := by decide +kernel
theorem dX0_marksOf_5 : decode cX0_marksOf 5 = .ok (.iload 4, 2) := by decide +kernel
theorem dX0_marksOf_7 : decode cX0_marksOf 7 = .ok (.aload_n 0, 1) := by decide +kernel
theorem dX0_marksOf_8 : decode cX0_marksOf 8 = .ok (.invokevirtual 33, 3) := by decide +kernel
theorem dX0_marksOf_11 : decode cX0_marksOf 11 = .ok (.if_icmp .ge 23, 3) := by decide +kernel
theorem dX0_marksOf_14 : decode cX0_marksOf 14 = .ok (.aload_n 0, 1) := by decide +kernel
theorem dX0_marksOf_15 : decode cX0_marksOf 15 = .ok (.iload 4, 2) := by decide +kernel
theorem dX0_marksOf_17 : decode cX0_marksOf 17 = .ok (.iload_n 1, 1) := by decide +kernel
theorem dX0_marksOf_18 : decode cX0_marksOf 18 = .ok (.iload_n 2, 1) := by decide +kernel
theorem dX0_marksOf_19 : decode cX0_marksOf 19 = .ok (.invokevirtual 37, 3) := by decide +kernel
theorem dX0_marksOf_22 : decode cX0_marksOf 22 = .ok (.ifCond .eq 6, 3) := by decide +kernel
theorem dX0_marksOf_25 : decode cX0_marksOf 25 = .ok (.iinc 3 1, 3) := by decide +kernel
theorem dX0_marksOf_28 : decode cX0_marksOf 28 = .ok (.iinc 4 1, 3) := by decide +kernel
theorem dX0_marksOf_31 : decode cX0_marksOf 31 = .ok (.goto (-26), 3) := by decide +kernel
theorem dX0_marksOf_34 : decode cX0_marksOf 34 = .ok (.iload_n 3, 1) := by decide +kernel
theorem dX0_marksOf_35 : decode cX0_marksOf 35 = .ok (.ireturn, 1) := by decide +kernel
theorem dX0_changedFrom_0 : decode cX0_changedFrom 0 = .ok (.bipush 90, 2) := by decide +kernel
theorem dX0_changedFrom_2 : decode cX0_changedFrom 2 = .ok (.istore_n 3, 1) := by decide +kernel
theorem dX0_changedFrom_3 : decode cX0_changedFrom 3 = .ok (.iconst (-1), 1) := by decide +kernel
theorem dX0_changedFrom_4 : decode cX0_changedFrom 4 = .ok (.istore 4, 2) := by decide +kernel
theorem dX0_changedFrom_6 : decode cX0_changedFrom 6 = .ok (.iconst 0, 1) := by decide +kernel
theorem dX0_changedFrom_7 : decode cX0_changedFrom 7 = .ok (.istore 5, 2) := by decide +kernel
theorem dX0_changedFrom_9 : decode cX0_changedFrom 9 = .ok (.iload 5, 2) := by decide +kernel
theorem dX0_changedFrom_11 : decode cX0_changedFrom 11 = .ok (.aload_n 0, 1) := by decide +kernel
theorem dX0_changedFrom_12 : decode cX0_changedFrom 12 = .ok (.invokevirtual 33, 3) := by decide +kernel
theorem dX0_changedFrom_15 : decode cX0_changedFrom 15 = .ok (.if_icmp .ge 60, 3) := by decide +kernel
theorem dX0_changedFrom_18 : decode cX0_changedFrom 18 = .ok (.aload_n 0, 1) := by decide +kernel
theorem dX0_changedFrom_19 : decode cX0_changedFrom 19 = .ok (.iload 5, 2) := by decide +kernel
theorem dX0_changedFrom_21 : decode cX0_changedFrom 21 = .ok (.iload_n 1, 1) := by decide +kernel
theorem dX0_changedFrom_22 : decode cX0_changedFrom 22 = .ok (.iload_n 2, 1) := by decide +kernel
theorem dX0_changedFrom_23 : decode cX0_changedFrom 23 = .ok (.invokevirtual 37, 3) := by decide +kernel
theorem dX0_changedFrom_26 : decode cX0_changedFrom 26 = .ok (.ifCond .eq 17, 3) := by decide +kernel
theorem dX0_changedFrom_29 : decode cX0_changedFrom 29 = .ok (.iload_n 3, 1) := by decide +kernel
theorem dX0_changedFrom_30 : decode cX0_changedFrom 30 = .ok (.aload_n 0, 1) := by decide +kernel
theorem dX0_changedFrom_31 : decode cX0_changedFrom 31 = .ok (.iload 5, 2) := by decide +kernel
theorem dX0_changedFrom_33 : decode cX0_changedFrom 33 = .ok (.invokevirtual 41, 3) := by decide +kernel
theorem dX0_changedFrom_36 : decode cX0_changedFrom 36 = .ok (.invokestatic 45, 3) := by decide +kernel
theorem dX0_changedFrom_39 : decode cX0_changedFrom 39 = .ok (.istore_n 3, 1) := by decide +kernel
theorem dX0_changedFrom_40 : decode cX0_changedFrom 40 = .ok (.goto 29, 3) := by decide +kernel
theorem dX0_changedFrom_43 : decode cX0_changedFrom 43 = .ok (.aload_n 0, 1) := by decide +kernel
theorem dX0_changedFrom_44 : decode cX0_changedFrom 44 = .ok (.getfield 20, 3) := by decide +kernel
theorem dX0_changedFrom_47 : decode cX0_changedFrom 47 = .ok (.iconst 3, 1) := by decide +kernel
theorem dX0_changedFrom_48 : decode cX0_changedFrom 48 = .ok (.aaload, 1) := by decide +kernel
theorem dX0_changedFrom_49 : decode cX0_changedFrom 49 = .ok (.iload 5, 2) := by decide +kernel
theorem dX0_changedFrom_51 : decode cX0_changedFrom 51 = .ok (.iaload, 1) := by decide +kernel
theorem dX0_changedFrom_52 : decode cX0_changedFrom 52 = .ok (.iload_n 1, 1) := by decide +kernel
theorem dX0_changedFrom_53 : decode cX0_changedFrom 53 = .ok (.if_icmp .ne 16, 3) := by decide +kernel
theorem dX0_changedFrom_56 : decode cX0_changedFrom 56 = .ok (.iload 4, 2) := by decide +kernel
theorem dX0_changedFrom_58 : decode cX0_changedFrom 58 = .ok (.aload_n 0, 1) := by decide +kernel
theorem dX0_changedFrom_59 : decode cX0_changedFrom 59 = .ok (.iload 5, 2) := by decide +kernel
theorem dX0_changedFrom_61 : decode cX0_changedFrom 61 = .ok (.invokevirtual 41, 3) := by decide +kernel
theorem dX0_changedFrom_64 : decode cX0_changedFrom 64 = .ok (.invokestatic 51, 3) := by decide +kernel
theorem dX0_changedFrom_67 : decode cX0_changedFrom 67 = .ok (.istore 4, 2) := by decide +kernel
theorem dX0_changedFrom_69 : decode cX0_changedFrom 69 = .ok (.iinc 5 1, 3) := by decide +kernel
theorem dX0_changedFrom_72 : decode cX0_changedFrom 72 = .ok (.goto (-63), 3) := by decide +kernel
theorem dX0_changedFrom_75 : decode cX0_changedFrom 75 = .ok (.iload_n 3, 1) := by decide +kernel
theorem dX0_changedFrom_76 : decode cX0_changedFrom 76 = .ok (.iload 4, 2) := by decide +kernel
theorem dX0_changedFrom_78 : decode cX0_changedFrom 78 = .ok (.if_icmp .ge 7, 3) := by decide +kernel
theorem dX0_changedFrom_81 : decode cX0_changedFrom 81 = .ok (.iconst 1, 1) := by decide +kernel
theorem dX0_changedFrom_82 : decode cX0_changedFrom 82 = .ok (.goto 4, 3) := by decide +kernel
theorem dX0_changedFrom_85 : decode cX0_changedFrom 85 = .ok (.iconst 0, 1) := by decide +kernel
theorem dX0_changedFrom_86 : decode cX0_changedFrom 86 = .ok (.ireturn, 1) := by decide +kernel
theorem dX0_mostApart_0 : decode cX0_mostApart 0 = .ok (.iconst 0, 1) := by decide +kernel
theorem dX0_mostApart_1 : decode cX0_mostApart 1 = .ok (.istore_n 2, 1) := by decide +kernel
theorem dX0_mostApart_2 : decode cX0_mostApart 2 = .ok (.iconst 0, 1) := by decide +kernel
theorem dX0_mostApart_3 : decode cX0_mostApart 3 = .ok (.istore_n 3, 1) := by decide +kernel
theorem dX0_mostApart_4 : decode cX0_mostApart 4 = .ok (.iload_n 3, 1) := by decide +kernel
theorem dX0_mostApart_5 : decode cX0_mostApart 5 = .ok (.aload_n 0, 1) := by decide +kernel
theorem dX0_mostApart_6 : decode cX0_mostApart 6 = .ok (.invokevirtual 33, 3) := by decide +kernel
theorem dX0_mostApart_9 : decode cX0_mostApart 9 = .ok (.if_icmp .ge 70, 3) := by decide +kernel
theorem dX0_mostApart_12 : decode cX0_mostApart 12 = .ok (.iconst 0, 1) := by decide +kernel
theorem dX0_mostApart_13 : decode cX0_mostApart 13 = .ok (.istore 4, 2) := by decide +kernel
theorem dX0_mostApart_15 : decode cX0_mostApart 15 = .ok (.iload 4, 2) := by decide +kernel
theorem dX0_mostApart_17 : decode cX0_mostApart 17 = .ok (.iload_n 3, 1) := by decide +kernel
theorem dX0_mostApart_18 : decode cX0_mostApart 18 = .ok (.if_icmp .ge 55, 3) := by decide +kernel
theorem dX0_mostApart_21 : decode cX0_mostApart 21 = .ok (.aload_n 0, 1) := by decide +kernel
theorem dX0_mostApart_22 : decode cX0_mostApart 22 = .ok (.iload_n 3, 1) := by decide +kernel
theorem dX0_mostApart_23 : decode cX0_mostApart 23 = .ok (.iload_n 1, 1) := by decide +kernel
theorem dX0_mostApart_24 : decode cX0_mostApart 24 = .ok (.iconst 1, 1) := by decide +kernel
theorem dX0_mostApart_25 : decode cX0_mostApart 25 = .ok (.invokevirtual 37, 3) := by decide +kernel
theorem dX0_mostApart_28 : decode cX0_mostApart 28 = .ok (.ifCond .eq 45, 3) := by decide +kernel
theorem dX0_mostApart_31 : decode cX0_mostApart 31 = .ok (.aload_n 0, 1) := by decide +kernel
theorem dX0_mostApart_32 : decode cX0_mostApart 32 = .ok (.iload 4, 2) := by decide +kernel
theorem dX0_mostApart_34 : decode cX0_mostApart 34 = .ok (.iload_n 1, 1) := by decide +kernel
theorem dX0_mostApart_35 : decode cX0_mostApart 35 = .ok (.iconst 1, 1) := by decide +kernel
theorem dX0_mostApart_36 : decode cX0_mostApart 36 = .ok (.invokevirtual 37, 3) := by decide +kernel
theorem dX0_mostApart_39 : decode cX0_mostApart 39 = .ok (.ifCond .eq 28, 3) := by decide +kernel
theorem dX0_mostApart_42 : decode cX0_mostApart 42 = .ok (.iload_n 2, 1) := by decide +kernel
theorem dX0_mostApart_43 : decode cX0_mostApart 43 = .ok (.aload_n 0, 1) := by decide +kernel
theorem dX0_mostApart_44 : decode cX0_mostApart 44 = .ok (.getfield 20, 3) := by decide +kernel
theorem dX0_mostApart_47 : decode cX0_mostApart 47 = .ok (.iconst 2, 1) := by decide +kernel
theorem dX0_mostApart_48 : decode cX0_mostApart 48 = .ok (.aaload, 1) := by decide +kernel
theorem dX0_mostApart_49 : decode cX0_mostApart 49 = .ok (.iload_n 3, 1) := by decide +kernel
theorem dX0_mostApart_50 : decode cX0_mostApart 50 = .ok (.iaload, 1) := by decide +kernel
theorem dX0_mostApart_51 : decode cX0_mostApart 51 = .ok (.aload_n 0, 1) := by decide +kernel
theorem dX0_mostApart_52 : decode cX0_mostApart 52 = .ok (.getfield 20, 3) := by decide +kernel
theorem dX0_mostApart_55 : decode cX0_mostApart 55 = .ok (.iconst 2, 1) := by decide +kernel
theorem dX0_mostApart_56 : decode cX0_mostApart 56 = .ok (.aaload, 1) := by decide +kernel
theorem dX0_mostApart_57 : decode cX0_mostApart 57 = .ok (.iload 4, 2) := by decide +kernel
theorem dX0_mostApart_59 : decode cX0_mostApart 59 = .ok (.iaload, 1) := by decide +kernel
theorem dX0_mostApart_60 : decode cX0_mostApart 60 = .ok (.invokestatic 54, 3) := by decide +kernel
theorem dX0_mostApart_63 : decode cX0_mostApart 63 = .ok (.invokestatic 51, 3) := by decide +kernel
theorem dX0_mostApart_66 : decode cX0_mostApart 66 = .ok (.istore_n 2, 1) := by decide +kernel
theorem dX0_mostApart_67 : decode cX0_mostApart 67 = .ok (.iinc 4 1, 3) := by decide +kernel
theorem dX0_mostApart_70 : decode cX0_mostApart 70 = .ok (.goto (-55), 3) := by decide +kernel
theorem dX0_mostApart_73 : decode cX0_mostApart 73 = .ok (.iinc 3 1, 3) := by decide +kernel
theorem dX0_mostApart_76 : decode cX0_mostApart 76 = .ok (.goto (-72), 3) := by decide +kernel
theorem dX0_mostApart_79 : decode cX0_mostApart 79 = .ok (.iload_n 2, 1) := by decide +kernel
theorem dX0_mostApart_80 : decode cX0_mostApart 80 = .ok (.ireturn, 1) := by decide +kernel
theorem dX1_init_0 : decode cX1_init 0 = .ok (.aload_n 0, 1) := by decide +kernel
theorem dX1_init_1 : decode cX1_init 1 = .ok (.invokespecial 3, 3) := by decide +kernel
theorem dX1_init_4 : decode cX1_init 4 = .ok (.aload_n 0, 1) := by decide +kernel
theorem dX1_init_5 : decode cX1_init 5 = .ok (.iconst 0, 1) := by decide +kernel
theorem dX1_init_6 : decode cX1_init 6 = .ok (.invokevirtual 9, 3) := by decide +kernel
theorem dX1_init_9 : decode cX1_init 9 = .ok (.return_, 1) := by decide +kernel
theorem dX1_becomeAll_0 : decode cX1_becomeAll 0 = .ok (.aload_n 0, 1) := by decide +kernel
theorem dX1_becomeAll_1 : decode cX1_becomeAll 1 = .ok (.iload_n 1, 1) := by decide +kernel
theorem dX1_becomeAll_2 : decode cX1_becomeAll 2 = .ok (.iconst 0, 1) := by decide +kernel
theorem dX1_becomeAll_3 : decode cX1_becomeAll 3 = .ok (.bipush 89, 2) := by decide +kernel
theorem dX1_becomeAll_5 : decode cX1_becomeAll 5 = .ok (.iconst 3, 1) := by decide +kernel
theorem dX1_becomeAll_6 : decode cX1_becomeAll 6 = .ok (.sipush 255, 3) := by decide +kernel
theorem dX1_becomeAll_9 : decode cX1_becomeAll 9 = .ok (.invokevirtual 15, 3) := by decide +kernel
theorem dX1_becomeAll_12 : decode cX1_becomeAll 12 = .ok (.return_, 1) := by decide +kernel
theorem dX1_become_0 : decode cX1_become 0 = .ok (.aload_n 0, 1) := by decide +kernel
theorem dX1_become_1 : decode cX1_become 1 = .ok (.iload_n 1, 1) := by decide +kernel
theorem dX1_become_2 : decode cX1_become 2 = .ok (.putfield 19, 3) := by decide +kernel
theorem dX1_become_5 : decode cX1_become 5 = .ok (.aload_n 0, 1) := by decide +kernel
theorem dX1_become_6 : decode cX1_become 6 = .ok (.iload_n 2, 1) := by decide +kernel
theorem dX1_become_7 : decode cX1_become 7 = .ok (.putfield 23, 3) := by decide +kernel
theorem dX1_become_10 : decode cX1_become 10 = .ok (.aload_n 0, 1) := by decide +kernel
theorem dX1_become_11 : decode cX1_become 11 = .ok (.iload_n 3, 1) := by decide +kernel
theorem dX1_become_12 : decode cX1_become 12 = .ok (.putfield 26, 3) := by decide +kernel
theorem dX1_become_15 : decode cX1_become 15 = .ok (.aload_n 0, 1) := by decide +kernel
theorem dX1_become_16 : decode cX1_become 16 = .ok (.iload 4, 2) := by decide +kernel
theorem dX1_become_18 : decode cX1_become 18 = .ok (.putfield 29, 3) := by decide +kernel
theorem dX1_become_21 : decode cX1_become 21 = .ok (.aload_n 0, 1) := by decide +kernel
theorem dX1_become_22 : decode cX1_become 22 = .ok (.iload 5, 2) := by decide +kernel
theorem dX1_become_24 : decode cX1_become 24 = .ok (.putfield 32, 3) := by decide +kernel
theorem dX1_become_27 : decode cX1_become 27 = .ok (.return_, 1) := by decide +kernel
theorem dX1_copy_0 : decode cX1_copy 0 = .ok (.aload_n 0, 1) := by decide +kernel
theorem dX1_copy_1 : decode cX1_copy 1 = .ok (.aload_n 1, 1) := by decide +kernel
theorem dX1_copy_2 : decode cX1_copy 2 = .ok (.getfield 19, 3) := by decide +kernel
theorem dX1_copy_5 : decode cX1_copy 5 = .ok (.aload_n 1, 1) := by decide +kernel
theorem dX1_copy_6 : decode cX1_copy 6 = .ok (.getfield 23, 3) := by decide +kernel
theorem dX1_copy_9 : decode cX1_copy 9 = .ok (.aload_n 1, 1) := by decide +kernel
theorem dX1_copy_10 : decode cX1_copy 10 = .ok (.getfield 26, 3) := by decide +kernel
theorem dX1_copy_13 : decode cX1_copy 13 = .ok (.aload_n 1, 1) := by decide +kernel
theorem dX1_copy_14 : decode cX1_copy 14 = .ok (.getfield 29, 3) := by decide +kernel
theorem dX1_copy_17 : decode cX1_copy 17 = .ok (.aload_n 1, 1) := by decide +kernel
theorem dX1_copy_18 : decode cX1_copy 18 = .ok (.getfield 32, 3) := by decide +kernel
theorem dX1_copy_21 : decode cX1_copy 21 = .ok (.invokevirtual 15, 3) := by decide +kernel
theorem dX1_copy_24 : decode cX1_copy 24 = .ok (.return_, 1) := by decide +kernel
theorem dX1_takes_0 : decode cX1_takes 0 = .ok (.iload_n 2, 1) := by decide +kernel
theorem dX1_takes_1 : decode cX1_takes 1 = .ok (.iconst 2, 1) := by decide +kernel
theorem dX1_takes_2 : decode cX1_takes 2 = .ok (.idiv, 1) := by decide +kernel
theorem dX1_takes_3 : decode cX1_takes 3 = .ok (.istore_n 3, 1) := by decide +kernel
theorem dX1_takes_4 : decode cX1_takes 4 = .ok (.aload_n 0, 1) := by decide +kernel
theorem dX1_takes_5 : decode cX1_takes 5 = .ok (.getfield 19, 3) := by decide +kernel
theorem dX1_takes_8 : decode cX1_takes 8 = .ok (.aload_n 1, 1) := by decide +kernel
theorem dX1_takes_9 : decode cX1_takes 9 = .ok (.getfield 35, 3) := by decide +kernel
theorem dX1_takes_12 : decode cX1_takes 12 = .ok (.iconst 0, 1) := by decide +kernel
theorem dX1_takes_13 : decode cX1_takes 13 = .ok (.aaload, 1) := by decide +kernel
theorem dX1_takes_14 : decode cX1_takes 14 = .ok (.iload_n 3, 1) := by decide +kernel
theorem dX1_takes_15 : decode cX1_takes 15 = .ok (.iaload, 1) := by decide +kernel
theorem dX1_takes_16 : decode cX1_takes 16 = .ok (.invokestatic 41, 3) := by decide +kernel
theorem dX1_takes_19 : decode cX1_takes 19 = .ok (.ifCond .eq 60, 3) := by decide +kernel
theorem dX1_takes_22 : decode cX1_takes 22 = .ok (.aload_n 1, 1) := by decide +kernel
theorem dX1_takes_23 : decode cX1_takes 23 = .ok (.getfield 35, 3) := by decide +kernel
theorem dX1_takes_26 : decode cX1_takes 26 = .ok (.iconst 1, 1) := by decide +kernel
theorem dX1_takes_27 : decode cX1_takes 27 = .ok (.aaload, 1) := by decide +kernel
theorem dX1_takes_28 : decode cX1_takes 28 = .ok (.iload_n 3, 1) := by decide +kernel
theorem dX1_takes_29 : decode cX1_takes 29 = .ok (.iaload, 1) := by decide +kernel
theorem dX1_takes_30 : decode cX1_takes 30 = .ok (.aload_n 0, 1) := by decide +kernel
theorem dX1_takes_31 : decode cX1_takes 31 = .ok (.getfield 23, 3) := by decide +kernel
theorem dX1_takes_34 : decode cX1_takes 34 = .ok (.aload_n 0, 1) := by decide +kernel
theorem dX1_takes_35 : decode cX1_takes 35 = .ok (.getfield 26, 3) := by decide +kernel
theorem dX1_takes_38 : decode cX1_takes 38 = .ok (.invokestatic 45, 3) := by decide +kernel
theorem dX1_takes_41 : decode cX1_takes 41 = .ok (.ifCond .eq 38, 3) := by decide +kernel
theorem dX1_takes_44 : decode cX1_takes 44 = .ok (.aload_n 0, 1) := by decide +kernel
theorem dX1_takes_45 : decode cX1_takes 45 = .ok (.getfield 29, 3) := by decide +kernel
theorem dX1_takes_48 : decode cX1_takes 48 = .ok (.iload_n 2, 1) := by decide +kernel
theorem dX1_takes_49 : decode cX1_takes 49 = .ok (.iconst 2, 1) := by decide +kernel
theorem dX1_takes_50 : decode cX1_takes 50 = .ok (.irem, 1) := by decide +kernel
theorem dX1_takes_51 : decode cX1_takes 51 = .ok (.invokestatic 41, 3) := by decide +kernel
theorem dX1_takes_54 : decode cX1_takes 54 = .ok (.ifCond .eq 25, 3) := by decide +kernel
theorem dX1_takes_57 : decode cX1_takes 57 = .ok (.aload_n 0, 1) := by decide +kernel
theorem dX1_takes_58 : decode cX1_takes 58 = .ok (.getfield 32, 3) := by decide +kernel
theorem dX1_takes_61 : decode cX1_takes 61 = .ok (.aload_n 1, 1) := by decide +kernel
theorem dX1_takes_62 : decode cX1_takes 62 = .ok (.getfield 35, 3) := by decide +kernel
theorem dX1_takes_65 : decode cX1_takes 65 = .ok (.iconst 2, 1) := by decide +kernel
theorem dX1_takes_66 : decode cX1_takes 66 = .ok (.aaload, 1) := by decide +kernel
theorem dX1_takes_67 : decode cX1_takes 67 = .ok (.iload_n 3, 1) := by decide +kernel
theorem dX1_takes_68 : decode cX1_takes 68 = .ok (.iaload, 1) := by decide +kernel
theorem dX1_takes_69 : decode cX1_takes 69 = .ok (.invokestatic 41, 3) := by decide +kernel
theorem dX1_takes_72 : decode cX1_takes 72 = .ok (.ifCond .eq 7, 3) := by decide +kernel
theorem dX1_takes_75 : decode cX1_takes 75 = .ok (.iconst 1, 1) := by decide +kernel
theorem dX1_takes_76 : decode cX1_takes 76 = .ok (.goto 4, 3) := by decide +kernel
theorem dX1_takes_79 : decode cX1_takes 79 = .ok (.iconst 0, 1) := by decide +kernel
theorem dX1_takes_80 : decode cX1_takes 80 = .ok (.ireturn, 1) := by decide +kernel
theorem dX2_init_0 : decode cX2_init 0 = .ok (.aload_n 0, 1) := by decide +kernel
theorem dX2_init_1 : decode cX2_init 1 = .ok (.invokespecial 1, 3) := by decide +kernel
theorem dX2_init_4 : decode cX2_init 4 = .ok (.aload_n 0, 1) := by decide +kernel
theorem dX2_init_5 : decode cX2_init 5 = .ok (.iconst 0, 1) := by decide +kernel
theorem dX2_init_6 : decode cX2_init 6 = .ok (.putfield 7, 3) := by decide +kernel
theorem dX2_init_9 : decode cX2_init 9 = .ok (.aload_n 0, 1) := by decide +kernel
theorem dX2_init_10 : decode cX2_init 10 = .ok (.new 13, 3) := by decide +kernel
theorem dX2_init_13 : decode cX2_init 13 = .ok (.dup, 1) := by decide +kernel
theorem dX2_init_14 : decode cX2_init 14 = .ok (.invokespecial 15, 3) := by decide +kernel
theorem dX2_init_17 : decode cX2_init 17 = .ok (.putfield 16, 3) := by decide +kernel
theorem dX2_init_20 : decode cX2_init 20 = .ok (.aload_n 0, 1) := by decide +kernel
theorem dX2_init_21 : decode cX2_init 21 = .ok (.new 20, 3) := by decide +kernel
theorem dX2_init_24 : decode cX2_init 24 = .ok (.dup, 1) := by decide +kernel
theorem dX2_init_25 : decode cX2_init 25 = .ok (.invokespecial 22, 3) := by decide +kernel
theorem dX2_init_28 : decode cX2_init 28 = .ok (.putfield 23, 3) := by decide +kernel
theorem dX2_init_31 : decode cX2_init 31 = .ok (.aload_n 0, 1) := by decide +kernel
theorem dX2_init_32 : decode cX2_init 32 = .ok (.new 20, 3) := by decide +kernel
theorem dX2_init_35 : decode cX2_init 35 = .ok (.dup, 1) := by decide +kernel
theorem dX2_init_36 : decode cX2_init 36 = .ok (.invokespecial 22, 3) := by decide +kernel
theorem dX2_init_39 : decode cX2_init 39 = .ok (.putfield 27, 3) := by decide +kernel
theorem dX2_init_42 : decode cX2_init 42 = .ok (.return_, 1) := by decide +kernel
theorem dX3_init_0 : decode cX3_init 0 = .ok (.aload_n 0, 1) := by decide +kernel
theorem dX3_init_1 : decode cX3_init 1 = .ok (.invokespecial 3, 3) := by decide +kernel
theorem dX3_init_4 : decode cX3_init 4 = .ok (.aload_n 0, 1) := by decide +kernel
theorem dX3_init_5 : decode cX3_init 5 = .ok (.iconst 1, 1) := by decide +kernel
theorem dX3_init_6 : decode cX3_init 6 = .ok (.putfield 9, 3) := by decide +kernel
theorem dX3_init_9 : decode cX3_init 9 = .ok (.aload_n 0, 1) := by decide +kernel
theorem dX3_init_10 : decode cX3_init 10 = .ok (.bipush 80, 2) := by decide +kernel
theorem dX3_init_12 : decode cX3_init 12 = .ok (.newarray .int, 2) := by decide +kernel
theorem dX3_init_14 : decode cX3_init 14 = .ok (.putfield 15, 3) := by decide +kernel
theorem dX3_init_17 : decode cX3_init 17 = .ok (.aload_n 0, 1) := by decide +kernel
theorem dX3_init_18 : decode cX3_init 18 = .ok (.bipush 80, 2) := by decide +kernel
theorem dX3_init_20 : decode cX3_init 20 = .ok (.newarray .int, 2) := by decide +kernel
theorem dX3_init_22 : decode cX3_init 22 = .ok (.putfield 19, 3) := by decide +kernel
theorem dX3_init_25 : decode cX3_init 25 = .ok (.return_, 1) := by decide +kernel
theorem dX3_renew_0 : decode cX3_renew 0 = .ok (.aload_n 0, 1) := by decide +kernel
theorem dX3_renew_1 : decode cX3_renew 1 = .ok (.getfield 9, 3) := by decide +kernel
theorem dX3_renew_4 : decode cX3_renew 4 = .ok (.ifCond .ne 4, 3) := by decide +kernel
theorem dX3_renew_7 : decode cX3_renew 7 = .ok (.return_, 1) := by decide +kernel
theorem dX3_renew_8 : decode cX3_renew 8 = .ok (.aload_n 0, 1) := by decide +kernel
theorem dX3_renew_9 : decode cX3_renew 9 = .ok (.iconst 0, 1) := by decide +kernel
theorem dX3_renew_10 : decode cX3_renew 10 = .ok (.putfield 9, 3) := by decide +kernel
theorem dX3_renew_13 : decode cX3_renew 13 = .ok (.aload_n 0, 1) := by decide +kernel
theorem dX3_renew_14 : decode cX3_renew 14 = .ok (.aload_n 1, 1) := by decide +kernel
theorem dX3_renew_15 : decode cX3_renew 15 = .ok (.putfield 22, 3) := by decide +kernel
theorem dX3_renew_18 : decode cX3_renew 18 = .ok (.aload_n 0, 1) := by decide +kernel
theorem dX3_renew_19 : decode cX3_renew 19 = .ok (.aload_n 2, 1) := by decide +kernel
theorem dX3_renew_20 : decode cX3_renew 20 = .ok (.putfield 26, 3) := by decide +kernel
theorem dX3_renew_23 : decode cX3_renew 23 = .ok (.iconst 0, 1) := by decide +kernel
theorem dX3_renew_24 : decode cX3_renew 24 = .ok (.istore_n 3, 1) := by decide +kernel
theorem dX3_renew_25 : decode cX3_renew 25 = .ok (.iload_n 3, 1) := by decide +kernel
theorem dX3_renew_26 : decode cX3_renew 26 = .ok (.aload_n 0, 1) := by decide +kernel
theorem dX3_renew_27 : decode cX3_renew 27 = .ok (.getfield 22, 3) := by decide +kernel
theorem dX3_renew_30 : decode cX3_renew 30 = .ok (.invokevirtual 30, 3) := by decide +kernel
theorem dX3_renew_33 : decode cX3_renew 33 = .ok (.if_icmp .ge 20, 3) := by decide +kernel
theorem dX3_renew_36 : decode cX3_renew 36 = .ok (.aload_n 0, 1) := by decide +kernel
theorem dX3_renew_37 : decode cX3_renew 37 = .ok (.getfield 19, 3) := by decide +kernel
theorem dX3_renew_40 : decode cX3_renew 40 = .ok (.iload_n 3, 1) := by decide +kernel
theorem dX3_renew_41 : decode cX3_renew 41 = .ok (.aload_n 0, 1) := by decide +kernel
theorem dX3_renew_42 : decode cX3_renew 42 = .ok (.iload_n 3, 1) := by decide +kernel
theorem dX3_renew_43 : decode cX3_renew 43 = .ok (.invokevirtual 36, 3) := by decide +kernel
theorem dX3_renew_46 : decode cX3_renew 46 = .ok (.iastore, 1) := by decide +kernel
theorem dX3_renew_47 : decode cX3_renew 47 = .ok (.iinc 3 1, 3) := by decide +kernel
theorem dX3_renew_50 : decode cX3_renew 50 = .ok (.goto (-25), 3) := by decide +kernel
theorem dX3_renew_53 : decode cX3_renew 53 = .ok (.iconst 0, 1) := by decide +kernel
theorem dX3_renew_54 : decode cX3_renew 54 = .ok (.istore_n 3, 1) := by decide +kernel
theorem dX3_renew_55 : decode cX3_renew 55 = .ok (.iload_n 3, 1) := by decide +kernel
theorem dX3_renew_56 : decode cX3_renew 56 = .ok (.aload_n 0, 1) := by decide +kernel
theorem dX3_renew_57 : decode cX3_renew 57 = .ok (.getfield 22, 3) := by decide +kernel
theorem dX3_renew_60 : decode cX3_renew 60 = .ok (.invokevirtual 30, 3) := by decide +kernel
theorem dX3_renew_63 : decode cX3_renew 63 = .ok (.if_icmp .ge 39, 3) := by decide +kernel
theorem dX3_renew_66 : decode cX3_renew 66 = .ok (.aload_n 0, 1) := by decide +kernel
theorem dX3_renew_67 : decode cX3_renew 67 = .ok (.getfield 15, 3) := by decide +kernel
theorem dX3_renew_70 : decode cX3_renew 70 = .ok (.iload_n 3, 1) := by decide +kernel
theorem dX3_renew_71 : decode cX3_renew 71 = .ok (.aload_n 0, 1) := by decide +kernel
theorem dX3_renew_72 : decode cX3_renew 72 = .ok (.getfield 22, 3) := by decide +kernel
theorem dX3_renew_75 : decode cX3_renew 75 = .ok (.getfield 40, 3) := by decide +kernel
theorem dX3_renew_78 : decode cX3_renew 78 = .ok (.iconst 0, 1) := by decide +kernel
theorem dX3_renew_79 : decode cX3_renew 79 = .ok (.aaload, 1) := by decide +kernel
theorem dX3_renew_80 : decode cX3_renew 80 = .ok (.iload_n 3, 1) := by decide +kernel
theorem dX3_renew_81 : decode cX3_renew 81 = .ok (.iaload, 1) := by decide +kernel
theorem dX3_renew_82 : decode cX3_renew 82 = .ok (.iconst 1, 1) := by decide +kernel
theorem dX3_renew_83 : decode cX3_renew 83 = .ok (.if_icmp .ne 11, 3) := by decide +kernel
theorem dX3_renew_86 : decode cX3_renew 86 = .ok (.aload_n 0, 1) := by decide +kernel
theorem dX3_renew_87 : decode cX3_renew 87 = .ok (.iload_n 3, 1) := by decide +kernel
theorem dX3_renew_88 : decode cX3_renew 88 = .ok (.invokevirtual 44, 3) := by decide +kernel
theorem dX3_renew_91 : decode cX3_renew 91 = .ok (.goto 4, 3) := by decide +kernel
theorem dX3_renew_94 : decode cX3_renew 94 = .ok (.iconst 1, 1) := by decide +kernel
theorem dX3_renew_95 : decode cX3_renew 95 = .ok (.iastore, 1) := by decide +kernel
theorem dX3_renew_96 : decode cX3_renew 96 = .ok (.iinc 3 1, 3) := by decide +kernel
theorem dX3_renew_99 : decode cX3_renew 99 = .ok (.goto (-44), 3) := by decide +kernel
theorem dX3_renew_102 : decode cX3_renew 102 = .ok (.iconst 0, 1) := by decide +kernel
theorem dX3_renew_103 : decode cX3_renew 103 = .ok (.istore_n 3, 1) := by decide +kernel
theorem dX3_renew_104 : decode cX3_renew 104 = .ok (.iload_n 3, 1) := by decide +kernel
theorem dX3_renew_105 : decode cX3_renew 105 = .ok (.aload_n 0, 1) := by decide +kernel
theorem dX3_renew_106 : decode cX3_renew 106 = .ok (.getfield 22, 3) := by decide +kernel
theorem dX3_renew_109 : decode cX3_renew 109 = .ok (.invokevirtual 30, 3) := by decide +kernel
theorem dX3_renew_112 : decode cX3_renew 112 = .ok (.if_icmp .ge 34, 3) := by decide +kernel
theorem dX3_renew_115 : decode cX3_renew 115 = .ok (.aload_n 0, 1) := by decide +kernel
theorem dX3_renew_116 : decode cX3_renew 116 = .ok (.getfield 15, 3) := by decide +kernel
theorem dX3_renew_119 : decode cX3_renew 119 = .ok (.iload_n 3, 1) := by decide +kernel
theorem dX3_renew_120 : decode cX3_renew 120 = .ok (.iaload, 1) := by decide +kernel
theorem dX3_renew_121 : decode cX3_renew 121 = .ok (.iconst 1, 1) := by decide +kernel
theorem dX3_renew_122 : decode cX3_renew 122 = .ok (.if_icmp .ne 18, 3) := by decide +kernel
theorem dX3_renew_125 : decode cX3_renew 125 = .ok (.aload_n 0, 1) := by decide +kernel
theorem dX3_renew_126 : decode cX3_renew 126 = .ok (.iload_n 3, 1) := by decide +kernel
theorem dX3_renew_127 : decode cX3_renew 127 = .ok (.invokevirtual 47, 3) := by decide +kernel
theorem dX3_renew_130 : decode cX3_renew 130 = .ok (.ifCond .eq 10, 3) := by decide +kernel
theorem dX3_renew_133 : decode cX3_renew 133 = .ok (.aload_n 0, 1) := by decide +kernel
theorem dX3_renew_134 : decode cX3_renew 134 = .ok (.getfield 15, 3) := by decide +kernel
theorem dX3_renew_137 : decode cX3_renew 137 = .ok (.iload_n 3, 1) := by decide +kernel
theorem dX3_renew_138 : decode cX3_renew 138 = .ok (.iconst 2, 1) := by decide +kernel
theorem dX3_renew_139 : decode cX3_renew 139 = .ok (.iastore, 1) := by decide +kernel
theorem dX3_renew_140 : decode cX3_renew 140 = .ok (.iinc 3 1, 3) := by decide +kernel
theorem dX3_renew_143 : decode cX3_renew 143 = .ok (.goto (-39), 3) := by decide +kernel
theorem dX3_renew_146 : decode cX3_renew 146 = .ok (.return_, 1) := by decide +kernel
theorem dX3_isAble_0 : decode cX3_isAble 0 = .ok (.aload_n 0, 1) := by decide +kernel
theorem dX3_isAble_1 : decode cX3_isAble 1 = .ok (.getfield 15, 3) := by decide +kernel
theorem dX3_isAble_4 : decode cX3_isAble 4 = .ok (.iload_n 1, 1) := by decide +kernel
theorem dX3_isAble_5 : decode cX3_isAble 5 = .ok (.iaload, 1) := by decide +kernel
theorem dX3_isAble_6 : decode cX3_isAble 6 = .ok (.iconst 2, 1) := by decide +kernel
theorem dX3_isAble_7 : decode cX3_isAble 7 = .ok (.if_icmp .eq 13, 3) := by decide +kernel
theorem dX3_isAble_10 : decode cX3_isAble 10 = .ok (.aload_n 0, 1) := by decide +kernel
theorem dX3_isAble_11 : decode cX3_isAble 11 = .ok (.getfield 15, 3) := by decide +kernel
theorem dX3_isAble_14 : decode cX3_isAble 14 = .ok (.iload_n 1, 1) := by decide +kernel
theorem dX3_isAble_15 : decode cX3_isAble 15 = .ok (.iaload, 1) := by decide +kernel
theorem dX3_isAble_16 : decode cX3_isAble 16 = .ok (.iconst 3, 1) := by decide +kernel
theorem dX3_isAble_17 : decode cX3_isAble 17 = .ok (.if_icmp .ne 7, 3) := by decide +kernel
theorem dX3_isAble_20 : decode cX3_isAble 20 = .ok (.iconst 1, 1) := by decide +kernel
theorem dX3_isAble_21 : decode cX3_isAble 21 = .ok (.goto 4, 3) := by decide +kernel
theorem dX3_isAble_24 : decode cX3_isAble 24 = .ok (.iconst 0, 1) := by decide +kernel
theorem dX3_isAble_25 : decode cX3_isAble 25 = .ok (.ireturn, 1) := by decide +kernel
theorem dX3_writtenBy_0 : decode cX3_writtenBy 0 = .ok (.iconst 0, 1) := by decide +kernel
theorem dX3_writtenBy_1 : decode cX3_writtenBy 1 = .ok (.istore_n 3, 1) := by decide +kernel
theorem dX3_writtenBy_2 : decode cX3_writtenBy 2 = .ok (.iconst 0, 1) := by decide +kernel
theorem dX3_writtenBy_3 : decode cX3_writtenBy 3 = .ok (.istore 4, 2) := by decide +kernel
theorem dX3_writtenBy_5 : decode cX3_writtenBy 5 = .ok (.iload 4, 2) := by decide +kernel
theorem dX3_writtenBy_7 : decode cX3_writtenBy 7 = .ok (.iload_n 2, 1) := by decide +kernel
theorem dX3_writtenBy_8 : decode cX3_writtenBy 8 = .ok (.if_icmp .ge 23, 3) := by decide +kernel
theorem dX3_writtenBy_11 : decode cX3_writtenBy 11 = .ok (.aload_n 0, 1) := by decide +kernel
theorem dX3_writtenBy_12 : decode cX3_writtenBy 12 = .ok (.getfield 19, 3) := by decide +kernel
theorem dX3_writtenBy_15 : decode cX3_writtenBy 15 = .ok (.iload 4, 2) := by decide +kernel
theorem dX3_writtenBy_17 : decode cX3_writtenBy 17 = .ok (.iaload, 1) := by decide +kernel
theorem dX3_writtenBy_18 : decode cX3_writtenBy 18 = .ok (.iload_n 1, 1) := by decide +kernel
theorem dX3_writtenBy_19 : decode cX3_writtenBy 19 = .ok (.if_icmp .ne 6, 3) := by decide +kernel
theorem dX3_writtenBy_22 : decode cX3_writtenBy 22 = .ok (.iinc 3 1, 3) := by decide +kernel
theorem dX3_writtenBy_25 : decode cX3_writtenBy 25 = .ok (.iinc 4 1, 3) := by decide +kernel
theorem dX3_writtenBy_28 : decode cX3_writtenBy 28 = .ok (.goto (-23), 3) := by decide +kernel
theorem dX3_writtenBy_31 : decode cX3_writtenBy 31 = .ok (.iload_n 3, 1) := by decide +kernel
theorem dX3_writtenBy_32 : decode cX3_writtenBy 32 = .ok (.ireturn, 1) := by decide +kernel
theorem dX3_firstWriter_0 : decode cX3_firstWriter 0 = .ok (.aload_n 0, 1) := by decide +kernel
theorem dX3_firstWriter_1 : decode cX3_firstWriter 1 = .ok (.getfield 22, 3) := by decide +kernel
theorem dX3_firstWriter_4 : decode cX3_firstWriter 4 = .ok (.getfield 40, 3) := by decide +kernel
theorem dX3_firstWriter_7 : decode cX3_firstWriter 7 = .ok (.iconst 0, 1) := by decide +kernel
theorem dX3_firstWriter_8 : decode cX3_firstWriter 8 = .ok (.aaload, 1) := by decide +kernel
theorem dX3_firstWriter_9 : decode cX3_firstWriter 9 = .ok (.iload_n 1, 1) := by decide +kernel
theorem dX3_firstWriter_10 : decode cX3_firstWriter 10 = .ok (.iaload, 1) := by decide +kernel
theorem dX3_firstWriter_11 : decode cX3_firstWriter 11 = .ok (.ifCond .ne 6, 3) := by decide +kernel
theorem dX3_firstWriter_14 : decode cX3_firstWriter 14 = .ok (.bipush (-4), 2) := by decide +kernel
theorem dX3_firstWriter_16 : decode cX3_firstWriter 16 = .ok (.ireturn, 1) := by decide +kernel
theorem dX3_firstWriter_17 : decode cX3_firstWriter 17 = .ok (.aload_n 0, 1) := by decide +kernel
theorem dX3_firstWriter_18 : decode cX3_firstWriter 18 = .ok (.getfield 22, 3) := by decide +kernel
theorem dX3_firstWriter_21 : decode cX3_firstWriter 21 = .ok (.getfield 51, 3) := by decide +kernel
theorem dX3_firstWriter_24 : decode cX3_firstWriter 24 = .ok (.iconst 0, 1) := by decide +kernel
theorem dX3_firstWriter_25 : decode cX3_firstWriter 25 = .ok (.aaload, 1) := by decide +kernel
theorem dX3_firstWriter_26 : decode cX3_firstWriter 26 = .ok (.iload_n 1, 1) := by decide +kernel
theorem dX3_firstWriter_27 : decode cX3_firstWriter 27 = .ok (.iconst 2, 1) := by decide +kernel
theorem dX3_firstWriter_28 : decode cX3_firstWriter 28 = .ok (.idiv, 1) := by decide +kernel
theorem dX3_firstWriter_29 : decode cX3_firstWriter 29 = .ok (.iaload, 1) := by decide +kernel
theorem dX3_firstWriter_30 : decode cX3_firstWriter 30 = .ok (.istore_n 2, 1) := by decide +kernel
theorem dX3_firstWriter_31 : decode cX3_firstWriter 31 = .ok (.iconst 0, 1) := by decide +kernel
theorem dX3_firstWriter_32 : decode cX3_firstWriter 32 = .ok (.istore_n 3, 1) := by decide +kernel
theorem dX3_firstWriter_33 : decode cX3_firstWriter 33 = .ok (.iload_n 3, 1) := by decide +kernel
theorem dX3_firstWriter_34 : decode cX3_firstWriter 34 = .ok (.aload_n 0, 1) := by decide +kernel
theorem dX3_firstWriter_35 : decode cX3_firstWriter 35 = .ok (.getfield 26, 3) := by decide +kernel
theorem dX3_firstWriter_38 : decode cX3_firstWriter 38 = .ok (.getfield 54, 3) := by decide +kernel
theorem dX3_firstWriter_41 : decode cX3_firstWriter 41 = .ok (.if_icmp .ge 42, 3) := by decide +kernel
theorem dX3_firstWriter_44 : decode cX3_firstWriter 44 = .ok (.aload_n 0, 1) := by decide +kernel
theorem dX3_firstWriter_45 : decode cX3_firstWriter 45 = .ok (.getfield 26, 3) := by decide +kernel
theorem dX3_firstWriter_48 : decode cX3_firstWriter 48 = .ok (.iload_n 3, 1) := by decide +kernel
theorem dX3_firstWriter_49 : decode cX3_firstWriter 49 = .ok (.iload_n 2, 1) := by decide +kernel
theorem dX3_firstWriter_50 : decode cX3_firstWriter 50 = .ok (.aload_n 0, 1) := by decide +kernel
theorem dX3_firstWriter_51 : decode cX3_firstWriter 51 = .ok (.getfield 22, 3) := by decide +kernel
theorem dX3_firstWriter_54 : decode cX3_firstWriter 54 = .ok (.iload_n 1, 1) := by decide +kernel
theorem dX3_firstWriter_55 : decode cX3_firstWriter 55 = .ok (.invokevirtual 60, 3) := by decide +kernel
theorem dX3_firstWriter_58 : decode cX3_firstWriter 58 = .ok (.aload_n 0, 1) := by decide +kernel
theorem dX3_firstWriter_59 : decode cX3_firstWriter 59 = .ok (.getfield 22, 3) := by decide +kernel
theorem dX3_firstWriter_62 : decode cX3_firstWriter 62 = .ok (.getfield 40, 3) := by decide +kernel
theorem dX3_firstWriter_65 : decode cX3_firstWriter 65 = .ok (.iconst 2, 1) := by decide +kernel
theorem dX3_firstWriter_66 : decode cX3_firstWriter 66 = .ok (.aaload, 1) := by decide +kernel
theorem dX3_firstWriter_67 : decode cX3_firstWriter 67 = .ok (.iload_n 1, 1) := by decide +kernel
theorem dX3_firstWriter_68 : decode cX3_firstWriter 68 = .ok (.iaload, 1) := by decide +kernel
theorem dX3_firstWriter_69 : decode cX3_firstWriter 69 = .ok (.invokevirtual 63, 3) := by decide +kernel
theorem dX3_firstWriter_72 : decode cX3_firstWriter 72 = .ok (.ifCond .eq 5, 3) := by decide +kernel
theorem dX3_firstWriter_75 : decode cX3_firstWriter 75 = .ok (.iload_n 3, 1) := by decide +kernel
theorem dX3_firstWriter_76 : decode cX3_firstWriter 76 = .ok (.ireturn, 1) := by decide +kernel
theorem dX3_firstWriter_77 : decode cX3_firstWriter 77 = .ok (.iinc 3 1, 3) := by decide +kernel
theorem dX3_firstWriter_80 : decode cX3_firstWriter 80 = .ok (.goto (-47), 3) := by decide +kernel
theorem dX3_firstWriter_83 : decode cX3_firstWriter 83 = .ok (.bipush (-4), 2) := by decide +kernel
theorem dX3_firstWriter_85 : decode cX3_firstWriter 85 = .ok (.ireturn, 1) := by decide +kernel
theorem dX3_kindOfName_0 : decode cX3_kindOfName 0 = .ok (.aload_n 0, 1) := by decide +kernel
theorem dX3_kindOfName_1 : decode cX3_kindOfName 1 = .ok (.getfield 19, 3) := by decide +kernel
theorem dX3_kindOfName_4 : decode cX3_kindOfName 4 = .ok (.iload_n 1, 1) := by decide +kernel
theorem dX3_kindOfName_5 : decode cX3_kindOfName 5 = .ok (.iaload, 1) := by decide +kernel
theorem dX3_kindOfName_6 : decode cX3_kindOfName 6 = .ok (.bipush (-4), 2) := by decide +kernel
theorem dX3_kindOfName_8 : decode cX3_kindOfName 8 = .ok (.if_icmp .eq 5, 3) := by decide +kernel
theorem dX3_kindOfName_11 : decode cX3_kindOfName 11 = .ok (.iconst 5, 1) := by decide +kernel
theorem dX3_kindOfName_12 : decode cX3_kindOfName 12 = .ok (.ireturn, 1) := by decide +kernel
theorem dX3_kindOfName_13 : decode cX3_kindOfName 13 = .ok (.aload_n 0, 1) := by decide +kernel
theorem dX3_kindOfName_14 : decode cX3_kindOfName 14 = .ok (.iload_n 1, 1) := by decide +kernel
theorem dX3_kindOfName_15 : decode cX3_kindOfName 15 = .ok (.invokevirtual 67, 3) := by decide +kernel
theorem dX3_kindOfName_18 : decode cX3_kindOfName 18 = .ok (.ifCond .eq 7, 3) := by decide +kernel
theorem dX3_kindOfName_21 : decode cX3_kindOfName 21 = .ok (.iconst 4, 1) := by decide +kernel
theorem dX3_kindOfName_22 : decode cX3_kindOfName 22 = .ok (.goto 4, 3) := by decide +kernel
theorem dX3_kindOfName_25 : decode cX3_kindOfName 25 = .ok (.iconst 3, 1) := by decide +kernel
theorem dX3_kindOfName_26 : decode cX3_kindOfName 26 = .ok (.ireturn, 1) := by decide +kernel
theorem dX3_isDrawn_0 : decode cX3_isDrawn 0 = .ok (.aload_n 0, 1) := by decide +kernel
theorem dX3_isDrawn_1 : decode cX3_isDrawn 1 = .ok (.getfield 22, 3) := by decide +kernel
theorem dX3_isDrawn_4 : decode cX3_isDrawn 4 = .ok (.getfield 40, 3) := by decide +kernel
theorem dX3_isDrawn_7 : decode cX3_isDrawn 7 = .ok (.iconst 3, 1) := by decide +kernel
theorem dX3_isDrawn_8 : decode cX3_isDrawn 8 = .ok (.aaload, 1) := by decide +kernel
theorem dX3_isDrawn_9 : decode cX3_isDrawn 9 = .ok (.iload_n 1, 1) := by decide +kernel
theorem dX3_isDrawn_10 : decode cX3_isDrawn 10 = .ok (.iaload, 1) := by decide +kernel
theorem dX3_isDrawn_11 : decode cX3_isDrawn 11 = .ok (.istore_n 2, 1) := by decide +kernel
theorem dX3_isDrawn_12 : decode cX3_isDrawn 12 = .ok (.iconst 0, 1) := by decide +kernel
theorem dX3_isDrawn_13 : decode cX3_isDrawn 13 = .ok (.istore_n 3, 1) := by decide +kernel
theorem dX3_isDrawn_14 : decode cX3_isDrawn 14 = .ok (.iconst 0, 1) := by decide +kernel
theorem dX3_isDrawn_15 : decode cX3_isDrawn 15 = .ok (.istore 4, 2) := by decide +kernel
theorem dX3_isDrawn_17 : decode cX3_isDrawn 17 = .ok (.iload 4, 2) := by decide +kernel
theorem dX3_isDrawn_19 : decode cX3_isDrawn 19 = .ok (.aload_n 0, 1) := by decide +kernel
theorem dX3_isDrawn_20 : decode cX3_isDrawn 20 = .ok (.getfield 22, 3) := by decide +kernel
theorem dX3_isDrawn_23 : decode cX3_isDrawn 23 = .ok (.invokevirtual 30, 3) := by decide +kernel
theorem dX3_isDrawn_26 : decode cX3_isDrawn 26 = .ok (.if_icmp .ge 103, 3) := by decide +kernel
theorem dX3_isDrawn_29 : decode cX3_isDrawn 29 = .ok (.iload_n 2, 1) := by decide +kernel
theorem dX3_isDrawn_30 : decode cX3_isDrawn 30 = .ok (.ifCond .eq 99, 3) := by decide +kernel
theorem dX3_isDrawn_33 : decode cX3_isDrawn 33 = .ok (.iload 4, 2) := by decide +kernel
theorem dX3_isDrawn_35 : decode cX3_isDrawn 35 = .ok (.iload_n 1, 1) := by decide +kernel
theorem dX3_isDrawn_36 : decode cX3_isDrawn 36 = .ok (.if_icmp .eq 87, 3) := by decide +kernel
theorem dX3_isDrawn_39 : decode cX3_isDrawn 39 = .ok (.aload_n 0, 1) := by decide +kernel
theorem dX3_isDrawn_40 : decode cX3_isDrawn 40 = .ok (.getfield 22, 3) := by decide +kernel
theorem dX3_isDrawn_43 : decode cX3_isDrawn 43 = .ok (.iload 4, 2) := by decide +kernel
theorem dX3_isDrawn_45 : decode cX3_isDrawn 45 = .ok (.iload_n 2, 1) := by decide +kernel
theorem dX3_isDrawn_46 : decode cX3_isDrawn 46 = .ok (.iconst 1, 1) := by decide +kernel
theorem dX3_isDrawn_47 : decode cX3_isDrawn 47 = .ok (.invokevirtual 70, 3) := by decide +kernel
theorem dX3_isDrawn_50 : decode cX3_isDrawn 50 = .ok (.ifCond .eq 73, 3) := by decide +kernel
theorem dX3_isDrawn_53 : decode cX3_isDrawn 53 = .ok (.aload_n 0, 1) := by decide +kernel
theorem dX3_isDrawn_54 : decode cX3_isDrawn 54 = .ok (.getfield 19, 3) := by decide +kernel
theorem dX3_isDrawn_57 : decode cX3_isDrawn 57 = .ok (.iload 4, 2) := by decide +kernel
theorem dX3_isDrawn_59 : decode cX3_isDrawn 59 = .ok (.iaload, 1) := by decide +kernel
theorem dX3_isDrawn_60 : decode cX3_isDrawn 60 = .ok (.bipush (-4), 2) := by decide +kernel
theorem dX3_isDrawn_62 : decode cX3_isDrawn 62 = .ok (.if_icmp .ne 61, 3) := by decide +kernel
theorem dX3_isDrawn_65 : decode cX3_isDrawn 65 = .ok (.aload_n 0, 1) := by decide +kernel
theorem dX3_isDrawn_66 : decode cX3_isDrawn 66 = .ok (.getfield 22, 3) := by decide +kernel
theorem dX3_isDrawn_69 : decode cX3_isDrawn 69 = .ok (.getfield 40, 3) := by decide +kernel
theorem dX3_isDrawn_72 : decode cX3_isDrawn 72 = .ok (.iconst 2, 1) := by decide +kernel
theorem dX3_isDrawn_73 : decode cX3_isDrawn 73 = .ok (.aaload, 1) := by decide +kernel
theorem dX3_isDrawn_74 : decode cX3_isDrawn 74 = .ok (.iload 4, 2) := by decide +kernel
theorem dX3_isDrawn_76 : decode cX3_isDrawn 76 = .ok (.iaload, 1) := by decide +kernel
theorem dX3_isDrawn_77 : decode cX3_isDrawn 77 = .ok (.aload_n 0, 1) := by decide +kernel
theorem dX3_isDrawn_78 : decode cX3_isDrawn 78 = .ok (.getfield 22, 3) := by decide +kernel
theorem dX3_isDrawn_81 : decode cX3_isDrawn 81 = .ok (.getfield 40, 3) := by decide +kernel
theorem dX3_isDrawn_84 : decode cX3_isDrawn 84 = .ok (.iconst 2, 1) := by decide +kernel
theorem dX3_isDrawn_85 : decode cX3_isDrawn 85 = .ok (.aaload, 1) := by decide +kernel
theorem dX3_isDrawn_86 : decode cX3_isDrawn 86 = .ok (.iload_n 1, 1) := by decide +kernel
theorem dX3_isDrawn_87 : decode cX3_isDrawn 87 = .ok (.iaload, 1) := by decide +kernel
theorem dX3_isDrawn_88 : decode cX3_isDrawn 88 = .ok (.invokestatic 74, 3) := by decide +kernel
theorem dX3_isDrawn_91 : decode cX3_isDrawn 91 = .ok (.aload_n 0, 1) := by decide +kernel
theorem dX3_isDrawn_92 : decode cX3_isDrawn 92 = .ok (.getfield 26, 3) := by decide +kernel
theorem dX3_isDrawn_95 : decode cX3_isDrawn 95 = .ok (.getfield 78, 3) := by decide +kernel
theorem dX3_isDrawn_98 : decode cX3_isDrawn 98 = .ok (.if_icmp .le 5, 3) := by decide +kernel
theorem dX3_isDrawn_101 : decode cX3_isDrawn 101 = .ok (.iconst 0, 1) := by decide +kernel
theorem dX3_isDrawn_102 : decode cX3_isDrawn 102 = .ok (.ireturn, 1) := by decide +kernel
theorem dX3_isDrawn_103 : decode cX3_isDrawn 103 = .ok (.iload_n 3, 1) := by decide +kernel
theorem dX3_isDrawn_104 : decode cX3_isDrawn 104 = .ok (.ifCond .ne 13, 3) := by decide +kernel
theorem dX3_isDrawn_107 : decode cX3_isDrawn 107 = .ok (.iload 4, 2) := by decide +kernel
theorem dX3_isDrawn_109 : decode cX3_isDrawn 109 = .ok (.iconst 2, 1) := by decide +kernel
theorem dX3_isDrawn_110 : decode cX3_isDrawn 110 = .ok (.idiv, 1) := by decide +kernel
theorem dX3_isDrawn_111 : decode cX3_isDrawn 111 = .ok (.iload_n 1, 1) := by decide +kernel
theorem dX3_isDrawn_112 : decode cX3_isDrawn 112 = .ok (.iconst 2, 1) := by decide +kernel
theorem dX3_isDrawn_113 : decode cX3_isDrawn 113 = .ok (.idiv, 1) := by decide +kernel
theorem dX3_isDrawn_114 : decode cX3_isDrawn 114 = .ok (.if_icmp .eq 7, 3) := by decide +kernel
theorem dX3_isDrawn_117 : decode cX3_isDrawn 117 = .ok (.iconst 1, 1) := by decide +kernel
theorem dX3_isDrawn_118 : decode cX3_isDrawn 118 = .ok (.goto 4, 3) := by decide +kernel
theorem dX3_isDrawn_121 : decode cX3_isDrawn 121 = .ok (.iconst 0, 1) := by decide +kernel
theorem dX3_isDrawn_122 : decode cX3_isDrawn 122 = .ok (.istore_n 3, 1) := by decide +kernel
theorem dX3_isDrawn_123 : decode cX3_isDrawn 123 = .ok (.iinc 4 1, 3) := by decide +kernel
theorem dX3_isDrawn_126 : decode cX3_isDrawn 126 = .ok (.goto (-109), 3) := by decide +kernel
theorem dX3_isDrawn_129 : decode cX3_isDrawn 129 = .ok (.iload_n 3, 1) := by decide +kernel
theorem dX3_isDrawn_130 : decode cX3_isDrawn 130 = .ok (.ireturn, 1) := by decide +kernel
theorem dX3_wasNamedBefore_0 : decode cX3_wasNamedBefore 0 = .ok (.aload_n 0, 1) := by decide +kernel
theorem dX3_wasNamedBefore_1 : decode cX3_wasNamedBefore 1 = .ok (.getfield 22, 3) := by decide +kernel
theorem dX3_wasNamedBefore_4 : decode cX3_wasNamedBefore 4 = .ok (.getfield 40, 3) := by decide +kernel
theorem dX3_wasNamedBefore_7 : decode cX3_wasNamedBefore 7 = .ok (.iconst 3, 1) := by decide +kernel
theorem dX3_wasNamedBefore_8 : decode cX3_wasNamedBefore 8 = .ok (.aaload, 1) := by decide +kernel
theorem dX3_wasNamedBefore_9 : decode cX3_wasNamedBefore 9 = .ok (.iload_n 1, 1) := by decide +kernel
theorem dX3_wasNamedBefore_10 : decode cX3_wasNamedBefore 10 = .ok (.iaload, 1) := by decide +kernel
theorem dX3_wasNamedBefore_11 : decode cX3_wasNamedBefore 11 = .ok (.istore_n 2, 1) := by decide +kernel
theorem dX3_wasNamedBefore_12 : decode cX3_wasNamedBefore 12 = .ok (.iconst 0, 1) := by decide +kernel
theorem dX3_wasNamedBefore_13 : decode cX3_wasNamedBefore 13 = .ok (.istore_n 3, 1) := by decide +kernel
theorem dX3_wasNamedBefore_14 : decode cX3_wasNamedBefore 14 = .ok (.iload_n 3, 1) := by decide +kernel
theorem dX3_wasNamedBefore_15 : decode cX3_wasNamedBefore 15 = .ok (.aload_n 0, 1) := by decide +kernel
theorem dX3_wasNamedBefore_16 : decode cX3_wasNamedBefore 16 = .ok (.getfield 22, 3) := by decide +kernel
theorem dX3_wasNamedBefore_19 : decode cX3_wasNamedBefore 19 = .ok (.invokevirtual 30, 3) := by decide +kernel
theorem dX3_wasNamedBefore_22 : decode cX3_wasNamedBefore 22 = .ok (.if_icmp .ge 59, 3) := by decide +kernel
theorem dX3_wasNamedBefore_25 : decode cX3_wasNamedBefore 25 = .ok (.iload_n 2, 1) := by decide +kernel
theorem dX3_wasNamedBefore_26 : decode cX3_wasNamedBefore 26 = .ok (.ifCond .eq 55, 3) := by decide +kernel
theorem dX3_wasNamedBefore_29 : decode cX3_wasNamedBefore 29 = .ok (.aload_n 0, 1) := by decide +kernel
theorem dX3_wasNamedBefore_30 : decode cX3_wasNamedBefore 30 = .ok (.getfield 22, 3) := by decide +kernel
theorem dX3_wasNamedBefore_33 : decode cX3_wasNamedBefore 33 = .ok (.getfield 40, 3) := by decide +kernel
theorem dX3_wasNamedBefore_36 : decode cX3_wasNamedBefore 36 = .ok (.iconst 3, 1) := by decide +kernel
theorem dX3_wasNamedBefore_37 : decode cX3_wasNamedBefore 37 = .ok (.aaload, 1) := by decide +kernel
theorem dX3_wasNamedBefore_38 : decode cX3_wasNamedBefore 38 = .ok (.iload_n 3, 1) := by decide +kernel
theorem dX3_wasNamedBefore_39 : decode cX3_wasNamedBefore 39 = .ok (.iaload, 1) := by decide +kernel
theorem dX3_wasNamedBefore_40 : decode cX3_wasNamedBefore 40 = .ok (.iload_n 2, 1) := by decide +kernel
theorem dX3_wasNamedBefore_41 : decode cX3_wasNamedBefore 41 = .ok (.if_icmp .ne 34, 3) := by decide +kernel
theorem dX3_wasNamedBefore_44 : decode cX3_wasNamedBefore 44 = .ok (.aload_n 0, 1) := by decide +kernel
theorem dX3_wasNamedBefore_45 : decode cX3_wasNamedBefore 45 = .ok (.getfield 15, 3) := by decide +kernel
theorem dX3_wasNamedBefore_48 : decode cX3_wasNamedBefore 48 = .ok (.iload_n 3, 1) := by decide +kernel
theorem dX3_wasNamedBefore_49 : decode cX3_wasNamedBefore 49 = .ok (.iaload, 1) := by decide +kernel
theorem dX3_wasNamedBefore_50 : decode cX3_wasNamedBefore 50 = .ok (.iconst 3, 1) := by decide +kernel
theorem dX3_wasNamedBefore_51 : decode cX3_wasNamedBefore 51 = .ok (.if_icmp .ne 24, 3) := by decide +kernel
theorem dX3_wasNamedBefore_54 : decode cX3_wasNamedBefore 54 = .ok (.aload_n 0, 1) := by decide +kernel
theorem dX3_wasNamedBefore_55 : decode cX3_wasNamedBefore 55 = .ok (.getfield 22, 3) := by decide +kernel
theorem dX3_wasNamedBefore_58 : decode cX3_wasNamedBefore 58 = .ok (.iload_n 3, 1) := by decide +kernel
theorem dX3_wasNamedBefore_59 : decode cX3_wasNamedBefore 59 = .ok (.invokevirtual 60, 3) := by decide +kernel
theorem dX3_wasNamedBefore_62 : decode cX3_wasNamedBefore 62 = .ok (.aload_n 0, 1) := by decide +kernel
theorem dX3_wasNamedBefore_63 : decode cX3_wasNamedBefore 63 = .ok (.getfield 22, 3) := by decide +kernel
theorem dX3_wasNamedBefore_66 : decode cX3_wasNamedBefore 66 = .ok (.iload_n 1, 1) := by decide +kernel
theorem dX3_wasNamedBefore_67 : decode cX3_wasNamedBefore 67 = .ok (.invokevirtual 60, 3) := by decide +kernel
theorem dX3_wasNamedBefore_70 : decode cX3_wasNamedBefore 70 = .ok (.if_icmp .ge 5, 3) := by decide +kernel
theorem dX3_wasNamedBefore_73 : decode cX3_wasNamedBefore 73 = .ok (.iconst 1, 1) := by decide +kernel
theorem dX3_wasNamedBefore_74 : decode cX3_wasNamedBefore 74 = .ok (.ireturn, 1) := by decide +kernel
theorem dX3_wasNamedBefore_75 : decode cX3_wasNamedBefore 75 = .ok (.iinc 3 1, 3) := by decide +kernel
theorem dX3_wasNamedBefore_78 : decode cX3_wasNamedBefore 78 = .ok (.goto (-64), 3) := by decide +kernel
theorem dX3_wasNamedBefore_81 : decode cX3_wasNamedBefore 81 = .ok (.iconst 0, 1) := by decide +kernel
theorem dX3_wasNamedBefore_82 : decode cX3_wasNamedBefore 82 = .ok (.ireturn, 1) := by decide +kernel
theorem dX4_init_0 : decode cX4_init 0 = .ok (.aload_n 0, 1) := by decide +kernel
theorem dX4_init_1 : decode cX4_init 1 = .ok (.invokespecial 3, 3) := by decide +kernel
theorem dX4_init_4 : decode cX4_init 4 = .ok (.aload_n 0, 1) := by decide +kernel
theorem dX4_init_5 : decode cX4_init 5 = .ok (.iconst 4, 1) := by decide +kernel
theorem dX4_init_6 : decode cX4_init 6 = .ok (.newarray .int, 2) := by decide +kernel
theorem dX4_init_8 : decode cX4_init 8 = .ok (.putfield 9, 3) := by decide +kernel
theorem dX4_init_11 : decode cX4_init 11 = .ok (.aload_n 0, 1) := by decide +kernel
theorem dX4_init_12 : decode cX4_init 12 = .ok (.iconst 4, 1) := by decide +kernel
theorem dX4_init_13 : decode cX4_init 13 = .ok (.bipush 12, 2) := by decide +kernel
theorem dX4_init_15 : decode cX4_init 15 = .ok (.multianewarray 15 2, 4) := by decide +kernel
theorem dX4_init_19 : decode cX4_init 19 = .ok (.putfield 17, 3) := by decide +kernel
theorem dX4_init_22 : decode cX4_init 22 = .ok (.aload_n 0, 1) := by decide +kernel
theorem dX4_init_23 : decode cX4_init 23 = .ok (.iconst 5, 1) := by decide +kernel
theorem dX4_init_24 : decode cX4_init 24 = .ok (.bipush 8, 2) := by decide +kernel
theorem dX4_init_26 : decode cX4_init 26 = .ok (.multianewarray 15 2, 4) := by decide +kernel
theorem dX4_init_30 : decode cX4_init 30 = .ok (.putfield 20, 3) := by decide +kernel
theorem dX4_init_33 : decode cX4_init 33 = .ok (.aload_n 0, 1) := by decide +kernel
theorem dX4_init_34 : decode cX4_init 34 = .ok (.invokevirtual 23, 3) := by decide +kernel
theorem dX4_init_37 : decode cX4_init 37 = .ok (.return_, 1) := by decide +kernel
theorem dX4_clear_0 : decode cX4_clear 0 = .ok (.aload_n 0, 1) := by decide +kernel
theorem dX4_clear_1 : decode cX4_clear 1 = .ok (.iconst 0, 1) := by decide +kernel
theorem dX4_clear_2 : decode cX4_clear 2 = .ok (.putfield 26, 3) := by decide +kernel
theorem dX4_clear_5 : decode cX4_clear 5 = .ok (.aload_n 0, 1) := by decide +kernel
theorem dX4_clear_6 : decode cX4_clear 6 = .ok (.iconst 0, 1) := by decide +kernel
theorem dX4_clear_7 : decode cX4_clear 7 = .ok (.putfield 30, 3) := by decide +kernel
theorem dX4_clear_10 : decode cX4_clear 10 = .ok (.aload_n 0, 1) := by decide +kernel
theorem dX4_clear_11 : decode cX4_clear 11 = .ok (.bipush 11, 2) := by decide +kernel
theorem dX4_clear_13 : decode cX4_clear 13 = .ok (.putfield 33, 3) := by decide +kernel
theorem dX4_clear_16 : decode cX4_clear 16 = .ok (.aload_n 0, 1) := by decide +kernel
theorem dX4_clear_17 : decode cX4_clear 17 = .ok (.bipush 20, 2) := by decide +kernel
theorem dX4_clear_19 : decode cX4_clear 19 = .ok (.putfield 36, 3) := by decide +kernel
theorem dX4_clear_22 : decode cX4_clear 22 = .ok (.aload_n 0, 1) := by decide +kernel
theorem dX4_clear_23 : decode cX4_clear 23 = .ok (.bipush 35, 2) := by decide +kernel
theorem dX4_clear_25 : decode cX4_clear 25 = .ok (.putfield 39, 3) := by decide +kernel
theorem dX4_clear_28 : decode cX4_clear 28 = .ok (.aload_n 0, 1) := by decide +kernel
theorem dX4_clear_29 : decode cX4_clear 29 = .ok (.iconst 0, 1) := by decide +kernel
theorem dX4_clear_30 : decode cX4_clear 30 = .ok (.putfield 42, 3) := by decide +kernel
theorem dX4_clear_33 : decode cX4_clear 33 = .ok (.aload_n 0, 1) := by decide +kernel
theorem dX4_clear_34 : decode cX4_clear 34 = .ok (.iconst 1, 1) := by decide +kernel
theorem dX4_clear_35 : decode cX4_clear 35 = .ok (.putfield 45, 3) := by decide +kernel
theorem dX4_clear_38 : decode cX4_clear 38 = .ok (.aload_n 0, 1) := by decide +kernel
theorem dX4_clear_39 : decode cX4_clear 39 = .ok (.getfield 9, 3) := by decide +kernel
theorem dX4_clear_42 : decode cX4_clear 42 = .ok (.iconst 0, 1) := by decide +kernel
theorem dX4_clear_43 : decode cX4_clear 43 = .ok (.iconst 0, 1) := by decide +kernel
theorem dX4_clear_44 : decode cX4_clear 44 = .ok (.iastore, 1) := by decide +kernel
theorem dX4_clear_45 : decode cX4_clear 45 = .ok (.aload_n 0, 1) := by decide +kernel
theorem dX4_clear_46 : decode cX4_clear 46 = .ok (.getfield 9, 3) := by decide +kernel
theorem dX4_clear_49 : decode cX4_clear 49 = .ok (.iconst 1, 1) := by decide +kernel
theorem dX4_clear_50 : decode cX4_clear 50 = .ok (.iconst 1, 1) := by decide +kernel
theorem dX4_clear_51 : decode cX4_clear 51 = .ok (.iastore, 1) := by decide +kernel
theorem dX4_clear_52 : decode cX4_clear 52 = .ok (.aload_n 0, 1) := by decide +kernel
theorem dX4_clear_53 : decode cX4_clear 53 = .ok (.getfield 9, 3) := by decide +kernel
theorem dX4_clear_56 : decode cX4_clear 56 = .ok (.iconst 2, 1) := by decide +kernel
theorem dX4_clear_57 : decode cX4_clear 57 = .ok (.iconst 1, 1) := by decide +kernel
theorem dX4_clear_58 : decode cX4_clear 58 = .ok (.iastore, 1) := by decide +kernel
theorem dX4_clear_59 : decode cX4_clear 59 = .ok (.aload_n 0, 1) := by decide +kernel
theorem dX4_clear_60 : decode cX4_clear 60 = .ok (.getfield 9, 3) := by decide +kernel
theorem dX4_clear_63 : decode cX4_clear 63 = .ok (.iconst 3, 1) := by decide +kernel
theorem dX4_clear_64 : decode cX4_clear 64 = .ok (.iconst 1, 1) := by decide +kernel
theorem dX4_clear_65 : decode cX4_clear 65 = .ok (.iastore, 1) := by decide +kernel
theorem dX4_clear_66 : decode cX4_clear 66 = .ok (.return_, 1) := by decide +kernel
theorem dX4_allParishes_0 : decode cX4_allParishes 0 = .ok (.iconst 1, 1) := by decide +kernel
theorem dX4_allParishes_1 : decode cX4_allParishes 1 = .ok (.aload_n 0, 1) := by decide +kernel
theorem dX4_allParishes_2 : decode cX4_allParishes 2 = .ok (.getfield 26, 3) := by decide +kernel
theorem dX4_allParishes_5 : decode cX4_allParishes 5 = .ok (.ishl, 1) := by decide +kernel
theorem dX4_allParishes_6 : decode cX4_allParishes 6 = .ok (.iconst 1, 1) := by decide +kernel
theorem dX4_allParishes_7 : decode cX4_allParishes 7 = .ok (.isub, 1) := by decide +kernel
theorem dX4_allParishes_8 : decode cX4_allParishes 8 = .ok (.ireturn, 1) := by decide +kernel
theorem dX4_marriagesOf_0 : decode cX4_marriagesOf 0 = .ok (.iconst 0, 1) := by decide +kernel
theorem dX4_marriagesOf_1 : decode cX4_marriagesOf 1 = .ok (.istore_n 2, 1) := by decide +kernel
theorem dX4_marriagesOf_2 : decode cX4_marriagesOf 2 = .ok (.iconst 0, 1) := by decide +kernel
theorem dX4_marriagesOf_3 : decode cX4_marriagesOf 3 = .ok (.istore_n 3, 1) := by decide +kernel
theorem dX4_marriagesOf_4 : decode cX4_marriagesOf 4 = .ok (.iload_n 3, 1) := by decide +kernel
theorem dX4_marriagesOf_5 : decode cX4_marriagesOf 5 = .ok (.aload_n 0, 1) := by decide +kernel
theorem dX4_marriagesOf_6 : decode cX4_marriagesOf 6 = .ok (.getfield 26, 3) := by decide +kernel
theorem dX4_marriagesOf_9 : decode cX4_marriagesOf 9 = .ok (.if_icmp .ge 28, 3) := by decide +kernel
theorem dX4_marriagesOf_12 : decode cX4_marriagesOf 12 = .ok (.iload_n 1, 1) := by decide +kernel
theorem dX4_marriagesOf_13 : decode cX4_marriagesOf 13 = .ok (.iload_n 3, 1) := by decide +kernel
theorem dX4_marriagesOf_14 : decode cX4_marriagesOf 14 = .ok (.invokestatic 48, 3) := by decide +kernel
theorem dX4_marriagesOf_17 : decode cX4_marriagesOf 17 = .ok (.ifCond .eq 14, 3) := by decide +kernel
theorem dX4_marriagesOf_20 : decode cX4_marriagesOf 20 = .ok (.iload_n 2, 1) := by decide +kernel
theorem dX4_marriagesOf_21 : decode cX4_marriagesOf 21 = .ok (.aload_n 0, 1) := by decide +kernel
theorem dX4_marriagesOf_22 : decode cX4_marriagesOf 22 = .ok (.getfield 17, 3) := by decide +kernel
theorem dX4_marriagesOf_25 : decode cX4_marriagesOf 25 = .ok (.iconst 0, 1) := by decide +kernel
theorem dX4_marriagesOf_26 : decode cX4_marriagesOf 26 = .ok (.aaload, 1) := by decide +kernel
theorem dX4_marriagesOf_27 : decode cX4_marriagesOf 27 = .ok (.iload_n 3, 1) := by decide +kernel
theorem dX4_marriagesOf_28 : decode cX4_marriagesOf 28 = .ok (.iaload, 1) := by decide +kernel
theorem dX4_marriagesOf_29 : decode cX4_marriagesOf 29 = .ok (.iadd, 1) := by decide +kernel
theorem dX4_marriagesOf_30 : decode cX4_marriagesOf 30 = .ok (.istore_n 2, 1) := by decide +kernel
theorem dX4_marriagesOf_31 : decode cX4_marriagesOf 31 = .ok (.iinc 3 1, 3) := by decide +kernel
theorem dX4_marriagesOf_34 : decode cX4_marriagesOf 34 = .ok (.goto (-30), 3) := by decide +kernel
theorem dX4_marriagesOf_37 : decode cX4_marriagesOf 37 = .ok (.iload_n 2, 1) := by decide +kernel
theorem dX4_marriagesOf_38 : decode cX4_marriagesOf 38 = .ok (.ireturn, 1) := by decide +kernel
theorem dX4_towns_0 : decode cX4_towns 0 = .ok (.iconst 0, 1) := by decide +kernel
theorem dX4_towns_1 : decode cX4_towns 1 = .ok (.istore_n 1, 1) := by decide +kernel
theorem dX4_towns_2 : decode cX4_towns 2 = .ok (.iconst 0, 1) := by decide +kernel
theorem dX4_towns_3 : decode cX4_towns 3 = .ok (.istore_n 2, 1) := by decide +kernel
theorem dX4_towns_4 : decode cX4_towns 4 = .ok (.iload_n 2, 1) := by decide +kernel
theorem dX4_towns_5 : decode cX4_towns 5 = .ok (.aload_n 0, 1) := by decide +kernel
theorem dX4_towns_6 : decode cX4_towns 6 = .ok (.getfield 26, 3) := by decide +kernel
theorem dX4_towns_9 : decode cX4_towns 9 = .ok (.if_icmp .ge 20, 3) := by decide +kernel
theorem dX4_towns_12 : decode cX4_towns 12 = .ok (.iload_n 1, 1) := by decide +kernel
theorem dX4_towns_13 : decode cX4_towns 13 = .ok (.aload_n 0, 1) := by decide +kernel
theorem dX4_towns_14 : decode cX4_towns 14 = .ok (.getfield 17, 3) := by decide +kernel
theorem dX4_towns_17 : decode cX4_towns 17 = .ok (.iconst 1, 1) := by decide +kernel
theorem dX4_towns_18 : decode cX4_towns 18 = .ok (.aaload, 1) := by decide +kernel
theorem dX4_towns_19 : decode cX4_towns 19 = .ok (.iload_n 2, 1) := by decide +kernel
theorem dX4_towns_20 : decode cX4_towns 20 = .ok (.iaload, 1) := by decide +kernel
theorem dX4_towns_21 : decode cX4_towns 21 = .ok (.iadd, 1) := by decide +kernel
theorem dX4_towns_22 : decode cX4_towns 22 = .ok (.istore_n 1, 1) := by decide +kernel
theorem dX4_towns_23 : decode cX4_towns 23 = .ok (.iinc 2 1, 3) := by decide +kernel
theorem dX4_towns_26 : decode cX4_towns 26 = .ok (.goto (-22), 3) := by decide +kernel
theorem dX4_towns_29 : decode cX4_towns 29 = .ok (.iload_n 1, 1) := by decide +kernel
theorem dX4_towns_30 : decode cX4_towns 30 = .ok (.ireturn, 1) := by decide +kernel
theorem dX4_writes_0 : decode cX4_writes 0 = .ok (.aload_n 0, 1) := by decide +kernel
theorem dX4_writes_1 : decode cX4_writes 1 = .ok (.getfield 20, 3) := by decide +kernel
theorem dX4_writes_4 : decode cX4_writes 4 = .ok (.iconst 0, 1) := by decide +kernel
theorem dX4_writes_5 : decode cX4_writes 5 = .ok (.aaload, 1) := by decide +kernel
theorem dX4_writes_6 : decode cX4_writes 6 = .ok (.iload_n 1, 1) := by decide +kernel
theorem dX4_writes_7 : decode cX4_writes 7 = .ok (.iaload, 1) := by decide +kernel
theorem dX4_writes_8 : decode cX4_writes 8 = .ok (.iload_n 2, 1) := by decide +kernel
theorem dX4_writes_9 : decode cX4_writes 9 = .ok (.if_icmp .ne 54, 3) := by decide +kernel
theorem dX4_writes_12 : decode cX4_writes 12 = .ok (.iload_n 3, 1) := by decide +kernel
theorem dX4_writes_13 : decode cX4_writes 13 = .ok (.aload_n 0, 1) := by decide +kernel
theorem dX4_writes_14 : decode cX4_writes 14 = .ok (.getfield 20, 3) := by decide +kernel
theorem dX4_writes_17 : decode cX4_writes 17 = .ok (.iconst 1, 1) := by decide +kernel
theorem dX4_writes_18 : decode cX4_writes 18 = .ok (.aaload, 1) := by decide +kernel
theorem dX4_writes_19 : decode cX4_writes 19 = .ok (.iload_n 1, 1) := by decide +kernel
theorem dX4_writes_20 : decode cX4_writes 20 = .ok (.iaload, 1) := by decide +kernel
theorem dX4_writes_21 : decode cX4_writes 21 = .ok (.aload_n 0, 1) := by decide +kernel
theorem dX4_writes_22 : decode cX4_writes 22 = .ok (.getfield 20, 3) := by decide +kernel
theorem dX4_writes_25 : decode cX4_writes 25 = .ok (.iconst 2, 1) := by decide +kernel
theorem dX4_writes_26 : decode cX4_writes 26 = .ok (.aaload, 1) := by decide +kernel
theorem dX4_writes_27 : decode cX4_writes 27 = .ok (.iload_n 1, 1) := by decide +kernel
theorem dX4_writes_28 : decode cX4_writes 28 = .ok (.iaload, 1) := by decide +kernel
theorem dX4_writes_29 : decode cX4_writes 29 = .ok (.invokestatic 52, 3) := by decide +kernel
theorem dX4_writes_32 : decode cX4_writes 32 = .ok (.ifCond .eq 31, 3) := by decide +kernel
theorem dX4_writes_35 : decode cX4_writes 35 = .ok (.iload 4, 2) := by decide +kernel
theorem dX4_writes_37 : decode cX4_writes 37 = .ok (.aload_n 0, 1) := by decide +kernel
theorem dX4_writes_38 : decode cX4_writes 38 = .ok (.getfield 20, 3) := by decide +kernel
theorem dX4_writes_41 : decode cX4_writes 41 = .ok (.iconst 3, 1) := by decide +kernel
theorem dX4_writes_42 : decode cX4_writes 42 = .ok (.aaload, 1) := by decide +kernel
theorem dX4_writes_43 : decode cX4_writes 43 = .ok (.iload_n 1, 1) := by decide +kernel
theorem dX4_writes_44 : decode cX4_writes 44 = .ok (.iaload, 1) := by decide +kernel
theorem dX4_writes_45 : decode cX4_writes 45 = .ok (.invokestatic 56, 3) := by decide +kernel
theorem dX4_writes_48 : decode cX4_writes 48 = .ok (.aload_n 0, 1) := by decide +kernel
theorem dX4_writes_49 : decode cX4_writes 49 = .ok (.getfield 20, 3) := by decide +kernel
theorem dX4_writes_52 : decode cX4_writes 52 = .ok (.iconst 4, 1) := by decide +kernel
theorem dX4_writes_53 : decode cX4_writes 53 = .ok (.aaload, 1) := by decide +kernel
theorem dX4_writes_54 : decode cX4_writes 54 = .ok (.iload_n 1, 1) := by decide +kernel
theorem dX4_writes_55 : decode cX4_writes 55 = .ok (.iaload, 1) := by decide +kernel
theorem dX4_writes_56 : decode cX4_writes 56 = .ok (.if_icmp .gt 7, 3) := by decide +kernel
theorem dX4_writes_59 : decode cX4_writes 59 = .ok (.iconst 1, 1) := by decide +kernel
theorem dX4_writes_60 : decode cX4_writes 60 = .ok (.goto 4, 3) := by decide +kernel
theorem dX4_writes_63 : decode cX4_writes 63 = .ok (.iconst 0, 1) := by decide +kernel
theorem dX4_writes_64 : decode cX4_writes 64 = .ok (.ireturn, 1) := by decide +kernel
theorem dX5_init_0 : decode cX5_init 0 = .ok (.aload_n 0, 1) := by decide +kernel
theorem dX5_init_1 : decode cX5_init 1 = .ok (.invokespecial 3, 3) := by decide +kernel
theorem dX5_init_4 : decode cX5_init 4 = .ok (.return_, 1) := by decide +kernel
theorem dX5_readLines_0 : decode cX5_readLines 0 = .ok (.aload_n 0, 1) := by decide +kernel
theorem dX5_readLines_1 : decode cX5_readLines 1 = .ok (.aload_n 1, 1) := by decide +kernel
theorem dX5_readLines_2 : decode cX5_readLines 2 = .ok (.putfield 9, 3) := by decide +kernel
theorem dX5_readLines_5 : decode cX5_readLines 5 = .ok (.aload_n 0, 1) := by decide +kernel
theorem dX5_readLines_6 : decode cX5_readLines 6 = .ok (.aload_n 2, 1) := by decide +kernel
theorem dX5_readLines_7 : decode cX5_readLines 7 = .ok (.putfield 15, 3) := by decide +kernel
theorem dX5_readLines_10 : decode cX5_readLines 10 = .ok (.aload_n 0, 1) := by decide +kernel
theorem dX5_readLines_11 : decode cX5_readLines 11 = .ok (.getfield 15, 3) := by decide +kernel
theorem dX5_readLines_14 : decode cX5_readLines 14 = .ok (.invokevirtual 19, 3) := by decide +kernel
theorem dX5_readLines_17 : decode cX5_readLines 17 = .ok (.aload_n 0, 1) := by decide +kernel
theorem dX5_readLines_18 : decode cX5_readLines 18 = .ok (.iconst 0, 1) := by decide +kernel
theorem dX5_readLines_19 : decode cX5_readLines 19 = .ok (.putfield 24, 3) := by decide +kernel
theorem dX5_readLines_22 : decode cX5_readLines 22 = .ok (.aload_n 0, 1) := by decide +kernel
theorem dX5_readLines_23 : decode cX5_readLines 23 = .ok (.iconst 0, 1) := by decide +kernel
theorem dX5_readLines_24 : decode cX5_readLines 24 = .ok (.putfield 28, 3) := by decide +kernel
theorem dX5_readLines_27 : decode cX5_readLines 27 = .ok (.aload_n 0, 1) := by decide +kernel
theorem dX5_readLines_28 : decode cX5_readLines 28 = .ok (.iconst 0, 1) := by decide +kernel
theorem dX5_readLines_29 : decode cX5_readLines 29 = .ok (.putfield 31, 3) := by decide +kernel
theorem dX5_readLines_32 : decode cX5_readLines 32 = .ok (.aload_n 0, 1) := by decide +kernel
theorem dX5_readLines_33 : decode cX5_readLines 33 = .ok (.iconst 0, 1) := by decide +kernel
theorem dX5_readLines_34 : decode cX5_readLines 34 = .ok (.putfield 34, 3) := by decide +kernel
theorem dX5_readLines_37 : decode cX5_readLines 37 = .ok (.aload_n 0, 1) := by decide +kernel
theorem dX5_readLines_38 : decode cX5_readLines 38 = .ok (.invokevirtual 37, 3) := by decide +kernel
theorem dX5_readLines_41 : decode cX5_readLines 41 = .ok (.iconst 0, 1) := by decide +kernel
theorem dX5_readLines_42 : decode cX5_readLines 42 = .ok (.istore_n 3, 1) := by decide +kernel
theorem dX5_readLines_43 : decode cX5_readLines 43 = .ok (.aload_n 0, 1) := by decide +kernel
theorem dX5_readLines_44 : decode cX5_readLines 44 = .ok (.getfield 40, 3) := by decide +kernel
theorem dX5_readLines_47 : decode cX5_readLines 47 = .ok (.ifCond .eq 20, 3) := by decide +kernel
theorem dX5_readLines_50 : decode cX5_readLines 50 = .ok (.iload_n 3, 1) := by decide +kernel
theorem dX5_readLines_51 : decode cX5_readLines 51 = .ok (.sipush 320, 3) := by decide +kernel
theorem dX5_readLines_54 : decode cX5_readLines 54 = .ok (.if_icmp .ge 13, 3) := by decide +kernel
theorem dX5_readLines_57 : decode cX5_readLines 57 = .ok (.aload_n 0, 1) := by decide +kernel
theorem dX5_readLines_58 : decode cX5_readLines 58 = .ok (.invokevirtual 43, 3) := by decide +kernel
theorem dX5_readLines_61 : decode cX5_readLines 61 = .ok (.iinc 3 1, 3) := by decide +kernel
theorem dX5_readLines_64 : decode cX5_readLines 64 = .ok (.goto (-21), 3) := by decide +kernel
theorem dX5_readLines_67 : decode cX5_readLines 67 = .ok (.iload_n 3, 1) := by decide +kernel
theorem dX5_readLines_68 : decode cX5_readLines 68 = .ok (.ireturn, 1) := by decide +kernel
theorem dX5_takeLine_0 : decode cX5_takeLine 0 = .ok (.aload_n 0, 1) := by decide +kernel
theorem dX5_takeLine_1 : decode cX5_takeLine 1 = .ok (.ldc 46, 2) := by decide +kernel
theorem dX5_takeLine_3 : decode cX5_takeLine 3 = .ok (.invokevirtual 48, 3) := by decide +kernel
theorem dX5_takeLine_6 : decode cX5_takeLine 6 = .ok (.ifCond .eq 10, 3) := by decide +kernel
theorem dX5_takeLine_9 : decode cX5_takeLine 9 = .ok (.aload_n 0, 1) := by decide +kernel
theorem dX5_takeLine_10 : decode cX5_takeLine 10 = .ok (.invokevirtual 52, 3) := by decide +kernel
theorem dX5_takeLine_13 : decode cX5_takeLine 13 = .ok (.goto 187, 3) := by decide +kernel
theorem dX5_takeLine_16 : decode cX5_takeLine 16 = .ok (.aload_n 0, 1) := by decide +kernel
theorem dX5_takeLine_17 : decode cX5_takeLine 17 = .ok (.ldc 55, 2) := by decide +kernel
theorem dX5_takeLine_19 : decode cX5_takeLine 19 = .ok (.invokevirtual 48, 3) := by decide +kernel
theorem dX5_takeLine_22 : decode cX5_takeLine 22 = .ok (.ifCond .eq 10, 3) := by decide +kernel
theorem dX5_takeLine_25 : decode cX5_takeLine 25 = .ok (.aload_n 0, 1) := by decide +kernel
theorem dX5_takeLine_26 : decode cX5_takeLine 26 = .ok (.invokevirtual 57, 3) := by decide +kernel
theorem dX5_takeLine_29 : decode cX5_takeLine 29 = .ok (.goto 171, 3) := by decide +kernel
theorem dX5_takeLine_32 : decode cX5_takeLine 32 = .ok (.aload_n 0, 1) := by decide +kernel
theorem dX5_takeLine_33 : decode cX5_takeLine 33 = .ok (.ldc 60, 2) := by decide +kernel
theorem dX5_takeLine_35 : decode cX5_takeLine 35 = .ok (.invokevirtual 48, 3) := by decide +kernel
theorem dX5_takeLine_38 : decode cX5_takeLine 38 = .ok (.ifCond .eq 10, 3) := by decide +kernel
theorem dX5_takeLine_41 : decode cX5_takeLine 41 = .ok (.aload_n 0, 1) := by decide +kernel
theorem dX5_takeLine_42 : decode cX5_takeLine 42 = .ok (.invokevirtual 62, 3) := by decide +kernel
theorem dX5_takeLine_45 : decode cX5_takeLine 45 = .ok (.goto 155, 3) := by decide +kernel
theorem dX5_takeLine_48 : decode cX5_takeLine 48 = .ok (.aload_n 0, 1) := by decide +kernel
theorem dX5_takeLine_49 : decode cX5_takeLine 49 = .ok (.ldc 65, 2) := by decide +kernel
theorem dX5_takeLine_51 : decode cX5_takeLine 51 = .ok (.invokevirtual 48, 3) := by decide +kernel
theorem dX5_takeLine_54 : decode cX5_takeLine 54 = .ok (.ifCond .eq 25, 3) := by decide +kernel
theorem dX5_takeLine_57 : decode cX5_takeLine 57 = .ok (.aload_n 0, 1) := by decide +kernel
theorem dX5_takeLine_58 : decode cX5_takeLine 58 = .ok (.iconst 1, 1) := by decide +kernel
theorem dX5_takeLine_59 : decode cX5_takeLine 59 = .ok (.invokevirtual 67, 3) := by decide +kernel
theorem dX5_takeLine_62 : decode cX5_takeLine 62 = .ok (.aload_n 0, 1) := by decide +kernel
theorem dX5_takeLine_63 : decode cX5_takeLine 63 = .ok (.getfield 15, 3) := by decide +kernel
theorem dX5_takeLine_66 : decode cX5_takeLine 66 = .ok (.aload_n 0, 1) := by decide +kernel
theorem dX5_takeLine_67 : decode cX5_takeLine 67 = .ok (.iconst 5, 1) := by decide +kernel
theorem dX5_takeLine_68 : decode cX5_takeLine 68 = .ok (.bipush 20, 2) := by decide +kernel
theorem dX5_takeLine_70 : decode cX5_takeLine 70 = .ok (.invokevirtual 71, 3) := by decide +kernel
theorem dX5_takeLine_73 : decode cX5_takeLine 73 = .ok (.putfield 75, 3) := by decide +kernel
theorem dX5_takeLine_76 : decode cX5_takeLine 76 = .ok (.goto 124, 3) := by decide +kernel
theorem dX5_takeLine_79 : decode cX5_takeLine 79 = .ok (.aload_n 0, 1) := by decide +kernel
theorem dX5_takeLine_80 : decode cX5_takeLine 80 = .ok (.ldc 77, 2) := by decide +kernel
theorem dX5_takeLine_82 : decode cX5_takeLine 82 = .ok (.invokevirtual 48, 3) := by decide +kernel
theorem dX5_takeLine_85 : decode cX5_takeLine 85 = .ok (.ifCond .eq 46, 3) := by decide +kernel
theorem dX5_takeLine_88 : decode cX5_takeLine 88 = .ok (.aload_n 0, 1) := by decide +kernel
theorem dX5_takeLine_89 : decode cX5_takeLine 89 = .ok (.iconst 2, 1) := by decide +kernel
theorem dX5_takeLine_90 : decode cX5_takeLine 90 = .ok (.invokevirtual 67, 3) := by decide +kernel
theorem dX5_takeLine_93 : decode cX5_takeLine 93 = .ok (.aload_n 0, 1) := by decide +kernel
theorem dX5_takeLine_94 : decode cX5_takeLine 94 = .ok (.getfield 15, 3) := by decide +kernel
theorem dX5_takeLine_97 : decode cX5_takeLine 97 = .ok (.aload_n 0, 1) := by decide +kernel
theorem dX5_takeLine_98 : decode cX5_takeLine 98 = .ok (.bipush 16, 2) := by decide +kernel
theorem dX5_takeLine_100 : decode cX5_takeLine 100 = .ok (.bipush 60, 2) := by decide +kernel
theorem dX5_takeLine_102 : decode cX5_takeLine 102 = .ok (.invokevirtual 71, 3) := by decide +kernel
theorem dX5_takeLine_105 : decode cX5_takeLine 105 = .ok (.putfield 79, 3) := by decide +kernel
theorem dX5_takeLine_108 : decode cX5_takeLine 108 = .ok (.aload_n 0, 1) := by decide +kernel
theorem dX5_takeLine_109 : decode cX5_takeLine 109 = .ok (.getfield 15, 3) := by decide +kernel
theorem dX5_takeLine_112 : decode cX5_takeLine 112 = .ok (.aload_n 0, 1) := by decide +kernel
theorem dX5_takeLine_113 : decode cX5_takeLine 113 = .ok (.aload_n 0, 1) := by decide +kernel
theorem dX5_takeLine_114 : decode cX5_takeLine 114 = .ok (.getfield 15, 3) := by decide +kernel
theorem dX5_takeLine_117 : decode cX5_takeLine 117 = .ok (.getfield 79, 3) := by decide +kernel
theorem dX5_takeLine_120 : decode cX5_takeLine 120 = .ok (.bipush 60, 2) := by decide +kernel
theorem dX5_takeLine_122 : decode cX5_takeLine 122 = .ok (.invokevirtual 71, 3) := by decide +kernel
theorem dX5_takeLine_125 : decode cX5_takeLine 125 = .ok (.putfield 82, 3) := by decide +kernel
theorem dX5_takeLine_128 : decode cX5_takeLine 128 = .ok (.goto 72, 3) := by decide +kernel
theorem dX5_takeLine_131 : decode cX5_takeLine 131 = .ok (.aload_n 0, 1) := by decide +kernel
theorem dX5_takeLine_132 : decode cX5_takeLine 132 = .ok (.ldc 85, 2) := by decide +kernel
theorem dX5_takeLine_134 : decode cX5_takeLine 134 = .ok (.invokevirtual 48, 3) := by decide +kernel
theorem dX5_takeLine_137 : decode cX5_takeLine 137 = .ok (.ifCond .eq 26, 3) := by decide +kernel
theorem dX5_takeLine_140 : decode cX5_takeLine 140 = .ok (.aload_n 0, 1) := by decide +kernel
theorem dX5_takeLine_141 : decode cX5_takeLine 141 = .ok (.iconst 4, 1) := by decide +kernel
theorem dX5_takeLine_142 : decode cX5_takeLine 142 = .ok (.invokevirtual 67, 3) := by decide +kernel
theorem dX5_takeLine_145 : decode cX5_takeLine 145 = .ok (.aload_n 0, 1) := by decide +kernel
theorem dX5_takeLine_146 : decode cX5_takeLine 146 = .ok (.getfield 15, 3) := by decide +kernel
theorem dX5_takeLine_149 : decode cX5_takeLine 149 = .ok (.aload_n 0, 1) := by decide +kernel
theorem dX5_takeLine_150 : decode cX5_takeLine 150 = .ok (.iconst 0, 1) := by decide +kernel
theorem dX5_takeLine_151 : decode cX5_takeLine 151 = .ok (.sipush 999, 3) := by decide +kernel
theorem dX5_takeLine_154 : decode cX5_takeLine 154 = .ok (.invokevirtual 71, 3) := by decide +kernel
theorem dX5_takeLine_157 : decode cX5_takeLine 157 = .ok (.putfield 87, 3) := by decide +kernel
theorem dX5_takeLine_160 : decode cX5_takeLine 160 = .ok (.goto 40, 3) := by decide +kernel
theorem dX5_takeLine_163 : decode cX5_takeLine 163 = .ok (.aload_n 0, 1) := by decide +kernel
theorem dX5_takeLine_164 : decode cX5_takeLine 164 = .ok (.ldc 89, 2) := by decide +kernel
theorem dX5_takeLine_166 : decode cX5_takeLine 166 = .ok (.invokevirtual 48, 3) := by decide +kernel
theorem dX5_takeLine_169 : decode cX5_takeLine 169 = .ok (.ifCond .eq 26, 3) := by decide +kernel
theorem dX5_takeLine_172 : decode cX5_takeLine 172 = .ok (.aload_n 0, 1) := by decide +kernel
theorem dX5_takeLine_173 : decode cX5_takeLine 173 = .ok (.bipush 8, 2) := by decide +kernel
theorem dX5_takeLine_175 : decode cX5_takeLine 175 = .ok (.invokevirtual 67, 3) := by decide +kernel
theorem dX5_takeLine_178 : decode cX5_takeLine 178 = .ok (.aload_n 0, 1) := by decide +kernel
theorem dX5_takeLine_179 : decode cX5_takeLine 179 = .ok (.getfield 15, 3) := by decide +kernel
theorem dX5_takeLine_182 : decode cX5_takeLine 182 = .ok (.aload_n 0, 1) := by decide +kernel
theorem dX5_takeLine_183 : decode cX5_takeLine 183 = .ok (.iconst 0, 1) := by decide +kernel
theorem dX5_takeLine_184 : decode cX5_takeLine 184 = .ok (.bipush 8, 2) := by decide +kernel
theorem dX5_takeLine_186 : decode cX5_takeLine 186 = .ok (.invokevirtual 71, 3) := by decide +kernel
theorem dX5_takeLine_189 : decode cX5_takeLine 189 = .ok (.putfield 91, 3) := by decide +kernel
theorem dX5_takeLine_192 : decode cX5_takeLine 192 = .ok (.goto 8, 3) := by decide +kernel
theorem dX5_takeLine_195 : decode cX5_takeLine 195 = .ok (.aload_n 0, 1) := by decide +kernel
theorem dX5_takeLine_196 : decode cX5_takeLine 196 = .ok (.iconst 2, 1) := by decide +kernel
theorem dX5_takeLine_197 : decode cX5_takeLine 197 = .ok (.invokevirtual 93, 3) := by decide +kernel
theorem dX5_takeLine_200 : decode cX5_takeLine 200 = .ok (.aload_n 0, 1) := by decide +kernel
theorem dX5_takeLine_201 : decode cX5_takeLine 201 = .ok (.invokevirtual 96, 3) := by decide +kernel
theorem dX5_takeLine_204 : decode cX5_takeLine 204 = .ok (.return_, 1) := by decide +kernel
theorem dX5_takeParish_0 : decode cX5_takeParish 0 = .ok (.aload_n 0, 1) := by decide +kernel
theorem dX5_takeParish_1 : decode cX5_takeParish 1 = .ok (.getfield 15, 3) := by decide +kernel
theorem dX5_takeParish_4 : decode cX5_takeParish 4 = .ok (.getfield 99, 3) := by decide +kernel
theorem dX5_takeParish_7 : decode cX5_takeParish 7 = .ok (.istore_n 1, 1) := by decide +kernel
theorem dX5_takeParish_8 : decode cX5_takeParish 8 = .ok (.iload_n 1, 1) := by decide +kernel
theorem dX5_takeParish_9 : decode cX5_takeParish 9 = .ok (.bipush 12, 2) := by decide +kernel
theorem dX5_takeParish_11 : decode cX5_takeParish 11 = .ok (.if_icmp .lt 9, 3) := by decide +kernel
theorem dX5_takeParish_14 : decode cX5_takeParish 14 = .ok (.aload_n 0, 1) := by decide +kernel
theorem dX5_takeParish_15 : decode cX5_takeParish 15 = .ok (.iconst 5, 1) := by decide +kernel
theorem dX5_takeParish_16 : decode cX5_takeParish 16 = .ok (.invokevirtual 93, 3) := by decide +kernel
theorem dX5_takeParish_19 : decode cX5_takeParish 19 = .ok (.return_, 1) := by decide +kernel
theorem dX5_takeParish_20 : decode cX5_takeParish 20 = .ok (.aload_n 0, 1) := by decide +kernel
theorem dX5_takeParish_21 : decode cX5_takeParish 21 = .ok (.invokevirtual 37, 3) := by decide +kernel
theorem dX5_takeParish_24 : decode cX5_takeParish 24 = .ok (.aload_n 0, 1) := by decide +kernel
theorem dX5_takeParish_25 : decode cX5_takeParish 25 = .ok (.getfield 15, 3) := by decide +kernel
theorem dX5_takeParish_28 : decode cX5_takeParish 28 = .ok (.getfield 102, 3) := by decide +kernel
theorem dX5_takeParish_31 : decode cX5_takeParish 31 = .ok (.iconst 0, 1) := by decide +kernel
theorem dX5_takeParish_32 : decode cX5_takeParish 32 = .ok (.aaload, 1) := by decide +kernel
theorem dX5_takeParish_33 : decode cX5_takeParish 33 = .ok (.iload_n 1, 1) := by decide +kernel
theorem dX5_takeParish_34 : decode cX5_takeParish 34 = .ok (.aload_n 0, 1) := by decide +kernel
theorem dX5_takeParish_35 : decode cX5_takeParish 35 = .ok (.iconst 1, 1) := by decide +kernel
theorem dX5_takeParish_36 : decode cX5_takeParish 36 = .ok (.sipush 999, 3) := by decide +kernel
theorem dX5_takeParish_39 : decode cX5_takeParish 39 = .ok (.invokevirtual 71, 3) := by decide +kernel
theorem dX5_takeParish_42 : decode cX5_takeParish 42 = .ok (.iastore, 1) := by decide +kernel
theorem dX5_takeParish_43 : decode cX5_takeParish 43 = .ok (.aload_n 0, 1) := by decide +kernel
theorem dX5_takeParish_44 : decode cX5_takeParish 44 = .ok (.getfield 15, 3) := by decide +kernel
theorem dX5_takeParish_47 : decode cX5_takeParish 47 = .ok (.getfield 102, 3) := by decide +kernel
theorem dX5_takeParish_50 : decode cX5_takeParish 50 = .ok (.iconst 1, 1) := by decide +kernel
theorem dX5_takeParish_51 : decode cX5_takeParish 51 = .ok (.aaload, 1) := by decide +kernel
theorem dX5_takeParish_52 : decode cX5_takeParish 52 = .ok (.iload_n 1, 1) := by decide +kernel
theorem dX5_takeParish_53 : decode cX5_takeParish 53 = .ok (.aload_n 0, 1) := by decide +kernel
theorem dX5_takeParish_54 : decode cX5_takeParish 54 = .ok (.ldc 105, 2) := by decide +kernel
theorem dX5_takeParish_56 : decode cX5_takeParish 56 = .ok (.invokevirtual 107, 3) := by decide +kernel
theorem dX5_takeParish_59 : decode cX5_takeParish 59 = .ok (.ifCond .eq 7, 3) := by decide +kernel
theorem dX5_takeParish_62 : decode cX5_takeParish 62 = .ok (.iconst 1, 1) := by decide +kernel
theorem dX5_takeParish_63 : decode cX5_takeParish 63 = .ok (.goto 4, 3) := by decide +kernel
theorem dX5_takeParish_66 : decode cX5_takeParish 66 = .ok (.iconst 0, 1) := by decide +kernel
theorem dX5_takeParish_67 : decode cX5_takeParish 67 = .ok (.iastore, 1) := by decide +kernel
theorem dX5_takeParish_68 : decode cX5_takeParish 68 = .ok (.aload_n 0, 1) := by decide +kernel
theorem dX5_takeParish_69 : decode cX5_takeParish 69 = .ok (.getfield 15, 3) := by decide +kernel
theorem dX5_takeParish_72 : decode cX5_takeParish 72 = .ok (.getfield 102, 3) := by decide +kernel
theorem dX5_takeParish_75 : decode cX5_takeParish 75 = .ok (.iconst 2, 1) := by decide +kernel
theorem dX5_takeParish_76 : decode cX5_takeParish 76 = .ok (.aaload, 1) := by decide +kernel
theorem dX5_takeParish_77 : decode cX5_takeParish 77 = .ok (.iload_n 1, 1) := by decide +kernel
theorem dX5_takeParish_78 : decode cX5_takeParish 78 = .ok (.aload_n 0, 1) := by decide +kernel
theorem dX5_takeParish_79 : decode cX5_takeParish 79 = .ok (.ldc 110, 2) := by decide +kernel
theorem dX5_takeParish_81 : decode cX5_takeParish 81 = .ok (.invokevirtual 107, 3) := by decide +kernel
theorem dX5_takeParish_84 : decode cX5_takeParish 84 = .ok (.ifCond .eq 13, 3) := by decide +kernel
theorem dX5_takeParish_87 : decode cX5_takeParish 87 = .ok (.aload_n 0, 1) := by decide +kernel
theorem dX5_takeParish_88 : decode cX5_takeParish 88 = .ok (.iconst 0, 1) := by decide +kernel
theorem dX5_takeParish_89 : decode cX5_takeParish 89 = .ok (.bipush 89, 2) := by decide +kernel
theorem dX5_takeParish_91 : decode cX5_takeParish 91 = .ok (.invokevirtual 71, 3) := by decide +kernel
theorem dX5_takeParish_94 : decode cX5_takeParish 94 = .ok (.goto 5, 3) := by decide +kernel
theorem dX5_takeParish_97 : decode cX5_takeParish 97 = .ok (.bipush (-4), 2) := by decide +kernel
theorem dX5_takeParish_99 : decode cX5_takeParish 99 = .ok (.iastore, 1) := by decide +kernel
theorem dX5_takeParish_100 : decode cX5_takeParish 100 = .ok (.aload_n 0, 1) := by decide +kernel
theorem dX5_takeParish_101 : decode cX5_takeParish 101 = .ok (.getfield 15, 3) := by decide +kernel
theorem dX5_takeParish_104 : decode cX5_takeParish 104 = .ok (.getfield 102, 3) := by decide +kernel
theorem dX5_takeParish_107 : decode cX5_takeParish 107 = .ok (.iconst 3, 1) := by decide +kernel
theorem dX5_takeParish_108 : decode cX5_takeParish 108 = .ok (.aaload, 1) := by decide +kernel
theorem dX5_takeParish_109 : decode cX5_takeParish 109 = .ok (.iload_n 1, 1) := by decide +kernel
theorem dX5_takeParish_110 : decode cX5_takeParish 110 = .ok (.aload_n 0, 1) := by decide +kernel
theorem dX5_takeParish_111 : decode cX5_takeParish 111 = .ok (.ldc 112, 2) := by decide +kernel
theorem dX5_takeParish_113 : decode cX5_takeParish 113 = .ok (.invokevirtual 107, 3) := by decide +kernel
theorem dX5_takeParish_116 : decode cX5_takeParish 116 = .ok (.ifCond .eq 13, 3) := by decide +kernel
theorem dX5_takeParish_119 : decode cX5_takeParish 119 = .ok (.aload_n 0, 1) := by decide +kernel
theorem dX5_takeParish_120 : decode cX5_takeParish 120 = .ok (.iconst 0, 1) := by decide +kernel
theorem dX5_takeParish_121 : decode cX5_takeParish 121 = .ok (.bipush 89, 2) := by decide +kernel
theorem dX5_takeParish_123 : decode cX5_takeParish 123 = .ok (.invokevirtual 71, 3) := by decide +kernel
theorem dX5_takeParish_126 : decode cX5_takeParish 126 = .ok (.goto 5, 3) := by decide +kernel
theorem dX5_takeParish_129 : decode cX5_takeParish 129 = .ok (.bipush (-4), 2) := by decide +kernel
theorem dX5_takeParish_131 : decode cX5_takeParish 131 = .ok (.iastore, 1) := by decide +kernel
theorem dX5_takeParish_132 : decode cX5_takeParish 132 = .ok (.aload_n 0, 1) := by decide +kernel
theorem dX5_takeParish_133 : decode cX5_takeParish 133 = .ok (.getfield 15, 3) := by decide +kernel
theorem dX5_takeParish_136 : decode cX5_takeParish 136 = .ok (.iload_n 1, 1) := by decide +kernel
theorem dX5_takeParish_137 : decode cX5_takeParish 137 = .ok (.iconst 1, 1) := by decide +kernel
theorem dX5_takeParish_138 : decode cX5_takeParish 138 = .ok (.iadd, 1) := by decide +kernel
theorem dX5_takeParish_139 : decode cX5_takeParish 139 = .ok (.putfield 99, 3) := by decide +kernel
theorem dX5_takeParish_142 : decode cX5_takeParish 142 = .ok (.return_, 1) := by decide +kernel
theorem dX5_takeClerk_0 : decode cX5_takeClerk 0 = .ok (.aload_n 0, 1) := by decide +kernel
theorem dX5_takeClerk_1 : decode cX5_takeClerk 1 = .ok (.getfield 15, 3) := by decide +kernel
theorem dX5_takeClerk_4 : decode cX5_takeClerk 4 = .ok (.getfield 114, 3) := by decide +kernel
theorem dX5_takeClerk_7 : decode cX5_takeClerk 7 = .ok (.istore_n 1, 1) := by decide +kernel
theorem dX5_takeClerk_8 : decode cX5_takeClerk 8 = .ok (.iload_n 1, 1) := by decide +kernel
theorem dX5_takeClerk_9 : decode cX5_takeClerk 9 = .ok (.bipush 8, 2) := by decide +kernel
theorem dX5_takeClerk_11 : decode cX5_takeClerk 11 = .ok (.if_icmp .lt 9, 3) := by decide +kernel
theorem dX5_takeClerk_14 : decode cX5_takeClerk 14 = .ok (.aload_n 0, 1) := by decide +kernel
theorem dX5_takeClerk_15 : decode cX5_takeClerk 15 = .ok (.iconst 5, 1) := by decide +kernel
theorem dX5_takeClerk_16 : decode cX5_takeClerk 16 = .ok (.invokevirtual 93, 3) := by decide +kernel
theorem dX5_takeClerk_19 : decode cX5_takeClerk 19 = .ok (.return_, 1) := by decide +kernel
theorem dX5_takeClerk_20 : decode cX5_takeClerk 20 = .ok (.aload_n 0, 1) := by decide +kernel
theorem dX5_takeClerk_21 : decode cX5_takeClerk 21 = .ok (.invokevirtual 37, 3) := by decide +kernel
theorem dX5_takeClerk_24 : decode cX5_takeClerk 24 = .ok (.aload_n 0, 1) := by decide +kernel
theorem dX5_takeClerk_25 : decode cX5_takeClerk 25 = .ok (.getfield 15, 3) := by decide +kernel
theorem dX5_takeClerk_28 : decode cX5_takeClerk 28 = .ok (.getfield 117, 3) := by decide +kernel
theorem dX5_takeClerk_31 : decode cX5_takeClerk 31 = .ok (.iconst 0, 1) := by decide +kernel
theorem dX5_takeClerk_32 : decode cX5_takeClerk 32 = .ok (.aaload, 1) := by decide +kernel
theorem dX5_takeClerk_33 : decode cX5_takeClerk 33 = .ok (.iload_n 1, 1) := by decide +kernel
theorem dX5_takeClerk_34 : decode cX5_takeClerk 34 = .ok (.aload_n 0, 1) := by decide +kernel
theorem dX5_takeClerk_35 : decode cX5_takeClerk 35 = .ok (.iconst 0, 1) := by decide +kernel
theorem dX5_takeClerk_36 : decode cX5_takeClerk 36 = .ok (.aload_n 0, 1) := by decide +kernel
theorem dX5_takeClerk_37 : decode cX5_takeClerk 37 = .ok (.getfield 15, 3) := by decide +kernel
theorem dX5_takeClerk_40 : decode cX5_takeClerk 40 = .ok (.getfield 99, 3) := by decide +kernel
theorem dX5_takeClerk_43 : decode cX5_takeClerk 43 = .ok (.iconst 1, 1) := by decide +kernel
theorem dX5_takeClerk_44 : decode cX5_takeClerk 44 = .ok (.isub, 1) := by decide +kernel
theorem dX5_takeClerk_45 : decode cX5_takeClerk 45 = .ok (.invokevirtual 71, 3) := by decide +kernel
theorem dX5_takeClerk_48 : decode cX5_takeClerk 48 = .ok (.iastore, 1) := by decide +kernel
theorem dX5_takeClerk_49 : decode cX5_takeClerk 49 = .ok (.aload_n 0, 1) := by decide +kernel
theorem dX5_takeClerk_50 : decode cX5_takeClerk 50 = .ok (.getfield 15, 3) := by decide +kernel
theorem dX5_takeClerk_53 : decode cX5_takeClerk 53 = .ok (.getfield 117, 3) := by decide +kernel
theorem dX5_takeClerk_56 : decode cX5_takeClerk 56 = .ok (.iconst 1, 1) := by decide +kernel
theorem dX5_takeClerk_57 : decode cX5_takeClerk 57 = .ok (.aaload, 1) := by decide +kernel
theorem dX5_takeClerk_58 : decode cX5_takeClerk 58 = .ok (.iload_n 1, 1) := by decide +kernel
theorem dX5_takeClerk_59 : decode cX5_takeClerk 59 = .ok (.aload_n 0, 1) := by decide +kernel
theorem dX5_takeClerk_60 : decode cX5_takeClerk 60 = .ok (.iconst 0, 1) := by decide +kernel
theorem dX5_takeClerk_61 : decode cX5_takeClerk 61 = .ok (.bipush 89, 2) := by decide +kernel
theorem dX5_takeClerk_63 : decode cX5_takeClerk 63 = .ok (.invokevirtual 71, 3) := by decide +kernel
theorem dX5_takeClerk_66 : decode cX5_takeClerk 66 = .ok (.iastore, 1) := by decide +kernel
theorem dX5_takeClerk_67 : decode cX5_takeClerk 67 = .ok (.aload_n 0, 1) := by decide +kernel
theorem dX5_takeClerk_68 : decode cX5_takeClerk 68 = .ok (.getfield 15, 3) := by decide +kernel
theorem dX5_takeClerk_71 : decode cX5_takeClerk 71 = .ok (.getfield 117, 3) := by decide +kernel
theorem dX5_takeClerk_74 : decode cX5_takeClerk 74 = .ok (.iconst 2, 1) := by decide +kernel
theorem dX5_takeClerk_75 : decode cX5_takeClerk 75 = .ok (.aaload, 1) := by decide +kernel
theorem dX5_takeClerk_76 : decode cX5_takeClerk 76 = .ok (.iload_n 1, 1) := by decide +kernel
theorem dX5_takeClerk_77 : decode cX5_takeClerk 77 = .ok (.aload_n 0, 1) := by decide +kernel
theorem dX5_takeClerk_78 : decode cX5_takeClerk 78 = .ok (.aload_n 0, 1) := by decide +kernel
theorem dX5_takeClerk_79 : decode cX5_takeClerk 79 = .ok (.getfield 15, 3) := by decide +kernel
theorem dX5_takeClerk_82 : decode cX5_takeClerk 82 = .ok (.getfield 117, 3) := by decide +kernel
theorem dX5_takeClerk_85 : decode cX5_takeClerk 85 = .ok (.iconst 1, 1) := by decide +kernel
theorem dX5_takeClerk_86 : decode cX5_takeClerk 86 = .ok (.aaload, 1) := by decide +kernel
theorem dX5_takeClerk_87 : decode cX5_takeClerk 87 = .ok (.iload_n 1, 1) := by decide +kernel
theorem dX5_takeClerk_88 : decode cX5_takeClerk 88 = .ok (.iaload, 1) := by decide +kernel
theorem dX5_takeClerk_89 : decode cX5_takeClerk 89 = .ok (.bipush 89, 2) := by decide +kernel
theorem dX5_takeClerk_91 : decode cX5_takeClerk 91 = .ok (.invokevirtual 71, 3) := by decide +kernel
theorem dX5_takeClerk_94 : decode cX5_takeClerk 94 = .ok (.iastore, 1) := by decide +kernel
theorem dX5_takeClerk_95 : decode cX5_takeClerk 95 = .ok (.aload_n 0, 1) := by decide +kernel
theorem dX5_takeClerk_96 : decode cX5_takeClerk 96 = .ok (.getfield 15, 3) := by decide +kernel
theorem dX5_takeClerk_99 : decode cX5_takeClerk 99 = .ok (.getfield 117, 3) := by decide +kernel
theorem dX5_takeClerk_102 : decode cX5_takeClerk 102 = .ok (.iconst 3, 1) := by decide +kernel
theorem dX5_takeClerk_103 : decode cX5_takeClerk 103 = .ok (.aaload, 1) := by decide +kernel
theorem dX5_takeClerk_104 : decode cX5_takeClerk 104 = .ok (.iload_n 1, 1) := by decide +kernel
theorem dX5_takeClerk_105 : decode cX5_takeClerk 105 = .ok (.aload_n 0, 1) := by decide +kernel
theorem dX5_takeClerk_106 : decode cX5_takeClerk 106 = .ok (.iconst 0, 1) := by decide +kernel
theorem dX5_takeClerk_107 : decode cX5_takeClerk 107 = .ok (.sipush 255, 3) := by decide +kernel
theorem dX5_takeClerk_110 : decode cX5_takeClerk 110 = .ok (.invokevirtual 71, 3) := by decide +kernel
theorem dX5_takeClerk_113 : decode cX5_takeClerk 113 = .ok (.iastore, 1) := by decide +kernel
theorem dX5_takeClerk_114 : decode cX5_takeClerk 114 = .ok (.aload_n 0, 1) := by decide +kernel
theorem dX5_takeClerk_115 : decode cX5_takeClerk 115 = .ok (.getfield 15, 3) := by decide +kernel
theorem dX5_takeClerk_118 : decode cX5_takeClerk 118 = .ok (.getfield 117, 3) := by decide +kernel
theorem dX5_takeClerk_121 : decode cX5_takeClerk 121 = .ok (.iconst 4, 1) := by decide +kernel
theorem dX5_takeClerk_122 : decode cX5_takeClerk 122 = .ok (.aaload, 1) := by decide +kernel
theorem dX5_takeClerk_123 : decode cX5_takeClerk 123 = .ok (.iload_n 1, 1) := by decide +kernel
theorem dX5_takeClerk_124 : decode cX5_takeClerk 124 = .ok (.aload_n 0, 1) := by decide +kernel
theorem dX5_takeClerk_125 : decode cX5_takeClerk 125 = .ok (.iconst 0, 1) := by decide +kernel
theorem dX5_takeClerk_126 : decode cX5_takeClerk 126 = .ok (.iconst 4, 1) := by decide +kernel
theorem dX5_takeClerk_127 : decode cX5_takeClerk 127 = .ok (.invokevirtual 71, 3) := by decide +kernel
theorem dX5_takeClerk_130 : decode cX5_takeClerk 130 = .ok (.iastore, 1) := by decide +kernel
theorem dX5_takeClerk_131 : decode cX5_takeClerk 131 = .ok (.aload_n 0, 1) := by decide +kernel
theorem dX5_takeClerk_132 : decode cX5_takeClerk 132 = .ok (.getfield 15, 3) := by decide +kernel
theorem dX5_takeClerk_135 : decode cX5_takeClerk 135 = .ok (.iload_n 1, 1) := by decide +kernel
theorem dX5_takeClerk_136 : decode cX5_takeClerk 136 = .ok (.iconst 1, 1) := by decide +kernel
theorem dX5_takeClerk_137 : decode cX5_takeClerk 137 = .ok (.iadd, 1) := by decide +kernel
theorem dX5_takeClerk_138 : decode cX5_takeClerk 138 = .ok (.putfield 114, 3) := by decide +kernel
theorem dX5_takeClerk_141 : decode cX5_takeClerk 141 = .ok (.return_, 1) := by decide +kernel
theorem dX5_takeTried_0 : decode cX5_takeTried 0 = .ok (.aload_n 0, 1) := by decide +kernel
theorem dX5_takeTried_1 : decode cX5_takeTried 1 = .ok (.invokevirtual 37, 3) := by decide +kernel
theorem dX5_takeTried_4 : decode cX5_takeTried 4 = .ok (.aload_n 0, 1) := by decide +kernel
theorem dX5_takeTried_5 : decode cX5_takeTried 5 = .ok (.ldc 119, 2) := by decide +kernel
theorem dX5_takeTried_7 : decode cX5_takeTried 7 = .ok (.invokevirtual 48, 3) := by decide +kernel
theorem dX5_takeTried_10 : decode cX5_takeTried 10 = .ok (.ifCond .eq 7, 3) := by decide +kernel
theorem dX5_takeTried_13 : decode cX5_takeTried 13 = .ok (.iconst 1, 1) := by decide +kernel
theorem dX5_takeTried_14 : decode cX5_takeTried 14 = .ok (.goto 4, 3) := by decide +kernel
theorem dX5_takeTried_17 : decode cX5_takeTried 17 = .ok (.iconst 0, 1) := by decide +kernel
theorem dX5_takeTried_18 : decode cX5_takeTried 18 = .ok (.istore_n 1, 1) := by decide +kernel
theorem dX5_takeTried_19 : decode cX5_takeTried 19 = .ok (.aload_n 0, 1) := by decide +kernel
theorem dX5_takeTried_20 : decode cX5_takeTried 20 = .ok (.ldc 119, 2) := by decide +kernel
theorem dX5_takeTried_22 : decode cX5_takeTried 22 = .ok (.invokevirtual 48, 3) := by decide +kernel
theorem dX5_takeTried_25 : decode cX5_takeTried 25 = .ok (.ifCond .ne 18, 3) := by decide +kernel
theorem dX5_takeTried_28 : decode cX5_takeTried 28 = .ok (.aload_n 0, 1) := by decide +kernel
theorem dX5_takeTried_29 : decode cX5_takeTried 29 = .ok (.ldc 121, 2) := by decide +kernel
theorem dX5_takeTried_31 : decode cX5_takeTried 31 = .ok (.invokevirtual 48, 3) := by decide +kernel
theorem dX5_takeTried_34 : decode cX5_takeTried 34 = .ok (.ifCond .ne 9, 3) := by decide +kernel
theorem dX5_takeTried_37 : decode cX5_takeTried 37 = .ok (.aload_n 0, 1) := by decide +kernel
theorem dX5_takeTried_38 : decode cX5_takeTried 38 = .ok (.iconst 2, 1) := by decide +kernel
theorem dX5_takeTried_39 : decode cX5_takeTried 39 = .ok (.invokevirtual 93, 3) := by decide +kernel
theorem dX5_takeTried_42 : decode cX5_takeTried 42 = .ok (.return_, 1) := by decide +kernel
theorem dX5_takeTried_43 : decode cX5_takeTried 43 = .ok (.aload_n 0, 1) := by decide +kernel
theorem dX5_takeTried_44 : decode cX5_takeTried 44 = .ok (.bipush 16, 2) := by decide +kernel
theorem dX5_takeTried_46 : decode cX5_takeTried 46 = .ok (.iload_n 1, 1) := by decide +kernel
theorem dX5_takeTried_47 : decode cX5_takeTried 47 = .ok (.ishl, 1) := by decide +kernel
theorem dX5_takeTried_48 : decode cX5_takeTried 48 = .ok (.invokevirtual 67, 3) := by decide +kernel
theorem dX5_takeTried_51 : decode cX5_takeTried 51 = .ok (.aload_n 0, 1) := by decide +kernel
theorem dX5_takeTried_52 : decode cX5_takeTried 52 = .ok (.getfield 15, 3) := by decide +kernel
theorem dX5_takeTried_55 : decode cX5_takeTried 55 = .ok (.getfield 123, 3) := by decide +kernel
theorem dX5_takeTried_58 : decode cX5_takeTried 58 = .ok (.iconst 2, 1) := by decide +kernel
theorem dX5_takeTried_59 : decode cX5_takeTried 59 = .ok (.iload_n 1, 1) := by decide +kernel
theorem dX5_takeTried_60 : decode cX5_takeTried 60 = .ok (.imul, 1) := by decide +kernel
theorem dX5_takeTried_61 : decode cX5_takeTried 61 = .ok (.aload_n 0, 1) := by decide +kernel
theorem dX5_takeTried_62 : decode cX5_takeTried 62 = .ok (.iconst 0, 1) := by decide +kernel
theorem dX5_takeTried_63 : decode cX5_takeTried 63 = .ok (.sipush 999, 3) := by decide +kernel
theorem dX5_takeTried_66 : decode cX5_takeTried 66 = .ok (.invokevirtual 71, 3) := by decide +kernel
theorem dX5_takeTried_69 : decode cX5_takeTried 69 = .ok (.iastore, 1) := by decide +kernel
theorem dX5_takeTried_70 : decode cX5_takeTried 70 = .ok (.aload_n 0, 1) := by decide +kernel
theorem dX5_takeTried_71 : decode cX5_takeTried 71 = .ok (.getfield 15, 3) := by decide +kernel
theorem dX5_takeTried_74 : decode cX5_takeTried 74 = .ok (.getfield 123, 3) := by decide +kernel
theorem dX5_takeTried_77 : decode cX5_takeTried 77 = .ok (.iconst 2, 1) := by decide +kernel
theorem dX5_takeTried_78 : decode cX5_takeTried 78 = .ok (.iload_n 1, 1) := by decide +kernel
theorem dX5_takeTried_79 : decode cX5_takeTried 79 = .ok (.imul, 1) := by decide +kernel
theorem dX5_takeTried_80 : decode cX5_takeTried 80 = .ok (.iconst 1, 1) := by decide +kernel
theorem dX5_takeTried_81 : decode cX5_takeTried 81 = .ok (.iadd, 1) := by decide +kernel
theorem dX5_takeTried_82 : decode cX5_takeTried 82 = .ok (.aload_n 0, 1) := by decide +kernel
theorem dX5_takeTried_83 : decode cX5_takeTried 83 = .ok (.iconst 1, 1) := by decide +kernel
theorem dX5_takeTried_84 : decode cX5_takeTried 84 = .ok (.aload_n 0, 1) := by decide +kernel
theorem dX5_takeTried_85 : decode cX5_takeTried 85 = .ok (.getfield 15, 3) := by decide +kernel
theorem dX5_takeTried_88 : decode cX5_takeTried 88 = .ok (.getfield 123, 3) := by decide +kernel
theorem dX5_takeTried_91 : decode cX5_takeTried 91 = .ok (.iconst 2, 1) := by decide +kernel
theorem dX5_takeTried_92 : decode cX5_takeTried 92 = .ok (.iload_n 1, 1) := by decide +kernel
theorem dX5_takeTried_93 : decode cX5_takeTried 93 = .ok (.imul, 1) := by decide +kernel
theorem dX5_takeTried_94 : decode cX5_takeTried 94 = .ok (.iaload, 1) := by decide +kernel
theorem dX5_takeTried_95 : decode cX5_takeTried 95 = .ok (.invokestatic 126, 3) := by decide +kernel
theorem dX5_takeTried_98 : decode cX5_takeTried 98 = .ok (.sipush 999, 3) := by decide +kernel
theorem dX5_takeTried_101 : decode cX5_takeTried 101 = .ok (.invokevirtual 71, 3) := by decide +kernel
theorem dX5_takeTried_104 : decode cX5_takeTried 104 = .ok (.iastore, 1) := by decide +kernel
theorem dX5_takeTried_105 : decode cX5_takeTried 105 = .ok (.return_, 1) := by decide +kernel
theorem dX5_takeOnce_0 : decode cX5_takeOnce 0 = .ok (.aload_n 0, 1) := by decide +kernel
theorem dX5_takeOnce_1 : decode cX5_takeOnce 1 = .ok (.getfield 28, 3) := by decide +kernel
theorem dX5_takeOnce_4 : decode cX5_takeOnce 4 = .ok (.iload_n 1, 1) := by decide +kernel
theorem dX5_takeOnce_5 : decode cX5_takeOnce 5 = .ok (.iand, 1) := by decide +kernel
theorem dX5_takeOnce_6 : decode cX5_takeOnce 6 = .ok (.ifCond .eq 9, 3) := by decide +kernel
theorem dX5_takeOnce_9 : decode cX5_takeOnce 9 = .ok (.aload_n 0, 1) := by decide +kernel
theorem dX5_takeOnce_10 : decode cX5_takeOnce 10 = .ok (.iconst 4, 1) := by decide +kernel
theorem dX5_takeOnce_11 : decode cX5_takeOnce 11 = .ok (.invokevirtual 93, 3) := by decide +kernel
theorem dX5_takeOnce_14 : decode cX5_takeOnce 14 = .ok (.return_, 1) := by decide +kernel
theorem dX5_takeOnce_15 : decode cX5_takeOnce 15 = .ok (.aload_n 0, 1) := by decide +kernel
theorem dX5_takeOnce_16 : decode cX5_takeOnce 16 = .ok (.dup, 1) := by decide +kernel
theorem dX5_takeOnce_17 : decode cX5_takeOnce 17 = .ok (.getfield 28, 3) := by decide +kernel
theorem dX5_takeOnce_20 : decode cX5_takeOnce 20 = .ok (.iload_n 1, 1) := by decide +kernel
theorem dX5_takeOnce_21 : decode cX5_takeOnce 21 = .ok (.ior, 1) := by decide +kernel
theorem dX5_takeOnce_22 : decode cX5_takeOnce 22 = .ok (.putfield 28, 3) := by decide +kernel
theorem dX5_takeOnce_25 : decode cX5_takeOnce 25 = .ok (.aload_n 0, 1) := by decide +kernel
theorem dX5_takeOnce_26 : decode cX5_takeOnce 26 = .ok (.invokevirtual 37, 3) := by decide +kernel
theorem dX5_takeOnce_29 : decode cX5_takeOnce 29 = .ok (.return_, 1) := by decide +kernel
theorem dX5_takeWord_0 : decode cX5_takeWord 0 = .ok (.aload_n 0, 1) := by decide +kernel
theorem dX5_takeWord_1 : decode cX5_takeWord 1 = .ok (.aload_n 1, 1) := by decide +kernel
theorem dX5_takeWord_2 : decode cX5_takeWord 2 = .ok (.invokevirtual 48, 3) := by decide +kernel
theorem dX5_takeWord_5 : decode cX5_takeWord 5 = .ok (.ifCond .ne 5, 3) := by decide +kernel
theorem dX5_takeWord_8 : decode cX5_takeWord 8 = .ok (.iconst 0, 1) := by decide +kernel
theorem dX5_takeWord_9 : decode cX5_takeWord 9 = .ok (.ireturn, 1) := by decide +kernel
theorem dX5_takeWord_10 : decode cX5_takeWord 10 = .ok (.aload_n 0, 1) := by decide +kernel
theorem dX5_takeWord_11 : decode cX5_takeWord 11 = .ok (.invokevirtual 37, 3) := by decide +kernel
theorem dX5_takeWord_14 : decode cX5_takeWord 14 = .ok (.iconst 1, 1) := by decide +kernel
theorem dX5_takeWord_15 : decode cX5_takeWord 15 = .ok (.ireturn, 1) := by decide +kernel
theorem dX5_takeNumber_0 : decode cX5_takeNumber 0 = .ok (.aload_n 0, 1) := by decide +kernel
theorem dX5_takeNumber_1 : decode cX5_takeNumber 1 = .ok (.getfield 40, 3) := by decide +kernel
theorem dX5_takeNumber_4 : decode cX5_takeNumber 4 = .ok (.iconst 2, 1) := by decide +kernel
theorem dX5_takeNumber_5 : decode cX5_takeNumber 5 = .ok (.if_icmp .eq 10, 3) := by decide +kernel
theorem dX5_takeNumber_8 : decode cX5_takeNumber 8 = .ok (.aload_n 0, 1) := by decide +kernel
theorem dX5_takeNumber_9 : decode cX5_takeNumber 9 = .ok (.iconst 2, 1) := by decide +kernel
theorem dX5_takeNumber_10 : decode cX5_takeNumber 10 = .ok (.invokevirtual 93, 3) := by decide +kernel
theorem dX5_takeNumber_13 : decode cX5_takeNumber 13 = .ok (.iload_n 1, 1) := by decide +kernel
theorem dX5_takeNumber_14 : decode cX5_takeNumber 14 = .ok (.ireturn, 1) := by decide +kernel
theorem dX5_takeNumber_15 : decode cX5_takeNumber 15 = .ok (.aload_n 0, 1) := by decide +kernel
theorem dX5_takeNumber_16 : decode cX5_takeNumber 16 = .ok (.getfield 131, 3) := by decide +kernel
theorem dX5_takeNumber_19 : decode cX5_takeNumber 19 = .ok (.iload_n 1, 1) := by decide +kernel
theorem dX5_takeNumber_20 : decode cX5_takeNumber 20 = .ok (.iload_n 2, 1) := by decide +kernel
theorem dX5_takeNumber_21 : decode cX5_takeNumber 21 = .ok (.invokestatic 134, 3) := by decide +kernel
theorem dX5_takeNumber_24 : decode cX5_takeNumber 24 = .ok (.ifCond .ne 10, 3) := by decide +kernel
theorem dX5_takeNumber_27 : decode cX5_takeNumber 27 = .ok (.aload_n 0, 1) := by decide +kernel
theorem dX5_takeNumber_28 : decode cX5_takeNumber 28 = .ok (.iconst 3, 1) := by decide +kernel
theorem dX5_takeNumber_29 : decode cX5_takeNumber 29 = .ok (.invokevirtual 93, 3) := by decide +kernel
theorem dX5_takeNumber_32 : decode cX5_takeNumber 32 = .ok (.iload_n 1, 1) := by decide +kernel
theorem dX5_takeNumber_33 : decode cX5_takeNumber 33 = .ok (.ireturn, 1) := by decide +kernel
theorem dX5_takeNumber_34 : decode cX5_takeNumber 34 = .ok (.aload_n 0, 1) := by decide +kernel
theorem dX5_takeNumber_35 : decode cX5_takeNumber 35 = .ok (.getfield 131, 3) := by decide +kernel
theorem dX5_takeNumber_38 : decode cX5_takeNumber 38 = .ok (.istore_n 3, 1) := by decide +kernel
theorem dX5_takeNumber_39 : decode cX5_takeNumber 39 = .ok (.aload_n 0, 1) := by decide +kernel
theorem dX5_takeNumber_40 : decode cX5_takeNumber 40 = .ok (.invokevirtual 37, 3) := by decide +kernel
theorem dX5_takeNumber_43 : decode cX5_takeNumber 43 = .ok (.iload_n 3, 1) := by decide +kernel
theorem dX5_takeNumber_44 : decode cX5_takeNumber 44 = .ok (.ireturn, 1) := by decide +kernel
theorem dX5_takeStop_0 : decode cX5_takeStop 0 = .ok (.aload_n 0, 1) := by decide +kernel
theorem dX5_takeStop_1 : decode cX5_takeStop 1 = .ok (.getfield 40, 3) := by decide +kernel
theorem dX5_takeStop_4 : decode cX5_takeStop 4 = .ok (.iconst 3, 1) := by decide +kernel
theorem dX5_takeStop_5 : decode cX5_takeStop 5 = .ok (.if_icmp .eq 9, 3) := by decide +kernel
theorem dX5_takeStop_8 : decode cX5_takeStop 8 = .ok (.aload_n 0, 1) := by decide +kernel
theorem dX5_takeStop_9 : decode cX5_takeStop 9 = .ok (.iconst 2, 1) := by decide +kernel
theorem dX5_takeStop_10 : decode cX5_takeStop 10 = .ok (.invokevirtual 93, 3) := by decide +kernel
theorem dX5_takeStop_13 : decode cX5_takeStop 13 = .ok (.return_, 1) := by decide +kernel
theorem dX5_takeStop_14 : decode cX5_takeStop 14 = .ok (.aload_n 0, 1) := by decide +kernel
theorem dX5_takeStop_15 : decode cX5_takeStop 15 = .ok (.invokevirtual 37, 3) := by decide +kernel
theorem dX5_takeStop_18 : decode cX5_takeStop 18 = .ok (.return_, 1) := by decide +kernel
theorem dX5_refuse_0 : decode cX5_refuse 0 = .ok (.aload_n 0, 1) := by decide +kernel
theorem dX5_refuse_1 : decode cX5_refuse 1 = .ok (.getfield 31, 3) := by decide +kernel
theorem dX5_refuse_4 : decode cX5_refuse 4 = .ok (.ifCond .ne 16, 3) := by decide +kernel
theorem dX5_refuse_7 : decode cX5_refuse 7 = .ok (.aload_n 0, 1) := by decide +kernel
theorem dX5_refuse_8 : decode cX5_refuse 8 = .ok (.iload_n 1, 1) := by decide +kernel
theorem dX5_refuse_9 : decode cX5_refuse 9 = .ok (.putfield 31, 3) := by decide +kernel
theorem dX5_refuse_12 : decode cX5_refuse 12 = .ok (.aload_n 0, 1) := by decide +kernel
theorem dX5_refuse_13 : decode cX5_refuse 13 = .ok (.aload_n 0, 1) := by decide +kernel
theorem dX5_refuse_14 : decode cX5_refuse 14 = .ok (.getfield 138, 3) := by decide +kernel
theorem dX5_refuse_17 : decode cX5_refuse 17 = .ok (.putfield 34, 3) := by decide +kernel
theorem dX5_refuse_20 : decode cX5_refuse 20 = .ok (.aload_n 0, 1) := by decide +kernel
theorem dX5_refuse_21 : decode cX5_refuse 21 = .ok (.iconst 0, 1) := by decide +kernel
theorem dX5_refuse_22 : decode cX5_refuse 22 = .ok (.putfield 40, 3) := by decide +kernel
theorem dX5_refuse_25 : decode cX5_refuse 25 = .ok (.return_, 1) := by decide +kernel
theorem dX5_advance_0 : decode cX5_advance 0 = .ok (.aload_n 0, 1) := by decide +kernel
theorem dX5_advance_1 : decode cX5_advance 1 = .ok (.getfield 24, 3) := by decide +kernel
theorem dX5_advance_4 : decode cX5_advance 4 = .ok (.aload_n 0, 1) := by decide +kernel
theorem dX5_advance_5 : decode cX5_advance 5 = .ok (.getfield 9, 3) := by decide +kernel
theorem dX5_advance_8 : decode cX5_advance 8 = .ok (.getfield 141, 3) := by decide +kernel
theorem dX5_advance_11 : decode cX5_advance 11 = .ok (.if_icmp .ge 28, 3) := by decide +kernel
theorem dX5_advance_14 : decode cX5_advance 14 = .ok (.aload_n 0, 1) := by decide +kernel
theorem dX5_advance_15 : decode cX5_advance 15 = .ok (.aload_n 0, 1) := by decide +kernel
theorem dX5_advance_16 : decode cX5_advance 16 = .ok (.getfield 24, 3) := by decide +kernel
theorem dX5_advance_19 : decode cX5_advance 19 = .ok (.invokevirtual 146, 3) := by decide +kernel
theorem dX5_advance_22 : decode cX5_advance 22 = .ok (.iconst 4, 1) := by decide +kernel
theorem dX5_advance_23 : decode cX5_advance 23 = .ok (.if_icmp .ne 16, 3) := by decide +kernel
theorem dX5_advance_26 : decode cX5_advance 26 = .ok (.aload_n 0, 1) := by decide +kernel
theorem dX5_advance_27 : decode cX5_advance 27 = .ok (.dup, 1) := by decide +kernel
theorem dX5_advance_28 : decode cX5_advance 28 = .ok (.getfield 24, 3) := by decide +kernel
theorem dX5_advance_31 : decode cX5_advance 31 = .ok (.iconst 1, 1) := by decide +kernel
theorem dX5_advance_32 : decode cX5_advance 32 = .ok (.iadd, 1) := by decide +kernel
theorem dX5_advance_33 : decode cX5_advance 33 = .ok (.putfield 24, 3) := by decide +kernel
theorem dX5_advance_36 : decode cX5_advance 36 = .ok (.goto (-36), 3) := by decide +kernel
theorem dX5_advance_39 : decode cX5_advance 39 = .ok (.aload_n 0, 1) := by decide +kernel
theorem dX5_advance_40 : decode cX5_advance 40 = .ok (.aload_n 0, 1) := by decide +kernel
theorem dX5_advance_41 : decode cX5_advance 41 = .ok (.getfield 24, 3) := by decide +kernel
theorem dX5_advance_44 : decode cX5_advance 44 = .ok (.putfield 138, 3) := by decide +kernel
theorem dX5_advance_47 : decode cX5_advance 47 = .ok (.aload_n 0, 1) := by decide +kernel
theorem dX5_advance_48 : decode cX5_advance 48 = .ok (.aload_n 0, 1) := by decide +kernel
theorem dX5_advance_49 : decode cX5_advance 49 = .ok (.getfield 24, 3) := by decide +kernel
theorem dX5_advance_52 : decode cX5_advance 52 = .ok (.aload_n 0, 1) := by decide +kernel
theorem dX5_advance_53 : decode cX5_advance 53 = .ok (.getfield 9, 3) := by decide +kernel
theorem dX5_advance_56 : decode cX5_advance 56 = .ok (.getfield 141, 3) := by decide +kernel
theorem dX5_advance_59 : decode cX5_advance 59 = .ok (.if_icmp .ge 14, 3) := by decide +kernel
theorem dX5_advance_62 : decode cX5_advance 62 = .ok (.aload_n 0, 1) := by decide +kernel
theorem dX5_advance_63 : decode cX5_advance 63 = .ok (.aload_n 0, 1) := by decide +kernel
theorem dX5_advance_64 : decode cX5_advance 64 = .ok (.getfield 24, 3) := by decide +kernel
theorem dX5_advance_67 : decode cX5_advance 67 = .ok (.invokevirtual 146, 3) := by decide +kernel
theorem dX5_advance_70 : decode cX5_advance 70 = .ok (.goto 4, 3) := by decide +kernel
theorem dX5_advance_73 : decode cX5_advance 73 = .ok (.iconst 0, 1) := by decide +kernel
theorem dX5_advance_74 : decode cX5_advance 74 = .ok (.putfield 40, 3) := by decide +kernel
theorem dX5_advance_77 : decode cX5_advance 77 = .ok (.aload_n 0, 1) := by decide +kernel
theorem dX5_advance_78 : decode cX5_advance 78 = .ok (.getfield 40, 3) := by decide +kernel
theorem dX5_advance_81 : decode cX5_advance 81 = .ok (.iconst 5, 1) := by decide +kernel
theorem dX5_advance_82 : decode cX5_advance 82 = .ok (.if_icmp .ne 11, 3) := by decide +kernel
theorem dX5_advance_85 : decode cX5_advance 85 = .ok (.aload_n 0, 1) := by decide +kernel
theorem dX5_advance_86 : decode cX5_advance 86 = .ok (.iconst 1, 1) := by decide +kernel
theorem dX5_advance_87 : decode cX5_advance 87 = .ok (.invokevirtual 93, 3) := by decide +kernel
theorem dX5_advance_90 : decode cX5_advance 90 = .ok (.goto 35, 3) := by decide +kernel
theorem dX5_advance_93 : decode cX5_advance 93 = .ok (.aload_n 0, 1) := by decide +kernel
theorem dX5_advance_94 : decode cX5_advance 94 = .ok (.getfield 40, 3) := by decide +kernel
theorem dX5_advance_97 : decode cX5_advance 97 = .ok (.iconst 3, 1) := by decide +kernel
theorem dX5_advance_98 : decode cX5_advance 98 = .ok (.if_icmp .ne 16, 3) := by decide +kernel
theorem dX5_advance_101 : decode cX5_advance 101 = .ok (.aload_n 0, 1) := by decide +kernel
theorem dX5_advance_102 : decode cX5_advance 102 = .ok (.dup, 1) := by decide +kernel
theorem dX5_advance_103 : decode cX5_advance 103 = .ok (.getfield 24, 3) := by decide +kernel
theorem dX5_advance_106 : decode cX5_advance 106 = .ok (.iconst 1, 1) := by decide +kernel
theorem dX5_advance_107 : decode cX5_advance 107 = .ok (.iadd, 1) := by decide +kernel
theorem dX5_advance_108 : decode cX5_advance 108 = .ok (.putfield 24, 3) := by decide +kernel
theorem dX5_advance_111 : decode cX5_advance 111 = .ok (.goto 14, 3) := by decide +kernel
theorem dX5_advance_114 : decode cX5_advance 114 = .ok (.aload_n 0, 1) := by decide +kernel
theorem dX5_advance_115 : decode cX5_advance 115 = .ok (.getfield 40, 3) := by decide +kernel
theorem dX5_advance_118 : decode cX5_advance 118 = .ok (.ifCond .eq 7, 3) := by decide +kernel
theorem dX5_advance_121 : decode cX5_advance 121 = .ok (.aload_n 0, 1) := by decide +kernel
theorem dX5_advance_122 : decode cX5_advance 122 = .ok (.invokevirtual 150, 3) := by decide +kernel
theorem dX5_advance_125 : decode cX5_advance 125 = .ok (.return_, 1) := by decide +kernel
theorem dX5_readRow_0 : decode cX5_readRow 0 = .ok (.aload_n 0, 1) := by decide +kernel
theorem dX5_readRow_1 : decode cX5_readRow 1 = .ok (.iconst 0, 1) := by decide +kernel
theorem dX5_readRow_2 : decode cX5_readRow 2 = .ok (.putfield 131, 3) := by decide +kernel
theorem dX5_readRow_5 : decode cX5_readRow 5 = .ok (.aload_n 0, 1) := by decide +kernel
theorem dX5_readRow_6 : decode cX5_readRow 6 = .ok (.getfield 24, 3) := by decide +kernel
theorem dX5_readRow_9 : decode cX5_readRow 9 = .ok (.aload_n 0, 1) := by decide +kernel
theorem dX5_readRow_10 : decode cX5_readRow 10 = .ok (.getfield 9, 3) := by decide +kernel
theorem dX5_readRow_13 : decode cX5_readRow 13 = .ok (.getfield 141, 3) := by decide +kernel
theorem dX5_readRow_16 : decode cX5_readRow 16 = .ok (.if_icmp .ge 58, 3) := by decide +kernel
theorem dX5_readRow_19 : decode cX5_readRow 19 = .ok (.aload_n 0, 1) := by decide +kernel
theorem dX5_readRow_20 : decode cX5_readRow 20 = .ok (.aload_n 0, 1) := by decide +kernel
theorem dX5_readRow_21 : decode cX5_readRow 21 = .ok (.getfield 24, 3) := by decide +kernel
theorem dX5_readRow_24 : decode cX5_readRow 24 = .ok (.invokevirtual 146, 3) := by decide +kernel
theorem dX5_readRow_27 : decode cX5_readRow 27 = .ok (.aload_n 0, 1) := by decide +kernel
theorem dX5_readRow_28 : decode cX5_readRow 28 = .ok (.getfield 40, 3) := by decide +kernel
theorem dX5_readRow_31 : decode cX5_readRow 31 = .ok (.if_icmp .ne 43, 3) := by decide +kernel
theorem dX5_readRow_34 : decode cX5_readRow 34 = .ok (.aload_n 0, 1) := by decide +kernel
theorem dX5_readRow_35 : decode cX5_readRow 35 = .ok (.aload_n 0, 1) := by decide +kernel
theorem dX5_readRow_36 : decode cX5_readRow 36 = .ok (.getfield 131, 3) := by decide +kernel
theorem dX5_readRow_39 : decode cX5_readRow 39 = .ok (.bipush 10, 2) := by decide +kernel
theorem dX5_readRow_41 : decode cX5_readRow 41 = .ok (.imul, 1) := by decide +kernel
theorem dX5_readRow_42 : decode cX5_readRow 42 = .ok (.aload_n 0, 1) := by decide +kernel
theorem dX5_readRow_43 : decode cX5_readRow 43 = .ok (.getfield 9, 3) := by decide +kernel
theorem dX5_readRow_46 : decode cX5_readRow 46 = .ok (.getfield 153, 3) := by decide +kernel
theorem dX5_readRow_49 : decode cX5_readRow 49 = .ok (.aload_n 0, 1) := by decide +kernel
theorem dX5_readRow_50 : decode cX5_readRow 50 = .ok (.getfield 24, 3) := by decide +kernel
theorem dX5_readRow_53 : decode cX5_readRow 53 = .ok (.baload, 1) := by decide +kernel
theorem dX5_readRow_54 : decode cX5_readRow 54 = .ok (.bipush 48, 2) := by decide +kernel
theorem dX5_readRow_56 : decode cX5_readRow 56 = .ok (.isub, 1) := by decide +kernel
theorem dX5_readRow_57 : decode cX5_readRow 57 = .ok (.iadd, 1) := by decide +kernel
theorem dX5_readRow_58 : decode cX5_readRow 58 = .ok (.putfield 131, 3) := by decide +kernel
theorem dX5_readRow_61 : decode cX5_readRow 61 = .ok (.aload_n 0, 1) := by decide +kernel
theorem dX5_readRow_62 : decode cX5_readRow 62 = .ok (.dup, 1) := by decide +kernel
theorem dX5_readRow_63 : decode cX5_readRow 63 = .ok (.getfield 24, 3) := by decide +kernel
theorem dX5_readRow_66 : decode cX5_readRow 66 = .ok (.iconst 1, 1) := by decide +kernel
theorem dX5_readRow_67 : decode cX5_readRow 67 = .ok (.iadd, 1) := by decide +kernel
theorem dX5_readRow_68 : decode cX5_readRow 68 = .ok (.putfield 24, 3) := by decide +kernel
theorem dX5_readRow_71 : decode cX5_readRow 71 = .ok (.goto (-66), 3) := by decide +kernel
theorem dX5_readRow_74 : decode cX5_readRow 74 = .ok (.aload_n 0, 1) := by decide +kernel
theorem dX5_readRow_75 : decode cX5_readRow 75 = .ok (.getfield 40, 3) := by decide +kernel
theorem dX5_readRow_78 : decode cX5_readRow 78 = .ok (.iconst 2, 1) := by decide +kernel
theorem dX5_readRow_79 : decode cX5_readRow 79 = .ok (.if_icmp .ne 21, 3) := by decide +kernel
theorem dX5_readRow_82 : decode cX5_readRow 82 = .ok (.aload_n 0, 1) := by decide +kernel
theorem dX5_readRow_83 : decode cX5_readRow 83 = .ok (.getfield 24, 3) := by decide +kernel
theorem dX5_readRow_86 : decode cX5_readRow 86 = .ok (.aload_n 0, 1) := by decide +kernel
theorem dX5_readRow_87 : decode cX5_readRow 87 = .ok (.getfield 138, 3) := by decide +kernel
theorem dX5_readRow_90 : decode cX5_readRow 90 = .ok (.isub, 1) := by decide +kernel
theorem dX5_readRow_91 : decode cX5_readRow 91 = .ok (.iconst 3, 1) := by decide +kernel
theorem dX5_readRow_92 : decode cX5_readRow 92 = .ok (.if_icmp .le 8, 3) := by decide +kernel
theorem dX5_readRow_95 : decode cX5_readRow 95 = .ok (.aload_n 0, 1) := by decide +kernel
theorem dX5_readRow_96 : decode cX5_readRow 96 = .ok (.iconst 1, 1) := by decide +kernel
theorem dX5_readRow_97 : decode cX5_readRow 97 = .ok (.invokevirtual 93, 3) := by decide +kernel
theorem dX5_readRow_100 : decode cX5_readRow 100 = .ok (.return_, 1) := by decide +kernel
theorem dX5_sortAt_0 : decode cX5_sortAt 0 = .ok (.aload_n 0, 1) := by decide +kernel
theorem dX5_sortAt_1 : decode cX5_sortAt 1 = .ok (.getfield 9, 3) := by decide +kernel
theorem dX5_sortAt_4 : decode cX5_sortAt 4 = .ok (.getfield 153, 3) := by decide +kernel
theorem dX5_sortAt_7 : decode cX5_sortAt 7 = .ok (.iload_n 1, 1) := by decide +kernel
theorem dX5_sortAt_8 : decode cX5_sortAt 8 = .ok (.baload, 1) := by decide +kernel
theorem dX5_sortAt_9 : decode cX5_sortAt 9 = .ok (.istore_n 2, 1) := by decide +kernel
theorem dX5_sortAt_10 : decode cX5_sortAt 10 = .ok (.iload_n 2, 1) := by decide +kernel
theorem dX5_sortAt_11 : decode cX5_sortAt 11 = .ok (.bipush 97, 2) := by decide +kernel
theorem dX5_sortAt_13 : decode cX5_sortAt 13 = .ok (.if_icmp .lt 11, 3) := by decide +kernel
theorem dX5_sortAt_16 : decode cX5_sortAt 16 = .ok (.iload_n 2, 1) := by decide +kernel
theorem dX5_sortAt_17 : decode cX5_sortAt 17 = .ok (.bipush 122, 2) := by decide +kernel
theorem dX5_sortAt_19 : decode cX5_sortAt 19 = .ok (.if_icmp .gt 5, 3) := by decide +kernel
theorem dX5_sortAt_22 : decode cX5_sortAt 22 = .ok (.iconst 1, 1) := by decide +kernel
theorem dX5_sortAt_23 : decode cX5_sortAt 23 = .ok (.ireturn, 1) := by decide +kernel
theorem dX5_sortAt_24 : decode cX5_sortAt 24 = .ok (.iload_n 2, 1) := by decide +kernel
theorem dX5_sortAt_25 : decode cX5_sortAt 25 = .ok (.bipush 48, 2) := by decide +kernel
theorem dX5_sortAt_27 : decode cX5_sortAt 27 = .ok (.if_icmp .lt 11, 3) := by decide +kernel
theorem dX5_sortAt_30 : decode cX5_sortAt 30 = .ok (.iload_n 2, 1) := by decide +kernel
theorem dX5_sortAt_31 : decode cX5_sortAt 31 = .ok (.bipush 57, 2) := by decide +kernel
theorem dX5_sortAt_33 : decode cX5_sortAt 33 = .ok (.if_icmp .gt 5, 3) := by decide +kernel
theorem dX5_sortAt_36 : decode cX5_sortAt 36 = .ok (.iconst 2, 1) := by decide +kernel
theorem dX5_sortAt_37 : decode cX5_sortAt 37 = .ok (.ireturn, 1) := by decide +kernel
theorem dX5_sortAt_38 : decode cX5_sortAt 38 = .ok (.iload_n 2, 1) := by decide +kernel
theorem dX5_sortAt_39 : decode cX5_sortAt 39 = .ok (.bipush 32, 2) := by decide +kernel
theorem dX5_sortAt_41 : decode cX5_sortAt 41 = .ok (.if_icmp .ne 5, 3) := by decide +kernel
theorem dX5_sortAt_44 : decode cX5_sortAt 44 = .ok (.iconst 4, 1) := by decide +kernel
theorem dX5_sortAt_45 : decode cX5_sortAt 45 = .ok (.ireturn, 1) := by decide +kernel
theorem dX5_sortAt_46 : decode cX5_sortAt 46 = .ok (.iload_n 2, 1) := by decide +kernel
theorem dX5_sortAt_47 : decode cX5_sortAt 47 = .ok (.bipush 59, 2) := by decide +kernel
theorem dX5_sortAt_49 : decode cX5_sortAt 49 = .ok (.if_icmp .ne 7, 3) := by decide +kernel
theorem dX5_sortAt_52 : decode cX5_sortAt 52 = .ok (.iconst 3, 1) := by decide +kernel
theorem dX5_sortAt_53 : decode cX5_sortAt 53 = .ok (.goto 4, 3) := by decide +kernel
theorem dX5_sortAt_56 : decode cX5_sortAt 56 = .ok (.iconst 5, 1) := by decide +kernel
theorem dX5_sortAt_57 : decode cX5_sortAt 57 = .ok (.ireturn, 1) := by decide +kernel
theorem dX5_isWord_0 : decode cX5_isWord 0 = .ok (.aload_n 0, 1) := by decide +kernel
theorem dX5_isWord_1 : decode cX5_isWord 1 = .ok (.getfield 40, 3) := by decide +kernel
theorem dX5_isWord_4 : decode cX5_isWord 4 = .ok (.iconst 1, 1) := by decide +kernel
theorem dX5_isWord_5 : decode cX5_isWord 5 = .ok (.if_icmp .ne 19, 3) := by decide +kernel
theorem dX5_isWord_8 : decode cX5_isWord 8 = .ok (.aload_n 0, 1) := by decide +kernel
theorem dX5_isWord_9 : decode cX5_isWord 9 = .ok (.getfield 24, 3) := by decide +kernel
theorem dX5_isWord_12 : decode cX5_isWord 12 = .ok (.aload_n 0, 1) := by decide +kernel
theorem dX5_isWord_13 : decode cX5_isWord 13 = .ok (.getfield 138, 3) := by decide +kernel
theorem dX5_isWord_16 : decode cX5_isWord 16 = .ok (.isub, 1) := by decide +kernel
theorem dX5_isWord_17 : decode cX5_isWord 17 = .ok (.aload_n 1, 1) := by decide +kernel
theorem dX5_isWord_18 : decode cX5_isWord 18 = .ok (.invokevirtual 157, 3) := by decide +kernel
theorem dX5_isWord_21 : decode cX5_isWord 21 = .ok (.if_icmp .eq 5, 3) := by decide +kernel
theorem dX5_isWord_24 : decode cX5_isWord 24 = .ok (.iconst 0, 1) := by decide +kernel
theorem dX5_isWord_25 : decode cX5_isWord 25 = .ok (.ireturn, 1) := by decide +kernel
theorem dX5_isWord_26 : decode cX5_isWord 26 = .ok (.iconst 0, 1) := by decide +kernel
theorem dX5_isWord_27 : decode cX5_isWord 27 = .ok (.istore_n 2, 1) := by decide +kernel
theorem dX5_isWord_28 : decode cX5_isWord 28 = .ok (.iload_n 2, 1) := by decide +kernel
theorem dX5_isWord_29 : decode cX5_isWord 29 = .ok (.aload_n 1, 1) := by decide +kernel
theorem dX5_isWord_30 : decode cX5_isWord 30 = .ok (.invokevirtual 157, 3) := by decide +kernel
theorem dX5_isWord_33 : decode cX5_isWord 33 = .ok (.if_icmp .ge 33, 3) := by decide +kernel
theorem dX5_isWord_36 : decode cX5_isWord 36 = .ok (.aload_n 0, 1) := by decide +kernel
theorem dX5_isWord_37 : decode cX5_isWord 37 = .ok (.getfield 9, 3) := by decide +kernel
theorem dX5_isWord_40 : decode cX5_isWord 40 = .ok (.getfield 153, 3) := by decide +kernel
theorem dX5_isWord_43 : decode cX5_isWord 43 = .ok (.aload_n 0, 1) := by decide +kernel
theorem dX5_isWord_44 : decode cX5_isWord 44 = .ok (.getfield 138, 3) := by decide +kernel
theorem dX5_isWord_47 : decode cX5_isWord 47 = .ok (.iload_n 2, 1) := by decide +kernel
theorem dX5_isWord_48 : decode cX5_isWord 48 = .ok (.iadd, 1) := by decide +kernel
theorem dX5_isWord_49 : decode cX5_isWord 49 = .ok (.baload, 1) := by decide +kernel
theorem dX5_isWord_50 : decode cX5_isWord 50 = .ok (.aload_n 1, 1) := by decide +kernel
theorem dX5_isWord_51 : decode cX5_isWord 51 = .ok (.iload_n 2, 1) := by decide +kernel
theorem dX5_isWord_52 : decode cX5_isWord 52 = .ok (.invokevirtual 162, 3) := by decide +kernel
theorem dX5_isWord_55 : decode cX5_isWord 55 = .ok (.if_icmp .eq 5, 3) := by decide +kernel
theorem dX5_isWord_58 : decode cX5_isWord 58 = .ok (.iconst 0, 1) := by decide +kernel
theorem dX5_isWord_59 : decode cX5_isWord 59 = .ok (.ireturn, 1) := by decide +kernel
theorem dX5_isWord_60 : decode cX5_isWord 60 = .ok (.iinc 2 1, 3) := by decide +kernel
theorem dX5_isWord_63 : decode cX5_isWord 63 = .ok (.goto (-35), 3) := by decide +kernel
theorem dX5_isWord_66 : decode cX5_isWord 66 = .ok (.iconst 1, 1) := by decide +kernel
theorem dX5_isWord_67 : decode cX5_isWord 67 = .ok (.ireturn, 1) := by decide +kernel
theorem dX6_init_0 : decode cX6_init 0 = .ok (.aload_n 0, 1) := by decide +kernel
theorem dX6_init_1 : decode cX6_init 1 = .ok (.invokespecial 1, 3) := by decide +kernel
theorem dX6_init_4 : decode cX6_init 4 = .ok (.aload_n 0, 1) := by decide +kernel
theorem dX6_init_5 : decode cX6_init 5 = .ok (.lconst 0, 1) := by decide +kernel
theorem dX6_init_6 : decode cX6_init 6 = .ok (.putfield 7, 3) := by decide +kernel
theorem dX6_init_9 : decode cX6_init 9 = .ok (.aload_n 0, 1) := by decide +kernel
theorem dX6_init_10 : decode cX6_init 10 = .ok (.lconst 1, 1) := by decide +kernel
theorem dX6_init_11 : decode cX6_init 11 = .ok (.putfield 13, 3) := by decide +kernel
theorem dX6_init_14 : decode cX6_init 14 = .ok (.return_, 1) := by decide +kernel
theorem dX6_become_0 : decode cX6_become 0 = .ok (.lload_n 1, 1) := by decide +kernel
theorem dX6_become_1 : decode cX6_become 1 = .ok (.invokestatic 16, 3) := by decide +kernel
theorem dX6_become_4 : decode cX6_become 4 = .ok (.lload_n 3, 1) := by decide +kernel
theorem dX6_become_5 : decode cX6_become 5 = .ok (.invokestatic 22, 3) := by decide +kernel
theorem dX6_become_8 : decode cX6_become 8 = .ok (.lstore 5, 2) := by decide +kernel
theorem dX6_become_10 : decode cX6_become 10 = .ok (.lload_n 3, 1) := by decide +kernel
theorem dX6_become_11 : decode cX6_become 11 = .ok (.lconst 1, 1) := by decide +kernel
theorem dX6_become_12 : decode cX6_become 12 = .ok (.lcmp, 1) := by decide +kernel
theorem dX6_become_13 : decode cX6_become 13 = .ok (.ifCond .lt 10, 3) := by decide +kernel
theorem dX6_become_16 : decode cX6_become 16 = .ok (.lload 5, 2) := by decide +kernel
theorem dX6_become_18 : decode cX6_become 18 = .ok (.lconst 1, 1) := by decide +kernel
theorem dX6_become_19 : decode cX6_become 19 = .ok (.lcmp, 1) := by decide +kernel
theorem dX6_become_20 : decode cX6_become 20 = .ok (.ifCond .ge 4, 3) := by decide +kernel
theorem dX6_become_23 : decode cX6_become 23 = .ok (.return_, 1) := by decide +kernel
theorem dX6_become_24 : decode cX6_become 24 = .ok (.aload_n 0, 1) := by decide +kernel
theorem dX6_become_25 : decode cX6_become 25 = .ok (.lload_n 1, 1) := by decide +kernel
theorem dX6_become_26 : decode cX6_become 26 = .ok (.lload 5, 2) := by decide +kernel
theorem dX6_become_28 : decode cX6_become 28 = .ok (.ldiv, 1) := by decide +kernel
theorem dX6_become_29 : decode cX6_become 29 = .ok (.putfield 7, 3) := by decide +kernel
theorem dX6_become_32 : decode cX6_become 32 = .ok (.aload_n 0, 1) := by decide +kernel
theorem dX6_become_33 : decode cX6_become 33 = .ok (.lload_n 3, 1) := by decide +kernel
theorem dX6_become_34 : decode cX6_become 34 = .ok (.lload 5, 2) := by decide +kernel
theorem dX6_become_36 : decode cX6_become 36 = .ok (.ldiv, 1) := by decide +kernel
theorem dX6_become_37 : decode cX6_become 37 = .ok (.putfield 13, 3) := by decide +kernel
theorem dX6_become_40 : decode cX6_become 40 = .ok (.return_, 1) := by decide +kernel
theorem dX6_add_0 : decode cX6_add 0 = .ok (.aload_n 0, 1) := by decide +kernel
theorem dX6_add_1 : decode cX6_add 1 = .ok (.getfield 13, 3) := by decide +kernel
theorem dX6_add_4 : decode cX6_add 4 = .ok (.lload_n 3, 1) := by decide +kernel
theorem dX6_add_5 : decode cX6_add 5 = .ok (.invokestatic 22, 3) := by decide +kernel
theorem dX6_add_8 : decode cX6_add 8 = .ok (.lstore 5, 2) := by decide +kernel
theorem dX6_add_10 : decode cX6_add 10 = .ok (.lload_n 3, 1) := by decide +kernel
theorem dX6_add_11 : decode cX6_add 11 = .ok (.lconst 1, 1) := by decide +kernel
theorem dX6_add_12 : decode cX6_add 12 = .ok (.lcmp, 1) := by decide +kernel
theorem dX6_add_13 : decode cX6_add 13 = .ok (.ifCond .lt 10, 3) := by decide +kernel
theorem dX6_add_16 : decode cX6_add 16 = .ok (.lload 5, 2) := by decide +kernel
theorem dX6_add_18 : decode cX6_add 18 = .ok (.lconst 1, 1) := by decide +kernel
theorem dX6_add_19 : decode cX6_add 19 = .ok (.lcmp, 1) := by decide +kernel
theorem dX6_add_20 : decode cX6_add 20 = .ok (.ifCond .ge 4, 3) := by decide +kernel
theorem dX6_add_23 : decode cX6_add 23 = .ok (.return_, 1) := by decide +kernel
theorem dX6_add_24 : decode cX6_add 24 = .ok (.aload_n 0, 1) := by decide +kernel
theorem dX6_add_25 : decode cX6_add 25 = .ok (.aload_n 0, 1) := by decide +kernel
theorem dX6_add_26 : decode cX6_add 26 = .ok (.getfield 7, 3) := by decide +kernel
theorem dX6_add_29 : decode cX6_add 29 = .ok (.lload_n 3, 1) := by decide +kernel
theorem dX6_add_30 : decode cX6_add 30 = .ok (.lload 5, 2) := by decide +kernel
theorem dX6_add_32 : decode cX6_add 32 = .ok (.ldiv, 1) := by decide +kernel
theorem dX6_add_33 : decode cX6_add 33 = .ok (.lmul, 1) := by decide +kernel
theorem dX6_add_34 : decode cX6_add 34 = .ok (.lload_n 1, 1) := by decide +kernel
theorem dX6_add_35 : decode cX6_add 35 = .ok (.aload_n 0, 1) := by decide +kernel
theorem dX6_add_36 : decode cX6_add 36 = .ok (.getfield 13, 3) := by decide +kernel
theorem dX6_add_39 : decode cX6_add 39 = .ok (.lload 5, 2) := by decide +kernel
theorem dX6_add_41 : decode cX6_add 41 = .ok (.ldiv, 1) := by decide +kernel
theorem dX6_add_42 : decode cX6_add 42 = .ok (.lmul, 1) := by decide +kernel
theorem dX6_add_43 : decode cX6_add 43 = .ok (.ladd, 1) := by decide +kernel
theorem dX6_add_44 : decode cX6_add 44 = .ok (.aload_n 0, 1) := by decide +kernel
theorem dX6_add_45 : decode cX6_add 45 = .ok (.getfield 13, 3) := by decide +kernel
theorem dX6_add_48 : decode cX6_add 48 = .ok (.lload 5, 2) := by decide +kernel
theorem dX6_add_50 : decode cX6_add 50 = .ok (.ldiv, 1) := by decide +kernel
theorem dX6_add_51 : decode cX6_add 51 = .ok (.lload_n 3, 1) := by decide +kernel
theorem dX6_add_52 : decode cX6_add 52 = .ok (.lmul, 1) := by decide +kernel
theorem dX6_add_53 : decode cX6_add 53 = .ok (.invokevirtual 26, 3) := by decide +kernel
theorem dX6_add_56 : decode cX6_add 56 = .ok (.return_, 1) := by decide +kernel
theorem dX6_part_0 : decode cX6_part 0 = .ok (.iload_n 1, 1) := by decide +kernel
theorem dX6_part_1 : decode cX6_part 1 = .ok (.iconst 2, 1) := by decide +kernel
theorem dX6_part_2 : decode cX6_part 2 = .ok (.irem, 1) := by decide +kernel
theorem dX6_part_3 : decode cX6_part 3 = .ok (.ifCond .ne 10, 3) := by decide +kernel
theorem dX6_part_6 : decode cX6_part 6 = .ok (.aload_n 0, 1) := by decide +kernel
theorem dX6_part_7 : decode cX6_part 7 = .ok (.getfield 7, 3) := by decide +kernel
theorem dX6_part_10 : decode cX6_part 10 = .ok (.goto 7, 3) := by decide +kernel
theorem dX6_part_13 : decode cX6_part 13 = .ok (.aload_n 0, 1) := by decide +kernel
theorem dX6_part_14 : decode cX6_part 14 = .ok (.getfield 13, 3) := by decide +kernel
theorem dX6_part_17 : decode cX6_part 17 = .ok (.lreturn, 1) := by decide +kernel
theorem dX6_commonOf_0 : decode cX6_commonOf 0 = .ok (.lload_n 0, 1) := by decide +kernel
theorem dX6_commonOf_1 : decode cX6_commonOf 1 = .ok (.lstore 4, 2) := by decide +kernel
theorem dX6_commonOf_3 : decode cX6_commonOf 3 = .ok (.lload_n 2, 1) := by decide +kernel
theorem dX6_commonOf_4 : decode cX6_commonOf 4 = .ok (.lstore 6, 2) := by decide +kernel
theorem dX6_commonOf_6 : decode cX6_commonOf 6 = .ok (.iconst 0, 1) := by decide +kernel
theorem dX6_commonOf_7 : decode cX6_commonOf 7 = .ok (.istore 8, 2) := by decide +kernel
theorem dX6_commonOf_9 : decode cX6_commonOf 9 = .ok (.iload 8, 2) := by decide +kernel
theorem dX6_commonOf_11 : decode cX6_commonOf 11 = .ok (.bipush 100, 2) := by decide +kernel
theorem dX6_commonOf_13 : decode cX6_commonOf 13 = .ok (.if_icmp .ge 31, 3) := by decide +kernel
theorem dX6_commonOf_16 : decode cX6_commonOf 16 = .ok (.lload 6, 2) := by decide +kernel
theorem dX6_commonOf_18 : decode cX6_commonOf 18 = .ok (.lconst 0, 1) := by decide +kernel
theorem dX6_commonOf_19 : decode cX6_commonOf 19 = .ok (.lcmp, 1) := by decide +kernel
theorem dX6_commonOf_20 : decode cX6_commonOf 20 = .ok (.ifCond .eq 24, 3) := by decide +kernel
theorem dX6_commonOf_23 : decode cX6_commonOf 23 = .ok (.lload 4, 2) := by decide +kernel
theorem dX6_commonOf_25 : decode cX6_commonOf 25 = .ok (.lload 6, 2) := by decide +kernel
theorem dX6_commonOf_27 : decode cX6_commonOf 27 = .ok (.lrem, 1) := by decide +kernel
theorem dX6_commonOf_28 : decode cX6_commonOf 28 = .ok (.lstore 9, 2) := by decide +kernel
theorem dX6_commonOf_30 : decode cX6_commonOf 30 = .ok (.lload 6, 2) := by decide +kernel
theorem dX6_commonOf_32 : decode cX6_commonOf 32 = .ok (.lstore 4, 2) := by decide +kernel
theorem dX6_commonOf_34 : decode cX6_commonOf 34 = .ok (.lload 9, 2) := by decide +kernel
theorem dX6_commonOf_36 : decode cX6_commonOf 36 = .ok (.lstore 6, 2) := by decide +kernel
theorem dX6_commonOf_38 : decode cX6_commonOf 38 = .ok (.iinc 8 1, 3) := by decide +kernel
theorem dX6_commonOf_41 : decode cX6_commonOf 41 = .ok (.goto (-32), 3) := by decide +kernel
theorem dX6_commonOf_44 : decode cX6_commonOf 44 = .ok (.lload 4, 2) := by decide +kernel
theorem dX6_commonOf_46 : decode cX6_commonOf 46 = .ok (.lreturn, 1) := by decide +kernel
theorem dX7_init_0 : decode cX7_init 0 = .ok (.aload_n 0, 1) := by decide +kernel
theorem dX7_init_1 : decode cX7_init 1 = .ok (.invokespecial 3, 3) := by decide +kernel
theorem dX7_init_4 : decode cX7_init 4 = .ok (.aload_n 0, 1) := by decide +kernel
theorem dX7_init_5 : decode cX7_init 5 = .ok (.iconst (-1), 1) := by decide +kernel
theorem dX7_init_6 : decode cX7_init 6 = .ok (.putfield 9, 3) := by decide +kernel
theorem dX7_init_9 : decode cX7_init 9 = .ok (.aload_n 0, 1) := by decide +kernel
theorem dX7_init_10 : decode cX7_init 10 = .ok (.iconst 0, 1) := by decide +kernel
theorem dX7_init_11 : decode cX7_init 11 = .ok (.putfield 15, 3) := by decide +kernel
theorem dX7_init_14 : decode cX7_init 14 = .ok (.aload_n 0, 1) := by decide +kernel
theorem dX7_init_15 : decode cX7_init 15 = .ok (.bipush 60, 2) := by decide +kernel
theorem dX7_init_17 : decode cX7_init 17 = .ok (.newarray .int, 2) := by decide +kernel
theorem dX7_init_19 : decode cX7_init 19 = .ok (.putfield 18, 3) := by decide +kernel
theorem dX7_init_22 : decode cX7_init 22 = .ok (.return_, 1) := by decide +kernel
theorem dX7_clear_0 : decode cX7_clear 0 = .ok (.aload_n 0, 1) := by decide +kernel
theorem dX7_clear_1 : decode cX7_clear 1 = .ok (.iload_n 1, 1) := by decide +kernel
theorem dX7_clear_2 : decode cX7_clear 2 = .ok (.putfield 15, 3) := by decide +kernel
theorem dX7_clear_5 : decode cX7_clear 5 = .ok (.aload_n 0, 1) := by decide +kernel
theorem dX7_clear_6 : decode cX7_clear 6 = .ok (.iload_n 2, 1) := by decide +kernel
theorem dX7_clear_7 : decode cX7_clear 7 = .ok (.putfield 9, 3) := by decide +kernel
theorem dX7_clear_10 : decode cX7_clear 10 = .ok (.iconst 0, 1) := by decide +kernel
theorem dX7_clear_11 : decode cX7_clear 11 = .ok (.istore_n 3, 1) := by decide +kernel
theorem dX7_clear_12 : decode cX7_clear 12 = .ok (.iload_n 3, 1) := by decide +kernel
theorem dX7_clear_13 : decode cX7_clear 13 = .ok (.bipush 60, 2) := by decide +kernel
theorem dX7_clear_15 : decode cX7_clear 15 = .ok (.if_icmp .ge 16, 3) := by decide +kernel
theorem dX7_clear_18 : decode cX7_clear 18 = .ok (.aload_n 0, 1) := by decide +kernel
theorem dX7_clear_19 : decode cX7_clear 19 = .ok (.getfield 18, 3) := by decide +kernel
theorem dX7_clear_22 : decode cX7_clear 22 = .ok (.iload_n 3, 1) := by decide +kernel
theorem dX7_clear_23 : decode cX7_clear 23 = .ok (.iconst 0, 1) := by decide +kernel
theorem dX7_clear_24 : decode cX7_clear 24 = .ok (.iastore, 1) := by decide +kernel
theorem dX7_clear_25 : decode cX7_clear 25 = .ok (.iinc 3 1, 3) := by decide +kernel
theorem dX7_clear_28 : decode cX7_clear 28 = .ok (.goto (-16), 3) := by decide +kernel
theorem dX7_clear_31 : decode cX7_clear 31 = .ok (.return_, 1) := by decide +kernel
theorem dX7_put_0 : decode cX7_put 0 = .ok (.aload_n 0, 1) := by decide +kernel
theorem dX7_put_1 : decode cX7_put 1 = .ok (.getfield 15, 3) := by decide +kernel
theorem dX7_put_4 : decode cX7_put 4 = .ok (.ifCond .ne 14, 3) := by decide +kernel
theorem dX7_put_7 : decode cX7_put 7 = .ok (.aload_n 0, 1) := by decide +kernel
theorem dX7_put_8 : decode cX7_put 8 = .ok (.getfield 18, 3) := by decide +kernel
theorem dX7_put_11 : decode cX7_put 11 = .ok (.iload_n 1, 1) := by decide +kernel
theorem dX7_put_12 : decode cX7_put 12 = .ok (.iload_n 2, 1) := by decide +kernel
theorem dX7_put_13 : decode cX7_put 13 = .ok (.i2b, 1) := by decide +kernel
theorem dX7_put_14 : decode cX7_put 14 = .ok (.iastore, 1) := by decide +kernel
theorem dX7_put_15 : decode cX7_put 15 = .ok (.goto 29, 3) := by decide +kernel
theorem dX7_put_18 : decode cX7_put 18 = .ok (.aload_n 0, 1) := by decide +kernel
theorem dX7_put_19 : decode cX7_put 19 = .ok (.getfield 15, 3) := by decide +kernel
theorem dX7_put_22 : decode cX7_put 22 = .ok (.iconst 1, 1) := by decide +kernel
theorem dX7_put_23 : decode cX7_put 23 = .ok (.if_icmp .ne 14, 3) := by decide +kernel
theorem dX7_put_26 : decode cX7_put 26 = .ok (.aload_n 0, 1) := by decide +kernel
theorem dX7_put_27 : decode cX7_put 27 = .ok (.getfield 18, 3) := by decide +kernel
theorem dX7_put_30 : decode cX7_put 30 = .ok (.iload_n 1, 1) := by decide +kernel
theorem dX7_put_31 : decode cX7_put 31 = .ok (.iload_n 2, 1) := by decide +kernel
theorem dX7_put_32 : decode cX7_put 32 = .ok (.i2s, 1) := by decide +kernel
theorem dX7_put_33 : decode cX7_put 33 = .ok (.iastore, 1) := by decide +kernel
theorem dX7_put_34 : decode cX7_put 34 = .ok (.goto 10, 3) := by decide +kernel
theorem dX7_put_37 : decode cX7_put 37 = .ok (.aload_n 0, 1) := by decide +kernel
theorem dX7_put_38 : decode cX7_put 38 = .ok (.getfield 18, 3) := by decide +kernel
theorem dX7_put_41 : decode cX7_put 41 = .ok (.iload_n 1, 1) := by decide +kernel
theorem dX7_put_42 : decode cX7_put 42 = .ok (.iload_n 2, 1) := by decide +kernel
theorem dX7_put_43 : decode cX7_put 43 = .ok (.iastore, 1) := by decide +kernel
theorem dX7_put_44 : decode cX7_put 44 = .ok (.return_, 1) := by decide +kernel
theorem dX7_faultAs_0 : decode cX7_faultAs 0 = .ok (.aload_n 0, 1) := by decide +kernel
theorem dX7_faultAs_1 : decode cX7_faultAs 1 = .ok (.getfield 9, 3) := by decide +kernel
theorem dX7_faultAs_4 : decode cX7_faultAs 4 = .ok (.ifCond .ge 5, 3) := by decide +kernel
theorem dX7_faultAs_7 : decode cX7_faultAs 7 = .ok (.iconst 1, 1) := by decide +kernel
theorem dX7_faultAs_8 : decode cX7_faultAs 8 = .ok (.ireturn, 1) := by decide +kernel
theorem dX7_faultAs_9 : decode cX7_faultAs 9 = .ok (.iload_n 1, 1) := by decide +kernel
theorem dX7_faultAs_10 : decode cX7_faultAs 10 = .ok (.aload_n 0, 1) := by decide +kernel
theorem dX7_faultAs_11 : decode cX7_faultAs 11 = .ok (.getfield 15, 3) := by decide +kernel
theorem dX7_faultAs_14 : decode cX7_faultAs 14 = .ok (.if_icmp .ne 7, 3) := by decide +kernel
theorem dX7_faultAs_17 : decode cX7_faultAs 17 = .ok (.iconst 0, 1) := by decide +kernel
theorem dX7_faultAs_18 : decode cX7_faultAs 18 = .ok (.goto 4, 3) := by decide +kernel
theorem dX7_faultAs_21 : decode cX7_faultAs 21 = .ok (.iconst 3, 1) := by decide +kernel
theorem dX7_faultAs_22 : decode cX7_faultAs 22 = .ok (.ireturn, 1) := by decide +kernel
theorem dX7_wholeMarriages_0 : decode cX7_wholeMarriages 0 = .ok (.iload_n 1, 1) := by decide +kernel
theorem dX7_wholeMarriages_1 : decode cX7_wholeMarriages 1 = .ok (.iconst 0, 1) := by decide +kernel
theorem dX7_wholeMarriages_2 : decode cX7_wholeMarriages 2 = .ok (.aload_n 0, 1) := by decide +kernel
theorem dX7_wholeMarriages_3 : decode cX7_wholeMarriages 3 = .ok (.getfield 9, 3) := by decide +kernel
theorem dX7_wholeMarriages_6 : decode cX7_wholeMarriages 6 = .ok (.invokestatic 22, 3) := by decide +kernel
theorem dX7_wholeMarriages_9 : decode cX7_wholeMarriages 9 = .ok (.ifCond .ne 5, 3) := by decide +kernel
theorem dX7_wholeMarriages_12 : decode cX7_wholeMarriages 12 = .ok (.iconst 0, 1) := by decide +kernel
theorem dX7_wholeMarriages_13 : decode cX7_wholeMarriages 13 = .ok (.ireturn, 1) := by decide +kernel
theorem dX7_wholeMarriages_14 : decode cX7_wholeMarriages 14 = .ok (.iload_n 2, 1) := by decide +kernel
theorem dX7_wholeMarriages_15 : decode cX7_wholeMarriages 15 = .ok (.aload_n 0, 1) := by decide +kernel
theorem dX7_wholeMarriages_16 : decode cX7_wholeMarriages 16 = .ok (.getfield 9, 3) := by decide +kernel
theorem dX7_wholeMarriages_19 : decode cX7_wholeMarriages 19 = .ok (.iload_n 1, 1) := by decide +kernel
theorem dX7_wholeMarriages_20 : decode cX7_wholeMarriages 20 = .ok (.isub, 1) := by decide +kernel
theorem dX7_wholeMarriages_21 : decode cX7_wholeMarriages 21 = .ok (.iconst 5, 1) := by decide +kernel
theorem dX7_wholeMarriages_22 : decode cX7_wholeMarriages 22 = .ok (.idiv, 1) := by decide +kernel
theorem dX7_wholeMarriages_23 : decode cX7_wholeMarriages 23 = .ok (.invokestatic 26, 3) := by decide +kernel
theorem dX7_wholeMarriages_26 : decode cX7_wholeMarriages 26 = .ok (.ireturn, 1) := by decide +kernel
theorem dX8_init_0 : decode cX8_init 0 = .ok (.aload_n 0, 1) := by decide +kernel
theorem dX8_init_1 : decode cX8_init 1 = .ok (.invokespecial 3, 3) := by decide +kernel
theorem dX8_init_4 : decode cX8_init 4 = .ok (.aload_n 0, 1) := by decide +kernel
theorem dX8_init_5 : decode cX8_init 5 = .ok (.bipush 15, 2) := by decide +kernel
theorem dX8_init_7 : decode cX8_init 7 = .ok (.newarray .int, 2) := by decide +kernel
theorem dX8_init_9 : decode cX8_init 9 = .ok (.putfield 9, 3) := by decide +kernel
theorem dX8_init_12 : decode cX8_init 12 = .ok (.aload_n 0, 1) := by decide +kernel
theorem dX8_init_13 : decode cX8_init 13 = .ok (.bipush 15, 2) := by decide +kernel
theorem dX8_init_15 : decode cX8_init 15 = .ok (.newarray .int, 2) := by decide +kernel
theorem dX8_init_17 : decode cX8_init 17 = .ok (.putfield 15, 3) := by decide +kernel
theorem dX8_init_20 : decode cX8_init 20 = .ok (.aload_n 0, 1) := by decide +kernel
theorem dX8_init_21 : decode cX8_init 21 = .ok (.iconst 0, 1) := by decide +kernel
theorem dX8_init_22 : decode cX8_init 22 = .ok (.putfield 18, 3) := by decide +kernel
theorem dX8_init_25 : decode cX8_init 25 = .ok (.return_, 1) := by decide +kernel
theorem dX8_clear_0 : decode cX8_clear 0 = .ok (.aload_n 0, 1) := by decide +kernel
theorem dX8_clear_1 : decode cX8_clear 1 = .ok (.iconst 0, 1) := by decide +kernel
theorem dX8_clear_2 : decode cX8_clear 2 = .ok (.putfield 18, 3) := by decide +kernel
theorem dX8_clear_5 : decode cX8_clear 5 = .ok (.iconst 0, 1) := by decide +kernel
theorem dX8_clear_6 : decode cX8_clear 6 = .ok (.istore_n 1, 1) := by decide +kernel
theorem dX8_clear_7 : decode cX8_clear 7 = .ok (.iload_n 1, 1) := by decide +kernel
theorem dX8_clear_8 : decode cX8_clear 8 = .ok (.bipush 15, 2) := by decide +kernel
theorem dX8_clear_10 : decode cX8_clear 10 = .ok (.if_icmp .ge 23, 3) := by decide +kernel
theorem dX8_clear_13 : decode cX8_clear 13 = .ok (.aload_n 0, 1) := by decide +kernel
theorem dX8_clear_14 : decode cX8_clear 14 = .ok (.getfield 9, 3) := by decide +kernel
theorem dX8_clear_17 : decode cX8_clear 17 = .ok (.iload_n 1, 1) := by decide +kernel
theorem dX8_clear_18 : decode cX8_clear 18 = .ok (.iconst 0, 1) := by decide +kernel
theorem dX8_clear_19 : decode cX8_clear 19 = .ok (.iastore, 1) := by decide +kernel
theorem dX8_clear_20 : decode cX8_clear 20 = .ok (.aload_n 0, 1) := by decide +kernel
theorem dX8_clear_21 : decode cX8_clear 21 = .ok (.getfield 15, 3) := by decide +kernel
theorem dX8_clear_24 : decode cX8_clear 24 = .ok (.iload_n 1, 1) := by decide +kernel
theorem dX8_clear_25 : decode cX8_clear 25 = .ok (.iconst 0, 1) := by decide +kernel
theorem dX8_clear_26 : decode cX8_clear 26 = .ok (.iastore, 1) := by decide +kernel
theorem dX8_clear_27 : decode cX8_clear 27 = .ok (.iinc 1 1, 3) := by decide +kernel
theorem dX8_clear_30 : decode cX8_clear 30 = .ok (.goto (-23), 3) := by decide +kernel
theorem dX8_clear_33 : decode cX8_clear 33 = .ok (.return_, 1) := by decide +kernel
theorem dX8_add_0 : decode cX8_add 0 = .ok (.aload_n 0, 1) := by decide +kernel
theorem dX8_add_1 : decode cX8_add 1 = .ok (.dup, 1) := by decide +kernel
theorem dX8_add_2 : decode cX8_add 2 = .ok (.getfield 18, 3) := by decide +kernel
theorem dX8_add_5 : decode cX8_add 5 = .ok (.iconst 1, 1) := by decide +kernel
theorem dX8_add_6 : decode cX8_add 6 = .ok (.iadd, 1) := by decide +kernel
theorem dX8_add_7 : decode cX8_add 7 = .ok (.putfield 18, 3) := by decide +kernel
theorem dX8_add_10 : decode cX8_add 10 = .ok (.aload_n 0, 1) := by decide +kernel
theorem dX8_add_11 : decode cX8_add 11 = .ok (.getfield 9, 3) := by decide +kernel
theorem dX8_add_14 : decode cX8_add 14 = .ok (.iload_n 1, 1) := by decide +kernel
theorem dX8_add_15 : decode cX8_add 15 = .ok (.dup2, 1) := by decide +kernel
theorem dX8_add_16 : decode cX8_add 16 = .ok (.iaload, 1) := by decide +kernel
theorem dX8_add_17 : decode cX8_add 17 = .ok (.iconst 1, 1) := by decide +kernel
theorem dX8_add_18 : decode cX8_add 18 = .ok (.iadd, 1) := by decide +kernel
theorem dX8_add_19 : decode cX8_add 19 = .ok (.iastore, 1) := by decide +kernel
theorem dX8_add_20 : decode cX8_add 20 = .ok (.iload_n 2, 1) := by decide +kernel
theorem dX8_add_21 : decode cX8_add 21 = .ok (.ifCond .eq 13, 3) := by decide +kernel
theorem dX8_add_24 : decode cX8_add 24 = .ok (.aload_n 0, 1) := by decide +kernel
theorem dX8_add_25 : decode cX8_add 25 = .ok (.getfield 15, 3) := by decide +kernel
theorem dX8_add_28 : decode cX8_add 28 = .ok (.iload_n 1, 1) := by decide +kernel
theorem dX8_add_29 : decode cX8_add 29 = .ok (.dup2, 1) := by decide +kernel
theorem dX8_add_30 : decode cX8_add 30 = .ok (.iaload, 1) := by decide +kernel
theorem dX8_add_31 : decode cX8_add 31 = .ok (.iconst 1, 1) := by decide +kernel
theorem dX8_add_32 : decode cX8_add 32 = .ok (.iadd, 1) := by decide +kernel
theorem dX8_add_33 : decode cX8_add 33 = .ok (.iastore, 1) := by decide +kernel
theorem dX8_add_34 : decode cX8_add 34 = .ok (.return_, 1) := by decide +kernel
theorem dX8_greatestShare_0 : decode cX8_greatestShare 0 = .ok (.iconst (-1), 1) := by decide +kernel
theorem dX8_greatestShare_1 : decode cX8_greatestShare 1 = .ok (.istore_n 2, 1) := by decide +kernel
theorem dX8_greatestShare_2 : decode cX8_greatestShare 2 = .ok (.iconst 0, 1) := by decide +kernel
theorem dX8_greatestShare_3 : decode cX8_greatestShare 3 = .ok (.istore_n 3, 1) := by decide +kernel
theorem dX8_greatestShare_4 : decode cX8_greatestShare 4 = .ok (.iload_n 3, 1) := by decide +kernel
theorem dX8_greatestShare_5 : decode cX8_greatestShare 5 = .ok (.bipush 15, 2) := by decide +kernel
theorem dX8_greatestShare_7 : decode cX8_greatestShare 7 = .ok (.if_icmp .ge 54, 3) := by decide +kernel
theorem dX8_greatestShare_10 : decode cX8_greatestShare 10 = .ok (.aload_n 0, 1) := by decide +kernel
theorem dX8_greatestShare_11 : decode cX8_greatestShare 11 = .ok (.getfield 9, 3) := by decide +kernel
theorem dX8_greatestShare_14 : decode cX8_greatestShare 14 = .ok (.iload_n 3, 1) := by decide +kernel
theorem dX8_greatestShare_15 : decode cX8_greatestShare 15 = .ok (.iaload, 1) := by decide +kernel
theorem dX8_greatestShare_16 : decode cX8_greatestShare 16 = .ok (.iload_n 1, 1) := by decide +kernel
theorem dX8_greatestShare_17 : decode cX8_greatestShare 17 = .ok (.if_icmp .lt 38, 3) := by decide +kernel
theorem dX8_greatestShare_20 : decode cX8_greatestShare 20 = .ok (.iload_n 2, 1) := by decide +kernel
theorem dX8_greatestShare_21 : decode cX8_greatestShare 21 = .ok (.ifCond .lt 32, 3) := by decide +kernel
theorem dX8_greatestShare_24 : decode cX8_greatestShare 24 = .ok (.aload_n 0, 1) := by decide +kernel
theorem dX8_greatestShare_25 : decode cX8_greatestShare 25 = .ok (.getfield 15, 3) := by decide +kernel
theorem dX8_greatestShare_28 : decode cX8_greatestShare 28 = .ok (.iload_n 3, 1) := by decide +kernel
theorem dX8_greatestShare_29 : decode cX8_greatestShare 29 = .ok (.iaload, 1) := by decide +kernel
theorem dX8_greatestShare_30 : decode cX8_greatestShare 30 = .ok (.aload_n 0, 1) := by decide +kernel
theorem dX8_greatestShare_31 : decode cX8_greatestShare 31 = .ok (.getfield 9, 3) := by decide +kernel
theorem dX8_greatestShare_34 : decode cX8_greatestShare 34 = .ok (.iload_n 2, 1) := by decide +kernel
theorem dX8_greatestShare_35 : decode cX8_greatestShare 35 = .ok (.iaload, 1) := by decide +kernel
theorem dX8_greatestShare_36 : decode cX8_greatestShare 36 = .ok (.imul, 1) := by decide +kernel
theorem dX8_greatestShare_37 : decode cX8_greatestShare 37 = .ok (.aload_n 0, 1) := by decide +kernel
theorem dX8_greatestShare_38 : decode cX8_greatestShare 38 = .ok (.getfield 15, 3) := by decide +kernel
theorem dX8_greatestShare_41 : decode cX8_greatestShare 41 = .ok (.iload_n 2, 1) := by decide +kernel
theorem dX8_greatestShare_42 : decode cX8_greatestShare 42 = .ok (.iaload, 1) := by decide +kernel
theorem dX8_greatestShare_43 : decode cX8_greatestShare 43 = .ok (.aload_n 0, 1) := by decide +kernel
theorem dX8_greatestShare_44 : decode cX8_greatestShare 44 = .ok (.getfield 9, 3) := by decide +kernel
theorem dX8_greatestShare_47 : decode cX8_greatestShare 47 = .ok (.iload_n 3, 1) := by decide +kernel
theorem dX8_greatestShare_48 : decode cX8_greatestShare 48 = .ok (.iaload, 1) := by decide +kernel
theorem dX8_greatestShare_49 : decode cX8_greatestShare 49 = .ok (.imul, 1) := by decide +kernel
theorem dX8_greatestShare_50 : decode cX8_greatestShare 50 = .ok (.if_icmp .le 5, 3) := by decide +kernel
theorem dX8_greatestShare_53 : decode cX8_greatestShare 53 = .ok (.iload_n 3, 1) := by decide +kernel
theorem dX8_greatestShare_54 : decode cX8_greatestShare 54 = .ok (.istore_n 2, 1) := by decide +kernel
theorem dX8_greatestShare_55 : decode cX8_greatestShare 55 = .ok (.iinc 3 1, 3) := by decide +kernel
theorem dX8_greatestShare_58 : decode cX8_greatestShare 58 = .ok (.goto (-54), 3) := by decide +kernel
theorem dX8_greatestShare_61 : decode cX8_greatestShare 61 = .ok (.iload_n 2, 1) := by decide +kernel
theorem dX8_greatestShare_62 : decode cX8_greatestShare 62 = .ok (.ireturn, 1) := by decide +kernel
theorem dX8_mostMarks_0 : decode cX8_mostMarks 0 = .ok (.iconst 0, 1) := by decide +kernel
theorem dX8_mostMarks_1 : decode cX8_mostMarks 1 = .ok (.istore_n 1, 1) := by decide +kernel
theorem dX8_mostMarks_2 : decode cX8_mostMarks 2 = .ok (.iconst 1, 1) := by decide +kernel
theorem dX8_mostMarks_3 : decode cX8_mostMarks 3 = .ok (.istore_n 2, 1) := by decide +kernel
theorem dX8_mostMarks_4 : decode cX8_mostMarks 4 = .ok (.iload_n 2, 1) := by decide +kernel
theorem dX8_mostMarks_5 : decode cX8_mostMarks 5 = .ok (.bipush 15, 2) := by decide +kernel
theorem dX8_mostMarks_7 : decode cX8_mostMarks 7 = .ok (.if_icmp .ge 26, 3) := by decide +kernel
theorem dX8_mostMarks_10 : decode cX8_mostMarks 10 = .ok (.aload_n 0, 1) := by decide +kernel
theorem dX8_mostMarks_11 : decode cX8_mostMarks 11 = .ok (.getfield 9, 3) := by decide +kernel
theorem dX8_mostMarks_14 : decode cX8_mostMarks 14 = .ok (.iload_n 2, 1) := by decide +kernel
theorem dX8_mostMarks_15 : decode cX8_mostMarks 15 = .ok (.iaload, 1) := by decide +kernel
theorem dX8_mostMarks_16 : decode cX8_mostMarks 16 = .ok (.aload_n 0, 1) := by decide +kernel
theorem dX8_mostMarks_17 : decode cX8_mostMarks 17 = .ok (.getfield 9, 3) := by decide +kernel
theorem dX8_mostMarks_20 : decode cX8_mostMarks 20 = .ok (.iload_n 1, 1) := by decide +kernel
theorem dX8_mostMarks_21 : decode cX8_mostMarks 21 = .ok (.iaload, 1) := by decide +kernel
theorem dX8_mostMarks_22 : decode cX8_mostMarks 22 = .ok (.if_icmp .le 5, 3) := by decide +kernel
theorem dX8_mostMarks_25 : decode cX8_mostMarks 25 = .ok (.iload_n 2, 1) := by decide +kernel
theorem dX8_mostMarks_26 : decode cX8_mostMarks 26 = .ok (.istore_n 1, 1) := by decide +kernel
theorem dX8_mostMarks_27 : decode cX8_mostMarks 27 = .ok (.iinc 2 1, 3) := by decide +kernel
theorem dX8_mostMarks_30 : decode cX8_mostMarks 30 = .ok (.goto (-26), 3) := by decide +kernel
theorem dX8_mostMarks_33 : decode cX8_mostMarks 33 = .ok (.iload_n 1, 1) := by decide +kernel
theorem dX8_mostMarks_34 : decode cX8_mostMarks 34 = .ok (.ireturn, 1) := by decide +kernel
theorem dX9_init_0 : decode cX9_init 0 = .ok (.aload_n 0, 1) := by decide +kernel
theorem dX9_init_1 : decode cX9_init 1 = .ok (.invokespecial 3, 3) := by decide +kernel
theorem dX9_init_4 : decode cX9_init 4 = .ok (.aload_n 0, 1) := by decide +kernel
theorem dX9_init_5 : decode cX9_init 5 = .ok (.sipush 320, 3) := by decide +kernel
theorem dX9_init_8 : decode cX9_init 8 = .ok (.newarray .byte, 2) := by decide +kernel
theorem dX9_init_10 : decode cX9_init 10 = .ok (.putfield 9, 3) := by decide +kernel
theorem dX9_init_13 : decode cX9_init 13 = .ok (.aload_n 0, 1) := by decide +kernel
theorem dX9_init_14 : decode cX9_init 14 = .ok (.iconst 0, 1) := by decide +kernel
theorem dX9_init_15 : decode cX9_init 15 = .ok (.putfield 15, 3) := by decide +kernel
theorem dX9_init_18 : decode cX9_init 18 = .ok (.return_, 1) := by decide +kernel
theorem dX9_append_0 : decode cX9_append 0 = .ok (.aload_n 0, 1) := by decide +kernel
theorem dX9_append_1 : decode cX9_append 1 = .ok (.getfield 15, 3) := by decide +kernel
theorem dX9_append_4 : decode cX9_append 4 = .ok (.bipush 8, 2) := by decide +kernel
theorem dX9_append_6 : decode cX9_append 6 = .ok (.iadd, 1) := by decide +kernel
theorem dX9_append_7 : decode cX9_append 7 = .ok (.sipush 320, 3) := by decide +kernel
theorem dX9_append_10 : decode cX9_append 10 = .ok (.if_icmp .le 5, 3) := by decide +kernel
theorem dX9_append_13 : decode cX9_append 13 = .ok (.iconst 0, 1) := by decide +kernel
theorem dX9_append_14 : decode cX9_append 14 = .ok (.ireturn, 1) := by decide +kernel
theorem dX9_append_15 : decode cX9_append 15 = .ok (.bipush 56, 2) := by decide +kernel
theorem dX9_append_17 : decode cX9_append 17 = .ok (.istore_n 3, 1) := by decide +kernel
theorem dX9_append_18 : decode cX9_append 18 = .ok (.iload_n 3, 1) := by decide +kernel
theorem dX9_append_19 : decode cX9_append 19 = .ok (.ifCond .lt 33, 3) := by decide +kernel
theorem dX9_append_22 : decode cX9_append 22 = .ok (.aload_n 0, 1) := by decide +kernel
theorem dX9_append_23 : decode cX9_append 23 = .ok (.getfield 9, 3) := by decide +kernel
theorem dX9_append_26 : decode cX9_append 26 = .ok (.aload_n 0, 1) := by decide +kernel
theorem dX9_append_27 : decode cX9_append 27 = .ok (.getfield 15, 3) := by decide +kernel
theorem dX9_append_30 : decode cX9_append 30 = .ok (.lload_n 1, 1) := by decide +kernel
theorem dX9_append_31 : decode cX9_append 31 = .ok (.iload_n 3, 1) := by decide +kernel
theorem dX9_append_32 : decode cX9_append 32 = .ok (.lshr, 1) := by decide +kernel
theorem dX9_append_33 : decode cX9_append 33 = .ok (.l2i, 1) := by decide +kernel
theorem dX9_append_34 : decode cX9_append 34 = .ok (.i2b, 1) := by decide +kernel
theorem dX9_append_35 : decode cX9_append 35 = .ok (.bastore, 1) := by decide +kernel
theorem dX9_append_36 : decode cX9_append 36 = .ok (.aload_n 0, 1) := by decide +kernel
theorem dX9_append_37 : decode cX9_append 37 = .ok (.dup, 1) := by decide +kernel
theorem dX9_append_38 : decode cX9_append 38 = .ok (.getfield 15, 3) := by decide +kernel
theorem dX9_append_41 : decode cX9_append 41 = .ok (.iconst 1, 1) := by decide +kernel
theorem dX9_append_42 : decode cX9_append 42 = .ok (.iadd, 1) := by decide +kernel
theorem dX9_append_43 : decode cX9_append 43 = .ok (.putfield 15, 3) := by decide +kernel
theorem dX9_append_46 : decode cX9_append 46 = .ok (.iinc 3 (-8), 3) := by decide +kernel
theorem dX9_append_49 : decode cX9_append 49 = .ok (.goto (-31), 3) := by decide +kernel
theorem dX9_append_52 : decode cX9_append 52 = .ok (.iconst 1, 1) := by decide +kernel
theorem dX9_append_53 : decode cX9_append 53 = .ok (.ireturn, 1) := by decide +kernel
theorem dJ6_bitCount_0f7a4_0 : decode cJ6_bitCount_0f7a4 0 = .ok (.iload_n 0, 1) := by decide +kernel
theorem dJ6_bitCount_0f7a4_1 : decode cJ6_bitCount_0f7a4 1 = .ok (.iload_n 0, 1) := by decide +kernel
theorem dJ6_bitCount_0f7a4_2 : decode cJ6_bitCount_0f7a4 2 = .ok (.iconst 1, 1) := by decide +kernel
theorem dJ6_bitCount_0f7a4_3 : decode cJ6_bitCount_0f7a4 3 = .ok (.iushr, 1) := by decide +kernel
theorem dJ6_bitCount_0f7a4_4 : decode cJ6_bitCount_0f7a4 4 = .ok (.ldc_w 265, 3) := by decide +kernel
theorem dJ6_bitCount_0f7a4_7 : decode cJ6_bitCount_0f7a4 7 = .ok (.iand, 1) := by decide +kernel
theorem dJ6_bitCount_0f7a4_8 : decode cJ6_bitCount_0f7a4 8 = .ok (.isub, 1) := by decide +kernel
theorem dJ6_bitCount_0f7a4_9 : decode cJ6_bitCount_0f7a4 9 = .ok (.istore_n 0, 1) := by decide +kernel
theorem dJ6_bitCount_0f7a4_10 : decode cJ6_bitCount_0f7a4 10 = .ok (.iload_n 0, 1) := by decide +kernel
theorem dJ6_bitCount_0f7a4_11 : decode cJ6_bitCount_0f7a4 11 = .ok (.ldc_w 266, 3) := by decide +kernel
theorem dJ6_bitCount_0f7a4_14 : decode cJ6_bitCount_0f7a4 14 = .ok (.iand, 1) := by decide +kernel
theorem dJ6_bitCount_0f7a4_15 : decode cJ6_bitCount_0f7a4 15 = .ok (.iload_n 0, 1) := by decide +kernel
theorem dJ6_bitCount_0f7a4_16 : decode cJ6_bitCount_0f7a4 16 = .ok (.iconst 2, 1) := by decide +kernel
theorem dJ6_bitCount_0f7a4_17 : decode cJ6_bitCount_0f7a4 17 = .ok (.iushr, 1) := by decide +kernel
theorem dJ6_bitCount_0f7a4_18 : decode cJ6_bitCount_0f7a4 18 = .ok (.ldc_w 266, 3) := by decide +kernel
theorem dJ6_bitCount_0f7a4_21 : decode cJ6_bitCount_0f7a4 21 = .ok (.iand, 1) := by decide +kernel
theorem dJ6_bitCount_0f7a4_22 : decode cJ6_bitCount_0f7a4 22 = .ok (.iadd, 1) := by decide +kernel
theorem dJ6_bitCount_0f7a4_23 : decode cJ6_bitCount_0f7a4 23 = .ok (.istore_n 0, 1) := by decide +kernel
theorem dJ6_bitCount_0f7a4_24 : decode cJ6_bitCount_0f7a4 24 = .ok (.iload_n 0, 1) := by decide +kernel
theorem dJ6_bitCount_0f7a4_25 : decode cJ6_bitCount_0f7a4 25 = .ok (.iload_n 0, 1) := by decide +kernel
theorem dJ6_bitCount_0f7a4_26 : decode cJ6_bitCount_0f7a4 26 = .ok (.iconst 4, 1) := by decide +kernel
theorem dJ6_bitCount_0f7a4_27 : decode cJ6_bitCount_0f7a4 27 = .ok (.iushr, 1) := by decide +kernel
theorem dJ6_bitCount_0f7a4_28 : decode cJ6_bitCount_0f7a4 28 = .ok (.iadd, 1) := by decide +kernel
theorem dJ6_bitCount_0f7a4_29 : decode cJ6_bitCount_0f7a4 29 = .ok (.ldc_w 267, 3) := by decide +kernel
theorem dJ6_bitCount_0f7a4_32 : decode cJ6_bitCount_0f7a4 32 = .ok (.iand, 1) := by decide +kernel
theorem dJ6_bitCount_0f7a4_33 : decode cJ6_bitCount_0f7a4 33 = .ok (.istore_n 0, 1) := by decide +kernel
theorem dJ6_bitCount_0f7a4_34 : decode cJ6_bitCount_0f7a4 34 = .ok (.iload_n 0, 1) := by decide +kernel
theorem dJ6_bitCount_0f7a4_35 : decode cJ6_bitCount_0f7a4 35 = .ok (.iload_n 0, 1) := by decide +kernel
theorem dJ6_bitCount_0f7a4_36 : decode cJ6_bitCount_0f7a4 36 = .ok (.bipush 8, 2) := by decide +kernel
theorem dJ6_bitCount_0f7a4_38 : decode cJ6_bitCount_0f7a4 38 = .ok (.iushr, 1) := by decide +kernel
theorem dJ6_bitCount_0f7a4_39 : decode cJ6_bitCount_0f7a4 39 = .ok (.iadd, 1) := by decide +kernel
theorem dJ6_bitCount_0f7a4_40 : decode cJ6_bitCount_0f7a4 40 = .ok (.istore_n 0, 1) := by decide +kernel
theorem dJ6_bitCount_0f7a4_41 : decode cJ6_bitCount_0f7a4 41 = .ok (.iload_n 0, 1) := by decide +kernel
theorem dJ6_bitCount_0f7a4_42 : decode cJ6_bitCount_0f7a4 42 = .ok (.iload_n 0, 1) := by decide +kernel
theorem dJ6_bitCount_0f7a4_43 : decode cJ6_bitCount_0f7a4 43 = .ok (.bipush 16, 2) := by decide +kernel
theorem dJ6_bitCount_0f7a4_45 : decode cJ6_bitCount_0f7a4 45 = .ok (.iushr, 1) := by decide +kernel
theorem dJ6_bitCount_0f7a4_46 : decode cJ6_bitCount_0f7a4 46 = .ok (.iadd, 1) := by decide +kernel
theorem dJ6_bitCount_0f7a4_47 : decode cJ6_bitCount_0f7a4 47 = .ok (.istore_n 0, 1) := by decide +kernel
theorem dJ6_bitCount_0f7a4_48 : decode cJ6_bitCount_0f7a4 48 = .ok (.iload_n 0, 1) := by decide +kernel
theorem dJ6_bitCount_0f7a4_49 : decode cJ6_bitCount_0f7a4 49 = .ok (.bipush 63, 2) := by decide +kernel
theorem dJ6_bitCount_0f7a4_51 : decode cJ6_bitCount_0f7a4 51 = .ok (.iand, 1) := by decide +kernel
theorem dJ6_bitCount_0f7a4_52 : decode cJ6_bitCount_0f7a4 52 = .ok (.ireturn, 1) := by decide +kernel
theorem dJ9_abs_067f4_0 : decode cJ9_abs_067f4 0 = .ok (.lload_n 0, 1) := by decide +kernel
theorem dJ9_abs_067f4_1 : decode cJ9_abs_067f4 1 = .ok (.lconst 0, 1) := by decide +kernel
theorem dJ9_abs_067f4_2 : decode cJ9_abs_067f4 2 = .ok (.lcmp, 1) := by decide +kernel
theorem dJ9_abs_067f4_3 : decode cJ9_abs_067f4 3 = .ok (.ifCond .ge 8, 3) := by decide +kernel
theorem dJ9_abs_067f4_6 : decode cJ9_abs_067f4 6 = .ok (.lload_n 0, 1) := by decide +kernel
theorem dJ9_abs_067f4_7 : decode cJ9_abs_067f4 7 = .ok (.lneg, 1) := by decide +kernel
theorem dJ9_abs_067f4_8 : decode cJ9_abs_067f4 8 = .ok (.goto 4, 3) := by decide +kernel
theorem dJ9_abs_067f4_11 : decode cJ9_abs_067f4 11 = .ok (.lload_n 0, 1) := by decide +kernel
theorem dJ9_abs_067f4_12 : decode cJ9_abs_067f4 12 = .ok (.lreturn, 1) := by decide +kernel
theorem dJ9_max_7cf53_0 : decode cJ9_max_7cf53 0 = .ok (.iload_n 0, 1) := by decide +kernel
theorem dJ9_max_7cf53_1 : decode cJ9_max_7cf53 1 = .ok (.iload_n 1, 1) := by decide +kernel
theorem dJ9_max_7cf53_2 : decode cJ9_max_7cf53 2 = .ok (.if_icmp .lt 7, 3) := by decide +kernel
theorem dJ9_max_7cf53_5 : decode cJ9_max_7cf53 5 = .ok (.iload_n 0, 1) := by decide +kernel
theorem dJ9_max_7cf53_6 : decode cJ9_max_7cf53 6 = .ok (.goto 4, 3) := by decide +kernel
theorem dJ9_max_7cf53_9 : decode cJ9_max_7cf53 9 = .ok (.iload_n 1, 1) := by decide +kernel
theorem dJ9_max_7cf53_10 : decode cJ9_max_7cf53 10 = .ok (.ireturn, 1) := by decide +kernel
theorem dJ9_min_7cf53_0 : decode cJ9_min_7cf53 0 = .ok (.iload_n 0, 1) := by decide +kernel
theorem dJ9_min_7cf53_1 : decode cJ9_min_7cf53 1 = .ok (.iload_n 1, 1) := by decide +kernel
theorem dJ9_min_7cf53_2 : decode cJ9_min_7cf53 2 = .ok (.if_icmp .gt 7, 3) := by decide +kernel
theorem dJ9_min_7cf53_5 : decode cJ9_min_7cf53 5 = .ok (.iload_n 0, 1) := by decide +kernel
theorem dJ9_min_7cf53_6 : decode cJ9_min_7cf53 6 = .ok (.goto 4, 3) := by decide +kernel
theorem dJ9_min_7cf53_9 : decode cJ9_min_7cf53 9 = .ok (.iload_n 1, 1) := by decide +kernel
theorem dJ9_min_7cf53_10 : decode cJ9_min_7cf53 10 = .ok (.ireturn, 1) := by decide +kernel
theorem dJ0_length_8abf5_0 : decode cJ0_length_8abf5 0 = .ok (.aload_n 0, 1) := by decide +kernel
theorem dJ0_length_8abf5_1 : decode cJ0_length_8abf5 1 = .ok (.getfield 9, 3) := by decide +kernel
theorem dJ0_length_8abf5_4 : decode cJ0_length_8abf5 4 = .ok (.arraylength, 1) := by decide +kernel
theorem dJ0_length_8abf5_5 : decode cJ0_length_8abf5 5 = .ok (.aload_n 0, 1) := by decide +kernel
theorem dJ0_length_8abf5_6 : decode cJ0_length_8abf5 6 = .ok (.invokevirtual 335, 3) := by decide +kernel
theorem dJ0_length_8abf5_9 : decode cJ0_length_8abf5 9 = .ok (.ishr, 1) := by decide +kernel
theorem dJ0_length_8abf5_10 : decode cJ0_length_8abf5 10 = .ok (.ireturn, 1) := by decide +kernel
theorem dJ0_charAt_5068e_0 : decode cJ0_charAt_5068e 0 = .ok (.aload_n 0, 1) := by decide +kernel
theorem dJ0_charAt_5068e_1 : decode cJ0_charAt_5068e 1 = .ok (.invokevirtual 492, 3) := by decide +kernel
theorem dJ0_charAt_5068e_4 : decode cJ0_charAt_5068e 4 = .ok (.ifCond .eq 12, 3) := by decide +kernel
theorem dJ0_charAt_5068e_7 : decode cJ0_charAt_5068e 7 = .ok (.aload_n 0, 1) := by decide +kernel
theorem dJ0_charAt_5068e_8 : decode cJ0_charAt_5068e 8 = .ok (.getfield 9, 3) := by decide +kernel
theorem dJ0_charAt_5068e_11 : decode cJ0_charAt_5068e 11 = .ok (.iload_n 1, 1) := by decide +kernel
theorem dJ0_charAt_5068e_12 : decode cJ0_charAt_5068e 12 = .ok (.invokestatic 495, 3) := by decide +kernel
theorem dJ0_charAt_5068e_15 : decode cJ0_charAt_5068e 15 = .ok (.ireturn, 1) := by decide +kernel
theorem dJ0_charAt_5068e_16 : decode cJ0_charAt_5068e 16 = .ok (.aload_n 0, 1) := by decide +kernel
theorem dJ0_charAt_5068e_17 : decode cJ0_charAt_5068e 17 = .ok (.getfield 9, 3) := by decide +kernel
theorem dJ0_charAt_5068e_20 : decode cJ0_charAt_5068e 20 = .ok (.iload_n 1, 1) := by decide +kernel
theorem dJ0_charAt_5068e_21 : decode cJ0_charAt_5068e 21 = .ok (.invokestatic 498, 3) := by decide +kernel
theorem dJ0_charAt_5068e_24 : decode cJ0_charAt_5068e 24 = .ok (.ireturn, 1) := by decide +kernel
theorem dJ0_coder_7d493_0 : decode cJ0_coder_7d493 0 = .ok (.getstatic 38, 3) := by decide +kernel
theorem dJ0_coder_7d493_3 : decode cJ0_coder_7d493 3 = .ok (.ifCond .eq 10, 3) := by decide +kernel
theorem dJ0_coder_7d493_6 : decode cJ0_coder_7d493 6 = .ok (.aload_n 0, 1) := by decide +kernel
theorem dJ0_coder_7d493_7 : decode cJ0_coder_7d493 7 = .ok (.getfield 15, 3) := by decide +kernel
theorem dJ0_coder_7d493_10 : decode cJ0_coder_7d493 10 = .ok (.goto 4, 3) := by decide +kernel
theorem dJ0_coder_7d493_13 : decode cJ0_coder_7d493 13 = .ok (.iconst 1, 1) := by decide +kernel
theorem dJ0_coder_7d493_14 : decode cJ0_coder_7d493 14 = .ok (.ireturn, 1) := by decide +kernel
theorem dJ0_isLatin1_aae02_0 : decode cJ0_isLatin1_aae02 0 = .ok (.getstatic 38, 3) := by decide +kernel
theorem dJ0_isLatin1_aae02_3 : decode cJ0_isLatin1_aae02 3 = .ok (.ifCond .eq 14, 3) := by decide +kernel
theorem dJ0_isLatin1_aae02_6 : decode cJ0_isLatin1_aae02 6 = .ok (.aload_n 0, 1) := by decide +kernel
theorem dJ0_isLatin1_aae02_7 : decode cJ0_isLatin1_aae02 7 = .ok (.getfield 15, 3) := by decide +kernel
theorem dJ0_isLatin1_aae02_10 : decode cJ0_isLatin1_aae02 10 = .ok (.ifCond .ne 7, 3) := by decide +kernel
theorem dJ0_isLatin1_aae02_13 : decode cJ0_isLatin1_aae02 13 = .ok (.iconst 1, 1) := by decide +kernel
theorem dJ0_isLatin1_aae02_14 : decode cJ0_isLatin1_aae02 14 = .ok (.goto 4, 3) := by decide +kernel
theorem dJ0_isLatin1_aae02_17 : decode cJ0_isLatin1_aae02 17 = .ok (.iconst 0, 1) := by decide +kernel
theorem dJ0_isLatin1_aae02_18 : decode cJ0_isLatin1_aae02 18 = .ok (.ireturn, 1) := by decide +kernel
theorem dJ0_checkIndex_df160_0 : decode cJ0_checkIndex_df160 0 = .ok (.iload_n 0, 1) := by decide +kernel
theorem dJ0_checkIndex_df160_1 : decode cJ0_checkIndex_df160 1 = .ok (.iload_n 1, 1) := by decide +kernel
theorem dJ0_checkIndex_df160_2 : decode cJ0_checkIndex_df160 2 = .ok (.getstatic 1053, 3) := by decide +kernel
theorem dJ0_checkIndex_df160_5 : decode cJ0_checkIndex_df160 5 = .ok (.invokestatic 1059, 3) := by decide +kernel
theorem dJ0_checkIndex_df160_8 : decode cJ0_checkIndex_df160 8 = .ok (.pop, 1) := by decide +kernel
theorem dJ0_checkIndex_df160_9 : decode cJ0_checkIndex_df160 9 = .ok (.return_, 1) := by decide +kernel
theorem dJ1_charAt_3b067_0 : decode cJ1_charAt_3b067 0 = .ok (.iload_n 1, 1) := by decide +kernel
theorem dJ1_charAt_3b067_1 : decode cJ1_charAt_3b067 1 = .ok (.aload_n 0, 1) := by decide +kernel
theorem dJ1_charAt_3b067_2 : decode cJ1_charAt_3b067 2 = .ok (.arraylength, 1) := by decide +kernel
theorem dJ1_charAt_3b067_3 : decode cJ1_charAt_3b067 3 = .ok (.invokestatic 9, 3) := by decide +kernel
theorem dJ1_charAt_3b067_6 : decode cJ1_charAt_3b067 6 = .ok (.aload_n 0, 1) := by decide +kernel
theorem dJ1_charAt_3b067_7 : decode cJ1_charAt_3b067 7 = .ok (.iload_n 1, 1) := by decide +kernel
theorem dJ1_charAt_3b067_8 : decode cJ1_charAt_3b067 8 = .ok (.baload, 1) := by decide +kernel
theorem dJ1_charAt_3b067_9 : decode cJ1_charAt_3b067 9 = .ok (.sipush 255, 3) := by decide +kernel
theorem dJ1_charAt_3b067_12 : decode cJ1_charAt_3b067 12 = .ok (.iand, 1) := by decide +kernel
theorem dJ1_charAt_3b067_13 : decode cJ1_charAt_3b067 13 = .ok (.i2c, 1) := by decide +kernel
theorem dJ1_charAt_3b067_14 : decode cJ1_charAt_3b067 14 = .ok (.ireturn, 1) := by decide +kernel
theorem dJ2_getChar_3b067_0 : decode cJ2_getChar_3b067 0 = .ok (.getstatic 44, 3) := by decide +kernel
theorem dJ2_getChar_3b067_3 : decode cJ2_getChar_3b067 3 = .ok (.ifCond .ne 25, 3) := by decide +kernel
theorem dJ2_getChar_3b067_6 : decode cJ2_getChar_3b067 6 = .ok (.iload_n 1, 1) := by decide +kernel
theorem dJ2_getChar_3b067_7 : decode cJ2_getChar_3b067 7 = .ok (.ifCond .lt 11, 3) := by decide +kernel
theorem dJ2_getChar_3b067_10 : decode cJ2_getChar_3b067 10 = .ok (.iload_n 1, 1) := by decide +kernel
theorem dJ2_getChar_3b067_11 : decode cJ2_getChar_3b067 11 = .ok (.aload_n 0, 1) := by decide +kernel
theorem dJ2_getChar_3b067_12 : decode cJ2_getChar_3b067 12 = .ok (.invokestatic 48, 3) := by decide +kernel
theorem dJ2_getChar_3b067_15 : decode cJ2_getChar_3b067 15 = .ok (.if_icmp .lt 13, 3) := by decide +kernel
theorem dJ2_getChar_3b067_18 : decode cJ2_getChar_3b067 18 = .ok (.new 52, 3) := by decide +kernel
theorem dJ2_getChar_3b067_21 : decode cJ2_getChar_3b067 21 = .ok (.dup, 1) := by decide +kernel
theorem dJ2_getChar_3b067_22 : decode cJ2_getChar_3b067 22 = .ok (.ldc 54, 2) := by decide +kernel
theorem dJ2_getChar_3b067_24 : decode cJ2_getChar_3b067 24 = .ok (.invokespecial 56, 3) := by decide +kernel
theorem dJ2_getChar_3b067_27 : decode cJ2_getChar_3b067 27 = .ok (.athrow, 1) := by decide +kernel
theorem dJ2_getChar_3b067_28 : decode cJ2_getChar_3b067 28 = .ok (.iload_n 1, 1) := by decide +kernel
theorem dJ2_getChar_3b067_29 : decode cJ2_getChar_3b067 29 = .ok (.iconst 1, 1) := by decide +kernel
theorem dJ2_getChar_3b067_30 : decode cJ2_getChar_3b067 30 = .ok (.ishl, 1) := by decide +kernel
theorem dJ2_getChar_3b067_31 : decode cJ2_getChar_3b067 31 = .ok (.istore_n 1, 1) := by decide +kernel
theorem dJ2_getChar_3b067_32 : decode cJ2_getChar_3b067 32 = .ok (.aload_n 0, 1) := by decide +kernel
theorem dJ2_getChar_3b067_33 : decode cJ2_getChar_3b067 33 = .ok (.iload_n 1, 1) := by decide +kernel
theorem dJ2_getChar_3b067_34 : decode cJ2_getChar_3b067 34 = .ok (.iinc 1 1, 3) := by decide +kernel
theorem dJ2_getChar_3b067_37 : decode cJ2_getChar_3b067 37 = .ok (.baload, 1) := by decide +kernel
theorem dJ2_getChar_3b067_38 : decode cJ2_getChar_3b067 38 = .ok (.sipush 255, 3) := by decide +kernel
theorem dJ2_getChar_3b067_41 : decode cJ2_getChar_3b067 41 = .ok (.iand, 1) := by decide +kernel
theorem dJ2_getChar_3b067_42 : decode cJ2_getChar_3b067 42 = .ok (.getstatic 59, 3) := by decide +kernel
theorem dJ2_getChar_3b067_45 : decode cJ2_getChar_3b067 45 = .ok (.ishl, 1) := by decide +kernel
theorem dJ2_getChar_3b067_46 : decode cJ2_getChar_3b067 46 = .ok (.aload_n 0, 1) := by decide +kernel
theorem dJ2_getChar_3b067_47 : decode cJ2_getChar_3b067 47 = .ok (.iload_n 1, 1) := by decide +kernel
theorem dJ2_getChar_3b067_48 : decode cJ2_getChar_3b067 48 = .ok (.baload, 1) := by decide +kernel
theorem dJ2_getChar_3b067_49 : decode cJ2_getChar_3b067 49 = .ok (.sipush 255, 3) := by decide +kernel
theorem dJ2_getChar_3b067_52 : decode cJ2_getChar_3b067 52 = .ok (.iand, 1) := by decide +kernel
theorem dJ2_getChar_3b067_53 : decode cJ2_getChar_3b067 53 = .ok (.getstatic 63, 3) := by decide +kernel
theorem dJ2_getChar_3b067_56 : decode cJ2_getChar_3b067 56 = .ok (.ishl, 1) := by decide +kernel
theorem dJ2_getChar_3b067_57 : decode cJ2_getChar_3b067 57 = .ok (.ior, 1) := by decide +kernel
theorem dJ2_getChar_3b067_58 : decode cJ2_getChar_3b067 58 = .ok (.i2c, 1) := by decide +kernel
theorem dJ2_getChar_3b067_59 : decode cJ2_getChar_3b067 59 = .ok (.ireturn, 1) := by decide +kernel
theorem dJ2_length_9d52b_0 : decode cJ2_length_9d52b 0 = .ok (.aload_n 0, 1) := by decide +kernel
theorem dJ2_length_9d52b_1 : decode cJ2_length_9d52b 1 = .ok (.arraylength, 1) := by decide +kernel
theorem dJ2_length_9d52b_2 : decode cJ2_length_9d52b 2 = .ok (.iconst 1, 1) := by decide +kernel
theorem dJ2_length_9d52b_3 : decode cJ2_length_9d52b 3 = .ok (.ishr, 1) := by decide +kernel
theorem dJ2_length_9d52b_4 : decode cJ2_length_9d52b 4 = .ok (.ireturn, 1) := by decide +kernel
theorem dJ2_charAt_3b067_0 : decode cJ2_charAt_3b067 0 = .ok (.iload_n 1, 1) := by decide +kernel
theorem dJ2_charAt_3b067_1 : decode cJ2_charAt_3b067 1 = .ok (.aload_n 0, 1) := by decide +kernel
theorem dJ2_charAt_3b067_2 : decode cJ2_charAt_3b067 2 = .ok (.invokestatic 67, 3) := by decide +kernel
theorem dJ2_charAt_3b067_5 : decode cJ2_charAt_3b067 5 = .ok (.aload_n 0, 1) := by decide +kernel
theorem dJ2_charAt_3b067_6 : decode cJ2_charAt_3b067 6 = .ok (.iload_n 1, 1) := by decide +kernel
theorem dJ2_charAt_3b067_7 : decode cJ2_charAt_3b067 7 = .ok (.invokestatic 71, 3) := by decide +kernel
theorem dJ2_charAt_3b067_10 : decode cJ2_charAt_3b067 10 = .ok (.ireturn, 1) := by decide +kernel
theorem dJ2_checkIndex_2214a_0 : decode cJ2_checkIndex_2214a 0 = .ok (.iload_n 0, 1) := by decide +kernel
theorem dJ2_checkIndex_2214a_1 : decode cJ2_checkIndex_2214a 1 = .ok (.aload_n 1, 1) := by decide +kernel
theorem dJ2_checkIndex_2214a_2 : decode cJ2_checkIndex_2214a 2 = .ok (.invokestatic 48, 3) := by decide +kernel
theorem dJ2_checkIndex_2214a_5 : decode cJ2_checkIndex_2214a 5 = .ok (.invokestatic 414, 3) := by decide +kernel
theorem dJ2_checkIndex_2214a_8 : decode cJ2_checkIndex_2214a 8 = .ok (.return_, 1) := by decide +kernel
theorem dJ3_checkIndex_8e157_0 : decode cJ3_checkIndex_8e157 0 = .ok (.iload_n 0, 1) := by decide +kernel
theorem dJ3_checkIndex_8e157_1 : decode cJ3_checkIndex_8e157 1 = .ok (.ifCond .lt 8, 3) := by decide +kernel
theorem dJ3_checkIndex_8e157_4 : decode cJ3_checkIndex_8e157 4 = .ok (.iload_n 0, 1) := by decide +kernel
theorem dJ3_checkIndex_8e157_5 : decode cJ3_checkIndex_8e157 5 = .ok (.iload_n 1, 1) := by decide +kernel
theorem dJ3_checkIndex_8e157_6 : decode cJ3_checkIndex_8e157 6 = .ok (.if_icmp .lt 10, 3) := by decide +kernel
theorem dJ3_checkIndex_8e157_9 : decode cJ3_checkIndex_8e157 9 = .ok (.aload_n 2, 1) := by decide +kernel
theorem dJ3_checkIndex_8e157_10 : decode cJ3_checkIndex_8e157 10 = .ok (.iload_n 0, 1) := by decide +kernel
theorem dJ3_checkIndex_8e157_11 : decode cJ3_checkIndex_8e157 11 = .ok (.iload_n 1, 1) := by decide +kernel
theorem dJ3_checkIndex_8e157_12 : decode cJ3_checkIndex_8e157 12 = .ok (.invokestatic 95, 3) := by decide +kernel
theorem dJ3_checkIndex_8e157_15 : decode cJ3_checkIndex_8e157 15 = .ok (.athrow, 1) := by decide +kernel
theorem dJ3_checkIndex_8e157_16 : decode cJ3_checkIndex_8e157 16 = .ok (.iload_n 0, 1) := by decide +kernel
theorem dJ3_checkIndex_8e157_17 : decode cJ3_checkIndex_8e157 17 = .ok (.ireturn, 1) := by decide +kernel
