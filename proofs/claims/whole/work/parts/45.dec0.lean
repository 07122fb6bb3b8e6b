/-! Part 45 (0) (written by gen6.py): the instructions -/
theorem d_Al_init_0 : decode (am_b mt_Al_init) 0 = .ok (.aload_n 0, 1) := by decide +kernel
theorem d_Al_init_1 : decode (am_b mt_Al_init) 1 = .ok (.invokespecial 3, 3) := by decide +kernel
theorem d_Al_init_4 : decode (am_b mt_Al_init) 4 = .ok (.aload_n 0, 1) := by decide +kernel
theorem d_Al_init_5 : decode (am_b mt_Al_init) 5 = .ok (.new 9, 3) := by decide +kernel
theorem d_Al_init_8 : decode (am_b mt_Al_init) 8 = .ok (.dup, 1) := by decide +kernel
theorem d_Al_init_9 : decode (am_b mt_Al_init) 9 = .ok (.iload_n 1, 1) := by decide +kernel
theorem d_Al_init_10 : decode (am_b mt_Al_init) 10 = .ok (.iload_n 2, 1) := by decide +kernel
theorem d_Al_init_11 : decode (am_b mt_Al_init) 11 = .ok (.iload_n 3, 1) := by decide +kernel
theorem d_Al_init_12 : decode (am_b mt_Al_init) 12 = .ok (.invokespecial 11, 3) := by decide +kernel
theorem d_Al_init_15 : decode (am_b mt_Al_init) 15 = .ok (.putfield 14, 3) := by decide +kernel
theorem d_Al_init_18 : decode (am_b mt_Al_init) 18 = .ok (.aload_n 0, 1) := by decide +kernel
theorem d_Al_init_19 : decode (am_b mt_Al_init) 19 = .ok (.new 18, 3) := by decide +kernel
theorem d_Al_init_22 : decode (am_b mt_Al_init) 22 = .ok (.dup, 1) := by decide +kernel
theorem d_Al_init_23 : decode (am_b mt_Al_init) 23 = .ok (.invokespecial 20, 3) := by decide +kernel
theorem d_Al_init_26 : decode (am_b mt_Al_init) 26 = .ok (.putfield 21, 3) := by decide +kernel
theorem d_Al_init_29 : decode (am_b mt_Al_init) 29 = .ok (.aload_n 0, 1) := by decide +kernel
theorem d_Al_init_30 : decode (am_b mt_Al_init) 30 = .ok (.new 25, 3) := by decide +kernel
theorem d_Al_init_33 : decode (am_b mt_Al_init) 33 = .ok (.dup, 1) := by decide +kernel
theorem d_Al_init_34 : decode (am_b mt_Al_init) 34 = .ok (.invokespecial 27, 3) := by decide +kernel
theorem d_Al_init_37 : decode (am_b mt_Al_init) 37 = .ok (.putfield 28, 3) := by decide +kernel
theorem d_Al_init_40 : decode (am_b mt_Al_init) 40 = .ok (.aload_n 0, 1) := by decide +kernel
theorem d_Al_init_41 : decode (am_b mt_Al_init) 41 = .ok (.new 25, 3) := by decide +kernel
theorem d_Al_init_44 : decode (am_b mt_Al_init) 44 = .ok (.dup, 1) := by decide +kernel
theorem d_Al_init_45 : decode (am_b mt_Al_init) 45 = .ok (.invokespecial 27, 3) := by decide +kernel
theorem d_Al_init_48 : decode (am_b mt_Al_init) 48 = .ok (.putfield 32, 3) := by decide +kernel
theorem d_Al_init_51 : decode (am_b mt_Al_init) 51 = .ok (.aload_n 0, 1) := by decide +kernel
theorem d_Al_init_52 : decode (am_b mt_Al_init) 52 = .ok (.new 35, 3) := by decide +kernel
theorem d_Al_init_55 : decode (am_b mt_Al_init) 55 = .ok (.dup, 1) := by decide +kernel
theorem d_Al_init_56 : decode (am_b mt_Al_init) 56 = .ok (.invokespecial 37, 3) := by decide +kernel
theorem d_Al_init_59 : decode (am_b mt_Al_init) 59 = .ok (.putfield 38, 3) := by decide +kernel
theorem d_Al_init_62 : decode (am_b mt_Al_init) 62 = .ok (.aload_n 0, 1) := by decide +kernel
theorem d_Al_init_63 : decode (am_b mt_Al_init) 63 = .ok (.new 42, 3) := by decide +kernel
theorem d_Al_init_66 : decode (am_b mt_Al_init) 66 = .ok (.dup, 1) := by decide +kernel
theorem d_Al_init_67 : decode (am_b mt_Al_init) 67 = .ok (.invokespecial 44, 3) := by decide +kernel
theorem d_Al_init_70 : decode (am_b mt_Al_init) 70 = .ok (.putfield 45, 3) := by decide +kernel
theorem d_Al_init_73 : decode (am_b mt_Al_init) 73 = .ok (.aload_n 0, 1) := by decide +kernel
theorem d_Al_init_74 : decode (am_b mt_Al_init) 74 = .ok (.iconst 0, 1) := by decide +kernel
theorem d_Al_init_75 : decode (am_b mt_Al_init) 75 = .ok (.putfield 49, 3) := by decide +kernel
theorem d_Al_init_78 : decode (am_b mt_Al_init) 78 = .ok (.aload_n 0, 1) := by decide +kernel
theorem d_Al_init_79 : decode (am_b mt_Al_init) 79 = .ok (.iconst (-1), 1) := by decide +kernel
theorem d_Al_init_80 : decode (am_b mt_Al_init) 80 = .ok (.putfield 53, 3) := by decide +kernel
theorem d_Al_init_83 : decode (am_b mt_Al_init) 83 = .ok (.aload_n 0, 1) := by decide +kernel
theorem d_Al_init_84 : decode (am_b mt_Al_init) 84 = .ok (.iconst 0, 1) := by decide +kernel
theorem d_Al_init_85 : decode (am_b mt_Al_init) 85 = .ok (.putfield 56, 3) := by decide +kernel
theorem d_Al_init_88 : decode (am_b mt_Al_init) 88 = .ok (.return_, 1) := by decide +kernel
theorem d_Ch_init_0 : decode (am_b mt_Ch_init) 0 = .ok (.aload_n 0, 1) := by decide +kernel
theorem d_Ch_init_1 : decode (am_b mt_Ch_init) 1 = .ok (.invokespecial 1, 3) := by decide +kernel
theorem d_Ch_init_4 : decode (am_b mt_Ch_init) 4 = .ok (.aload_n 0, 1) := by decide +kernel
theorem d_Ch_init_5 : decode (am_b mt_Ch_init) 5 = .ok (.iconst 5, 1) := by decide +kernel
theorem d_Ch_init_6 : decode (am_b mt_Ch_init) 6 = .ok (.iload_n 1, 1) := by decide +kernel
theorem d_Ch_init_7 : decode (am_b mt_Ch_init) 7 = .ok (.bipush 12, 2) := by decide +kernel
theorem d_Ch_init_9 : decode (am_b mt_Ch_init) 9 = .ok (.invokestatic 7, 3) := by decide +kernel
theorem d_Ch_init_12 : decode (am_b mt_Ch_init) 12 = .ok (.iadd, 1) := by decide +kernel
theorem d_Ch_init_13 : decode (am_b mt_Ch_init) 13 = .ok (.putfield 13, 3) := by decide +kernel
theorem d_Ch_init_16 : decode (am_b mt_Ch_init) 16 = .ok (.aload_n 0, 1) := by decide +kernel
theorem d_Ch_init_17 : decode (am_b mt_Ch_init) 17 = .ok (.bipush 37, 2) := by decide +kernel
theorem d_Ch_init_19 : decode (am_b mt_Ch_init) 19 = .ok (.newarray .int, 2) := by decide +kernel
theorem d_Ch_init_21 : decode (am_b mt_Ch_init) 21 = .ok (.putfield 19, 3) := by decide +kernel
theorem d_Ch_init_24 : decode (am_b mt_Ch_init) 24 = .ok (.aload_n 0, 1) := by decide +kernel
theorem d_Ch_init_25 : decode (am_b mt_Ch_init) 25 = .ok (.bipush 37, 2) := by decide +kernel
theorem d_Ch_init_27 : decode (am_b mt_Ch_init) 27 = .ok (.newarray .boolean, 2) := by decide +kernel
theorem d_Ch_init_29 : decode (am_b mt_Ch_init) 29 = .ok (.putfield 23, 3) := by decide +kernel
theorem d_Ch_init_32 : decode (am_b mt_Ch_init) 32 = .ok (.iload_n 2, 1) := by decide +kernel
theorem d_Ch_init_33 : decode (am_b mt_Ch_init) 33 = .ok (.iload_n 3, 1) := by decide +kernel
theorem d_Ch_init_34 : decode (am_b mt_Ch_init) 34 = .ok (.invokestatic 27, 3) := by decide +kernel
theorem d_Ch_init_37 : decode (am_b mt_Ch_init) 37 = .ok (.iconst 2, 1) := by decide +kernel
theorem d_Ch_init_38 : decode (am_b mt_Ch_init) 38 = .ok (.if_icmp .ge 7, 3) := by decide +kernel
theorem d_Ch_init_41 : decode (am_b mt_Ch_init) 41 = .ok (.iconst 1, 1) := by decide +kernel
theorem d_Ch_init_42 : decode (am_b mt_Ch_init) 42 = .ok (.goto 4, 3) := by decide +kernel
theorem d_Ch_init_45 : decode (am_b mt_Ch_init) 45 = .ok (.iconst 0, 1) := by decide +kernel
theorem d_Ch_init_46 : decode (am_b mt_Ch_init) 46 = .ok (.istore 4, 2) := by decide +kernel
theorem d_Ch_init_48 : decode (am_b mt_Ch_init) 48 = .ok (.aload_n 0, 1) := by decide +kernel
theorem d_Ch_init_49 : decode (am_b mt_Ch_init) 49 = .ok (.iconst 0, 1) := by decide +kernel
theorem d_Ch_init_50 : decode (am_b mt_Ch_init) 50 = .ok (.putfield 30, 3) := by decide +kernel
theorem d_Ch_init_53 : decode (am_b mt_Ch_init) 53 = .ok (.iconst 0, 1) := by decide +kernel
theorem d_Ch_init_54 : decode (am_b mt_Ch_init) 54 = .ok (.istore 5, 2) := by decide +kernel
theorem d_Ch_init_56 : decode (am_b mt_Ch_init) 56 = .ok (.iload 5, 2) := by decide +kernel
theorem d_Ch_init_58 : decode (am_b mt_Ch_init) 58 = .ok (.bipush 37, 2) := by decide +kernel
theorem d_Ch_init_60 : decode (am_b mt_Ch_init) 60 = .ok (.if_icmp .ge 53, 3) := by decide +kernel
theorem d_Ch_init_63 : decode (am_b mt_Ch_init) 63 = .ok (.iload 4, 2) := by decide +kernel
theorem d_Ch_init_65 : decode (am_b mt_Ch_init) 65 = .ok (.ifCond .ne 13, 3) := by decide +kernel
theorem d_Ch_init_68 : decode (am_b mt_Ch_init) 68 = .ok (.iload 5, 2) := by decide +kernel
theorem d_Ch_init_70 : decode (am_b mt_Ch_init) 70 = .ok (.iload_n 2, 1) := by decide +kernel
theorem d_Ch_init_71 : decode (am_b mt_Ch_init) 71 = .ok (.iload_n 3, 1) := by decide +kernel
theorem d_Ch_init_72 : decode (am_b mt_Ch_init) 72 = .ok (.invokestatic 33, 3) := by decide +kernel
theorem d_Ch_init_75 : decode (am_b mt_Ch_init) 75 = .ok (.ifCond .eq 32, 3) := by decide +kernel
theorem d_Ch_init_78 : decode (am_b mt_Ch_init) 78 = .ok (.aload_n 0, 1) := by decide +kernel
theorem d_Ch_init_79 : decode (am_b mt_Ch_init) 79 = .ok (.getfield 23, 3) := by decide +kernel
theorem d_Ch_init_82 : decode (am_b mt_Ch_init) 82 = .ok (.iload 5, 2) := by decide +kernel
theorem d_Ch_init_84 : decode (am_b mt_Ch_init) 84 = .ok (.iconst 1, 1) := by decide +kernel
theorem d_Ch_init_85 : decode (am_b mt_Ch_init) 85 = .ok (.bastore, 1) := by decide +kernel
theorem d_Ch_init_86 : decode (am_b mt_Ch_init) 86 = .ok (.aload_n 0, 1) := by decide +kernel
theorem d_Ch_init_87 : decode (am_b mt_Ch_init) 87 = .ok (.getfield 19, 3) := by decide +kernel
theorem d_Ch_init_90 : decode (am_b mt_Ch_init) 90 = .ok (.aload_n 0, 1) := by decide +kernel
theorem d_Ch_init_91 : decode (am_b mt_Ch_init) 91 = .ok (.getfield 30, 3) := by decide +kernel
theorem d_Ch_init_94 : decode (am_b mt_Ch_init) 94 = .ok (.iload 5, 2) := by decide +kernel
theorem d_Ch_init_96 : decode (am_b mt_Ch_init) 96 = .ok (.iastore, 1) := by decide +kernel
theorem d_Ch_init_97 : decode (am_b mt_Ch_init) 97 = .ok (.aload_n 0, 1) := by decide +kernel
theorem d_Ch_init_98 : decode (am_b mt_Ch_init) 98 = .ok (.dup, 1) := by decide +kernel
theorem d_Ch_init_99 : decode (am_b mt_Ch_init) 99 = .ok (.getfield 30, 3) := by decide +kernel
theorem d_Ch_init_102 : decode (am_b mt_Ch_init) 102 = .ok (.iconst 1, 1) := by decide +kernel
theorem d_Ch_init_103 : decode (am_b mt_Ch_init) 103 = .ok (.iadd, 1) := by decide +kernel
theorem d_Ch_init_104 : decode (am_b mt_Ch_init) 104 = .ok (.putfield 30, 3) := by decide +kernel
theorem d_Ch_init_107 : decode (am_b mt_Ch_init) 107 = .ok (.iinc 5 1, 3) := by decide +kernel
theorem d_Ch_init_110 : decode (am_b mt_Ch_init) 110 = .ok (.goto (-54), 3) := by decide +kernel
theorem d_Ch_init_113 : decode (am_b mt_Ch_init) 113 = .ok (.aload_n 0, 1) := by decide +kernel
theorem d_Ch_init_114 : decode (am_b mt_Ch_init) 114 = .ok (.iconst 0, 1) := by decide +kernel
theorem d_Ch_init_115 : decode (am_b mt_Ch_init) 115 = .ok (.putfield 37, 3) := by decide +kernel
theorem d_Ch_init_118 : decode (am_b mt_Ch_init) 118 = .ok (.return_, 1) := by decide +kernel
theorem d_Ma_floorMod_0 : decode (am_b mt_Ma_floorMod) 0 = .ok (.iload_n 0, 1) := by decide +kernel
theorem d_Ma_floorMod_1 : decode (am_b mt_Ma_floorMod) 1 = .ok (.iload_n 1, 1) := by decide +kernel
theorem d_Ma_floorMod_2 : decode (am_b mt_Ma_floorMod) 2 = .ok (.irem, 1) := by decide +kernel
theorem d_Ma_floorMod_3 : decode (am_b mt_Ma_floorMod) 3 = .ok (.istore_n 2, 1) := by decide +kernel
theorem d_Ma_floorMod_4 : decode (am_b mt_Ma_floorMod) 4 = .ok (.iload_n 0, 1) := by decide +kernel
theorem d_Ma_floorMod_5 : decode (am_b mt_Ma_floorMod) 5 = .ok (.iload_n 1, 1) := by decide +kernel
theorem d_Ma_floorMod_6 : decode (am_b mt_Ma_floorMod) 6 = .ok (.ixor, 1) := by decide +kernel
theorem d_Ma_floorMod_7 : decode (am_b mt_Ma_floorMod) 7 = .ok (.ifCond .ge 11, 3) := by decide +kernel
theorem d_Ma_floorMod_10 : decode (am_b mt_Ma_floorMod) 10 = .ok (.iload_n 2, 1) := by decide +kernel
theorem d_Ma_floorMod_11 : decode (am_b mt_Ma_floorMod) 11 = .ok (.ifCond .eq 7, 3) := by decide +kernel
theorem d_Ma_floorMod_14 : decode (am_b mt_Ma_floorMod) 14 = .ok (.iload_n 2, 1) := by decide +kernel
theorem d_Ma_floorMod_15 : decode (am_b mt_Ma_floorMod) 15 = .ok (.iload_n 1, 1) := by decide +kernel
theorem d_Ma_floorMod_16 : decode (am_b mt_Ma_floorMod) 16 = .ok (.iadd, 1) := by decide +kernel
theorem d_Ma_floorMod_17 : decode (am_b mt_Ma_floorMod) 17 = .ok (.ireturn, 1) := by decide +kernel
theorem d_Ma_floorMod_18 : decode (am_b mt_Ma_floorMod) 18 = .ok (.iload_n 2, 1) := by decide +kernel
theorem d_Ma_floorMod_19 : decode (am_b mt_Ma_floorMod) 19 = .ok (.ireturn, 1) := by decide +kernel
theorem d_Ch_countUsed_0 : decode (am_b mt_Ch_countUsed) 0 = .ok (.iload_n 0, 1) := by decide +kernel
theorem d_Ch_countUsed_1 : decode (am_b mt_Ch_countUsed) 1 = .ok (.invokestatic 40, 3) := by decide +kernel
theorem d_Ch_countUsed_4 : decode (am_b mt_Ch_countUsed) 4 = .ok (.iload_n 1, 1) := by decide +kernel
theorem d_Ch_countUsed_5 : decode (am_b mt_Ch_countUsed) 5 = .ok (.bipush 31, 2) := by decide +kernel
theorem d_Ch_countUsed_7 : decode (am_b mt_Ch_countUsed) 7 = .ok (.iand, 1) := by decide +kernel
theorem d_Ch_countUsed_8 : decode (am_b mt_Ch_countUsed) 8 = .ok (.invokestatic 40, 3) := by decide +kernel
theorem d_Ch_countUsed_11 : decode (am_b mt_Ch_countUsed) 11 = .ok (.iadd, 1) := by decide +kernel
theorem d_Ch_countUsed_12 : decode (am_b mt_Ch_countUsed) 12 = .ok (.ireturn, 1) := by decide +kernel
theorem d_Ig_bitCount_0 : decode (am_b mt_Ig_bitCount) 0 = .ok (.iload_n 0, 1) := by decide +kernel
theorem d_Ig_bitCount_1 : decode (am_b mt_Ig_bitCount) 1 = .ok (.iload_n 0, 1) := by decide +kernel
theorem d_Ig_bitCount_2 : decode (am_b mt_Ig_bitCount) 2 = .ok (.iconst 1, 1) := by decide +kernel
theorem d_Ig_bitCount_3 : decode (am_b mt_Ig_bitCount) 3 = .ok (.iushr, 1) := by decide +kernel
theorem d_Ig_bitCount_4 : decode (am_b mt_Ig_bitCount) 4 = .ok (.ldc_w 265, 3) := by decide +kernel
theorem d_Ig_bitCount_7 : decode (am_b mt_Ig_bitCount) 7 = .ok (.iand, 1) := by decide +kernel
theorem d_Ig_bitCount_8 : decode (am_b mt_Ig_bitCount) 8 = .ok (.isub, 1) := by decide +kernel
theorem d_Ig_bitCount_9 : decode (am_b mt_Ig_bitCount) 9 = .ok (.istore_n 0, 1) := by decide +kernel
theorem d_Ig_bitCount_10 : decode (am_b mt_Ig_bitCount) 10 = .ok (.iload_n 0, 1) := by decide +kernel
theorem d_Ig_bitCount_11 : decode (am_b mt_Ig_bitCount) 11 = .ok (.ldc_w 266, 3) := by decide +kernel
theorem d_Ig_bitCount_14 : decode (am_b mt_Ig_bitCount) 14 = .ok (.iand, 1) := by decide +kernel
theorem d_Ig_bitCount_15 : decode (am_b mt_Ig_bitCount) 15 = .ok (.iload_n 0, 1) := by decide +kernel
theorem d_Ig_bitCount_16 : decode (am_b mt_Ig_bitCount) 16 = .ok (.iconst 2, 1) := by decide +kernel
theorem d_Ig_bitCount_17 : decode (am_b mt_Ig_bitCount) 17 = .ok (.iushr, 1) := by decide +kernel
theorem d_Ig_bitCount_18 : decode (am_b mt_Ig_bitCount) 18 = .ok (.ldc_w 266, 3) := by decide +kernel
theorem d_Ig_bitCount_21 : decode (am_b mt_Ig_bitCount) 21 = .ok (.iand, 1) := by decide +kernel
theorem d_Ig_bitCount_22 : decode (am_b mt_Ig_bitCount) 22 = .ok (.iadd, 1) := by decide +kernel
theorem d_Ig_bitCount_23 : decode (am_b mt_Ig_bitCount) 23 = .ok (.istore_n 0, 1) := by decide +kernel
theorem d_Ig_bitCount_24 : decode (am_b mt_Ig_bitCount) 24 = .ok (.iload_n 0, 1) := by decide +kernel
theorem d_Ig_bitCount_25 : decode (am_b mt_Ig_bitCount) 25 = .ok (.iload_n 0, 1) := by decide +kernel
theorem d_Ig_bitCount_26 : decode (am_b mt_Ig_bitCount) 26 = .ok (.iconst 4, 1) := by decide +kernel
theorem d_Ig_bitCount_27 : decode (am_b mt_Ig_bitCount) 27 = .ok (.iushr, 1) := by decide +kernel
theorem d_Ig_bitCount_28 : decode (am_b mt_Ig_bitCount) 28 = .ok (.iadd, 1) := by decide +kernel
theorem d_Ig_bitCount_29 : decode (am_b mt_Ig_bitCount) 29 = .ok (.ldc_w 267, 3) := by decide +kernel
theorem d_Ig_bitCount_32 : decode (am_b mt_Ig_bitCount) 32 = .ok (.iand, 1) := by decide +kernel
theorem d_Ig_bitCount_33 : decode (am_b mt_Ig_bitCount) 33 = .ok (.istore_n 0, 1) := by decide +kernel
theorem d_Ig_bitCount_34 : decode (am_b mt_Ig_bitCount) 34 = .ok (.iload_n 0, 1) := by decide +kernel
theorem d_Ig_bitCount_35 : decode (am_b mt_Ig_bitCount) 35 = .ok (.iload_n 0, 1) := by decide +kernel
theorem d_Ig_bitCount_36 : decode (am_b mt_Ig_bitCount) 36 = .ok (.bipush 8, 2) := by decide +kernel
theorem d_Ig_bitCount_38 : decode (am_b mt_Ig_bitCount) 38 = .ok (.iushr, 1) := by decide +kernel
theorem d_Ig_bitCount_39 : decode (am_b mt_Ig_bitCount) 39 = .ok (.iadd, 1) := by decide +kernel
theorem d_Ig_bitCount_40 : decode (am_b mt_Ig_bitCount) 40 = .ok (.istore_n 0, 1) := by decide +kernel
theorem d_Ig_bitCount_41 : decode (am_b mt_Ig_bitCount) 41 = .ok (.iload_n 0, 1) := by decide +kernel
theorem d_Ig_bitCount_42 : decode (am_b mt_Ig_bitCount) 42 = .ok (.iload_n 0, 1) := by decide +kernel
theorem d_Ig_bitCount_43 : decode (am_b mt_Ig_bitCount) 43 = .ok (.bipush 16, 2) := by decide +kernel
theorem d_Ig_bitCount_45 : decode (am_b mt_Ig_bitCount) 45 = .ok (.iushr, 1) := by decide +kernel
theorem d_Ig_bitCount_46 : decode (am_b mt_Ig_bitCount) 46 = .ok (.iadd, 1) := by decide +kernel
theorem d_Ig_bitCount_47 : decode (am_b mt_Ig_bitCount) 47 = .ok (.istore_n 0, 1) := by decide +kernel
theorem d_Ig_bitCount_48 : decode (am_b mt_Ig_bitCount) 48 = .ok (.iload_n 0, 1) := by decide +kernel
theorem d_Ig_bitCount_49 : decode (am_b mt_Ig_bitCount) 49 = .ok (.bipush 63, 2) := by decide +kernel
theorem d_Ig_bitCount_51 : decode (am_b mt_Ig_bitCount) 51 = .ok (.iand, 1) := by decide +kernel
theorem d_Ig_bitCount_52 : decode (am_b mt_Ig_bitCount) 52 = .ok (.ireturn, 1) := by decide +kernel
theorem d_Ch_isMarked_0 : decode (am_b mt_Ch_isMarked) 0 = .ok (.iload_n 0, 1) := by decide +kernel
theorem d_Ch_isMarked_1 : decode (am_b mt_Ch_isMarked) 1 = .ok (.bipush 32, 2) := by decide +kernel
theorem d_Ch_isMarked_3 : decode (am_b mt_Ch_isMarked) 3 = .ok (.if_icmp .ge 9, 3) := by decide +kernel
theorem d_Ch_isMarked_6 : decode (am_b mt_Ch_isMarked) 6 = .ok (.iload_n 1, 1) := by decide +kernel
theorem d_Ch_isMarked_7 : decode (am_b mt_Ch_isMarked) 7 = .ok (.iload_n 0, 1) := by decide +kernel
theorem d_Ch_isMarked_8 : decode (am_b mt_Ch_isMarked) 8 = .ok (.iushr, 1) := by decide +kernel
theorem d_Ch_isMarked_9 : decode (am_b mt_Ch_isMarked) 9 = .ok (.goto 9, 3) := by decide +kernel
theorem d_Ch_isMarked_12 : decode (am_b mt_Ch_isMarked) 12 = .ok (.iload_n 2, 1) := by decide +kernel
theorem d_Ch_isMarked_13 : decode (am_b mt_Ch_isMarked) 13 = .ok (.iload_n 0, 1) := by decide +kernel
theorem d_Ch_isMarked_14 : decode (am_b mt_Ch_isMarked) 14 = .ok (.bipush 32, 2) := by decide +kernel
theorem d_Ch_isMarked_16 : decode (am_b mt_Ch_isMarked) 16 = .ok (.isub, 1) := by decide +kernel
theorem d_Ch_isMarked_17 : decode (am_b mt_Ch_isMarked) 17 = .ok (.iushr, 1) := by decide +kernel
theorem d_Ch_isMarked_18 : decode (am_b mt_Ch_isMarked) 18 = .ok (.istore_n 3, 1) := by decide +kernel
theorem d_Ch_isMarked_19 : decode (am_b mt_Ch_isMarked) 19 = .ok (.iload_n 3, 1) := by decide +kernel
theorem d_Ch_isMarked_20 : decode (am_b mt_Ch_isMarked) 20 = .ok (.iconst 1, 1) := by decide +kernel
theorem d_Ch_isMarked_21 : decode (am_b mt_Ch_isMarked) 21 = .ok (.iand, 1) := by decide +kernel
theorem d_Ch_isMarked_22 : decode (am_b mt_Ch_isMarked) 22 = .ok (.iconst 1, 1) := by decide +kernel
theorem d_Ch_isMarked_23 : decode (am_b mt_Ch_isMarked) 23 = .ok (.if_icmp .ne 7, 3) := by decide +kernel
theorem d_Ch_isMarked_26 : decode (am_b mt_Ch_isMarked) 26 = .ok (.iconst 1, 1) := by decide +kernel
theorem d_Ch_isMarked_27 : decode (am_b mt_Ch_isMarked) 27 = .ok (.goto 4, 3) := by decide +kernel
theorem d_Ch_isMarked_30 : decode (am_b mt_Ch_isMarked) 30 = .ok (.iconst 0, 1) := by decide +kernel
theorem d_Ch_isMarked_31 : decode (am_b mt_Ch_isMarked) 31 = .ok (.ireturn, 1) := by decide +kernel
theorem d_Wh_init_0 : decode (am_b mt_Wh_init) 0 = .ok (.aload_n 0, 1) := by decide +kernel
theorem d_Wh_init_1 : decode (am_b mt_Wh_init) 1 = .ok (.invokespecial 3, 3) := by decide +kernel
theorem d_Wh_init_4 : decode (am_b mt_Wh_init) 4 = .ok (.aload_n 0, 1) := by decide +kernel
theorem d_Wh_init_5 : decode (am_b mt_Wh_init) 5 = .ok (.bipush 12, 2) := by decide +kernel
theorem d_Wh_init_7 : decode (am_b mt_Wh_init) 7 = .ok (.newarray .int, 2) := by decide +kernel
theorem d_Wh_init_9 : decode (am_b mt_Wh_init) 9 = .ok (.putfield 9, 3) := by decide +kernel
theorem d_Wh_init_12 : decode (am_b mt_Wh_init) 12 = .ok (.return_, 1) := by decide +kernel
theorem d_De_init_0 : decode (am_b mt_De_init) 0 = .ok (.aload_n 0, 1) := by decide +kernel
theorem d_De_init_1 : decode (am_b mt_De_init) 1 = .ok (.invokespecial 3, 3) := by decide +kernel
theorem d_De_init_4 : decode (am_b mt_De_init) 4 = .ok (.aload_n 0, 1) := by decide +kernel
theorem d_De_init_5 : decode (am_b mt_De_init) 5 = .ok (.new 9, 3) := by decide +kernel
theorem d_De_init_8 : decode (am_b mt_De_init) 8 = .ok (.dup, 1) := by decide +kernel
theorem d_De_init_9 : decode (am_b mt_De_init) 9 = .ok (.invokespecial 11, 3) := by decide +kernel
theorem d_De_init_12 : decode (am_b mt_De_init) 12 = .ok (.putfield 12, 3) := by decide +kernel
theorem d_De_init_15 : decode (am_b mt_De_init) 15 = .ok (.aload_n 0, 1) := by decide +kernel
theorem d_De_init_16 : decode (am_b mt_De_init) 16 = .ok (.new 18, 3) := by decide +kernel
theorem d_De_init_19 : decode (am_b mt_De_init) 19 = .ok (.dup, 1) := by decide +kernel
theorem d_De_init_20 : decode (am_b mt_De_init) 20 = .ok (.invokespecial 20, 3) := by decide +kernel
theorem d_De_init_23 : decode (am_b mt_De_init) 23 = .ok (.putfield 21, 3) := by decide +kernel
theorem d_De_init_26 : decode (am_b mt_De_init) 26 = .ok (.aload_n 0, 1) := by decide +kernel
theorem d_De_init_27 : decode (am_b mt_De_init) 27 = .ok (.new 25, 3) := by decide +kernel
theorem d_De_init_30 : decode (am_b mt_De_init) 30 = .ok (.dup, 1) := by decide +kernel
theorem d_De_init_31 : decode (am_b mt_De_init) 31 = .ok (.bipush 12, 2) := by decide +kernel
theorem d_De_init_33 : decode (am_b mt_De_init) 33 = .ok (.invokespecial 27, 3) := by decide +kernel
theorem d_De_init_36 : decode (am_b mt_De_init) 36 = .ok (.putfield 30, 3) := by decide +kernel
theorem d_De_init_39 : decode (am_b mt_De_init) 39 = .ok (.aload_n 0, 1) := by decide +kernel
theorem d_De_init_40 : decode (am_b mt_De_init) 40 = .ok (.new 25, 3) := by decide +kernel
theorem d_De_init_43 : decode (am_b mt_De_init) 43 = .ok (.dup, 1) := by decide +kernel
theorem d_De_init_44 : decode (am_b mt_De_init) 44 = .ok (.bipush 12, 2) := by decide +kernel
theorem d_De_init_46 : decode (am_b mt_De_init) 46 = .ok (.invokespecial 27, 3) := by decide +kernel
theorem d_De_init_49 : decode (am_b mt_De_init) 49 = .ok (.putfield 34, 3) := by decide +kernel
theorem d_De_init_52 : decode (am_b mt_De_init) 52 = .ok (.aload_n 0, 1) := by decide +kernel
theorem d_De_init_53 : decode (am_b mt_De_init) 53 = .ok (.new 25, 3) := by decide +kernel
theorem d_De_init_56 : decode (am_b mt_De_init) 56 = .ok (.dup, 1) := by decide +kernel
theorem d_De_init_57 : decode (am_b mt_De_init) 57 = .ok (.bipush 7, 2) := by decide +kernel
theorem d_De_init_59 : decode (am_b mt_De_init) 59 = .ok (.invokespecial 27, 3) := by decide +kernel
theorem d_De_init_62 : decode (am_b mt_De_init) 62 = .ok (.putfield 37, 3) := by decide +kernel
theorem d_De_init_65 : decode (am_b mt_De_init) 65 = .ok (.aload_n 0, 1) := by decide +kernel
theorem d_De_init_66 : decode (am_b mt_De_init) 66 = .ok (.iconst 1, 1) := by decide +kernel
theorem d_De_init_67 : decode (am_b mt_De_init) 67 = .ok (.putfield 40, 3) := by decide +kernel
theorem d_De_init_70 : decode (am_b mt_De_init) 70 = .ok (.aload_n 0, 1) := by decide +kernel
theorem d_De_init_71 : decode (am_b mt_De_init) 71 = .ok (.iconst 0, 1) := by decide +kernel
theorem d_De_init_72 : decode (am_b mt_De_init) 72 = .ok (.putfield 44, 3) := by decide +kernel
theorem d_De_init_75 : decode (am_b mt_De_init) 75 = .ok (.aload_n 0, 1) := by decide +kernel
theorem d_De_init_76 : decode (am_b mt_De_init) 76 = .ok (.iconst 0, 1) := by decide +kernel
theorem d_De_init_77 : decode (am_b mt_De_init) 77 = .ok (.putfield 48, 3) := by decide +kernel
theorem d_De_init_80 : decode (am_b mt_De_init) 80 = .ok (.aload_n 0, 1) := by decide +kernel
theorem d_De_init_81 : decode (am_b mt_De_init) 81 = .ok (.iconst 0, 1) := by decide +kernel
theorem d_De_init_82 : decode (am_b mt_De_init) 82 = .ok (.putfield 51, 3) := by decide +kernel
theorem d_De_init_85 : decode (am_b mt_De_init) 85 = .ok (.aload_n 0, 1) := by decide +kernel
theorem d_De_init_86 : decode (am_b mt_De_init) 86 = .ok (.iconst 0, 1) := by decide +kernel
theorem d_De_init_87 : decode (am_b mt_De_init) 87 = .ok (.putfield 54, 3) := by decide +kernel
theorem d_De_init_90 : decode (am_b mt_De_init) 90 = .ok (.return_, 1) := by decide +kernel
theorem d_Ou_init_0 : decode (am_b mt_Ou_init) 0 = .ok (.aload_n 0, 1) := by decide +kernel
theorem d_Ou_init_1 : decode (am_b mt_Ou_init) 1 = .ok (.invokespecial 3, 3) := by decide +kernel
theorem d_Ou_init_4 : decode (am_b mt_Ou_init) 4 = .ok (.aload_n 0, 1) := by decide +kernel
theorem d_Ou_init_5 : decode (am_b mt_Ou_init) 5 = .ok (.bipush 8, 2) := by decide +kernel
theorem d_Ou_init_7 : decode (am_b mt_Ou_init) 7 = .ok (.anewarray 11, 3) := by decide +kernel
theorem d_Ou_init_10 : decode (am_b mt_Ou_init) 10 = .ok (.putfield 13, 3) := by decide +kernel
theorem d_Ou_init_13 : decode (am_b mt_Ou_init) 13 = .ok (.iconst 0, 1) := by decide +kernel
theorem d_Ou_init_14 : decode (am_b mt_Ou_init) 14 = .ok (.istore_n 1, 1) := by decide +kernel
theorem d_Ou_init_15 : decode (am_b mt_Ou_init) 15 = .ok (.iload_n 1, 1) := by decide +kernel
theorem d_Ou_init_16 : decode (am_b mt_Ou_init) 16 = .ok (.bipush 8, 2) := by decide +kernel
theorem d_Ou_init_18 : decode (am_b mt_Ou_init) 18 = .ok (.if_icmp .ge 24, 3) := by decide +kernel
theorem d_Ou_init_21 : decode (am_b mt_Ou_init) 21 = .ok (.aload_n 0, 1) := by decide +kernel
theorem d_Ou_init_22 : decode (am_b mt_Ou_init) 22 = .ok (.getfield 13, 3) := by decide +kernel
theorem d_Ou_init_25 : decode (am_b mt_Ou_init) 25 = .ok (.iload_n 1, 1) := by decide +kernel
theorem d_Ou_init_26 : decode (am_b mt_Ou_init) 26 = .ok (.new 11, 3) := by decide +kernel
theorem d_Ou_init_29 : decode (am_b mt_Ou_init) 29 = .ok (.dup, 1) := by decide +kernel
theorem d_Ou_init_30 : decode (am_b mt_Ou_init) 30 = .ok (.bipush 24, 2) := by decide +kernel
theorem d_Ou_init_32 : decode (am_b mt_Ou_init) 32 = .ok (.invokespecial 17, 3) := by decide +kernel
theorem d_Ou_init_35 : decode (am_b mt_Ou_init) 35 = .ok (.aastore, 1) := by decide +kernel
theorem d_Ou_init_36 : decode (am_b mt_Ou_init) 36 = .ok (.iinc 1 1, 3) := by decide +kernel
theorem d_Ou_init_39 : decode (am_b mt_Ou_init) 39 = .ok (.goto (-24), 3) := by decide +kernel
theorem d_Ou_init_42 : decode (am_b mt_Ou_init) 42 = .ok (.aload_n 0, 1) := by decide +kernel
theorem d_Ou_init_43 : decode (am_b mt_Ou_init) 43 = .ok (.iconst 0, 1) := by decide +kernel
theorem d_Ou_init_44 : decode (am_b mt_Ou_init) 44 = .ok (.putfield 20, 3) := by decide +kernel
theorem d_Ou_init_47 : decode (am_b mt_Ou_init) 47 = .ok (.aload_n 0, 1) := by decide +kernel
theorem d_Ou_init_48 : decode (am_b mt_Ou_init) 48 = .ok (.iconst 0, 1) := by decide +kernel
theorem d_Ou_init_49 : decode (am_b mt_Ou_init) 49 = .ok (.putfield 24, 3) := by decide +kernel
theorem d_Ou_init_52 : decode (am_b mt_Ou_init) 52 = .ok (.aload_n 0, 1) := by decide +kernel
theorem d_Ou_init_53 : decode (am_b mt_Ou_init) 53 = .ok (.iconst 0, 1) := by decide +kernel
theorem d_Ou_init_54 : decode (am_b mt_Ou_init) 54 = .ok (.putfield 27, 3) := by decide +kernel
theorem d_Ou_init_57 : decode (am_b mt_Ou_init) 57 = .ok (.return_, 1) := by decide +kernel
theorem d_Ro_init_0 : decode (am_b mt_Ro_init) 0 = .ok (.aload_n 0, 1) := by decide +kernel
theorem d_Ro_init_1 : decode (am_b mt_Ro_init) 1 = .ok (.invokespecial 1, 3) := by decide +kernel
theorem d_Ro_init_4 : decode (am_b mt_Ro_init) 4 = .ok (.aload_n 0, 1) := by decide +kernel
theorem d_Ro_init_5 : decode (am_b mt_Ro_init) 5 = .ok (.iload_n 1, 1) := by decide +kernel
theorem d_Ro_init_6 : decode (am_b mt_Ro_init) 6 = .ok (.newarray .int, 2) := by decide +kernel
theorem d_Ro_init_8 : decode (am_b mt_Ro_init) 8 = .ok (.putfield 7, 3) := by decide +kernel
theorem d_Ro_init_11 : decode (am_b mt_Ro_init) 11 = .ok (.aload_n 0, 1) := by decide +kernel
theorem d_Ro_init_12 : decode (am_b mt_Ro_init) 12 = .ok (.iconst 0, 1) := by decide +kernel
theorem d_Ro_init_13 : decode (am_b mt_Ro_init) 13 = .ok (.putfield 13, 3) := by decide +kernel
theorem d_Ro_init_16 : decode (am_b mt_Ro_init) 16 = .ok (.return_, 1) := by decide +kernel
theorem d_In_init_0 : decode (am_b mt_In_init) 0 = .ok (.aload_n 0, 1) := by decide +kernel
theorem d_In_init_1 : decode (am_b mt_In_init) 1 = .ok (.invokespecial 3, 3) := by decide +kernel
theorem d_In_init_4 : decode (am_b mt_In_init) 4 = .ok (.aload_n 0, 1) := by decide +kernel
theorem d_In_init_5 : decode (am_b mt_In_init) 5 = .ok (.new 9, 3) := by decide +kernel
theorem d_In_init_8 : decode (am_b mt_In_init) 8 = .ok (.dup, 1) := by decide +kernel
theorem d_In_init_9 : decode (am_b mt_In_init) 9 = .ok (.bipush 20, 2) := by decide +kernel
theorem d_In_init_11 : decode (am_b mt_In_init) 11 = .ok (.invokespecial 11, 3) := by decide +kernel
theorem d_In_init_14 : decode (am_b mt_In_init) 14 = .ok (.putfield 14, 3) := by decide +kernel
theorem d_In_init_17 : decode (am_b mt_In_init) 17 = .ok (.aload_n 0, 1) := by decide +kernel
theorem d_In_init_18 : decode (am_b mt_In_init) 18 = .ok (.new 9, 3) := by decide +kernel
theorem d_In_init_21 : decode (am_b mt_In_init) 21 = .ok (.dup, 1) := by decide +kernel
theorem d_In_init_22 : decode (am_b mt_In_init) 22 = .ok (.bipush 31, 2) := by decide +kernel
theorem d_In_init_24 : decode (am_b mt_In_init) 24 = .ok (.invokespecial 11, 3) := by decide +kernel
theorem d_In_init_27 : decode (am_b mt_In_init) 27 = .ok (.putfield 20, 3) := by decide +kernel
theorem d_In_init_30 : decode (am_b mt_In_init) 30 = .ok (.aload_n 0, 1) := by decide +kernel
theorem d_In_init_31 : decode (am_b mt_In_init) 31 = .ok (.iconst 0, 1) := by decide +kernel
theorem d_In_init_32 : decode (am_b mt_In_init) 32 = .ok (.putfield 23, 3) := by decide +kernel
theorem d_In_init_35 : decode (am_b mt_In_init) 35 = .ok (.aload_n 0, 1) := by decide +kernel
theorem d_In_init_36 : decode (am_b mt_In_init) 36 = .ok (.iconst 0, 1) := by decide +kernel
theorem d_In_init_37 : decode (am_b mt_In_init) 37 = .ok (.putfield 27, 3) := by decide +kernel
theorem d_In_init_40 : decode (am_b mt_In_init) 40 = .ok (.return_, 1) := by decide +kernel
theorem d_Cl_init_0 : decode (am_b mt_Cl_init) 0 = .ok (.aload_n 0, 1) := by decide +kernel
theorem d_Cl_init_1 : decode (am_b mt_Cl_init) 1 = .ok (.invokespecial 3, 3) := by decide +kernel
theorem d_Cl_init_4 : decode (am_b mt_Cl_init) 4 = .ok (.aload_n 0, 1) := by decide +kernel
theorem d_Cl_init_5 : decode (am_b mt_Cl_init) 5 = .ok (.new 9, 3) := by decide +kernel
theorem d_Cl_init_8 : decode (am_b mt_Cl_init) 8 = .ok (.dup, 1) := by decide +kernel
theorem d_Cl_init_9 : decode (am_b mt_Cl_init) 9 = .ok (.invokespecial 11, 3) := by decide +kernel
theorem d_Cl_init_12 : decode (am_b mt_Cl_init) 12 = .ok (.putfield 12, 3) := by decide +kernel
theorem d_Cl_init_15 : decode (am_b mt_Cl_init) 15 = .ok (.aload_n 0, 1) := by decide +kernel
theorem d_Cl_init_16 : decode (am_b mt_Cl_init) 16 = .ok (.new 18, 3) := by decide +kernel
theorem d_Cl_init_19 : decode (am_b mt_Cl_init) 19 = .ok (.dup, 1) := by decide +kernel
theorem d_Cl_init_20 : decode (am_b mt_Cl_init) 20 = .ok (.bipush 20, 2) := by decide +kernel
theorem d_Cl_init_22 : decode (am_b mt_Cl_init) 22 = .ok (.invokespecial 20, 3) := by decide +kernel
theorem d_Cl_init_25 : decode (am_b mt_Cl_init) 25 = .ok (.putfield 23, 3) := by decide +kernel
theorem d_Cl_init_28 : decode (am_b mt_Cl_init) 28 = .ok (.aload_n 0, 1) := by decide +kernel
theorem d_Cl_init_29 : decode (am_b mt_Cl_init) 29 = .ok (.new 18, 3) := by decide +kernel
theorem d_Cl_init_32 : decode (am_b mt_Cl_init) 32 = .ok (.dup, 1) := by decide +kernel
theorem d_Cl_init_33 : decode (am_b mt_Cl_init) 33 = .ok (.bipush 20, 2) := by decide +kernel
theorem d_Cl_init_35 : decode (am_b mt_Cl_init) 35 = .ok (.invokespecial 20, 3) := by decide +kernel
theorem d_Cl_init_38 : decode (am_b mt_Cl_init) 38 = .ok (.putfield 27, 3) := by decide +kernel
theorem d_Cl_init_41 : decode (am_b mt_Cl_init) 41 = .ok (.aload_n 0, 1) := by decide +kernel
theorem d_Cl_init_42 : decode (am_b mt_Cl_init) 42 = .ok (.new 18, 3) := by decide +kernel
theorem d_Cl_init_45 : decode (am_b mt_Cl_init) 45 = .ok (.dup, 1) := by decide +kernel
theorem d_Cl_init_46 : decode (am_b mt_Cl_init) 46 = .ok (.iconst 1, 1) := by decide +kernel
theorem d_Cl_init_47 : decode (am_b mt_Cl_init) 47 = .ok (.invokespecial 20, 3) := by decide +kernel
theorem d_Cl_init_50 : decode (am_b mt_Cl_init) 50 = .ok (.putfield 30, 3) := by decide +kernel
theorem d_Cl_init_53 : decode (am_b mt_Cl_init) 53 = .ok (.aload_n 0, 1) := by decide +kernel
theorem d_Cl_init_54 : decode (am_b mt_Cl_init) 54 = .ok (.getfield 30, 3) := by decide +kernel
theorem d_Cl_init_57 : decode (am_b mt_Cl_init) 57 = .ok (.bipush 30, 2) := by decide +kernel
theorem d_Cl_init_59 : decode (am_b mt_Cl_init) 59 = .ok (.invokevirtual 33, 3) := by decide +kernel
theorem d_Cl_init_62 : decode (am_b mt_Cl_init) 62 = .ok (.aload_n 0, 1) := by decide +kernel
theorem d_Cl_init_63 : decode (am_b mt_Cl_init) 63 = .ok (.new 18, 3) := by decide +kernel
theorem d_Cl_init_66 : decode (am_b mt_Cl_init) 66 = .ok (.dup, 1) := by decide +kernel
theorem d_Cl_init_67 : decode (am_b mt_Cl_init) 67 = .ok (.bipush 8, 2) := by decide +kernel
theorem d_Cl_init_69 : decode (am_b mt_Cl_init) 69 = .ok (.invokespecial 20, 3) := by decide +kernel
theorem d_Cl_init_72 : decode (am_b mt_Cl_init) 72 = .ok (.putfield 36, 3) := by decide +kernel
theorem d_Cl_init_75 : decode (am_b mt_Cl_init) 75 = .ok (.aload_n 0, 1) := by decide +kernel
theorem d_Cl_init_76 : decode (am_b mt_Cl_init) 76 = .ok (.bipush 8, 2) := by decide +kernel
theorem d_Cl_init_78 : decode (am_b mt_Cl_init) 78 = .ok (.putfield 39, 3) := by decide +kernel
theorem d_Cl_init_81 : decode (am_b mt_Cl_init) 81 = .ok (.aload_n 0, 1) := by decide +kernel
theorem d_Cl_init_82 : decode (am_b mt_Cl_init) 82 = .ok (.iconst 0, 1) := by decide +kernel
theorem d_Cl_init_83 : decode (am_b mt_Cl_init) 83 = .ok (.putfield 43, 3) := by decide +kernel
theorem d_Cl_init_86 : decode (am_b mt_Cl_init) 86 = .ok (.aload_n 0, 1) := by decide +kernel
theorem d_Cl_init_87 : decode (am_b mt_Cl_init) 87 = .ok (.iconst 0, 1) := by decide +kernel
theorem d_Cl_init_88 : decode (am_b mt_Cl_init) 88 = .ok (.putfield 46, 3) := by decide +kernel
theorem d_Cl_init_91 : decode (am_b mt_Cl_init) 91 = .ok (.aload_n 0, 1) := by decide +kernel
theorem d_Cl_init_92 : decode (am_b mt_Cl_init) 92 = .ok (.iconst (-1), 1) := by decide +kernel
theorem d_Cl_init_93 : decode (am_b mt_Cl_init) 93 = .ok (.putfield 49, 3) := by decide +kernel
theorem d_Cl_init_96 : decode (am_b mt_Cl_init) 96 = .ok (.aload_n 0, 1) := by decide +kernel
theorem d_Cl_init_97 : decode (am_b mt_Cl_init) 97 = .ok (.iconst 0, 1) := by decide +kernel
theorem d_Cl_init_98 : decode (am_b mt_Cl_init) 98 = .ok (.putfield 52, 3) := by decide +kernel
theorem d_Cl_init_101 : decode (am_b mt_Cl_init) 101 = .ok (.aload_n 0, 1) := by decide +kernel
theorem d_Cl_init_102 : decode (am_b mt_Cl_init) 102 = .ok (.iconst 0, 1) := by decide +kernel
theorem d_Cl_init_103 : decode (am_b mt_Cl_init) 103 = .ok (.putfield 55, 3) := by decide +kernel
theorem d_Cl_init_106 : decode (am_b mt_Cl_init) 106 = .ok (.aload_n 0, 1) := by decide +kernel
theorem d_Cl_init_107 : decode (am_b mt_Cl_init) 107 = .ok (.iconst 0, 1) := by decide +kernel
theorem d_Cl_init_108 : decode (am_b mt_Cl_init) 108 = .ok (.putfield 58, 3) := by decide +kernel
theorem d_Cl_init_111 : decode (am_b mt_Cl_init) 111 = .ok (.aload_n 0, 1) := by decide +kernel
theorem d_Cl_init_112 : decode (am_b mt_Cl_init) 112 = .ok (.iconst 0, 1) := by decide +kernel
theorem d_Cl_init_113 : decode (am_b mt_Cl_init) 113 = .ok (.putfield 61, 3) := by decide +kernel
theorem d_Cl_init_116 : decode (am_b mt_Cl_init) 116 = .ok (.return_, 1) := by decide +kernel
theorem d_No_init_0 : decode (am_b mt_No_init) 0 = .ok (.aload_n 0, 1) := by decide +kernel
theorem d_No_init_1 : decode (am_b mt_No_init) 1 = .ok (.invokespecial 3, 3) := by decide +kernel
theorem d_No_init_4 : decode (am_b mt_No_init) 4 = .ok (.aload_n 0, 1) := by decide +kernel
theorem d_No_init_5 : decode (am_b mt_No_init) 5 = .ok (.iconst 4, 1) := by decide +kernel
theorem d_No_init_6 : decode (am_b mt_No_init) 6 = .ok (.anewarray 11, 3) := by decide +kernel
theorem d_No_init_9 : decode (am_b mt_No_init) 9 = .ok (.putfield 13, 3) := by decide +kernel
theorem d_No_init_12 : decode (am_b mt_No_init) 12 = .ok (.iconst 0, 1) := by decide +kernel
theorem d_No_init_13 : decode (am_b mt_No_init) 13 = .ok (.istore_n 1, 1) := by decide +kernel
theorem d_No_init_14 : decode (am_b mt_No_init) 14 = .ok (.iload_n 1, 1) := by decide +kernel
theorem d_No_init_15 : decode (am_b mt_No_init) 15 = .ok (.iconst 4, 1) := by decide +kernel
theorem d_No_init_16 : decode (am_b mt_No_init) 16 = .ok (.if_icmp .ge 24, 3) := by decide +kernel
theorem d_No_init_19 : decode (am_b mt_No_init) 19 = .ok (.aload_n 0, 1) := by decide +kernel
theorem d_No_init_20 : decode (am_b mt_No_init) 20 = .ok (.getfield 13, 3) := by decide +kernel
theorem d_No_init_23 : decode (am_b mt_No_init) 23 = .ok (.iload_n 1, 1) := by decide +kernel
theorem d_No_init_24 : decode (am_b mt_No_init) 24 = .ok (.new 11, 3) := by decide +kernel
theorem d_No_init_27 : decode (am_b mt_No_init) 27 = .ok (.dup, 1) := by decide +kernel
theorem d_No_init_28 : decode (am_b mt_No_init) 28 = .ok (.bipush 20, 2) := by decide +kernel
theorem d_No_init_30 : decode (am_b mt_No_init) 30 = .ok (.invokespecial 17, 3) := by decide +kernel
theorem d_No_init_33 : decode (am_b mt_No_init) 33 = .ok (.aastore, 1) := by decide +kernel
theorem d_No_init_34 : decode (am_b mt_No_init) 34 = .ok (.iinc 1 1, 3) := by decide +kernel
theorem d_No_init_37 : decode (am_b mt_No_init) 37 = .ok (.goto (-23), 3) := by decide +kernel
theorem d_No_init_40 : decode (am_b mt_No_init) 40 = .ok (.aload_n 0, 1) := by decide +kernel
theorem d_No_init_41 : decode (am_b mt_No_init) 41 = .ok (.iconst 0, 1) := by decide +kernel
theorem d_No_init_42 : decode (am_b mt_No_init) 42 = .ok (.putfield 20, 3) := by decide +kernel
theorem d_No_init_45 : decode (am_b mt_No_init) 45 = .ok (.aload_n 0, 1) := by decide +kernel
theorem d_No_init_46 : decode (am_b mt_No_init) 46 = .ok (.iconst 0, 1) := by decide +kernel
theorem d_No_init_47 : decode (am_b mt_No_init) 47 = .ok (.putfield 24, 3) := by decide +kernel
theorem d_No_init_50 : decode (am_b mt_No_init) 50 = .ok (.return_, 1) := by decide +kernel
theorem d_Ro_add_0 : decode (am_b mt_Ro_add) 0 = .ok (.aload_n 0, 1) := by decide +kernel
theorem d_Ro_add_1 : decode (am_b mt_Ro_add) 1 = .ok (.getfield 13, 3) := by decide +kernel
theorem d_Ro_add_4 : decode (am_b mt_Ro_add) 4 = .ok (.aload_n 0, 1) := by decide +kernel
theorem d_Ro_add_5 : decode (am_b mt_Ro_add) 5 = .ok (.getfield 7, 3) := by decide +kernel
theorem d_Ro_add_8 : decode (am_b mt_Ro_add) 8 = .ok (.arraylength, 1) := by decide +kernel
theorem d_Ro_add_9 : decode (am_b mt_Ro_add) 9 = .ok (.if_icmp .ge 27, 3) := by decide +kernel
theorem d_Ro_add_12 : decode (am_b mt_Ro_add) 12 = .ok (.aload_n 0, 1) := by decide +kernel
theorem d_Ro_add_13 : decode (am_b mt_Ro_add) 13 = .ok (.getfield 7, 3) := by decide +kernel
theorem d_Ro_add_16 : decode (am_b mt_Ro_add) 16 = .ok (.aload_n 0, 1) := by decide +kernel
theorem d_Ro_add_17 : decode (am_b mt_Ro_add) 17 = .ok (.getfield 13, 3) := by decide +kernel
theorem d_Ro_add_20 : decode (am_b mt_Ro_add) 20 = .ok (.iload_n 1, 1) := by decide +kernel
theorem d_Ro_add_21 : decode (am_b mt_Ro_add) 21 = .ok (.sipush 255, 3) := by decide +kernel
theorem d_Ro_add_24 : decode (am_b mt_Ro_add) 24 = .ok (.iand, 1) := by decide +kernel
theorem d_Ro_add_25 : decode (am_b mt_Ro_add) 25 = .ok (.iastore, 1) := by decide +kernel
theorem d_Ro_add_26 : decode (am_b mt_Ro_add) 26 = .ok (.aload_n 0, 1) := by decide +kernel
theorem d_Ro_add_27 : decode (am_b mt_Ro_add) 27 = .ok (.dup, 1) := by decide +kernel
theorem d_Ro_add_28 : decode (am_b mt_Ro_add) 28 = .ok (.getfield 13, 3) := by decide +kernel
theorem d_Ro_add_31 : decode (am_b mt_Ro_add) 31 = .ok (.iconst 1, 1) := by decide +kernel
theorem d_Ro_add_32 : decode (am_b mt_Ro_add) 32 = .ok (.iadd, 1) := by decide +kernel
theorem d_Ro_add_33 : decode (am_b mt_Ro_add) 33 = .ok (.putfield 13, 3) := by decide +kernel
theorem d_Ro_add_36 : decode (am_b mt_Ro_add) 36 = .ok (.return_, 1) := by decide +kernel
theorem d_Se_init_0 : decode (am_b mt_Se_init) 0 = .ok (.aload_n 0, 1) := by decide +kernel
theorem d_Se_init_1 : decode (am_b mt_Se_init) 1 = .ok (.invokespecial 3, 3) := by decide +kernel
theorem d_Se_init_4 : decode (am_b mt_Se_init) 4 = .ok (.aload_n 0, 1) := by decide +kernel
theorem d_Se_init_5 : decode (am_b mt_Se_init) 5 = .ok (.bipush 10, 2) := by decide +kernel
theorem d_Se_init_7 : decode (am_b mt_Se_init) 7 = .ok (.anewarray 11, 3) := by decide +kernel
theorem d_Se_init_10 : decode (am_b mt_Se_init) 10 = .ok (.putfield 13, 3) := by decide +kernel
theorem d_Se_init_13 : decode (am_b mt_Se_init) 13 = .ok (.iconst 0, 1) := by decide +kernel
theorem d_Se_init_14 : decode (am_b mt_Se_init) 14 = .ok (.istore_n 1, 1) := by decide +kernel
theorem d_Se_init_15 : decode (am_b mt_Se_init) 15 = .ok (.iload_n 1, 1) := by decide +kernel
theorem d_Se_init_16 : decode (am_b mt_Se_init) 16 = .ok (.bipush 10, 2) := by decide +kernel
theorem d_Se_init_18 : decode (am_b mt_Se_init) 18 = .ok (.if_icmp .ge 22, 3) := by decide +kernel
theorem d_Se_init_21 : decode (am_b mt_Se_init) 21 = .ok (.aload_n 0, 1) := by decide +kernel
theorem d_Se_init_22 : decode (am_b mt_Se_init) 22 = .ok (.getfield 13, 3) := by decide +kernel
theorem d_Se_init_25 : decode (am_b mt_Se_init) 25 = .ok (.iload_n 1, 1) := by decide +kernel
theorem d_Se_init_26 : decode (am_b mt_Se_init) 26 = .ok (.new 11, 3) := by decide +kernel
theorem d_Se_init_29 : decode (am_b mt_Se_init) 29 = .ok (.dup, 1) := by decide +kernel
theorem d_Se_init_30 : decode (am_b mt_Se_init) 30 = .ok (.invokespecial 17, 3) := by decide +kernel
theorem d_Se_init_33 : decode (am_b mt_Se_init) 33 = .ok (.aastore, 1) := by decide +kernel
theorem d_Se_init_34 : decode (am_b mt_Se_init) 34 = .ok (.iinc 1 1, 3) := by decide +kernel
theorem d_Se_init_37 : decode (am_b mt_Se_init) 37 = .ok (.goto (-22), 3) := by decide +kernel
theorem d_Se_init_40 : decode (am_b mt_Se_init) 40 = .ok (.aload_n 0, 1) := by decide +kernel
theorem d_Se_init_41 : decode (am_b mt_Se_init) 41 = .ok (.iconst 0, 1) := by decide +kernel
theorem d_Se_init_42 : decode (am_b mt_Se_init) 42 = .ok (.putfield 18, 3) := by decide +kernel
theorem d_Se_init_45 : decode (am_b mt_Se_init) 45 = .ok (.aload_n 0, 1) := by decide +kernel
theorem d_Se_init_46 : decode (am_b mt_Se_init) 46 = .ok (.iconst 4, 1) := by decide +kernel
theorem d_Se_init_47 : decode (am_b mt_Se_init) 47 = .ok (.anewarray 22, 3) := by decide +kernel
theorem d_Se_init_50 : decode (am_b mt_Se_init) 50 = .ok (.putfield 24, 3) := by decide +kernel
theorem d_Se_init_53 : decode (am_b mt_Se_init) 53 = .ok (.iconst 0, 1) := by decide +kernel
theorem d_Se_init_54 : decode (am_b mt_Se_init) 54 = .ok (.istore_n 1, 1) := by decide +kernel
theorem d_Se_init_55 : decode (am_b mt_Se_init) 55 = .ok (.iload_n 1, 1) := by decide +kernel
theorem d_Se_init_56 : decode (am_b mt_Se_init) 56 = .ok (.iconst 4, 1) := by decide +kernel
theorem d_Se_init_57 : decode (am_b mt_Se_init) 57 = .ok (.if_icmp .ge 24, 3) := by decide +kernel
theorem d_Se_init_60 : decode (am_b mt_Se_init) 60 = .ok (.aload_n 0, 1) := by decide +kernel
theorem d_Se_init_61 : decode (am_b mt_Se_init) 61 = .ok (.getfield 24, 3) := by decide +kernel
theorem d_Se_init_64 : decode (am_b mt_Se_init) 64 = .ok (.iload_n 1, 1) := by decide +kernel
theorem d_Se_init_65 : decode (am_b mt_Se_init) 65 = .ok (.new 22, 3) := by decide +kernel
theorem d_Se_init_68 : decode (am_b mt_Se_init) 68 = .ok (.dup, 1) := by decide +kernel
theorem d_Se_init_69 : decode (am_b mt_Se_init) 69 = .ok (.bipush 20, 2) := by decide +kernel
theorem d_Se_init_71 : decode (am_b mt_Se_init) 71 = .ok (.invokespecial 28, 3) := by decide +kernel
theorem d_Se_init_74 : decode (am_b mt_Se_init) 74 = .ok (.aastore, 1) := by decide +kernel
theorem d_Se_init_75 : decode (am_b mt_Se_init) 75 = .ok (.iinc 1 1, 3) := by decide +kernel
theorem d_Se_init_78 : decode (am_b mt_Se_init) 78 = .ok (.goto (-23), 3) := by decide +kernel
theorem d_Se_init_81 : decode (am_b mt_Se_init) 81 = .ok (.aload_n 0, 1) := by decide +kernel
theorem d_Se_init_82 : decode (am_b mt_Se_init) 82 = .ok (.iconst 0, 1) := by decide +kernel
theorem d_Se_init_83 : decode (am_b mt_Se_init) 83 = .ok (.putfield 31, 3) := by decide +kernel
theorem d_Se_init_86 : decode (am_b mt_Se_init) 86 = .ok (.aload_n 0, 1) := by decide +kernel
theorem d_Se_init_87 : decode (am_b mt_Se_init) 87 = .ok (.bipush 10, 2) := by decide +kernel
theorem d_Se_init_89 : decode (am_b mt_Se_init) 89 = .ok (.newarray .int, 2) := by decide +kernel
theorem d_Se_init_91 : decode (am_b mt_Se_init) 91 = .ok (.putfield 34, 3) := by decide +kernel
theorem d_Se_init_94 : decode (am_b mt_Se_init) 94 = .ok (.aload_n 0, 1) := by decide +kernel
theorem d_Se_init_95 : decode (am_b mt_Se_init) 95 = .ok (.new 22, 3) := by decide +kernel
theorem d_Se_init_98 : decode (am_b mt_Se_init) 98 = .ok (.dup, 1) := by decide +kernel
theorem d_Se_init_99 : decode (am_b mt_Se_init) 99 = .ok (.bipush 20, 2) := by decide +kernel
theorem d_Se_init_101 : decode (am_b mt_Se_init) 101 = .ok (.invokespecial 28, 3) := by decide +kernel
theorem d_Se_init_104 : decode (am_b mt_Se_init) 104 = .ok (.putfield 38, 3) := by decide +kernel
theorem d_Se_init_107 : decode (am_b mt_Se_init) 107 = .ok (.aload_n 0, 1) := by decide +kernel
theorem d_Se_init_108 : decode (am_b mt_Se_init) 108 = .ok (.bipush 8, 2) := by decide +kernel
theorem d_Se_init_110 : decode (am_b mt_Se_init) 110 = .ok (.putfield 42, 3) := by decide +kernel
theorem d_Se_init_113 : decode (am_b mt_Se_init) 113 = .ok (.aload_n 0, 1) := by decide +kernel
theorem d_Se_init_114 : decode (am_b mt_Se_init) 114 = .ok (.iconst 0, 1) := by decide +kernel
theorem d_Se_init_115 : decode (am_b mt_Se_init) 115 = .ok (.putfield 45, 3) := by decide +kernel
theorem d_Se_init_118 : decode (am_b mt_Se_init) 118 = .ok (.return_, 1) := by decide +kernel
theorem d_At_init_0 : decode (am_b mt_At_init) 0 = .ok (.aload_n 0, 1) := by decide +kernel
theorem d_At_init_1 : decode (am_b mt_At_init) 1 = .ok (.invokespecial 3, 3) := by decide +kernel
theorem d_At_init_4 : decode (am_b mt_At_init) 4 = .ok (.aload_n 0, 1) := by decide +kernel
theorem d_At_init_5 : decode (am_b mt_At_init) 5 = .ok (.new 9, 3) := by decide +kernel
theorem d_At_init_8 : decode (am_b mt_At_init) 8 = .ok (.dup, 1) := by decide +kernel
theorem d_At_init_9 : decode (am_b mt_At_init) 9 = .ok (.bipush 16, 2) := by decide +kernel
theorem d_At_init_11 : decode (am_b mt_At_init) 11 = .ok (.invokespecial 11, 3) := by decide +kernel
theorem d_At_init_14 : decode (am_b mt_At_init) 14 = .ok (.putfield 14, 3) := by decide +kernel
theorem d_At_init_17 : decode (am_b mt_At_init) 17 = .ok (.aload_n 0, 1) := by decide +kernel
theorem d_At_init_18 : decode (am_b mt_At_init) 18 = .ok (.iconst 0, 1) := by decide +kernel
theorem d_At_init_19 : decode (am_b mt_At_init) 19 = .ok (.putfield 20, 3) := by decide +kernel
theorem d_At_init_22 : decode (am_b mt_At_init) 22 = .ok (.aload_n 0, 1) := by decide +kernel
theorem d_At_init_23 : decode (am_b mt_At_init) 23 = .ok (.iconst 0, 1) := by decide +kernel
theorem d_At_init_24 : decode (am_b mt_At_init) 24 = .ok (.putfield 24, 3) := by decide +kernel
theorem d_At_init_27 : decode (am_b mt_At_init) 27 = .ok (.return_, 1) := by decide +kernel
theorem d_Al_error_0 : decode (am_b mt_Al_error) 0 = .ok (.aload_n 0, 1) := by decide +kernel
theorem d_Al_error_1 : decode (am_b mt_Al_error) 1 = .ok (.getfield 38, 3) := by decide +kernel
theorem d_Al_error_4 : decode (am_b mt_Al_error) 4 = .ok (.invokevirtual 137, 3) := by decide +kernel
theorem d_Al_error_7 : decode (am_b mt_Al_error) 7 = .ok (.ireturn, 1) := by decide +kernel
theorem d_Cl_failure_0 : decode (am_b mt_Cl_failure) 0 = .ok (.aload_n 0, 1) := by decide +kernel
theorem d_Cl_failure_1 : decode (am_b mt_Cl_failure) 1 = .ok (.getfield 52, 3) := by decide +kernel
theorem d_Cl_failure_4 : decode (am_b mt_Cl_failure) 4 = .ok (.ireturn, 1) := by decide +kernel
theorem d_Al_look_0 : decode (am_b mt_Al_look) 0 = .ok (.iload_n 1, 1) := by decide +kernel
theorem d_Al_look_1 : decode (am_b mt_Al_look) 1 = .ok (.tableswitch 130 0 8 #[51, 56, 61, 69, 77, 85, 93, 101, 114], 51) := by decide +kernel
theorem d_Al_look_52 : decode (am_b mt_Al_look) 52 = .ok (.aload_n 0, 1) := by decide +kernel
theorem d_Al_look_53 : decode (am_b mt_Al_look) 53 = .ok (.getfield 53, 3) := by decide +kernel
theorem d_Al_look_56 : decode (am_b mt_Al_look) 56 = .ok (.ireturn, 1) := by decide +kernel
theorem d_Al_look_57 : decode (am_b mt_Al_look) 57 = .ok (.aload_n 0, 1) := by decide +kernel
theorem d_Al_look_58 : decode (am_b mt_Al_look) 58 = .ok (.getfield 49, 3) := by decide +kernel
theorem d_Al_look_61 : decode (am_b mt_Al_look) 61 = .ok (.ireturn, 1) := by decide +kernel
theorem d_Al_look_62 : decode (am_b mt_Al_look) 62 = .ok (.aload_n 0, 1) := by decide +kernel
theorem d_Al_look_63 : decode (am_b mt_Al_look) 63 = .ok (.getfield 28, 3) := by decide +kernel
theorem d_Al_look_66 : decode (am_b mt_Al_look) 66 = .ok (.invokevirtual 163, 3) := by decide +kernel
theorem d_Al_look_69 : decode (am_b mt_Al_look) 69 = .ok (.ireturn, 1) := by decide +kernel
theorem d_Al_look_70 : decode (am_b mt_Al_look) 70 = .ok (.aload_n 0, 1) := by decide +kernel
theorem d_Al_look_71 : decode (am_b mt_Al_look) 71 = .ok (.getfield 32, 3) := by decide +kernel
theorem d_Al_look_74 : decode (am_b mt_Al_look) 74 = .ok (.invokevirtual 163, 3) := by decide +kernel
theorem d_Al_look_77 : decode (am_b mt_Al_look) 77 = .ok (.ireturn, 1) := by decide +kernel
theorem d_Al_look_78 : decode (am_b mt_Al_look) 78 = .ok (.aload_n 0, 1) := by decide +kernel
theorem d_Al_look_79 : decode (am_b mt_Al_look) 79 = .ok (.getfield 38, 3) := by decide +kernel
theorem d_Al_look_82 : decode (am_b mt_Al_look) 82 = .ok (.invokevirtual 124, 3) := by decide +kernel
theorem d_Al_look_85 : decode (am_b mt_Al_look) 85 = .ok (.ireturn, 1) := by decide +kernel
theorem d_Al_look_86 : decode (am_b mt_Al_look) 86 = .ok (.aload_n 0, 1) := by decide +kernel
theorem d_Al_look_87 : decode (am_b mt_Al_look) 87 = .ok (.getfield 45, 3) := by decide +kernel
theorem d_Al_look_90 : decode (am_b mt_Al_look) 90 = .ok (.invokevirtual 166, 3) := by decide +kernel
theorem d_Al_look_93 : decode (am_b mt_Al_look) 93 = .ok (.ireturn, 1) := by decide +kernel
theorem d_Al_look_94 : decode (am_b mt_Al_look) 94 = .ok (.aload_n 0, 1) := by decide +kernel
theorem d_Al_look_95 : decode (am_b mt_Al_look) 95 = .ok (.getfield 45, 3) := by decide +kernel
theorem d_Al_look_98 : decode (am_b mt_Al_look) 98 = .ok (.invokevirtual 167, 3) := by decide +kernel
theorem d_Al_look_101 : decode (am_b mt_Al_look) 101 = .ok (.ireturn, 1) := by decide +kernel
theorem d_Al_look_102 : decode (am_b mt_Al_look) 102 = .ok (.aload_n 0, 1) := by decide +kernel
theorem d_Al_look_103 : decode (am_b mt_Al_look) 103 = .ok (.getfield 56, 3) := by decide +kernel
theorem d_Al_look_106 : decode (am_b mt_Al_look) 106 = .ok (.ifCond .eq 7, 3) := by decide +kernel
theorem d_Al_look_109 : decode (am_b mt_Al_look) 109 = .ok (.iconst 1, 1) := by decide +kernel
theorem d_Al_look_110 : decode (am_b mt_Al_look) 110 = .ok (.goto 4, 3) := by decide +kernel
theorem d_Al_look_113 : decode (am_b mt_Al_look) 113 = .ok (.iconst 0, 1) := by decide +kernel
theorem d_Al_look_114 : decode (am_b mt_Al_look) 114 = .ok (.ireturn, 1) := by decide +kernel
theorem d_Al_look_115 : decode (am_b mt_Al_look) 115 = .ok (.aload_n 0, 1) := by decide +kernel
theorem d_Al_look_116 : decode (am_b mt_Al_look) 116 = .ok (.getfield 45, 3) := by decide +kernel
theorem d_Al_look_119 : decode (am_b mt_Al_look) 119 = .ok (.invokevirtual 110, 3) := by decide +kernel
theorem d_Al_look_122 : decode (am_b mt_Al_look) 122 = .ok (.ifCond .eq 7, 3) := by decide +kernel
theorem d_Al_look_125 : decode (am_b mt_Al_look) 125 = .ok (.iconst 1, 1) := by decide +kernel
theorem d_Al_look_126 : decode (am_b mt_Al_look) 126 = .ok (.goto 4, 3) := by decide +kernel
theorem d_Al_look_129 : decode (am_b mt_Al_look) 129 = .ok (.iconst 0, 1) := by decide +kernel
theorem d_Al_look_130 : decode (am_b mt_Al_look) 130 = .ok (.ireturn, 1) := by decide +kernel
theorem d_Al_look_131 : decode (am_b mt_Al_look) 131 = .ok (.iconst (-1), 1) := by decide +kernel
theorem d_Al_look_132 : decode (am_b mt_Al_look) 132 = .ok (.ireturn, 1) := by decide +kernel
theorem d_De_misses_0 : decode (am_b mt_De_misses) 0 = .ok (.aload_n 0, 1) := by decide +kernel
theorem d_De_misses_1 : decode (am_b mt_De_misses) 1 = .ok (.getfield 54, 3) := by decide +kernel
theorem d_De_misses_4 : decode (am_b mt_De_misses) 4 = .ok (.ireturn, 1) := by decide +kernel
theorem d_Cl_limit_0 : decode (am_b mt_Cl_limit) 0 = .ok (.aload_n 0, 1) := by decide +kernel
theorem d_Cl_limit_1 : decode (am_b mt_Cl_limit) 1 = .ok (.getfield 39, 3) := by decide +kernel
theorem d_Cl_limit_4 : decode (am_b mt_Cl_limit) 4 = .ok (.ireturn, 1) := by decide +kernel
theorem d_Se_limit_0 : decode (am_b mt_Se_limit) 0 = .ok (.aload_n 0, 1) := by decide +kernel
theorem d_Se_limit_1 : decode (am_b mt_Se_limit) 1 = .ok (.getfield 42, 3) := by decide +kernel
theorem d_Se_limit_4 : decode (am_b mt_Se_limit) 4 = .ok (.ireturn, 1) := by decide +kernel
theorem d_Se_keptParts_0 : decode (am_b mt_Se_keptParts) 0 = .ok (.aload_n 0, 1) := by decide +kernel
theorem d_Se_keptParts_1 : decode (am_b mt_Se_keptParts) 1 = .ok (.getfield 31, 3) := by decide +kernel
theorem d_Se_keptParts_4 : decode (am_b mt_Se_keptParts) 4 = .ok (.ireturn, 1) := by decide +kernel
theorem d_Se_isUnconfirmed_0 : decode (am_b mt_Se_isUnconfirmed) 0 = .ok (.aload_n 0, 1) := by decide +kernel
theorem d_Se_isUnconfirmed_1 : decode (am_b mt_Se_isUnconfirmed) 1 = .ok (.getfield 45, 3) := by decide +kernel
theorem d_Se_isUnconfirmed_4 : decode (am_b mt_Se_isUnconfirmed) 4 = .ok (.ireturn, 1) := by decide +kernel
theorem d_La_cell_0 : decode (am_b mt_La_cell) 0 = .ok (.iload_n 1, 1) := by decide +kernel
theorem d_La_cell_1 : decode (am_b mt_La_cell) 1 = .ok (.aload_n 0, 1) := by decide +kernel
theorem d_La_cell_2 : decode (am_b mt_La_cell) 2 = .ok (.arraylength, 1) := by decide +kernel
theorem d_La_cell_3 : decode (am_b mt_La_cell) 3 = .ok (.if_icmp .ge 9, 3) := by decide +kernel
theorem d_La_cell_6 : decode (am_b mt_La_cell) 6 = .ok (.aload_n 0, 1) := by decide +kernel
theorem d_La_cell_7 : decode (am_b mt_La_cell) 7 = .ok (.iload_n 1, 1) := by decide +kernel
theorem d_La_cell_8 : decode (am_b mt_La_cell) 8 = .ok (.iaload, 1) := by decide +kernel
theorem d_La_cell_9 : decode (am_b mt_La_cell) 9 = .ok (.goto 4, 3) := by decide +kernel
theorem d_La_cell_12 : decode (am_b mt_La_cell) 12 = .ok (.iconst 0, 1) := by decide +kernel
theorem d_La_cell_13 : decode (am_b mt_La_cell) 13 = .ok (.ireturn, 1) := by decide +kernel
theorem d_La_attribute_0 : decode (am_b mt_La_attribute) 0 = .ok (.aload 6, 2) := by decide +kernel
theorem d_La_attribute_2 : decode (am_b mt_La_attribute) 2 = .ok (.iconst 0, 1) := by decide +kernel
theorem d_La_attribute_3 : decode (am_b mt_La_attribute) 3 = .ok (.aload_n 0, 1) := by decide +kernel
theorem d_La_attribute_4 : decode (am_b mt_La_attribute) 4 = .ok (.iload_n 1, 1) := by decide +kernel
theorem d_La_attribute_5 : decode (am_b mt_La_attribute) 5 = .ok (.iload_n 2, 1) := by decide +kernel
theorem d_La_attribute_6 : decode (am_b mt_La_attribute) 6 = .ok (.lload_n 3, 1) := by decide +kernel
theorem d_La_attribute_7 : decode (am_b mt_La_attribute) 7 = .ok (.iload 5, 2) := by decide +kernel
theorem d_La_attribute_9 : decode (am_b mt_La_attribute) 9 = .ok (.invokevirtual 7, 3) := by decide +kernel
theorem d_La_attribute_12 : decode (am_b mt_La_attribute) 12 = .ok (.i2l, 1) := by decide +kernel
theorem d_La_attribute_13 : decode (am_b mt_La_attribute) 13 = .ok (.lastore, 1) := by decide +kernel
theorem d_La_attribute_14 : decode (am_b mt_La_attribute) 14 = .ok (.goto 11, 3) := by decide +kernel
theorem d_La_attribute_17 : decode (am_b mt_La_attribute) 17 = .ok (.astore 7, 2) := by decide +kernel
theorem d_La_attribute_19 : decode (am_b mt_La_attribute) 19 = .ok (.iconst 1, 1) := by decide +kernel
theorem d_La_attribute_20 : decode (am_b mt_La_attribute) 20 = .ok (.ireturn, 1) := by decide +kernel
theorem d_La_attribute_21 : decode (am_b mt_La_attribute) 21 = .ok (.astore 7, 2) := by decide +kernel
theorem d_La_attribute_23 : decode (am_b mt_La_attribute) 23 = .ok (.iconst 2, 1) := by decide +kernel
theorem d_La_attribute_24 : decode (am_b mt_La_attribute) 24 = .ok (.ireturn, 1) := by decide +kernel
theorem d_La_attribute_25 : decode (am_b mt_La_attribute) 25 = .ok (.iconst 0, 1) := by decide +kernel
theorem d_La_attribute_26 : decode (am_b mt_La_attribute) 26 = .ok (.ireturn, 1) := by decide +kernel
theorem d_Al_attribute_0 : decode (am_b mt_Al_attribute) 0 = .ok (.iload_n 1, 1) := by decide +kernel
theorem d_Al_attribute_1 : decode (am_b mt_Al_attribute) 1 = .ok (.invokestatic 60, 3) := by decide +kernel
theorem d_Al_attribute_4 : decode (am_b mt_Al_attribute) 4 = .ok (.ifCond .eq 20, 3) := by decide +kernel
theorem d_Al_attribute_7 : decode (am_b mt_Al_attribute) 7 = .ok (.iload_n 2, 1) := by decide +kernel
theorem d_Al_attribute_8 : decode (am_b mt_Al_attribute) 8 = .ok (.ifCond .lt 16, 3) := by decide +kernel
theorem d_Al_attribute_11 : decode (am_b mt_Al_attribute) 11 = .ok (.iload_n 2, 1) := by decide +kernel
theorem d_Al_attribute_12 : decode (am_b mt_Al_attribute) 12 = .ok (.iconst 3, 1) := by decide +kernel
theorem d_Al_attribute_13 : decode (am_b mt_Al_attribute) 13 = .ok (.if_icmp .gt 11, 3) := by decide +kernel
theorem d_Al_attribute_16 : decode (am_b mt_Al_attribute) 16 = .ok (.iload 5, 2) := by decide +kernel
theorem d_Al_attribute_18 : decode (am_b mt_Al_attribute) 18 = .ok (.invokestatic 64, 3) := by decide +kernel
theorem d_Al_attribute_21 : decode (am_b mt_Al_attribute) 21 = .ok (.ifCond .ne 11, 3) := by decide +kernel
theorem d_Al_attribute_24 : decode (am_b mt_Al_attribute) 24 = .ok (.new 67, 3) := by decide +kernel
theorem d_Al_attribute_27 : decode (am_b mt_Al_attribute) 27 = .ok (.dup, 1) := by decide +kernel
theorem d_Al_attribute_28 : decode (am_b mt_Al_attribute) 28 = .ok (.invokespecial 69, 3) := by decide +kernel
theorem d_Al_attribute_31 : decode (am_b mt_Al_attribute) 31 = .ok (.athrow, 1) := by decide +kernel
theorem d_Al_attribute_32 : decode (am_b mt_Al_attribute) 32 = .ok (.aload_n 0, 1) := by decide +kernel
theorem d_Al_attribute_33 : decode (am_b mt_Al_attribute) 33 = .ok (.getfield 45, 3) := by decide +kernel
theorem d_Al_attribute_36 : decode (am_b mt_Al_attribute) 36 = .ok (.invokevirtual 70, 3) := by decide +kernel
theorem d_Al_attribute_39 : decode (am_b mt_Al_attribute) 39 = .ok (.ifCond .eq 11, 3) := by decide +kernel
theorem d_Al_attribute_42 : decode (am_b mt_Al_attribute) 42 = .ok (.new 74, 3) := by decide +kernel
theorem d_Al_attribute_45 : decode (am_b mt_Al_attribute) 45 = .ok (.dup, 1) := by decide +kernel
theorem d_Al_attribute_46 : decode (am_b mt_Al_attribute) 46 = .ok (.invokespecial 76, 3) := by decide +kernel
theorem d_Al_attribute_49 : decode (am_b mt_Al_attribute) 49 = .ok (.athrow, 1) := by decide +kernel
theorem d_Al_attribute_50 : decode (am_b mt_Al_attribute) 50 = .ok (.aload_n 0, 1) := by decide +kernel
theorem d_Al_attribute_51 : decode (am_b mt_Al_attribute) 51 = .ok (.getfield 45, 3) := by decide +kernel
theorem d_Al_attribute_54 : decode (am_b mt_Al_attribute) 54 = .ok (.iload_n 1, 1) := by decide +kernel
theorem d_Al_attribute_55 : decode (am_b mt_Al_attribute) 55 = .ok (.iload_n 2, 1) := by decide +kernel
theorem d_Al_attribute_56 : decode (am_b mt_Al_attribute) 56 = .ok (.lload_n 3, 1) := by decide +kernel
theorem d_Al_attribute_57 : decode (am_b mt_Al_attribute) 57 = .ok (.iload 5, 2) := by decide +kernel
theorem d_Al_attribute_59 : decode (am_b mt_Al_attribute) 59 = .ok (.invokevirtual 77, 3) := by decide +kernel
theorem d_Al_attribute_62 : decode (am_b mt_Al_attribute) 62 = .ok (.ireturn, 1) := by decide +kernel
theorem d_Al_isByte_0 : decode (am_b mt_Al_isByte) 0 = .ok (.iload_n 0, 1) := by decide +kernel
theorem d_Al_isByte_1 : decode (am_b mt_Al_isByte) 1 = .ok (.ifCond .lt 14, 3) := by decide +kernel
theorem d_Al_isByte_4 : decode (am_b mt_Al_isByte) 4 = .ok (.iload_n 0, 1) := by decide +kernel
theorem d_Al_isByte_5 : decode (am_b mt_Al_isByte) 5 = .ok (.sipush 255, 3) := by decide +kernel
theorem d_Al_isByte_8 : decode (am_b mt_Al_isByte) 8 = .ok (.if_icmp .gt 7, 3) := by decide +kernel
theorem d_Al_isByte_11 : decode (am_b mt_Al_isByte) 11 = .ok (.iconst 1, 1) := by decide +kernel
theorem d_Al_isByte_12 : decode (am_b mt_Al_isByte) 12 = .ok (.goto 4, 3) := by decide +kernel
theorem d_Al_isByte_15 : decode (am_b mt_Al_isByte) 15 = .ok (.iconst 0, 1) := by decide +kernel
theorem d_Al_isByte_16 : decode (am_b mt_Al_isByte) 16 = .ok (.ireturn, 1) := by decide +kernel
theorem d_Al_isNumberSize_0 : decode (am_b mt_Al_isNumberSize) 0 = .ok (.iload_n 0, 1) := by decide +kernel
theorem d_Al_isNumberSize_1 : decode (am_b mt_Al_isNumberSize) 1 = .ok (.ifCond .lt 13, 3) := by decide +kernel
theorem d_Al_isNumberSize_4 : decode (am_b mt_Al_isNumberSize) 4 = .ok (.iload_n 0, 1) := by decide +kernel
theorem d_Al_isNumberSize_5 : decode (am_b mt_Al_isNumberSize) 5 = .ok (.bipush 8, 2) := by decide +kernel
theorem d_Al_isNumberSize_7 : decode (am_b mt_Al_isNumberSize) 7 = .ok (.if_icmp .gt 7, 3) := by decide +kernel
theorem d_Al_isNumberSize_10 : decode (am_b mt_Al_isNumberSize) 10 = .ok (.iconst 1, 1) := by decide +kernel
theorem d_Al_isNumberSize_11 : decode (am_b mt_Al_isNumberSize) 11 = .ok (.goto 4, 3) := by decide +kernel
theorem d_Al_isNumberSize_14 : decode (am_b mt_Al_isNumberSize) 14 = .ok (.iconst 0, 1) := by decide +kernel
theorem d_Al_isNumberSize_15 : decode (am_b mt_Al_isNumberSize) 15 = .ok (.ireturn, 1) := by decide +kernel
theorem d_Se_isFull_0 : decode (am_b mt_Se_isFull) 0 = .ok (.aload_n 0, 1) := by decide +kernel
theorem d_Se_isFull_1 : decode (am_b mt_Se_isFull) 1 = .ok (.getfield 18, 3) := by decide +kernel
theorem d_Se_isFull_4 : decode (am_b mt_Se_isFull) 4 = .ok (.bipush 10, 2) := by decide +kernel
theorem d_Se_isFull_6 : decode (am_b mt_Se_isFull) 6 = .ok (.if_icmp .lt 7, 3) := by decide +kernel
theorem d_Se_isFull_9 : decode (am_b mt_Se_isFull) 9 = .ok (.iconst 1, 1) := by decide +kernel
theorem d_Se_isFull_10 : decode (am_b mt_Se_isFull) 10 = .ok (.goto 4, 3) := by decide +kernel
theorem d_Se_isFull_13 : decode (am_b mt_Se_isFull) 13 = .ok (.iconst 0, 1) := by decide +kernel
theorem d_Se_isFull_14 : decode (am_b mt_Se_isFull) 14 = .ok (.ireturn, 1) := by decide +kernel
theorem d_Se_addAttribute_0 : decode (am_b mt_Se_addAttribute) 0 = .ok (.aload_n 0, 1) := by decide +kernel
theorem d_Se_addAttribute_1 : decode (am_b mt_Se_addAttribute) 1 = .ok (.getfield 13, 3) := by decide +kernel
theorem d_Se_addAttribute_4 : decode (am_b mt_Se_addAttribute) 4 = .ok (.aload_n 0, 1) := by decide +kernel
theorem d_Se_addAttribute_5 : decode (am_b mt_Se_addAttribute) 5 = .ok (.getfield 18, 3) := by decide +kernel
theorem d_Se_addAttribute_8 : decode (am_b mt_Se_addAttribute) 8 = .ok (.aaload, 1) := by decide +kernel
theorem d_Se_addAttribute_9 : decode (am_b mt_Se_addAttribute) 9 = .ok (.iload_n 1, 1) := by decide +kernel
theorem d_Se_addAttribute_10 : decode (am_b mt_Se_addAttribute) 10 = .ok (.iload_n 2, 1) := by decide +kernel
theorem d_Se_addAttribute_11 : decode (am_b mt_Se_addAttribute) 11 = .ok (.invokevirtual 52, 3) := by decide +kernel
theorem d_Se_addAttribute_14 : decode (am_b mt_Se_addAttribute) 14 = .ok (.aload_n 0, 1) := by decide +kernel
theorem d_Se_addAttribute_15 : decode (am_b mt_Se_addAttribute) 15 = .ok (.getfield 13, 3) := by decide +kernel
theorem d_Se_addAttribute_18 : decode (am_b mt_Se_addAttribute) 18 = .ok (.aload_n 0, 1) := by decide +kernel
theorem d_Se_addAttribute_19 : decode (am_b mt_Se_addAttribute) 19 = .ok (.getfield 18, 3) := by decide +kernel
theorem d_Se_addAttribute_22 : decode (am_b mt_Se_addAttribute) 22 = .ok (.aaload, 1) := by decide +kernel
theorem d_Se_addAttribute_23 : decode (am_b mt_Se_addAttribute) 23 = .ok (.getfield 49, 3) := by decide +kernel
theorem d_Se_addAttribute_26 : decode (am_b mt_Se_addAttribute) 26 = .ok (.lload_n 3, 1) := by decide +kernel
theorem d_Se_addAttribute_27 : decode (am_b mt_Se_addAttribute) 27 = .ok (.iload 5, 2) := by decide +kernel
theorem d_Se_addAttribute_29 : decode (am_b mt_Se_addAttribute) 29 = .ok (.invokevirtual 56, 3) := by decide +kernel
theorem d_Se_addAttribute_32 : decode (am_b mt_Se_addAttribute) 32 = .ok (.aload_n 0, 1) := by decide +kernel
theorem d_Se_addAttribute_33 : decode (am_b mt_Se_addAttribute) 33 = .ok (.dup, 1) := by decide +kernel
theorem d_Se_addAttribute_34 : decode (am_b mt_Se_addAttribute) 34 = .ok (.getfield 18, 3) := by decide +kernel
theorem d_Se_addAttribute_37 : decode (am_b mt_Se_addAttribute) 37 = .ok (.iconst 1, 1) := by decide +kernel
theorem d_Se_addAttribute_38 : decode (am_b mt_Se_addAttribute) 38 = .ok (.iadd, 1) := by decide +kernel
theorem d_Se_addAttribute_39 : decode (am_b mt_Se_addAttribute) 39 = .ok (.putfield 18, 3) := by decide +kernel
theorem d_Se_addAttribute_42 : decode (am_b mt_Se_addAttribute) 42 = .ok (.aload_n 0, 1) := by decide +kernel
theorem d_Se_addAttribute_43 : decode (am_b mt_Se_addAttribute) 43 = .ok (.getfield 18, 3) := by decide +kernel
theorem d_Se_addAttribute_46 : decode (am_b mt_Se_addAttribute) 46 = .ok (.ireturn, 1) := by decide +kernel
theorem d_At_become_0 : decode (am_b mt_At_become) 0 = .ok (.aload_n 0, 1) := by decide +kernel
theorem d_At_become_1 : decode (am_b mt_At_become) 1 = .ok (.iload_n 1, 1) := by decide +kernel
theorem d_At_become_2 : decode (am_b mt_At_become) 2 = .ok (.putfield 20, 3) := by decide +kernel
theorem d_At_become_5 : decode (am_b mt_At_become) 5 = .ok (.aload_n 0, 1) := by decide +kernel
theorem d_At_become_6 : decode (am_b mt_At_become) 6 = .ok (.iload_n 2, 1) := by decide +kernel
theorem d_At_become_7 : decode (am_b mt_At_become) 7 = .ok (.putfield 24, 3) := by decide +kernel
theorem d_At_become_10 : decode (am_b mt_At_become) 10 = .ok (.return_, 1) := by decide +kernel
theorem d_Ro_addNumber_0 : decode (am_b mt_Ro_addNumber) 0 = .ok (.iload_n 3, 1) := by decide +kernel
theorem d_Ro_addNumber_1 : decode (am_b mt_Ro_addNumber) 1 = .ok (.iconst 1, 1) := by decide +kernel
theorem d_Ro_addNumber_2 : decode (am_b mt_Ro_addNumber) 2 = .ok (.isub, 1) := by decide +kernel
theorem d_Ro_addNumber_3 : decode (am_b mt_Ro_addNumber) 3 = .ok (.istore 4, 2) := by decide +kernel
theorem d_Ro_addNumber_5 : decode (am_b mt_Ro_addNumber) 5 = .ok (.iload 4, 2) := by decide +kernel
theorem d_Ro_addNumber_7 : decode (am_b mt_Ro_addNumber) 7 = .ok (.ifCond .lt 21, 3) := by decide +kernel
theorem d_Ro_addNumber_10 : decode (am_b mt_Ro_addNumber) 10 = .ok (.aload_n 0, 1) := by decide +kernel
theorem d_Ro_addNumber_11 : decode (am_b mt_Ro_addNumber) 11 = .ok (.lload_n 1, 1) := by decide +kernel
theorem d_Ro_addNumber_12 : decode (am_b mt_Ro_addNumber) 12 = .ok (.bipush 8, 2) := by decide +kernel
theorem d_Ro_addNumber_14 : decode (am_b mt_Ro_addNumber) 14 = .ok (.iload 4, 2) := by decide +kernel
theorem d_Ro_addNumber_16 : decode (am_b mt_Ro_addNumber) 16 = .ok (.imul, 1) := by decide +kernel
theorem d_Ro_addNumber_17 : decode (am_b mt_Ro_addNumber) 17 = .ok (.lushr, 1) := by decide +kernel
theorem d_Ro_addNumber_18 : decode (am_b mt_Ro_addNumber) 18 = .ok (.l2i, 1) := by decide +kernel
theorem d_Ro_addNumber_19 : decode (am_b mt_Ro_addNumber) 19 = .ok (.invokevirtual 29, 3) := by decide +kernel
theorem d_Ro_addNumber_22 : decode (am_b mt_Ro_addNumber) 22 = .ok (.iinc 4 (-1), 3) := by decide +kernel
theorem d_Ro_addNumber_25 : decode (am_b mt_Ro_addNumber) 25 = .ok (.goto (-20), 3) := by decide +kernel
theorem d_Ro_addNumber_28 : decode (am_b mt_Ro_addNumber) 28 = .ok (.return_, 1) := by decide +kernel
theorem d_La_put_0 : decode (am_b mt_La_put) 0 = .ok (.aload 6, 2) := by decide +kernel
theorem d_La_put_2 : decode (am_b mt_La_put) 2 = .ok (.iconst 0, 1) := by decide +kernel
theorem d_La_put_3 : decode (am_b mt_La_put) 3 = .ok (.aload_n 0, 1) := by decide +kernel
theorem d_La_put_4 : decode (am_b mt_La_put) 4 = .ok (.iload_n 1, 1) := by decide +kernel
theorem d_La_put_5 : decode (am_b mt_La_put) 5 = .ok (.iload_n 2, 1) := by decide +kernel
theorem d_La_put_6 : decode (am_b mt_La_put) 6 = .ok (.lload_n 3, 1) := by decide +kernel
theorem d_La_put_7 : decode (am_b mt_La_put) 7 = .ok (.iload 5, 2) := by decide +kernel
theorem d_La_put_9 : decode (am_b mt_La_put) 9 = .ok (.invokevirtual 17, 3) := by decide +kernel
theorem d_La_put_12 : decode (am_b mt_La_put) 12 = .ok (.i2l, 1) := by decide +kernel
theorem d_La_put_13 : decode (am_b mt_La_put) 13 = .ok (.lastore, 1) := by decide +kernel
theorem d_La_put_14 : decode (am_b mt_La_put) 14 = .ok (.goto 11, 3) := by decide +kernel
theorem d_La_put_17 : decode (am_b mt_La_put) 17 = .ok (.astore 7, 2) := by decide +kernel
theorem d_La_put_19 : decode (am_b mt_La_put) 19 = .ok (.iconst 1, 1) := by decide +kernel
theorem d_La_put_20 : decode (am_b mt_La_put) 20 = .ok (.ireturn, 1) := by decide +kernel
theorem d_La_put_21 : decode (am_b mt_La_put) 21 = .ok (.astore 7, 2) := by decide +kernel
theorem d_La_put_23 : decode (am_b mt_La_put) 23 = .ok (.iconst 2, 1) := by decide +kernel
theorem d_La_put_24 : decode (am_b mt_La_put) 24 = .ok (.ireturn, 1) := by decide +kernel
theorem d_La_put_25 : decode (am_b mt_La_put) 25 = .ok (.iconst 0, 1) := by decide +kernel
theorem d_La_put_26 : decode (am_b mt_La_put) 26 = .ok (.ireturn, 1) := by decide +kernel
theorem d_Al_put_0 : decode (am_b mt_Al_put) 0 = .ok (.aload_n 0, 1) := by decide +kernel
theorem d_Al_put_1 : decode (am_b mt_Al_put) 1 = .ok (.getfield 45, 3) := by decide +kernel
theorem d_Al_put_4 : decode (am_b mt_Al_put) 4 = .ok (.iload_n 1, 1) := by decide +kernel
theorem d_Al_put_5 : decode (am_b mt_Al_put) 5 = .ok (.invokevirtual 81, 3) := by decide +kernel
theorem d_Al_put_8 : decode (am_b mt_Al_put) 8 = .ok (.ifCond .eq 11, 3) := by decide +kernel
theorem d_Al_put_11 : decode (am_b mt_Al_put) 11 = .ok (.iload 5, 2) := by decide +kernel
theorem d_Al_put_13 : decode (am_b mt_Al_put) 13 = .ok (.invokestatic 64, 3) := by decide +kernel
theorem d_Al_put_16 : decode (am_b mt_Al_put) 16 = .ok (.ifCond .ne 11, 3) := by decide +kernel
theorem d_Al_put_19 : decode (am_b mt_Al_put) 19 = .ok (.new 67, 3) := by decide +kernel
theorem d_Al_put_22 : decode (am_b mt_Al_put) 22 = .ok (.dup, 1) := by decide +kernel
theorem d_Al_put_23 : decode (am_b mt_Al_put) 23 = .ok (.invokespecial 69, 3) := by decide +kernel
theorem d_Al_put_26 : decode (am_b mt_Al_put) 26 = .ok (.athrow, 1) := by decide +kernel
theorem d_Al_put_27 : decode (am_b mt_Al_put) 27 = .ok (.aload_n 0, 1) := by decide +kernel
theorem d_Al_put_28 : decode (am_b mt_Al_put) 28 = .ok (.getfield 45, 3) := by decide +kernel
theorem d_Al_put_31 : decode (am_b mt_Al_put) 31 = .ok (.iload_n 1, 1) := by decide +kernel
theorem d_Al_put_32 : decode (am_b mt_Al_put) 32 = .ok (.invokevirtual 84, 3) := by decide +kernel
theorem d_Al_put_35 : decode (am_b mt_Al_put) 35 = .ok (.astore 6, 2) := by decide +kernel
theorem d_Al_put_37 : decode (am_b mt_Al_put) 37 = .ok (.iload_n 2, 1) := by decide +kernel
theorem d_Al_put_38 : decode (am_b mt_Al_put) 38 = .ok (.ifCond .ne 24, 3) := by decide +kernel
theorem d_Al_put_41 : decode (am_b mt_Al_put) 41 = .ok (.aload 6, 2) := by decide +kernel
theorem d_Al_put_43 : decode (am_b mt_Al_put) 43 = .ok (.invokevirtual 88, 3) := by decide +kernel
theorem d_Al_put_46 : decode (am_b mt_Al_put) 46 = .ok (.iload 5, 2) := by decide +kernel
theorem d_Al_put_48 : decode (am_b mt_Al_put) 48 = .ok (.iadd, 1) := by decide +kernel
theorem d_Al_put_49 : decode (am_b mt_Al_put) 49 = .ok (.bipush 16, 2) := by decide +kernel
theorem d_Al_put_51 : decode (am_b mt_Al_put) 51 = .ok (.if_icmp .le 11, 3) := by decide +kernel
theorem d_Al_put_54 : decode (am_b mt_Al_put) 54 = .ok (.new 74, 3) := by decide +kernel
theorem d_Al_put_57 : decode (am_b mt_Al_put) 57 = .ok (.dup, 1) := by decide +kernel
theorem d_Al_put_58 : decode (am_b mt_Al_put) 58 = .ok (.invokespecial 76, 3) := by decide +kernel
theorem d_Al_put_61 : decode (am_b mt_Al_put) 61 = .ok (.athrow, 1) := by decide +kernel
theorem d_Al_put_62 : decode (am_b mt_Al_put) 62 = .ok (.iload_n 2, 1) := by decide +kernel
theorem d_Al_put_63 : decode (am_b mt_Al_put) 63 = .ok (.ifCond .eq 8, 3) := by decide +kernel
theorem d_Al_put_66 : decode (am_b mt_Al_put) 66 = .ok (.aload 6, 2) := by decide +kernel
theorem d_Al_put_68 : decode (am_b mt_Al_put) 68 = .ok (.invokevirtual 94, 3) := by decide +kernel
theorem d_Al_put_71 : decode (am_b mt_Al_put) 71 = .ok (.aload 6, 2) := by decide +kernel
theorem d_Al_put_73 : decode (am_b mt_Al_put) 73 = .ok (.lload_n 3, 1) := by decide +kernel
theorem d_Al_put_74 : decode (am_b mt_Al_put) 74 = .ok (.iload 5, 2) := by decide +kernel
theorem d_Al_put_76 : decode (am_b mt_Al_put) 76 = .ok (.invokevirtual 97, 3) := by decide +kernel
theorem d_Al_put_79 : decode (am_b mt_Al_put) 79 = .ok (.aload 6, 2) := by decide +kernel
theorem d_Al_put_81 : decode (am_b mt_Al_put) 81 = .ok (.invokevirtual 88, 3) := by decide +kernel
theorem d_Al_put_84 : decode (am_b mt_Al_put) 84 = .ok (.ireturn, 1) := by decide +kernel
theorem d_Se_hasHandle_0 : decode (am_b mt_Se_hasHandle) 0 = .ok (.iload_n 1, 1) := by decide +kernel
theorem d_Se_hasHandle_1 : decode (am_b mt_Se_hasHandle) 1 = .ok (.iconst 1, 1) := by decide +kernel
theorem d_Se_hasHandle_2 : decode (am_b mt_Se_hasHandle) 2 = .ok (.if_icmp .lt 15, 3) := by decide +kernel
theorem d_Se_hasHandle_5 : decode (am_b mt_Se_hasHandle) 5 = .ok (.iload_n 1, 1) := by decide +kernel
theorem d_Se_hasHandle_6 : decode (am_b mt_Se_hasHandle) 6 = .ok (.aload_n 0, 1) := by decide +kernel
theorem d_Se_hasHandle_7 : decode (am_b mt_Se_hasHandle) 7 = .ok (.getfield 18, 3) := by decide +kernel
theorem d_Se_hasHandle_10 : decode (am_b mt_Se_hasHandle) 10 = .ok (.if_icmp .gt 7, 3) := by decide +kernel
theorem d_Se_hasHandle_13 : decode (am_b mt_Se_hasHandle) 13 = .ok (.iconst 1, 1) := by decide +kernel
theorem d_Se_hasHandle_14 : decode (am_b mt_Se_hasHandle) 14 = .ok (.goto 4, 3) := by decide +kernel
theorem d_Se_hasHandle_17 : decode (am_b mt_Se_hasHandle) 17 = .ok (.iconst 0, 1) := by decide +kernel
theorem d_Se_hasHandle_18 : decode (am_b mt_Se_hasHandle) 18 = .ok (.ireturn, 1) := by decide +kernel
theorem d_Se_valueOf_0 : decode (am_b mt_Se_valueOf) 0 = .ok (.aload_n 0, 1) := by decide +kernel
theorem d_Se_valueOf_1 : decode (am_b mt_Se_valueOf) 1 = .ok (.getfield 13, 3) := by decide +kernel
theorem d_Se_valueOf_4 : decode (am_b mt_Se_valueOf) 4 = .ok (.iload_n 1, 1) := by decide +kernel
theorem d_Se_valueOf_5 : decode (am_b mt_Se_valueOf) 5 = .ok (.iconst 1, 1) := by decide +kernel
theorem d_Se_valueOf_6 : decode (am_b mt_Se_valueOf) 6 = .ok (.isub, 1) := by decide +kernel
theorem d_Se_valueOf_7 : decode (am_b mt_Se_valueOf) 7 = .ok (.aaload, 1) := by decide +kernel
theorem d_Se_valueOf_8 : decode (am_b mt_Se_valueOf) 8 = .ok (.getfield 49, 3) := by decide +kernel
theorem d_Se_valueOf_11 : decode (am_b mt_Se_valueOf) 11 = .ok (.areturn, 1) := by decide +kernel
theorem d_Ro_length_0 : decode (am_b mt_Ro_length) 0 = .ok (.aload_n 0, 1) := by decide +kernel
theorem d_Ro_length_1 : decode (am_b mt_Ro_length) 1 = .ok (.getfield 13, 3) := by decide +kernel
theorem d_Ro_length_4 : decode (am_b mt_Ro_length) 4 = .ok (.ireturn, 1) := by decide +kernel
theorem d_Ro_clear_0 : decode (am_b mt_Ro_clear) 0 = .ok (.aload_n 0, 1) := by decide +kernel
theorem d_Ro_clear_1 : decode (am_b mt_Ro_clear) 1 = .ok (.iconst 0, 1) := by decide +kernel
theorem d_Ro_clear_2 : decode (am_b mt_Ro_clear) 2 = .ok (.putfield 13, 3) := by decide +kernel
theorem d_Ro_clear_5 : decode (am_b mt_Ro_clear) 5 = .ok (.return_, 1) := by decide +kernel
theorem d_La_tell_0 : decode (am_b mt_La_tell) 0 = .ok (.aload_n 0, 1) := by decide +kernel
theorem d_La_tell_1 : decode (am_b mt_La_tell) 1 = .ok (.iload_n 1, 1) := by decide +kernel
theorem d_La_tell_2 : decode (am_b mt_La_tell) 2 = .ok (.iload_n 2, 1) := by decide +kernel
theorem d_La_tell_3 : decode (am_b mt_La_tell) 3 = .ok (.invokevirtual 21, 3) := by decide +kernel
theorem d_La_tell_6 : decode (am_b mt_La_tell) 6 = .ok (.goto 9, 3) := by decide +kernel
theorem d_La_tell_9 : decode (am_b mt_La_tell) 9 = .ok (.astore_n 3, 1) := by decide +kernel
theorem d_La_tell_10 : decode (am_b mt_La_tell) 10 = .ok (.iconst 1, 1) := by decide +kernel
theorem d_La_tell_11 : decode (am_b mt_La_tell) 11 = .ok (.ireturn, 1) := by decide +kernel
theorem d_La_tell_12 : decode (am_b mt_La_tell) 12 = .ok (.astore_n 3, 1) := by decide +kernel
theorem d_La_tell_13 : decode (am_b mt_La_tell) 13 = .ok (.iconst 2, 1) := by decide +kernel
theorem d_La_tell_14 : decode (am_b mt_La_tell) 14 = .ok (.ireturn, 1) := by decide +kernel
theorem d_La_tell_15 : decode (am_b mt_La_tell) 15 = .ok (.iconst 0, 1) := by decide +kernel
theorem d_La_tell_16 : decode (am_b mt_La_tell) 16 = .ok (.ireturn, 1) := by decide +kernel
theorem d_Al_tell_0 : decode (am_b mt_Al_tell) 0 = .ok (.aload_n 0, 1) := by decide +kernel
theorem d_Al_tell_1 : decode (am_b mt_Al_tell) 1 = .ok (.getfield 45, 3) := by decide +kernel
theorem d_Al_tell_4 : decode (am_b mt_Al_tell) 4 = .ok (.iload_n 1, 1) := by decide +kernel
theorem d_Al_tell_5 : decode (am_b mt_Al_tell) 5 = .ok (.invokevirtual 81, 3) := by decide +kernel
theorem d_Al_tell_8 : decode (am_b mt_Al_tell) 8 = .ok (.ifCond .ne 11, 3) := by decide +kernel
theorem d_Al_tell_11 : decode (am_b mt_Al_tell) 11 = .ok (.new 67, 3) := by decide +kernel
theorem d_Al_tell_14 : decode (am_b mt_Al_tell) 14 = .ok (.dup, 1) := by decide +kernel
theorem d_Al_tell_15 : decode (am_b mt_Al_tell) 15 = .ok (.invokespecial 69, 3) := by decide +kernel
theorem d_Al_tell_18 : decode (am_b mt_Al_tell) 18 = .ok (.athrow, 1) := by decide +kernel
theorem d_Al_tell_19 : decode (am_b mt_Al_tell) 19 = .ok (.aload_n 0, 1) := by decide +kernel
theorem d_Al_tell_20 : decode (am_b mt_Al_tell) 20 = .ok (.getfield 56, 3) := by decide +kernel
theorem d_Al_tell_23 : decode (am_b mt_Al_tell) 23 = .ok (.ifCond .ne 17, 3) := by decide +kernel
theorem d_Al_tell_26 : decode (am_b mt_Al_tell) 26 = .ok (.aload_n 0, 1) := by decide +kernel
theorem d_Al_tell_27 : decode (am_b mt_Al_tell) 27 = .ok (.getfield 32, 3) := by decide +kernel
theorem d_Al_tell_30 : decode (am_b mt_Al_tell) 30 = .ok (.getfield 101, 3) := by decide +kernel
theorem d_Al_tell_33 : decode (am_b mt_Al_tell) 33 = .ok (.invokevirtual 105, 3) := by decide +kernel
theorem d_Al_tell_36 : decode (am_b mt_Al_tell) 36 = .ok (.iconst 4, 1) := by decide +kernel
theorem d_Al_tell_37 : decode (am_b mt_Al_tell) 37 = .ok (.if_icmp .lt 11, 3) := by decide +kernel
theorem d_Al_tell_40 : decode (am_b mt_Al_tell) 40 = .ok (.new 74, 3) := by decide +kernel
theorem d_Al_tell_43 : decode (am_b mt_Al_tell) 43 = .ok (.dup, 1) := by decide +kernel
theorem d_Al_tell_44 : decode (am_b mt_Al_tell) 44 = .ok (.invokespecial 76, 3) := by decide +kernel
theorem d_Al_tell_47 : decode (am_b mt_Al_tell) 47 = .ok (.athrow, 1) := by decide +kernel
theorem d_Al_tell_48 : decode (am_b mt_Al_tell) 48 = .ok (.iload_n 2, 1) := by decide +kernel
theorem d_Al_tell_49 : decode (am_b mt_Al_tell) 49 = .ok (.ifCond .eq 21, 3) := by decide +kernel
theorem d_Al_tell_52 : decode (am_b mt_Al_tell) 52 = .ok (.aload_n 0, 1) := by decide +kernel
theorem d_Al_tell_53 : decode (am_b mt_Al_tell) 53 = .ok (.getfield 45, 3) := by decide +kernel
theorem d_Al_tell_56 : decode (am_b mt_Al_tell) 56 = .ok (.invokevirtual 110, 3) := by decide +kernel
theorem d_Al_tell_59 : decode (am_b mt_Al_tell) 59 = .ok (.ifCond .eq 11, 3) := by decide +kernel
theorem d_Al_tell_62 : decode (am_b mt_Al_tell) 62 = .ok (.new 74, 3) := by decide +kernel
theorem d_Al_tell_65 : decode (am_b mt_Al_tell) 65 = .ok (.dup, 1) := by decide +kernel
theorem d_Al_tell_66 : decode (am_b mt_Al_tell) 66 = .ok (.invokespecial 76, 3) := by decide +kernel
theorem d_Al_tell_69 : decode (am_b mt_Al_tell) 69 = .ok (.athrow, 1) := by decide +kernel
theorem d_Al_tell_70 : decode (am_b mt_Al_tell) 70 = .ok (.aload_n 0, 1) := by decide +kernel
theorem d_Al_tell_71 : decode (am_b mt_Al_tell) 71 = .ok (.getfield 45, 3) := by decide +kernel
theorem d_Al_tell_74 : decode (am_b mt_Al_tell) 74 = .ok (.iload_n 1, 1) := by decide +kernel
theorem d_Al_tell_75 : decode (am_b mt_Al_tell) 75 = .ok (.iload_n 2, 1) := by decide +kernel
theorem d_Al_tell_76 : decode (am_b mt_Al_tell) 76 = .ok (.aload_n 0, 1) := by decide +kernel
theorem d_Al_tell_77 : decode (am_b mt_Al_tell) 77 = .ok (.getfield 32, 3) := by decide +kernel
theorem d_Al_tell_80 : decode (am_b mt_Al_tell) 80 = .ok (.getfield 101, 3) := by decide +kernel
theorem d_Al_tell_83 : decode (am_b mt_Al_tell) 83 = .ok (.invokevirtual 113, 3) := by decide +kernel
theorem d_Al_tell_86 : decode (am_b mt_Al_tell) 86 = .ok (.return_, 1) := by decide +kernel
theorem d_Ou_waiting_0 : decode (am_b mt_Ou_waiting) 0 = .ok (.aload_n 0, 1) := by decide +kernel
theorem d_Ou_waiting_1 : decode (am_b mt_Ou_waiting) 1 = .ok (.getfield 24, 3) := by decide +kernel
theorem d_Ou_waiting_4 : decode (am_b mt_Ou_waiting) 4 = .ok (.ireturn, 1) := by decide +kernel
theorem d_Se_sayByItself_0 : decode (am_b mt_Se_sayByItself) 0 = .ok (.aload_n 0, 1) := by decide +kernel
theorem d_Se_sayByItself_1 : decode (am_b mt_Se_sayByItself) 1 = .ok (.getfield 38, 3) := by decide +kernel
theorem d_Se_sayByItself_4 : decode (am_b mt_Se_sayByItself) 4 = .ok (.invokevirtual 60, 3) := by decide +kernel
theorem d_Se_sayByItself_7 : decode (am_b mt_Se_sayByItself) 7 = .ok (.aload_n 0, 1) := by decide +kernel
theorem d_Se_sayByItself_8 : decode (am_b mt_Se_sayByItself) 8 = .ok (.getfield 38, 3) := by decide +kernel
theorem d_Se_sayByItself_11 : decode (am_b mt_Se_sayByItself) 11 = .ok (.iload_n 2, 1) := by decide +kernel
theorem d_Se_sayByItself_12 : decode (am_b mt_Se_sayByItself) 12 = .ok (.ifCond .eq 8, 3) := by decide +kernel
theorem d_Se_sayByItself_15 : decode (am_b mt_Se_sayByItself) 15 = .ok (.bipush 29, 2) := by decide +kernel
theorem d_Se_sayByItself_17 : decode (am_b mt_Se_sayByItself) 17 = .ok (.goto 5, 3) := by decide +kernel
theorem d_Se_sayByItself_20 : decode (am_b mt_Se_sayByItself) 20 = .ok (.bipush 27, 2) := by decide +kernel
theorem d_Se_sayByItself_22 : decode (am_b mt_Se_sayByItself) 22 = .ok (.invokevirtual 63, 3) := by decide +kernel
theorem d_Se_sayByItself_25 : decode (am_b mt_Se_sayByItself) 25 = .ok (.aload_n 0, 1) := by decide +kernel
theorem d_Se_sayByItself_26 : decode (am_b mt_Se_sayByItself) 26 = .ok (.getfield 38, 3) := by decide +kernel
theorem d_Se_sayByItself_29 : decode (am_b mt_Se_sayByItself) 29 = .ok (.iload_n 1, 1) := by decide +kernel
theorem d_Se_sayByItself_30 : decode (am_b mt_Se_sayByItself) 30 = .ok (.invokevirtual 63, 3) := by decide +kernel
theorem d_Se_sayByItself_33 : decode (am_b mt_Se_sayByItself) 33 = .ok (.aload_n 0, 1) := by decide +kernel
theorem d_Se_sayByItself_34 : decode (am_b mt_Se_sayByItself) 34 = .ok (.getfield 38, 3) := by decide +kernel
theorem d_Se_sayByItself_37 : decode (am_b mt_Se_sayByItself) 37 = .ok (.aload_n 0, 1) := by decide +kernel
theorem d_Se_sayByItself_38 : decode (am_b mt_Se_sayByItself) 38 = .ok (.iload_n 1, 1) := by decide +kernel
theorem d_Se_sayByItself_39 : decode (am_b mt_Se_sayByItself) 39 = .ok (.invokevirtual 66, 3) := by decide +kernel
theorem d_Se_sayByItself_42 : decode (am_b mt_Se_sayByItself) 42 = .ok (.iconst 0, 1) := by decide +kernel
theorem d_Se_sayByItself_43 : decode (am_b mt_Se_sayByItself) 43 = .ok (.aload_n 0, 1) := by decide +kernel
theorem d_Se_sayByItself_44 : decode (am_b mt_Se_sayByItself) 44 = .ok (.getfield 42, 3) := by decide +kernel
theorem d_Se_sayByItself_47 : decode (am_b mt_Se_sayByItself) 47 = .ok (.iconst 2, 1) := by decide +kernel
theorem d_Se_sayByItself_48 : decode (am_b mt_Se_sayByItself) 48 = .ok (.isub, 1) := by decide +kernel
theorem d_Se_sayByItself_49 : decode (am_b mt_Se_sayByItself) 49 = .ok (.invokevirtual 70, 3) := by decide +kernel
theorem d_Se_sayByItself_52 : decode (am_b mt_Se_sayByItself) 52 = .ok (.aload_n 3, 1) := by decide +kernel
theorem d_Se_sayByItself_53 : decode (am_b mt_Se_sayByItself) 53 = .ok (.aload_n 0, 1) := by decide +kernel
theorem d_Se_sayByItself_54 : decode (am_b mt_Se_sayByItself) 54 = .ok (.getfield 38, 3) := by decide +kernel
theorem d_Se_sayByItself_57 : decode (am_b mt_Se_sayByItself) 57 = .ok (.invokevirtual 74, 3) := by decide +kernel
theorem d_Se_sayByItself_60 : decode (am_b mt_Se_sayByItself) 60 = .ok (.iload_n 2, 1) := by decide +kernel
theorem d_Se_sayByItself_61 : decode (am_b mt_Se_sayByItself) 61 = .ok (.ifCond .eq 8, 3) := by decide +kernel
theorem d_Se_sayByItself_64 : decode (am_b mt_Se_sayByItself) 64 = .ok (.aload_n 0, 1) := by decide +kernel
theorem d_Se_sayByItself_65 : decode (am_b mt_Se_sayByItself) 65 = .ok (.iconst 1, 1) := by decide +kernel
theorem d_Se_sayByItself_66 : decode (am_b mt_Se_sayByItself) 66 = .ok (.putfield 45, 3) := by decide +kernel
theorem d_Se_sayByItself_69 : decode (am_b mt_Se_sayByItself) 69 = .ok (.return_, 1) := by decide +kernel
theorem d_Ro_addFrom_0 : decode (am_b mt_Ro_addFrom) 0 = .ok (.iload_n 3, 1) := by decide +kernel
theorem d_Ro_addFrom_1 : decode (am_b mt_Ro_addFrom) 1 = .ok (.aload_n 1, 1) := by decide +kernel
theorem d_Ro_addFrom_2 : decode (am_b mt_Ro_addFrom) 2 = .ok (.getfield 13, 3) := by decide +kernel
theorem d_Ro_addFrom_5 : decode (am_b mt_Ro_addFrom) 5 = .ok (.iload_n 2, 1) := by decide +kernel
theorem d_Ro_addFrom_6 : decode (am_b mt_Ro_addFrom) 6 = .ok (.isub, 1) := by decide +kernel
theorem d_Ro_addFrom_7 : decode (am_b mt_Ro_addFrom) 7 = .ok (.invokestatic 17, 3) := by decide +kernel
theorem d_Ro_addFrom_10 : decode (am_b mt_Ro_addFrom) 10 = .ok (.aload_n 0, 1) := by decide +kernel
theorem d_Ro_addFrom_11 : decode (am_b mt_Ro_addFrom) 11 = .ok (.getfield 7, 3) := by decide +kernel
theorem d_Ro_addFrom_14 : decode (am_b mt_Ro_addFrom) 14 = .ok (.arraylength, 1) := by decide +kernel
theorem d_Ro_addFrom_15 : decode (am_b mt_Ro_addFrom) 15 = .ok (.aload_n 0, 1) := by decide +kernel
theorem d_Ro_addFrom_16 : decode (am_b mt_Ro_addFrom) 16 = .ok (.getfield 13, 3) := by decide +kernel
theorem d_Ro_addFrom_19 : decode (am_b mt_Ro_addFrom) 19 = .ok (.isub, 1) := by decide +kernel
theorem d_Ro_addFrom_20 : decode (am_b mt_Ro_addFrom) 20 = .ok (.invokestatic 17, 3) := by decide +kernel
theorem d_Ro_addFrom_23 : decode (am_b mt_Ro_addFrom) 23 = .ok (.istore 4, 2) := by decide +kernel
theorem d_Ro_addFrom_25 : decode (am_b mt_Ro_addFrom) 25 = .ok (.iload_n 2, 1) := by decide +kernel
theorem d_Ro_addFrom_26 : decode (am_b mt_Ro_addFrom) 26 = .ok (.ifCond .lt 37, 3) := by decide +kernel
theorem d_Ro_addFrom_29 : decode (am_b mt_Ro_addFrom) 29 = .ok (.iload 4, 2) := by decide +kernel
theorem d_Ro_addFrom_31 : decode (am_b mt_Ro_addFrom) 31 = .ok (.ifCond .le 32, 3) := by decide +kernel
theorem d_Ro_addFrom_34 : decode (am_b mt_Ro_addFrom) 34 = .ok (.aload_n 1, 1) := by decide +kernel
theorem d_Ro_addFrom_35 : decode (am_b mt_Ro_addFrom) 35 = .ok (.getfield 7, 3) := by decide +kernel
theorem d_Ro_addFrom_38 : decode (am_b mt_Ro_addFrom) 38 = .ok (.iload_n 2, 1) := by decide +kernel
theorem d_Ro_addFrom_39 : decode (am_b mt_Ro_addFrom) 39 = .ok (.aload_n 0, 1) := by decide +kernel
theorem d_Ro_addFrom_40 : decode (am_b mt_Ro_addFrom) 40 = .ok (.getfield 7, 3) := by decide +kernel
theorem d_Ro_addFrom_43 : decode (am_b mt_Ro_addFrom) 43 = .ok (.aload_n 0, 1) := by decide +kernel
theorem d_Ro_addFrom_44 : decode (am_b mt_Ro_addFrom) 44 = .ok (.getfield 13, 3) := by decide +kernel
theorem d_Ro_addFrom_47 : decode (am_b mt_Ro_addFrom) 47 = .ok (.iload 4, 2) := by decide +kernel
theorem d_Ro_addFrom_49 : decode (am_b mt_Ro_addFrom) 49 = .ok (.invokestatic 23, 3) := by decide +kernel
theorem d_Ro_addFrom_52 : decode (am_b mt_Ro_addFrom) 52 = .ok (.aload_n 0, 1) := by decide +kernel
theorem d_Ro_addFrom_53 : decode (am_b mt_Ro_addFrom) 53 = .ok (.dup, 1) := by decide +kernel
theorem d_Ro_addFrom_54 : decode (am_b mt_Ro_addFrom) 54 = .ok (.getfield 13, 3) := by decide +kernel
theorem d_Ro_addFrom_57 : decode (am_b mt_Ro_addFrom) 57 = .ok (.iload 4, 2) := by decide +kernel
theorem d_Ro_addFrom_59 : decode (am_b mt_Ro_addFrom) 59 = .ok (.iadd, 1) := by decide +kernel
theorem d_Ro_addFrom_60 : decode (am_b mt_Ro_addFrom) 60 = .ok (.putfield 13, 3) := by decide +kernel
theorem d_Ro_addFrom_63 : decode (am_b mt_Ro_addFrom) 63 = .ok (.return_, 1) := by decide +kernel
theorem d_Ou_give_0 : decode (am_b mt_Ou_give) 0 = .ok (.aload_n 0, 1) := by decide +kernel
theorem d_Ou_give_1 : decode (am_b mt_Ou_give) 1 = .ok (.getfield 24, 3) := by decide +kernel
theorem d_Ou_give_4 : decode (am_b mt_Ou_give) 4 = .ok (.bipush 8, 2) := by decide +kernel
theorem d_Ou_give_6 : decode (am_b mt_Ou_give) 6 = .ok (.if_icmp .lt 4, 3) := by decide +kernel
theorem d_Ou_give_9 : decode (am_b mt_Ou_give) 9 = .ok (.return_, 1) := by decide +kernel
theorem d_Ou_give_10 : decode (am_b mt_Ou_give) 10 = .ok (.aload_n 0, 1) := by decide +kernel
theorem d_Ou_give_11 : decode (am_b mt_Ou_give) 11 = .ok (.getfield 13, 3) := by decide +kernel
theorem d_Ou_give_14 : decode (am_b mt_Ou_give) 14 = .ok (.aload_n 0, 1) := by decide +kernel
theorem d_Ou_give_15 : decode (am_b mt_Ou_give) 15 = .ok (.getfield 20, 3) := by decide +kernel
theorem d_Ou_give_18 : decode (am_b mt_Ou_give) 18 = .ok (.aload_n 0, 1) := by decide +kernel
theorem d_Ou_give_19 : decode (am_b mt_Ou_give) 19 = .ok (.getfield 24, 3) := by decide +kernel
theorem d_Ou_give_22 : decode (am_b mt_Ou_give) 22 = .ok (.iadd, 1) := by decide +kernel
theorem d_Ou_give_23 : decode (am_b mt_Ou_give) 23 = .ok (.bipush 8, 2) := by decide +kernel
theorem d_Ou_give_25 : decode (am_b mt_Ou_give) 25 = .ok (.irem, 1) := by decide +kernel
theorem d_Ou_give_26 : decode (am_b mt_Ou_give) 26 = .ok (.aaload, 1) := by decide +kernel
theorem d_Ou_give_27 : decode (am_b mt_Ou_give) 27 = .ok (.astore_n 2, 1) := by decide +kernel
theorem d_Ou_give_28 : decode (am_b mt_Ou_give) 28 = .ok (.aload_n 2, 1) := by decide +kernel
theorem d_Ou_give_29 : decode (am_b mt_Ou_give) 29 = .ok (.invokevirtual 30, 3) := by decide +kernel
theorem d_Ou_give_32 : decode (am_b mt_Ou_give) 32 = .ok (.aload_n 2, 1) := by decide +kernel
theorem d_Ou_give_33 : decode (am_b mt_Ou_give) 33 = .ok (.aload_n 1, 1) := by decide +kernel
theorem d_Ou_give_34 : decode (am_b mt_Ou_give) 34 = .ok (.invokevirtual 33, 3) := by decide +kernel
theorem d_Ou_give_37 : decode (am_b mt_Ou_give) 37 = .ok (.invokevirtual 37, 3) := by decide +kernel
theorem d_Ou_give_40 : decode (am_b mt_Ou_give) 40 = .ok (.aload_n 2, 1) := by decide +kernel
theorem d_Ou_give_41 : decode (am_b mt_Ou_give) 41 = .ok (.iconst 0, 1) := by decide +kernel
theorem d_Ou_give_42 : decode (am_b mt_Ou_give) 42 = .ok (.invokevirtual 37, 3) := by decide +kernel
theorem d_Ou_give_45 : decode (am_b mt_Ou_give) 45 = .ok (.aload_n 2, 1) := by decide +kernel
theorem d_Ou_give_46 : decode (am_b mt_Ou_give) 46 = .ok (.iconst 4, 1) := by decide +kernel
theorem d_Ou_give_47 : decode (am_b mt_Ou_give) 47 = .ok (.invokevirtual 37, 3) := by decide +kernel
theorem d_Ou_give_50 : decode (am_b mt_Ou_give) 50 = .ok (.aload_n 2, 1) := by decide +kernel
theorem d_Ou_give_51 : decode (am_b mt_Ou_give) 51 = .ok (.iconst 0, 1) := by decide +kernel
theorem d_Ou_give_52 : decode (am_b mt_Ou_give) 52 = .ok (.invokevirtual 37, 3) := by decide +kernel
theorem d_Ou_give_55 : decode (am_b mt_Ou_give) 55 = .ok (.aload_n 2, 1) := by decide +kernel
theorem d_Ou_give_56 : decode (am_b mt_Ou_give) 56 = .ok (.aload_n 1, 1) := by decide +kernel
theorem d_Ou_give_57 : decode (am_b mt_Ou_give) 57 = .ok (.iconst 0, 1) := by decide +kernel
theorem d_Ou_give_58 : decode (am_b mt_Ou_give) 58 = .ok (.bipush 20, 2) := by decide +kernel
theorem d_Ou_give_60 : decode (am_b mt_Ou_give) 60 = .ok (.invokevirtual 40, 3) := by decide +kernel
theorem d_Ou_give_63 : decode (am_b mt_Ou_give) 63 = .ok (.aload_n 0, 1) := by decide +kernel
theorem d_Ou_give_64 : decode (am_b mt_Ou_give) 64 = .ok (.dup, 1) := by decide +kernel
theorem d_Ou_give_65 : decode (am_b mt_Ou_give) 65 = .ok (.getfield 24, 3) := by decide +kernel
theorem d_Ou_give_68 : decode (am_b mt_Ou_give) 68 = .ok (.iconst 1, 1) := by decide +kernel
theorem d_Ou_give_69 : decode (am_b mt_Ou_give) 69 = .ok (.iadd, 1) := by decide +kernel
theorem d_Ou_give_70 : decode (am_b mt_Ou_give) 70 = .ok (.putfield 24, 3) := by decide +kernel
theorem d_Ou_give_73 : decode (am_b mt_Ou_give) 73 = .ok (.return_, 1) := by decide +kernel
theorem d_La_begin_0 : decode (am_b mt_La_begin) 0 = .ok (.aload_n 0, 1) := by decide +kernel
theorem d_La_begin_1 : decode (am_b mt_La_begin) 1 = .ok (.iload_n 1, 1) := by decide +kernel
theorem d_La_begin_2 : decode (am_b mt_La_begin) 2 = .ok (.iload_n 2, 1) := by decide +kernel
theorem d_La_begin_3 : decode (am_b mt_La_begin) 3 = .ok (.invokevirtual 25, 3) := by decide +kernel
theorem d_La_begin_6 : decode (am_b mt_La_begin) 6 = .ok (.goto 9, 3) := by decide +kernel
theorem d_La_begin_9 : decode (am_b mt_La_begin) 9 = .ok (.astore_n 3, 1) := by decide +kernel
theorem d_La_begin_10 : decode (am_b mt_La_begin) 10 = .ok (.iconst 1, 1) := by decide +kernel
theorem d_La_begin_11 : decode (am_b mt_La_begin) 11 = .ok (.ireturn, 1) := by decide +kernel
theorem d_La_begin_12 : decode (am_b mt_La_begin) 12 = .ok (.astore_n 3, 1) := by decide +kernel
theorem d_La_begin_13 : decode (am_b mt_La_begin) 13 = .ok (.iconst 2, 1) := by decide +kernel
theorem d_La_begin_14 : decode (am_b mt_La_begin) 14 = .ok (.ireturn, 1) := by decide +kernel
theorem d_La_begin_15 : decode (am_b mt_La_begin) 15 = .ok (.iconst 0, 1) := by decide +kernel
theorem d_La_begin_16 : decode (am_b mt_La_begin) 16 = .ok (.ireturn, 1) := by decide +kernel
theorem d_Al_begin_0 : decode (am_b mt_Al_begin) 0 = .ok (.iload_n 1, 1) := by decide +kernel
theorem d_Al_begin_1 : decode (am_b mt_Al_begin) 1 = .ok (.ifCond .lt 15, 3) := by decide +kernel
theorem d_Al_begin_4 : decode (am_b mt_Al_begin) 4 = .ok (.iload_n 1, 1) := by decide +kernel
theorem d_Al_begin_5 : decode (am_b mt_Al_begin) 5 = .ok (.iconst 3, 1) := by decide +kernel
theorem d_Al_begin_6 : decode (am_b mt_Al_begin) 6 = .ok (.if_icmp .gt 10, 3) := by decide +kernel
theorem d_Al_begin_9 : decode (am_b mt_Al_begin) 9 = .ok (.iload_n 2, 1) := by decide +kernel
theorem d_Al_begin_10 : decode (am_b mt_Al_begin) 10 = .ok (.invokestatic 60, 3) := by decide +kernel
theorem d_Al_begin_13 : decode (am_b mt_Al_begin) 13 = .ok (.ifCond .ne 11, 3) := by decide +kernel
theorem d_Al_begin_16 : decode (am_b mt_Al_begin) 16 = .ok (.new 67, 3) := by decide +kernel
theorem d_Al_begin_19 : decode (am_b mt_Al_begin) 19 = .ok (.dup, 1) := by decide +kernel
theorem d_Al_begin_20 : decode (am_b mt_Al_begin) 20 = .ok (.invokespecial 69, 3) := by decide +kernel
theorem d_Al_begin_23 : decode (am_b mt_Al_begin) 23 = .ok (.athrow, 1) := by decide +kernel
theorem d_Al_begin_24 : decode (am_b mt_Al_begin) 24 = .ok (.aload_n 0, 1) := by decide +kernel
theorem d_Al_begin_25 : decode (am_b mt_Al_begin) 25 = .ok (.invokevirtual 117, 3) := by decide +kernel
theorem d_Al_begin_28 : decode (am_b mt_Al_begin) 28 = .ok (.aload_n 0, 1) := by decide +kernel
theorem d_Al_begin_29 : decode (am_b mt_Al_begin) 29 = .ok (.getfield 38, 3) := by decide +kernel
theorem d_Al_begin_32 : decode (am_b mt_Al_begin) 32 = .ok (.iload_n 1, 1) := by decide +kernel
theorem d_Al_begin_33 : decode (am_b mt_Al_begin) 33 = .ok (.iload_n 2, 1) := by decide +kernel
theorem d_Al_begin_34 : decode (am_b mt_Al_begin) 34 = .ok (.lconst 0, 1) := by decide +kernel
theorem d_Al_begin_35 : decode (am_b mt_Al_begin) 35 = .ok (.iconst 0, 1) := by decide +kernel
theorem d_Al_begin_36 : decode (am_b mt_Al_begin) 36 = .ok (.aload_n 0, 1) := by decide +kernel
theorem d_Al_begin_37 : decode (am_b mt_Al_begin) 37 = .ok (.getfield 28, 3) := by decide +kernel
theorem d_Al_begin_40 : decode (am_b mt_Al_begin) 40 = .ok (.getfield 101, 3) := by decide +kernel
theorem d_Al_begin_43 : decode (am_b mt_Al_begin) 43 = .ok (.invokevirtual 120, 3) := by decide +kernel
theorem d_Al_begin_46 : decode (am_b mt_Al_begin) 46 = .ok (.return_, 1) := by decide +kernel
theorem d_Al_requireIdleClient_0 : decode (am_b mt_Al_requireIdleClient) 0 = .ok (.aload_n 0, 1) := by decide +kernel
theorem d_Al_requireIdleClient_1 : decode (am_b mt_Al_requireIdleClient) 1 = .ok (.getfield 56, 3) := by decide +kernel
theorem d_Al_requireIdleClient_4 : decode (am_b mt_Al_requireIdleClient) 4 = .ok (.ifCond .ne 13, 3) := by decide +kernel
theorem d_Al_requireIdleClient_7 : decode (am_b mt_Al_requireIdleClient) 7 = .ok (.aload_n 0, 1) := by decide +kernel
theorem d_Al_requireIdleClient_8 : decode (am_b mt_Al_requireIdleClient) 8 = .ok (.getfield 38, 3) := by decide +kernel
theorem d_Al_requireIdleClient_11 : decode (am_b mt_Al_requireIdleClient) 11 = .ok (.invokevirtual 187, 3) := by decide +kernel
theorem d_Al_requireIdleClient_14 : decode (am_b mt_Al_requireIdleClient) 14 = .ok (.ifCond .ne 11, 3) := by decide +kernel
theorem d_Al_requireIdleClient_17 : decode (am_b mt_Al_requireIdleClient) 17 = .ok (.new 74, 3) := by decide +kernel
theorem d_Al_requireIdleClient_20 : decode (am_b mt_Al_requireIdleClient) 20 = .ok (.dup, 1) := by decide +kernel
theorem d_Al_requireIdleClient_21 : decode (am_b mt_Al_requireIdleClient) 21 = .ok (.invokespecial 76, 3) := by decide +kernel
theorem d_Al_requireIdleClient_24 : decode (am_b mt_Al_requireIdleClient) 24 = .ok (.athrow, 1) := by decide +kernel
theorem d_Al_requireIdleClient_25 : decode (am_b mt_Al_requireIdleClient) 25 = .ok (.return_, 1) := by decide +kernel
theorem d_Cl_mayStart_0 : decode (am_b mt_Cl_mayStart) 0 = .ok (.aload_n 0, 1) := by decide +kernel
theorem d_Cl_mayStart_1 : decode (am_b mt_Cl_mayStart) 1 = .ok (.getfield 49, 3) := by decide +kernel
theorem d_Cl_mayStart_4 : decode (am_b mt_Cl_mayStart) 4 = .ok (.iconst (-1), 1) := by decide +kernel
theorem d_Cl_mayStart_5 : decode (am_b mt_Cl_mayStart) 5 = .ok (.if_icmp .eq 19, 3) := by decide +kernel
theorem d_Cl_mayStart_8 : decode (am_b mt_Cl_mayStart) 8 = .ok (.aload_n 0, 1) := by decide +kernel
theorem d_Cl_mayStart_9 : decode (am_b mt_Cl_mayStart) 9 = .ok (.getfield 49, 3) := by decide +kernel
theorem d_Cl_mayStart_12 : decode (am_b mt_Cl_mayStart) 12 = .ok (.iconst 1, 1) := by decide +kernel
theorem d_Cl_mayStart_13 : decode (am_b mt_Cl_mayStart) 13 = .ok (.if_icmp .eq 11, 3) := by decide +kernel
theorem d_Cl_mayStart_16 : decode (am_b mt_Cl_mayStart) 16 = .ok (.aload_n 0, 1) := by decide +kernel
theorem d_Cl_mayStart_17 : decode (am_b mt_Cl_mayStart) 17 = .ok (.getfield 49, 3) := by decide +kernel
theorem d_Cl_mayStart_20 : decode (am_b mt_Cl_mayStart) 20 = .ok (.iconst 2, 1) := by decide +kernel
theorem d_Cl_mayStart_21 : decode (am_b mt_Cl_mayStart) 21 = .ok (.if_icmp .ne 7, 3) := by decide +kernel
theorem d_Cl_mayStart_24 : decode (am_b mt_Cl_mayStart) 24 = .ok (.iconst 1, 1) := by decide +kernel
theorem d_Cl_mayStart_25 : decode (am_b mt_Cl_mayStart) 25 = .ok (.goto 4, 3) := by decide +kernel
theorem d_Cl_mayStart_28 : decode (am_b mt_Cl_mayStart) 28 = .ok (.iconst 0, 1) := by decide +kernel
theorem d_Cl_mayStart_29 : decode (am_b mt_Cl_mayStart) 29 = .ok (.ireturn, 1) := by decide +kernel
theorem d_Cl_start_0 : decode (am_b mt_Cl_start) 0 = .ok (.aload_n 0, 1) := by decide +kernel
theorem d_Cl_start_1 : decode (am_b mt_Cl_start) 1 = .ok (.iload_n 1, 1) := by decide +kernel
theorem d_Cl_start_2 : decode (am_b mt_Cl_start) 2 = .ok (.putfield 43, 3) := by decide +kernel
theorem d_Cl_start_5 : decode (am_b mt_Cl_start) 5 = .ok (.aload_n 0, 1) := by decide +kernel
theorem d_Cl_start_6 : decode (am_b mt_Cl_start) 6 = .ok (.iload_n 2, 1) := by decide +kernel
theorem d_Cl_start_7 : decode (am_b mt_Cl_start) 7 = .ok (.putfield 46, 3) := by decide +kernel
theorem d_Cl_start_10 : decode (am_b mt_Cl_start) 10 = .ok (.aload_n 0, 1) := by decide +kernel
theorem d_Cl_start_11 : decode (am_b mt_Cl_start) 11 = .ok (.iconst 0, 1) := by decide +kernel
theorem d_Cl_start_12 : decode (am_b mt_Cl_start) 12 = .ok (.putfield 49, 3) := by decide +kernel
theorem d_Cl_start_15 : decode (am_b mt_Cl_start) 15 = .ok (.aload_n 0, 1) := by decide +kernel
theorem d_Cl_start_16 : decode (am_b mt_Cl_start) 16 = .ok (.iconst 0, 1) := by decide +kernel
theorem d_Cl_start_17 : decode (am_b mt_Cl_start) 17 = .ok (.putfield 52, 3) := by decide +kernel
theorem d_Cl_start_20 : decode (am_b mt_Cl_start) 20 = .ok (.aload_n 0, 1) := by decide +kernel
theorem d_Cl_start_21 : decode (am_b mt_Cl_start) 21 = .ok (.iconst 0, 1) := by decide +kernel
theorem d_Cl_start_22 : decode (am_b mt_Cl_start) 22 = .ok (.putfield 58, 3) := by decide +kernel
theorem d_Cl_start_25 : decode (am_b mt_Cl_start) 25 = .ok (.aload_n 0, 1) := by decide +kernel
theorem d_Cl_start_26 : decode (am_b mt_Cl_start) 26 = .ok (.iconst 0, 1) := by decide +kernel
theorem d_Cl_start_27 : decode (am_b mt_Cl_start) 27 = .ok (.putfield 61, 3) := by decide +kernel
theorem d_Cl_start_30 : decode (am_b mt_Cl_start) 30 = .ok (.aload_n 0, 1) := by decide +kernel
theorem d_Cl_start_31 : decode (am_b mt_Cl_start) 31 = .ok (.getfield 23, 3) := by decide +kernel
theorem d_Cl_start_34 : decode (am_b mt_Cl_start) 34 = .ok (.invokevirtual 65, 3) := by decide +kernel
theorem d_Cl_start_37 : decode (am_b mt_Cl_start) 37 = .ok (.aload_n 0, 1) := by decide +kernel
theorem d_Cl_start_38 : decode (am_b mt_Cl_start) 38 = .ok (.getfield 36, 3) := by decide +kernel
theorem d_Cl_start_41 : decode (am_b mt_Cl_start) 41 = .ok (.invokevirtual 65, 3) := by decide +kernel
theorem d_Cl_start_44 : decode (am_b mt_Cl_start) 44 = .ok (.aload_n 0, 1) := by decide +kernel
theorem d_Cl_start_45 : decode (am_b mt_Cl_start) 45 = .ok (.getfield 36, 3) := by decide +kernel
theorem d_Cl_start_48 : decode (am_b mt_Cl_start) 48 = .ok (.lload_n 3, 1) := by decide +kernel
theorem d_Cl_start_49 : decode (am_b mt_Cl_start) 49 = .ok (.iload 5, 2) := by decide +kernel
theorem d_Cl_start_51 : decode (am_b mt_Cl_start) 51 = .ok (.invokevirtual 68, 3) := by decide +kernel
theorem d_Cl_start_54 : decode (am_b mt_Cl_start) 54 = .ok (.aload_n 0, 1) := by decide +kernel
theorem d_Cl_start_55 : decode (am_b mt_Cl_start) 55 = .ok (.invokevirtual 72, 3) := by decide +kernel
theorem d_Cl_start_58 : decode (am_b mt_Cl_start) 58 = .ok (.aload_n 0, 1) := by decide +kernel
theorem d_Cl_start_59 : decode (am_b mt_Cl_start) 59 = .ok (.aload 6, 2) := by decide +kernel
theorem d_Cl_start_61 : decode (am_b mt_Cl_start) 61 = .ok (.invokevirtual 75, 3) := by decide +kernel
theorem d_Cl_start_64 : decode (am_b mt_Cl_start) 64 = .ok (.return_, 1) := by decide +kernel
theorem d_Cl_composeFirst_0 : decode (am_b mt_Cl_composeFirst) 0 = .ok (.aload_n 0, 1) := by decide +kernel
theorem d_Cl_composeFirst_1 : decode (am_b mt_Cl_composeFirst) 1 = .ok (.getfield 43, 3) := by decide +kernel
theorem d_Cl_composeFirst_4 : decode (am_b mt_Cl_composeFirst) 4 = .ok (.tableswitch 122 0 6 #[44, 122, 122, 56, 64, 91, 98], 44) := by decide +kernel
theorem d_Cl_composeFirst_48 : decode (am_b mt_Cl_composeFirst) 48 = .ok (.aload_n 0, 1) := by decide +kernel
theorem d_Cl_composeFirst_49 : decode (am_b mt_Cl_composeFirst) 49 = .ok (.iconst 2, 1) := by decide +kernel
theorem d_Cl_composeFirst_50 : decode (am_b mt_Cl_composeFirst) 50 = .ok (.aload_n 0, 1) := by decide +kernel
theorem d_Cl_composeFirst_51 : decode (am_b mt_Cl_composeFirst) 51 = .ok (.getfield 46, 3) := by decide +kernel
theorem d_Cl_composeFirst_54 : decode (am_b mt_Cl_composeFirst) 54 = .ok (.invokevirtual 107, 3) := by decide +kernel
theorem d_Cl_composeFirst_57 : decode (am_b mt_Cl_composeFirst) 57 = .ok (.goto 79, 3) := by decide +kernel
theorem d_Cl_composeFirst_60 : decode (am_b mt_Cl_composeFirst) 60 = .ok (.aload_n 0, 1) := by decide +kernel
theorem d_Cl_composeFirst_61 : decode (am_b mt_Cl_composeFirst) 61 = .ok (.iconst 1, 1) := by decide +kernel
theorem d_Cl_composeFirst_62 : decode (am_b mt_Cl_composeFirst) 62 = .ok (.invokevirtual 111, 3) := by decide +kernel
theorem d_Cl_composeFirst_65 : decode (am_b mt_Cl_composeFirst) 65 = .ok (.goto 71, 3) := by decide +kernel
theorem d_Cl_composeFirst_68 : decode (am_b mt_Cl_composeFirst) 68 = .ok (.aload_n 0, 1) := by decide +kernel
theorem d_Cl_composeFirst_69 : decode (am_b mt_Cl_composeFirst) 69 = .ok (.bipush 18, 2) := by decide +kernel
theorem d_Cl_composeFirst_71 : decode (am_b mt_Cl_composeFirst) 71 = .ok (.aload_n 0, 1) := by decide +kernel
theorem d_Cl_composeFirst_72 : decode (am_b mt_Cl_composeFirst) 72 = .ok (.getfield 46, 3) := by decide +kernel
theorem d_Cl_composeFirst_75 : decode (am_b mt_Cl_composeFirst) 75 = .ok (.invokevirtual 107, 3) := by decide +kernel
theorem d_Cl_composeFirst_78 : decode (am_b mt_Cl_composeFirst) 78 = .ok (.aload_n 0, 1) := by decide +kernel
theorem d_Cl_composeFirst_79 : decode (am_b mt_Cl_composeFirst) 79 = .ok (.getfield 27, 3) := by decide +kernel
theorem d_Cl_composeFirst_82 : decode (am_b mt_Cl_composeFirst) 82 = .ok (.aload_n 0, 1) := by decide +kernel
theorem d_Cl_composeFirst_83 : decode (am_b mt_Cl_composeFirst) 83 = .ok (.getfield 36, 3) := by decide +kernel
theorem d_Cl_composeFirst_86 : decode (am_b mt_Cl_composeFirst) 86 = .ok (.iconst 0, 1) := by decide +kernel
theorem d_Cl_composeFirst_87 : decode (am_b mt_Cl_composeFirst) 87 = .ok (.bipush 8, 2) := by decide +kernel
theorem d_Cl_composeFirst_89 : decode (am_b mt_Cl_composeFirst) 89 = .ok (.invokevirtual 114, 3) := by decide +kernel
theorem d_Cl_composeFirst_92 : decode (am_b mt_Cl_composeFirst) 92 = .ok (.goto 44, 3) := by decide +kernel
theorem d_Cl_composeFirst_95 : decode (am_b mt_Cl_composeFirst) 95 = .ok (.aload_n 0, 1) := by decide +kernel
theorem d_Cl_composeFirst_96 : decode (am_b mt_Cl_composeFirst) 96 = .ok (.invokevirtual 118, 3) := by decide +kernel
theorem d_Cl_composeFirst_99 : decode (am_b mt_Cl_composeFirst) 99 = .ok (.goto 37, 3) := by decide +kernel
theorem d_Cl_composeFirst_102 : decode (am_b mt_Cl_composeFirst) 102 = .ok (.aload_n 0, 1) := by decide +kernel
theorem d_Cl_composeFirst_103 : decode (am_b mt_Cl_composeFirst) 103 = .ok (.getfield 27, 3) := by decide +kernel
theorem d_Cl_composeFirst_106 : decode (am_b mt_Cl_composeFirst) 106 = .ok (.invokevirtual 65, 3) := by decide +kernel
theorem d_Cl_composeFirst_109 : decode (am_b mt_Cl_composeFirst) 109 = .ok (.aload_n 0, 1) := by decide +kernel
theorem d_Cl_composeFirst_110 : decode (am_b mt_Cl_composeFirst) 110 = .ok (.getfield 27, 3) := by decide +kernel
theorem d_Cl_composeFirst_113 : decode (am_b mt_Cl_composeFirst) 113 = .ok (.aload_n 0, 1) := by decide +kernel
theorem d_Cl_composeFirst_114 : decode (am_b mt_Cl_composeFirst) 114 = .ok (.getfield 36, 3) := by decide +kernel
theorem d_Cl_composeFirst_117 : decode (am_b mt_Cl_composeFirst) 117 = .ok (.iconst 0, 1) := by decide +kernel
theorem d_Cl_composeFirst_118 : decode (am_b mt_Cl_composeFirst) 118 = .ok (.bipush 8, 2) := by decide +kernel
theorem d_Cl_composeFirst_120 : decode (am_b mt_Cl_composeFirst) 120 = .ok (.invokevirtual 114, 3) := by decide +kernel
theorem d_Cl_composeFirst_123 : decode (am_b mt_Cl_composeFirst) 123 = .ok (.goto 13, 3) := by decide +kernel
theorem d_Cl_composeFirst_126 : decode (am_b mt_Cl_composeFirst) 126 = .ok (.aload_n 0, 1) := by decide +kernel
theorem d_Cl_composeFirst_127 : decode (am_b mt_Cl_composeFirst) 127 = .ok (.bipush 10, 2) := by decide +kernel
theorem d_Cl_composeFirst_129 : decode (am_b mt_Cl_composeFirst) 129 = .ok (.aload_n 0, 1) := by decide +kernel
theorem d_Cl_composeFirst_130 : decode (am_b mt_Cl_composeFirst) 130 = .ok (.getfield 46, 3) := by decide +kernel
theorem d_Cl_composeFirst_133 : decode (am_b mt_Cl_composeFirst) 133 = .ok (.invokevirtual 107, 3) := by decide +kernel
theorem d_Cl_composeFirst_136 : decode (am_b mt_Cl_composeFirst) 136 = .ok (.return_, 1) := by decide +kernel
theorem d_Cl_compose_0 : decode (am_b mt_Cl_compose) 0 = .ok (.aload_n 0, 1) := by decide +kernel
theorem d_Cl_compose_1 : decode (am_b mt_Cl_compose) 1 = .ok (.getfield 27, 3) := by decide +kernel
theorem d_Cl_compose_4 : decode (am_b mt_Cl_compose) 4 = .ok (.invokevirtual 65, 3) := by decide +kernel
theorem d_Cl_compose_7 : decode (am_b mt_Cl_compose) 7 = .ok (.aload_n 0, 1) := by decide +kernel
theorem d_Cl_compose_8 : decode (am_b mt_Cl_compose) 8 = .ok (.getfield 27, 3) := by decide +kernel
theorem d_Cl_compose_11 : decode (am_b mt_Cl_compose) 11 = .ok (.iload_n 1, 1) := by decide +kernel
theorem d_Cl_compose_12 : decode (am_b mt_Cl_compose) 12 = .ok (.invokevirtual 33, 3) := by decide +kernel
theorem d_Cl_compose_15 : decode (am_b mt_Cl_compose) 15 = .ok (.aload_n 0, 1) := by decide +kernel
theorem d_Cl_compose_16 : decode (am_b mt_Cl_compose) 16 = .ok (.getfield 27, 3) := by decide +kernel
theorem d_Cl_compose_19 : decode (am_b mt_Cl_compose) 19 = .ok (.iload_n 2, 1) := by decide +kernel
theorem d_Cl_compose_20 : decode (am_b mt_Cl_compose) 20 = .ok (.invokevirtual 33, 3) := by decide +kernel
theorem d_Cl_compose_23 : decode (am_b mt_Cl_compose) 23 = .ok (.return_, 1) := by decide +kernel
theorem d_Cl_composeFind_0 : decode (am_b mt_Cl_composeFind) 0 = .ok (.aload_n 0, 1) := by decide +kernel
theorem d_Cl_composeFind_1 : decode (am_b mt_Cl_composeFind) 1 = .ok (.getfield 27, 3) := by decide +kernel
theorem d_Cl_composeFind_4 : decode (am_b mt_Cl_composeFind) 4 = .ok (.invokevirtual 65, 3) := by decide +kernel
theorem d_Cl_composeFind_7 : decode (am_b mt_Cl_composeFind) 7 = .ok (.aload_n 0, 1) := by decide +kernel
theorem d_Cl_composeFind_8 : decode (am_b mt_Cl_composeFind) 8 = .ok (.getfield 27, 3) := by decide +kernel
theorem d_Cl_composeFind_11 : decode (am_b mt_Cl_composeFind) 11 = .ok (.bipush 16, 2) := by decide +kernel
theorem d_Cl_composeFind_13 : decode (am_b mt_Cl_composeFind) 13 = .ok (.invokevirtual 33, 3) := by decide +kernel
theorem d_Cl_composeFind_16 : decode (am_b mt_Cl_composeFind) 16 = .ok (.aload_n 0, 1) := by decide +kernel
theorem d_Cl_composeFind_17 : decode (am_b mt_Cl_composeFind) 17 = .ok (.getfield 27, 3) := by decide +kernel
theorem d_Cl_composeFind_20 : decode (am_b mt_Cl_composeFind) 20 = .ok (.iload_n 1, 1) := by decide +kernel
theorem d_Cl_composeFind_21 : decode (am_b mt_Cl_composeFind) 21 = .ok (.invokevirtual 33, 3) := by decide +kernel
theorem d_Cl_composeFind_24 : decode (am_b mt_Cl_composeFind) 24 = .ok (.aload_n 0, 1) := by decide +kernel
theorem d_Cl_composeFind_25 : decode (am_b mt_Cl_composeFind) 25 = .ok (.getfield 27, 3) := by decide +kernel
theorem d_Cl_composeFind_28 : decode (am_b mt_Cl_composeFind) 28 = .ok (.aload_n 0, 1) := by decide +kernel
theorem d_Cl_composeFind_29 : decode (am_b mt_Cl_composeFind) 29 = .ok (.getfield 46, 3) := by decide +kernel
theorem d_Cl_composeFind_32 : decode (am_b mt_Cl_composeFind) 32 = .ok (.invokevirtual 33, 3) := by decide +kernel
theorem d_Cl_composeFind_35 : decode (am_b mt_Cl_composeFind) 35 = .ok (.return_, 1) := by decide +kernel
theorem d_Cl_composePart_0 : decode (am_b mt_Cl_composePart) 0 = .ok (.aload_n 0, 1) := by decide +kernel
theorem d_Cl_composePart_1 : decode (am_b mt_Cl_composePart) 1 = .ok (.getfield 27, 3) := by decide +kernel
theorem d_Cl_composePart_4 : decode (am_b mt_Cl_composePart) 4 = .ok (.invokevirtual 65, 3) := by decide +kernel
theorem d_Cl_composePart_7 : decode (am_b mt_Cl_composePart) 7 = .ok (.aload_n 0, 1) := by decide +kernel
theorem d_Cl_composePart_8 : decode (am_b mt_Cl_composePart) 8 = .ok (.getfield 27, 3) := by decide +kernel
theorem d_Cl_composePart_11 : decode (am_b mt_Cl_composePart) 11 = .ok (.bipush 22, 2) := by decide +kernel
theorem d_Cl_composePart_13 : decode (am_b mt_Cl_composePart) 13 = .ok (.invokevirtual 33, 3) := by decide +kernel
theorem d_Cl_composePart_16 : decode (am_b mt_Cl_composePart) 16 = .ok (.aload_n 0, 1) := by decide +kernel
theorem d_Cl_composePart_17 : decode (am_b mt_Cl_composePart) 17 = .ok (.getfield 27, 3) := by decide +kernel
theorem d_Cl_composePart_20 : decode (am_b mt_Cl_composePart) 20 = .ok (.aload_n 0, 1) := by decide +kernel
theorem d_Cl_composePart_21 : decode (am_b mt_Cl_composePart) 21 = .ok (.getfield 46, 3) := by decide +kernel
theorem d_Cl_composePart_24 : decode (am_b mt_Cl_composePart) 24 = .ok (.invokevirtual 33, 3) := by decide +kernel
theorem d_Cl_composePart_27 : decode (am_b mt_Cl_composePart) 27 = .ok (.aload_n 0, 1) := by decide +kernel
theorem d_Cl_composePart_28 : decode (am_b mt_Cl_composePart) 28 = .ok (.getfield 27, 3) := by decide +kernel
theorem d_Cl_composePart_31 : decode (am_b mt_Cl_composePart) 31 = .ok (.aload_n 0, 1) := by decide +kernel
theorem d_Cl_composePart_32 : decode (am_b mt_Cl_composePart) 32 = .ok (.getfield 58, 3) := by decide +kernel
theorem d_Cl_composePart_35 : decode (am_b mt_Cl_composePart) 35 = .ok (.invokevirtual 33, 3) := by decide +kernel
theorem d_Cl_composePart_38 : decode (am_b mt_Cl_composePart) 38 = .ok (.aload_n 0, 1) := by decide +kernel
theorem d_Cl_composePart_39 : decode (am_b mt_Cl_composePart) 39 = .ok (.getfield 27, 3) := by decide +kernel
theorem d_Cl_composePart_42 : decode (am_b mt_Cl_composePart) 42 = .ok (.aload_n 0, 1) := by decide +kernel
theorem d_Cl_composePart_43 : decode (am_b mt_Cl_composePart) 43 = .ok (.getfield 36, 3) := by decide +kernel
theorem d_Cl_composePart_46 : decode (am_b mt_Cl_composePart) 46 = .ok (.aload_n 0, 1) := by decide +kernel
theorem d_Cl_composePart_47 : decode (am_b mt_Cl_composePart) 47 = .ok (.getfield 58, 3) := by decide +kernel
theorem d_Cl_composePart_50 : decode (am_b mt_Cl_composePart) 50 = .ok (.aload_n 0, 1) := by decide +kernel
theorem d_Cl_composePart_51 : decode (am_b mt_Cl_composePart) 51 = .ok (.getfield 39, 3) := by decide +kernel
theorem d_Cl_composePart_54 : decode (am_b mt_Cl_composePart) 54 = .ok (.iconst 3, 1) := by decide +kernel
theorem d_Cl_composePart_55 : decode (am_b mt_Cl_composePart) 55 = .ok (.isub, 1) := by decide +kernel
theorem d_Cl_composePart_56 : decode (am_b mt_Cl_composePart) 56 = .ok (.invokevirtual 114, 3) := by decide +kernel
theorem d_Cl_composePart_59 : decode (am_b mt_Cl_composePart) 59 = .ok (.return_, 1) := by decide +kernel
theorem d_Cl_ask_0 : decode (am_b mt_Cl_ask) 0 = .ok (.aload_n 1, 1) := by decide +kernel
theorem d_Cl_ask_1 : decode (am_b mt_Cl_ask) 1 = .ok (.aload_n 0, 1) := by decide +kernel
theorem d_Cl_ask_2 : decode (am_b mt_Cl_ask) 2 = .ok (.getfield 27, 3) := by decide +kernel
theorem d_Cl_ask_5 : decode (am_b mt_Cl_ask) 5 = .ok (.invokevirtual 102, 3) := by decide +kernel
theorem d_Cl_ask_8 : decode (am_b mt_Cl_ask) 8 = .ok (.aload_n 0, 1) := by decide +kernel
theorem d_Cl_ask_9 : decode (am_b mt_Cl_ask) 9 = .ok (.iconst 0, 1) := by decide +kernel
theorem d_Cl_ask_10 : decode (am_b mt_Cl_ask) 10 = .ok (.putfield 55, 3) := by decide +kernel
theorem d_Cl_ask_13 : decode (am_b mt_Cl_ask) 13 = .ok (.return_, 1) := by decide +kernel
theorem d_La_write_0 : decode (am_b mt_La_write) 0 = .ok (.aload_n 0, 1) := by decide +kernel
theorem d_La_write_1 : decode (am_b mt_La_write) 1 = .ok (.iload_n 1, 1) := by decide +kernel
theorem d_La_write_2 : decode (am_b mt_La_write) 2 = .ok (.lload_n 2, 1) := by decide +kernel
theorem d_La_write_3 : decode (am_b mt_La_write) 3 = .ok (.iload 4, 2) := by decide +kernel
theorem d_La_write_5 : decode (am_b mt_La_write) 5 = .ok (.iload 5, 2) := by decide +kernel
theorem d_La_write_7 : decode (am_b mt_La_write) 7 = .ok (.invokevirtual 29, 3) := by decide +kernel
theorem d_La_write_10 : decode (am_b mt_La_write) 10 = .ok (.goto 11, 3) := by decide +kernel
theorem d_La_write_13 : decode (am_b mt_La_write) 13 = .ok (.astore 6, 2) := by decide +kernel
theorem d_La_write_15 : decode (am_b mt_La_write) 15 = .ok (.iconst 1, 1) := by decide +kernel
theorem d_La_write_16 : decode (am_b mt_La_write) 16 = .ok (.ireturn, 1) := by decide +kernel
theorem d_La_write_17 : decode (am_b mt_La_write) 17 = .ok (.astore 6, 2) := by decide +kernel
theorem d_La_write_19 : decode (am_b mt_La_write) 19 = .ok (.iconst 2, 1) := by decide +kernel
theorem d_La_write_20 : decode (am_b mt_La_write) 20 = .ok (.ireturn, 1) := by decide +kernel
theorem d_La_write_21 : decode (am_b mt_La_write) 21 = .ok (.iconst 0, 1) := by decide +kernel
theorem d_La_write_22 : decode (am_b mt_La_write) 22 = .ok (.ireturn, 1) := by decide +kernel
theorem d_Al_write_0 : decode (am_b mt_Al_write) 0 = .ok (.iload_n 1, 1) := by decide +kernel
theorem d_Al_write_1 : decode (am_b mt_Al_write) 1 = .ok (.invokestatic 60, 3) := by decide +kernel
theorem d_Al_write_4 : decode (am_b mt_Al_write) 4 = .ok (.ifCond .eq 30, 3) := by decide +kernel
theorem d_Al_write_7 : decode (am_b mt_Al_write) 7 = .ok (.iload 4, 2) := by decide +kernel
theorem d_Al_write_9 : decode (am_b mt_Al_write) 9 = .ok (.invokestatic 64, 3) := by decide +kernel
theorem d_Al_write_12 : decode (am_b mt_Al_write) 12 = .ok (.ifCond .eq 22, 3) := by decide +kernel
theorem d_Al_write_15 : decode (am_b mt_Al_write) 15 = .ok (.iload 5, 2) := by decide +kernel
theorem d_Al_write_17 : decode (am_b mt_Al_write) 17 = .ok (.ifCond .ne 25, 3) := by decide +kernel
theorem d_Al_write_20 : decode (am_b mt_Al_write) 20 = .ok (.iload 4, 2) := by decide +kernel
theorem d_Al_write_22 : decode (am_b mt_Al_write) 22 = .ok (.aload_n 0, 1) := by decide +kernel
theorem d_Al_write_23 : decode (am_b mt_Al_write) 23 = .ok (.getfield 38, 3) := by decide +kernel
theorem d_Al_write_26 : decode (am_b mt_Al_write) 26 = .ok (.invokevirtual 124, 3) := by decide +kernel
theorem d_Al_write_29 : decode (am_b mt_Al_write) 29 = .ok (.iconst 2, 1) := by decide +kernel
theorem d_Al_write_30 : decode (am_b mt_Al_write) 30 = .ok (.isub, 1) := by decide +kernel
theorem d_Al_write_31 : decode (am_b mt_Al_write) 31 = .ok (.if_icmp .le 11, 3) := by decide +kernel
theorem d_Al_write_34 : decode (am_b mt_Al_write) 34 = .ok (.new 67, 3) := by decide +kernel
theorem d_Al_write_37 : decode (am_b mt_Al_write) 37 = .ok (.dup, 1) := by decide +kernel
theorem d_Al_write_38 : decode (am_b mt_Al_write) 38 = .ok (.invokespecial 69, 3) := by decide +kernel
theorem d_Al_write_41 : decode (am_b mt_Al_write) 41 = .ok (.athrow, 1) := by decide +kernel
theorem d_Al_write_42 : decode (am_b mt_Al_write) 42 = .ok (.aload_n 0, 1) := by decide +kernel
theorem d_Al_write_43 : decode (am_b mt_Al_write) 43 = .ok (.invokevirtual 117, 3) := by decide +kernel
theorem d_Al_write_46 : decode (am_b mt_Al_write) 46 = .ok (.aload_n 0, 1) := by decide +kernel
theorem d_Al_write_47 : decode (am_b mt_Al_write) 47 = .ok (.getfield 38, 3) := by decide +kernel
theorem d_Al_write_50 : decode (am_b mt_Al_write) 50 = .ok (.iload 5, 2) := by decide +kernel
theorem d_Al_write_52 : decode (am_b mt_Al_write) 52 = .ok (.ifCond .eq 7, 3) := by decide +kernel
theorem d_Al_write_55 : decode (am_b mt_Al_write) 55 = .ok (.iconst 5, 1) := by decide +kernel
theorem d_Al_write_56 : decode (am_b mt_Al_write) 56 = .ok (.goto 4, 3) := by decide +kernel
theorem d_Al_write_59 : decode (am_b mt_Al_write) 59 = .ok (.iconst 4, 1) := by decide +kernel
theorem d_Al_write_60 : decode (am_b mt_Al_write) 60 = .ok (.iload_n 1, 1) := by decide +kernel
theorem d_Al_write_61 : decode (am_b mt_Al_write) 61 = .ok (.lload_n 2, 1) := by decide +kernel
theorem d_Al_write_62 : decode (am_b mt_Al_write) 62 = .ok (.iload 4, 2) := by decide +kernel
theorem d_Al_write_64 : decode (am_b mt_Al_write) 64 = .ok (.aload_n 0, 1) := by decide +kernel
theorem d_Al_write_65 : decode (am_b mt_Al_write) 65 = .ok (.getfield 28, 3) := by decide +kernel
theorem d_Al_write_68 : decode (am_b mt_Al_write) 68 = .ok (.getfield 101, 3) := by decide +kernel
theorem d_Al_write_71 : decode (am_b mt_Al_write) 71 = .ok (.invokevirtual 120, 3) := by decide +kernel
theorem d_Al_write_74 : decode (am_b mt_Al_write) 74 = .ok (.return_, 1) := by decide +kernel
theorem d_La_raw_0 : decode (am_b mt_La_raw) 0 = .ok (.aload_n 0, 1) := by decide +kernel
theorem d_La_raw_1 : decode (am_b mt_La_raw) 1 = .ok (.lload_n 1, 1) := by decide +kernel
theorem d_La_raw_2 : decode (am_b mt_La_raw) 2 = .ok (.iload_n 3, 1) := by decide +kernel
theorem d_La_raw_3 : decode (am_b mt_La_raw) 3 = .ok (.invokevirtual 33, 3) := by decide +kernel
theorem d_La_raw_6 : decode (am_b mt_La_raw) 6 = .ok (.goto 11, 3) := by decide +kernel
theorem d_La_raw_9 : decode (am_b mt_La_raw) 9 = .ok (.astore 4, 2) := by decide +kernel
theorem d_La_raw_11 : decode (am_b mt_La_raw) 11 = .ok (.iconst 1, 1) := by decide +kernel
theorem d_La_raw_12 : decode (am_b mt_La_raw) 12 = .ok (.ireturn, 1) := by decide +kernel
theorem d_La_raw_13 : decode (am_b mt_La_raw) 13 = .ok (.astore 4, 2) := by decide +kernel
theorem d_La_raw_15 : decode (am_b mt_La_raw) 15 = .ok (.iconst 2, 1) := by decide +kernel
theorem d_La_raw_16 : decode (am_b mt_La_raw) 16 = .ok (.ireturn, 1) := by decide +kernel
theorem d_La_raw_17 : decode (am_b mt_La_raw) 17 = .ok (.iconst 0, 1) := by decide +kernel
theorem d_La_raw_18 : decode (am_b mt_La_raw) 18 = .ok (.ireturn, 1) := by decide +kernel
theorem d_Al_raw_0 : decode (am_b mt_Al_raw) 0 = .ok (.iload_n 3, 1) := by decide +kernel
theorem d_Al_raw_1 : decode (am_b mt_Al_raw) 1 = .ok (.ifCond .eq 10, 3) := by decide +kernel
theorem d_Al_raw_4 : decode (am_b mt_Al_raw) 4 = .ok (.iload_n 3, 1) := by decide +kernel
theorem d_Al_raw_5 : decode (am_b mt_Al_raw) 5 = .ok (.invokestatic 64, 3) := by decide +kernel
theorem d_Al_raw_8 : decode (am_b mt_Al_raw) 8 = .ok (.ifCond .ne 11, 3) := by decide +kernel
theorem d_Al_raw_11 : decode (am_b mt_Al_raw) 11 = .ok (.new 67, 3) := by decide +kernel
theorem d_Al_raw_14 : decode (am_b mt_Al_raw) 14 = .ok (.dup, 1) := by decide +kernel
theorem d_Al_raw_15 : decode (am_b mt_Al_raw) 15 = .ok (.invokespecial 69, 3) := by decide +kernel
theorem d_Al_raw_18 : decode (am_b mt_Al_raw) 18 = .ok (.athrow, 1) := by decide +kernel
theorem d_Al_raw_19 : decode (am_b mt_Al_raw) 19 = .ok (.aload_n 0, 1) := by decide +kernel
theorem d_Al_raw_20 : decode (am_b mt_Al_raw) 20 = .ok (.invokevirtual 117, 3) := by decide +kernel
theorem d_Al_raw_23 : decode (am_b mt_Al_raw) 23 = .ok (.aload_n 0, 1) := by decide +kernel
theorem d_Al_raw_24 : decode (am_b mt_Al_raw) 24 = .ok (.getfield 38, 3) := by decide +kernel
theorem d_Al_raw_27 : decode (am_b mt_Al_raw) 27 = .ok (.bipush 6, 2) := by decide +kernel
theorem d_Al_raw_29 : decode (am_b mt_Al_raw) 29 = .ok (.iconst 0, 1) := by decide +kernel
theorem d_Al_raw_30 : decode (am_b mt_Al_raw) 30 = .ok (.lload_n 1, 1) := by decide +kernel
theorem d_Al_raw_31 : decode (am_b mt_Al_raw) 31 = .ok (.iload_n 3, 1) := by decide +kernel
theorem d_Al_raw_32 : decode (am_b mt_Al_raw) 32 = .ok (.aload_n 0, 1) := by decide +kernel
theorem d_Al_raw_33 : decode (am_b mt_Al_raw) 33 = .ok (.getfield 28, 3) := by decide +kernel
theorem d_Al_raw_36 : decode (am_b mt_Al_raw) 36 = .ok (.getfield 101, 3) := by decide +kernel
theorem d_Al_raw_39 : decode (am_b mt_Al_raw) 39 = .ok (.invokevirtual 120, 3) := by decide +kernel
theorem d_Al_raw_42 : decode (am_b mt_Al_raw) 42 = .ok (.return_, 1) := by decide +kernel
theorem d_La_event_0 : decode (am_b mt_La_event) 0 = .ok (.aload 6, 2) := by decide +kernel
theorem d_La_event_2 : decode (am_b mt_La_event) 2 = .ok (.iconst 0, 1) := by decide +kernel
theorem d_La_event_3 : decode (am_b mt_La_event) 3 = .ok (.aload_n 0, 1) := by decide +kernel
theorem d_La_event_4 : decode (am_b mt_La_event) 4 = .ok (.iload_n 1, 1) := by decide +kernel
theorem d_La_event_5 : decode (am_b mt_La_event) 5 = .ok (.lload_n 2, 1) := by decide +kernel
theorem d_La_event_6 : decode (am_b mt_La_event) 6 = .ok (.lload 4, 2) := by decide +kernel
theorem d_La_event_8 : decode (am_b mt_La_event) 8 = .ok (.invokevirtual 37, 3) := by decide +kernel
theorem d_La_event_11 : decode (am_b mt_La_event) 11 = .ok (.i2l, 1) := by decide +kernel
theorem d_La_event_12 : decode (am_b mt_La_event) 12 = .ok (.lastore, 1) := by decide +kernel
theorem d_La_event_13 : decode (am_b mt_La_event) 13 = .ok (.goto 11, 3) := by decide +kernel
theorem d_La_event_16 : decode (am_b mt_La_event) 16 = .ok (.astore 7, 2) := by decide +kernel
theorem d_La_event_18 : decode (am_b mt_La_event) 18 = .ok (.iconst 1, 1) := by decide +kernel
theorem d_La_event_19 : decode (am_b mt_La_event) 19 = .ok (.ireturn, 1) := by decide +kernel
theorem d_La_event_20 : decode (am_b mt_La_event) 20 = .ok (.astore 7, 2) := by decide +kernel
theorem d_La_event_22 : decode (am_b mt_La_event) 22 = .ok (.iconst 2, 1) := by decide +kernel
theorem d_La_event_23 : decode (am_b mt_La_event) 23 = .ok (.ireturn, 1) := by decide +kernel
theorem d_La_event_24 : decode (am_b mt_La_event) 24 = .ok (.iconst 0, 1) := by decide +kernel
theorem d_La_event_25 : decode (am_b mt_La_event) 25 = .ok (.ireturn, 1) := by decide +kernel
theorem d_Al_event_0 : decode (am_b mt_Al_event) 0 = .ok (.iload_n 1, 1) := by decide +kernel
theorem d_Al_event_1 : decode (am_b mt_Al_event) 1 = .ok (.ifCond .lt 8, 3) := by decide +kernel
theorem d_Al_event_4 : decode (am_b mt_Al_event) 4 = .ok (.iload_n 1, 1) := by decide +kernel
theorem d_Al_event_5 : decode (am_b mt_Al_event) 5 = .ok (.iconst 3, 1) := by decide +kernel
theorem d_Al_event_6 : decode (am_b mt_Al_event) 6 = .ok (.if_icmp .le 11, 3) := by decide +kernel
theorem d_Al_event_9 : decode (am_b mt_Al_event) 9 = .ok (.new 67, 3) := by decide +kernel
theorem d_Al_event_12 : decode (am_b mt_Al_event) 12 = .ok (.dup, 1) := by decide +kernel
theorem d_Al_event_13 : decode (am_b mt_Al_event) 13 = .ok (.invokespecial 69, 3) := by decide +kernel
theorem d_Al_event_16 : decode (am_b mt_Al_event) 16 = .ok (.athrow, 1) := by decide +kernel
theorem d_Al_event_17 : decode (am_b mt_Al_event) 17 = .ok (.aload_n 0, 1) := by decide +kernel
theorem d_Al_event_18 : decode (am_b mt_Al_event) 18 = .ok (.getfield 56, 3) := by decide +kernel
theorem d_Al_event_21 : decode (am_b mt_Al_event) 21 = .ok (.ifCond .eq 11, 3) := by decide +kernel
theorem d_Al_event_24 : decode (am_b mt_Al_event) 24 = .ok (.new 74, 3) := by decide +kernel
theorem d_Al_event_27 : decode (am_b mt_Al_event) 27 = .ok (.dup, 1) := by decide +kernel
theorem d_Al_event_28 : decode (am_b mt_Al_event) 28 = .ok (.invokespecial 76, 3) := by decide +kernel
theorem d_Al_event_31 : decode (am_b mt_Al_event) 31 = .ok (.athrow, 1) := by decide +kernel
theorem d_Al_event_32 : decode (am_b mt_Al_event) 32 = .ok (.aload_n 0, 1) := by decide +kernel
theorem d_Al_event_33 : decode (am_b mt_Al_event) 33 = .ok (.iload_n 1, 1) := by decide +kernel
theorem d_Al_event_34 : decode (am_b mt_Al_event) 34 = .ok (.lload_n 2, 1) := by decide +kernel
theorem d_Al_event_35 : decode (am_b mt_Al_event) 35 = .ok (.lload 4, 2) := by decide +kernel
theorem d_Al_event_37 : decode (am_b mt_Al_event) 37 = .ok (.invokevirtual 127, 3) := by decide +kernel
theorem d_Al_event_40 : decode (am_b mt_Al_event) 40 = .ok (.ireturn, 1) := by decide +kernel
theorem d_Al_exchange_0 : decode (am_b mt_Al_exchange) 0 = .ok (.aload_n 0, 1) := by decide +kernel
theorem d_Al_exchange_1 : decode (am_b mt_Al_exchange) 1 = .ok (.aload_n 0, 1) := by decide +kernel
theorem d_Al_exchange_2 : decode (am_b mt_Al_exchange) 2 = .ok (.getfield 14, 3) := by decide +kernel
theorem d_Al_exchange_5 : decode (am_b mt_Al_exchange) 5 = .ok (.invokevirtual 190, 3) := by decide +kernel
theorem d_Al_exchange_8 : decode (am_b mt_Al_exchange) 8 = .ok (.putfield 53, 3) := by decide +kernel
theorem d_Al_exchange_11 : decode (am_b mt_Al_exchange) 11 = .ok (.aload_n 0, 1) := by decide +kernel
theorem d_Al_exchange_12 : decode (am_b mt_Al_exchange) 12 = .ok (.getfield 21, 3) := by decide +kernel
theorem d_Al_exchange_15 : decode (am_b mt_Al_exchange) 15 = .ok (.aload_n 0, 1) := by decide +kernel
theorem d_Al_exchange_16 : decode (am_b mt_Al_exchange) 16 = .ok (.getfield 53, 3) := by decide +kernel
theorem d_Al_exchange_19 : decode (am_b mt_Al_exchange) 19 = .ok (.invokevirtual 193, 3) := by decide +kernel
theorem d_Al_exchange_22 : decode (am_b mt_Al_exchange) 22 = .ok (.aload_n 0, 1) := by decide +kernel
theorem d_Al_exchange_23 : decode (am_b mt_Al_exchange) 23 = .ok (.getfield 28, 3) := by decide +kernel
theorem d_Al_exchange_26 : decode (am_b mt_Al_exchange) 26 = .ok (.aload_n 0, 1) := by decide +kernel
theorem d_Al_exchange_27 : decode (am_b mt_Al_exchange) 27 = .ok (.getfield 21, 3) := by decide +kernel
theorem d_Al_exchange_30 : decode (am_b mt_Al_exchange) 30 = .ok (.invokevirtual 197, 3) := by decide +kernel
theorem d_Al_exchange_33 : decode (am_b mt_Al_exchange) 33 = .ok (.iload_n 1, 1) := by decide +kernel
theorem d_Al_exchange_34 : decode (am_b mt_Al_exchange) 34 = .ok (.iconst 1, 1) := by decide +kernel
theorem d_Al_exchange_35 : decode (am_b mt_Al_exchange) 35 = .ok (.iand, 1) := by decide +kernel
theorem d_Al_exchange_36 : decode (am_b mt_Al_exchange) 36 = .ok (.ifCond .ne 29, 3) := by decide +kernel
theorem d_Al_exchange_39 : decode (am_b mt_Al_exchange) 39 = .ok (.aload_n 0, 1) := by decide +kernel
theorem d_Al_exchange_40 : decode (am_b mt_Al_exchange) 40 = .ok (.getfield 32, 3) := by decide +kernel
theorem d_Al_exchange_43 : decode (am_b mt_Al_exchange) 43 = .ok (.aload_n 0, 1) := by decide +kernel
theorem d_Al_exchange_44 : decode (am_b mt_Al_exchange) 44 = .ok (.getfield 28, 3) := by decide +kernel
theorem d_Al_exchange_47 : decode (am_b mt_Al_exchange) 47 = .ok (.getfield 160, 3) := by decide +kernel
theorem d_Al_exchange_50 : decode (am_b mt_Al_exchange) 50 = .ok (.lload_n 2, 1) := by decide +kernel
theorem d_Al_exchange_51 : decode (am_b mt_Al_exchange) 51 = .ok (.aload_n 0, 1) := by decide +kernel
theorem d_Al_exchange_52 : decode (am_b mt_Al_exchange) 52 = .ok (.getfield 21, 3) := by decide +kernel
theorem d_Al_exchange_55 : decode (am_b mt_Al_exchange) 55 = .ok (.invokevirtual 201, 3) := by decide +kernel
theorem d_Al_exchange_58 : decode (am_b mt_Al_exchange) 58 = .ok (.ifCond .eq 7, 3) := by decide +kernel
theorem d_Al_exchange_61 : decode (am_b mt_Al_exchange) 61 = .ok (.iconst 1, 1) := by decide +kernel
theorem d_Al_exchange_62 : decode (am_b mt_Al_exchange) 62 = .ok (.goto 4, 3) := by decide +kernel
theorem d_Al_exchange_65 : decode (am_b mt_Al_exchange) 65 = .ok (.iconst 0, 1) := by decide +kernel
theorem d_Al_exchange_66 : decode (am_b mt_Al_exchange) 66 = .ok (.istore 6, 2) := by decide +kernel
theorem d_Al_exchange_68 : decode (am_b mt_Al_exchange) 68 = .ok (.iconst 0, 1) := by decide +kernel
theorem d_Al_exchange_69 : decode (am_b mt_Al_exchange) 69 = .ok (.istore 7, 2) := by decide +kernel
theorem d_Al_exchange_71 : decode (am_b mt_Al_exchange) 71 = .ok (.iload 6, 2) := by decide +kernel
theorem d_Al_exchange_73 : decode (am_b mt_Al_exchange) 73 = .ok (.ifCond .eq 87, 3) := by decide +kernel
theorem d_Al_exchange_76 : decode (am_b mt_Al_exchange) 76 = .ok (.aload_n 0, 1) := by decide +kernel
theorem d_Al_exchange_77 : decode (am_b mt_Al_exchange) 77 = .ok (.getfield 32, 3) := by decide +kernel
theorem d_Al_exchange_80 : decode (am_b mt_Al_exchange) 80 = .ok (.getfield 205, 3) := by decide +kernel
theorem d_Al_exchange_83 : decode (am_b mt_Al_exchange) 83 = .ok (.invokevirtual 209, 3) := by decide +kernel
theorem d_Al_exchange_86 : decode (am_b mt_Al_exchange) 86 = .ok (.ifCond .eq 27, 3) := by decide +kernel
theorem d_Al_exchange_89 : decode (am_b mt_Al_exchange) 89 = .ok (.aload_n 0, 1) := by decide +kernel
theorem d_Al_exchange_90 : decode (am_b mt_Al_exchange) 90 = .ok (.getfield 45, 3) := by decide +kernel
theorem d_Al_exchange_93 : decode (am_b mt_Al_exchange) 93 = .ok (.aload_n 0, 1) := by decide +kernel
theorem d_Al_exchange_94 : decode (am_b mt_Al_exchange) 94 = .ok (.getfield 32, 3) := by decide +kernel
theorem d_Al_exchange_97 : decode (am_b mt_Al_exchange) 97 = .ok (.getfield 205, 3) := by decide +kernel
theorem d_Al_exchange_100 : decode (am_b mt_Al_exchange) 100 = .ok (.getfield 214, 3) := by decide +kernel
theorem d_Al_exchange_103 : decode (am_b mt_Al_exchange) 103 = .ok (.aload_n 0, 1) := by decide +kernel
theorem d_Al_exchange_104 : decode (am_b mt_Al_exchange) 104 = .ok (.getfield 32, 3) := by decide +kernel
theorem d_Al_exchange_107 : decode (am_b mt_Al_exchange) 107 = .ok (.getfield 101, 3) := by decide +kernel
theorem d_Al_exchange_110 : decode (am_b mt_Al_exchange) 110 = .ok (.invokevirtual 217, 3) := by decide +kernel
theorem d_Al_exchange_113 : decode (am_b mt_Al_exchange) 113 = .ok (.aload_n 0, 1) := by decide +kernel
theorem d_Al_exchange_114 : decode (am_b mt_Al_exchange) 114 = .ok (.getfield 32, 3) := by decide +kernel
theorem d_Al_exchange_117 : decode (am_b mt_Al_exchange) 117 = .ok (.aload_n 0, 1) := by decide +kernel
theorem d_Al_exchange_118 : decode (am_b mt_Al_exchange) 118 = .ok (.getfield 21, 3) := by decide +kernel
theorem d_Al_exchange_121 : decode (am_b mt_Al_exchange) 121 = .ok (.invokevirtual 197, 3) := by decide +kernel
theorem d_Al_exchange_124 : decode (am_b mt_Al_exchange) 124 = .ok (.iload_n 1, 1) := by decide +kernel
theorem d_Al_exchange_125 : decode (am_b mt_Al_exchange) 125 = .ok (.iconst 2, 1) := by decide +kernel
theorem d_Al_exchange_126 : decode (am_b mt_Al_exchange) 126 = .ok (.iand, 1) := by decide +kernel
theorem d_Al_exchange_127 : decode (am_b mt_Al_exchange) 127 = .ok (.ifCond .ne 30, 3) := by decide +kernel
theorem d_Al_exchange_130 : decode (am_b mt_Al_exchange) 130 = .ok (.aload_n 0, 1) := by decide +kernel
theorem d_Al_exchange_131 : decode (am_b mt_Al_exchange) 131 = .ok (.getfield 28, 3) := by decide +kernel
theorem d_Al_exchange_134 : decode (am_b mt_Al_exchange) 134 = .ok (.aload_n 0, 1) := by decide +kernel
theorem d_Al_exchange_135 : decode (am_b mt_Al_exchange) 135 = .ok (.getfield 32, 3) := by decide +kernel
theorem d_Al_exchange_138 : decode (am_b mt_Al_exchange) 138 = .ok (.getfield 160, 3) := by decide +kernel
theorem d_Al_exchange_141 : decode (am_b mt_Al_exchange) 141 = .ok (.lload 4, 2) := by decide +kernel
theorem d_Al_exchange_143 : decode (am_b mt_Al_exchange) 143 = .ok (.aload_n 0, 1) := by decide +kernel
theorem d_Al_exchange_144 : decode (am_b mt_Al_exchange) 144 = .ok (.getfield 21, 3) := by decide +kernel
theorem d_Al_exchange_147 : decode (am_b mt_Al_exchange) 147 = .ok (.invokevirtual 201, 3) := by decide +kernel
theorem d_Al_exchange_150 : decode (am_b mt_Al_exchange) 150 = .ok (.ifCond .eq 7, 3) := by decide +kernel
theorem d_Al_exchange_153 : decode (am_b mt_Al_exchange) 153 = .ok (.iconst 1, 1) := by decide +kernel
theorem d_Al_exchange_154 : decode (am_b mt_Al_exchange) 154 = .ok (.goto 4, 3) := by decide +kernel
theorem d_Al_exchange_157 : decode (am_b mt_Al_exchange) 157 = .ok (.iconst 0, 1) := by decide +kernel
theorem d_Al_exchange_158 : decode (am_b mt_Al_exchange) 158 = .ok (.istore 7, 2) := by decide +kernel
theorem d_Al_exchange_160 : decode (am_b mt_Al_exchange) 160 = .ok (.iload 7, 2) := by decide +kernel
theorem d_Al_exchange_162 : decode (am_b mt_Al_exchange) 162 = .ok (.ifCond .eq 40, 3) := by decide +kernel
theorem d_Al_exchange_165 : decode (am_b mt_Al_exchange) 165 = .ok (.aload_n 0, 1) := by decide +kernel
theorem d_Al_exchange_166 : decode (am_b mt_Al_exchange) 166 = .ok (.getfield 28, 3) := by decide +kernel
theorem d_Al_exchange_169 : decode (am_b mt_Al_exchange) 169 = .ok (.getfield 205, 3) := by decide +kernel
theorem d_Al_exchange_172 : decode (am_b mt_Al_exchange) 172 = .ok (.invokevirtual 209, 3) := by decide +kernel
theorem d_Al_exchange_175 : decode (am_b mt_Al_exchange) 175 = .ok (.ifCond .eq 27, 3) := by decide +kernel
theorem d_Al_exchange_178 : decode (am_b mt_Al_exchange) 178 = .ok (.aload_n 0, 1) := by decide +kernel
theorem d_Al_exchange_179 : decode (am_b mt_Al_exchange) 179 = .ok (.getfield 38, 3) := by decide +kernel
theorem d_Al_exchange_182 : decode (am_b mt_Al_exchange) 182 = .ok (.aload_n 0, 1) := by decide +kernel
theorem d_Al_exchange_183 : decode (am_b mt_Al_exchange) 183 = .ok (.getfield 28, 3) := by decide +kernel
theorem d_Al_exchange_186 : decode (am_b mt_Al_exchange) 186 = .ok (.getfield 205, 3) := by decide +kernel
theorem d_Al_exchange_189 : decode (am_b mt_Al_exchange) 189 = .ok (.getfield 214, 3) := by decide +kernel
theorem d_Al_exchange_192 : decode (am_b mt_Al_exchange) 192 = .ok (.aload_n 0, 1) := by decide +kernel
theorem d_Al_exchange_193 : decode (am_b mt_Al_exchange) 193 = .ok (.getfield 28, 3) := by decide +kernel
theorem d_Al_exchange_196 : decode (am_b mt_Al_exchange) 196 = .ok (.getfield 101, 3) := by decide +kernel
theorem d_Al_exchange_199 : decode (am_b mt_Al_exchange) 199 = .ok (.invokevirtual 221, 3) := by decide +kernel
theorem d_Al_exchange_202 : decode (am_b mt_Al_exchange) 202 = .ok (.aload_n 0, 1) := by decide +kernel
theorem d_Al_exchange_203 : decode (am_b mt_Al_exchange) 203 = .ok (.iload 6, 2) := by decide +kernel
theorem d_Al_exchange_205 : decode (am_b mt_Al_exchange) 205 = .ok (.iload 7, 2) := by decide +kernel
theorem d_Al_exchange_207 : decode (am_b mt_Al_exchange) 207 = .ok (.invokevirtual 224, 3) := by decide +kernel
theorem d_Al_exchange_210 : decode (am_b mt_Al_exchange) 210 = .ok (.iload 6, 2) := by decide +kernel
theorem d_Al_exchange_212 : decode (am_b mt_Al_exchange) 212 = .ok (.ifCond .eq 7, 3) := by decide +kernel
theorem d_Al_exchange_215 : decode (am_b mt_Al_exchange) 215 = .ok (.iconst 1, 1) := by decide +kernel
theorem d_Al_exchange_216 : decode (am_b mt_Al_exchange) 216 = .ok (.goto 4, 3) := by decide +kernel
theorem d_Al_exchange_219 : decode (am_b mt_Al_exchange) 219 = .ok (.iconst 0, 1) := by decide +kernel
theorem d_Al_exchange_220 : decode (am_b mt_Al_exchange) 220 = .ok (.iload 7, 2) := by decide +kernel
theorem d_Al_exchange_222 : decode (am_b mt_Al_exchange) 222 = .ok (.ifCond .eq 7, 3) := by decide +kernel
theorem d_Al_exchange_225 : decode (am_b mt_Al_exchange) 225 = .ok (.iconst 2, 1) := by decide +kernel
theorem d_Al_exchange_226 : decode (am_b mt_Al_exchange) 226 = .ok (.goto 4, 3) := by decide +kernel
theorem d_Al_exchange_229 : decode (am_b mt_Al_exchange) 229 = .ok (.iconst 0, 1) := by decide +kernel
theorem d_Al_exchange_230 : decode (am_b mt_Al_exchange) 230 = .ok (.iadd, 1) := by decide +kernel
theorem d_Al_exchange_231 : decode (am_b mt_Al_exchange) 231 = .ok (.ireturn, 1) := by decide +kernel
theorem d_Ch_advance_0 : decode (am_b mt_Ch_advance) 0 = .ok (.aload_n 0, 1) := by decide +kernel
theorem d_Ch_advance_1 : decode (am_b mt_Ch_advance) 1 = .ok (.aload_n 0, 1) := by decide +kernel
theorem d_Ch_advance_2 : decode (am_b mt_Ch_advance) 2 = .ok (.getfield 37, 3) := by decide +kernel
theorem d_Ch_advance_5 : decode (am_b mt_Ch_advance) 5 = .ok (.aload_n 0, 1) := by decide +kernel
theorem d_Ch_advance_6 : decode (am_b mt_Ch_advance) 6 = .ok (.getfield 13, 3) := by decide +kernel
theorem d_Ch_advance_9 : decode (am_b mt_Ch_advance) 9 = .ok (.iadd, 1) := by decide +kernel
theorem d_Ch_advance_10 : decode (am_b mt_Ch_advance) 10 = .ok (.bipush 37, 2) := by decide +kernel
theorem d_Ch_advance_12 : decode (am_b mt_Ch_advance) 12 = .ok (.irem, 1) := by decide +kernel
theorem d_Ch_advance_13 : decode (am_b mt_Ch_advance) 13 = .ok (.putfield 37, 3) := by decide +kernel
theorem d_Ch_advance_16 : decode (am_b mt_Ch_advance) 16 = .ok (.aload_n 0, 1) := by decide +kernel
theorem d_Ch_advance_17 : decode (am_b mt_Ch_advance) 17 = .ok (.getfield 23, 3) := by decide +kernel
theorem d_Ch_advance_20 : decode (am_b mt_Ch_advance) 20 = .ok (.aload_n 0, 1) := by decide +kernel
theorem d_Ch_advance_21 : decode (am_b mt_Ch_advance) 21 = .ok (.getfield 37, 3) := by decide +kernel
theorem d_Ch_advance_24 : decode (am_b mt_Ch_advance) 24 = .ok (.baload, 1) := by decide +kernel
theorem d_Ch_advance_25 : decode (am_b mt_Ch_advance) 25 = .ok (.ifCond .eq 10, 3) := by decide +kernel
theorem d_Ch_advance_28 : decode (am_b mt_Ch_advance) 28 = .ok (.aload_n 0, 1) := by decide +kernel
theorem d_Ch_advance_29 : decode (am_b mt_Ch_advance) 29 = .ok (.getfield 37, 3) := by decide +kernel
theorem d_Ch_advance_32 : decode (am_b mt_Ch_advance) 32 = .ok (.goto 17, 3) := by decide +kernel
theorem d_Ch_advance_35 : decode (am_b mt_Ch_advance) 35 = .ok (.aload_n 0, 1) := by decide +kernel
theorem d_Ch_advance_36 : decode (am_b mt_Ch_advance) 36 = .ok (.getfield 19, 3) := by decide +kernel
theorem d_Ch_advance_39 : decode (am_b mt_Ch_advance) 39 = .ok (.aload_n 0, 1) := by decide +kernel
theorem d_Ch_advance_40 : decode (am_b mt_Ch_advance) 40 = .ok (.getfield 37, 3) := by decide +kernel
theorem d_Ch_advance_43 : decode (am_b mt_Ch_advance) 43 = .ok (.aload_n 0, 1) := by decide +kernel
theorem d_Ch_advance_44 : decode (am_b mt_Ch_advance) 44 = .ok (.getfield 30, 3) := by decide +kernel
theorem d_Ch_advance_47 : decode (am_b mt_Ch_advance) 47 = .ok (.irem, 1) := by decide +kernel
theorem d_Ch_advance_48 : decode (am_b mt_Ch_advance) 48 = .ok (.iaload, 1) := by decide +kernel
theorem d_Ch_advance_49 : decode (am_b mt_Ch_advance) 49 = .ok (.ireturn, 1) := by decide +kernel
theorem d_Wh_tune_0 : decode (am_b mt_Wh_tune) 0 = .ok (.bipush 64, 2) := by decide +kernel
theorem d_Wh_tune_2 : decode (am_b mt_Wh_tune) 2 = .ok (.iload_n 1, 1) := by decide +kernel
theorem d_Wh_tune_3 : decode (am_b mt_Wh_tune) 3 = .ok (.iadd, 1) := by decide +kernel
theorem d_Wh_tune_4 : decode (am_b mt_Wh_tune) 4 = .ok (.istore_n 2, 1) := by decide +kernel
theorem d_Wh_tune_5 : decode (am_b mt_Wh_tune) 5 = .ok (.iconst 0, 1) := by decide +kernel
theorem d_Wh_tune_6 : decode (am_b mt_Wh_tune) 6 = .ok (.istore_n 3, 1) := by decide +kernel
theorem d_Wh_tune_7 : decode (am_b mt_Wh_tune) 7 = .ok (.iload_n 3, 1) := by decide +kernel
theorem d_Wh_tune_8 : decode (am_b mt_Wh_tune) 8 = .ok (.aload_n 0, 1) := by decide +kernel
theorem d_Wh_tune_9 : decode (am_b mt_Wh_tune) 9 = .ok (.getfield 9, 3) := by decide +kernel
theorem d_Wh_tune_12 : decode (am_b mt_Wh_tune) 12 = .ok (.arraylength, 1) := by decide +kernel
theorem d_Wh_tune_13 : decode (am_b mt_Wh_tune) 13 = .ok (.if_icmp .ge 76, 3) := by decide +kernel
theorem d_Wh_tune_16 : decode (am_b mt_Wh_tune) 16 = .ok (.iconst 0, 1) := by decide +kernel
theorem d_Wh_tune_17 : decode (am_b mt_Wh_tune) 17 = .ok (.istore 4, 2) := by decide +kernel
theorem d_Wh_tune_19 : decode (am_b mt_Wh_tune) 19 = .ok (.iconst 0, 1) := by decide +kernel
theorem d_Wh_tune_20 : decode (am_b mt_Wh_tune) 20 = .ok (.istore 5, 2) := by decide +kernel
theorem d_Wh_tune_22 : decode (am_b mt_Wh_tune) 22 = .ok (.iload 5, 2) := by decide +kernel
theorem d_Wh_tune_24 : decode (am_b mt_Wh_tune) 24 = .ok (.bipush 8, 2) := by decide +kernel
theorem d_Wh_tune_26 : decode (am_b mt_Wh_tune) 26 = .ok (.if_icmp .ge 49, 3) := by decide +kernel
theorem d_Wh_tune_29 : decode (am_b mt_Wh_tune) 29 = .ok (.iload_n 2, 1) := by decide +kernel
theorem d_Wh_tune_30 : decode (am_b mt_Wh_tune) 30 = .ok (.bipush 64, 2) := by decide +kernel
theorem d_Wh_tune_32 : decode (am_b mt_Wh_tune) 32 = .ok (.iand, 1) := by decide +kernel
theorem d_Wh_tune_33 : decode (am_b mt_Wh_tune) 33 = .ok (.ifCond .eq 7, 3) := by decide +kernel
theorem d_Wh_tune_36 : decode (am_b mt_Wh_tune) 36 = .ok (.iconst 1, 1) := by decide +kernel
theorem d_Wh_tune_37 : decode (am_b mt_Wh_tune) 37 = .ok (.goto 4, 3) := by decide +kernel
theorem d_Wh_tune_40 : decode (am_b mt_Wh_tune) 40 = .ok (.iconst 0, 1) := by decide +kernel
theorem d_Wh_tune_41 : decode (am_b mt_Wh_tune) 41 = .ok (.istore 6, 2) := by decide +kernel
theorem d_Wh_tune_43 : decode (am_b mt_Wh_tune) 43 = .ok (.iload_n 2, 1) := by decide +kernel
theorem d_Wh_tune_44 : decode (am_b mt_Wh_tune) 44 = .ok (.iconst 1, 1) := by decide +kernel
theorem d_Wh_tune_45 : decode (am_b mt_Wh_tune) 45 = .ok (.ishl, 1) := by decide +kernel
theorem d_Wh_tune_46 : decode (am_b mt_Wh_tune) 46 = .ok (.bipush 127, 2) := by decide +kernel
theorem d_Wh_tune_48 : decode (am_b mt_Wh_tune) 48 = .ok (.iand, 1) := by decide +kernel
theorem d_Wh_tune_49 : decode (am_b mt_Wh_tune) 49 = .ok (.istore_n 2, 1) := by decide +kernel
theorem d_Wh_tune_50 : decode (am_b mt_Wh_tune) 50 = .ok (.iload 6, 2) := by decide +kernel
theorem d_Wh_tune_52 : decode (am_b mt_Wh_tune) 52 = .ok (.ifCond .eq 17, 3) := by decide +kernel
theorem d_Wh_tune_55 : decode (am_b mt_Wh_tune) 55 = .ok (.iload 4, 2) := by decide +kernel
theorem d_Wh_tune_57 : decode (am_b mt_Wh_tune) 57 = .ok (.iconst 1, 1) := by decide +kernel
theorem d_Wh_tune_58 : decode (am_b mt_Wh_tune) 58 = .ok (.iload 5, 2) := by decide +kernel
theorem d_Wh_tune_60 : decode (am_b mt_Wh_tune) 60 = .ok (.ishl, 1) := by decide +kernel
theorem d_Wh_tune_61 : decode (am_b mt_Wh_tune) 61 = .ok (.ior, 1) := by decide +kernel
theorem d_Wh_tune_62 : decode (am_b mt_Wh_tune) 62 = .ok (.istore 4, 2) := by decide +kernel
theorem d_Wh_tune_64 : decode (am_b mt_Wh_tune) 64 = .ok (.iload_n 2, 1) := by decide +kernel
theorem d_Wh_tune_65 : decode (am_b mt_Wh_tune) 65 = .ok (.bipush 17, 2) := by decide +kernel
theorem d_Wh_tune_67 : decode (am_b mt_Wh_tune) 67 = .ok (.ixor, 1) := by decide +kernel
theorem d_Wh_tune_68 : decode (am_b mt_Wh_tune) 68 = .ok (.istore_n 2, 1) := by decide +kernel
theorem d_Wh_tune_69 : decode (am_b mt_Wh_tune) 69 = .ok (.iinc 5 1, 3) := by decide +kernel
theorem d_Wh_tune_72 : decode (am_b mt_Wh_tune) 72 = .ok (.goto (-50), 3) := by decide +kernel
theorem d_Wh_tune_75 : decode (am_b mt_Wh_tune) 75 = .ok (.aload_n 0, 1) := by decide +kernel
theorem d_Wh_tune_76 : decode (am_b mt_Wh_tune) 76 = .ok (.getfield 9, 3) := by decide +kernel
theorem d_Wh_tune_79 : decode (am_b mt_Wh_tune) 79 = .ok (.iload_n 3, 1) := by decide +kernel
theorem d_Wh_tune_80 : decode (am_b mt_Wh_tune) 80 = .ok (.iload 4, 2) := by decide +kernel
theorem d_Wh_tune_82 : decode (am_b mt_Wh_tune) 82 = .ok (.iastore, 1) := by decide +kernel
theorem d_Wh_tune_83 : decode (am_b mt_Wh_tune) 83 = .ok (.iinc 3 1, 3) := by decide +kernel
theorem d_Wh_tune_86 : decode (am_b mt_Wh_tune) 86 = .ok (.goto (-79), 3) := by decide +kernel
theorem d_Wh_tune_89 : decode (am_b mt_Wh_tune) 89 = .ok (.return_, 1) := by decide +kernel
theorem d_De_send_0 : decode (am_b mt_De_send) 0 = .ok (.aload_n 0, 1) := by decide +kernel
theorem d_De_send_1 : decode (am_b mt_De_send) 1 = .ok (.getfield 44, 3) := by decide +kernel
theorem d_De_send_4 : decode (am_b mt_De_send) 4 = .ok (.ifCond .ne 23, 3) := by decide +kernel
theorem d_De_send_7 : decode (am_b mt_De_send) 7 = .ok (.aload_n 0, 1) := by decide +kernel
theorem d_De_send_8 : decode (am_b mt_De_send) 8 = .ok (.aload_n 0, 1) := by decide +kernel
theorem d_De_send_9 : decode (am_b mt_De_send) 9 = .ok (.getfield 12, 3) := by decide +kernel
theorem d_De_send_12 : decode (am_b mt_De_send) 12 = .ok (.aload_n 0, 1) := by decide +kernel
theorem d_De_send_13 : decode (am_b mt_De_send) 13 = .ok (.getfield 37, 3) := by decide +kernel
theorem d_De_send_16 : decode (am_b mt_De_send) 16 = .ok (.invokevirtual 57, 3) := by decide +kernel
theorem d_De_send_19 : decode (am_b mt_De_send) 19 = .ok (.putfield 40, 3) := by decide +kernel
theorem d_De_send_22 : decode (am_b mt_De_send) 22 = .ok (.aload_n 0, 1) := by decide +kernel
theorem d_De_send_23 : decode (am_b mt_De_send) 23 = .ok (.iconst 1, 1) := by decide +kernel
theorem d_De_send_24 : decode (am_b mt_De_send) 24 = .ok (.putfield 44, 3) := by decide +kernel
theorem d_De_send_27 : decode (am_b mt_De_send) 27 = .ok (.aload_n 0, 1) := by decide +kernel
theorem d_De_send_28 : decode (am_b mt_De_send) 28 = .ok (.getfield 34, 3) := by decide +kernel
theorem d_De_send_31 : decode (am_b mt_De_send) 31 = .ok (.invokevirtual 61, 3) := by decide +kernel
