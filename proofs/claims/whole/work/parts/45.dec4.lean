/-! Part 45 (4) (written by gen6.py): the instructions -/
theorem d_Mo_show_6 : decode (am_b mt_Mo_show) 6 = .ok (.iaload, 1) := by decide +kernel
theorem d_Mo_show_7 : decode (am_b mt_Mo_show) 7 = .ok (.if_icmp .le 13, 3) := by decide +kernel
theorem d_Mo_show_10 : decode (am_b mt_Mo_show) 10 = .ok (.aload_n 0, 1) := by decide +kernel
theorem d_Mo_show_11 : decode (am_b mt_Mo_show) 11 = .ok (.iload_n 2, 1) := by decide +kernel
theorem d_Mo_show_12 : decode (am_b mt_Mo_show) 12 = .ok (.iconst 1, 1) := by decide +kernel
theorem d_Mo_show_13 : decode (am_b mt_Mo_show) 13 = .ok (.iadd, 1) := by decide +kernel
theorem d_Mo_show_14 : decode (am_b mt_Mo_show) 14 = .ok (.bipush 7, 2) := by decide +kernel
theorem d_Mo_show_16 : decode (am_b mt_Mo_show) 16 = .ok (.invokevirtual 193, 3) := by decide +kernel
theorem d_Mo_show_19 : decode (am_b mt_Mo_show) 19 = .ok (.return_, 1) := by decide +kernel
theorem d_Mo_show_20 : decode (am_b mt_Mo_show) 20 = .ok (.aload_n 0, 1) := by decide +kernel
theorem d_Mo_show_21 : decode (am_b mt_Mo_show) 21 = .ok (.iload_n 1, 1) := by decide +kernel
theorem d_Mo_show_22 : decode (am_b mt_Mo_show) 22 = .ok (.iconst 1, 1) := by decide +kernel
theorem d_Mo_show_23 : decode (am_b mt_Mo_show) 23 = .ok (.iadd, 1) := by decide +kernel
theorem d_Mo_show_24 : decode (am_b mt_Mo_show) 24 = .ok (.invokevirtual 183, 3) := by decide +kernel
theorem d_Mo_show_27 : decode (am_b mt_Mo_show) 27 = .ok (.iload_n 3, 1) := by decide +kernel
theorem d_Mo_show_28 : decode (am_b mt_Mo_show) 28 = .ok (.istore 4, 2) := by decide +kernel
theorem d_Mo_show_30 : decode (am_b mt_Mo_show) 30 = .ok (.iload 4, 2) := by decide +kernel
theorem d_Mo_show_32 : decode (am_b mt_Mo_show) 32 = .ok (.aload_n 0, 1) := by decide +kernel
theorem d_Mo_show_33 : decode (am_b mt_Mo_show) 33 = .ok (.getfield 84, 3) := by decide +kernel
theorem d_Mo_show_36 : decode (am_b mt_Mo_show) 36 = .ok (.iload_n 2, 1) := by decide +kernel
theorem d_Mo_show_37 : decode (am_b mt_Mo_show) 37 = .ok (.iaload, 1) := by decide +kernel
theorem d_Mo_show_38 : decode (am_b mt_Mo_show) 38 = .ok (.if_icmp .ge 36, 3) := by decide +kernel
theorem d_Mo_show_41 : decode (am_b mt_Mo_show) 41 = .ok (.aload_n 0, 1) := by decide +kernel
theorem d_Mo_show_42 : decode (am_b mt_Mo_show) 42 = .ok (.getfield 140, 3) := by decide +kernel
theorem d_Mo_show_45 : decode (am_b mt_Mo_show) 45 = .ok (.aload_n 0, 1) := by decide +kernel
theorem d_Mo_show_46 : decode (am_b mt_Mo_show) 46 = .ok (.getfield 93, 3) := by decide +kernel
theorem d_Mo_show_49 : decode (am_b mt_Mo_show) 49 = .ok (.if_icmp .ge 25, 3) := by decide +kernel
theorem d_Mo_show_52 : decode (am_b mt_Mo_show) 52 = .ok (.aload_n 0, 1) := by decide +kernel
theorem d_Mo_show_53 : decode (am_b mt_Mo_show) 53 = .ok (.aload_n 0, 1) := by decide +kernel
theorem d_Mo_show_54 : decode (am_b mt_Mo_show) 54 = .ok (.getfield 87, 3) := by decide +kernel
theorem d_Mo_show_57 : decode (am_b mt_Mo_show) 57 = .ok (.bipush 16, 2) := by decide +kernel
theorem d_Mo_show_59 : decode (am_b mt_Mo_show) 59 = .ok (.iload_n 2, 1) := by decide +kernel
theorem d_Mo_show_60 : decode (am_b mt_Mo_show) 60 = .ok (.imul, 1) := by decide +kernel
theorem d_Mo_show_61 : decode (am_b mt_Mo_show) 61 = .ok (.iload 4, 2) := by decide +kernel
theorem d_Mo_show_63 : decode (am_b mt_Mo_show) 63 = .ok (.iadd, 1) := by decide +kernel
theorem d_Mo_show_64 : decode (am_b mt_Mo_show) 64 = .ok (.iaload, 1) := by decide +kernel
theorem d_Mo_show_65 : decode (am_b mt_Mo_show) 65 = .ok (.invokevirtual 186, 3) := by decide +kernel
theorem d_Mo_show_68 : decode (am_b mt_Mo_show) 68 = .ok (.iinc 4 1, 3) := by decide +kernel
theorem d_Mo_show_71 : decode (am_b mt_Mo_show) 71 = .ok (.goto (-41), 3) := by decide +kernel
theorem d_Mo_show_74 : decode (am_b mt_Mo_show) 74 = .ok (.aload_n 0, 1) := by decide +kernel
theorem d_Mo_show_75 : decode (am_b mt_Mo_show) 75 = .ok (.iconst 1, 1) := by decide +kernel
theorem d_Mo_show_76 : decode (am_b mt_Mo_show) 76 = .ok (.invokevirtual 149, 3) := by decide +kernel
theorem d_Mo_show_79 : decode (am_b mt_Mo_show) 79 = .ok (.return_, 1) := by decide +kernel
theorem d_Mo_replace_0 : decode (am_b mt_Mo_replace) 0 = .ok (.aload_n 0, 1) := by decide +kernel
theorem d_Mo_replace_1 : decode (am_b mt_Mo_replace) 1 = .ok (.getfield 174, 3) := by decide +kernel
theorem d_Mo_replace_4 : decode (am_b mt_Mo_replace) 4 = .ok (.bipush 18, 2) := by decide +kernel
theorem d_Mo_replace_6 : decode (am_b mt_Mo_replace) 6 = .ok (.if_icmp .le 11, 3) := by decide +kernel
theorem d_Mo_replace_9 : decode (am_b mt_Mo_replace) 9 = .ok (.aload_n 0, 1) := by decide +kernel
theorem d_Mo_replace_10 : decode (am_b mt_Mo_replace) 10 = .ok (.iload_n 1, 1) := by decide +kernel
theorem d_Mo_replace_11 : decode (am_b mt_Mo_replace) 11 = .ok (.bipush 13, 2) := by decide +kernel
theorem d_Mo_replace_13 : decode (am_b mt_Mo_replace) 13 = .ok (.invokevirtual 193, 3) := by decide +kernel
theorem d_Mo_replace_16 : decode (am_b mt_Mo_replace) 16 = .ok (.return_, 1) := by decide +kernel
theorem d_Mo_replace_17 : decode (am_b mt_Mo_replace) 17 = .ok (.aload_n 0, 1) := by decide +kernel
theorem d_Mo_replace_18 : decode (am_b mt_Mo_replace) 18 = .ok (.getfield 84, 3) := by decide +kernel
theorem d_Mo_replace_21 : decode (am_b mt_Mo_replace) 21 = .ok (.iload_n 1, 1) := by decide +kernel
theorem d_Mo_replace_22 : decode (am_b mt_Mo_replace) 22 = .ok (.iconst 1, 1) := by decide +kernel
theorem d_Mo_replace_23 : decode (am_b mt_Mo_replace) 23 = .ok (.isub, 1) := by decide +kernel
theorem d_Mo_replace_24 : decode (am_b mt_Mo_replace) 24 = .ok (.aload_n 0, 1) := by decide +kernel
theorem d_Mo_replace_25 : decode (am_b mt_Mo_replace) 25 = .ok (.getfield 174, 3) := by decide +kernel
theorem d_Mo_replace_28 : decode (am_b mt_Mo_replace) 28 = .ok (.iconst 2, 1) := by decide +kernel
theorem d_Mo_replace_29 : decode (am_b mt_Mo_replace) 29 = .ok (.isub, 1) := by decide +kernel
theorem d_Mo_replace_30 : decode (am_b mt_Mo_replace) 30 = .ok (.iastore, 1) := by decide +kernel
theorem d_Mo_replace_31 : decode (am_b mt_Mo_replace) 31 = .ok (.iconst 2, 1) := by decide +kernel
theorem d_Mo_replace_32 : decode (am_b mt_Mo_replace) 32 = .ok (.istore_n 2, 1) := by decide +kernel
theorem d_Mo_replace_33 : decode (am_b mt_Mo_replace) 33 = .ok (.iload_n 2, 1) := by decide +kernel
theorem d_Mo_replace_34 : decode (am_b mt_Mo_replace) 34 = .ok (.aload_n 0, 1) := by decide +kernel
theorem d_Mo_replace_35 : decode (am_b mt_Mo_replace) 35 = .ok (.getfield 174, 3) := by decide +kernel
theorem d_Mo_replace_38 : decode (am_b mt_Mo_replace) 38 = .ok (.if_icmp .ge 30, 3) := by decide +kernel
theorem d_Mo_replace_41 : decode (am_b mt_Mo_replace) 41 = .ok (.aload_n 0, 1) := by decide +kernel
theorem d_Mo_replace_42 : decode (am_b mt_Mo_replace) 42 = .ok (.getfield 87, 3) := by decide +kernel
theorem d_Mo_replace_45 : decode (am_b mt_Mo_replace) 45 = .ok (.bipush 16, 2) := by decide +kernel
theorem d_Mo_replace_47 : decode (am_b mt_Mo_replace) 47 = .ok (.iload_n 1, 1) := by decide +kernel
theorem d_Mo_replace_48 : decode (am_b mt_Mo_replace) 48 = .ok (.iconst 1, 1) := by decide +kernel
theorem d_Mo_replace_49 : decode (am_b mt_Mo_replace) 49 = .ok (.isub, 1) := by decide +kernel
theorem d_Mo_replace_50 : decode (am_b mt_Mo_replace) 50 = .ok (.imul, 1) := by decide +kernel
theorem d_Mo_replace_51 : decode (am_b mt_Mo_replace) 51 = .ok (.iload_n 2, 1) := by decide +kernel
theorem d_Mo_replace_52 : decode (am_b mt_Mo_replace) 52 = .ok (.iadd, 1) := by decide +kernel
theorem d_Mo_replace_53 : decode (am_b mt_Mo_replace) 53 = .ok (.iconst 2, 1) := by decide +kernel
theorem d_Mo_replace_54 : decode (am_b mt_Mo_replace) 54 = .ok (.isub, 1) := by decide +kernel
theorem d_Mo_replace_55 : decode (am_b mt_Mo_replace) 55 = .ok (.aload_n 0, 1) := by decide +kernel
theorem d_Mo_replace_56 : decode (am_b mt_Mo_replace) 56 = .ok (.getfield 72, 3) := by decide +kernel
theorem d_Mo_replace_59 : decode (am_b mt_Mo_replace) 59 = .ok (.iload_n 2, 1) := by decide +kernel
theorem d_Mo_replace_60 : decode (am_b mt_Mo_replace) 60 = .ok (.iaload, 1) := by decide +kernel
theorem d_Mo_replace_61 : decode (am_b mt_Mo_replace) 61 = .ok (.iastore, 1) := by decide +kernel
theorem d_Mo_replace_62 : decode (am_b mt_Mo_replace) 62 = .ok (.iinc 2 1, 3) := by decide +kernel
theorem d_Mo_replace_65 : decode (am_b mt_Mo_replace) 65 = .ok (.goto (-32), 3) := by decide +kernel
theorem d_Mo_replace_68 : decode (am_b mt_Mo_replace) 68 = .ok (.aload_n 0, 1) := by decide +kernel
theorem d_Mo_replace_69 : decode (am_b mt_Mo_replace) 69 = .ok (.bipush 19, 2) := by decide +kernel
theorem d_Mo_replace_71 : decode (am_b mt_Mo_replace) 71 = .ok (.invokevirtual 183, 3) := by decide +kernel
theorem d_Mo_replace_74 : decode (am_b mt_Mo_replace) 74 = .ok (.aload_n 0, 1) := by decide +kernel
theorem d_Mo_replace_75 : decode (am_b mt_Mo_replace) 75 = .ok (.iconst 1, 1) := by decide +kernel
theorem d_Mo_replace_76 : decode (am_b mt_Mo_replace) 76 = .ok (.invokevirtual 149, 3) := by decide +kernel
theorem d_Mo_replace_79 : decode (am_b mt_Mo_replace) 79 = .ok (.return_, 1) := by decide +kernel
theorem d_Mo_keep_0 : decode (am_b mt_Mo_keep) 0 = .ok (.aload_n 0, 1) := by decide +kernel
theorem d_Mo_keep_1 : decode (am_b mt_Mo_keep) 1 = .ok (.getfield 225, 3) := by decide +kernel
theorem d_Mo_keep_4 : decode (am_b mt_Mo_keep) 4 = .ok (.iconst 4, 1) := by decide +kernel
theorem d_Mo_keep_5 : decode (am_b mt_Mo_keep) 5 = .ok (.if_icmp .ne 11, 3) := by decide +kernel
theorem d_Mo_keep_8 : decode (am_b mt_Mo_keep) 8 = .ok (.aload_n 0, 1) := by decide +kernel
theorem d_Mo_keep_9 : decode (am_b mt_Mo_keep) 9 = .ok (.iload_n 1, 1) := by decide +kernel
theorem d_Mo_keep_10 : decode (am_b mt_Mo_keep) 10 = .ok (.bipush 9, 2) := by decide +kernel
theorem d_Mo_keep_12 : decode (am_b mt_Mo_keep) 12 = .ok (.invokevirtual 193, 3) := by decide +kernel
theorem d_Mo_keep_15 : decode (am_b mt_Mo_keep) 15 = .ok (.return_, 1) := by decide +kernel
theorem d_Mo_keep_16 : decode (am_b mt_Mo_keep) 16 = .ok (.aload_n 0, 1) := by decide +kernel
theorem d_Mo_keep_17 : decode (am_b mt_Mo_keep) 17 = .ok (.getfield 96, 3) := by decide +kernel
theorem d_Mo_keep_20 : decode (am_b mt_Mo_keep) 20 = .ok (.aload_n 0, 1) := by decide +kernel
theorem d_Mo_keep_21 : decode (am_b mt_Mo_keep) 21 = .ok (.getfield 225, 3) := by decide +kernel
theorem d_Mo_keep_24 : decode (am_b mt_Mo_keep) 24 = .ok (.iload_n 1, 1) := by decide +kernel
theorem d_Mo_keep_25 : decode (am_b mt_Mo_keep) 25 = .ok (.iastore, 1) := by decide +kernel
theorem d_Mo_keep_26 : decode (am_b mt_Mo_keep) 26 = .ok (.aload_n 0, 1) := by decide +kernel
theorem d_Mo_keep_27 : decode (am_b mt_Mo_keep) 27 = .ok (.getfield 99, 3) := by decide +kernel
theorem d_Mo_keep_30 : decode (am_b mt_Mo_keep) 30 = .ok (.aload_n 0, 1) := by decide +kernel
theorem d_Mo_keep_31 : decode (am_b mt_Mo_keep) 31 = .ok (.getfield 225, 3) := by decide +kernel
theorem d_Mo_keep_34 : decode (am_b mt_Mo_keep) 34 = .ok (.aload_n 0, 1) := by decide +kernel
theorem d_Mo_keep_35 : decode (am_b mt_Mo_keep) 35 = .ok (.getfield 72, 3) := by decide +kernel
theorem d_Mo_keep_38 : decode (am_b mt_Mo_keep) 38 = .ok (.iconst 2, 1) := by decide +kernel
theorem d_Mo_keep_39 : decode (am_b mt_Mo_keep) 39 = .ok (.iaload, 1) := by decide +kernel
theorem d_Mo_keep_40 : decode (am_b mt_Mo_keep) 40 = .ok (.iastore, 1) := by decide +kernel
theorem d_Mo_keep_41 : decode (am_b mt_Mo_keep) 41 = .ok (.aload_n 0, 1) := by decide +kernel
theorem d_Mo_keep_42 : decode (am_b mt_Mo_keep) 42 = .ok (.getfield 102, 3) := by decide +kernel
theorem d_Mo_keep_45 : decode (am_b mt_Mo_keep) 45 = .ok (.aload_n 0, 1) := by decide +kernel
theorem d_Mo_keep_46 : decode (am_b mt_Mo_keep) 46 = .ok (.getfield 225, 3) := by decide +kernel
theorem d_Mo_keep_49 : decode (am_b mt_Mo_keep) 49 = .ok (.aload_n 0, 1) := by decide +kernel
theorem d_Mo_keep_50 : decode (am_b mt_Mo_keep) 50 = .ok (.getfield 174, 3) := by decide +kernel
theorem d_Mo_keep_53 : decode (am_b mt_Mo_keep) 53 = .ok (.iconst 3, 1) := by decide +kernel
theorem d_Mo_keep_54 : decode (am_b mt_Mo_keep) 54 = .ok (.isub, 1) := by decide +kernel
theorem d_Mo_keep_55 : decode (am_b mt_Mo_keep) 55 = .ok (.iastore, 1) := by decide +kernel
theorem d_Mo_keep_56 : decode (am_b mt_Mo_keep) 56 = .ok (.aload_n 0, 1) := by decide +kernel
theorem d_Mo_keep_57 : decode (am_b mt_Mo_keep) 57 = .ok (.bipush 23, 2) := by decide +kernel
theorem d_Mo_keep_59 : decode (am_b mt_Mo_keep) 59 = .ok (.invokevirtual 183, 3) := by decide +kernel
theorem d_Mo_keep_62 : decode (am_b mt_Mo_keep) 62 = .ok (.aload_n 0, 1) := by decide +kernel
theorem d_Mo_keep_63 : decode (am_b mt_Mo_keep) 63 = .ok (.iload_n 1, 1) := by decide +kernel
theorem d_Mo_keep_64 : decode (am_b mt_Mo_keep) 64 = .ok (.invokevirtual 186, 3) := by decide +kernel
theorem d_Mo_keep_67 : decode (am_b mt_Mo_keep) 67 = .ok (.aload_n 0, 1) := by decide +kernel
theorem d_Mo_keep_68 : decode (am_b mt_Mo_keep) 68 = .ok (.aload_n 0, 1) := by decide +kernel
theorem d_Mo_keep_69 : decode (am_b mt_Mo_keep) 69 = .ok (.getfield 72, 3) := by decide +kernel
theorem d_Mo_keep_72 : decode (am_b mt_Mo_keep) 72 = .ok (.iconst 2, 1) := by decide +kernel
theorem d_Mo_keep_73 : decode (am_b mt_Mo_keep) 73 = .ok (.iaload, 1) := by decide +kernel
theorem d_Mo_keep_74 : decode (am_b mt_Mo_keep) 74 = .ok (.invokevirtual 186, 3) := by decide +kernel
theorem d_Mo_keep_77 : decode (am_b mt_Mo_keep) 77 = .ok (.iconst 3, 1) := by decide +kernel
theorem d_Mo_keep_78 : decode (am_b mt_Mo_keep) 78 = .ok (.istore_n 2, 1) := by decide +kernel
theorem d_Mo_keep_79 : decode (am_b mt_Mo_keep) 79 = .ok (.iload_n 2, 1) := by decide +kernel
theorem d_Mo_keep_80 : decode (am_b mt_Mo_keep) 80 = .ok (.aload_n 0, 1) := by decide +kernel
theorem d_Mo_keep_81 : decode (am_b mt_Mo_keep) 81 = .ok (.getfield 174, 3) := by decide +kernel
theorem d_Mo_keep_84 : decode (am_b mt_Mo_keep) 84 = .ok (.if_icmp .ge 41, 3) := by decide +kernel
theorem d_Mo_keep_87 : decode (am_b mt_Mo_keep) 87 = .ok (.aload_n 0, 1) := by decide +kernel
theorem d_Mo_keep_88 : decode (am_b mt_Mo_keep) 88 = .ok (.getfield 105, 3) := by decide +kernel
theorem d_Mo_keep_91 : decode (am_b mt_Mo_keep) 91 = .ok (.bipush 20, 2) := by decide +kernel
theorem d_Mo_keep_93 : decode (am_b mt_Mo_keep) 93 = .ok (.aload_n 0, 1) := by decide +kernel
theorem d_Mo_keep_94 : decode (am_b mt_Mo_keep) 94 = .ok (.getfield 225, 3) := by decide +kernel
theorem d_Mo_keep_97 : decode (am_b mt_Mo_keep) 97 = .ok (.imul, 1) := by decide +kernel
theorem d_Mo_keep_98 : decode (am_b mt_Mo_keep) 98 = .ok (.iload_n 2, 1) := by decide +kernel
theorem d_Mo_keep_99 : decode (am_b mt_Mo_keep) 99 = .ok (.iadd, 1) := by decide +kernel
theorem d_Mo_keep_100 : decode (am_b mt_Mo_keep) 100 = .ok (.iconst 3, 1) := by decide +kernel
theorem d_Mo_keep_101 : decode (am_b mt_Mo_keep) 101 = .ok (.isub, 1) := by decide +kernel
theorem d_Mo_keep_102 : decode (am_b mt_Mo_keep) 102 = .ok (.aload_n 0, 1) := by decide +kernel
theorem d_Mo_keep_103 : decode (am_b mt_Mo_keep) 103 = .ok (.getfield 72, 3) := by decide +kernel
theorem d_Mo_keep_106 : decode (am_b mt_Mo_keep) 106 = .ok (.iload_n 2, 1) := by decide +kernel
theorem d_Mo_keep_107 : decode (am_b mt_Mo_keep) 107 = .ok (.iaload, 1) := by decide +kernel
theorem d_Mo_keep_108 : decode (am_b mt_Mo_keep) 108 = .ok (.iastore, 1) := by decide +kernel
theorem d_Mo_keep_109 : decode (am_b mt_Mo_keep) 109 = .ok (.aload_n 0, 1) := by decide +kernel
theorem d_Mo_keep_110 : decode (am_b mt_Mo_keep) 110 = .ok (.aload_n 0, 1) := by decide +kernel
theorem d_Mo_keep_111 : decode (am_b mt_Mo_keep) 111 = .ok (.getfield 72, 3) := by decide +kernel
theorem d_Mo_keep_114 : decode (am_b mt_Mo_keep) 114 = .ok (.iload_n 2, 1) := by decide +kernel
theorem d_Mo_keep_115 : decode (am_b mt_Mo_keep) 115 = .ok (.iaload, 1) := by decide +kernel
theorem d_Mo_keep_116 : decode (am_b mt_Mo_keep) 116 = .ok (.invokevirtual 186, 3) := by decide +kernel
theorem d_Mo_keep_119 : decode (am_b mt_Mo_keep) 119 = .ok (.iinc 2 1, 3) := by decide +kernel
theorem d_Mo_keep_122 : decode (am_b mt_Mo_keep) 122 = .ok (.goto (-43), 3) := by decide +kernel
theorem d_Mo_keep_125 : decode (am_b mt_Mo_keep) 125 = .ok (.aload_n 0, 1) := by decide +kernel
theorem d_Mo_keep_126 : decode (am_b mt_Mo_keep) 126 = .ok (.dup, 1) := by decide +kernel
theorem d_Mo_keep_127 : decode (am_b mt_Mo_keep) 127 = .ok (.getfield 225, 3) := by decide +kernel
theorem d_Mo_keep_130 : decode (am_b mt_Mo_keep) 130 = .ok (.iconst 1, 1) := by decide +kernel
theorem d_Mo_keep_131 : decode (am_b mt_Mo_keep) 131 = .ok (.iadd, 1) := by decide +kernel
theorem d_Mo_keep_132 : decode (am_b mt_Mo_keep) 132 = .ok (.putfield 225, 3) := by decide +kernel
theorem d_Mo_keep_135 : decode (am_b mt_Mo_keep) 135 = .ok (.aload_n 0, 1) := by decide +kernel
theorem d_Mo_keep_136 : decode (am_b mt_Mo_keep) 136 = .ok (.iconst 1, 1) := by decide +kernel
theorem d_Mo_keep_137 : decode (am_b mt_Mo_keep) 137 = .ok (.invokevirtual 149, 3) := by decide +kernel
theorem d_Mo_keep_140 : decode (am_b mt_Mo_keep) 140 = .ok (.return_, 1) := by decide +kernel
theorem d_Mo_run_0 : decode (am_b mt_Mo_run) 0 = .ok (.aload_n 0, 1) := by decide +kernel
theorem d_Mo_run_1 : decode (am_b mt_Mo_run) 1 = .ok (.iload_n 1, 1) := by decide +kernel
theorem d_Mo_run_2 : decode (am_b mt_Mo_run) 2 = .ok (.iconst 1, 1) := by decide +kernel
theorem d_Mo_run_3 : decode (am_b mt_Mo_run) 3 = .ok (.if_icmp .lt 9, 3) := by decide +kernel
theorem d_Mo_run_6 : decode (am_b mt_Mo_run) 6 = .ok (.iload_n 1, 1) := by decide +kernel
theorem d_Mo_run_7 : decode (am_b mt_Mo_run) 7 = .ok (.bipush 40, 2) := by decide +kernel
theorem d_Mo_run_9 : decode (am_b mt_Mo_run) 9 = .ok (.if_icmp .le 7, 3) := by decide +kernel
theorem d_Mo_run_12 : decode (am_b mt_Mo_run) 12 = .ok (.iconst 1, 1) := by decide +kernel
theorem d_Mo_run_13 : decode (am_b mt_Mo_run) 13 = .ok (.goto 4, 3) := by decide +kernel
theorem d_Mo_run_16 : decode (am_b mt_Mo_run) 16 = .ok (.iconst 0, 1) := by decide +kernel
theorem d_Mo_run_17 : decode (am_b mt_Mo_run) 17 = .ok (.putfield 135, 3) := by decide +kernel
theorem d_Mo_run_20 : decode (am_b mt_Mo_run) 20 = .ok (.iconst 0, 1) := by decide +kernel
theorem d_Mo_run_21 : decode (am_b mt_Mo_run) 21 = .ok (.istore_n 2, 1) := by decide +kernel
theorem d_Mo_run_22 : decode (am_b mt_Mo_run) 22 = .ok (.iconst 0, 1) := by decide +kernel
theorem d_Mo_run_23 : decode (am_b mt_Mo_run) 23 = .ok (.istore_n 3, 1) := by decide +kernel
theorem d_Mo_run_24 : decode (am_b mt_Mo_run) 24 = .ok (.iload_n 3, 1) := by decide +kernel
theorem d_Mo_run_25 : decode (am_b mt_Mo_run) 25 = .ok (.iload_n 1, 1) := by decide +kernel
theorem d_Mo_run_26 : decode (am_b mt_Mo_run) 26 = .ok (.if_icmp .ge 41, 3) := by decide +kernel
theorem d_Mo_run_29 : decode (am_b mt_Mo_run) 29 = .ok (.aload_n 0, 1) := by decide +kernel
theorem d_Mo_run_30 : decode (am_b mt_Mo_run) 30 = .ok (.getfield 135, 3) := by decide +kernel
theorem d_Mo_run_33 : decode (am_b mt_Mo_run) 33 = .ok (.ifCond .ne 34, 3) := by decide +kernel
theorem d_Mo_run_36 : decode (am_b mt_Mo_run) 36 = .ok (.aload_n 0, 1) := by decide +kernel
theorem d_Mo_run_37 : decode (am_b mt_Mo_run) 37 = .ok (.getfield 283, 3) := by decide +kernel
theorem d_Mo_run_40 : decode (am_b mt_Mo_run) 40 = .ok (.ifCond .ne 27, 3) := by decide +kernel
theorem d_Mo_run_43 : decode (am_b mt_Mo_run) 43 = .ok (.aload_n 0, 1) := by decide +kernel
theorem d_Mo_run_44 : decode (am_b mt_Mo_run) 44 = .ok (.iconst 0, 1) := by decide +kernel
theorem d_Mo_run_45 : decode (am_b mt_Mo_run) 45 = .ok (.lconst 0, 1) := by decide +kernel
theorem d_Mo_run_46 : decode (am_b mt_Mo_run) 46 = .ok (.lconst 0, 1) := by decide +kernel
theorem d_Mo_run_47 : decode (am_b mt_Mo_run) 47 = .ok (.invokevirtual 316, 3) := by decide +kernel
theorem d_Mo_run_50 : decode (am_b mt_Mo_run) 50 = .ok (.ifCond .lt 9, 3) := by decide +kernel
theorem d_Mo_run_53 : decode (am_b mt_Mo_run) 53 = .ok (.iload_n 2, 1) := by decide +kernel
theorem d_Mo_run_54 : decode (am_b mt_Mo_run) 54 = .ok (.iconst 1, 1) := by decide +kernel
theorem d_Mo_run_55 : decode (am_b mt_Mo_run) 55 = .ok (.iadd, 1) := by decide +kernel
theorem d_Mo_run_56 : decode (am_b mt_Mo_run) 56 = .ok (.goto 4, 3) := by decide +kernel
theorem d_Mo_run_59 : decode (am_b mt_Mo_run) 59 = .ok (.iload_n 2, 1) := by decide +kernel
theorem d_Mo_run_60 : decode (am_b mt_Mo_run) 60 = .ok (.istore_n 2, 1) := by decide +kernel
theorem d_Mo_run_61 : decode (am_b mt_Mo_run) 61 = .ok (.iinc 3 1, 3) := by decide +kernel
theorem d_Mo_run_64 : decode (am_b mt_Mo_run) 64 = .ok (.goto (-40), 3) := by decide +kernel
theorem d_Mo_run_67 : decode (am_b mt_Mo_run) 67 = .ok (.iload_n 2, 1) := by decide +kernel
theorem d_Mo_run_68 : decode (am_b mt_Mo_run) 68 = .ok (.ireturn, 1) := by decide +kernel
theorem d_Mo_outcome_0 : decode (am_b mt_Mo_outcome) 0 = .ok (.aload_n 0, 1) := by decide +kernel
theorem d_Mo_outcome_1 : decode (am_b mt_Mo_outcome) 1 = .ok (.aload_n 0, 1) := by decide +kernel
theorem d_Mo_outcome_2 : decode (am_b mt_Mo_outcome) 2 = .ok (.getfield 235, 3) := by decide +kernel
theorem d_Mo_outcome_5 : decode (am_b mt_Mo_outcome) 5 = .ok (.ifCond .ne 7, 3) := by decide +kernel
theorem d_Mo_outcome_8 : decode (am_b mt_Mo_outcome) 8 = .ok (.iconst 1, 1) := by decide +kernel
theorem d_Mo_outcome_9 : decode (am_b mt_Mo_outcome) 9 = .ok (.goto 4, 3) := by decide +kernel
theorem d_Mo_outcome_12 : decode (am_b mt_Mo_outcome) 12 = .ok (.iconst 0, 1) := by decide +kernel
theorem d_Mo_outcome_13 : decode (am_b mt_Mo_outcome) 13 = .ok (.putfield 135, 3) := by decide +kernel
theorem d_Mo_outcome_16 : decode (am_b mt_Mo_outcome) 16 = .ok (.aload_n 0, 1) := by decide +kernel
theorem d_Mo_outcome_17 : decode (am_b mt_Mo_outcome) 17 = .ok (.getfield 235, 3) := by decide +kernel
theorem d_Mo_outcome_20 : decode (am_b mt_Mo_outcome) 20 = .ok (.ifCond .ne 7, 3) := by decide +kernel
theorem d_Mo_outcome_23 : decode (am_b mt_Mo_outcome) 23 = .ok (.iconst 0, 1) := by decide +kernel
theorem d_Mo_outcome_24 : decode (am_b mt_Mo_outcome) 24 = .ok (.goto 7, 3) := by decide +kernel
theorem d_Mo_outcome_27 : decode (am_b mt_Mo_outcome) 27 = .ok (.aload_n 0, 1) := by decide +kernel
theorem d_Mo_outcome_28 : decode (am_b mt_Mo_outcome) 28 = .ok (.getfield 111, 3) := by decide +kernel
theorem d_Mo_outcome_31 : decode (am_b mt_Mo_outcome) 31 = .ok (.ireturn, 1) := by decide +kernel
theorem d_Mo_error_0 : decode (am_b mt_Mo_error) 0 = .ok (.aload_n 0, 1) := by decide +kernel
theorem d_Mo_error_1 : decode (am_b mt_Mo_error) 1 = .ok (.iconst 0, 1) := by decide +kernel
theorem d_Mo_error_2 : decode (am_b mt_Mo_error) 2 = .ok (.putfield 135, 3) := by decide +kernel
theorem d_Mo_error_5 : decode (am_b mt_Mo_error) 5 = .ok (.aload_n 0, 1) := by decide +kernel
theorem d_Mo_error_6 : decode (am_b mt_Mo_error) 6 = .ok (.getfield 241, 3) := by decide +kernel
theorem d_Mo_error_9 : decode (am_b mt_Mo_error) 9 = .ok (.ireturn, 1) := by decide +kernel
theorem d_Mo_data_0 : decode (am_b mt_Mo_data) 0 = .ok (.aload_n 0, 1) := by decide +kernel
theorem d_Mo_data_1 : decode (am_b mt_Mo_data) 1 = .ok (.iload_n 1, 1) := by decide +kernel
theorem d_Mo_data_2 : decode (am_b mt_Mo_data) 2 = .ok (.iconst (-1), 1) := by decide +kernel
theorem d_Mo_data_3 : decode (am_b mt_Mo_data) 3 = .ok (.if_icmp .lt 11, 3) := by decide +kernel
theorem d_Mo_data_6 : decode (am_b mt_Mo_data) 6 = .ok (.iload_n 1, 1) := by decide +kernel
theorem d_Mo_data_7 : decode (am_b mt_Mo_data) 7 = .ok (.aload_n 0, 1) := by decide +kernel
theorem d_Mo_data_8 : decode (am_b mt_Mo_data) 8 = .ok (.getfield 262, 3) := by decide +kernel
theorem d_Mo_data_11 : decode (am_b mt_Mo_data) 11 = .ok (.if_icmp .lt 7, 3) := by decide +kernel
theorem d_Mo_data_14 : decode (am_b mt_Mo_data) 14 = .ok (.iconst 1, 1) := by decide +kernel
theorem d_Mo_data_15 : decode (am_b mt_Mo_data) 15 = .ok (.goto 4, 3) := by decide +kernel
theorem d_Mo_data_18 : decode (am_b mt_Mo_data) 18 = .ok (.iconst 0, 1) := by decide +kernel
theorem d_Mo_data_19 : decode (am_b mt_Mo_data) 19 = .ok (.putfield 135, 3) := by decide +kernel
theorem d_Mo_data_22 : decode (am_b mt_Mo_data) 22 = .ok (.aload_n 0, 1) := by decide +kernel
theorem d_Mo_data_23 : decode (am_b mt_Mo_data) 23 = .ok (.getfield 135, 3) := by decide +kernel
theorem d_Mo_data_26 : decode (am_b mt_Mo_data) 26 = .ok (.ifCond .le 7, 3) := by decide +kernel
theorem d_Mo_data_29 : decode (am_b mt_Mo_data) 29 = .ok (.iconst 0, 1) := by decide +kernel
theorem d_Mo_data_30 : decode (am_b mt_Mo_data) 30 = .ok (.goto 20, 3) := by decide +kernel
theorem d_Mo_data_33 : decode (am_b mt_Mo_data) 33 = .ok (.iload_n 1, 1) := by decide +kernel
theorem d_Mo_data_34 : decode (am_b mt_Mo_data) 34 = .ok (.ifCond .ge 10, 3) := by decide +kernel
theorem d_Mo_data_37 : decode (am_b mt_Mo_data) 37 = .ok (.aload_n 0, 1) := by decide +kernel
theorem d_Mo_data_38 : decode (am_b mt_Mo_data) 38 = .ok (.getfield 262, 3) := by decide +kernel
theorem d_Mo_data_41 : decode (am_b mt_Mo_data) 41 = .ok (.goto 9, 3) := by decide +kernel
theorem d_Mo_data_44 : decode (am_b mt_Mo_data) 44 = .ok (.aload_n 0, 1) := by decide +kernel
theorem d_Mo_data_45 : decode (am_b mt_Mo_data) 45 = .ok (.getfield 117, 3) := by decide +kernel
theorem d_Mo_data_48 : decode (am_b mt_Mo_data) 48 = .ok (.iload_n 1, 1) := by decide +kernel
theorem d_Mo_data_49 : decode (am_b mt_Mo_data) 49 = .ok (.iaload, 1) := by decide +kernel
theorem d_Mo_data_50 : decode (am_b mt_Mo_data) 50 = .ok (.ireturn, 1) := by decide +kernel
theorem d_Mo_note_0 : decode (am_b mt_Mo_note) 0 = .ok (.aload_n 0, 1) := by decide +kernel
theorem d_Mo_note_1 : decode (am_b mt_Mo_note) 1 = .ok (.iconst 0, 1) := by decide +kernel
theorem d_Mo_note_2 : decode (am_b mt_Mo_note) 2 = .ok (.putfield 135, 3) := by decide +kernel
theorem d_Mo_note_5 : decode (am_b mt_Mo_note) 5 = .ok (.iload_n 1, 1) := by decide +kernel
theorem d_Mo_note_6 : decode (am_b mt_Mo_note) 6 = .ok (.ifCond .lt 16, 3) := by decide +kernel
theorem d_Mo_note_9 : decode (am_b mt_Mo_note) 9 = .ok (.iload_n 1, 1) := by decide +kernel
theorem d_Mo_note_10 : decode (am_b mt_Mo_note) 10 = .ok (.iconst 3, 1) := by decide +kernel
theorem d_Mo_note_11 : decode (am_b mt_Mo_note) 11 = .ok (.if_icmp .gt 11, 3) := by decide +kernel
theorem d_Mo_note_14 : decode (am_b mt_Mo_note) 14 = .ok (.iload_n 1, 1) := by decide +kernel
theorem d_Mo_note_15 : decode (am_b mt_Mo_note) 15 = .ok (.aload_n 0, 1) := by decide +kernel
theorem d_Mo_note_16 : decode (am_b mt_Mo_note) 16 = .ok (.getfield 232, 3) := by decide +kernel
theorem d_Mo_note_19 : decode (am_b mt_Mo_note) 19 = .ok (.if_icmp .lt 9, 3) := by decide +kernel
theorem d_Mo_note_22 : decode (am_b mt_Mo_note) 22 = .ok (.aload_n 0, 1) := by decide +kernel
theorem d_Mo_note_23 : decode (am_b mt_Mo_note) 23 = .ok (.iconst 1, 1) := by decide +kernel
theorem d_Mo_note_24 : decode (am_b mt_Mo_note) 24 = .ok (.invokevirtual 320, 3) := by decide +kernel
theorem d_Mo_note_27 : decode (am_b mt_Mo_note) 27 = .ok (.ireturn, 1) := by decide +kernel
theorem d_Mo_note_28 : decode (am_b mt_Mo_note) 28 = .ok (.aload_n 0, 1) := by decide +kernel
theorem d_Mo_note_29 : decode (am_b mt_Mo_note) 29 = .ok (.getfield 232, 3) := by decide +kernel
theorem d_Mo_note_32 : decode (am_b mt_Mo_note) 32 = .ok (.iconst 1, 1) := by decide +kernel
theorem d_Mo_note_33 : decode (am_b mt_Mo_note) 33 = .ok (.isub, 1) := by decide +kernel
theorem d_Mo_note_34 : decode (am_b mt_Mo_note) 34 = .ok (.iload_n 1, 1) := by decide +kernel
theorem d_Mo_note_35 : decode (am_b mt_Mo_note) 35 = .ok (.isub, 1) := by decide +kernel
theorem d_Mo_note_36 : decode (am_b mt_Mo_note) 36 = .ok (.iconst 4, 1) := by decide +kernel
theorem d_Mo_note_37 : decode (am_b mt_Mo_note) 37 = .ok (.irem, 1) := by decide +kernel
theorem d_Mo_note_38 : decode (am_b mt_Mo_note) 38 = .ok (.istore_n 3, 1) := by decide +kernel
theorem d_Mo_note_39 : decode (am_b mt_Mo_note) 39 = .ok (.iload_n 2, 1) := by decide +kernel
theorem d_Mo_note_40 : decode (am_b mt_Mo_note) 40 = .ok (.iconst (-1), 1) := by decide +kernel
theorem d_Mo_note_41 : decode (am_b mt_Mo_note) 41 = .ok (.if_icmp .lt 13, 3) := by decide +kernel
theorem d_Mo_note_44 : decode (am_b mt_Mo_note) 44 = .ok (.iload_n 2, 1) := by decide +kernel
theorem d_Mo_note_45 : decode (am_b mt_Mo_note) 45 = .ok (.aload_n 0, 1) := by decide +kernel
theorem d_Mo_note_46 : decode (am_b mt_Mo_note) 46 = .ok (.getfield 123, 3) := by decide +kernel
theorem d_Mo_note_49 : decode (am_b mt_Mo_note) 49 = .ok (.iload_n 3, 1) := by decide +kernel
theorem d_Mo_note_50 : decode (am_b mt_Mo_note) 50 = .ok (.iaload, 1) := by decide +kernel
theorem d_Mo_note_51 : decode (am_b mt_Mo_note) 51 = .ok (.if_icmp .lt 9, 3) := by decide +kernel
theorem d_Mo_note_54 : decode (am_b mt_Mo_note) 54 = .ok (.aload_n 0, 1) := by decide +kernel
theorem d_Mo_note_55 : decode (am_b mt_Mo_note) 55 = .ok (.iconst 2, 1) := by decide +kernel
theorem d_Mo_note_56 : decode (am_b mt_Mo_note) 56 = .ok (.invokevirtual 320, 3) := by decide +kernel
theorem d_Mo_note_59 : decode (am_b mt_Mo_note) 59 = .ok (.ireturn, 1) := by decide +kernel
theorem d_Mo_note_60 : decode (am_b mt_Mo_note) 60 = .ok (.iload_n 2, 1) := by decide +kernel
theorem d_Mo_note_61 : decode (am_b mt_Mo_note) 61 = .ok (.ifCond .ge 12, 3) := by decide +kernel
theorem d_Mo_note_64 : decode (am_b mt_Mo_note) 64 = .ok (.aload_n 0, 1) := by decide +kernel
theorem d_Mo_note_65 : decode (am_b mt_Mo_note) 65 = .ok (.getfield 123, 3) := by decide +kernel
theorem d_Mo_note_68 : decode (am_b mt_Mo_note) 68 = .ok (.iload_n 3, 1) := by decide +kernel
theorem d_Mo_note_69 : decode (am_b mt_Mo_note) 69 = .ok (.iaload, 1) := by decide +kernel
theorem d_Mo_note_70 : decode (am_b mt_Mo_note) 70 = .ok (.goto 14, 3) := by decide +kernel
theorem d_Mo_note_73 : decode (am_b mt_Mo_note) 73 = .ok (.aload_n 0, 1) := by decide +kernel
theorem d_Mo_note_74 : decode (am_b mt_Mo_note) 74 = .ok (.getfield 126, 3) := by decide +kernel
theorem d_Mo_note_77 : decode (am_b mt_Mo_note) 77 = .ok (.bipush 24, 2) := by decide +kernel
theorem d_Mo_note_79 : decode (am_b mt_Mo_note) 79 = .ok (.iload_n 3, 1) := by decide +kernel
theorem d_Mo_note_80 : decode (am_b mt_Mo_note) 80 = .ok (.imul, 1) := by decide +kernel
theorem d_Mo_note_81 : decode (am_b mt_Mo_note) 81 = .ok (.iload_n 2, 1) := by decide +kernel
theorem d_Mo_note_82 : decode (am_b mt_Mo_note) 82 = .ok (.iadd, 1) := by decide +kernel
theorem d_Mo_note_83 : decode (am_b mt_Mo_note) 83 = .ok (.iaload, 1) := by decide +kernel
theorem d_Mo_note_84 : decode (am_b mt_Mo_note) 84 = .ok (.ireturn, 1) := by decide +kernel
theorem d_Mo_fail_0 : decode (am_b mt_Mo_fail) 0 = .ok (.aload_n 0, 1) := by decide +kernel
theorem d_Mo_fail_1 : decode (am_b mt_Mo_fail) 1 = .ok (.iload_n 1, 1) := by decide +kernel
theorem d_Mo_fail_2 : decode (am_b mt_Mo_fail) 2 = .ok (.putfield 135, 3) := by decide +kernel
theorem d_Mo_fail_5 : decode (am_b mt_Mo_fail) 5 = .ok (.iconst 0, 1) := by decide +kernel
theorem d_Mo_fail_6 : decode (am_b mt_Mo_fail) 6 = .ok (.ireturn, 1) := by decide +kernel
theorem d_Mo_value_0 : decode (am_b mt_Mo_value) 0 = .ok (.aload_n 0, 1) := by decide +kernel
theorem d_Mo_value_1 : decode (am_b mt_Mo_value) 1 = .ok (.iconst 0, 1) := by decide +kernel
theorem d_Mo_value_2 : decode (am_b mt_Mo_value) 2 = .ok (.putfield 135, 3) := by decide +kernel
theorem d_Mo_value_5 : decode (am_b mt_Mo_value) 5 = .ok (.iload_n 1, 1) := by decide +kernel
theorem d_Mo_value_6 : decode (am_b mt_Mo_value) 6 = .ok (.iconst 1, 1) := by decide +kernel
theorem d_Mo_value_7 : decode (am_b mt_Mo_value) 7 = .ok (.if_icmp .lt 11, 3) := by decide +kernel
theorem d_Mo_value_10 : decode (am_b mt_Mo_value) 10 = .ok (.iload_n 1, 1) := by decide +kernel
theorem d_Mo_value_11 : decode (am_b mt_Mo_value) 11 = .ok (.aload_n 0, 1) := by decide +kernel
theorem d_Mo_value_12 : decode (am_b mt_Mo_value) 12 = .ok (.getfield 212, 3) := by decide +kernel
theorem d_Mo_value_15 : decode (am_b mt_Mo_value) 15 = .ok (.if_icmp .le 9, 3) := by decide +kernel
theorem d_Mo_value_18 : decode (am_b mt_Mo_value) 18 = .ok (.aload_n 0, 1) := by decide +kernel
theorem d_Mo_value_19 : decode (am_b mt_Mo_value) 19 = .ok (.iconst 1, 1) := by decide +kernel
theorem d_Mo_value_20 : decode (am_b mt_Mo_value) 20 = .ok (.invokevirtual 320, 3) := by decide +kernel
theorem d_Mo_value_23 : decode (am_b mt_Mo_value) 23 = .ok (.ireturn, 1) := by decide +kernel
theorem d_Mo_value_24 : decode (am_b mt_Mo_value) 24 = .ok (.iload_n 2, 1) := by decide +kernel
theorem d_Mo_value_25 : decode (am_b mt_Mo_value) 25 = .ok (.iconst (-1), 1) := by decide +kernel
theorem d_Mo_value_26 : decode (am_b mt_Mo_value) 26 = .ok (.if_icmp .lt 15, 3) := by decide +kernel
theorem d_Mo_value_29 : decode (am_b mt_Mo_value) 29 = .ok (.iload_n 2, 1) := by decide +kernel
theorem d_Mo_value_30 : decode (am_b mt_Mo_value) 30 = .ok (.aload_n 0, 1) := by decide +kernel
theorem d_Mo_value_31 : decode (am_b mt_Mo_value) 31 = .ok (.getfield 84, 3) := by decide +kernel
theorem d_Mo_value_34 : decode (am_b mt_Mo_value) 34 = .ok (.iload_n 1, 1) := by decide +kernel
theorem d_Mo_value_35 : decode (am_b mt_Mo_value) 35 = .ok (.iconst 1, 1) := by decide +kernel
theorem d_Mo_value_36 : decode (am_b mt_Mo_value) 36 = .ok (.isub, 1) := by decide +kernel
theorem d_Mo_value_37 : decode (am_b mt_Mo_value) 37 = .ok (.iaload, 1) := by decide +kernel
theorem d_Mo_value_38 : decode (am_b mt_Mo_value) 38 = .ok (.if_icmp .lt 9, 3) := by decide +kernel
theorem d_Mo_value_41 : decode (am_b mt_Mo_value) 41 = .ok (.aload_n 0, 1) := by decide +kernel
theorem d_Mo_value_42 : decode (am_b mt_Mo_value) 42 = .ok (.iconst 2, 1) := by decide +kernel
theorem d_Mo_value_43 : decode (am_b mt_Mo_value) 43 = .ok (.invokevirtual 320, 3) := by decide +kernel
theorem d_Mo_value_46 : decode (am_b mt_Mo_value) 46 = .ok (.ireturn, 1) := by decide +kernel
theorem d_Mo_value_47 : decode (am_b mt_Mo_value) 47 = .ok (.iload_n 2, 1) := by decide +kernel
theorem d_Mo_value_48 : decode (am_b mt_Mo_value) 48 = .ok (.ifCond .ge 14, 3) := by decide +kernel
theorem d_Mo_value_51 : decode (am_b mt_Mo_value) 51 = .ok (.aload_n 0, 1) := by decide +kernel
theorem d_Mo_value_52 : decode (am_b mt_Mo_value) 52 = .ok (.getfield 84, 3) := by decide +kernel
theorem d_Mo_value_55 : decode (am_b mt_Mo_value) 55 = .ok (.iload_n 1, 1) := by decide +kernel
theorem d_Mo_value_56 : decode (am_b mt_Mo_value) 56 = .ok (.iconst 1, 1) := by decide +kernel
theorem d_Mo_value_57 : decode (am_b mt_Mo_value) 57 = .ok (.isub, 1) := by decide +kernel
theorem d_Mo_value_58 : decode (am_b mt_Mo_value) 58 = .ok (.iaload, 1) := by decide +kernel
theorem d_Mo_value_59 : decode (am_b mt_Mo_value) 59 = .ok (.goto 16, 3) := by decide +kernel
theorem d_Mo_value_62 : decode (am_b mt_Mo_value) 62 = .ok (.aload_n 0, 1) := by decide +kernel
theorem d_Mo_value_63 : decode (am_b mt_Mo_value) 63 = .ok (.getfield 87, 3) := by decide +kernel
theorem d_Mo_value_66 : decode (am_b mt_Mo_value) 66 = .ok (.bipush 16, 2) := by decide +kernel
theorem d_Mo_value_68 : decode (am_b mt_Mo_value) 68 = .ok (.iload_n 1, 1) := by decide +kernel
theorem d_Mo_value_69 : decode (am_b mt_Mo_value) 69 = .ok (.iconst 1, 1) := by decide +kernel
theorem d_Mo_value_70 : decode (am_b mt_Mo_value) 70 = .ok (.isub, 1) := by decide +kernel
theorem d_Mo_value_71 : decode (am_b mt_Mo_value) 71 = .ok (.imul, 1) := by decide +kernel
theorem d_Mo_value_72 : decode (am_b mt_Mo_value) 72 = .ok (.iload_n 2, 1) := by decide +kernel
theorem d_Mo_value_73 : decode (am_b mt_Mo_value) 73 = .ok (.iadd, 1) := by decide +kernel
theorem d_Mo_value_74 : decode (am_b mt_Mo_value) 74 = .ok (.iaload, 1) := by decide +kernel
theorem d_Mo_value_75 : decode (am_b mt_Mo_value) 75 = .ok (.ireturn, 1) := by decide +kernel
theorem d_Mo_air_0 : decode (am_b mt_Mo_air) 0 = .ok (.aload_n 0, 1) := by decide +kernel
theorem d_Mo_air_1 : decode (am_b mt_Mo_air) 1 = .ok (.iconst 0, 1) := by decide +kernel
theorem d_Mo_air_2 : decode (am_b mt_Mo_air) 2 = .ok (.putfield 135, 3) := by decide +kernel
theorem d_Mo_air_5 : decode (am_b mt_Mo_air) 5 = .ok (.iload_n 1, 1) := by decide +kernel
theorem d_Mo_air_6 : decode (am_b mt_Mo_air) 6 = .ok (.ifCond .eq 7, 3) := by decide +kernel
theorem d_Mo_air_9 : decode (am_b mt_Mo_air) 9 = .ok (.iconst 1, 1) := by decide +kernel
theorem d_Mo_air_10 : decode (am_b mt_Mo_air) 10 = .ok (.goto 4, 3) := by decide +kernel
theorem d_Mo_air_13 : decode (am_b mt_Mo_air) 13 = .ok (.iconst 0, 1) := by decide +kernel
theorem d_Mo_air_14 : decode (am_b mt_Mo_air) 14 = .ok (.istore_n 3, 1) := by decide +kernel
theorem d_Mo_air_15 : decode (am_b mt_Mo_air) 15 = .ok (.aload_n 0, 1) := by decide +kernel
theorem d_Mo_air_16 : decode (am_b mt_Mo_air) 16 = .ok (.getfield 69, 3) := by decide +kernel
theorem d_Mo_air_19 : decode (am_b mt_Mo_air) 19 = .ok (.iload_n 3, 1) := by decide +kernel
theorem d_Mo_air_20 : decode (am_b mt_Mo_air) 20 = .ok (.iaload, 1) := by decide +kernel
theorem d_Mo_air_21 : decode (am_b mt_Mo_air) 21 = .ok (.ifCond .ne 9, 3) := by decide +kernel
theorem d_Mo_air_24 : decode (am_b mt_Mo_air) 24 = .ok (.aload_n 0, 1) := by decide +kernel
theorem d_Mo_air_25 : decode (am_b mt_Mo_air) 25 = .ok (.iconst 1, 1) := by decide +kernel
theorem d_Mo_air_26 : decode (am_b mt_Mo_air) 26 = .ok (.invokevirtual 320, 3) := by decide +kernel
theorem d_Mo_air_29 : decode (am_b mt_Mo_air) 29 = .ok (.ireturn, 1) := by decide +kernel
theorem d_Mo_air_30 : decode (am_b mt_Mo_air) 30 = .ok (.iload_n 2, 1) := by decide +kernel
theorem d_Mo_air_31 : decode (am_b mt_Mo_air) 31 = .ok (.iconst (-1), 1) := by decide +kernel
theorem d_Mo_air_32 : decode (am_b mt_Mo_air) 32 = .ok (.if_icmp .lt 13, 3) := by decide +kernel
theorem d_Mo_air_35 : decode (am_b mt_Mo_air) 35 = .ok (.iload_n 2, 1) := by decide +kernel
theorem d_Mo_air_36 : decode (am_b mt_Mo_air) 36 = .ok (.aload_n 0, 1) := by decide +kernel
theorem d_Mo_air_37 : decode (am_b mt_Mo_air) 37 = .ok (.getfield 69, 3) := by decide +kernel
theorem d_Mo_air_40 : decode (am_b mt_Mo_air) 40 = .ok (.iload_n 3, 1) := by decide +kernel
theorem d_Mo_air_41 : decode (am_b mt_Mo_air) 41 = .ok (.iaload, 1) := by decide +kernel
theorem d_Mo_air_42 : decode (am_b mt_Mo_air) 42 = .ok (.if_icmp .lt 9, 3) := by decide +kernel
theorem d_Mo_air_45 : decode (am_b mt_Mo_air) 45 = .ok (.aload_n 0, 1) := by decide +kernel
theorem d_Mo_air_46 : decode (am_b mt_Mo_air) 46 = .ok (.iconst 2, 1) := by decide +kernel
theorem d_Mo_air_47 : decode (am_b mt_Mo_air) 47 = .ok (.invokevirtual 320, 3) := by decide +kernel
theorem d_Mo_air_50 : decode (am_b mt_Mo_air) 50 = .ok (.ireturn, 1) := by decide +kernel
theorem d_Mo_air_51 : decode (am_b mt_Mo_air) 51 = .ok (.iload_n 2, 1) := by decide +kernel
theorem d_Mo_air_52 : decode (am_b mt_Mo_air) 52 = .ok (.ifCond .ge 12, 3) := by decide +kernel
theorem d_Mo_air_55 : decode (am_b mt_Mo_air) 55 = .ok (.aload_n 0, 1) := by decide +kernel
theorem d_Mo_air_56 : decode (am_b mt_Mo_air) 56 = .ok (.getfield 69, 3) := by decide +kernel
theorem d_Mo_air_59 : decode (am_b mt_Mo_air) 59 = .ok (.iload_n 3, 1) := by decide +kernel
theorem d_Mo_air_60 : decode (am_b mt_Mo_air) 60 = .ok (.iaload, 1) := by decide +kernel
theorem d_Mo_air_61 : decode (am_b mt_Mo_air) 61 = .ok (.goto 14, 3) := by decide +kernel
theorem d_Mo_air_64 : decode (am_b mt_Mo_air) 64 = .ok (.aload_n 0, 1) := by decide +kernel
theorem d_Mo_air_65 : decode (am_b mt_Mo_air) 65 = .ok (.getfield 66, 3) := by decide +kernel
theorem d_Mo_air_68 : decode (am_b mt_Mo_air) 68 = .ok (.bipush 16, 2) := by decide +kernel
theorem d_Mo_air_70 : decode (am_b mt_Mo_air) 70 = .ok (.iload_n 3, 1) := by decide +kernel
theorem d_Mo_air_71 : decode (am_b mt_Mo_air) 71 = .ok (.imul, 1) := by decide +kernel
theorem d_Mo_air_72 : decode (am_b mt_Mo_air) 72 = .ok (.iload_n 2, 1) := by decide +kernel
theorem d_Mo_air_73 : decode (am_b mt_Mo_air) 73 = .ok (.iadd, 1) := by decide +kernel
theorem d_Mo_air_74 : decode (am_b mt_Mo_air) 74 = .ok (.iaload, 1) := by decide +kernel
theorem d_Mo_air_75 : decode (am_b mt_Mo_air) 75 = .ok (.ireturn, 1) := by decide +kernel
theorem d_Mo_look_0 : decode (am_b mt_Mo_look) 0 = .ok (.aload_n 0, 1) := by decide +kernel
theorem d_Mo_look_1 : decode (am_b mt_Mo_look) 1 = .ok (.iconst 0, 1) := by decide +kernel
theorem d_Mo_look_2 : decode (am_b mt_Mo_look) 2 = .ok (.putfield 135, 3) := by decide +kernel
theorem d_Mo_look_5 : decode (am_b mt_Mo_look) 5 = .ok (.iload_n 1, 1) := by decide +kernel
theorem d_Mo_look_6 : decode (am_b mt_Mo_look) 6 = .ok (.tableswitch 115 0 8 #[50, 55, 60, 67, 74, 79, 84, 89, 102], 50) := by decide +kernel
theorem d_Mo_look_56 : decode (am_b mt_Mo_look) 56 = .ok (.aload_n 0, 1) := by decide +kernel
theorem d_Mo_look_57 : decode (am_b mt_Mo_look) 57 = .ok (.getfield 13, 3) := by decide +kernel
theorem d_Mo_look_60 : decode (am_b mt_Mo_look) 60 = .ok (.ireturn, 1) := by decide +kernel
theorem d_Mo_look_61 : decode (am_b mt_Mo_look) 61 = .ok (.aload_n 0, 1) := by decide +kernel
theorem d_Mo_look_62 : decode (am_b mt_Mo_look) 62 = .ok (.getfield 306, 3) := by decide +kernel
theorem d_Mo_look_65 : decode (am_b mt_Mo_look) 65 = .ok (.ireturn, 1) := by decide +kernel
theorem d_Mo_look_66 : decode (am_b mt_Mo_look) 66 = .ok (.aload_n 0, 1) := by decide +kernel
theorem d_Mo_look_67 : decode (am_b mt_Mo_look) 67 = .ok (.getfield 27, 3) := by decide +kernel
theorem d_Mo_look_70 : decode (am_b mt_Mo_look) 70 = .ok (.iconst 0, 1) := by decide +kernel
theorem d_Mo_look_71 : decode (am_b mt_Mo_look) 71 = .ok (.iaload, 1) := by decide +kernel
theorem d_Mo_look_72 : decode (am_b mt_Mo_look) 72 = .ok (.ireturn, 1) := by decide +kernel
theorem d_Mo_look_73 : decode (am_b mt_Mo_look) 73 = .ok (.aload_n 0, 1) := by decide +kernel
theorem d_Mo_look_74 : decode (am_b mt_Mo_look) 74 = .ok (.getfield 27, 3) := by decide +kernel
theorem d_Mo_look_77 : decode (am_b mt_Mo_look) 77 = .ok (.iconst 1, 1) := by decide +kernel
theorem d_Mo_look_78 : decode (am_b mt_Mo_look) 78 = .ok (.iaload, 1) := by decide +kernel
theorem d_Mo_look_79 : decode (am_b mt_Mo_look) 79 = .ok (.ireturn, 1) := by decide +kernel
theorem d_Mo_look_80 : decode (am_b mt_Mo_look) 80 = .ok (.aload_n 0, 1) := by decide +kernel
theorem d_Mo_look_81 : decode (am_b mt_Mo_look) 81 = .ok (.getfield 108, 3) := by decide +kernel
theorem d_Mo_look_84 : decode (am_b mt_Mo_look) 84 = .ok (.ireturn, 1) := by decide +kernel
theorem d_Mo_look_85 : decode (am_b mt_Mo_look) 85 = .ok (.aload_n 0, 1) := by decide +kernel
theorem d_Mo_look_86 : decode (am_b mt_Mo_look) 86 = .ok (.getfield 93, 3) := by decide +kernel
theorem d_Mo_look_89 : decode (am_b mt_Mo_look) 89 = .ok (.ireturn, 1) := by decide +kernel
theorem d_Mo_look_90 : decode (am_b mt_Mo_look) 90 = .ok (.aload_n 0, 1) := by decide +kernel
theorem d_Mo_look_91 : decode (am_b mt_Mo_look) 91 = .ok (.getfield 225, 3) := by decide +kernel
theorem d_Mo_look_94 : decode (am_b mt_Mo_look) 94 = .ok (.ireturn, 1) := by decide +kernel
theorem d_Mo_look_95 : decode (am_b mt_Mo_look) 95 = .ok (.aload_n 0, 1) := by decide +kernel
theorem d_Mo_look_96 : decode (am_b mt_Mo_look) 96 = .ok (.getfield 283, 3) := by decide +kernel
theorem d_Mo_look_99 : decode (am_b mt_Mo_look) 99 = .ok (.ifCond .eq 7, 3) := by decide +kernel
theorem d_Mo_look_102 : decode (am_b mt_Mo_look) 102 = .ok (.iconst 1, 1) := by decide +kernel
theorem d_Mo_look_103 : decode (am_b mt_Mo_look) 103 = .ok (.goto 4, 3) := by decide +kernel
theorem d_Mo_look_106 : decode (am_b mt_Mo_look) 106 = .ok (.iconst 0, 1) := by decide +kernel
theorem d_Mo_look_107 : decode (am_b mt_Mo_look) 107 = .ok (.ireturn, 1) := by decide +kernel
theorem d_Mo_look_108 : decode (am_b mt_Mo_look) 108 = .ok (.aload_n 0, 1) := by decide +kernel
theorem d_Mo_look_109 : decode (am_b mt_Mo_look) 109 = .ok (.getfield 189, 3) := by decide +kernel
theorem d_Mo_look_112 : decode (am_b mt_Mo_look) 112 = .ok (.ifCond .eq 7, 3) := by decide +kernel
theorem d_Mo_look_115 : decode (am_b mt_Mo_look) 115 = .ok (.iconst 1, 1) := by decide +kernel
theorem d_Mo_look_116 : decode (am_b mt_Mo_look) 116 = .ok (.goto 4, 3) := by decide +kernel
theorem d_Mo_look_119 : decode (am_b mt_Mo_look) 119 = .ok (.iconst 0, 1) := by decide +kernel
theorem d_Mo_look_120 : decode (am_b mt_Mo_look) 120 = .ok (.ireturn, 1) := by decide +kernel
theorem d_Mo_look_121 : decode (am_b mt_Mo_look) 121 = .ok (.iconst (-1), 1) := by decide +kernel
theorem d_Mo_look_122 : decode (am_b mt_Mo_look) 122 = .ok (.ireturn, 1) := by decide +kernel
theorem d_La_law_0 : decode (am_b mt_La_law) 0 = .ok (.new 8, 3) := by decide +kernel
theorem d_La_law_3 : decode (am_b mt_La_law) 3 = .ok (.dup, 1) := by decide +kernel
theorem d_La_law_4 : decode (am_b mt_La_law) 4 = .ok (.aload_n 0, 1) := by decide +kernel
theorem d_La_law_5 : decode (am_b mt_La_law) 5 = .ok (.iconst 0, 1) := by decide +kernel
theorem d_La_law_6 : decode (am_b mt_La_law) 6 = .ok (.invokestatic 67, 3) := by decide +kernel
theorem d_La_law_9 : decode (am_b mt_La_law) 9 = .ok (.aload_n 0, 1) := by decide +kernel
theorem d_La_law_10 : decode (am_b mt_La_law) 10 = .ok (.iconst 1, 1) := by decide +kernel
theorem d_La_law_11 : decode (am_b mt_La_law) 11 = .ok (.invokestatic 67, 3) := by decide +kernel
theorem d_La_law_14 : decode (am_b mt_La_law) 14 = .ok (.aload_n 0, 1) := by decide +kernel
theorem d_La_law_15 : decode (am_b mt_La_law) 15 = .ok (.iconst 2, 1) := by decide +kernel
theorem d_La_law_16 : decode (am_b mt_La_law) 16 = .ok (.invokestatic 67, 3) := by decide +kernel
theorem d_La_law_19 : decode (am_b mt_La_law) 19 = .ok (.invokespecial 73, 3) := by decide +kernel
theorem d_La_law_22 : decode (am_b mt_La_law) 22 = .ok (.astore_n 1, 1) := by decide +kernel
theorem d_La_law_23 : decode (am_b mt_La_law) 23 = .ok (.new 76, 3) := by decide +kernel
theorem d_La_law_26 : decode (am_b mt_La_law) 26 = .ok (.dup, 1) := by decide +kernel
theorem d_La_law_27 : decode (am_b mt_La_law) 27 = .ok (.aload_n 0, 1) := by decide +kernel
theorem d_La_law_28 : decode (am_b mt_La_law) 28 = .ok (.iconst 0, 1) := by decide +kernel
theorem d_La_law_29 : decode (am_b mt_La_law) 29 = .ok (.invokestatic 67, 3) := by decide +kernel
theorem d_La_law_32 : decode (am_b mt_La_law) 32 = .ok (.aload_n 0, 1) := by decide +kernel
theorem d_La_law_33 : decode (am_b mt_La_law) 33 = .ok (.iconst 1, 1) := by decide +kernel
theorem d_La_law_34 : decode (am_b mt_La_law) 34 = .ok (.invokestatic 67, 3) := by decide +kernel
theorem d_La_law_37 : decode (am_b mt_La_law) 37 = .ok (.aload_n 0, 1) := by decide +kernel
theorem d_La_law_38 : decode (am_b mt_La_law) 38 = .ok (.iconst 2, 1) := by decide +kernel
theorem d_La_law_39 : decode (am_b mt_La_law) 39 = .ok (.invokestatic 67, 3) := by decide +kernel
theorem d_La_law_42 : decode (am_b mt_La_law) 42 = .ok (.invokespecial 78, 3) := by decide +kernel
theorem d_La_law_45 : decode (am_b mt_La_law) 45 = .ok (.astore_n 2, 1) := by decide +kernel
theorem d_La_law_46 : decode (am_b mt_La_law) 46 = .ok (.iconst 1, 1) := by decide +kernel
theorem d_La_law_47 : decode (am_b mt_La_law) 47 = .ok (.newarray .long, 2) := by decide +kernel
theorem d_La_law_49 : decode (am_b mt_La_law) 49 = .ok (.astore_n 3, 1) := by decide +kernel
theorem d_La_law_50 : decode (am_b mt_La_law) 50 = .ok (.iconst 3, 1) := by decide +kernel
theorem d_La_law_51 : decode (am_b mt_La_law) 51 = .ok (.istore 4, 2) := by decide +kernel
theorem d_La_law_53 : decode (am_b mt_La_law) 53 = .ok (.iload 4, 2) := by decide +kernel
theorem d_La_law_55 : decode (am_b mt_La_law) 55 = .ok (.aload_n 0, 1) := by decide +kernel
theorem d_La_law_56 : decode (am_b mt_La_law) 56 = .ok (.arraylength, 1) := by decide +kernel
theorem d_La_law_57 : decode (am_b mt_La_law) 57 = .ok (.bipush 6, 2) := by decide +kernel
theorem d_La_law_59 : decode (am_b mt_La_law) 59 = .ok (.isub, 1) := by decide +kernel
theorem d_La_law_60 : decode (am_b mt_La_law) 60 = .ok (.if_icmp .gt 1224, 3) := by decide +kernel
theorem d_La_law_63 : decode (am_b mt_La_law) 63 = .ok (.aload_n 0, 1) := by decide +kernel
theorem d_La_law_64 : decode (am_b mt_La_law) 64 = .ok (.iload 4, 2) := by decide +kernel
theorem d_La_law_66 : decode (am_b mt_La_law) 66 = .ok (.iaload, 1) := by decide +kernel
theorem d_La_law_67 : decode (am_b mt_La_law) 67 = .ok (.bipush 15, 2) := by decide +kernel
theorem d_La_law_69 : decode (am_b mt_La_law) 69 = .ok (.iand, 1) := by decide +kernel
theorem d_La_law_70 : decode (am_b mt_La_law) 70 = .ok (.tableswitch 1208 0 14 #[74, 198, 338, 402, 450, 570, 650, 794, 850, 894, 907, 963, 1031, 1099, 1183], 74) := by decide +kernel
theorem d_La_law_144 : decode (am_b mt_La_law) 144 = .ok (.aload_n 1, 1) := by decide +kernel
theorem d_La_law_145 : decode (am_b mt_La_law) 145 = .ok (.aload_n 0, 1) := by decide +kernel
theorem d_La_law_146 : decode (am_b mt_La_law) 146 = .ok (.iload 4, 2) := by decide +kernel
theorem d_La_law_148 : decode (am_b mt_La_law) 148 = .ok (.iconst 1, 1) := by decide +kernel
theorem d_La_law_149 : decode (am_b mt_La_law) 149 = .ok (.iadd, 1) := by decide +kernel
theorem d_La_law_150 : decode (am_b mt_La_law) 150 = .ok (.iaload, 1) := by decide +kernel
theorem d_La_law_151 : decode (am_b mt_La_law) 151 = .ok (.aload_n 0, 1) := by decide +kernel
theorem d_La_law_152 : decode (am_b mt_La_law) 152 = .ok (.iload 4, 2) := by decide +kernel
theorem d_La_law_154 : decode (am_b mt_La_law) 154 = .ok (.iconst 2, 1) := by decide +kernel
theorem d_La_law_155 : decode (am_b mt_La_law) 155 = .ok (.iadd, 1) := by decide +kernel
theorem d_La_law_156 : decode (am_b mt_La_law) 156 = .ok (.iaload, 1) := by decide +kernel
theorem d_La_law_157 : decode (am_b mt_La_law) 157 = .ok (.aload_n 0, 1) := by decide +kernel
theorem d_La_law_158 : decode (am_b mt_La_law) 158 = .ok (.iload 4, 2) := by decide +kernel
theorem d_La_law_160 : decode (am_b mt_La_law) 160 = .ok (.iconst 3, 1) := by decide +kernel
theorem d_La_law_161 : decode (am_b mt_La_law) 161 = .ok (.iadd, 1) := by decide +kernel
theorem d_La_law_162 : decode (am_b mt_La_law) 162 = .ok (.iaload, 1) := by decide +kernel
theorem d_La_law_163 : decode (am_b mt_La_law) 163 = .ok (.i2l, 1) := by decide +kernel
theorem d_La_law_164 : decode (am_b mt_La_law) 164 = .ok (.bipush 32, 2) := by decide +kernel
theorem d_La_law_166 : decode (am_b mt_La_law) 166 = .ok (.lshl, 1) := by decide +kernel
theorem d_La_law_167 : decode (am_b mt_La_law) 167 = .ok (.aload_n 0, 1) := by decide +kernel
theorem d_La_law_168 : decode (am_b mt_La_law) 168 = .ok (.iload 4, 2) := by decide +kernel
theorem d_La_law_170 : decode (am_b mt_La_law) 170 = .ok (.iconst 4, 1) := by decide +kernel
theorem d_La_law_171 : decode (am_b mt_La_law) 171 = .ok (.iadd, 1) := by decide +kernel
theorem d_La_law_172 : decode (am_b mt_La_law) 172 = .ok (.iaload, 1) := by decide +kernel
theorem d_La_law_173 : decode (am_b mt_La_law) 173 = .ok (.i2l, 1) := by decide +kernel
theorem d_La_law_174 : decode (am_b mt_La_law) 174 = .ok (.ldc2_w 79, 3) := by decide +kernel
theorem d_La_law_177 : decode (am_b mt_La_law) 177 = .ok (.land, 1) := by decide +kernel
theorem d_La_law_178 : decode (am_b mt_La_law) 178 = .ok (.lor, 1) := by decide +kernel
theorem d_La_law_179 : decode (am_b mt_La_law) 179 = .ok (.aload_n 0, 1) := by decide +kernel
theorem d_La_law_180 : decode (am_b mt_La_law) 180 = .ok (.iload 4, 2) := by decide +kernel
theorem d_La_law_182 : decode (am_b mt_La_law) 182 = .ok (.iconst 5, 1) := by decide +kernel
theorem d_La_law_183 : decode (am_b mt_La_law) 183 = .ok (.iadd, 1) := by decide +kernel
theorem d_La_law_184 : decode (am_b mt_La_law) 184 = .ok (.iaload, 1) := by decide +kernel
theorem d_La_law_185 : decode (am_b mt_La_law) 185 = .ok (.aload_n 3, 1) := by decide +kernel
theorem d_La_law_186 : decode (am_b mt_La_law) 186 = .ok (.invokestatic 81, 3) := by decide +kernel
theorem d_La_law_189 : decode (am_b mt_La_law) 189 = .ok (.istore 5, 2) := by decide +kernel
theorem d_La_law_191 : decode (am_b mt_La_law) 191 = .ok (.aload_n 2, 1) := by decide +kernel
theorem d_La_law_192 : decode (am_b mt_La_law) 192 = .ok (.aload_n 0, 1) := by decide +kernel
theorem d_La_law_193 : decode (am_b mt_La_law) 193 = .ok (.iload 4, 2) := by decide +kernel
theorem d_La_law_195 : decode (am_b mt_La_law) 195 = .ok (.iconst 1, 1) := by decide +kernel
theorem d_La_law_196 : decode (am_b mt_La_law) 196 = .ok (.iadd, 1) := by decide +kernel
theorem d_La_law_197 : decode (am_b mt_La_law) 197 = .ok (.iaload, 1) := by decide +kernel
theorem d_La_law_198 : decode (am_b mt_La_law) 198 = .ok (.aload_n 0, 1) := by decide +kernel
theorem d_La_law_199 : decode (am_b mt_La_law) 199 = .ok (.iload 4, 2) := by decide +kernel
theorem d_La_law_201 : decode (am_b mt_La_law) 201 = .ok (.iconst 2, 1) := by decide +kernel
theorem d_La_law_202 : decode (am_b mt_La_law) 202 = .ok (.iadd, 1) := by decide +kernel
theorem d_La_law_203 : decode (am_b mt_La_law) 203 = .ok (.iaload, 1) := by decide +kernel
theorem d_La_law_204 : decode (am_b mt_La_law) 204 = .ok (.aload_n 0, 1) := by decide +kernel
theorem d_La_law_205 : decode (am_b mt_La_law) 205 = .ok (.iload 4, 2) := by decide +kernel
theorem d_La_law_207 : decode (am_b mt_La_law) 207 = .ok (.iconst 3, 1) := by decide +kernel
theorem d_La_law_208 : decode (am_b mt_La_law) 208 = .ok (.iadd, 1) := by decide +kernel
theorem d_La_law_209 : decode (am_b mt_La_law) 209 = .ok (.iaload, 1) := by decide +kernel
theorem d_La_law_210 : decode (am_b mt_La_law) 210 = .ok (.i2l, 1) := by decide +kernel
theorem d_La_law_211 : decode (am_b mt_La_law) 211 = .ok (.bipush 32, 2) := by decide +kernel
theorem d_La_law_213 : decode (am_b mt_La_law) 213 = .ok (.lshl, 1) := by decide +kernel
theorem d_La_law_214 : decode (am_b mt_La_law) 214 = .ok (.aload_n 0, 1) := by decide +kernel
theorem d_La_law_215 : decode (am_b mt_La_law) 215 = .ok (.iload 4, 2) := by decide +kernel
theorem d_La_law_217 : decode (am_b mt_La_law) 217 = .ok (.iconst 4, 1) := by decide +kernel
theorem d_La_law_218 : decode (am_b mt_La_law) 218 = .ok (.iadd, 1) := by decide +kernel
theorem d_La_law_219 : decode (am_b mt_La_law) 219 = .ok (.iaload, 1) := by decide +kernel
theorem d_La_law_220 : decode (am_b mt_La_law) 220 = .ok (.i2l, 1) := by decide +kernel
theorem d_La_law_221 : decode (am_b mt_La_law) 221 = .ok (.ldc2_w 79, 3) := by decide +kernel
theorem d_La_law_224 : decode (am_b mt_La_law) 224 = .ok (.land, 1) := by decide +kernel
theorem d_La_law_225 : decode (am_b mt_La_law) 225 = .ok (.lor, 1) := by decide +kernel
theorem d_La_law_226 : decode (am_b mt_La_law) 226 = .ok (.aload_n 0, 1) := by decide +kernel
theorem d_La_law_227 : decode (am_b mt_La_law) 227 = .ok (.iload 4, 2) := by decide +kernel
theorem d_La_law_229 : decode (am_b mt_La_law) 229 = .ok (.iconst 5, 1) := by decide +kernel
theorem d_La_law_230 : decode (am_b mt_La_law) 230 = .ok (.iadd, 1) := by decide +kernel
theorem d_La_law_231 : decode (am_b mt_La_law) 231 = .ok (.iaload, 1) := by decide +kernel
theorem d_La_law_232 : decode (am_b mt_La_law) 232 = .ok (.invokevirtual 84, 3) := by decide +kernel
theorem d_La_law_235 : decode (am_b mt_La_law) 235 = .ok (.istore 6, 2) := by decide +kernel
theorem d_La_law_237 : decode (am_b mt_La_law) 237 = .ok (.aload_n 2, 1) := by decide +kernel
theorem d_La_law_238 : decode (am_b mt_La_law) 238 = .ok (.invokevirtual 85, 3) := by decide +kernel
theorem d_La_law_241 : decode (am_b mt_La_law) 241 = .ok (.iload 5, 2) := by decide +kernel
theorem d_La_law_243 : decode (am_b mt_La_law) 243 = .ok (.if_icmp .eq 5, 3) := by decide +kernel
theorem d_La_law_246 : decode (am_b mt_La_law) 246 = .ok (.iconst 0, 1) := by decide +kernel
theorem d_La_law_247 : decode (am_b mt_La_law) 247 = .ok (.ireturn, 1) := by decide +kernel
theorem d_La_law_248 : decode (am_b mt_La_law) 248 = .ok (.iload 5, 2) := by decide +kernel
theorem d_La_law_250 : decode (am_b mt_La_law) 250 = .ok (.ifCond .ne 15, 3) := by decide +kernel
theorem d_La_law_253 : decode (am_b mt_La_law) 253 = .ok (.aload_n 3, 1) := by decide +kernel
theorem d_La_law_254 : decode (am_b mt_La_law) 254 = .ok (.iconst 0, 1) := by decide +kernel
theorem d_La_law_255 : decode (am_b mt_La_law) 255 = .ok (.laload, 1) := by decide +kernel
theorem d_La_law_256 : decode (am_b mt_La_law) 256 = .ok (.iload 6, 2) := by decide +kernel
theorem d_La_law_258 : decode (am_b mt_La_law) 258 = .ok (.i2l, 1) := by decide +kernel
theorem d_La_law_259 : decode (am_b mt_La_law) 259 = .ok (.lcmp, 1) := by decide +kernel
theorem d_La_law_260 : decode (am_b mt_La_law) 260 = .ok (.ifCond .eq 5, 3) := by decide +kernel
theorem d_La_law_263 : decode (am_b mt_La_law) 263 = .ok (.iconst 0, 1) := by decide +kernel
theorem d_La_law_264 : decode (am_b mt_La_law) 264 = .ok (.ireturn, 1) := by decide +kernel
theorem d_La_law_265 : decode (am_b mt_La_law) 265 = .ok (.goto 1013, 3) := by decide +kernel
theorem d_La_law_268 : decode (am_b mt_La_law) 268 = .ok (.aload_n 1, 1) := by decide +kernel
theorem d_La_law_269 : decode (am_b mt_La_law) 269 = .ok (.aload_n 0, 1) := by decide +kernel
theorem d_La_law_270 : decode (am_b mt_La_law) 270 = .ok (.iload 4, 2) := by decide +kernel
theorem d_La_law_272 : decode (am_b mt_La_law) 272 = .ok (.iconst 1, 1) := by decide +kernel
theorem d_La_law_273 : decode (am_b mt_La_law) 273 = .ok (.iadd, 1) := by decide +kernel
theorem d_La_law_274 : decode (am_b mt_La_law) 274 = .ok (.iaload, 1) := by decide +kernel
theorem d_La_law_275 : decode (am_b mt_La_law) 275 = .ok (.aload_n 0, 1) := by decide +kernel
theorem d_La_law_276 : decode (am_b mt_La_law) 276 = .ok (.iload 4, 2) := by decide +kernel
theorem d_La_law_278 : decode (am_b mt_La_law) 278 = .ok (.iconst 2, 1) := by decide +kernel
theorem d_La_law_279 : decode (am_b mt_La_law) 279 = .ok (.iadd, 1) := by decide +kernel
theorem d_La_law_280 : decode (am_b mt_La_law) 280 = .ok (.iaload, 1) := by decide +kernel
theorem d_La_law_281 : decode (am_b mt_La_law) 281 = .ok (.ifCond .eq 7, 3) := by decide +kernel
theorem d_La_law_284 : decode (am_b mt_La_law) 284 = .ok (.iconst 1, 1) := by decide +kernel
theorem d_La_law_285 : decode (am_b mt_La_law) 285 = .ok (.goto 4, 3) := by decide +kernel
theorem d_La_law_288 : decode (am_b mt_La_law) 288 = .ok (.iconst 0, 1) := by decide +kernel
theorem d_La_law_289 : decode (am_b mt_La_law) 289 = .ok (.aload_n 0, 1) := by decide +kernel
theorem d_La_law_290 : decode (am_b mt_La_law) 290 = .ok (.iload 4, 2) := by decide +kernel
theorem d_La_law_292 : decode (am_b mt_La_law) 292 = .ok (.iconst 3, 1) := by decide +kernel
theorem d_La_law_293 : decode (am_b mt_La_law) 293 = .ok (.iadd, 1) := by decide +kernel
theorem d_La_law_294 : decode (am_b mt_La_law) 294 = .ok (.iaload, 1) := by decide +kernel
theorem d_La_law_295 : decode (am_b mt_La_law) 295 = .ok (.i2l, 1) := by decide +kernel
theorem d_La_law_296 : decode (am_b mt_La_law) 296 = .ok (.bipush 32, 2) := by decide +kernel
theorem d_La_law_298 : decode (am_b mt_La_law) 298 = .ok (.lshl, 1) := by decide +kernel
theorem d_La_law_299 : decode (am_b mt_La_law) 299 = .ok (.aload_n 0, 1) := by decide +kernel
theorem d_La_law_300 : decode (am_b mt_La_law) 300 = .ok (.iload 4, 2) := by decide +kernel
theorem d_La_law_302 : decode (am_b mt_La_law) 302 = .ok (.iconst 4, 1) := by decide +kernel
theorem d_La_law_303 : decode (am_b mt_La_law) 303 = .ok (.iadd, 1) := by decide +kernel
theorem d_La_law_304 : decode (am_b mt_La_law) 304 = .ok (.iaload, 1) := by decide +kernel
theorem d_La_law_305 : decode (am_b mt_La_law) 305 = .ok (.i2l, 1) := by decide +kernel
theorem d_La_law_306 : decode (am_b mt_La_law) 306 = .ok (.ldc2_w 79, 3) := by decide +kernel
theorem d_La_law_309 : decode (am_b mt_La_law) 309 = .ok (.land, 1) := by decide +kernel
theorem d_La_law_310 : decode (am_b mt_La_law) 310 = .ok (.lor, 1) := by decide +kernel
theorem d_La_law_311 : decode (am_b mt_La_law) 311 = .ok (.aload_n 0, 1) := by decide +kernel
theorem d_La_law_312 : decode (am_b mt_La_law) 312 = .ok (.iload 4, 2) := by decide +kernel
theorem d_La_law_314 : decode (am_b mt_La_law) 314 = .ok (.iconst 5, 1) := by decide +kernel
theorem d_La_law_315 : decode (am_b mt_La_law) 315 = .ok (.iadd, 1) := by decide +kernel
theorem d_La_law_316 : decode (am_b mt_La_law) 316 = .ok (.iaload, 1) := by decide +kernel
theorem d_La_law_317 : decode (am_b mt_La_law) 317 = .ok (.aload_n 3, 1) := by decide +kernel
theorem d_La_law_318 : decode (am_b mt_La_law) 318 = .ok (.invokestatic 88, 3) := by decide +kernel
theorem d_La_law_321 : decode (am_b mt_La_law) 321 = .ok (.istore 5, 2) := by decide +kernel
theorem d_La_law_323 : decode (am_b mt_La_law) 323 = .ok (.aload_n 2, 1) := by decide +kernel
theorem d_La_law_324 : decode (am_b mt_La_law) 324 = .ok (.aload_n 0, 1) := by decide +kernel
theorem d_La_law_325 : decode (am_b mt_La_law) 325 = .ok (.iload 4, 2) := by decide +kernel
theorem d_La_law_327 : decode (am_b mt_La_law) 327 = .ok (.iconst 1, 1) := by decide +kernel
theorem d_La_law_328 : decode (am_b mt_La_law) 328 = .ok (.iadd, 1) := by decide +kernel
theorem d_La_law_329 : decode (am_b mt_La_law) 329 = .ok (.iaload, 1) := by decide +kernel
theorem d_La_law_330 : decode (am_b mt_La_law) 330 = .ok (.aload_n 0, 1) := by decide +kernel
theorem d_La_law_331 : decode (am_b mt_La_law) 331 = .ok (.iload 4, 2) := by decide +kernel
theorem d_La_law_333 : decode (am_b mt_La_law) 333 = .ok (.iconst 2, 1) := by decide +kernel
theorem d_La_law_334 : decode (am_b mt_La_law) 334 = .ok (.iadd, 1) := by decide +kernel
theorem d_La_law_335 : decode (am_b mt_La_law) 335 = .ok (.iaload, 1) := by decide +kernel
theorem d_La_law_336 : decode (am_b mt_La_law) 336 = .ok (.ifCond .eq 7, 3) := by decide +kernel
theorem d_La_law_339 : decode (am_b mt_La_law) 339 = .ok (.iconst 1, 1) := by decide +kernel
theorem d_La_law_340 : decode (am_b mt_La_law) 340 = .ok (.goto 4, 3) := by decide +kernel
theorem d_La_law_343 : decode (am_b mt_La_law) 343 = .ok (.iconst 0, 1) := by decide +kernel
theorem d_La_law_344 : decode (am_b mt_La_law) 344 = .ok (.aload_n 0, 1) := by decide +kernel
theorem d_La_law_345 : decode (am_b mt_La_law) 345 = .ok (.iload 4, 2) := by decide +kernel
theorem d_La_law_347 : decode (am_b mt_La_law) 347 = .ok (.iconst 3, 1) := by decide +kernel
theorem d_La_law_348 : decode (am_b mt_La_law) 348 = .ok (.iadd, 1) := by decide +kernel
theorem d_La_law_349 : decode (am_b mt_La_law) 349 = .ok (.iaload, 1) := by decide +kernel
theorem d_La_law_350 : decode (am_b mt_La_law) 350 = .ok (.i2l, 1) := by decide +kernel
theorem d_La_law_351 : decode (am_b mt_La_law) 351 = .ok (.bipush 32, 2) := by decide +kernel
theorem d_La_law_353 : decode (am_b mt_La_law) 353 = .ok (.lshl, 1) := by decide +kernel
theorem d_La_law_354 : decode (am_b mt_La_law) 354 = .ok (.aload_n 0, 1) := by decide +kernel
theorem d_La_law_355 : decode (am_b mt_La_law) 355 = .ok (.iload 4, 2) := by decide +kernel
theorem d_La_law_357 : decode (am_b mt_La_law) 357 = .ok (.iconst 4, 1) := by decide +kernel
theorem d_La_law_358 : decode (am_b mt_La_law) 358 = .ok (.iadd, 1) := by decide +kernel
theorem d_La_law_359 : decode (am_b mt_La_law) 359 = .ok (.iaload, 1) := by decide +kernel
theorem d_La_law_360 : decode (am_b mt_La_law) 360 = .ok (.i2l, 1) := by decide +kernel
theorem d_La_law_361 : decode (am_b mt_La_law) 361 = .ok (.ldc2_w 79, 3) := by decide +kernel
theorem d_La_law_364 : decode (am_b mt_La_law) 364 = .ok (.land, 1) := by decide +kernel
theorem d_La_law_365 : decode (am_b mt_La_law) 365 = .ok (.lor, 1) := by decide +kernel
theorem d_La_law_366 : decode (am_b mt_La_law) 366 = .ok (.aload_n 0, 1) := by decide +kernel
theorem d_La_law_367 : decode (am_b mt_La_law) 367 = .ok (.iload 4, 2) := by decide +kernel
theorem d_La_law_369 : decode (am_b mt_La_law) 369 = .ok (.iconst 5, 1) := by decide +kernel
theorem d_La_law_370 : decode (am_b mt_La_law) 370 = .ok (.iadd, 1) := by decide +kernel
theorem d_La_law_371 : decode (am_b mt_La_law) 371 = .ok (.iaload, 1) := by decide +kernel
theorem d_La_law_372 : decode (am_b mt_La_law) 372 = .ok (.invokevirtual 91, 3) := by decide +kernel
theorem d_La_law_375 : decode (am_b mt_La_law) 375 = .ok (.istore 6, 2) := by decide +kernel
theorem d_La_law_377 : decode (am_b mt_La_law) 377 = .ok (.aload_n 2, 1) := by decide +kernel
theorem d_La_law_378 : decode (am_b mt_La_law) 378 = .ok (.invokevirtual 85, 3) := by decide +kernel
theorem d_La_law_381 : decode (am_b mt_La_law) 381 = .ok (.iload 5, 2) := by decide +kernel
theorem d_La_law_383 : decode (am_b mt_La_law) 383 = .ok (.if_icmp .eq 5, 3) := by decide +kernel
theorem d_La_law_386 : decode (am_b mt_La_law) 386 = .ok (.iconst 0, 1) := by decide +kernel
theorem d_La_law_387 : decode (am_b mt_La_law) 387 = .ok (.ireturn, 1) := by decide +kernel
theorem d_La_law_388 : decode (am_b mt_La_law) 388 = .ok (.iload 5, 2) := by decide +kernel
theorem d_La_law_390 : decode (am_b mt_La_law) 390 = .ok (.ifCond .ne 15, 3) := by decide +kernel
theorem d_La_law_393 : decode (am_b mt_La_law) 393 = .ok (.aload_n 3, 1) := by decide +kernel
theorem d_La_law_394 : decode (am_b mt_La_law) 394 = .ok (.iconst 0, 1) := by decide +kernel
theorem d_La_law_395 : decode (am_b mt_La_law) 395 = .ok (.laload, 1) := by decide +kernel
theorem d_La_law_396 : decode (am_b mt_La_law) 396 = .ok (.iload 6, 2) := by decide +kernel
theorem d_La_law_398 : decode (am_b mt_La_law) 398 = .ok (.i2l, 1) := by decide +kernel
theorem d_La_law_399 : decode (am_b mt_La_law) 399 = .ok (.lcmp, 1) := by decide +kernel
theorem d_La_law_400 : decode (am_b mt_La_law) 400 = .ok (.ifCond .eq 5, 3) := by decide +kernel
theorem d_La_law_403 : decode (am_b mt_La_law) 403 = .ok (.iconst 0, 1) := by decide +kernel
theorem d_La_law_404 : decode (am_b mt_La_law) 404 = .ok (.ireturn, 1) := by decide +kernel
theorem d_La_law_405 : decode (am_b mt_La_law) 405 = .ok (.goto 873, 3) := by decide +kernel
theorem d_La_law_408 : decode (am_b mt_La_law) 408 = .ok (.aload_n 1, 1) := by decide +kernel
theorem d_La_law_409 : decode (am_b mt_La_law) 409 = .ok (.aload_n 0, 1) := by decide +kernel
theorem d_La_law_410 : decode (am_b mt_La_law) 410 = .ok (.iload 4, 2) := by decide +kernel
theorem d_La_law_412 : decode (am_b mt_La_law) 412 = .ok (.iconst 1, 1) := by decide +kernel
theorem d_La_law_413 : decode (am_b mt_La_law) 413 = .ok (.iadd, 1) := by decide +kernel
theorem d_La_law_414 : decode (am_b mt_La_law) 414 = .ok (.iaload, 1) := by decide +kernel
theorem d_La_law_415 : decode (am_b mt_La_law) 415 = .ok (.aload_n 0, 1) := by decide +kernel
theorem d_La_law_416 : decode (am_b mt_La_law) 416 = .ok (.iload 4, 2) := by decide +kernel
theorem d_La_law_418 : decode (am_b mt_La_law) 418 = .ok (.iconst 2, 1) := by decide +kernel
theorem d_La_law_419 : decode (am_b mt_La_law) 419 = .ok (.iadd, 1) := by decide +kernel
theorem d_La_law_420 : decode (am_b mt_La_law) 420 = .ok (.iaload, 1) := by decide +kernel
theorem d_La_law_421 : decode (am_b mt_La_law) 421 = .ok (.ifCond .eq 7, 3) := by decide +kernel
theorem d_La_law_424 : decode (am_b mt_La_law) 424 = .ok (.iconst 1, 1) := by decide +kernel
theorem d_La_law_425 : decode (am_b mt_La_law) 425 = .ok (.goto 4, 3) := by decide +kernel
theorem d_La_law_428 : decode (am_b mt_La_law) 428 = .ok (.iconst 0, 1) := by decide +kernel
theorem d_La_law_429 : decode (am_b mt_La_law) 429 = .ok (.invokestatic 92, 3) := by decide +kernel
theorem d_La_law_432 : decode (am_b mt_La_law) 432 = .ok (.istore 5, 2) := by decide +kernel
theorem d_La_law_434 : decode (am_b mt_La_law) 434 = .ok (.aload_n 2, 1) := by decide +kernel
theorem d_La_law_435 : decode (am_b mt_La_law) 435 = .ok (.aload_n 0, 1) := by decide +kernel
theorem d_La_law_436 : decode (am_b mt_La_law) 436 = .ok (.iload 4, 2) := by decide +kernel
theorem d_La_law_438 : decode (am_b mt_La_law) 438 = .ok (.iconst 1, 1) := by decide +kernel
theorem d_La_law_439 : decode (am_b mt_La_law) 439 = .ok (.iadd, 1) := by decide +kernel
theorem d_La_law_440 : decode (am_b mt_La_law) 440 = .ok (.iaload, 1) := by decide +kernel
theorem d_La_law_441 : decode (am_b mt_La_law) 441 = .ok (.aload_n 0, 1) := by decide +kernel
theorem d_La_law_442 : decode (am_b mt_La_law) 442 = .ok (.iload 4, 2) := by decide +kernel
theorem d_La_law_444 : decode (am_b mt_La_law) 444 = .ok (.iconst 2, 1) := by decide +kernel
theorem d_La_law_445 : decode (am_b mt_La_law) 445 = .ok (.iadd, 1) := by decide +kernel
theorem d_La_law_446 : decode (am_b mt_La_law) 446 = .ok (.iaload, 1) := by decide +kernel
theorem d_La_law_447 : decode (am_b mt_La_law) 447 = .ok (.ifCond .eq 7, 3) := by decide +kernel
theorem d_La_law_450 : decode (am_b mt_La_law) 450 = .ok (.iconst 1, 1) := by decide +kernel
theorem d_La_law_451 : decode (am_b mt_La_law) 451 = .ok (.goto 4, 3) := by decide +kernel
theorem d_La_law_454 : decode (am_b mt_La_law) 454 = .ok (.iconst 0, 1) := by decide +kernel
theorem d_La_law_455 : decode (am_b mt_La_law) 455 = .ok (.invokevirtual 95, 3) := by decide +kernel
theorem d_La_law_458 : decode (am_b mt_La_law) 458 = .ok (.aload_n 2, 1) := by decide +kernel
theorem d_La_law_459 : decode (am_b mt_La_law) 459 = .ok (.invokevirtual 85, 3) := by decide +kernel
theorem d_La_law_462 : decode (am_b mt_La_law) 462 = .ok (.iload 5, 2) := by decide +kernel
theorem d_La_law_464 : decode (am_b mt_La_law) 464 = .ok (.if_icmp .eq 5, 3) := by decide +kernel
theorem d_La_law_467 : decode (am_b mt_La_law) 467 = .ok (.iconst 0, 1) := by decide +kernel
theorem d_La_law_468 : decode (am_b mt_La_law) 468 = .ok (.ireturn, 1) := by decide +kernel
theorem d_La_law_469 : decode (am_b mt_La_law) 469 = .ok (.goto 809, 3) := by decide +kernel
theorem d_La_law_472 : decode (am_b mt_La_law) 472 = .ok (.aload_n 1, 1) := by decide +kernel
theorem d_La_law_473 : decode (am_b mt_La_law) 473 = .ok (.aload_n 0, 1) := by decide +kernel
theorem d_La_law_474 : decode (am_b mt_La_law) 474 = .ok (.iload 4, 2) := by decide +kernel
theorem d_La_law_476 : decode (am_b mt_La_law) 476 = .ok (.iconst 1, 1) := by decide +kernel
theorem d_La_law_477 : decode (am_b mt_La_law) 477 = .ok (.iadd, 1) := by decide +kernel
theorem d_La_law_478 : decode (am_b mt_La_law) 478 = .ok (.iaload, 1) := by decide +kernel
theorem d_La_law_479 : decode (am_b mt_La_law) 479 = .ok (.aload_n 0, 1) := by decide +kernel
theorem d_La_law_480 : decode (am_b mt_La_law) 480 = .ok (.iload 4, 2) := by decide +kernel
theorem d_La_law_482 : decode (am_b mt_La_law) 482 = .ok (.iconst 2, 1) := by decide +kernel
theorem d_La_law_483 : decode (am_b mt_La_law) 483 = .ok (.iadd, 1) := by decide +kernel
theorem d_La_law_484 : decode (am_b mt_La_law) 484 = .ok (.iaload, 1) := by decide +kernel
theorem d_La_law_485 : decode (am_b mt_La_law) 485 = .ok (.invokestatic 96, 3) := by decide +kernel
theorem d_La_law_488 : decode (am_b mt_La_law) 488 = .ok (.istore 5, 2) := by decide +kernel
theorem d_La_law_490 : decode (am_b mt_La_law) 490 = .ok (.aload_n 2, 1) := by decide +kernel
theorem d_La_law_491 : decode (am_b mt_La_law) 491 = .ok (.aload_n 0, 1) := by decide +kernel
theorem d_La_law_492 : decode (am_b mt_La_law) 492 = .ok (.iload 4, 2) := by decide +kernel
theorem d_La_law_494 : decode (am_b mt_La_law) 494 = .ok (.iconst 1, 1) := by decide +kernel
theorem d_La_law_495 : decode (am_b mt_La_law) 495 = .ok (.iadd, 1) := by decide +kernel
theorem d_La_law_496 : decode (am_b mt_La_law) 496 = .ok (.iaload, 1) := by decide +kernel
theorem d_La_law_497 : decode (am_b mt_La_law) 497 = .ok (.aload_n 0, 1) := by decide +kernel
theorem d_La_law_498 : decode (am_b mt_La_law) 498 = .ok (.iload 4, 2) := by decide +kernel
theorem d_La_law_500 : decode (am_b mt_La_law) 500 = .ok (.iconst 2, 1) := by decide +kernel
theorem d_La_law_501 : decode (am_b mt_La_law) 501 = .ok (.iadd, 1) := by decide +kernel
theorem d_La_law_502 : decode (am_b mt_La_law) 502 = .ok (.iaload, 1) := by decide +kernel
theorem d_La_law_503 : decode (am_b mt_La_law) 503 = .ok (.invokevirtual 99, 3) := by decide +kernel
theorem d_La_law_506 : decode (am_b mt_La_law) 506 = .ok (.aload_n 2, 1) := by decide +kernel
theorem d_La_law_507 : decode (am_b mt_La_law) 507 = .ok (.invokevirtual 85, 3) := by decide +kernel
theorem d_La_law_510 : decode (am_b mt_La_law) 510 = .ok (.iload 5, 2) := by decide +kernel
theorem d_La_law_512 : decode (am_b mt_La_law) 512 = .ok (.if_icmp .eq 5, 3) := by decide +kernel
theorem d_La_law_515 : decode (am_b mt_La_law) 515 = .ok (.iconst 0, 1) := by decide +kernel
theorem d_La_law_516 : decode (am_b mt_La_law) 516 = .ok (.ireturn, 1) := by decide +kernel
theorem d_La_law_517 : decode (am_b mt_La_law) 517 = .ok (.goto 761, 3) := by decide +kernel
theorem d_La_law_520 : decode (am_b mt_La_law) 520 = .ok (.aload_n 1, 1) := by decide +kernel
theorem d_La_law_521 : decode (am_b mt_La_law) 521 = .ok (.aload_n 0, 1) := by decide +kernel
theorem d_La_law_522 : decode (am_b mt_La_law) 522 = .ok (.iload 4, 2) := by decide +kernel
theorem d_La_law_524 : decode (am_b mt_La_law) 524 = .ok (.iconst 1, 1) := by decide +kernel
theorem d_La_law_525 : decode (am_b mt_La_law) 525 = .ok (.iadd, 1) := by decide +kernel
theorem d_La_law_526 : decode (am_b mt_La_law) 526 = .ok (.iaload, 1) := by decide +kernel
theorem d_La_law_527 : decode (am_b mt_La_law) 527 = .ok (.aload_n 0, 1) := by decide +kernel
theorem d_La_law_528 : decode (am_b mt_La_law) 528 = .ok (.iload 4, 2) := by decide +kernel
theorem d_La_law_530 : decode (am_b mt_La_law) 530 = .ok (.iconst 2, 1) := by decide +kernel
theorem d_La_law_531 : decode (am_b mt_La_law) 531 = .ok (.iadd, 1) := by decide +kernel
theorem d_La_law_532 : decode (am_b mt_La_law) 532 = .ok (.iaload, 1) := by decide +kernel
theorem d_La_law_533 : decode (am_b mt_La_law) 533 = .ok (.i2l, 1) := by decide +kernel
theorem d_La_law_534 : decode (am_b mt_La_law) 534 = .ok (.bipush 32, 2) := by decide +kernel
theorem d_La_law_536 : decode (am_b mt_La_law) 536 = .ok (.lshl, 1) := by decide +kernel
theorem d_La_law_537 : decode (am_b mt_La_law) 537 = .ok (.aload_n 0, 1) := by decide +kernel
theorem d_La_law_538 : decode (am_b mt_La_law) 538 = .ok (.iload 4, 2) := by decide +kernel
theorem d_La_law_540 : decode (am_b mt_La_law) 540 = .ok (.iconst 3, 1) := by decide +kernel
theorem d_La_law_541 : decode (am_b mt_La_law) 541 = .ok (.iadd, 1) := by decide +kernel
theorem d_La_law_542 : decode (am_b mt_La_law) 542 = .ok (.iaload, 1) := by decide +kernel
theorem d_La_law_543 : decode (am_b mt_La_law) 543 = .ok (.i2l, 1) := by decide +kernel
theorem d_La_law_544 : decode (am_b mt_La_law) 544 = .ok (.ldc2_w 79, 3) := by decide +kernel
theorem d_La_law_547 : decode (am_b mt_La_law) 547 = .ok (.land, 1) := by decide +kernel
theorem d_La_law_548 : decode (am_b mt_La_law) 548 = .ok (.lor, 1) := by decide +kernel
theorem d_La_law_549 : decode (am_b mt_La_law) 549 = .ok (.aload_n 0, 1) := by decide +kernel
theorem d_La_law_550 : decode (am_b mt_La_law) 550 = .ok (.iload 4, 2) := by decide +kernel
theorem d_La_law_552 : decode (am_b mt_La_law) 552 = .ok (.iconst 4, 1) := by decide +kernel
theorem d_La_law_553 : decode (am_b mt_La_law) 553 = .ok (.iadd, 1) := by decide +kernel
theorem d_La_law_554 : decode (am_b mt_La_law) 554 = .ok (.iaload, 1) := by decide +kernel
theorem d_La_law_555 : decode (am_b mt_La_law) 555 = .ok (.aload_n 0, 1) := by decide +kernel
theorem d_La_law_556 : decode (am_b mt_La_law) 556 = .ok (.iload 4, 2) := by decide +kernel
theorem d_La_law_558 : decode (am_b mt_La_law) 558 = .ok (.iconst 5, 1) := by decide +kernel
theorem d_La_law_559 : decode (am_b mt_La_law) 559 = .ok (.iadd, 1) := by decide +kernel
theorem d_La_law_560 : decode (am_b mt_La_law) 560 = .ok (.iaload, 1) := by decide +kernel
theorem d_La_law_561 : decode (am_b mt_La_law) 561 = .ok (.ifCond .eq 7, 3) := by decide +kernel
theorem d_La_law_564 : decode (am_b mt_La_law) 564 = .ok (.iconst 1, 1) := by decide +kernel
theorem d_La_law_565 : decode (am_b mt_La_law) 565 = .ok (.goto 4, 3) := by decide +kernel
theorem d_La_law_568 : decode (am_b mt_La_law) 568 = .ok (.iconst 0, 1) := by decide +kernel
theorem d_La_law_569 : decode (am_b mt_La_law) 569 = .ok (.invokestatic 100, 3) := by decide +kernel
theorem d_La_law_572 : decode (am_b mt_La_law) 572 = .ok (.istore 5, 2) := by decide +kernel
theorem d_La_law_574 : decode (am_b mt_La_law) 574 = .ok (.aload_n 2, 1) := by decide +kernel
theorem d_La_law_575 : decode (am_b mt_La_law) 575 = .ok (.aload_n 0, 1) := by decide +kernel
theorem d_La_law_576 : decode (am_b mt_La_law) 576 = .ok (.iload 4, 2) := by decide +kernel
theorem d_La_law_578 : decode (am_b mt_La_law) 578 = .ok (.iconst 1, 1) := by decide +kernel
theorem d_La_law_579 : decode (am_b mt_La_law) 579 = .ok (.iadd, 1) := by decide +kernel
theorem d_La_law_580 : decode (am_b mt_La_law) 580 = .ok (.iaload, 1) := by decide +kernel
theorem d_La_law_581 : decode (am_b mt_La_law) 581 = .ok (.aload_n 0, 1) := by decide +kernel
theorem d_La_law_582 : decode (am_b mt_La_law) 582 = .ok (.iload 4, 2) := by decide +kernel
theorem d_La_law_584 : decode (am_b mt_La_law) 584 = .ok (.iconst 2, 1) := by decide +kernel
theorem d_La_law_585 : decode (am_b mt_La_law) 585 = .ok (.iadd, 1) := by decide +kernel
theorem d_La_law_586 : decode (am_b mt_La_law) 586 = .ok (.iaload, 1) := by decide +kernel
theorem d_La_law_587 : decode (am_b mt_La_law) 587 = .ok (.i2l, 1) := by decide +kernel
theorem d_La_law_588 : decode (am_b mt_La_law) 588 = .ok (.bipush 32, 2) := by decide +kernel
theorem d_La_law_590 : decode (am_b mt_La_law) 590 = .ok (.lshl, 1) := by decide +kernel
theorem d_La_law_591 : decode (am_b mt_La_law) 591 = .ok (.aload_n 0, 1) := by decide +kernel
theorem d_La_law_592 : decode (am_b mt_La_law) 592 = .ok (.iload 4, 2) := by decide +kernel
theorem d_La_law_594 : decode (am_b mt_La_law) 594 = .ok (.iconst 3, 1) := by decide +kernel
theorem d_La_law_595 : decode (am_b mt_La_law) 595 = .ok (.iadd, 1) := by decide +kernel
theorem d_La_law_596 : decode (am_b mt_La_law) 596 = .ok (.iaload, 1) := by decide +kernel
theorem d_La_law_597 : decode (am_b mt_La_law) 597 = .ok (.i2l, 1) := by decide +kernel
theorem d_La_law_598 : decode (am_b mt_La_law) 598 = .ok (.ldc2_w 79, 3) := by decide +kernel
theorem d_La_law_601 : decode (am_b mt_La_law) 601 = .ok (.land, 1) := by decide +kernel
theorem d_La_law_602 : decode (am_b mt_La_law) 602 = .ok (.lor, 1) := by decide +kernel
theorem d_La_law_603 : decode (am_b mt_La_law) 603 = .ok (.aload_n 0, 1) := by decide +kernel
theorem d_La_law_604 : decode (am_b mt_La_law) 604 = .ok (.iload 4, 2) := by decide +kernel
theorem d_La_law_606 : decode (am_b mt_La_law) 606 = .ok (.iconst 4, 1) := by decide +kernel
theorem d_La_law_607 : decode (am_b mt_La_law) 607 = .ok (.iadd, 1) := by decide +kernel
theorem d_La_law_608 : decode (am_b mt_La_law) 608 = .ok (.iaload, 1) := by decide +kernel
theorem d_La_law_609 : decode (am_b mt_La_law) 609 = .ok (.aload_n 0, 1) := by decide +kernel
theorem d_La_law_610 : decode (am_b mt_La_law) 610 = .ok (.iload 4, 2) := by decide +kernel
theorem d_La_law_612 : decode (am_b mt_La_law) 612 = .ok (.iconst 5, 1) := by decide +kernel
theorem d_La_law_613 : decode (am_b mt_La_law) 613 = .ok (.iadd, 1) := by decide +kernel
theorem d_La_law_614 : decode (am_b mt_La_law) 614 = .ok (.iaload, 1) := by decide +kernel
theorem d_La_law_615 : decode (am_b mt_La_law) 615 = .ok (.ifCond .eq 7, 3) := by decide +kernel
theorem d_La_law_618 : decode (am_b mt_La_law) 618 = .ok (.iconst 1, 1) := by decide +kernel
theorem d_La_law_619 : decode (am_b mt_La_law) 619 = .ok (.goto 4, 3) := by decide +kernel
theorem d_La_law_622 : decode (am_b mt_La_law) 622 = .ok (.iconst 0, 1) := by decide +kernel
theorem d_La_law_623 : decode (am_b mt_La_law) 623 = .ok (.invokevirtual 103, 3) := by decide +kernel
theorem d_La_law_626 : decode (am_b mt_La_law) 626 = .ok (.aload_n 2, 1) := by decide +kernel
theorem d_La_law_627 : decode (am_b mt_La_law) 627 = .ok (.invokevirtual 85, 3) := by decide +kernel
theorem d_La_law_630 : decode (am_b mt_La_law) 630 = .ok (.iload 5, 2) := by decide +kernel
theorem d_La_law_632 : decode (am_b mt_La_law) 632 = .ok (.if_icmp .eq 5, 3) := by decide +kernel
theorem d_La_law_635 : decode (am_b mt_La_law) 635 = .ok (.iconst 0, 1) := by decide +kernel
theorem d_La_law_636 : decode (am_b mt_La_law) 636 = .ok (.ireturn, 1) := by decide +kernel
theorem d_La_law_637 : decode (am_b mt_La_law) 637 = .ok (.goto 641, 3) := by decide +kernel
theorem d_La_law_640 : decode (am_b mt_La_law) 640 = .ok (.aload_n 1, 1) := by decide +kernel
theorem d_La_law_641 : decode (am_b mt_La_law) 641 = .ok (.aload_n 0, 1) := by decide +kernel
theorem d_La_law_642 : decode (am_b mt_La_law) 642 = .ok (.iload 4, 2) := by decide +kernel
theorem d_La_law_644 : decode (am_b mt_La_law) 644 = .ok (.iconst 1, 1) := by decide +kernel
theorem d_La_law_645 : decode (am_b mt_La_law) 645 = .ok (.iadd, 1) := by decide +kernel
theorem d_La_law_646 : decode (am_b mt_La_law) 646 = .ok (.iaload, 1) := by decide +kernel
theorem d_La_law_647 : decode (am_b mt_La_law) 647 = .ok (.i2l, 1) := by decide +kernel
theorem d_La_law_648 : decode (am_b mt_La_law) 648 = .ok (.bipush 32, 2) := by decide +kernel
theorem d_La_law_650 : decode (am_b mt_La_law) 650 = .ok (.lshl, 1) := by decide +kernel
theorem d_La_law_651 : decode (am_b mt_La_law) 651 = .ok (.aload_n 0, 1) := by decide +kernel
theorem d_La_law_652 : decode (am_b mt_La_law) 652 = .ok (.iload 4, 2) := by decide +kernel
theorem d_La_law_654 : decode (am_b mt_La_law) 654 = .ok (.iconst 2, 1) := by decide +kernel
theorem d_La_law_655 : decode (am_b mt_La_law) 655 = .ok (.iadd, 1) := by decide +kernel
theorem d_La_law_656 : decode (am_b mt_La_law) 656 = .ok (.iaload, 1) := by decide +kernel
theorem d_La_law_657 : decode (am_b mt_La_law) 657 = .ok (.i2l, 1) := by decide +kernel
theorem d_La_law_658 : decode (am_b mt_La_law) 658 = .ok (.ldc2_w 79, 3) := by decide +kernel
theorem d_La_law_661 : decode (am_b mt_La_law) 661 = .ok (.land, 1) := by decide +kernel
theorem d_La_law_662 : decode (am_b mt_La_law) 662 = .ok (.lor, 1) := by decide +kernel
theorem d_La_law_663 : decode (am_b mt_La_law) 663 = .ok (.aload_n 0, 1) := by decide +kernel
theorem d_La_law_664 : decode (am_b mt_La_law) 664 = .ok (.iload 4, 2) := by decide +kernel
theorem d_La_law_666 : decode (am_b mt_La_law) 666 = .ok (.iconst 3, 1) := by decide +kernel
theorem d_La_law_667 : decode (am_b mt_La_law) 667 = .ok (.iadd, 1) := by decide +kernel
theorem d_La_law_668 : decode (am_b mt_La_law) 668 = .ok (.iaload, 1) := by decide +kernel
theorem d_La_law_669 : decode (am_b mt_La_law) 669 = .ok (.invokestatic 104, 3) := by decide +kernel
theorem d_La_law_672 : decode (am_b mt_La_law) 672 = .ok (.istore 5, 2) := by decide +kernel
theorem d_La_law_674 : decode (am_b mt_La_law) 674 = .ok (.aload_n 2, 1) := by decide +kernel
theorem d_La_law_675 : decode (am_b mt_La_law) 675 = .ok (.aload_n 0, 1) := by decide +kernel
theorem d_La_law_676 : decode (am_b mt_La_law) 676 = .ok (.iload 4, 2) := by decide +kernel
theorem d_La_law_678 : decode (am_b mt_La_law) 678 = .ok (.iconst 1, 1) := by decide +kernel
theorem d_La_law_679 : decode (am_b mt_La_law) 679 = .ok (.iadd, 1) := by decide +kernel
theorem d_La_law_680 : decode (am_b mt_La_law) 680 = .ok (.iaload, 1) := by decide +kernel
theorem d_La_law_681 : decode (am_b mt_La_law) 681 = .ok (.i2l, 1) := by decide +kernel
theorem d_La_law_682 : decode (am_b mt_La_law) 682 = .ok (.bipush 32, 2) := by decide +kernel
theorem d_La_law_684 : decode (am_b mt_La_law) 684 = .ok (.lshl, 1) := by decide +kernel
theorem d_La_law_685 : decode (am_b mt_La_law) 685 = .ok (.aload_n 0, 1) := by decide +kernel
theorem d_La_law_686 : decode (am_b mt_La_law) 686 = .ok (.iload 4, 2) := by decide +kernel
theorem d_La_law_688 : decode (am_b mt_La_law) 688 = .ok (.iconst 2, 1) := by decide +kernel
theorem d_La_law_689 : decode (am_b mt_La_law) 689 = .ok (.iadd, 1) := by decide +kernel
theorem d_La_law_690 : decode (am_b mt_La_law) 690 = .ok (.iaload, 1) := by decide +kernel
theorem d_La_law_691 : decode (am_b mt_La_law) 691 = .ok (.i2l, 1) := by decide +kernel
theorem d_La_law_692 : decode (am_b mt_La_law) 692 = .ok (.ldc2_w 79, 3) := by decide +kernel
theorem d_La_law_695 : decode (am_b mt_La_law) 695 = .ok (.land, 1) := by decide +kernel
theorem d_La_law_696 : decode (am_b mt_La_law) 696 = .ok (.lor, 1) := by decide +kernel
theorem d_La_law_697 : decode (am_b mt_La_law) 697 = .ok (.aload_n 0, 1) := by decide +kernel
theorem d_La_law_698 : decode (am_b mt_La_law) 698 = .ok (.iload 4, 2) := by decide +kernel
theorem d_La_law_700 : decode (am_b mt_La_law) 700 = .ok (.iconst 3, 1) := by decide +kernel
theorem d_La_law_701 : decode (am_b mt_La_law) 701 = .ok (.iadd, 1) := by decide +kernel
theorem d_La_law_702 : decode (am_b mt_La_law) 702 = .ok (.iaload, 1) := by decide +kernel
theorem d_La_law_703 : decode (am_b mt_La_law) 703 = .ok (.invokevirtual 107, 3) := by decide +kernel
theorem d_La_law_706 : decode (am_b mt_La_law) 706 = .ok (.aload_n 2, 1) := by decide +kernel
theorem d_La_law_707 : decode (am_b mt_La_law) 707 = .ok (.invokevirtual 85, 3) := by decide +kernel
theorem d_La_law_710 : decode (am_b mt_La_law) 710 = .ok (.iload 5, 2) := by decide +kernel
theorem d_La_law_712 : decode (am_b mt_La_law) 712 = .ok (.if_icmp .eq 5, 3) := by decide +kernel
theorem d_La_law_715 : decode (am_b mt_La_law) 715 = .ok (.iconst 0, 1) := by decide +kernel
theorem d_La_law_716 : decode (am_b mt_La_law) 716 = .ok (.ireturn, 1) := by decide +kernel
theorem d_La_law_717 : decode (am_b mt_La_law) 717 = .ok (.goto 561, 3) := by decide +kernel
theorem d_La_law_720 : decode (am_b mt_La_law) 720 = .ok (.aload_n 1, 1) := by decide +kernel
theorem d_La_law_721 : decode (am_b mt_La_law) 721 = .ok (.aload_n 0, 1) := by decide +kernel
theorem d_La_law_722 : decode (am_b mt_La_law) 722 = .ok (.iload 4, 2) := by decide +kernel
theorem d_La_law_724 : decode (am_b mt_La_law) 724 = .ok (.iconst 1, 1) := by decide +kernel
theorem d_La_law_725 : decode (am_b mt_La_law) 725 = .ok (.iadd, 1) := by decide +kernel
theorem d_La_law_726 : decode (am_b mt_La_law) 726 = .ok (.iaload, 1) := by decide +kernel
theorem d_La_law_727 : decode (am_b mt_La_law) 727 = .ok (.aload_n 0, 1) := by decide +kernel
theorem d_La_law_728 : decode (am_b mt_La_law) 728 = .ok (.iload 4, 2) := by decide +kernel
theorem d_La_law_730 : decode (am_b mt_La_law) 730 = .ok (.iconst 2, 1) := by decide +kernel
theorem d_La_law_731 : decode (am_b mt_La_law) 731 = .ok (.iadd, 1) := by decide +kernel
theorem d_La_law_732 : decode (am_b mt_La_law) 732 = .ok (.iaload, 1) := by decide +kernel
theorem d_La_law_733 : decode (am_b mt_La_law) 733 = .ok (.i2l, 1) := by decide +kernel
theorem d_La_law_734 : decode (am_b mt_La_law) 734 = .ok (.bipush 32, 2) := by decide +kernel
theorem d_La_law_736 : decode (am_b mt_La_law) 736 = .ok (.lshl, 1) := by decide +kernel
theorem d_La_law_737 : decode (am_b mt_La_law) 737 = .ok (.aload_n 0, 1) := by decide +kernel
theorem d_La_law_738 : decode (am_b mt_La_law) 738 = .ok (.iload 4, 2) := by decide +kernel
theorem d_La_law_740 : decode (am_b mt_La_law) 740 = .ok (.iconst 3, 1) := by decide +kernel
theorem d_La_law_741 : decode (am_b mt_La_law) 741 = .ok (.iadd, 1) := by decide +kernel
theorem d_La_law_742 : decode (am_b mt_La_law) 742 = .ok (.iaload, 1) := by decide +kernel
theorem d_La_law_743 : decode (am_b mt_La_law) 743 = .ok (.i2l, 1) := by decide +kernel
theorem d_La_law_744 : decode (am_b mt_La_law) 744 = .ok (.ldc2_w 79, 3) := by decide +kernel
theorem d_La_law_747 : decode (am_b mt_La_law) 747 = .ok (.land, 1) := by decide +kernel
theorem d_La_law_748 : decode (am_b mt_La_law) 748 = .ok (.lor, 1) := by decide +kernel
theorem d_La_law_749 : decode (am_b mt_La_law) 749 = .ok (.aload_n 0, 1) := by decide +kernel
theorem d_La_law_750 : decode (am_b mt_La_law) 750 = .ok (.iload 4, 2) := by decide +kernel
theorem d_La_law_752 : decode (am_b mt_La_law) 752 = .ok (.iconst 4, 1) := by decide +kernel
theorem d_La_law_753 : decode (am_b mt_La_law) 753 = .ok (.iadd, 1) := by decide +kernel
theorem d_La_law_754 : decode (am_b mt_La_law) 754 = .ok (.iaload, 1) := by decide +kernel
theorem d_La_law_755 : decode (am_b mt_La_law) 755 = .ok (.i2l, 1) := by decide +kernel
theorem d_La_law_756 : decode (am_b mt_La_law) 756 = .ok (.bipush 32, 2) := by decide +kernel
theorem d_La_law_758 : decode (am_b mt_La_law) 758 = .ok (.lshl, 1) := by decide +kernel
theorem d_La_law_759 : decode (am_b mt_La_law) 759 = .ok (.aload_n 0, 1) := by decide +kernel
theorem d_La_law_760 : decode (am_b mt_La_law) 760 = .ok (.iload 4, 2) := by decide +kernel
theorem d_La_law_762 : decode (am_b mt_La_law) 762 = .ok (.iconst 5, 1) := by decide +kernel
theorem d_La_law_763 : decode (am_b mt_La_law) 763 = .ok (.iadd, 1) := by decide +kernel
theorem d_La_law_764 : decode (am_b mt_La_law) 764 = .ok (.iaload, 1) := by decide +kernel
theorem d_La_law_765 : decode (am_b mt_La_law) 765 = .ok (.i2l, 1) := by decide +kernel
theorem d_La_law_766 : decode (am_b mt_La_law) 766 = .ok (.ldc2_w 79, 3) := by decide +kernel
theorem d_La_law_769 : decode (am_b mt_La_law) 769 = .ok (.land, 1) := by decide +kernel
theorem d_La_law_770 : decode (am_b mt_La_law) 770 = .ok (.lor, 1) := by decide +kernel
theorem d_La_law_771 : decode (am_b mt_La_law) 771 = .ok (.aload_n 3, 1) := by decide +kernel
theorem d_La_law_772 : decode (am_b mt_La_law) 772 = .ok (.invokestatic 108, 3) := by decide +kernel
theorem d_La_law_775 : decode (am_b mt_La_law) 775 = .ok (.istore 5, 2) := by decide +kernel
theorem d_La_law_777 : decode (am_b mt_La_law) 777 = .ok (.aload_n 2, 1) := by decide +kernel
theorem d_La_law_778 : decode (am_b mt_La_law) 778 = .ok (.aload_n 0, 1) := by decide +kernel
theorem d_La_law_779 : decode (am_b mt_La_law) 779 = .ok (.iload 4, 2) := by decide +kernel
theorem d_La_law_781 : decode (am_b mt_La_law) 781 = .ok (.iconst 1, 1) := by decide +kernel
theorem d_La_law_782 : decode (am_b mt_La_law) 782 = .ok (.iadd, 1) := by decide +kernel
theorem d_La_law_783 : decode (am_b mt_La_law) 783 = .ok (.iaload, 1) := by decide +kernel
theorem d_La_law_784 : decode (am_b mt_La_law) 784 = .ok (.aload_n 0, 1) := by decide +kernel
theorem d_La_law_785 : decode (am_b mt_La_law) 785 = .ok (.iload 4, 2) := by decide +kernel
theorem d_La_law_787 : decode (am_b mt_La_law) 787 = .ok (.iconst 2, 1) := by decide +kernel
theorem d_La_law_788 : decode (am_b mt_La_law) 788 = .ok (.iadd, 1) := by decide +kernel
theorem d_La_law_789 : decode (am_b mt_La_law) 789 = .ok (.iaload, 1) := by decide +kernel
theorem d_La_law_790 : decode (am_b mt_La_law) 790 = .ok (.i2l, 1) := by decide +kernel
theorem d_La_law_791 : decode (am_b mt_La_law) 791 = .ok (.bipush 32, 2) := by decide +kernel
theorem d_La_law_793 : decode (am_b mt_La_law) 793 = .ok (.lshl, 1) := by decide +kernel
theorem d_La_law_794 : decode (am_b mt_La_law) 794 = .ok (.aload_n 0, 1) := by decide +kernel
theorem d_La_law_795 : decode (am_b mt_La_law) 795 = .ok (.iload 4, 2) := by decide +kernel
theorem d_La_law_797 : decode (am_b mt_La_law) 797 = .ok (.iconst 3, 1) := by decide +kernel
theorem d_La_law_798 : decode (am_b mt_La_law) 798 = .ok (.iadd, 1) := by decide +kernel
theorem d_La_law_799 : decode (am_b mt_La_law) 799 = .ok (.iaload, 1) := by decide +kernel
theorem d_La_law_800 : decode (am_b mt_La_law) 800 = .ok (.i2l, 1) := by decide +kernel
theorem d_La_law_801 : decode (am_b mt_La_law) 801 = .ok (.ldc2_w 79, 3) := by decide +kernel
theorem d_La_law_804 : decode (am_b mt_La_law) 804 = .ok (.land, 1) := by decide +kernel
theorem d_La_law_805 : decode (am_b mt_La_law) 805 = .ok (.lor, 1) := by decide +kernel
theorem d_La_law_806 : decode (am_b mt_La_law) 806 = .ok (.aload_n 0, 1) := by decide +kernel
theorem d_La_law_807 : decode (am_b mt_La_law) 807 = .ok (.iload 4, 2) := by decide +kernel
theorem d_La_law_809 : decode (am_b mt_La_law) 809 = .ok (.iconst 4, 1) := by decide +kernel
theorem d_La_law_810 : decode (am_b mt_La_law) 810 = .ok (.iadd, 1) := by decide +kernel
theorem d_La_law_811 : decode (am_b mt_La_law) 811 = .ok (.iaload, 1) := by decide +kernel
theorem d_La_law_812 : decode (am_b mt_La_law) 812 = .ok (.i2l, 1) := by decide +kernel
theorem d_La_law_813 : decode (am_b mt_La_law) 813 = .ok (.bipush 32, 2) := by decide +kernel
theorem d_La_law_815 : decode (am_b mt_La_law) 815 = .ok (.lshl, 1) := by decide +kernel
theorem d_La_law_816 : decode (am_b mt_La_law) 816 = .ok (.aload_n 0, 1) := by decide +kernel
theorem d_La_law_817 : decode (am_b mt_La_law) 817 = .ok (.iload 4, 2) := by decide +kernel
theorem d_La_law_819 : decode (am_b mt_La_law) 819 = .ok (.iconst 5, 1) := by decide +kernel
theorem d_La_law_820 : decode (am_b mt_La_law) 820 = .ok (.iadd, 1) := by decide +kernel
theorem d_La_law_821 : decode (am_b mt_La_law) 821 = .ok (.iaload, 1) := by decide +kernel
theorem d_La_law_822 : decode (am_b mt_La_law) 822 = .ok (.i2l, 1) := by decide +kernel
theorem d_La_law_823 : decode (am_b mt_La_law) 823 = .ok (.ldc2_w 79, 3) := by decide +kernel
theorem d_La_law_826 : decode (am_b mt_La_law) 826 = .ok (.land, 1) := by decide +kernel
theorem d_La_law_827 : decode (am_b mt_La_law) 827 = .ok (.lor, 1) := by decide +kernel
theorem d_La_law_828 : decode (am_b mt_La_law) 828 = .ok (.invokevirtual 111, 3) := by decide +kernel
theorem d_La_law_831 : decode (am_b mt_La_law) 831 = .ok (.istore 6, 2) := by decide +kernel
theorem d_La_law_833 : decode (am_b mt_La_law) 833 = .ok (.aload_n 2, 1) := by decide +kernel
theorem d_La_law_834 : decode (am_b mt_La_law) 834 = .ok (.invokevirtual 85, 3) := by decide +kernel
theorem d_La_law_837 : decode (am_b mt_La_law) 837 = .ok (.iload 5, 2) := by decide +kernel
theorem d_La_law_839 : decode (am_b mt_La_law) 839 = .ok (.if_icmp .eq 5, 3) := by decide +kernel
theorem d_La_law_842 : decode (am_b mt_La_law) 842 = .ok (.iconst 0, 1) := by decide +kernel
theorem d_La_law_843 : decode (am_b mt_La_law) 843 = .ok (.ireturn, 1) := by decide +kernel
theorem d_La_law_844 : decode (am_b mt_La_law) 844 = .ok (.iload 5, 2) := by decide +kernel
theorem d_La_law_846 : decode (am_b mt_La_law) 846 = .ok (.ifCond .ne 15, 3) := by decide +kernel
theorem d_La_law_849 : decode (am_b mt_La_law) 849 = .ok (.aload_n 3, 1) := by decide +kernel
theorem d_La_law_850 : decode (am_b mt_La_law) 850 = .ok (.iconst 0, 1) := by decide +kernel
theorem d_La_law_851 : decode (am_b mt_La_law) 851 = .ok (.laload, 1) := by decide +kernel
theorem d_La_law_852 : decode (am_b mt_La_law) 852 = .ok (.iload 6, 2) := by decide +kernel
theorem d_La_law_854 : decode (am_b mt_La_law) 854 = .ok (.i2l, 1) := by decide +kernel
theorem d_La_law_855 : decode (am_b mt_La_law) 855 = .ok (.lcmp, 1) := by decide +kernel
theorem d_La_law_856 : decode (am_b mt_La_law) 856 = .ok (.ifCond .eq 5, 3) := by decide +kernel
theorem d_La_law_859 : decode (am_b mt_La_law) 859 = .ok (.iconst 0, 1) := by decide +kernel
theorem d_La_law_860 : decode (am_b mt_La_law) 860 = .ok (.ireturn, 1) := by decide +kernel
theorem d_La_law_861 : decode (am_b mt_La_law) 861 = .ok (.goto 417, 3) := by decide +kernel
theorem d_La_law_864 : decode (am_b mt_La_law) 864 = .ok (.aload_n 1, 1) := by decide +kernel
theorem d_La_law_865 : decode (am_b mt_La_law) 865 = .ok (.aload_n 0, 1) := by decide +kernel
theorem d_La_law_866 : decode (am_b mt_La_law) 866 = .ok (.iload 4, 2) := by decide +kernel
theorem d_La_law_868 : decode (am_b mt_La_law) 868 = .ok (.iconst 1, 1) := by decide +kernel
theorem d_La_law_869 : decode (am_b mt_La_law) 869 = .ok (.iadd, 1) := by decide +kernel
theorem d_La_law_870 : decode (am_b mt_La_law) 870 = .ok (.iaload, 1) := by decide +kernel
theorem d_La_law_871 : decode (am_b mt_La_law) 871 = .ok (.aload_n 3, 1) := by decide +kernel
theorem d_La_law_872 : decode (am_b mt_La_law) 872 = .ok (.invokestatic 112, 3) := by decide +kernel
theorem d_La_law_875 : decode (am_b mt_La_law) 875 = .ok (.istore 5, 2) := by decide +kernel
theorem d_La_law_877 : decode (am_b mt_La_law) 877 = .ok (.aload_n 2, 1) := by decide +kernel
theorem d_La_law_878 : decode (am_b mt_La_law) 878 = .ok (.aload_n 0, 1) := by decide +kernel
theorem d_La_law_879 : decode (am_b mt_La_law) 879 = .ok (.iload 4, 2) := by decide +kernel
theorem d_La_law_881 : decode (am_b mt_La_law) 881 = .ok (.iconst 1, 1) := by decide +kernel
theorem d_La_law_882 : decode (am_b mt_La_law) 882 = .ok (.iadd, 1) := by decide +kernel
theorem d_La_law_883 : decode (am_b mt_La_law) 883 = .ok (.iaload, 1) := by decide +kernel
theorem d_La_law_884 : decode (am_b mt_La_law) 884 = .ok (.invokevirtual 115, 3) := by decide +kernel
theorem d_La_law_887 : decode (am_b mt_La_law) 887 = .ok (.istore 6, 2) := by decide +kernel
theorem d_La_law_889 : decode (am_b mt_La_law) 889 = .ok (.aload_n 2, 1) := by decide +kernel
theorem d_La_law_890 : decode (am_b mt_La_law) 890 = .ok (.invokevirtual 85, 3) := by decide +kernel
theorem d_La_law_893 : decode (am_b mt_La_law) 893 = .ok (.iload 5, 2) := by decide +kernel
theorem d_La_law_895 : decode (am_b mt_La_law) 895 = .ok (.if_icmp .eq 5, 3) := by decide +kernel
theorem d_La_law_898 : decode (am_b mt_La_law) 898 = .ok (.iconst 0, 1) := by decide +kernel
theorem d_La_law_899 : decode (am_b mt_La_law) 899 = .ok (.ireturn, 1) := by decide +kernel
theorem d_La_law_900 : decode (am_b mt_La_law) 900 = .ok (.iload 5, 2) := by decide +kernel
theorem d_La_law_902 : decode (am_b mt_La_law) 902 = .ok (.ifCond .ne 15, 3) := by decide +kernel
theorem d_La_law_905 : decode (am_b mt_La_law) 905 = .ok (.aload_n 3, 1) := by decide +kernel
theorem d_La_law_906 : decode (am_b mt_La_law) 906 = .ok (.iconst 0, 1) := by decide +kernel
theorem d_La_law_907 : decode (am_b mt_La_law) 907 = .ok (.laload, 1) := by decide +kernel
theorem d_La_law_908 : decode (am_b mt_La_law) 908 = .ok (.iload 6, 2) := by decide +kernel
theorem d_La_law_910 : decode (am_b mt_La_law) 910 = .ok (.i2l, 1) := by decide +kernel
theorem d_La_law_911 : decode (am_b mt_La_law) 911 = .ok (.lcmp, 1) := by decide +kernel
theorem d_La_law_912 : decode (am_b mt_La_law) 912 = .ok (.ifCond .eq 5, 3) := by decide +kernel
theorem d_La_law_915 : decode (am_b mt_La_law) 915 = .ok (.iconst 0, 1) := by decide +kernel
theorem d_La_law_916 : decode (am_b mt_La_law) 916 = .ok (.ireturn, 1) := by decide +kernel
theorem d_La_law_917 : decode (am_b mt_La_law) 917 = .ok (.goto 361, 3) := by decide +kernel
theorem d_La_law_920 : decode (am_b mt_La_law) 920 = .ok (.aload_n 1, 1) := by decide +kernel
theorem d_La_law_921 : decode (am_b mt_La_law) 921 = .ok (.aload_n 3, 1) := by decide +kernel
theorem d_La_law_922 : decode (am_b mt_La_law) 922 = .ok (.invokestatic 116, 3) := by decide +kernel
theorem d_La_law_925 : decode (am_b mt_La_law) 925 = .ok (.istore 5, 2) := by decide +kernel
theorem d_La_law_927 : decode (am_b mt_La_law) 927 = .ok (.aload_n 2, 1) := by decide +kernel
theorem d_La_law_928 : decode (am_b mt_La_law) 928 = .ok (.invokevirtual 119, 3) := by decide +kernel
theorem d_La_law_931 : decode (am_b mt_La_law) 931 = .ok (.istore 6, 2) := by decide +kernel
theorem d_La_law_933 : decode (am_b mt_La_law) 933 = .ok (.aload_n 2, 1) := by decide +kernel
theorem d_La_law_934 : decode (am_b mt_La_law) 934 = .ok (.invokevirtual 85, 3) := by decide +kernel
theorem d_La_law_937 : decode (am_b mt_La_law) 937 = .ok (.iload 5, 2) := by decide +kernel
theorem d_La_law_939 : decode (am_b mt_La_law) 939 = .ok (.if_icmp .eq 5, 3) := by decide +kernel
theorem d_La_law_942 : decode (am_b mt_La_law) 942 = .ok (.iconst 0, 1) := by decide +kernel
theorem d_La_law_943 : decode (am_b mt_La_law) 943 = .ok (.ireturn, 1) := by decide +kernel
theorem d_La_law_944 : decode (am_b mt_La_law) 944 = .ok (.iload 5, 2) := by decide +kernel
theorem d_La_law_946 : decode (am_b mt_La_law) 946 = .ok (.ifCond .ne 15, 3) := by decide +kernel
theorem d_La_law_949 : decode (am_b mt_La_law) 949 = .ok (.aload_n 3, 1) := by decide +kernel
theorem d_La_law_950 : decode (am_b mt_La_law) 950 = .ok (.iconst 0, 1) := by decide +kernel
theorem d_La_law_951 : decode (am_b mt_La_law) 951 = .ok (.laload, 1) := by decide +kernel
theorem d_La_law_952 : decode (am_b mt_La_law) 952 = .ok (.iload 6, 2) := by decide +kernel
theorem d_La_law_954 : decode (am_b mt_La_law) 954 = .ok (.i2l, 1) := by decide +kernel
theorem d_La_law_955 : decode (am_b mt_La_law) 955 = .ok (.lcmp, 1) := by decide +kernel
theorem d_La_law_956 : decode (am_b mt_La_law) 956 = .ok (.ifCond .eq 5, 3) := by decide +kernel
theorem d_La_law_959 : decode (am_b mt_La_law) 959 = .ok (.iconst 0, 1) := by decide +kernel
theorem d_La_law_960 : decode (am_b mt_La_law) 960 = .ok (.ireturn, 1) := by decide +kernel
theorem d_La_law_961 : decode (am_b mt_La_law) 961 = .ok (.goto 317, 3) := by decide +kernel
theorem d_La_law_964 : decode (am_b mt_La_law) 964 = .ok (.aload_n 1, 1) := by decide +kernel
theorem d_La_law_965 : decode (am_b mt_La_law) 965 = .ok (.invokevirtual 120, 3) := by decide +kernel
theorem d_La_law_968 : decode (am_b mt_La_law) 968 = .ok (.aload_n 2, 1) := by decide +kernel
theorem d_La_law_969 : decode (am_b mt_La_law) 969 = .ok (.invokevirtual 123, 3) := by decide +kernel
theorem d_La_law_972 : decode (am_b mt_La_law) 972 = .ok (.if_icmp .eq 306, 3) := by decide +kernel
theorem d_La_law_975 : decode (am_b mt_La_law) 975 = .ok (.iconst 0, 1) := by decide +kernel
theorem d_La_law_976 : decode (am_b mt_La_law) 976 = .ok (.ireturn, 1) := by decide +kernel
theorem d_La_law_977 : decode (am_b mt_La_law) 977 = .ok (.aload_n 1, 1) := by decide +kernel
theorem d_La_law_978 : decode (am_b mt_La_law) 978 = .ok (.aload_n 0, 1) := by decide +kernel
theorem d_La_law_979 : decode (am_b mt_La_law) 979 = .ok (.iload 4, 2) := by decide +kernel
theorem d_La_law_981 : decode (am_b mt_La_law) 981 = .ok (.iconst 1, 1) := by decide +kernel
theorem d_La_law_982 : decode (am_b mt_La_law) 982 = .ok (.iadd, 1) := by decide +kernel
theorem d_La_law_983 : decode (am_b mt_La_law) 983 = .ok (.iaload, 1) := by decide +kernel
theorem d_La_law_984 : decode (am_b mt_La_law) 984 = .ok (.aload_n 3, 1) := by decide +kernel
theorem d_La_law_985 : decode (am_b mt_La_law) 985 = .ok (.invokestatic 124, 3) := by decide +kernel
theorem d_La_law_988 : decode (am_b mt_La_law) 988 = .ok (.istore 5, 2) := by decide +kernel
theorem d_La_law_990 : decode (am_b mt_La_law) 990 = .ok (.aload_n 2, 1) := by decide +kernel
theorem d_La_law_991 : decode (am_b mt_La_law) 991 = .ok (.aload_n 0, 1) := by decide +kernel
theorem d_La_law_992 : decode (am_b mt_La_law) 992 = .ok (.iload 4, 2) := by decide +kernel
theorem d_La_law_994 : decode (am_b mt_La_law) 994 = .ok (.iconst 1, 1) := by decide +kernel
theorem d_La_law_995 : decode (am_b mt_La_law) 995 = .ok (.iadd, 1) := by decide +kernel
theorem d_La_law_996 : decode (am_b mt_La_law) 996 = .ok (.iaload, 1) := by decide +kernel
theorem d_La_law_997 : decode (am_b mt_La_law) 997 = .ok (.invokevirtual 126, 3) := by decide +kernel
theorem d_La_law_1000 : decode (am_b mt_La_law) 1000 = .ok (.istore 6, 2) := by decide +kernel
theorem d_La_law_1002 : decode (am_b mt_La_law) 1002 = .ok (.aload_n 2, 1) := by decide +kernel
theorem d_La_law_1003 : decode (am_b mt_La_law) 1003 = .ok (.invokevirtual 85, 3) := by decide +kernel
theorem d_La_law_1006 : decode (am_b mt_La_law) 1006 = .ok (.iload 5, 2) := by decide +kernel
theorem d_La_law_1008 : decode (am_b mt_La_law) 1008 = .ok (.if_icmp .eq 5, 3) := by decide +kernel
theorem d_La_law_1011 : decode (am_b mt_La_law) 1011 = .ok (.iconst 0, 1) := by decide +kernel
theorem d_La_law_1012 : decode (am_b mt_La_law) 1012 = .ok (.ireturn, 1) := by decide +kernel
theorem d_La_law_1013 : decode (am_b mt_La_law) 1013 = .ok (.iload 5, 2) := by decide +kernel
theorem d_La_law_1015 : decode (am_b mt_La_law) 1015 = .ok (.ifCond .ne 15, 3) := by decide +kernel
theorem d_La_law_1018 : decode (am_b mt_La_law) 1018 = .ok (.aload_n 3, 1) := by decide +kernel
theorem d_La_law_1019 : decode (am_b mt_La_law) 1019 = .ok (.iconst 0, 1) := by decide +kernel
theorem d_La_law_1020 : decode (am_b mt_La_law) 1020 = .ok (.laload, 1) := by decide +kernel
theorem d_La_law_1021 : decode (am_b mt_La_law) 1021 = .ok (.iload 6, 2) := by decide +kernel
theorem d_La_law_1023 : decode (am_b mt_La_law) 1023 = .ok (.i2l, 1) := by decide +kernel
theorem d_La_law_1024 : decode (am_b mt_La_law) 1024 = .ok (.lcmp, 1) := by decide +kernel
theorem d_La_law_1025 : decode (am_b mt_La_law) 1025 = .ok (.ifCond .eq 5, 3) := by decide +kernel
theorem d_La_law_1028 : decode (am_b mt_La_law) 1028 = .ok (.iconst 0, 1) := by decide +kernel
theorem d_La_law_1029 : decode (am_b mt_La_law) 1029 = .ok (.ireturn, 1) := by decide +kernel
theorem d_La_law_1030 : decode (am_b mt_La_law) 1030 = .ok (.goto 248, 3) := by decide +kernel
theorem d_La_law_1033 : decode (am_b mt_La_law) 1033 = .ok (.aload_n 1, 1) := by decide +kernel
theorem d_La_law_1034 : decode (am_b mt_La_law) 1034 = .ok (.aload_n 0, 1) := by decide +kernel
theorem d_La_law_1035 : decode (am_b mt_La_law) 1035 = .ok (.iload 4, 2) := by decide +kernel
theorem d_La_law_1037 : decode (am_b mt_La_law) 1037 = .ok (.iconst 1, 1) := by decide +kernel
theorem d_La_law_1038 : decode (am_b mt_La_law) 1038 = .ok (.iadd, 1) := by decide +kernel
theorem d_La_law_1039 : decode (am_b mt_La_law) 1039 = .ok (.iaload, 1) := by decide +kernel
theorem d_La_law_1040 : decode (am_b mt_La_law) 1040 = .ok (.aload_n 0, 1) := by decide +kernel
theorem d_La_law_1041 : decode (am_b mt_La_law) 1041 = .ok (.iload 4, 2) := by decide +kernel
theorem d_La_law_1043 : decode (am_b mt_La_law) 1043 = .ok (.iconst 2, 1) := by decide +kernel
theorem d_La_law_1044 : decode (am_b mt_La_law) 1044 = .ok (.iadd, 1) := by decide +kernel
theorem d_La_law_1045 : decode (am_b mt_La_law) 1045 = .ok (.iaload, 1) := by decide +kernel
theorem d_La_law_1046 : decode (am_b mt_La_law) 1046 = .ok (.aload_n 3, 1) := by decide +kernel
theorem d_La_law_1047 : decode (am_b mt_La_law) 1047 = .ok (.invokestatic 127, 3) := by decide +kernel
theorem d_La_law_1050 : decode (am_b mt_La_law) 1050 = .ok (.istore 5, 2) := by decide +kernel
theorem d_La_law_1052 : decode (am_b mt_La_law) 1052 = .ok (.aload_n 2, 1) := by decide +kernel
theorem d_La_law_1053 : decode (am_b mt_La_law) 1053 = .ok (.aload_n 0, 1) := by decide +kernel
theorem d_La_law_1054 : decode (am_b mt_La_law) 1054 = .ok (.iload 4, 2) := by decide +kernel
theorem d_La_law_1056 : decode (am_b mt_La_law) 1056 = .ok (.iconst 1, 1) := by decide +kernel
theorem d_La_law_1057 : decode (am_b mt_La_law) 1057 = .ok (.iadd, 1) := by decide +kernel
theorem d_La_law_1058 : decode (am_b mt_La_law) 1058 = .ok (.iaload, 1) := by decide +kernel
theorem d_La_law_1059 : decode (am_b mt_La_law) 1059 = .ok (.aload_n 0, 1) := by decide +kernel
theorem d_La_law_1060 : decode (am_b mt_La_law) 1060 = .ok (.iload 4, 2) := by decide +kernel
theorem d_La_law_1062 : decode (am_b mt_La_law) 1062 = .ok (.iconst 2, 1) := by decide +kernel
theorem d_La_law_1063 : decode (am_b mt_La_law) 1063 = .ok (.iadd, 1) := by decide +kernel
theorem d_La_law_1064 : decode (am_b mt_La_law) 1064 = .ok (.iaload, 1) := by decide +kernel
theorem d_La_law_1065 : decode (am_b mt_La_law) 1065 = .ok (.invokevirtual 130, 3) := by decide +kernel
theorem d_La_law_1068 : decode (am_b mt_La_law) 1068 = .ok (.istore 6, 2) := by decide +kernel
theorem d_La_law_1070 : decode (am_b mt_La_law) 1070 = .ok (.aload_n 2, 1) := by decide +kernel
theorem d_La_law_1071 : decode (am_b mt_La_law) 1071 = .ok (.invokevirtual 85, 3) := by decide +kernel
theorem d_La_law_1074 : decode (am_b mt_La_law) 1074 = .ok (.iload 5, 2) := by decide +kernel
theorem d_La_law_1076 : decode (am_b mt_La_law) 1076 = .ok (.if_icmp .eq 5, 3) := by decide +kernel
theorem d_La_law_1079 : decode (am_b mt_La_law) 1079 = .ok (.iconst 0, 1) := by decide +kernel
theorem d_La_law_1080 : decode (am_b mt_La_law) 1080 = .ok (.ireturn, 1) := by decide +kernel
theorem d_La_law_1081 : decode (am_b mt_La_law) 1081 = .ok (.iload 5, 2) := by decide +kernel
theorem d_La_law_1083 : decode (am_b mt_La_law) 1083 = .ok (.ifCond .ne 15, 3) := by decide +kernel
theorem d_La_law_1086 : decode (am_b mt_La_law) 1086 = .ok (.aload_n 3, 1) := by decide +kernel
theorem d_La_law_1087 : decode (am_b mt_La_law) 1087 = .ok (.iconst 0, 1) := by decide +kernel
theorem d_La_law_1088 : decode (am_b mt_La_law) 1088 = .ok (.laload, 1) := by decide +kernel
theorem d_La_law_1089 : decode (am_b mt_La_law) 1089 = .ok (.iload 6, 2) := by decide +kernel
theorem d_La_law_1091 : decode (am_b mt_La_law) 1091 = .ok (.i2l, 1) := by decide +kernel
theorem d_La_law_1092 : decode (am_b mt_La_law) 1092 = .ok (.lcmp, 1) := by decide +kernel
theorem d_La_law_1093 : decode (am_b mt_La_law) 1093 = .ok (.ifCond .eq 5, 3) := by decide +kernel
theorem d_La_law_1096 : decode (am_b mt_La_law) 1096 = .ok (.iconst 0, 1) := by decide +kernel
theorem d_La_law_1097 : decode (am_b mt_La_law) 1097 = .ok (.ireturn, 1) := by decide +kernel
theorem d_La_law_1098 : decode (am_b mt_La_law) 1098 = .ok (.goto 180, 3) := by decide +kernel
theorem d_La_law_1101 : decode (am_b mt_La_law) 1101 = .ok (.aload_n 1, 1) := by decide +kernel
theorem d_La_law_1102 : decode (am_b mt_La_law) 1102 = .ok (.aload_n 0, 1) := by decide +kernel
theorem d_La_law_1103 : decode (am_b mt_La_law) 1103 = .ok (.iload 4, 2) := by decide +kernel
theorem d_La_law_1105 : decode (am_b mt_La_law) 1105 = .ok (.iconst 1, 1) := by decide +kernel
theorem d_La_law_1106 : decode (am_b mt_La_law) 1106 = .ok (.iadd, 1) := by decide +kernel
theorem d_La_law_1107 : decode (am_b mt_La_law) 1107 = .ok (.iaload, 1) := by decide +kernel
theorem d_La_law_1108 : decode (am_b mt_La_law) 1108 = .ok (.aload_n 0, 1) := by decide +kernel
theorem d_La_law_1109 : decode (am_b mt_La_law) 1109 = .ok (.iload 4, 2) := by decide +kernel
theorem d_La_law_1111 : decode (am_b mt_La_law) 1111 = .ok (.iconst 2, 1) := by decide +kernel
theorem d_La_law_1112 : decode (am_b mt_La_law) 1112 = .ok (.iadd, 1) := by decide +kernel
theorem d_La_law_1113 : decode (am_b mt_La_law) 1113 = .ok (.iaload, 1) := by decide +kernel
theorem d_La_law_1114 : decode (am_b mt_La_law) 1114 = .ok (.aload_n 3, 1) := by decide +kernel
theorem d_La_law_1115 : decode (am_b mt_La_law) 1115 = .ok (.invokestatic 131, 3) := by decide +kernel
theorem d_La_law_1118 : decode (am_b mt_La_law) 1118 = .ok (.istore 5, 2) := by decide +kernel
theorem d_La_law_1120 : decode (am_b mt_La_law) 1120 = .ok (.aload_n 2, 1) := by decide +kernel
theorem d_La_law_1121 : decode (am_b mt_La_law) 1121 = .ok (.aload_n 0, 1) := by decide +kernel
theorem d_La_law_1122 : decode (am_b mt_La_law) 1122 = .ok (.iload 4, 2) := by decide +kernel
theorem d_La_law_1124 : decode (am_b mt_La_law) 1124 = .ok (.iconst 1, 1) := by decide +kernel
theorem d_La_law_1125 : decode (am_b mt_La_law) 1125 = .ok (.iadd, 1) := by decide +kernel
theorem d_La_law_1126 : decode (am_b mt_La_law) 1126 = .ok (.iaload, 1) := by decide +kernel
theorem d_La_law_1127 : decode (am_b mt_La_law) 1127 = .ok (.aload_n 0, 1) := by decide +kernel
theorem d_La_law_1128 : decode (am_b mt_La_law) 1128 = .ok (.iload 4, 2) := by decide +kernel
theorem d_La_law_1130 : decode (am_b mt_La_law) 1130 = .ok (.iconst 2, 1) := by decide +kernel
theorem d_La_law_1131 : decode (am_b mt_La_law) 1131 = .ok (.iadd, 1) := by decide +kernel
theorem d_La_law_1132 : decode (am_b mt_La_law) 1132 = .ok (.iaload, 1) := by decide +kernel
theorem d_La_law_1133 : decode (am_b mt_La_law) 1133 = .ok (.invokevirtual 133, 3) := by decide +kernel
theorem d_La_law_1136 : decode (am_b mt_La_law) 1136 = .ok (.istore 6, 2) := by decide +kernel
theorem d_La_law_1138 : decode (am_b mt_La_law) 1138 = .ok (.aload_n 2, 1) := by decide +kernel
theorem d_La_law_1139 : decode (am_b mt_La_law) 1139 = .ok (.invokevirtual 85, 3) := by decide +kernel
theorem d_La_law_1142 : decode (am_b mt_La_law) 1142 = .ok (.iload 5, 2) := by decide +kernel
theorem d_La_law_1144 : decode (am_b mt_La_law) 1144 = .ok (.if_icmp .eq 5, 3) := by decide +kernel
theorem d_La_law_1147 : decode (am_b mt_La_law) 1147 = .ok (.iconst 0, 1) := by decide +kernel
theorem d_La_law_1148 : decode (am_b mt_La_law) 1148 = .ok (.ireturn, 1) := by decide +kernel
theorem d_La_law_1149 : decode (am_b mt_La_law) 1149 = .ok (.iload 5, 2) := by decide +kernel
theorem d_La_law_1151 : decode (am_b mt_La_law) 1151 = .ok (.ifCond .ne 15, 3) := by decide +kernel
theorem d_La_law_1154 : decode (am_b mt_La_law) 1154 = .ok (.aload_n 3, 1) := by decide +kernel
theorem d_La_law_1155 : decode (am_b mt_La_law) 1155 = .ok (.iconst 0, 1) := by decide +kernel
theorem d_La_law_1156 : decode (am_b mt_La_law) 1156 = .ok (.laload, 1) := by decide +kernel
theorem d_La_law_1157 : decode (am_b mt_La_law) 1157 = .ok (.iload 6, 2) := by decide +kernel
theorem d_La_law_1159 : decode (am_b mt_La_law) 1159 = .ok (.i2l, 1) := by decide +kernel
theorem d_La_law_1160 : decode (am_b mt_La_law) 1160 = .ok (.lcmp, 1) := by decide +kernel
theorem d_La_law_1161 : decode (am_b mt_La_law) 1161 = .ok (.ifCond .eq 5, 3) := by decide +kernel
theorem d_La_law_1164 : decode (am_b mt_La_law) 1164 = .ok (.iconst 0, 1) := by decide +kernel
theorem d_La_law_1165 : decode (am_b mt_La_law) 1165 = .ok (.ireturn, 1) := by decide +kernel
theorem d_La_law_1166 : decode (am_b mt_La_law) 1166 = .ok (.goto 112, 3) := by decide +kernel
theorem d_La_law_1169 : decode (am_b mt_La_law) 1169 = .ok (.aload_n 1, 1) := by decide +kernel
theorem d_La_law_1170 : decode (am_b mt_La_law) 1170 = .ok (.aload_n 0, 1) := by decide +kernel
theorem d_La_law_1171 : decode (am_b mt_La_law) 1171 = .ok (.iload 4, 2) := by decide +kernel
theorem d_La_law_1173 : decode (am_b mt_La_law) 1173 = .ok (.iconst 1, 1) := by decide +kernel
theorem d_La_law_1174 : decode (am_b mt_La_law) 1174 = .ok (.iadd, 1) := by decide +kernel
theorem d_La_law_1175 : decode (am_b mt_La_law) 1175 = .ok (.iaload, 1) := by decide +kernel
theorem d_La_law_1176 : decode (am_b mt_La_law) 1176 = .ok (.ifCond .eq 7, 3) := by decide +kernel
theorem d_La_law_1179 : decode (am_b mt_La_law) 1179 = .ok (.iconst 1, 1) := by decide +kernel
theorem d_La_law_1180 : decode (am_b mt_La_law) 1180 = .ok (.goto 4, 3) := by decide +kernel
theorem d_La_law_1183 : decode (am_b mt_La_law) 1183 = .ok (.iconst 0, 1) := by decide +kernel
theorem d_La_law_1184 : decode (am_b mt_La_law) 1184 = .ok (.aload_n 0, 1) := by decide +kernel
theorem d_La_law_1185 : decode (am_b mt_La_law) 1185 = .ok (.iload 4, 2) := by decide +kernel
theorem d_La_law_1187 : decode (am_b mt_La_law) 1187 = .ok (.iconst 2, 1) := by decide +kernel
theorem d_La_law_1188 : decode (am_b mt_La_law) 1188 = .ok (.iadd, 1) := by decide +kernel
theorem d_La_law_1189 : decode (am_b mt_La_law) 1189 = .ok (.iaload, 1) := by decide +kernel
theorem d_La_law_1190 : decode (am_b mt_La_law) 1190 = .ok (.aload_n 3, 1) := by decide +kernel
theorem d_La_law_1191 : decode (am_b mt_La_law) 1191 = .ok (.invokestatic 134, 3) := by decide +kernel
theorem d_La_law_1194 : decode (am_b mt_La_law) 1194 = .ok (.istore 5, 2) := by decide +kernel
theorem d_La_law_1196 : decode (am_b mt_La_law) 1196 = .ok (.aload_n 2, 1) := by decide +kernel
theorem d_La_law_1197 : decode (am_b mt_La_law) 1197 = .ok (.aload_n 0, 1) := by decide +kernel
theorem d_La_law_1198 : decode (am_b mt_La_law) 1198 = .ok (.iload 4, 2) := by decide +kernel
theorem d_La_law_1200 : decode (am_b mt_La_law) 1200 = .ok (.iconst 1, 1) := by decide +kernel
theorem d_La_law_1201 : decode (am_b mt_La_law) 1201 = .ok (.iadd, 1) := by decide +kernel
theorem d_La_law_1202 : decode (am_b mt_La_law) 1202 = .ok (.iaload, 1) := by decide +kernel
theorem d_La_law_1203 : decode (am_b mt_La_law) 1203 = .ok (.ifCond .eq 7, 3) := by decide +kernel
theorem d_La_law_1206 : decode (am_b mt_La_law) 1206 = .ok (.iconst 1, 1) := by decide +kernel
theorem d_La_law_1207 : decode (am_b mt_La_law) 1207 = .ok (.goto 4, 3) := by decide +kernel
theorem d_La_law_1210 : decode (am_b mt_La_law) 1210 = .ok (.iconst 0, 1) := by decide +kernel
theorem d_La_law_1211 : decode (am_b mt_La_law) 1211 = .ok (.aload_n 0, 1) := by decide +kernel
theorem d_La_law_1212 : decode (am_b mt_La_law) 1212 = .ok (.iload 4, 2) := by decide +kernel
theorem d_La_law_1214 : decode (am_b mt_La_law) 1214 = .ok (.iconst 2, 1) := by decide +kernel
theorem d_La_law_1215 : decode (am_b mt_La_law) 1215 = .ok (.iadd, 1) := by decide +kernel
theorem d_La_law_1216 : decode (am_b mt_La_law) 1216 = .ok (.iaload, 1) := by decide +kernel
theorem d_La_law_1217 : decode (am_b mt_La_law) 1217 = .ok (.invokevirtual 137, 3) := by decide +kernel
theorem d_La_law_1220 : decode (am_b mt_La_law) 1220 = .ok (.istore 6, 2) := by decide +kernel
theorem d_La_law_1222 : decode (am_b mt_La_law) 1222 = .ok (.aload_n 2, 1) := by decide +kernel
theorem d_La_law_1223 : decode (am_b mt_La_law) 1223 = .ok (.invokevirtual 85, 3) := by decide +kernel
theorem d_La_law_1226 : decode (am_b mt_La_law) 1226 = .ok (.iload 5, 2) := by decide +kernel
theorem d_La_law_1228 : decode (am_b mt_La_law) 1228 = .ok (.if_icmp .eq 5, 3) := by decide +kernel
theorem d_La_law_1231 : decode (am_b mt_La_law) 1231 = .ok (.iconst 0, 1) := by decide +kernel
theorem d_La_law_1232 : decode (am_b mt_La_law) 1232 = .ok (.ireturn, 1) := by decide +kernel
theorem d_La_law_1233 : decode (am_b mt_La_law) 1233 = .ok (.iload 5, 2) := by decide +kernel
theorem d_La_law_1235 : decode (am_b mt_La_law) 1235 = .ok (.ifCond .ne 15, 3) := by decide +kernel
theorem d_La_law_1238 : decode (am_b mt_La_law) 1238 = .ok (.aload_n 3, 1) := by decide +kernel
theorem d_La_law_1239 : decode (am_b mt_La_law) 1239 = .ok (.iconst 0, 1) := by decide +kernel
theorem d_La_law_1240 : decode (am_b mt_La_law) 1240 = .ok (.laload, 1) := by decide +kernel
theorem d_La_law_1241 : decode (am_b mt_La_law) 1241 = .ok (.iload 6, 2) := by decide +kernel
theorem d_La_law_1243 : decode (am_b mt_La_law) 1243 = .ok (.i2l, 1) := by decide +kernel
theorem d_La_law_1244 : decode (am_b mt_La_law) 1244 = .ok (.lcmp, 1) := by decide +kernel
theorem d_La_law_1245 : decode (am_b mt_La_law) 1245 = .ok (.ifCond .eq 5, 3) := by decide +kernel
theorem d_La_law_1248 : decode (am_b mt_La_law) 1248 = .ok (.iconst 0, 1) := by decide +kernel
theorem d_La_law_1249 : decode (am_b mt_La_law) 1249 = .ok (.ireturn, 1) := by decide +kernel
theorem d_La_law_1250 : decode (am_b mt_La_law) 1250 = .ok (.goto 28, 3) := by decide +kernel
theorem d_La_law_1253 : decode (am_b mt_La_law) 1253 = .ok (.aload_n 1, 1) := by decide +kernel
theorem d_La_law_1254 : decode (am_b mt_La_law) 1254 = .ok (.aload_n 0, 1) := by decide +kernel
theorem d_La_law_1255 : decode (am_b mt_La_law) 1255 = .ok (.iload 4, 2) := by decide +kernel
theorem d_La_law_1257 : decode (am_b mt_La_law) 1257 = .ok (.iconst 1, 1) := by decide +kernel
theorem d_La_law_1258 : decode (am_b mt_La_law) 1258 = .ok (.iadd, 1) := by decide +kernel
theorem d_La_law_1259 : decode (am_b mt_La_law) 1259 = .ok (.iaload, 1) := by decide +kernel
theorem d_La_law_1260 : decode (am_b mt_La_law) 1260 = .ok (.invokevirtual 138, 3) := by decide +kernel
theorem d_La_law_1263 : decode (am_b mt_La_law) 1263 = .ok (.aload_n 2, 1) := by decide +kernel
theorem d_La_law_1264 : decode (am_b mt_La_law) 1264 = .ok (.aload_n 0, 1) := by decide +kernel
theorem d_La_law_1265 : decode (am_b mt_La_law) 1265 = .ok (.iload 4, 2) := by decide +kernel
theorem d_La_law_1267 : decode (am_b mt_La_law) 1267 = .ok (.iconst 1, 1) := by decide +kernel
theorem d_La_law_1268 : decode (am_b mt_La_law) 1268 = .ok (.iadd, 1) := by decide +kernel
theorem d_La_law_1269 : decode (am_b mt_La_law) 1269 = .ok (.iaload, 1) := by decide +kernel
theorem d_La_law_1270 : decode (am_b mt_La_law) 1270 = .ok (.invokevirtual 141, 3) := by decide +kernel
theorem d_La_law_1273 : decode (am_b mt_La_law) 1273 = .ok (.if_icmp .eq 5, 3) := by decide +kernel
theorem d_La_law_1276 : decode (am_b mt_La_law) 1276 = .ok (.iconst 0, 1) := by decide +kernel
theorem d_La_law_1277 : decode (am_b mt_La_law) 1277 = .ok (.ireturn, 1) := by decide +kernel
theorem d_La_law_1278 : decode (am_b mt_La_law) 1278 = .ok (.iinc 4 6, 3) := by decide +kernel
theorem d_La_law_1281 : decode (am_b mt_La_law) 1281 = .ok (.goto (-1228), 3) := by decide +kernel
theorem d_La_law_1284 : decode (am_b mt_La_law) 1284 = .ok (.iconst 1, 1) := by decide +kernel
theorem d_La_law_1285 : decode (am_b mt_La_law) 1285 = .ok (.ireturn, 1) := by decide +kernel
