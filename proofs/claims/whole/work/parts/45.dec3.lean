/-! Part 45 (3) (written by gen6.py): the instructions -/
theorem d_Mo_take_24 : decode (am_b mt_Mo_take) 24 = .ok (.aload_n 0, 1) := by decide +kernel
theorem d_Mo_take_25 : decode (am_b mt_Mo_take) 25 = .ok (.getfield 33, 3) := by decide +kernel
theorem d_Mo_take_28 : decode (am_b mt_Mo_take) 28 = .ok (.iload_n 1, 1) := by decide +kernel
theorem d_Mo_take_29 : decode (am_b mt_Mo_take) 29 = .ok (.iconst 1, 1) := by decide +kernel
theorem d_Mo_take_30 : decode (am_b mt_Mo_take) 30 = .ok (.iastore, 1) := by decide +kernel
theorem d_Mo_take_31 : decode (am_b mt_Mo_take) 31 = .ok (.aload_n 0, 1) := by decide +kernel
theorem d_Mo_take_32 : decode (am_b mt_Mo_take) 32 = .ok (.getfield 51, 3) := by decide +kernel
theorem d_Mo_take_35 : decode (am_b mt_Mo_take) 35 = .ok (.iload_n 1, 1) := by decide +kernel
theorem d_Mo_take_36 : decode (am_b mt_Mo_take) 36 = .ok (.iaload, 1) := by decide +kernel
theorem d_Mo_take_37 : decode (am_b mt_Mo_take) 37 = .ok (.ifCond .ne 4, 3) := by decide +kernel
theorem d_Mo_take_40 : decode (am_b mt_Mo_take) 40 = .ok (.return_, 1) := by decide +kernel
theorem d_Mo_take_41 : decode (am_b mt_Mo_take) 41 = .ok (.bipush 8, 2) := by decide +kernel
theorem d_Mo_take_43 : decode (am_b mt_Mo_take) 43 = .ok (.iload_n 1, 1) := by decide +kernel
theorem d_Mo_take_44 : decode (am_b mt_Mo_take) 44 = .ok (.imul, 1) := by decide +kernel
theorem d_Mo_take_45 : decode (am_b mt_Mo_take) 45 = .ok (.aload_n 0, 1) := by decide +kernel
theorem d_Mo_take_46 : decode (am_b mt_Mo_take) 46 = .ok (.getfield 48, 3) := by decide +kernel
theorem d_Mo_take_49 : decode (am_b mt_Mo_take) 49 = .ok (.iload_n 1, 1) := by decide +kernel
theorem d_Mo_take_50 : decode (am_b mt_Mo_take) 50 = .ok (.iaload, 1) := by decide +kernel
theorem d_Mo_take_51 : decode (am_b mt_Mo_take) 51 = .ok (.iadd, 1) := by decide +kernel
theorem d_Mo_take_52 : decode (am_b mt_Mo_take) 52 = .ok (.istore_n 2, 1) := by decide +kernel
theorem d_Mo_take_53 : decode (am_b mt_Mo_take) 53 = .ok (.aload_n 0, 1) := by decide +kernel
theorem d_Mo_take_54 : decode (am_b mt_Mo_take) 54 = .ok (.getfield 33, 3) := by decide +kernel
theorem d_Mo_take_57 : decode (am_b mt_Mo_take) 57 = .ok (.iload_n 1, 1) := by decide +kernel
theorem d_Mo_take_58 : decode (am_b mt_Mo_take) 58 = .ok (.aload_n 0, 1) := by decide +kernel
theorem d_Mo_take_59 : decode (am_b mt_Mo_take) 59 = .ok (.getfield 54, 3) := by decide +kernel
theorem d_Mo_take_62 : decode (am_b mt_Mo_take) 62 = .ok (.iload_n 1, 1) := by decide +kernel
theorem d_Mo_take_63 : decode (am_b mt_Mo_take) 63 = .ok (.iaload, 1) := by decide +kernel
theorem d_Mo_take_64 : decode (am_b mt_Mo_take) 64 = .ok (.ifCond .ne 7, 3) := by decide +kernel
theorem d_Mo_take_67 : decode (am_b mt_Mo_take) 67 = .ok (.iconst 2, 1) := by decide +kernel
theorem d_Mo_take_68 : decode (am_b mt_Mo_take) 68 = .ok (.goto 4, 3) := by decide +kernel
theorem d_Mo_take_71 : decode (am_b mt_Mo_take) 71 = .ok (.iconst 1, 1) := by decide +kernel
theorem d_Mo_take_72 : decode (am_b mt_Mo_take) 72 = .ok (.iastore, 1) := by decide +kernel
theorem d_Mo_take_73 : decode (am_b mt_Mo_take) 73 = .ok (.aload_n 0, 1) := by decide +kernel
theorem d_Mo_take_74 : decode (am_b mt_Mo_take) 74 = .ok (.getfield 36, 3) := by decide +kernel
theorem d_Mo_take_77 : decode (am_b mt_Mo_take) 77 = .ok (.iload_n 1, 1) := by decide +kernel
theorem d_Mo_take_78 : decode (am_b mt_Mo_take) 78 = .ok (.iaload, 1) := by decide +kernel
theorem d_Mo_take_79 : decode (am_b mt_Mo_take) 79 = .ok (.bipush 7, 2) := by decide +kernel
theorem d_Mo_take_81 : decode (am_b mt_Mo_take) 81 = .ok (.if_icmp .ge 73, 3) := by decide +kernel
theorem d_Mo_take_84 : decode (am_b mt_Mo_take) 84 = .ok (.aload_n 0, 1) := by decide +kernel
theorem d_Mo_take_85 : decode (am_b mt_Mo_take) 85 = .ok (.getfield 54, 3) := by decide +kernel
theorem d_Mo_take_88 : decode (am_b mt_Mo_take) 88 = .ok (.iload_n 1, 1) := by decide +kernel
theorem d_Mo_take_89 : decode (am_b mt_Mo_take) 89 = .ok (.iaload, 1) := by decide +kernel
theorem d_Mo_take_90 : decode (am_b mt_Mo_take) 90 = .ok (.aload_n 0, 1) := by decide +kernel
theorem d_Mo_take_91 : decode (am_b mt_Mo_take) 91 = .ok (.getfield 45, 3) := by decide +kernel
theorem d_Mo_take_94 : decode (am_b mt_Mo_take) 94 = .ok (.iload_n 2, 1) := by decide +kernel
theorem d_Mo_take_95 : decode (am_b mt_Mo_take) 95 = .ok (.iaload, 1) := by decide +kernel
theorem d_Mo_take_96 : decode (am_b mt_Mo_take) 96 = .ok (.if_icmp .ge 58, 3) := by decide +kernel
theorem d_Mo_take_99 : decode (am_b mt_Mo_take) 99 = .ok (.aload_n 0, 1) := by decide +kernel
theorem d_Mo_take_100 : decode (am_b mt_Mo_take) 100 = .ok (.getfield 39, 3) := by decide +kernel
theorem d_Mo_take_103 : decode (am_b mt_Mo_take) 103 = .ok (.bipush 8, 2) := by decide +kernel
theorem d_Mo_take_105 : decode (am_b mt_Mo_take) 105 = .ok (.iload_n 1, 1) := by decide +kernel
theorem d_Mo_take_106 : decode (am_b mt_Mo_take) 106 = .ok (.imul, 1) := by decide +kernel
theorem d_Mo_take_107 : decode (am_b mt_Mo_take) 107 = .ok (.aload_n 0, 1) := by decide +kernel
theorem d_Mo_take_108 : decode (am_b mt_Mo_take) 108 = .ok (.getfield 36, 3) := by decide +kernel
theorem d_Mo_take_111 : decode (am_b mt_Mo_take) 111 = .ok (.iload_n 1, 1) := by decide +kernel
theorem d_Mo_take_112 : decode (am_b mt_Mo_take) 112 = .ok (.iaload, 1) := by decide +kernel
theorem d_Mo_take_113 : decode (am_b mt_Mo_take) 113 = .ok (.iadd, 1) := by decide +kernel
theorem d_Mo_take_114 : decode (am_b mt_Mo_take) 114 = .ok (.aload_n 0, 1) := by decide +kernel
theorem d_Mo_take_115 : decode (am_b mt_Mo_take) 115 = .ok (.getfield 42, 3) := by decide +kernel
theorem d_Mo_take_118 : decode (am_b mt_Mo_take) 118 = .ok (.bipush 24, 2) := by decide +kernel
theorem d_Mo_take_120 : decode (am_b mt_Mo_take) 120 = .ok (.iload_n 2, 1) := by decide +kernel
theorem d_Mo_take_121 : decode (am_b mt_Mo_take) 121 = .ok (.imul, 1) := by decide +kernel
theorem d_Mo_take_122 : decode (am_b mt_Mo_take) 122 = .ok (.aload_n 0, 1) := by decide +kernel
theorem d_Mo_take_123 : decode (am_b mt_Mo_take) 123 = .ok (.getfield 54, 3) := by decide +kernel
theorem d_Mo_take_126 : decode (am_b mt_Mo_take) 126 = .ok (.iload_n 1, 1) := by decide +kernel
theorem d_Mo_take_127 : decode (am_b mt_Mo_take) 127 = .ok (.iaload, 1) := by decide +kernel
theorem d_Mo_take_128 : decode (am_b mt_Mo_take) 128 = .ok (.iadd, 1) := by decide +kernel
theorem d_Mo_take_129 : decode (am_b mt_Mo_take) 129 = .ok (.iaload, 1) := by decide +kernel
theorem d_Mo_take_130 : decode (am_b mt_Mo_take) 130 = .ok (.iastore, 1) := by decide +kernel
theorem d_Mo_take_131 : decode (am_b mt_Mo_take) 131 = .ok (.aload_n 0, 1) := by decide +kernel
theorem d_Mo_take_132 : decode (am_b mt_Mo_take) 132 = .ok (.getfield 36, 3) := by decide +kernel
theorem d_Mo_take_135 : decode (am_b mt_Mo_take) 135 = .ok (.iload_n 1, 1) := by decide +kernel
theorem d_Mo_take_136 : decode (am_b mt_Mo_take) 136 = .ok (.dup2, 1) := by decide +kernel
theorem d_Mo_take_137 : decode (am_b mt_Mo_take) 137 = .ok (.iaload, 1) := by decide +kernel
theorem d_Mo_take_138 : decode (am_b mt_Mo_take) 138 = .ok (.iconst 1, 1) := by decide +kernel
theorem d_Mo_take_139 : decode (am_b mt_Mo_take) 139 = .ok (.iadd, 1) := by decide +kernel
theorem d_Mo_take_140 : decode (am_b mt_Mo_take) 140 = .ok (.iastore, 1) := by decide +kernel
theorem d_Mo_take_141 : decode (am_b mt_Mo_take) 141 = .ok (.aload_n 0, 1) := by decide +kernel
theorem d_Mo_take_142 : decode (am_b mt_Mo_take) 142 = .ok (.getfield 54, 3) := by decide +kernel
theorem d_Mo_take_145 : decode (am_b mt_Mo_take) 145 = .ok (.iload_n 1, 1) := by decide +kernel
theorem d_Mo_take_146 : decode (am_b mt_Mo_take) 146 = .ok (.dup2, 1) := by decide +kernel
theorem d_Mo_take_147 : decode (am_b mt_Mo_take) 147 = .ok (.iaload, 1) := by decide +kernel
theorem d_Mo_take_148 : decode (am_b mt_Mo_take) 148 = .ok (.iconst 1, 1) := by decide +kernel
theorem d_Mo_take_149 : decode (am_b mt_Mo_take) 149 = .ok (.iadd, 1) := by decide +kernel
theorem d_Mo_take_150 : decode (am_b mt_Mo_take) 150 = .ok (.iastore, 1) := by decide +kernel
theorem d_Mo_take_151 : decode (am_b mt_Mo_take) 151 = .ok (.goto (-78), 3) := by decide +kernel
theorem d_Mo_take_154 : decode (am_b mt_Mo_take) 154 = .ok (.aload_n 0, 1) := by decide +kernel
theorem d_Mo_take_155 : decode (am_b mt_Mo_take) 155 = .ok (.getfield 54, 3) := by decide +kernel
theorem d_Mo_take_158 : decode (am_b mt_Mo_take) 158 = .ok (.iload_n 1, 1) := by decide +kernel
theorem d_Mo_take_159 : decode (am_b mt_Mo_take) 159 = .ok (.iaload, 1) := by decide +kernel
theorem d_Mo_take_160 : decode (am_b mt_Mo_take) 160 = .ok (.aload_n 0, 1) := by decide +kernel
theorem d_Mo_take_161 : decode (am_b mt_Mo_take) 161 = .ok (.getfield 45, 3) := by decide +kernel
theorem d_Mo_take_164 : decode (am_b mt_Mo_take) 164 = .ok (.iload_n 2, 1) := by decide +kernel
theorem d_Mo_take_165 : decode (am_b mt_Mo_take) 165 = .ok (.iaload, 1) := by decide +kernel
theorem d_Mo_take_166 : decode (am_b mt_Mo_take) 166 = .ok (.if_icmp .ne 37, 3) := by decide +kernel
theorem d_Mo_take_169 : decode (am_b mt_Mo_take) 169 = .ok (.aload_n 0, 1) := by decide +kernel
theorem d_Mo_take_170 : decode (am_b mt_Mo_take) 170 = .ok (.getfield 54, 3) := by decide +kernel
theorem d_Mo_take_173 : decode (am_b mt_Mo_take) 173 = .ok (.iload_n 1, 1) := by decide +kernel
theorem d_Mo_take_174 : decode (am_b mt_Mo_take) 174 = .ok (.iconst 0, 1) := by decide +kernel
theorem d_Mo_take_175 : decode (am_b mt_Mo_take) 175 = .ok (.iastore, 1) := by decide +kernel
theorem d_Mo_take_176 : decode (am_b mt_Mo_take) 176 = .ok (.aload_n 0, 1) := by decide +kernel
theorem d_Mo_take_177 : decode (am_b mt_Mo_take) 177 = .ok (.getfield 48, 3) := by decide +kernel
theorem d_Mo_take_180 : decode (am_b mt_Mo_take) 180 = .ok (.iload_n 1, 1) := by decide +kernel
theorem d_Mo_take_181 : decode (am_b mt_Mo_take) 181 = .ok (.aload_n 0, 1) := by decide +kernel
theorem d_Mo_take_182 : decode (am_b mt_Mo_take) 182 = .ok (.getfield 48, 3) := by decide +kernel
theorem d_Mo_take_185 : decode (am_b mt_Mo_take) 185 = .ok (.iload_n 1, 1) := by decide +kernel
theorem d_Mo_take_186 : decode (am_b mt_Mo_take) 186 = .ok (.iaload, 1) := by decide +kernel
theorem d_Mo_take_187 : decode (am_b mt_Mo_take) 187 = .ok (.iconst 1, 1) := by decide +kernel
theorem d_Mo_take_188 : decode (am_b mt_Mo_take) 188 = .ok (.iadd, 1) := by decide +kernel
theorem d_Mo_take_189 : decode (am_b mt_Mo_take) 189 = .ok (.bipush 8, 2) := by decide +kernel
theorem d_Mo_take_191 : decode (am_b mt_Mo_take) 191 = .ok (.irem, 1) := by decide +kernel
theorem d_Mo_take_192 : decode (am_b mt_Mo_take) 192 = .ok (.iastore, 1) := by decide +kernel
theorem d_Mo_take_193 : decode (am_b mt_Mo_take) 193 = .ok (.aload_n 0, 1) := by decide +kernel
theorem d_Mo_take_194 : decode (am_b mt_Mo_take) 194 = .ok (.getfield 51, 3) := by decide +kernel
theorem d_Mo_take_197 : decode (am_b mt_Mo_take) 197 = .ok (.iload_n 1, 1) := by decide +kernel
theorem d_Mo_take_198 : decode (am_b mt_Mo_take) 198 = .ok (.dup2, 1) := by decide +kernel
theorem d_Mo_take_199 : decode (am_b mt_Mo_take) 199 = .ok (.iaload, 1) := by decide +kernel
theorem d_Mo_take_200 : decode (am_b mt_Mo_take) 200 = .ok (.iconst 1, 1) := by decide +kernel
theorem d_Mo_take_201 : decode (am_b mt_Mo_take) 201 = .ok (.isub, 1) := by decide +kernel
theorem d_Mo_take_202 : decode (am_b mt_Mo_take) 202 = .ok (.iastore, 1) := by decide +kernel
theorem d_Mo_take_203 : decode (am_b mt_Mo_take) 203 = .ok (.return_, 1) := by decide +kernel
theorem d_Mo_check_0 : decode (am_b mt_Mo_check) 0 = .ok (.ldc 153, 2) := by decide +kernel
theorem d_Mo_check_2 : decode (am_b mt_Mo_check) 2 = .ok (.istore_n 2, 1) := by decide +kernel
theorem d_Mo_check_3 : decode (am_b mt_Mo_check) 3 = .ok (.iconst 0, 1) := by decide +kernel
theorem d_Mo_check_4 : decode (am_b mt_Mo_check) 4 = .ok (.istore_n 3, 1) := by decide +kernel
theorem d_Mo_check_5 : decode (am_b mt_Mo_check) 5 = .ok (.iload_n 3, 1) := by decide +kernel
theorem d_Mo_check_6 : decode (am_b mt_Mo_check) 6 = .ok (.iload_n 1, 1) := by decide +kernel
theorem d_Mo_check_7 : decode (am_b mt_Mo_check) 7 = .ok (.if_icmp .ge 80, 3) := by decide +kernel
theorem d_Mo_check_10 : decode (am_b mt_Mo_check) 10 = .ok (.iconst 0, 1) := by decide +kernel
theorem d_Mo_check_11 : decode (am_b mt_Mo_check) 11 = .ok (.istore 4, 2) := by decide +kernel
theorem d_Mo_check_13 : decode (am_b mt_Mo_check) 13 = .ok (.iload 4, 2) := by decide +kernel
theorem d_Mo_check_15 : decode (am_b mt_Mo_check) 15 = .ok (.bipush 8, 2) := by decide +kernel
theorem d_Mo_check_17 : decode (am_b mt_Mo_check) 17 = .ok (.if_icmp .ge 64, 3) := by decide +kernel
theorem d_Mo_check_20 : decode (am_b mt_Mo_check) 20 = .ok (.aload_n 0, 1) := by decide +kernel
theorem d_Mo_check_21 : decode (am_b mt_Mo_check) 21 = .ok (.getfield 17, 3) := by decide +kernel
theorem d_Mo_check_24 : decode (am_b mt_Mo_check) 24 = .ok (.iload_n 3, 1) := by decide +kernel
theorem d_Mo_check_25 : decode (am_b mt_Mo_check) 25 = .ok (.iaload, 1) := by decide +kernel
theorem d_Mo_check_26 : decode (am_b mt_Mo_check) 26 = .ok (.iload 4, 2) := by decide +kernel
theorem d_Mo_check_28 : decode (am_b mt_Mo_check) 28 = .ok (.ishr, 1) := by decide +kernel
theorem d_Mo_check_29 : decode (am_b mt_Mo_check) 29 = .ok (.iconst 1, 1) := by decide +kernel
theorem d_Mo_check_30 : decode (am_b mt_Mo_check) 30 = .ok (.iand, 1) := by decide +kernel
theorem d_Mo_check_31 : decode (am_b mt_Mo_check) 31 = .ok (.iconst 1, 1) := by decide +kernel
theorem d_Mo_check_32 : decode (am_b mt_Mo_check) 32 = .ok (.if_icmp .ne 7, 3) := by decide +kernel
theorem d_Mo_check_35 : decode (am_b mt_Mo_check) 35 = .ok (.iconst 1, 1) := by decide +kernel
theorem d_Mo_check_36 : decode (am_b mt_Mo_check) 36 = .ok (.goto 4, 3) := by decide +kernel
theorem d_Mo_check_39 : decode (am_b mt_Mo_check) 39 = .ok (.iconst 0, 1) := by decide +kernel
theorem d_Mo_check_40 : decode (am_b mt_Mo_check) 40 = .ok (.istore 5, 2) := by decide +kernel
theorem d_Mo_check_42 : decode (am_b mt_Mo_check) 42 = .ok (.iload_n 2, 1) := by decide +kernel
theorem d_Mo_check_43 : decode (am_b mt_Mo_check) 43 = .ok (.ldc 154, 2) := by decide +kernel
theorem d_Mo_check_45 : decode (am_b mt_Mo_check) 45 = .ok (.if_icmp .lt 7, 3) := by decide +kernel
theorem d_Mo_check_48 : decode (am_b mt_Mo_check) 48 = .ok (.iconst 1, 1) := by decide +kernel
theorem d_Mo_check_49 : decode (am_b mt_Mo_check) 49 = .ok (.goto 4, 3) := by decide +kernel
theorem d_Mo_check_52 : decode (am_b mt_Mo_check) 52 = .ok (.iconst 0, 1) := by decide +kernel
theorem d_Mo_check_53 : decode (am_b mt_Mo_check) 53 = .ok (.istore 6, 2) := by decide +kernel
theorem d_Mo_check_55 : decode (am_b mt_Mo_check) 55 = .ok (.iload_n 2, 1) := by decide +kernel
theorem d_Mo_check_56 : decode (am_b mt_Mo_check) 56 = .ok (.iconst 2, 1) := by decide +kernel
theorem d_Mo_check_57 : decode (am_b mt_Mo_check) 57 = .ok (.imul, 1) := by decide +kernel
theorem d_Mo_check_58 : decode (am_b mt_Mo_check) 58 = .ok (.ldc 155, 2) := by decide +kernel
theorem d_Mo_check_60 : decode (am_b mt_Mo_check) 60 = .ok (.irem, 1) := by decide +kernel
theorem d_Mo_check_61 : decode (am_b mt_Mo_check) 61 = .ok (.istore_n 2, 1) := by decide +kernel
theorem d_Mo_check_62 : decode (am_b mt_Mo_check) 62 = .ok (.iload 5, 2) := by decide +kernel
theorem d_Mo_check_64 : decode (am_b mt_Mo_check) 64 = .ok (.iload 6, 2) := by decide +kernel
theorem d_Mo_check_66 : decode (am_b mt_Mo_check) 66 = .ok (.if_icmp .eq 9, 3) := by decide +kernel
theorem d_Mo_check_69 : decode (am_b mt_Mo_check) 69 = .ok (.iload_n 2, 1) := by decide +kernel
theorem d_Mo_check_70 : decode (am_b mt_Mo_check) 70 = .ok (.sipush 1627, 3) := by decide +kernel
theorem d_Mo_check_73 : decode (am_b mt_Mo_check) 73 = .ok (.ixor, 1) := by decide +kernel
theorem d_Mo_check_74 : decode (am_b mt_Mo_check) 74 = .ok (.istore_n 2, 1) := by decide +kernel
theorem d_Mo_check_75 : decode (am_b mt_Mo_check) 75 = .ok (.iinc 4 1, 3) := by decide +kernel
theorem d_Mo_check_78 : decode (am_b mt_Mo_check) 78 = .ok (.goto (-65), 3) := by decide +kernel
theorem d_Mo_check_81 : decode (am_b mt_Mo_check) 81 = .ok (.iinc 3 1, 3) := by decide +kernel
theorem d_Mo_check_84 : decode (am_b mt_Mo_check) 84 = .ok (.goto (-79), 3) := by decide +kernel
theorem d_Mo_check_87 : decode (am_b mt_Mo_check) 87 = .ok (.iload_n 2, 1) := by decide +kernel
theorem d_Mo_check_88 : decode (am_b mt_Mo_check) 88 = .ok (.ireturn, 1) := by decide +kernel
theorem d_Mo_whiten_0 : decode (am_b mt_Mo_whiten) 0 = .ok (.bipush 64, 2) := by decide +kernel
theorem d_Mo_whiten_2 : decode (am_b mt_Mo_whiten) 2 = .ok (.aload_n 0, 1) := by decide +kernel
theorem d_Mo_whiten_3 : decode (am_b mt_Mo_whiten) 3 = .ok (.getfield 13, 3) := by decide +kernel
theorem d_Mo_whiten_6 : decode (am_b mt_Mo_whiten) 6 = .ok (.iadd, 1) := by decide +kernel
theorem d_Mo_whiten_7 : decode (am_b mt_Mo_whiten) 7 = .ok (.istore_n 1, 1) := by decide +kernel
theorem d_Mo_whiten_8 : decode (am_b mt_Mo_whiten) 8 = .ok (.iconst 0, 1) := by decide +kernel
theorem d_Mo_whiten_9 : decode (am_b mt_Mo_whiten) 9 = .ok (.istore_n 2, 1) := by decide +kernel
theorem d_Mo_whiten_10 : decode (am_b mt_Mo_whiten) 10 = .ok (.iload_n 2, 1) := by decide +kernel
theorem d_Mo_whiten_11 : decode (am_b mt_Mo_whiten) 11 = .ok (.aload_n 0, 1) := by decide +kernel
theorem d_Mo_whiten_12 : decode (am_b mt_Mo_whiten) 12 = .ok (.getfield 156, 3) := by decide +kernel
theorem d_Mo_whiten_15 : decode (am_b mt_Mo_whiten) 15 = .ok (.if_icmp .ge 70, 3) := by decide +kernel
theorem d_Mo_whiten_18 : decode (am_b mt_Mo_whiten) 18 = .ok (.iconst 0, 1) := by decide +kernel
theorem d_Mo_whiten_19 : decode (am_b mt_Mo_whiten) 19 = .ok (.istore_n 3, 1) := by decide +kernel
theorem d_Mo_whiten_20 : decode (am_b mt_Mo_whiten) 20 = .ok (.iload_n 3, 1) := by decide +kernel
theorem d_Mo_whiten_21 : decode (am_b mt_Mo_whiten) 21 = .ok (.bipush 8, 2) := by decide +kernel
theorem d_Mo_whiten_23 : decode (am_b mt_Mo_whiten) 23 = .ok (.if_icmp .ge 56, 3) := by decide +kernel
theorem d_Mo_whiten_26 : decode (am_b mt_Mo_whiten) 26 = .ok (.iload_n 1, 1) := by decide +kernel
theorem d_Mo_whiten_27 : decode (am_b mt_Mo_whiten) 27 = .ok (.bipush 64, 2) := by decide +kernel
theorem d_Mo_whiten_29 : decode (am_b mt_Mo_whiten) 29 = .ok (.if_icmp .lt 7, 3) := by decide +kernel
theorem d_Mo_whiten_32 : decode (am_b mt_Mo_whiten) 32 = .ok (.iconst 1, 1) := by decide +kernel
theorem d_Mo_whiten_33 : decode (am_b mt_Mo_whiten) 33 = .ok (.goto 4, 3) := by decide +kernel
theorem d_Mo_whiten_36 : decode (am_b mt_Mo_whiten) 36 = .ok (.iconst 0, 1) := by decide +kernel
theorem d_Mo_whiten_37 : decode (am_b mt_Mo_whiten) 37 = .ok (.istore 4, 2) := by decide +kernel
theorem d_Mo_whiten_39 : decode (am_b mt_Mo_whiten) 39 = .ok (.iload_n 1, 1) := by decide +kernel
theorem d_Mo_whiten_40 : decode (am_b mt_Mo_whiten) 40 = .ok (.iconst 2, 1) := by decide +kernel
theorem d_Mo_whiten_41 : decode (am_b mt_Mo_whiten) 41 = .ok (.imul, 1) := by decide +kernel
theorem d_Mo_whiten_42 : decode (am_b mt_Mo_whiten) 42 = .ok (.sipush 128, 3) := by decide +kernel
theorem d_Mo_whiten_45 : decode (am_b mt_Mo_whiten) 45 = .ok (.irem, 1) := by decide +kernel
theorem d_Mo_whiten_46 : decode (am_b mt_Mo_whiten) 46 = .ok (.istore_n 1, 1) := by decide +kernel
theorem d_Mo_whiten_47 : decode (am_b mt_Mo_whiten) 47 = .ok (.iload 4, 2) := by decide +kernel
theorem d_Mo_whiten_49 : decode (am_b mt_Mo_whiten) 49 = .ok (.ifCond .eq 24, 3) := by decide +kernel
theorem d_Mo_whiten_52 : decode (am_b mt_Mo_whiten) 52 = .ok (.aload_n 0, 1) := by decide +kernel
theorem d_Mo_whiten_53 : decode (am_b mt_Mo_whiten) 53 = .ok (.getfield 17, 3) := by decide +kernel
theorem d_Mo_whiten_56 : decode (am_b mt_Mo_whiten) 56 = .ok (.iload_n 2, 1) := by decide +kernel
theorem d_Mo_whiten_57 : decode (am_b mt_Mo_whiten) 57 = .ok (.aload_n 0, 1) := by decide +kernel
theorem d_Mo_whiten_58 : decode (am_b mt_Mo_whiten) 58 = .ok (.getfield 17, 3) := by decide +kernel
theorem d_Mo_whiten_61 : decode (am_b mt_Mo_whiten) 61 = .ok (.iload_n 2, 1) := by decide +kernel
theorem d_Mo_whiten_62 : decode (am_b mt_Mo_whiten) 62 = .ok (.iaload, 1) := by decide +kernel
theorem d_Mo_whiten_63 : decode (am_b mt_Mo_whiten) 63 = .ok (.iconst 1, 1) := by decide +kernel
theorem d_Mo_whiten_64 : decode (am_b mt_Mo_whiten) 64 = .ok (.iload_n 3, 1) := by decide +kernel
theorem d_Mo_whiten_65 : decode (am_b mt_Mo_whiten) 65 = .ok (.ishl, 1) := by decide +kernel
theorem d_Mo_whiten_66 : decode (am_b mt_Mo_whiten) 66 = .ok (.ixor, 1) := by decide +kernel
theorem d_Mo_whiten_67 : decode (am_b mt_Mo_whiten) 67 = .ok (.iastore, 1) := by decide +kernel
theorem d_Mo_whiten_68 : decode (am_b mt_Mo_whiten) 68 = .ok (.iload_n 1, 1) := by decide +kernel
theorem d_Mo_whiten_69 : decode (am_b mt_Mo_whiten) 69 = .ok (.bipush 17, 2) := by decide +kernel
theorem d_Mo_whiten_71 : decode (am_b mt_Mo_whiten) 71 = .ok (.ixor, 1) := by decide +kernel
theorem d_Mo_whiten_72 : decode (am_b mt_Mo_whiten) 72 = .ok (.istore_n 1, 1) := by decide +kernel
theorem d_Mo_whiten_73 : decode (am_b mt_Mo_whiten) 73 = .ok (.iinc 3 1, 3) := by decide +kernel
theorem d_Mo_whiten_76 : decode (am_b mt_Mo_whiten) 76 = .ok (.goto (-56), 3) := by decide +kernel
theorem d_Mo_whiten_79 : decode (am_b mt_Mo_whiten) 79 = .ok (.iinc 2 1, 3) := by decide +kernel
theorem d_Mo_whiten_82 : decode (am_b mt_Mo_whiten) 82 = .ok (.goto (-72), 3) := by decide +kernel
theorem d_Mo_whiten_85 : decode (am_b mt_Mo_whiten) 85 = .ok (.return_, 1) := by decide +kernel
theorem d_Mo_hear_0 : decode (am_b mt_Mo_hear) 0 = .ok (.aload_n 0, 1) := by decide +kernel
theorem d_Mo_hear_1 : decode (am_b mt_Mo_hear) 1 = .ok (.invokevirtual 166, 3) := by decide +kernel
theorem d_Mo_hear_4 : decode (am_b mt_Mo_hear) 4 = .ok (.aload_n 0, 1) := by decide +kernel
theorem d_Mo_hear_5 : decode (am_b mt_Mo_hear) 5 = .ok (.getfield 17, 3) := by decide +kernel
theorem d_Mo_hear_8 : decode (am_b mt_Mo_hear) 8 = .ok (.iconst 1, 1) := by decide +kernel
theorem d_Mo_hear_9 : decode (am_b mt_Mo_hear) 9 = .ok (.iaload, 1) := by decide +kernel
theorem d_Mo_hear_10 : decode (am_b mt_Mo_hear) 10 = .ok (.bipush 7, 2) := by decide +kernel
theorem d_Mo_hear_12 : decode (am_b mt_Mo_hear) 12 = .ok (.if_icmp .gt 18, 3) := by decide +kernel
theorem d_Mo_hear_15 : decode (am_b mt_Mo_hear) 15 = .ok (.aload_n 0, 1) := by decide +kernel
theorem d_Mo_hear_16 : decode (am_b mt_Mo_hear) 16 = .ok (.getfield 17, 3) := by decide +kernel
theorem d_Mo_hear_19 : decode (am_b mt_Mo_hear) 19 = .ok (.iconst 1, 1) := by decide +kernel
theorem d_Mo_hear_20 : decode (am_b mt_Mo_hear) 20 = .ok (.iaload, 1) := by decide +kernel
theorem d_Mo_hear_21 : decode (am_b mt_Mo_hear) 21 = .ok (.iconst 5, 1) := by decide +kernel
theorem d_Mo_hear_22 : decode (am_b mt_Mo_hear) 22 = .ok (.iadd, 1) := by decide +kernel
theorem d_Mo_hear_23 : decode (am_b mt_Mo_hear) 23 = .ok (.aload_n 0, 1) := by decide +kernel
theorem d_Mo_hear_24 : decode (am_b mt_Mo_hear) 24 = .ok (.getfield 156, 3) := by decide +kernel
theorem d_Mo_hear_27 : decode (am_b mt_Mo_hear) 27 = .ok (.if_icmp .eq 5, 3) := by decide +kernel
theorem d_Mo_hear_30 : decode (am_b mt_Mo_hear) 30 = .ok (.iconst 0, 1) := by decide +kernel
theorem d_Mo_hear_31 : decode (am_b mt_Mo_hear) 31 = .ok (.ireturn, 1) := by decide +kernel
theorem d_Mo_hear_32 : decode (am_b mt_Mo_hear) 32 = .ok (.aload_n 0, 1) := by decide +kernel
theorem d_Mo_hear_33 : decode (am_b mt_Mo_hear) 33 = .ok (.getfield 156, 3) := by decide +kernel
theorem d_Mo_hear_36 : decode (am_b mt_Mo_hear) 36 = .ok (.iconst 3, 1) := by decide +kernel
theorem d_Mo_hear_37 : decode (am_b mt_Mo_hear) 37 = .ok (.isub, 1) := by decide +kernel
theorem d_Mo_hear_38 : decode (am_b mt_Mo_hear) 38 = .ok (.istore_n 2, 1) := by decide +kernel
theorem d_Mo_hear_39 : decode (am_b mt_Mo_hear) 39 = .ok (.aload_n 0, 1) := by decide +kernel
theorem d_Mo_hear_40 : decode (am_b mt_Mo_hear) 40 = .ok (.iload_n 2, 1) := by decide +kernel
theorem d_Mo_hear_41 : decode (am_b mt_Mo_hear) 41 = .ok (.invokevirtual 162, 3) := by decide +kernel
theorem d_Mo_hear_44 : decode (am_b mt_Mo_hear) 44 = .ok (.aload_n 0, 1) := by decide +kernel
theorem d_Mo_hear_45 : decode (am_b mt_Mo_hear) 45 = .ok (.getfield 17, 3) := by decide +kernel
theorem d_Mo_hear_48 : decode (am_b mt_Mo_hear) 48 = .ok (.iload_n 2, 1) := by decide +kernel
theorem d_Mo_hear_49 : decode (am_b mt_Mo_hear) 49 = .ok (.iaload, 1) := by decide +kernel
theorem d_Mo_hear_50 : decode (am_b mt_Mo_hear) 50 = .ok (.ldc 169, 2) := by decide +kernel
theorem d_Mo_hear_52 : decode (am_b mt_Mo_hear) 52 = .ok (.imul, 1) := by decide +kernel
theorem d_Mo_hear_53 : decode (am_b mt_Mo_hear) 53 = .ok (.aload_n 0, 1) := by decide +kernel
theorem d_Mo_hear_54 : decode (am_b mt_Mo_hear) 54 = .ok (.getfield 17, 3) := by decide +kernel
theorem d_Mo_hear_57 : decode (am_b mt_Mo_hear) 57 = .ok (.iload_n 2, 1) := by decide +kernel
theorem d_Mo_hear_58 : decode (am_b mt_Mo_hear) 58 = .ok (.iconst 1, 1) := by decide +kernel
theorem d_Mo_hear_59 : decode (am_b mt_Mo_hear) 59 = .ok (.iadd, 1) := by decide +kernel
theorem d_Mo_hear_60 : decode (am_b mt_Mo_hear) 60 = .ok (.iaload, 1) := by decide +kernel
theorem d_Mo_hear_61 : decode (am_b mt_Mo_hear) 61 = .ok (.sipush 256, 3) := by decide +kernel
theorem d_Mo_hear_64 : decode (am_b mt_Mo_hear) 64 = .ok (.imul, 1) := by decide +kernel
theorem d_Mo_hear_65 : decode (am_b mt_Mo_hear) 65 = .ok (.iadd, 1) := by decide +kernel
theorem d_Mo_hear_66 : decode (am_b mt_Mo_hear) 66 = .ok (.aload_n 0, 1) := by decide +kernel
theorem d_Mo_hear_67 : decode (am_b mt_Mo_hear) 67 = .ok (.getfield 17, 3) := by decide +kernel
theorem d_Mo_hear_70 : decode (am_b mt_Mo_hear) 70 = .ok (.iload_n 2, 1) := by decide +kernel
theorem d_Mo_hear_71 : decode (am_b mt_Mo_hear) 71 = .ok (.iconst 2, 1) := by decide +kernel
theorem d_Mo_hear_72 : decode (am_b mt_Mo_hear) 72 = .ok (.iadd, 1) := by decide +kernel
theorem d_Mo_hear_73 : decode (am_b mt_Mo_hear) 73 = .ok (.iaload, 1) := by decide +kernel
theorem d_Mo_hear_74 : decode (am_b mt_Mo_hear) 74 = .ok (.iadd, 1) := by decide +kernel
theorem d_Mo_hear_75 : decode (am_b mt_Mo_hear) 75 = .ok (.if_icmp .eq 5, 3) := by decide +kernel
theorem d_Mo_hear_78 : decode (am_b mt_Mo_hear) 78 = .ok (.iconst 0, 1) := by decide +kernel
theorem d_Mo_hear_79 : decode (am_b mt_Mo_hear) 79 = .ok (.ireturn, 1) := by decide +kernel
theorem d_Mo_hear_80 : decode (am_b mt_Mo_hear) 80 = .ok (.aload_n 0, 1) := by decide +kernel
theorem d_Mo_hear_81 : decode (am_b mt_Mo_hear) 81 = .ok (.getfield 17, 3) := by decide +kernel
theorem d_Mo_hear_84 : decode (am_b mt_Mo_hear) 84 = .ok (.iconst 0, 1) := by decide +kernel
theorem d_Mo_hear_85 : decode (am_b mt_Mo_hear) 85 = .ok (.iaload, 1) := by decide +kernel
theorem d_Mo_hear_86 : decode (am_b mt_Mo_hear) 86 = .ok (.iconst 3, 1) := by decide +kernel
theorem d_Mo_hear_87 : decode (am_b mt_Mo_hear) 87 = .ok (.iand, 1) := by decide +kernel
theorem d_Mo_hear_88 : decode (am_b mt_Mo_hear) 88 = .ok (.istore_n 3, 1) := by decide +kernel
theorem d_Mo_hear_89 : decode (am_b mt_Mo_hear) 89 = .ok (.aload_n 0, 1) := by decide +kernel
theorem d_Mo_hear_90 : decode (am_b mt_Mo_hear) 90 = .ok (.getfield 17, 3) := by decide +kernel
theorem d_Mo_hear_93 : decode (am_b mt_Mo_hear) 93 = .ok (.iconst 0, 1) := by decide +kernel
theorem d_Mo_hear_94 : decode (am_b mt_Mo_hear) 94 = .ok (.iaload, 1) := by decide +kernel
theorem d_Mo_hear_95 : decode (am_b mt_Mo_hear) 95 = .ok (.iconst 2, 1) := by decide +kernel
theorem d_Mo_hear_96 : decode (am_b mt_Mo_hear) 96 = .ok (.ishr, 1) := by decide +kernel
theorem d_Mo_hear_97 : decode (am_b mt_Mo_hear) 97 = .ok (.iconst 1, 1) := by decide +kernel
theorem d_Mo_hear_98 : decode (am_b mt_Mo_hear) 98 = .ok (.iand, 1) := by decide +kernel
theorem d_Mo_hear_99 : decode (am_b mt_Mo_hear) 99 = .ok (.aload_n 0, 1) := by decide +kernel
theorem d_Mo_hear_100 : decode (am_b mt_Mo_hear) 100 = .ok (.getfield 21, 3) := by decide +kernel
theorem d_Mo_hear_103 : decode (am_b mt_Mo_hear) 103 = .ok (.iload_n 1, 1) := by decide +kernel
theorem d_Mo_hear_104 : decode (am_b mt_Mo_hear) 104 = .ok (.iaload, 1) := by decide +kernel
theorem d_Mo_hear_105 : decode (am_b mt_Mo_hear) 105 = .ok (.if_icmp .eq 24, 3) := by decide +kernel
theorem d_Mo_hear_108 : decode (am_b mt_Mo_hear) 108 = .ok (.aload_n 0, 1) := by decide +kernel
theorem d_Mo_hear_109 : decode (am_b mt_Mo_hear) 109 = .ok (.getfield 21, 3) := by decide +kernel
theorem d_Mo_hear_112 : decode (am_b mt_Mo_hear) 112 = .ok (.iload_n 1, 1) := by decide +kernel
theorem d_Mo_hear_113 : decode (am_b mt_Mo_hear) 113 = .ok (.iconst 1, 1) := by decide +kernel
theorem d_Mo_hear_114 : decode (am_b mt_Mo_hear) 114 = .ok (.aload_n 0, 1) := by decide +kernel
theorem d_Mo_hear_115 : decode (am_b mt_Mo_hear) 115 = .ok (.getfield 21, 3) := by decide +kernel
theorem d_Mo_hear_118 : decode (am_b mt_Mo_hear) 118 = .ok (.iload_n 1, 1) := by decide +kernel
theorem d_Mo_hear_119 : decode (am_b mt_Mo_hear) 119 = .ok (.iaload, 1) := by decide +kernel
theorem d_Mo_hear_120 : decode (am_b mt_Mo_hear) 120 = .ok (.isub, 1) := by decide +kernel
theorem d_Mo_hear_121 : decode (am_b mt_Mo_hear) 121 = .ok (.iastore, 1) := by decide +kernel
theorem d_Mo_hear_122 : decode (am_b mt_Mo_hear) 122 = .ok (.aload_n 0, 1) := by decide +kernel
theorem d_Mo_hear_123 : decode (am_b mt_Mo_hear) 123 = .ok (.getfield 30, 3) := by decide +kernel
theorem d_Mo_hear_126 : decode (am_b mt_Mo_hear) 126 = .ok (.iload_n 1, 1) := by decide +kernel
theorem d_Mo_hear_127 : decode (am_b mt_Mo_hear) 127 = .ok (.iconst 0, 1) := by decide +kernel
theorem d_Mo_hear_128 : decode (am_b mt_Mo_hear) 128 = .ok (.bastore, 1) := by decide +kernel
theorem d_Mo_hear_129 : decode (am_b mt_Mo_hear) 129 = .ok (.aload_n 0, 1) := by decide +kernel
theorem d_Mo_hear_130 : decode (am_b mt_Mo_hear) 130 = .ok (.getfield 17, 3) := by decide +kernel
theorem d_Mo_hear_133 : decode (am_b mt_Mo_hear) 133 = .ok (.iconst 0, 1) := by decide +kernel
theorem d_Mo_hear_134 : decode (am_b mt_Mo_hear) 134 = .ok (.iaload, 1) := by decide +kernel
theorem d_Mo_hear_135 : decode (am_b mt_Mo_hear) 135 = .ok (.iconst 3, 1) := by decide +kernel
theorem d_Mo_hear_136 : decode (am_b mt_Mo_hear) 136 = .ok (.ishr, 1) := by decide +kernel
theorem d_Mo_hear_137 : decode (am_b mt_Mo_hear) 137 = .ok (.iconst 1, 1) := by decide +kernel
theorem d_Mo_hear_138 : decode (am_b mt_Mo_hear) 138 = .ok (.iand, 1) := by decide +kernel
theorem d_Mo_hear_139 : decode (am_b mt_Mo_hear) 139 = .ok (.aload_n 0, 1) := by decide +kernel
theorem d_Mo_hear_140 : decode (am_b mt_Mo_hear) 140 = .ok (.getfield 24, 3) := by decide +kernel
theorem d_Mo_hear_143 : decode (am_b mt_Mo_hear) 143 = .ok (.iload_n 1, 1) := by decide +kernel
theorem d_Mo_hear_144 : decode (am_b mt_Mo_hear) 144 = .ok (.iaload, 1) := by decide +kernel
theorem d_Mo_hear_145 : decode (am_b mt_Mo_hear) 145 = .ok (.if_icmp .eq 5, 3) := by decide +kernel
theorem d_Mo_hear_148 : decode (am_b mt_Mo_hear) 148 = .ok (.iconst 1, 1) := by decide +kernel
theorem d_Mo_hear_149 : decode (am_b mt_Mo_hear) 149 = .ok (.ireturn, 1) := by decide +kernel
theorem d_Mo_hear_150 : decode (am_b mt_Mo_hear) 150 = .ok (.aload_n 0, 1) := by decide +kernel
theorem d_Mo_hear_151 : decode (am_b mt_Mo_hear) 151 = .ok (.getfield 24, 3) := by decide +kernel
theorem d_Mo_hear_154 : decode (am_b mt_Mo_hear) 154 = .ok (.iload_n 1, 1) := by decide +kernel
theorem d_Mo_hear_155 : decode (am_b mt_Mo_hear) 155 = .ok (.iconst 1, 1) := by decide +kernel
theorem d_Mo_hear_156 : decode (am_b mt_Mo_hear) 156 = .ok (.aload_n 0, 1) := by decide +kernel
theorem d_Mo_hear_157 : decode (am_b mt_Mo_hear) 157 = .ok (.getfield 24, 3) := by decide +kernel
theorem d_Mo_hear_160 : decode (am_b mt_Mo_hear) 160 = .ok (.iload_n 1, 1) := by decide +kernel
theorem d_Mo_hear_161 : decode (am_b mt_Mo_hear) 161 = .ok (.iaload, 1) := by decide +kernel
theorem d_Mo_hear_162 : decode (am_b mt_Mo_hear) 162 = .ok (.isub, 1) := by decide +kernel
theorem d_Mo_hear_163 : decode (am_b mt_Mo_hear) 163 = .ok (.iastore, 1) := by decide +kernel
theorem d_Mo_hear_164 : decode (am_b mt_Mo_hear) 164 = .ok (.aload_n 0, 1) := by decide +kernel
theorem d_Mo_hear_165 : decode (am_b mt_Mo_hear) 165 = .ok (.getfield 17, 3) := by decide +kernel
theorem d_Mo_hear_168 : decode (am_b mt_Mo_hear) 168 = .ok (.iconst 1, 1) := by decide +kernel
theorem d_Mo_hear_169 : decode (am_b mt_Mo_hear) 169 = .ok (.iaload, 1) := by decide +kernel
theorem d_Mo_hear_170 : decode (am_b mt_Mo_hear) 170 = .ok (.ifCond .le 9, 3) := by decide +kernel
theorem d_Mo_hear_173 : decode (am_b mt_Mo_hear) 173 = .ok (.aload_n 0, 1) := by decide +kernel
theorem d_Mo_hear_174 : decode (am_b mt_Mo_hear) 174 = .ok (.iload_n 1, 1) := by decide +kernel
theorem d_Mo_hear_175 : decode (am_b mt_Mo_hear) 175 = .ok (.iload_n 3, 1) := by decide +kernel
theorem d_Mo_hear_176 : decode (am_b mt_Mo_hear) 176 = .ok (.invokevirtual 170, 3) := by decide +kernel
theorem d_Mo_hear_179 : decode (am_b mt_Mo_hear) 179 = .ok (.iconst 1, 1) := by decide +kernel
theorem d_Mo_hear_180 : decode (am_b mt_Mo_hear) 180 = .ok (.ireturn, 1) := by decide +kernel
theorem d_Mo_collect_0 : decode (am_b mt_Mo_collect) 0 = .ok (.iload_n 2, 1) := by decide +kernel
theorem d_Mo_collect_1 : decode (am_b mt_Mo_collect) 1 = .ok (.iconst 2, 1) := by decide +kernel
theorem d_Mo_collect_2 : decode (am_b mt_Mo_collect) 2 = .ok (.if_icmp .ne 17, 3) := by decide +kernel
theorem d_Mo_collect_5 : decode (am_b mt_Mo_collect) 5 = .ok (.aload_n 0, 1) := by decide +kernel
theorem d_Mo_collect_6 : decode (am_b mt_Mo_collect) 6 = .ok (.getfield 60, 3) := by decide +kernel
theorem d_Mo_collect_9 : decode (am_b mt_Mo_collect) 9 = .ok (.iload_n 1, 1) := by decide +kernel
theorem d_Mo_collect_10 : decode (am_b mt_Mo_collect) 10 = .ok (.iconst 0, 1) := by decide +kernel
theorem d_Mo_collect_11 : decode (am_b mt_Mo_collect) 11 = .ok (.iastore, 1) := by decide +kernel
theorem d_Mo_collect_12 : decode (am_b mt_Mo_collect) 12 = .ok (.aload_n 0, 1) := by decide +kernel
theorem d_Mo_collect_13 : decode (am_b mt_Mo_collect) 13 = .ok (.getfield 63, 3) := by decide +kernel
theorem d_Mo_collect_16 : decode (am_b mt_Mo_collect) 16 = .ok (.iload_n 1, 1) := by decide +kernel
theorem d_Mo_collect_17 : decode (am_b mt_Mo_collect) 17 = .ok (.iconst 1, 1) := by decide +kernel
theorem d_Mo_collect_18 : decode (am_b mt_Mo_collect) 18 = .ok (.bastore, 1) := by decide +kernel
theorem d_Mo_collect_19 : decode (am_b mt_Mo_collect) 19 = .ok (.aload_n 0, 1) := by decide +kernel
theorem d_Mo_collect_20 : decode (am_b mt_Mo_collect) 20 = .ok (.getfield 63, 3) := by decide +kernel
theorem d_Mo_collect_23 : decode (am_b mt_Mo_collect) 23 = .ok (.iload_n 1, 1) := by decide +kernel
theorem d_Mo_collect_24 : decode (am_b mt_Mo_collect) 24 = .ok (.baload, 1) := by decide +kernel
theorem d_Mo_collect_25 : decode (am_b mt_Mo_collect) 25 = .ok (.ifCond .eq 12, 3) := by decide +kernel
theorem d_Mo_collect_28 : decode (am_b mt_Mo_collect) 28 = .ok (.iload_n 2, 1) := by decide +kernel
theorem d_Mo_collect_29 : decode (am_b mt_Mo_collect) 29 = .ok (.ifCond .eq 8, 3) := by decide +kernel
theorem d_Mo_collect_32 : decode (am_b mt_Mo_collect) 32 = .ok (.iload_n 2, 1) := by decide +kernel
theorem d_Mo_collect_33 : decode (am_b mt_Mo_collect) 33 = .ok (.iconst 3, 1) := by decide +kernel
theorem d_Mo_collect_34 : decode (am_b mt_Mo_collect) 34 = .ok (.if_icmp .ne 4, 3) := by decide +kernel
theorem d_Mo_collect_37 : decode (am_b mt_Mo_collect) 37 = .ok (.return_, 1) := by decide +kernel
theorem d_Mo_collect_38 : decode (am_b mt_Mo_collect) 38 = .ok (.iconst 0, 1) := by decide +kernel
theorem d_Mo_collect_39 : decode (am_b mt_Mo_collect) 39 = .ok (.istore_n 3, 1) := by decide +kernel
theorem d_Mo_collect_40 : decode (am_b mt_Mo_collect) 40 = .ok (.iload_n 3, 1) := by decide +kernel
theorem d_Mo_collect_41 : decode (am_b mt_Mo_collect) 41 = .ok (.aload_n 0, 1) := by decide +kernel
theorem d_Mo_collect_42 : decode (am_b mt_Mo_collect) 42 = .ok (.getfield 17, 3) := by decide +kernel
theorem d_Mo_collect_45 : decode (am_b mt_Mo_collect) 45 = .ok (.iconst 1, 1) := by decide +kernel
theorem d_Mo_collect_46 : decode (am_b mt_Mo_collect) 46 = .ok (.iaload, 1) := by decide +kernel
theorem d_Mo_collect_47 : decode (am_b mt_Mo_collect) 47 = .ok (.if_icmp .ge 43, 3) := by decide +kernel
theorem d_Mo_collect_50 : decode (am_b mt_Mo_collect) 50 = .ok (.aload_n 0, 1) := by decide +kernel
theorem d_Mo_collect_51 : decode (am_b mt_Mo_collect) 51 = .ok (.getfield 57, 3) := by decide +kernel
theorem d_Mo_collect_54 : decode (am_b mt_Mo_collect) 54 = .ok (.bipush 48, 2) := by decide +kernel
theorem d_Mo_collect_56 : decode (am_b mt_Mo_collect) 56 = .ok (.iload_n 1, 1) := by decide +kernel
theorem d_Mo_collect_57 : decode (am_b mt_Mo_collect) 57 = .ok (.imul, 1) := by decide +kernel
theorem d_Mo_collect_58 : decode (am_b mt_Mo_collect) 58 = .ok (.aload_n 0, 1) := by decide +kernel
theorem d_Mo_collect_59 : decode (am_b mt_Mo_collect) 59 = .ok (.getfield 60, 3) := by decide +kernel
theorem d_Mo_collect_62 : decode (am_b mt_Mo_collect) 62 = .ok (.iload_n 1, 1) := by decide +kernel
theorem d_Mo_collect_63 : decode (am_b mt_Mo_collect) 63 = .ok (.iaload, 1) := by decide +kernel
theorem d_Mo_collect_64 : decode (am_b mt_Mo_collect) 64 = .ok (.iadd, 1) := by decide +kernel
theorem d_Mo_collect_65 : decode (am_b mt_Mo_collect) 65 = .ok (.aload_n 0, 1) := by decide +kernel
theorem d_Mo_collect_66 : decode (am_b mt_Mo_collect) 66 = .ok (.getfield 17, 3) := by decide +kernel
theorem d_Mo_collect_69 : decode (am_b mt_Mo_collect) 69 = .ok (.iconst 2, 1) := by decide +kernel
theorem d_Mo_collect_70 : decode (am_b mt_Mo_collect) 70 = .ok (.iload_n 3, 1) := by decide +kernel
theorem d_Mo_collect_71 : decode (am_b mt_Mo_collect) 71 = .ok (.iadd, 1) := by decide +kernel
theorem d_Mo_collect_72 : decode (am_b mt_Mo_collect) 72 = .ok (.iaload, 1) := by decide +kernel
theorem d_Mo_collect_73 : decode (am_b mt_Mo_collect) 73 = .ok (.iastore, 1) := by decide +kernel
theorem d_Mo_collect_74 : decode (am_b mt_Mo_collect) 74 = .ok (.aload_n 0, 1) := by decide +kernel
theorem d_Mo_collect_75 : decode (am_b mt_Mo_collect) 75 = .ok (.getfield 60, 3) := by decide +kernel
theorem d_Mo_collect_78 : decode (am_b mt_Mo_collect) 78 = .ok (.iload_n 1, 1) := by decide +kernel
theorem d_Mo_collect_79 : decode (am_b mt_Mo_collect) 79 = .ok (.dup2, 1) := by decide +kernel
theorem d_Mo_collect_80 : decode (am_b mt_Mo_collect) 80 = .ok (.iaload, 1) := by decide +kernel
theorem d_Mo_collect_81 : decode (am_b mt_Mo_collect) 81 = .ok (.iconst 1, 1) := by decide +kernel
theorem d_Mo_collect_82 : decode (am_b mt_Mo_collect) 82 = .ok (.iadd, 1) := by decide +kernel
theorem d_Mo_collect_83 : decode (am_b mt_Mo_collect) 83 = .ok (.iastore, 1) := by decide +kernel
theorem d_Mo_collect_84 : decode (am_b mt_Mo_collect) 84 = .ok (.iinc 3 1, 3) := by decide +kernel
theorem d_Mo_collect_87 : decode (am_b mt_Mo_collect) 87 = .ok (.goto (-47), 3) := by decide +kernel
theorem d_Mo_collect_90 : decode (am_b mt_Mo_collect) 90 = .ok (.aload_n 0, 1) := by decide +kernel
theorem d_Mo_collect_91 : decode (am_b mt_Mo_collect) 91 = .ok (.getfield 60, 3) := by decide +kernel
theorem d_Mo_collect_94 : decode (am_b mt_Mo_collect) 94 = .ok (.iload_n 1, 1) := by decide +kernel
theorem d_Mo_collect_95 : decode (am_b mt_Mo_collect) 95 = .ok (.iaload, 1) := by decide +kernel
theorem d_Mo_collect_96 : decode (am_b mt_Mo_collect) 96 = .ok (.iconst 4, 1) := by decide +kernel
theorem d_Mo_collect_97 : decode (am_b mt_Mo_collect) 97 = .ok (.if_icmp .ge 4, 3) := by decide +kernel
theorem d_Mo_collect_100 : decode (am_b mt_Mo_collect) 100 = .ok (.return_, 1) := by decide +kernel
theorem d_Mo_collect_101 : decode (am_b mt_Mo_collect) 101 = .ok (.bipush 48, 2) := by decide +kernel
theorem d_Mo_collect_103 : decode (am_b mt_Mo_collect) 103 = .ok (.iload_n 1, 1) := by decide +kernel
theorem d_Mo_collect_104 : decode (am_b mt_Mo_collect) 104 = .ok (.imul, 1) := by decide +kernel
theorem d_Mo_collect_105 : decode (am_b mt_Mo_collect) 105 = .ok (.istore_n 3, 1) := by decide +kernel
theorem d_Mo_collect_106 : decode (am_b mt_Mo_collect) 106 = .ok (.aload_n 0, 1) := by decide +kernel
theorem d_Mo_collect_107 : decode (am_b mt_Mo_collect) 107 = .ok (.getfield 57, 3) := by decide +kernel
theorem d_Mo_collect_110 : decode (am_b mt_Mo_collect) 110 = .ok (.iload_n 3, 1) := by decide +kernel
theorem d_Mo_collect_111 : decode (am_b mt_Mo_collect) 111 = .ok (.iaload, 1) := by decide +kernel
theorem d_Mo_collect_112 : decode (am_b mt_Mo_collect) 112 = .ok (.istore 4, 2) := by decide +kernel
theorem d_Mo_collect_114 : decode (am_b mt_Mo_collect) 114 = .ok (.iload 4, 2) := by decide +kernel
theorem d_Mo_collect_116 : decode (am_b mt_Mo_collect) 116 = .ok (.bipush 20, 2) := by decide +kernel
theorem d_Mo_collect_118 : decode (am_b mt_Mo_collect) 118 = .ok (.if_icmp .gt 54, 3) := by decide +kernel
theorem d_Mo_collect_121 : decode (am_b mt_Mo_collect) 121 = .ok (.aload_n 0, 1) := by decide +kernel
theorem d_Mo_collect_122 : decode (am_b mt_Mo_collect) 122 = .ok (.getfield 57, 3) := by decide +kernel
theorem d_Mo_collect_125 : decode (am_b mt_Mo_collect) 125 = .ok (.iload_n 3, 1) := by decide +kernel
theorem d_Mo_collect_126 : decode (am_b mt_Mo_collect) 126 = .ok (.iconst 1, 1) := by decide +kernel
theorem d_Mo_collect_127 : decode (am_b mt_Mo_collect) 127 = .ok (.iadd, 1) := by decide +kernel
theorem d_Mo_collect_128 : decode (am_b mt_Mo_collect) 128 = .ok (.iaload, 1) := by decide +kernel
theorem d_Mo_collect_129 : decode (am_b mt_Mo_collect) 129 = .ok (.ifCond .ne 43, 3) := by decide +kernel
theorem d_Mo_collect_132 : decode (am_b mt_Mo_collect) 132 = .ok (.aload_n 0, 1) := by decide +kernel
theorem d_Mo_collect_133 : decode (am_b mt_Mo_collect) 133 = .ok (.getfield 57, 3) := by decide +kernel
theorem d_Mo_collect_136 : decode (am_b mt_Mo_collect) 136 = .ok (.iload_n 3, 1) := by decide +kernel
theorem d_Mo_collect_137 : decode (am_b mt_Mo_collect) 137 = .ok (.iconst 2, 1) := by decide +kernel
theorem d_Mo_collect_138 : decode (am_b mt_Mo_collect) 138 = .ok (.iadd, 1) := by decide +kernel
theorem d_Mo_collect_139 : decode (am_b mt_Mo_collect) 139 = .ok (.iaload, 1) := by decide +kernel
theorem d_Mo_collect_140 : decode (am_b mt_Mo_collect) 140 = .ok (.iconst 4, 1) := by decide +kernel
theorem d_Mo_collect_141 : decode (am_b mt_Mo_collect) 141 = .ok (.if_icmp .ne 31, 3) := by decide +kernel
theorem d_Mo_collect_144 : decode (am_b mt_Mo_collect) 144 = .ok (.aload_n 0, 1) := by decide +kernel
theorem d_Mo_collect_145 : decode (am_b mt_Mo_collect) 145 = .ok (.getfield 57, 3) := by decide +kernel
theorem d_Mo_collect_148 : decode (am_b mt_Mo_collect) 148 = .ok (.iload_n 3, 1) := by decide +kernel
theorem d_Mo_collect_149 : decode (am_b mt_Mo_collect) 149 = .ok (.iconst 3, 1) := by decide +kernel
theorem d_Mo_collect_150 : decode (am_b mt_Mo_collect) 150 = .ok (.iadd, 1) := by decide +kernel
theorem d_Mo_collect_151 : decode (am_b mt_Mo_collect) 151 = .ok (.iaload, 1) := by decide +kernel
theorem d_Mo_collect_152 : decode (am_b mt_Mo_collect) 152 = .ok (.ifCond .ne 20, 3) := by decide +kernel
theorem d_Mo_collect_155 : decode (am_b mt_Mo_collect) 155 = .ok (.aload_n 0, 1) := by decide +kernel
theorem d_Mo_collect_156 : decode (am_b mt_Mo_collect) 156 = .ok (.getfield 60, 3) := by decide +kernel
theorem d_Mo_collect_159 : decode (am_b mt_Mo_collect) 159 = .ok (.iload_n 1, 1) := by decide +kernel
theorem d_Mo_collect_160 : decode (am_b mt_Mo_collect) 160 = .ok (.iaload, 1) := by decide +kernel
theorem d_Mo_collect_161 : decode (am_b mt_Mo_collect) 161 = .ok (.iload 4, 2) := by decide +kernel
theorem d_Mo_collect_163 : decode (am_b mt_Mo_collect) 163 = .ok (.iconst 4, 1) := by decide +kernel
theorem d_Mo_collect_164 : decode (am_b mt_Mo_collect) 164 = .ok (.iadd, 1) := by decide +kernel
theorem d_Mo_collect_165 : decode (am_b mt_Mo_collect) 165 = .ok (.if_icmp .gt 7, 3) := by decide +kernel
theorem d_Mo_collect_168 : decode (am_b mt_Mo_collect) 168 = .ok (.iconst 1, 1) := by decide +kernel
theorem d_Mo_collect_169 : decode (am_b mt_Mo_collect) 169 = .ok (.goto 4, 3) := by decide +kernel
theorem d_Mo_collect_172 : decode (am_b mt_Mo_collect) 172 = .ok (.iconst 0, 1) := by decide +kernel
theorem d_Mo_collect_173 : decode (am_b mt_Mo_collect) 173 = .ok (.istore 5, 2) := by decide +kernel
theorem d_Mo_collect_175 : decode (am_b mt_Mo_collect) 175 = .ok (.iload 5, 2) := by decide +kernel
theorem d_Mo_collect_177 : decode (am_b mt_Mo_collect) 177 = .ok (.ifCond .eq 17, 3) := by decide +kernel
theorem d_Mo_collect_180 : decode (am_b mt_Mo_collect) 180 = .ok (.aload_n 0, 1) := by decide +kernel
theorem d_Mo_collect_181 : decode (am_b mt_Mo_collect) 181 = .ok (.getfield 60, 3) := by decide +kernel
theorem d_Mo_collect_184 : decode (am_b mt_Mo_collect) 184 = .ok (.iload_n 1, 1) := by decide +kernel
theorem d_Mo_collect_185 : decode (am_b mt_Mo_collect) 185 = .ok (.iaload, 1) := by decide +kernel
theorem d_Mo_collect_186 : decode (am_b mt_Mo_collect) 186 = .ok (.iload 4, 2) := by decide +kernel
theorem d_Mo_collect_188 : decode (am_b mt_Mo_collect) 188 = .ok (.iconst 4, 1) := by decide +kernel
theorem d_Mo_collect_189 : decode (am_b mt_Mo_collect) 189 = .ok (.iadd, 1) := by decide +kernel
theorem d_Mo_collect_190 : decode (am_b mt_Mo_collect) 190 = .ok (.if_icmp .ge 4, 3) := by decide +kernel
theorem d_Mo_collect_193 : decode (am_b mt_Mo_collect) 193 = .ok (.return_, 1) := by decide +kernel
theorem d_Mo_collect_194 : decode (am_b mt_Mo_collect) 194 = .ok (.aload_n 0, 1) := by decide +kernel
theorem d_Mo_collect_195 : decode (am_b mt_Mo_collect) 195 = .ok (.getfield 63, 3) := by decide +kernel
theorem d_Mo_collect_198 : decode (am_b mt_Mo_collect) 198 = .ok (.iload_n 1, 1) := by decide +kernel
theorem d_Mo_collect_199 : decode (am_b mt_Mo_collect) 199 = .ok (.iconst 0, 1) := by decide +kernel
theorem d_Mo_collect_200 : decode (am_b mt_Mo_collect) 200 = .ok (.bastore, 1) := by decide +kernel
theorem d_Mo_collect_201 : decode (am_b mt_Mo_collect) 201 = .ok (.iload 5, 2) := by decide +kernel
theorem d_Mo_collect_203 : decode (am_b mt_Mo_collect) 203 = .ok (.ifCond .ne 4, 3) := by decide +kernel
theorem d_Mo_collect_206 : decode (am_b mt_Mo_collect) 206 = .ok (.return_, 1) := by decide +kernel
theorem d_Mo_collect_207 : decode (am_b mt_Mo_collect) 207 = .ok (.aload_n 0, 1) := by decide +kernel
theorem d_Mo_collect_208 : decode (am_b mt_Mo_collect) 208 = .ok (.iload 4, 2) := by decide +kernel
theorem d_Mo_collect_210 : decode (am_b mt_Mo_collect) 210 = .ok (.putfield 174, 3) := by decide +kernel
theorem d_Mo_collect_213 : decode (am_b mt_Mo_collect) 213 = .ok (.iconst 0, 1) := by decide +kernel
theorem d_Mo_collect_214 : decode (am_b mt_Mo_collect) 214 = .ok (.istore 6, 2) := by decide +kernel
theorem d_Mo_collect_216 : decode (am_b mt_Mo_collect) 216 = .ok (.iload 6, 2) := by decide +kernel
theorem d_Mo_collect_218 : decode (am_b mt_Mo_collect) 218 = .ok (.iload 4, 2) := by decide +kernel
theorem d_Mo_collect_220 : decode (am_b mt_Mo_collect) 220 = .ok (.if_icmp .ge 27, 3) := by decide +kernel
theorem d_Mo_collect_223 : decode (am_b mt_Mo_collect) 223 = .ok (.aload_n 0, 1) := by decide +kernel
theorem d_Mo_collect_224 : decode (am_b mt_Mo_collect) 224 = .ok (.getfield 72, 3) := by decide +kernel
theorem d_Mo_collect_227 : decode (am_b mt_Mo_collect) 227 = .ok (.iload 6, 2) := by decide +kernel
theorem d_Mo_collect_229 : decode (am_b mt_Mo_collect) 229 = .ok (.aload_n 0, 1) := by decide +kernel
theorem d_Mo_collect_230 : decode (am_b mt_Mo_collect) 230 = .ok (.getfield 57, 3) := by decide +kernel
theorem d_Mo_collect_233 : decode (am_b mt_Mo_collect) 233 = .ok (.iload_n 3, 1) := by decide +kernel
theorem d_Mo_collect_234 : decode (am_b mt_Mo_collect) 234 = .ok (.iconst 4, 1) := by decide +kernel
theorem d_Mo_collect_235 : decode (am_b mt_Mo_collect) 235 = .ok (.iadd, 1) := by decide +kernel
theorem d_Mo_collect_236 : decode (am_b mt_Mo_collect) 236 = .ok (.iload 6, 2) := by decide +kernel
theorem d_Mo_collect_238 : decode (am_b mt_Mo_collect) 238 = .ok (.iadd, 1) := by decide +kernel
theorem d_Mo_collect_239 : decode (am_b mt_Mo_collect) 239 = .ok (.iaload, 1) := by decide +kernel
theorem d_Mo_collect_240 : decode (am_b mt_Mo_collect) 240 = .ok (.iastore, 1) := by decide +kernel
theorem d_Mo_collect_241 : decode (am_b mt_Mo_collect) 241 = .ok (.iinc 6 1, 3) := by decide +kernel
theorem d_Mo_collect_244 : decode (am_b mt_Mo_collect) 244 = .ok (.goto (-28), 3) := by decide +kernel
theorem d_Mo_collect_247 : decode (am_b mt_Mo_collect) 247 = .ok (.iload_n 1, 1) := by decide +kernel
theorem d_Mo_collect_248 : decode (am_b mt_Mo_collect) 248 = .ok (.ifCond .ne 10, 3) := by decide +kernel
theorem d_Mo_collect_251 : decode (am_b mt_Mo_collect) 251 = .ok (.aload_n 0, 1) := by decide +kernel
theorem d_Mo_collect_252 : decode (am_b mt_Mo_collect) 252 = .ok (.invokevirtual 177, 3) := by decide +kernel
theorem d_Mo_collect_255 : decode (am_b mt_Mo_collect) 255 = .ok (.goto 7, 3) := by decide +kernel
theorem d_Mo_collect_258 : decode (am_b mt_Mo_collect) 258 = .ok (.aload_n 0, 1) := by decide +kernel
theorem d_Mo_collect_259 : decode (am_b mt_Mo_collect) 259 = .ok (.invokevirtual 180, 3) := by decide +kernel
theorem d_Mo_collect_262 : decode (am_b mt_Mo_collect) 262 = .ok (.return_, 1) := by decide +kernel
theorem d_Mo_clientHandles_0 : decode (am_b mt_Mo_clientHandles) 0 = .ok (.aload_n 0, 1) := by decide +kernel
theorem d_Mo_clientHandles_1 : decode (am_b mt_Mo_clientHandles) 1 = .ok (.getfield 174, 3) := by decide +kernel
theorem d_Mo_clientHandles_4 : decode (am_b mt_Mo_clientHandles) 4 = .ok (.ifCond .eq 14, 3) := by decide +kernel
theorem d_Mo_clientHandles_7 : decode (am_b mt_Mo_clientHandles) 7 = .ok (.aload_n 0, 1) := by decide +kernel
theorem d_Mo_clientHandles_8 : decode (am_b mt_Mo_clientHandles) 8 = .ok (.getfield 72, 3) := by decide +kernel
theorem d_Mo_clientHandles_11 : decode (am_b mt_Mo_clientHandles) 11 = .ok (.iconst 0, 1) := by decide +kernel
theorem d_Mo_clientHandles_12 : decode (am_b mt_Mo_clientHandles) 12 = .ok (.iaload, 1) := by decide +kernel
theorem d_Mo_clientHandles_13 : decode (am_b mt_Mo_clientHandles) 13 = .ok (.iconst 2, 1) := by decide +kernel
theorem d_Mo_clientHandles_14 : decode (am_b mt_Mo_clientHandles) 14 = .ok (.irem, 1) := by decide +kernel
theorem d_Mo_clientHandles_15 : decode (am_b mt_Mo_clientHandles) 15 = .ok (.ifCond .ne 4, 3) := by decide +kernel
theorem d_Mo_clientHandles_18 : decode (am_b mt_Mo_clientHandles) 18 = .ok (.return_, 1) := by decide +kernel
theorem d_Mo_clientHandles_19 : decode (am_b mt_Mo_clientHandles) 19 = .ok (.aload_n 0, 1) := by decide +kernel
theorem d_Mo_clientHandles_20 : decode (am_b mt_Mo_clientHandles) 20 = .ok (.getfield 72, 3) := by decide +kernel
theorem d_Mo_clientHandles_23 : decode (am_b mt_Mo_clientHandles) 23 = .ok (.iconst 0, 1) := by decide +kernel
theorem d_Mo_clientHandles_24 : decode (am_b mt_Mo_clientHandles) 24 = .ok (.iaload, 1) := by decide +kernel
theorem d_Mo_clientHandles_25 : decode (am_b mt_Mo_clientHandles) 25 = .ok (.bipush 27, 2) := by decide +kernel
theorem d_Mo_clientHandles_27 : decode (am_b mt_Mo_clientHandles) 27 = .ok (.if_icmp .eq 14, 3) := by decide +kernel
theorem d_Mo_clientHandles_30 : decode (am_b mt_Mo_clientHandles) 30 = .ok (.aload_n 0, 1) := by decide +kernel
theorem d_Mo_clientHandles_31 : decode (am_b mt_Mo_clientHandles) 31 = .ok (.getfield 72, 3) := by decide +kernel
theorem d_Mo_clientHandles_34 : decode (am_b mt_Mo_clientHandles) 34 = .ok (.iconst 0, 1) := by decide +kernel
theorem d_Mo_clientHandles_35 : decode (am_b mt_Mo_clientHandles) 35 = .ok (.iaload, 1) := by decide +kernel
theorem d_Mo_clientHandles_36 : decode (am_b mt_Mo_clientHandles) 36 = .ok (.bipush 29, 2) := by decide +kernel
theorem d_Mo_clientHandles_38 : decode (am_b mt_Mo_clientHandles) 38 = .ok (.if_icmp .ne 99, 3) := by decide +kernel
theorem d_Mo_clientHandles_41 : decode (am_b mt_Mo_clientHandles) 41 = .ok (.aload_n 0, 1) := by decide +kernel
theorem d_Mo_clientHandles_42 : decode (am_b mt_Mo_clientHandles) 42 = .ok (.getfield 174, 3) := by decide +kernel
theorem d_Mo_clientHandles_45 : decode (am_b mt_Mo_clientHandles) 45 = .ok (.iconst 2, 1) := by decide +kernel
theorem d_Mo_clientHandles_46 : decode (am_b mt_Mo_clientHandles) 46 = .ok (.if_icmp .ge 4, 3) := by decide +kernel
theorem d_Mo_clientHandles_49 : decode (am_b mt_Mo_clientHandles) 49 = .ok (.return_, 1) := by decide +kernel
theorem d_Mo_clientHandles_50 : decode (am_b mt_Mo_clientHandles) 50 = .ok (.aload_n 0, 1) := by decide +kernel
theorem d_Mo_clientHandles_51 : decode (am_b mt_Mo_clientHandles) 51 = .ok (.getfield 232, 3) := by decide +kernel
theorem d_Mo_clientHandles_54 : decode (am_b mt_Mo_clientHandles) 54 = .ok (.iconst 4, 1) := by decide +kernel
theorem d_Mo_clientHandles_55 : decode (am_b mt_Mo_clientHandles) 55 = .ok (.irem, 1) := by decide +kernel
theorem d_Mo_clientHandles_56 : decode (am_b mt_Mo_clientHandles) 56 = .ok (.istore_n 1, 1) := by decide +kernel
theorem d_Mo_clientHandles_57 : decode (am_b mt_Mo_clientHandles) 57 = .ok (.aload_n 0, 1) := by decide +kernel
theorem d_Mo_clientHandles_58 : decode (am_b mt_Mo_clientHandles) 58 = .ok (.getfield 123, 3) := by decide +kernel
theorem d_Mo_clientHandles_61 : decode (am_b mt_Mo_clientHandles) 61 = .ok (.iload_n 1, 1) := by decide +kernel
theorem d_Mo_clientHandles_62 : decode (am_b mt_Mo_clientHandles) 62 = .ok (.aload_n 0, 1) := by decide +kernel
theorem d_Mo_clientHandles_63 : decode (am_b mt_Mo_clientHandles) 63 = .ok (.getfield 174, 3) := by decide +kernel
theorem d_Mo_clientHandles_66 : decode (am_b mt_Mo_clientHandles) 66 = .ok (.iconst 1, 1) := by decide +kernel
theorem d_Mo_clientHandles_67 : decode (am_b mt_Mo_clientHandles) 67 = .ok (.isub, 1) := by decide +kernel
theorem d_Mo_clientHandles_68 : decode (am_b mt_Mo_clientHandles) 68 = .ok (.iastore, 1) := by decide +kernel
theorem d_Mo_clientHandles_69 : decode (am_b mt_Mo_clientHandles) 69 = .ok (.iconst 1, 1) := by decide +kernel
theorem d_Mo_clientHandles_70 : decode (am_b mt_Mo_clientHandles) 70 = .ok (.istore_n 2, 1) := by decide +kernel
theorem d_Mo_clientHandles_71 : decode (am_b mt_Mo_clientHandles) 71 = .ok (.iload_n 2, 1) := by decide +kernel
theorem d_Mo_clientHandles_72 : decode (am_b mt_Mo_clientHandles) 72 = .ok (.aload_n 0, 1) := by decide +kernel
theorem d_Mo_clientHandles_73 : decode (am_b mt_Mo_clientHandles) 73 = .ok (.getfield 174, 3) := by decide +kernel
theorem d_Mo_clientHandles_76 : decode (am_b mt_Mo_clientHandles) 76 = .ok (.if_icmp .ge 28, 3) := by decide +kernel
theorem d_Mo_clientHandles_79 : decode (am_b mt_Mo_clientHandles) 79 = .ok (.aload_n 0, 1) := by decide +kernel
theorem d_Mo_clientHandles_80 : decode (am_b mt_Mo_clientHandles) 80 = .ok (.getfield 126, 3) := by decide +kernel
theorem d_Mo_clientHandles_83 : decode (am_b mt_Mo_clientHandles) 83 = .ok (.bipush 24, 2) := by decide +kernel
theorem d_Mo_clientHandles_85 : decode (am_b mt_Mo_clientHandles) 85 = .ok (.iload_n 1, 1) := by decide +kernel
theorem d_Mo_clientHandles_86 : decode (am_b mt_Mo_clientHandles) 86 = .ok (.imul, 1) := by decide +kernel
theorem d_Mo_clientHandles_87 : decode (am_b mt_Mo_clientHandles) 87 = .ok (.iload_n 2, 1) := by decide +kernel
theorem d_Mo_clientHandles_88 : decode (am_b mt_Mo_clientHandles) 88 = .ok (.iadd, 1) := by decide +kernel
theorem d_Mo_clientHandles_89 : decode (am_b mt_Mo_clientHandles) 89 = .ok (.iconst 1, 1) := by decide +kernel
theorem d_Mo_clientHandles_90 : decode (am_b mt_Mo_clientHandles) 90 = .ok (.isub, 1) := by decide +kernel
theorem d_Mo_clientHandles_91 : decode (am_b mt_Mo_clientHandles) 91 = .ok (.aload_n 0, 1) := by decide +kernel
theorem d_Mo_clientHandles_92 : decode (am_b mt_Mo_clientHandles) 92 = .ok (.getfield 72, 3) := by decide +kernel
theorem d_Mo_clientHandles_95 : decode (am_b mt_Mo_clientHandles) 95 = .ok (.iload_n 2, 1) := by decide +kernel
theorem d_Mo_clientHandles_96 : decode (am_b mt_Mo_clientHandles) 96 = .ok (.iaload, 1) := by decide +kernel
theorem d_Mo_clientHandles_97 : decode (am_b mt_Mo_clientHandles) 97 = .ok (.iastore, 1) := by decide +kernel
theorem d_Mo_clientHandles_98 : decode (am_b mt_Mo_clientHandles) 98 = .ok (.iinc 2 1, 3) := by decide +kernel
theorem d_Mo_clientHandles_101 : decode (am_b mt_Mo_clientHandles) 101 = .ok (.goto (-30), 3) := by decide +kernel
theorem d_Mo_clientHandles_104 : decode (am_b mt_Mo_clientHandles) 104 = .ok (.aload_n 0, 1) := by decide +kernel
theorem d_Mo_clientHandles_105 : decode (am_b mt_Mo_clientHandles) 105 = .ok (.dup, 1) := by decide +kernel
theorem d_Mo_clientHandles_106 : decode (am_b mt_Mo_clientHandles) 106 = .ok (.getfield 232, 3) := by decide +kernel
theorem d_Mo_clientHandles_109 : decode (am_b mt_Mo_clientHandles) 109 = .ok (.iconst 1, 1) := by decide +kernel
theorem d_Mo_clientHandles_110 : decode (am_b mt_Mo_clientHandles) 110 = .ok (.iadd, 1) := by decide +kernel
theorem d_Mo_clientHandles_111 : decode (am_b mt_Mo_clientHandles) 111 = .ok (.putfield 232, 3) := by decide +kernel
theorem d_Mo_clientHandles_114 : decode (am_b mt_Mo_clientHandles) 114 = .ok (.aload_n 0, 1) := by decide +kernel
theorem d_Mo_clientHandles_115 : decode (am_b mt_Mo_clientHandles) 115 = .ok (.getfield 72, 3) := by decide +kernel
theorem d_Mo_clientHandles_118 : decode (am_b mt_Mo_clientHandles) 118 = .ok (.iconst 0, 1) := by decide +kernel
theorem d_Mo_clientHandles_119 : decode (am_b mt_Mo_clientHandles) 119 = .ok (.iaload, 1) := by decide +kernel
theorem d_Mo_clientHandles_120 : decode (am_b mt_Mo_clientHandles) 120 = .ok (.bipush 29, 2) := by decide +kernel
theorem d_Mo_clientHandles_122 : decode (am_b mt_Mo_clientHandles) 122 = .ok (.if_icmp .ne 14, 3) := by decide +kernel
theorem d_Mo_clientHandles_125 : decode (am_b mt_Mo_clientHandles) 125 = .ok (.aload_n 0, 1) := by decide +kernel
theorem d_Mo_clientHandles_126 : decode (am_b mt_Mo_clientHandles) 126 = .ok (.bipush 30, 2) := by decide +kernel
theorem d_Mo_clientHandles_128 : decode (am_b mt_Mo_clientHandles) 128 = .ok (.invokevirtual 183, 3) := by decide +kernel
theorem d_Mo_clientHandles_131 : decode (am_b mt_Mo_clientHandles) 131 = .ok (.aload_n 0, 1) := by decide +kernel
theorem d_Mo_clientHandles_132 : decode (am_b mt_Mo_clientHandles) 132 = .ok (.iconst 0, 1) := by decide +kernel
theorem d_Mo_clientHandles_133 : decode (am_b mt_Mo_clientHandles) 133 = .ok (.invokevirtual 149, 3) := by decide +kernel
theorem d_Mo_clientHandles_136 : decode (am_b mt_Mo_clientHandles) 136 = .ok (.return_, 1) := by decide +kernel
theorem d_Mo_clientHandles_137 : decode (am_b mt_Mo_clientHandles) 137 = .ok (.aload_n 0, 1) := by decide +kernel
theorem d_Mo_clientHandles_138 : decode (am_b mt_Mo_clientHandles) 138 = .ok (.getfield 235, 3) := by decide +kernel
theorem d_Mo_clientHandles_141 : decode (am_b mt_Mo_clientHandles) 141 = .ok (.ifCond .le 14, 3) := by decide +kernel
theorem d_Mo_clientHandles_144 : decode (am_b mt_Mo_clientHandles) 144 = .ok (.aload_n 0, 1) := by decide +kernel
theorem d_Mo_clientHandles_145 : decode (am_b mt_Mo_clientHandles) 145 = .ok (.getfield 111, 3) := by decide +kernel
theorem d_Mo_clientHandles_148 : decode (am_b mt_Mo_clientHandles) 148 = .ok (.ifCond .ne 7, 3) := by decide +kernel
theorem d_Mo_clientHandles_151 : decode (am_b mt_Mo_clientHandles) 151 = .ok (.aload_n 0, 1) := by decide +kernel
theorem d_Mo_clientHandles_152 : decode (am_b mt_Mo_clientHandles) 152 = .ok (.invokevirtual 238, 3) := by decide +kernel
theorem d_Mo_clientHandles_155 : decode (am_b mt_Mo_clientHandles) 155 = .ok (.return_, 1) := by decide +kernel
theorem d_Mo_answered_0 : decode (am_b mt_Mo_answered) 0 = .ok (.aload_n 0, 1) := by decide +kernel
theorem d_Mo_answered_1 : decode (am_b mt_Mo_answered) 1 = .ok (.getfield 235, 3) := by decide +kernel
theorem d_Mo_answered_4 : decode (am_b mt_Mo_answered) 4 = .ok (.bipush 7, 2) := by decide +kernel
theorem d_Mo_answered_6 : decode (am_b mt_Mo_answered) 6 = .ok (.if_icmp .eq 23, 3) := by decide +kernel
theorem d_Mo_answered_9 : decode (am_b mt_Mo_answered) 9 = .ok (.aload_n 0, 1) := by decide +kernel
theorem d_Mo_answered_10 : decode (am_b mt_Mo_answered) 10 = .ok (.getfield 235, 3) := by decide +kernel
theorem d_Mo_answered_13 : decode (am_b mt_Mo_answered) 13 = .ok (.bipush 6, 2) := by decide +kernel
theorem d_Mo_answered_15 : decode (am_b mt_Mo_answered) 15 = .ok (.if_icmp .ne 10, 3) := by decide +kernel
theorem d_Mo_answered_18 : decode (am_b mt_Mo_answered) 18 = .ok (.aload_n 0, 1) := by decide +kernel
theorem d_Mo_answered_19 : decode (am_b mt_Mo_answered) 19 = .ok (.getfield 244, 3) := by decide +kernel
theorem d_Mo_answered_22 : decode (am_b mt_Mo_answered) 22 = .ok (.ifCond .ne 7, 3) := by decide +kernel
theorem d_Mo_answered_25 : decode (am_b mt_Mo_answered) 25 = .ok (.iconst 1, 1) := by decide +kernel
theorem d_Mo_answered_26 : decode (am_b mt_Mo_answered) 26 = .ok (.goto 4, 3) := by decide +kernel
theorem d_Mo_answered_29 : decode (am_b mt_Mo_answered) 29 = .ok (.iconst 0, 1) := by decide +kernel
theorem d_Mo_answered_30 : decode (am_b mt_Mo_answered) 30 = .ok (.istore_n 1, 1) := by decide +kernel
theorem d_Mo_answered_31 : decode (am_b mt_Mo_answered) 31 = .ok (.iload_n 1, 1) := by decide +kernel
theorem d_Mo_answered_32 : decode (am_b mt_Mo_answered) 32 = .ok (.ifCond .eq 76, 3) := by decide +kernel
theorem d_Mo_answered_35 : decode (am_b mt_Mo_answered) 35 = .ok (.aload_n 0, 1) := by decide +kernel
theorem d_Mo_answered_36 : decode (am_b mt_Mo_answered) 36 = .ok (.getfield 72, 3) := by decide +kernel
theorem d_Mo_answered_39 : decode (am_b mt_Mo_answered) 39 = .ok (.iconst 0, 1) := by decide +kernel
theorem d_Mo_answered_40 : decode (am_b mt_Mo_answered) 40 = .ok (.iaload, 1) := by decide +kernel
theorem d_Mo_answered_41 : decode (am_b mt_Mo_answered) 41 = .ok (.iconst 1, 1) := by decide +kernel
theorem d_Mo_answered_42 : decode (am_b mt_Mo_answered) 42 = .ok (.if_icmp .ne 66, 3) := by decide +kernel
theorem d_Mo_answered_45 : decode (am_b mt_Mo_answered) 45 = .ok (.aload_n 0, 1) := by decide +kernel
theorem d_Mo_answered_46 : decode (am_b mt_Mo_answered) 46 = .ok (.getfield 174, 3) := by decide +kernel
theorem d_Mo_answered_49 : decode (am_b mt_Mo_answered) 49 = .ok (.iconst 4, 1) := by decide +kernel
theorem d_Mo_answered_50 : decode (am_b mt_Mo_answered) 50 = .ok (.if_icmp .ne 58, 3) := by decide +kernel
theorem d_Mo_answered_53 : decode (am_b mt_Mo_answered) 53 = .ok (.aload_n 0, 1) := by decide +kernel
theorem d_Mo_answered_54 : decode (am_b mt_Mo_answered) 54 = .ok (.getfield 235, 3) := by decide +kernel
theorem d_Mo_answered_57 : decode (am_b mt_Mo_answered) 57 = .ok (.iconst 4, 1) := by decide +kernel
theorem d_Mo_answered_58 : decode (am_b mt_Mo_answered) 58 = .ok (.if_icmp .ne 18, 3) := by decide +kernel
theorem d_Mo_answered_61 : decode (am_b mt_Mo_answered) 61 = .ok (.aload_n 0, 1) := by decide +kernel
theorem d_Mo_answered_62 : decode (am_b mt_Mo_answered) 62 = .ok (.getfield 72, 3) := by decide +kernel
theorem d_Mo_answered_65 : decode (am_b mt_Mo_answered) 65 = .ok (.iconst 3, 1) := by decide +kernel
theorem d_Mo_answered_66 : decode (am_b mt_Mo_answered) 66 = .ok (.iaload, 1) := by decide +kernel
theorem d_Mo_answered_67 : decode (am_b mt_Mo_answered) 67 = .ok (.bipush 10, 2) := by decide +kernel
theorem d_Mo_answered_69 : decode (am_b mt_Mo_answered) 69 = .ok (.if_icmp .ne 7, 3) := by decide +kernel
theorem d_Mo_answered_72 : decode (am_b mt_Mo_answered) 72 = .ok (.iconst 1, 1) := by decide +kernel
theorem d_Mo_answered_73 : decode (am_b mt_Mo_answered) 73 = .ok (.goto 4, 3) := by decide +kernel
theorem d_Mo_answered_76 : decode (am_b mt_Mo_answered) 76 = .ok (.iconst 0, 1) := by decide +kernel
theorem d_Mo_answered_77 : decode (am_b mt_Mo_answered) 77 = .ok (.istore_n 2, 1) := by decide +kernel
theorem d_Mo_answered_78 : decode (am_b mt_Mo_answered) 78 = .ok (.aload_n 0, 1) := by decide +kernel
theorem d_Mo_answered_79 : decode (am_b mt_Mo_answered) 79 = .ok (.iload_n 2, 1) := by decide +kernel
theorem d_Mo_answered_80 : decode (am_b mt_Mo_answered) 80 = .ok (.ifCond .eq 7, 3) := by decide +kernel
theorem d_Mo_answered_83 : decode (am_b mt_Mo_answered) 83 = .ok (.iconst 1, 1) := by decide +kernel
theorem d_Mo_answered_84 : decode (am_b mt_Mo_answered) 84 = .ok (.goto 4, 3) := by decide +kernel
theorem d_Mo_answered_87 : decode (am_b mt_Mo_answered) 87 = .ok (.iconst 2, 1) := by decide +kernel
theorem d_Mo_answered_88 : decode (am_b mt_Mo_answered) 88 = .ok (.iload_n 2, 1) := by decide +kernel
theorem d_Mo_answered_89 : decode (am_b mt_Mo_answered) 89 = .ok (.ifCond .eq 7, 3) := by decide +kernel
theorem d_Mo_answered_92 : decode (am_b mt_Mo_answered) 92 = .ok (.iconst 0, 1) := by decide +kernel
theorem d_Mo_answered_93 : decode (am_b mt_Mo_answered) 93 = .ok (.goto 9, 3) := by decide +kernel
theorem d_Mo_answered_96 : decode (am_b mt_Mo_answered) 96 = .ok (.aload_n 0, 1) := by decide +kernel
theorem d_Mo_answered_97 : decode (am_b mt_Mo_answered) 97 = .ok (.getfield 72, 3) := by decide +kernel
theorem d_Mo_answered_100 : decode (am_b mt_Mo_answered) 100 = .ok (.iconst 3, 1) := by decide +kernel
theorem d_Mo_answered_101 : decode (am_b mt_Mo_answered) 101 = .ok (.iaload, 1) := by decide +kernel
theorem d_Mo_answered_102 : decode (am_b mt_Mo_answered) 102 = .ok (.invokevirtual 247, 3) := by decide +kernel
theorem d_Mo_answered_105 : decode (am_b mt_Mo_answered) 105 = .ok (.goto 170, 3) := by decide +kernel
theorem d_Mo_answered_108 : decode (am_b mt_Mo_answered) 108 = .ok (.iload_n 1, 1) := by decide +kernel
theorem d_Mo_answered_109 : decode (am_b mt_Mo_answered) 109 = .ok (.ifCond .eq 30, 3) := by decide +kernel
theorem d_Mo_answered_112 : decode (am_b mt_Mo_answered) 112 = .ok (.aload_n 0, 1) := by decide +kernel
theorem d_Mo_answered_113 : decode (am_b mt_Mo_answered) 113 = .ok (.getfield 72, 3) := by decide +kernel
theorem d_Mo_answered_116 : decode (am_b mt_Mo_answered) 116 = .ok (.iconst 0, 1) := by decide +kernel
theorem d_Mo_answered_117 : decode (am_b mt_Mo_answered) 117 = .ok (.iaload, 1) := by decide +kernel
theorem d_Mo_answered_118 : decode (am_b mt_Mo_answered) 118 = .ok (.aload_n 0, 1) := by decide +kernel
theorem d_Mo_answered_119 : decode (am_b mt_Mo_answered) 119 = .ok (.getfield 114, 3) := by decide +kernel
theorem d_Mo_answered_122 : decode (am_b mt_Mo_answered) 122 = .ok (.iconst 0, 1) := by decide +kernel
theorem d_Mo_answered_123 : decode (am_b mt_Mo_answered) 123 = .ok (.iaload, 1) := by decide +kernel
theorem d_Mo_answered_124 : decode (am_b mt_Mo_answered) 124 = .ok (.iconst 1, 1) := by decide +kernel
theorem d_Mo_answered_125 : decode (am_b mt_Mo_answered) 125 = .ok (.iadd, 1) := by decide +kernel
theorem d_Mo_answered_126 : decode (am_b mt_Mo_answered) 126 = .ok (.if_icmp .eq 13, 3) := by decide +kernel
theorem d_Mo_answered_129 : decode (am_b mt_Mo_answered) 129 = .ok (.aload_n 0, 1) := by decide +kernel
theorem d_Mo_answered_130 : decode (am_b mt_Mo_answered) 130 = .ok (.iconst 2, 1) := by decide +kernel
theorem d_Mo_answered_131 : decode (am_b mt_Mo_answered) 131 = .ok (.bipush 14, 2) := by decide +kernel
theorem d_Mo_answered_133 : decode (am_b mt_Mo_answered) 133 = .ok (.invokevirtual 247, 3) := by decide +kernel
theorem d_Mo_answered_136 : decode (am_b mt_Mo_answered) 136 = .ok (.goto 139, 3) := by decide +kernel
theorem d_Mo_answered_139 : decode (am_b mt_Mo_answered) 139 = .ok (.aload_n 0, 1) := by decide +kernel
theorem d_Mo_answered_140 : decode (am_b mt_Mo_answered) 140 = .ok (.getfield 235, 3) := by decide +kernel
theorem d_Mo_answered_143 : decode (am_b mt_Mo_answered) 143 = .ok (.iconst 1, 1) := by decide +kernel
theorem d_Mo_answered_144 : decode (am_b mt_Mo_answered) 144 = .ok (.if_icmp .ne 10, 3) := by decide +kernel
theorem d_Mo_answered_147 : decode (am_b mt_Mo_answered) 147 = .ok (.aload_n 0, 1) := by decide +kernel
theorem d_Mo_answered_148 : decode (am_b mt_Mo_answered) 148 = .ok (.invokevirtual 250, 3) := by decide +kernel
theorem d_Mo_answered_151 : decode (am_b mt_Mo_answered) 151 = .ok (.goto 124, 3) := by decide +kernel
theorem d_Mo_answered_154 : decode (am_b mt_Mo_answered) 154 = .ok (.aload_n 0, 1) := by decide +kernel
theorem d_Mo_answered_155 : decode (am_b mt_Mo_answered) 155 = .ok (.getfield 235, 3) := by decide +kernel
theorem d_Mo_answered_158 : decode (am_b mt_Mo_answered) 158 = .ok (.iconst 2, 1) := by decide +kernel
theorem d_Mo_answered_159 : decode (am_b mt_Mo_answered) 159 = .ok (.if_icmp .eq 11, 3) := by decide +kernel
theorem d_Mo_answered_162 : decode (am_b mt_Mo_answered) 162 = .ok (.aload_n 0, 1) := by decide +kernel
theorem d_Mo_answered_163 : decode (am_b mt_Mo_answered) 163 = .ok (.getfield 235, 3) := by decide +kernel
theorem d_Mo_answered_166 : decode (am_b mt_Mo_answered) 166 = .ok (.iconst 3, 1) := by decide +kernel
theorem d_Mo_answered_167 : decode (am_b mt_Mo_answered) 167 = .ok (.if_icmp .ne 10, 3) := by decide +kernel
theorem d_Mo_answered_170 : decode (am_b mt_Mo_answered) 170 = .ok (.aload_n 0, 1) := by decide +kernel
theorem d_Mo_answered_171 : decode (am_b mt_Mo_answered) 171 = .ok (.invokevirtual 253, 3) := by decide +kernel
theorem d_Mo_answered_174 : decode (am_b mt_Mo_answered) 174 = .ok (.goto 101, 3) := by decide +kernel
theorem d_Mo_answered_177 : decode (am_b mt_Mo_answered) 177 = .ok (.aload_n 0, 1) := by decide +kernel
theorem d_Mo_answered_178 : decode (am_b mt_Mo_answered) 178 = .ok (.getfield 235, 3) := by decide +kernel
theorem d_Mo_answered_181 : decode (am_b mt_Mo_answered) 181 = .ok (.iconst 4, 1) := by decide +kernel
theorem d_Mo_answered_182 : decode (am_b mt_Mo_answered) 182 = .ok (.if_icmp .ne 10, 3) := by decide +kernel
theorem d_Mo_answered_185 : decode (am_b mt_Mo_answered) 185 = .ok (.aload_n 0, 1) := by decide +kernel
theorem d_Mo_answered_186 : decode (am_b mt_Mo_answered) 186 = .ok (.invokevirtual 256, 3) := by decide +kernel
theorem d_Mo_answered_189 : decode (am_b mt_Mo_answered) 189 = .ok (.goto 86, 3) := by decide +kernel
theorem d_Mo_answered_192 : decode (am_b mt_Mo_answered) 192 = .ok (.aload_n 0, 1) := by decide +kernel
theorem d_Mo_answered_193 : decode (am_b mt_Mo_answered) 193 = .ok (.getfield 235, 3) := by decide +kernel
theorem d_Mo_answered_196 : decode (am_b mt_Mo_answered) 196 = .ok (.bipush 6, 2) := by decide +kernel
theorem d_Mo_answered_198 : decode (am_b mt_Mo_answered) 198 = .ok (.if_icmp .ne 10, 3) := by decide +kernel
theorem d_Mo_answered_201 : decode (am_b mt_Mo_answered) 201 = .ok (.aload_n 0, 1) := by decide +kernel
theorem d_Mo_answered_202 : decode (am_b mt_Mo_answered) 202 = .ok (.invokevirtual 259, 3) := by decide +kernel
theorem d_Mo_answered_205 : decode (am_b mt_Mo_answered) 205 = .ok (.goto 70, 3) := by decide +kernel
theorem d_Mo_answered_208 : decode (am_b mt_Mo_answered) 208 = .ok (.iconst 0, 1) := by decide +kernel
theorem d_Mo_answered_209 : decode (am_b mt_Mo_answered) 209 = .ok (.istore_n 2, 1) := by decide +kernel
theorem d_Mo_answered_210 : decode (am_b mt_Mo_answered) 210 = .ok (.iload_n 2, 1) := by decide +kernel
theorem d_Mo_answered_211 : decode (am_b mt_Mo_answered) 211 = .ok (.aload_n 0, 1) := by decide +kernel
theorem d_Mo_answered_212 : decode (am_b mt_Mo_answered) 212 = .ok (.getfield 174, 3) := by decide +kernel
theorem d_Mo_answered_215 : decode (am_b mt_Mo_answered) 215 = .ok (.if_icmp .ge 30, 3) := by decide +kernel
theorem d_Mo_answered_218 : decode (am_b mt_Mo_answered) 218 = .ok (.aload_n 0, 1) := by decide +kernel
theorem d_Mo_answered_219 : decode (am_b mt_Mo_answered) 219 = .ok (.getfield 235, 3) := by decide +kernel
theorem d_Mo_answered_222 : decode (am_b mt_Mo_answered) 222 = .ok (.bipush 7, 2) := by decide +kernel
theorem d_Mo_answered_224 : decode (am_b mt_Mo_answered) 224 = .ok (.if_icmp .ne 21, 3) := by decide +kernel
theorem d_Mo_answered_227 : decode (am_b mt_Mo_answered) 227 = .ok (.aload_n 0, 1) := by decide +kernel
theorem d_Mo_answered_228 : decode (am_b mt_Mo_answered) 228 = .ok (.getfield 117, 3) := by decide +kernel
theorem d_Mo_answered_231 : decode (am_b mt_Mo_answered) 231 = .ok (.iload_n 2, 1) := by decide +kernel
theorem d_Mo_answered_232 : decode (am_b mt_Mo_answered) 232 = .ok (.aload_n 0, 1) := by decide +kernel
theorem d_Mo_answered_233 : decode (am_b mt_Mo_answered) 233 = .ok (.getfield 72, 3) := by decide +kernel
theorem d_Mo_answered_236 : decode (am_b mt_Mo_answered) 236 = .ok (.iload_n 2, 1) := by decide +kernel
theorem d_Mo_answered_237 : decode (am_b mt_Mo_answered) 237 = .ok (.iaload, 1) := by decide +kernel
theorem d_Mo_answered_238 : decode (am_b mt_Mo_answered) 238 = .ok (.iastore, 1) := by decide +kernel
theorem d_Mo_answered_239 : decode (am_b mt_Mo_answered) 239 = .ok (.iinc 2 1, 3) := by decide +kernel
theorem d_Mo_answered_242 : decode (am_b mt_Mo_answered) 242 = .ok (.goto (-32), 3) := by decide +kernel
theorem d_Mo_answered_245 : decode (am_b mt_Mo_answered) 245 = .ok (.aload_n 0, 1) := by decide +kernel
theorem d_Mo_answered_246 : decode (am_b mt_Mo_answered) 246 = .ok (.aload_n 0, 1) := by decide +kernel
theorem d_Mo_answered_247 : decode (am_b mt_Mo_answered) 247 = .ok (.getfield 235, 3) := by decide +kernel
theorem d_Mo_answered_250 : decode (am_b mt_Mo_answered) 250 = .ok (.bipush 7, 2) := by decide +kernel
theorem d_Mo_answered_252 : decode (am_b mt_Mo_answered) 252 = .ok (.if_icmp .ne 10, 3) := by decide +kernel
theorem d_Mo_answered_255 : decode (am_b mt_Mo_answered) 255 = .ok (.aload_n 0, 1) := by decide +kernel
theorem d_Mo_answered_256 : decode (am_b mt_Mo_answered) 256 = .ok (.getfield 174, 3) := by decide +kernel
theorem d_Mo_answered_259 : decode (am_b mt_Mo_answered) 259 = .ok (.goto 7, 3) := by decide +kernel
theorem d_Mo_answered_262 : decode (am_b mt_Mo_answered) 262 = .ok (.aload_n 0, 1) := by decide +kernel
theorem d_Mo_answered_263 : decode (am_b mt_Mo_answered) 263 = .ok (.getfield 262, 3) := by decide +kernel
theorem d_Mo_answered_266 : decode (am_b mt_Mo_answered) 266 = .ok (.putfield 262, 3) := by decide +kernel
theorem d_Mo_answered_269 : decode (am_b mt_Mo_answered) 269 = .ok (.aload_n 0, 1) := by decide +kernel
theorem d_Mo_answered_270 : decode (am_b mt_Mo_answered) 270 = .ok (.iconst 1, 1) := by decide +kernel
theorem d_Mo_answered_271 : decode (am_b mt_Mo_answered) 271 = .ok (.iconst 0, 1) := by decide +kernel
theorem d_Mo_answered_272 : decode (am_b mt_Mo_answered) 272 = .ok (.invokevirtual 247, 3) := by decide +kernel
theorem d_Mo_answered_275 : decode (am_b mt_Mo_answered) 275 = .ok (.return_, 1) := by decide +kernel
theorem d_Mo_end_0 : decode (am_b mt_Mo_end) 0 = .ok (.aload_n 0, 1) := by decide +kernel
theorem d_Mo_end_1 : decode (am_b mt_Mo_end) 1 = .ok (.iload_n 1, 1) := by decide +kernel
theorem d_Mo_end_2 : decode (am_b mt_Mo_end) 2 = .ok (.putfield 111, 3) := by decide +kernel
theorem d_Mo_end_5 : decode (am_b mt_Mo_end) 5 = .ok (.aload_n 0, 1) := by decide +kernel
theorem d_Mo_end_6 : decode (am_b mt_Mo_end) 6 = .ok (.iload_n 2, 1) := by decide +kernel
theorem d_Mo_end_7 : decode (am_b mt_Mo_end) 7 = .ok (.putfield 241, 3) := by decide +kernel
theorem d_Mo_end_10 : decode (am_b mt_Mo_end) 10 = .ok (.return_, 1) := by decide +kernel
theorem d_Mo_limits_0 : decode (am_b mt_Mo_limits) 0 = .ok (.aload_n 0, 1) := by decide +kernel
theorem d_Mo_limits_1 : decode (am_b mt_Mo_limits) 1 = .ok (.getfield 174, 3) := by decide +kernel
theorem d_Mo_limits_4 : decode (am_b mt_Mo_limits) 4 = .ok (.iconst 2, 1) := by decide +kernel
theorem d_Mo_limits_5 : decode (am_b mt_Mo_limits) 5 = .ok (.if_icmp .ge 11, 3) := by decide +kernel
theorem d_Mo_limits_8 : decode (am_b mt_Mo_limits) 8 = .ok (.aload_n 0, 1) := by decide +kernel
theorem d_Mo_limits_9 : decode (am_b mt_Mo_limits) 9 = .ok (.iconst 2, 1) := by decide +kernel
theorem d_Mo_limits_10 : decode (am_b mt_Mo_limits) 10 = .ok (.bipush 14, 2) := by decide +kernel
theorem d_Mo_limits_12 : decode (am_b mt_Mo_limits) 12 = .ok (.invokevirtual 247, 3) := by decide +kernel
theorem d_Mo_limits_15 : decode (am_b mt_Mo_limits) 15 = .ok (.return_, 1) := by decide +kernel
theorem d_Mo_limits_16 : decode (am_b mt_Mo_limits) 16 = .ok (.aload_n 0, 1) := by decide +kernel
theorem d_Mo_limits_17 : decode (am_b mt_Mo_limits) 17 = .ok (.getfield 265, 3) := by decide +kernel
theorem d_Mo_limits_20 : decode (am_b mt_Mo_limits) 20 = .ok (.aload_n 0, 1) := by decide +kernel
theorem d_Mo_limits_21 : decode (am_b mt_Mo_limits) 21 = .ok (.getfield 72, 3) := by decide +kernel
theorem d_Mo_limits_24 : decode (am_b mt_Mo_limits) 24 = .ok (.iconst 1, 1) := by decide +kernel
theorem d_Mo_limits_25 : decode (am_b mt_Mo_limits) 25 = .ok (.iaload, 1) := by decide +kernel
theorem d_Mo_limits_26 : decode (am_b mt_Mo_limits) 26 = .ok (.if_icmp .ge 10, 3) := by decide +kernel
theorem d_Mo_limits_29 : decode (am_b mt_Mo_limits) 29 = .ok (.aload_n 0, 1) := by decide +kernel
theorem d_Mo_limits_30 : decode (am_b mt_Mo_limits) 30 = .ok (.getfield 265, 3) := by decide +kernel
theorem d_Mo_limits_33 : decode (am_b mt_Mo_limits) 33 = .ok (.goto 9, 3) := by decide +kernel
theorem d_Mo_limits_36 : decode (am_b mt_Mo_limits) 36 = .ok (.aload_n 0, 1) := by decide +kernel
theorem d_Mo_limits_37 : decode (am_b mt_Mo_limits) 37 = .ok (.getfield 72, 3) := by decide +kernel
theorem d_Mo_limits_40 : decode (am_b mt_Mo_limits) 40 = .ok (.iconst 1, 1) := by decide +kernel
theorem d_Mo_limits_41 : decode (am_b mt_Mo_limits) 41 = .ok (.iaload, 1) := by decide +kernel
theorem d_Mo_limits_42 : decode (am_b mt_Mo_limits) 42 = .ok (.istore_n 1, 1) := by decide +kernel
theorem d_Mo_limits_43 : decode (am_b mt_Mo_limits) 43 = .ok (.aload_n 0, 1) := by decide +kernel
theorem d_Mo_limits_44 : decode (am_b mt_Mo_limits) 44 = .ok (.iload_n 1, 1) := by decide +kernel
theorem d_Mo_limits_45 : decode (am_b mt_Mo_limits) 45 = .ok (.bipush 8, 2) := by decide +kernel
theorem d_Mo_limits_47 : decode (am_b mt_Mo_limits) 47 = .ok (.if_icmp .ge 8, 3) := by decide +kernel
theorem d_Mo_limits_50 : decode (am_b mt_Mo_limits) 50 = .ok (.bipush 8, 2) := by decide +kernel
theorem d_Mo_limits_52 : decode (am_b mt_Mo_limits) 52 = .ok (.goto 15, 3) := by decide +kernel
theorem d_Mo_limits_55 : decode (am_b mt_Mo_limits) 55 = .ok (.iload_n 1, 1) := by decide +kernel
theorem d_Mo_limits_56 : decode (am_b mt_Mo_limits) 56 = .ok (.bipush 20, 2) := by decide +kernel
theorem d_Mo_limits_58 : decode (am_b mt_Mo_limits) 58 = .ok (.if_icmp .le 8, 3) := by decide +kernel
theorem d_Mo_limits_61 : decode (am_b mt_Mo_limits) 61 = .ok (.bipush 20, 2) := by decide +kernel
theorem d_Mo_limits_63 : decode (am_b mt_Mo_limits) 63 = .ok (.goto 4, 3) := by decide +kernel
theorem d_Mo_limits_66 : decode (am_b mt_Mo_limits) 66 = .ok (.iload_n 1, 1) := by decide +kernel
theorem d_Mo_limits_67 : decode (am_b mt_Mo_limits) 67 = .ok (.putfield 108, 3) := by decide +kernel
theorem d_Mo_limits_70 : decode (am_b mt_Mo_limits) 70 = .ok (.aload_n 0, 1) := by decide +kernel
theorem d_Mo_limits_71 : decode (am_b mt_Mo_limits) 71 = .ok (.iconst 1, 1) := by decide +kernel
theorem d_Mo_limits_72 : decode (am_b mt_Mo_limits) 72 = .ok (.iconst 0, 1) := by decide +kernel
theorem d_Mo_limits_73 : decode (am_b mt_Mo_limits) 73 = .ok (.invokevirtual 247, 3) := by decide +kernel
theorem d_Mo_limits_76 : decode (am_b mt_Mo_limits) 76 = .ok (.return_, 1) := by decide +kernel
theorem d_Mo_read_0 : decode (am_b mt_Mo_read) 0 = .ok (.iconst 1, 1) := by decide +kernel
theorem d_Mo_read_1 : decode (am_b mt_Mo_read) 1 = .ok (.istore_n 1, 1) := by decide +kernel
theorem d_Mo_read_2 : decode (am_b mt_Mo_read) 2 = .ok (.iload_n 1, 1) := by decide +kernel
theorem d_Mo_read_3 : decode (am_b mt_Mo_read) 3 = .ok (.aload_n 0, 1) := by decide +kernel
theorem d_Mo_read_4 : decode (am_b mt_Mo_read) 4 = .ok (.getfield 174, 3) := by decide +kernel
theorem d_Mo_read_7 : decode (am_b mt_Mo_read) 7 = .ok (.if_icmp .ge 51, 3) := by decide +kernel
theorem d_Mo_read_10 : decode (am_b mt_Mo_read) 10 = .ok (.aload_n 0, 1) := by decide +kernel
theorem d_Mo_read_11 : decode (am_b mt_Mo_read) 11 = .ok (.getfield 235, 3) := by decide +kernel
theorem d_Mo_read_14 : decode (am_b mt_Mo_read) 14 = .ok (.iconst 2, 1) := by decide +kernel
theorem d_Mo_read_15 : decode (am_b mt_Mo_read) 15 = .ok (.if_icmp .eq 12, 3) := by decide +kernel
theorem d_Mo_read_18 : decode (am_b mt_Mo_read) 18 = .ok (.aload_n 0, 1) := by decide +kernel
theorem d_Mo_read_19 : decode (am_b mt_Mo_read) 19 = .ok (.getfield 262, 3) := by decide +kernel
theorem d_Mo_read_22 : decode (am_b mt_Mo_read) 22 = .ok (.bipush 16, 2) := by decide +kernel
theorem d_Mo_read_24 : decode (am_b mt_Mo_read) 24 = .ok (.if_icmp .ge 34, 3) := by decide +kernel
theorem d_Mo_read_27 : decode (am_b mt_Mo_read) 27 = .ok (.aload_n 0, 1) := by decide +kernel
theorem d_Mo_read_28 : decode (am_b mt_Mo_read) 28 = .ok (.getfield 117, 3) := by decide +kernel
theorem d_Mo_read_31 : decode (am_b mt_Mo_read) 31 = .ok (.aload_n 0, 1) := by decide +kernel
theorem d_Mo_read_32 : decode (am_b mt_Mo_read) 32 = .ok (.getfield 262, 3) := by decide +kernel
theorem d_Mo_read_35 : decode (am_b mt_Mo_read) 35 = .ok (.aload_n 0, 1) := by decide +kernel
theorem d_Mo_read_36 : decode (am_b mt_Mo_read) 36 = .ok (.getfield 72, 3) := by decide +kernel
theorem d_Mo_read_39 : decode (am_b mt_Mo_read) 39 = .ok (.iload_n 1, 1) := by decide +kernel
theorem d_Mo_read_40 : decode (am_b mt_Mo_read) 40 = .ok (.iaload, 1) := by decide +kernel
theorem d_Mo_read_41 : decode (am_b mt_Mo_read) 41 = .ok (.iastore, 1) := by decide +kernel
theorem d_Mo_read_42 : decode (am_b mt_Mo_read) 42 = .ok (.aload_n 0, 1) := by decide +kernel
theorem d_Mo_read_43 : decode (am_b mt_Mo_read) 43 = .ok (.dup, 1) := by decide +kernel
theorem d_Mo_read_44 : decode (am_b mt_Mo_read) 44 = .ok (.getfield 262, 3) := by decide +kernel
theorem d_Mo_read_47 : decode (am_b mt_Mo_read) 47 = .ok (.iconst 1, 1) := by decide +kernel
theorem d_Mo_read_48 : decode (am_b mt_Mo_read) 48 = .ok (.iadd, 1) := by decide +kernel
theorem d_Mo_read_49 : decode (am_b mt_Mo_read) 49 = .ok (.putfield 262, 3) := by decide +kernel
theorem d_Mo_read_52 : decode (am_b mt_Mo_read) 52 = .ok (.iinc 1 1, 3) := by decide +kernel
theorem d_Mo_read_55 : decode (am_b mt_Mo_read) 55 = .ok (.goto (-53), 3) := by decide +kernel
theorem d_Mo_read_58 : decode (am_b mt_Mo_read) 58 = .ok (.aload_n 0, 1) := by decide +kernel
theorem d_Mo_read_59 : decode (am_b mt_Mo_read) 59 = .ok (.getfield 235, 3) := by decide +kernel
theorem d_Mo_read_62 : decode (am_b mt_Mo_read) 62 = .ok (.iconst 2, 1) := by decide +kernel
theorem d_Mo_read_63 : decode (am_b mt_Mo_read) 63 = .ok (.if_icmp .eq 23, 3) := by decide +kernel
theorem d_Mo_read_66 : decode (am_b mt_Mo_read) 66 = .ok (.aload_n 0, 1) := by decide +kernel
theorem d_Mo_read_67 : decode (am_b mt_Mo_read) 67 = .ok (.getfield 174, 3) := by decide +kernel
theorem d_Mo_read_70 : decode (am_b mt_Mo_read) 70 = .ok (.aload_n 0, 1) := by decide +kernel
theorem d_Mo_read_71 : decode (am_b mt_Mo_read) 71 = .ok (.getfield 108, 3) := by decide +kernel
theorem d_Mo_read_74 : decode (am_b mt_Mo_read) 74 = .ok (.if_icmp .ne 12, 3) := by decide +kernel
theorem d_Mo_read_77 : decode (am_b mt_Mo_read) 77 = .ok (.aload_n 0, 1) := by decide +kernel
theorem d_Mo_read_78 : decode (am_b mt_Mo_read) 78 = .ok (.getfield 262, 3) := by decide +kernel
theorem d_Mo_read_81 : decode (am_b mt_Mo_read) 81 = .ok (.bipush 16, 2) := by decide +kernel
theorem d_Mo_read_83 : decode (am_b mt_Mo_read) 83 = .ok (.if_icmp .lt 10, 3) := by decide +kernel
theorem d_Mo_read_86 : decode (am_b mt_Mo_read) 86 = .ok (.aload_n 0, 1) := by decide +kernel
theorem d_Mo_read_87 : decode (am_b mt_Mo_read) 87 = .ok (.iconst 1, 1) := by decide +kernel
theorem d_Mo_read_88 : decode (am_b mt_Mo_read) 88 = .ok (.iconst 0, 1) := by decide +kernel
theorem d_Mo_read_89 : decode (am_b mt_Mo_read) 89 = .ok (.invokevirtual 247, 3) := by decide +kernel
theorem d_Mo_read_92 : decode (am_b mt_Mo_read) 92 = .ok (.return_, 1) := by decide +kernel
theorem d_Mo_read_93 : decode (am_b mt_Mo_read) 93 = .ok (.aload_n 0, 1) := by decide +kernel
theorem d_Mo_read_94 : decode (am_b mt_Mo_read) 94 = .ok (.bipush 12, 2) := by decide +kernel
theorem d_Mo_read_96 : decode (am_b mt_Mo_read) 96 = .ok (.invokevirtual 183, 3) := by decide +kernel
theorem d_Mo_read_99 : decode (am_b mt_Mo_read) 99 = .ok (.aload_n 0, 1) := by decide +kernel
theorem d_Mo_read_100 : decode (am_b mt_Mo_read) 100 = .ok (.aload_n 0, 1) := by decide +kernel
theorem d_Mo_read_101 : decode (am_b mt_Mo_read) 101 = .ok (.getfield 265, 3) := by decide +kernel
theorem d_Mo_read_104 : decode (am_b mt_Mo_read) 104 = .ok (.invokevirtual 186, 3) := by decide +kernel
theorem d_Mo_read_107 : decode (am_b mt_Mo_read) 107 = .ok (.aload_n 0, 1) := by decide +kernel
theorem d_Mo_read_108 : decode (am_b mt_Mo_read) 108 = .ok (.aload_n 0, 1) := by decide +kernel
theorem d_Mo_read_109 : decode (am_b mt_Mo_read) 109 = .ok (.getfield 262, 3) := by decide +kernel
theorem d_Mo_read_112 : decode (am_b mt_Mo_read) 112 = .ok (.invokevirtual 186, 3) := by decide +kernel
theorem d_Mo_read_115 : decode (am_b mt_Mo_read) 115 = .ok (.aload_n 0, 1) := by decide +kernel
theorem d_Mo_read_116 : decode (am_b mt_Mo_read) 116 = .ok (.invokevirtual 268, 3) := by decide +kernel
theorem d_Mo_read_119 : decode (am_b mt_Mo_read) 119 = .ok (.return_, 1) := by decide +kernel
theorem d_Mo_found_0 : decode (am_b mt_Mo_found) 0 = .ok (.aload_n 0, 1) := by decide +kernel
theorem d_Mo_found_1 : decode (am_b mt_Mo_found) 1 = .ok (.getfield 174, 3) := by decide +kernel
theorem d_Mo_found_4 : decode (am_b mt_Mo_found) 4 = .ok (.iconst 2, 1) := by decide +kernel
theorem d_Mo_found_5 : decode (am_b mt_Mo_found) 5 = .ok (.if_icmp .ge 11, 3) := by decide +kernel
theorem d_Mo_found_8 : decode (am_b mt_Mo_found) 8 = .ok (.aload_n 0, 1) := by decide +kernel
theorem d_Mo_found_9 : decode (am_b mt_Mo_found) 9 = .ok (.iconst 2, 1) := by decide +kernel
theorem d_Mo_found_10 : decode (am_b mt_Mo_found) 10 = .ok (.bipush 14, 2) := by decide +kernel
theorem d_Mo_found_12 : decode (am_b mt_Mo_found) 12 = .ok (.invokevirtual 247, 3) := by decide +kernel
theorem d_Mo_found_15 : decode (am_b mt_Mo_found) 15 = .ok (.return_, 1) := by decide +kernel
theorem d_Mo_found_16 : decode (am_b mt_Mo_found) 16 = .ok (.aload_n 0, 1) := by decide +kernel
theorem d_Mo_found_17 : decode (am_b mt_Mo_found) 17 = .ok (.getfield 117, 3) := by decide +kernel
theorem d_Mo_found_20 : decode (am_b mt_Mo_found) 20 = .ok (.aload_n 0, 1) := by decide +kernel
theorem d_Mo_found_21 : decode (am_b mt_Mo_found) 21 = .ok (.getfield 262, 3) := by decide +kernel
theorem d_Mo_found_24 : decode (am_b mt_Mo_found) 24 = .ok (.aload_n 0, 1) := by decide +kernel
theorem d_Mo_found_25 : decode (am_b mt_Mo_found) 25 = .ok (.getfield 72, 3) := by decide +kernel
theorem d_Mo_found_28 : decode (am_b mt_Mo_found) 28 = .ok (.iconst 1, 1) := by decide +kernel
theorem d_Mo_found_29 : decode (am_b mt_Mo_found) 29 = .ok (.iaload, 1) := by decide +kernel
theorem d_Mo_found_30 : decode (am_b mt_Mo_found) 30 = .ok (.iastore, 1) := by decide +kernel
theorem d_Mo_found_31 : decode (am_b mt_Mo_found) 31 = .ok (.aload_n 0, 1) := by decide +kernel
theorem d_Mo_found_32 : decode (am_b mt_Mo_found) 32 = .ok (.dup, 1) := by decide +kernel
theorem d_Mo_found_33 : decode (am_b mt_Mo_found) 33 = .ok (.getfield 262, 3) := by decide +kernel
theorem d_Mo_found_36 : decode (am_b mt_Mo_found) 36 = .ok (.iconst 1, 1) := by decide +kernel
theorem d_Mo_found_37 : decode (am_b mt_Mo_found) 37 = .ok (.iadd, 1) := by decide +kernel
theorem d_Mo_found_38 : decode (am_b mt_Mo_found) 38 = .ok (.putfield 262, 3) := by decide +kernel
theorem d_Mo_found_41 : decode (am_b mt_Mo_found) 41 = .ok (.aload_n 0, 1) := by decide +kernel
theorem d_Mo_found_42 : decode (am_b mt_Mo_found) 42 = .ok (.getfield 262, 3) := by decide +kernel
theorem d_Mo_found_45 : decode (am_b mt_Mo_found) 45 = .ok (.bipush 10, 2) := by decide +kernel
theorem d_Mo_found_47 : decode (am_b mt_Mo_found) 47 = .ok (.if_icmp .ne 10, 3) := by decide +kernel
theorem d_Mo_found_50 : decode (am_b mt_Mo_found) 50 = .ok (.aload_n 0, 1) := by decide +kernel
theorem d_Mo_found_51 : decode (am_b mt_Mo_found) 51 = .ok (.iconst 1, 1) := by decide +kernel
theorem d_Mo_found_52 : decode (am_b mt_Mo_found) 52 = .ok (.iconst 0, 1) := by decide +kernel
theorem d_Mo_found_53 : decode (am_b mt_Mo_found) 53 = .ok (.invokevirtual 247, 3) := by decide +kernel
theorem d_Mo_found_56 : decode (am_b mt_Mo_found) 56 = .ok (.return_, 1) := by decide +kernel
theorem d_Mo_found_57 : decode (am_b mt_Mo_found) 57 = .ok (.aload_n 0, 1) := by decide +kernel
theorem d_Mo_found_58 : decode (am_b mt_Mo_found) 58 = .ok (.bipush 16, 2) := by decide +kernel
theorem d_Mo_found_60 : decode (am_b mt_Mo_found) 60 = .ok (.invokevirtual 183, 3) := by decide +kernel
theorem d_Mo_found_63 : decode (am_b mt_Mo_found) 63 = .ok (.aload_n 0, 1) := by decide +kernel
theorem d_Mo_found_64 : decode (am_b mt_Mo_found) 64 = .ok (.aload_n 0, 1) := by decide +kernel
theorem d_Mo_found_65 : decode (am_b mt_Mo_found) 65 = .ok (.getfield 72, 3) := by decide +kernel
theorem d_Mo_found_68 : decode (am_b mt_Mo_found) 68 = .ok (.iconst 1, 1) := by decide +kernel
theorem d_Mo_found_69 : decode (am_b mt_Mo_found) 69 = .ok (.iaload, 1) := by decide +kernel
theorem d_Mo_found_70 : decode (am_b mt_Mo_found) 70 = .ok (.iconst 1, 1) := by decide +kernel
theorem d_Mo_found_71 : decode (am_b mt_Mo_found) 71 = .ok (.iadd, 1) := by decide +kernel
theorem d_Mo_found_72 : decode (am_b mt_Mo_found) 72 = .ok (.invokevirtual 186, 3) := by decide +kernel
theorem d_Mo_found_75 : decode (am_b mt_Mo_found) 75 = .ok (.aload_n 0, 1) := by decide +kernel
theorem d_Mo_found_76 : decode (am_b mt_Mo_found) 76 = .ok (.aload_n 0, 1) := by decide +kernel
theorem d_Mo_found_77 : decode (am_b mt_Mo_found) 77 = .ok (.getfield 265, 3) := by decide +kernel
theorem d_Mo_found_80 : decode (am_b mt_Mo_found) 80 = .ok (.invokevirtual 186, 3) := by decide +kernel
theorem d_Mo_found_83 : decode (am_b mt_Mo_found) 83 = .ok (.aload_n 0, 1) := by decide +kernel
theorem d_Mo_found_84 : decode (am_b mt_Mo_found) 84 = .ok (.invokevirtual 268, 3) := by decide +kernel
theorem d_Mo_found_87 : decode (am_b mt_Mo_found) 87 = .ok (.return_, 1) := by decide +kernel
theorem d_Mo_written_0 : decode (am_b mt_Mo_written) 0 = .ok (.aload_n 0, 1) := by decide +kernel
theorem d_Mo_written_1 : decode (am_b mt_Mo_written) 1 = .ok (.getfield 244, 3) := by decide +kernel
theorem d_Mo_written_4 : decode (am_b mt_Mo_written) 4 = .ok (.ifCond .ne 10, 3) := by decide +kernel
theorem d_Mo_written_7 : decode (am_b mt_Mo_written) 7 = .ok (.aload_n 0, 1) := by decide +kernel
theorem d_Mo_written_8 : decode (am_b mt_Mo_written) 8 = .ok (.getfield 277, 3) := by decide +kernel
theorem d_Mo_written_11 : decode (am_b mt_Mo_written) 11 = .ok (.ifCond .eq 33, 3) := by decide +kernel
theorem d_Mo_written_14 : decode (am_b mt_Mo_written) 14 = .ok (.aload_n 0, 1) := by decide +kernel
theorem d_Mo_written_15 : decode (am_b mt_Mo_written) 15 = .ok (.aload_n 0, 1) := by decide +kernel
theorem d_Mo_written_16 : decode (am_b mt_Mo_written) 16 = .ok (.getfield 244, 3) := by decide +kernel
theorem d_Mo_written_19 : decode (am_b mt_Mo_written) 19 = .ok (.ifCond .eq 7, 3) := by decide +kernel
theorem d_Mo_written_22 : decode (am_b mt_Mo_written) 22 = .ok (.iconst 2, 1) := by decide +kernel
theorem d_Mo_written_23 : decode (am_b mt_Mo_written) 23 = .ok (.goto 4, 3) := by decide +kernel
theorem d_Mo_written_26 : decode (am_b mt_Mo_written) 26 = .ok (.iconst 1, 1) := by decide +kernel
theorem d_Mo_written_27 : decode (am_b mt_Mo_written) 27 = .ok (.aload_n 0, 1) := by decide +kernel
theorem d_Mo_written_28 : decode (am_b mt_Mo_written) 28 = .ok (.getfield 244, 3) := by decide +kernel
theorem d_Mo_written_31 : decode (am_b mt_Mo_written) 31 = .ok (.ifCond .eq 8, 3) := by decide +kernel
theorem d_Mo_written_34 : decode (am_b mt_Mo_written) 34 = .ok (.bipush 14, 2) := by decide +kernel
theorem d_Mo_written_36 : decode (am_b mt_Mo_written) 36 = .ok (.goto 4, 3) := by decide +kernel
theorem d_Mo_written_39 : decode (am_b mt_Mo_written) 39 = .ok (.iconst 0, 1) := by decide +kernel
theorem d_Mo_written_40 : decode (am_b mt_Mo_written) 40 = .ok (.invokevirtual 247, 3) := by decide +kernel
theorem d_Mo_written_43 : decode (am_b mt_Mo_written) 43 = .ok (.return_, 1) := by decide +kernel
theorem d_Mo_written_44 : decode (am_b mt_Mo_written) 44 = .ok (.aload_n 0, 1) := by decide +kernel
theorem d_Mo_written_45 : decode (am_b mt_Mo_written) 45 = .ok (.getfield 174, 3) := by decide +kernel
theorem d_Mo_written_48 : decode (am_b mt_Mo_written) 48 = .ok (.aload_n 0, 1) := by decide +kernel
theorem d_Mo_written_49 : decode (am_b mt_Mo_written) 49 = .ok (.getfield 146, 3) := by decide +kernel
theorem d_Mo_written_52 : decode (am_b mt_Mo_written) 52 = .ok (.if_icmp .ne 7, 3) := by decide +kernel
theorem d_Mo_written_55 : decode (am_b mt_Mo_written) 55 = .ok (.iconst 1, 1) := by decide +kernel
theorem d_Mo_written_56 : decode (am_b mt_Mo_written) 56 = .ok (.goto 4, 3) := by decide +kernel
theorem d_Mo_written_59 : decode (am_b mt_Mo_written) 59 = .ok (.iconst 0, 1) := by decide +kernel
theorem d_Mo_written_60 : decode (am_b mt_Mo_written) 60 = .ok (.istore_n 1, 1) := by decide +kernel
theorem d_Mo_written_61 : decode (am_b mt_Mo_written) 61 = .ok (.iconst 1, 1) := by decide +kernel
theorem d_Mo_written_62 : decode (am_b mt_Mo_written) 62 = .ok (.istore_n 2, 1) := by decide +kernel
theorem d_Mo_written_63 : decode (am_b mt_Mo_written) 63 = .ok (.iload_n 2, 1) := by decide +kernel
theorem d_Mo_written_64 : decode (am_b mt_Mo_written) 64 = .ok (.aload_n 0, 1) := by decide +kernel
theorem d_Mo_written_65 : decode (am_b mt_Mo_written) 65 = .ok (.getfield 174, 3) := by decide +kernel
theorem d_Mo_written_68 : decode (am_b mt_Mo_written) 68 = .ok (.if_icmp .ge 34, 3) := by decide +kernel
theorem d_Mo_written_71 : decode (am_b mt_Mo_written) 71 = .ok (.iload_n 1, 1) := by decide +kernel
theorem d_Mo_written_72 : decode (am_b mt_Mo_written) 72 = .ok (.ifCond .eq 30, 3) := by decide +kernel
theorem d_Mo_written_75 : decode (am_b mt_Mo_written) 75 = .ok (.aload_n 0, 1) := by decide +kernel
theorem d_Mo_written_76 : decode (am_b mt_Mo_written) 76 = .ok (.getfield 72, 3) := by decide +kernel
theorem d_Mo_written_79 : decode (am_b mt_Mo_written) 79 = .ok (.iload_n 2, 1) := by decide +kernel
theorem d_Mo_written_80 : decode (am_b mt_Mo_written) 80 = .ok (.iaload, 1) := by decide +kernel
theorem d_Mo_written_81 : decode (am_b mt_Mo_written) 81 = .ok (.aload_n 0, 1) := by decide +kernel
theorem d_Mo_written_82 : decode (am_b mt_Mo_written) 82 = .ok (.getfield 114, 3) := by decide +kernel
theorem d_Mo_written_85 : decode (am_b mt_Mo_written) 85 = .ok (.iload_n 2, 1) := by decide +kernel
theorem d_Mo_written_86 : decode (am_b mt_Mo_written) 86 = .ok (.iaload, 1) := by decide +kernel
theorem d_Mo_written_87 : decode (am_b mt_Mo_written) 87 = .ok (.if_icmp .ne 7, 3) := by decide +kernel
theorem d_Mo_written_90 : decode (am_b mt_Mo_written) 90 = .ok (.iconst 1, 1) := by decide +kernel
theorem d_Mo_written_91 : decode (am_b mt_Mo_written) 91 = .ok (.goto 4, 3) := by decide +kernel
theorem d_Mo_written_94 : decode (am_b mt_Mo_written) 94 = .ok (.iconst 0, 1) := by decide +kernel
theorem d_Mo_written_95 : decode (am_b mt_Mo_written) 95 = .ok (.istore_n 1, 1) := by decide +kernel
theorem d_Mo_written_96 : decode (am_b mt_Mo_written) 96 = .ok (.iinc 2 1, 3) := by decide +kernel
theorem d_Mo_written_99 : decode (am_b mt_Mo_written) 99 = .ok (.goto (-36), 3) := by decide +kernel
theorem d_Mo_written_102 : decode (am_b mt_Mo_written) 102 = .ok (.aload_n 0, 1) := by decide +kernel
theorem d_Mo_written_103 : decode (am_b mt_Mo_written) 103 = .ok (.aload_n 0, 1) := by decide +kernel
theorem d_Mo_written_104 : decode (am_b mt_Mo_written) 104 = .ok (.getfield 271, 3) := by decide +kernel
theorem d_Mo_written_107 : decode (am_b mt_Mo_written) 107 = .ok (.aload_n 0, 1) := by decide +kernel
theorem d_Mo_written_108 : decode (am_b mt_Mo_written) 108 = .ok (.getfield 108, 3) := by decide +kernel
theorem d_Mo_written_111 : decode (am_b mt_Mo_written) 111 = .ok (.iadd, 1) := by decide +kernel
theorem d_Mo_written_112 : decode (am_b mt_Mo_written) 112 = .ok (.iconst 3, 1) := by decide +kernel
theorem d_Mo_written_113 : decode (am_b mt_Mo_written) 113 = .ok (.isub, 1) := by decide +kernel
theorem d_Mo_written_114 : decode (am_b mt_Mo_written) 114 = .ok (.putfield 271, 3) := by decide +kernel
theorem d_Mo_written_117 : decode (am_b mt_Mo_written) 117 = .ok (.iload_n 1, 1) := by decide +kernel
theorem d_Mo_written_118 : decode (am_b mt_Mo_written) 118 = .ok (.ifCond .eq 19, 3) := by decide +kernel
theorem d_Mo_written_121 : decode (am_b mt_Mo_written) 121 = .ok (.aload_n 0, 1) := by decide +kernel
theorem d_Mo_written_122 : decode (am_b mt_Mo_written) 122 = .ok (.getfield 271, 3) := by decide +kernel
theorem d_Mo_written_125 : decode (am_b mt_Mo_written) 125 = .ok (.aload_n 0, 1) := by decide +kernel
theorem d_Mo_written_126 : decode (am_b mt_Mo_written) 126 = .ok (.getfield 274, 3) := by decide +kernel
theorem d_Mo_written_129 : decode (am_b mt_Mo_written) 129 = .ok (.if_icmp .ge 8, 3) := by decide +kernel
theorem d_Mo_written_132 : decode (am_b mt_Mo_written) 132 = .ok (.aload_n 0, 1) := by decide +kernel
theorem d_Mo_written_133 : decode (am_b mt_Mo_written) 133 = .ok (.invokevirtual 280, 3) := by decide +kernel
theorem d_Mo_written_136 : decode (am_b mt_Mo_written) 136 = .ok (.return_, 1) := by decide +kernel
theorem d_Mo_written_137 : decode (am_b mt_Mo_written) 137 = .ok (.aload_n 0, 1) := by decide +kernel
theorem d_Mo_written_138 : decode (am_b mt_Mo_written) 138 = .ok (.iload_n 1, 1) := by decide +kernel
theorem d_Mo_written_139 : decode (am_b mt_Mo_written) 139 = .ok (.ifCond .ne 7, 3) := by decide +kernel
theorem d_Mo_written_142 : decode (am_b mt_Mo_written) 142 = .ok (.iconst 1, 1) := by decide +kernel
theorem d_Mo_written_143 : decode (am_b mt_Mo_written) 143 = .ok (.goto 4, 3) := by decide +kernel
theorem d_Mo_written_146 : decode (am_b mt_Mo_written) 146 = .ok (.iconst 0, 1) := by decide +kernel
theorem d_Mo_written_147 : decode (am_b mt_Mo_written) 147 = .ok (.putfield 244, 3) := by decide +kernel
theorem d_Mo_written_150 : decode (am_b mt_Mo_written) 150 = .ok (.aload_n 0, 1) := by decide +kernel
theorem d_Mo_written_151 : decode (am_b mt_Mo_written) 151 = .ok (.iload_n 1, 1) := by decide +kernel
theorem d_Mo_written_152 : decode (am_b mt_Mo_written) 152 = .ok (.putfield 277, 3) := by decide +kernel
theorem d_Mo_written_155 : decode (am_b mt_Mo_written) 155 = .ok (.aload_n 0, 1) := by decide +kernel
theorem d_Mo_written_156 : decode (am_b mt_Mo_written) 156 = .ok (.bipush 24, 2) := by decide +kernel
theorem d_Mo_written_158 : decode (am_b mt_Mo_written) 158 = .ok (.invokevirtual 183, 3) := by decide +kernel
theorem d_Mo_written_161 : decode (am_b mt_Mo_written) 161 = .ok (.aload_n 0, 1) := by decide +kernel
theorem d_Mo_written_162 : decode (am_b mt_Mo_written) 162 = .ok (.iload_n 1, 1) := by decide +kernel
theorem d_Mo_written_163 : decode (am_b mt_Mo_written) 163 = .ok (.ifCond .eq 7, 3) := by decide +kernel
theorem d_Mo_written_166 : decode (am_b mt_Mo_written) 166 = .ok (.iconst 1, 1) := by decide +kernel
theorem d_Mo_written_167 : decode (am_b mt_Mo_written) 167 = .ok (.goto 4, 3) := by decide +kernel
theorem d_Mo_written_170 : decode (am_b mt_Mo_written) 170 = .ok (.iconst 0, 1) := by decide +kernel
theorem d_Mo_written_171 : decode (am_b mt_Mo_written) 171 = .ok (.invokevirtual 186, 3) := by decide +kernel
theorem d_Mo_written_174 : decode (am_b mt_Mo_written) 174 = .ok (.aload_n 0, 1) := by decide +kernel
theorem d_Mo_written_175 : decode (am_b mt_Mo_written) 175 = .ok (.invokevirtual 268, 3) := by decide +kernel
theorem d_Mo_written_178 : decode (am_b mt_Mo_written) 178 = .ok (.return_, 1) := by decide +kernel
theorem d_Mo_serverHandles_0 : decode (am_b mt_Mo_serverHandles) 0 = .ok (.aload_n 0, 1) := by decide +kernel
theorem d_Mo_serverHandles_1 : decode (am_b mt_Mo_serverHandles) 1 = .ok (.getfield 174, 3) := by decide +kernel
theorem d_Mo_serverHandles_4 : decode (am_b mt_Mo_serverHandles) 4 = .ok (.ifCond .ne 4, 3) := by decide +kernel
theorem d_Mo_serverHandles_7 : decode (am_b mt_Mo_serverHandles) 7 = .ok (.return_, 1) := by decide +kernel
theorem d_Mo_serverHandles_8 : decode (am_b mt_Mo_serverHandles) 8 = .ok (.aload_n 0, 1) := by decide +kernel
theorem d_Mo_serverHandles_9 : decode (am_b mt_Mo_serverHandles) 9 = .ok (.getfield 72, 3) := by decide +kernel
theorem d_Mo_serverHandles_12 : decode (am_b mt_Mo_serverHandles) 12 = .ok (.iconst 0, 1) := by decide +kernel
theorem d_Mo_serverHandles_13 : decode (am_b mt_Mo_serverHandles) 13 = .ok (.iaload, 1) := by decide +kernel
theorem d_Mo_serverHandles_14 : decode (am_b mt_Mo_serverHandles) 14 = .ok (.istore_n 1, 1) := by decide +kernel
theorem d_Mo_serverHandles_15 : decode (am_b mt_Mo_serverHandles) 15 = .ok (.iload_n 1, 1) := by decide +kernel
theorem d_Mo_serverHandles_16 : decode (am_b mt_Mo_serverHandles) 16 = .ok (.bipush 30, 2) := by decide +kernel
theorem d_Mo_serverHandles_18 : decode (am_b mt_Mo_serverHandles) 18 = .ok (.if_icmp .ne 28, 3) := by decide +kernel
theorem d_Mo_serverHandles_21 : decode (am_b mt_Mo_serverHandles) 21 = .ok (.aload_n 0, 1) := by decide +kernel
theorem d_Mo_serverHandles_22 : decode (am_b mt_Mo_serverHandles) 22 = .ok (.aload_n 0, 1) := by decide +kernel
theorem d_Mo_serverHandles_23 : decode (am_b mt_Mo_serverHandles) 23 = .ok (.getfield 189, 3) := by decide +kernel
theorem d_Mo_serverHandles_26 : decode (am_b mt_Mo_serverHandles) 26 = .ok (.ifCond .eq 15, 3) := by decide +kernel
theorem d_Mo_serverHandles_29 : decode (am_b mt_Mo_serverHandles) 29 = .ok (.aload_n 0, 1) := by decide +kernel
theorem d_Mo_serverHandles_30 : decode (am_b mt_Mo_serverHandles) 30 = .ok (.getfield 174, 3) := by decide +kernel
theorem d_Mo_serverHandles_33 : decode (am_b mt_Mo_serverHandles) 33 = .ok (.iconst 1, 1) := by decide +kernel
theorem d_Mo_serverHandles_34 : decode (am_b mt_Mo_serverHandles) 34 = .ok (.if_icmp .le 7, 3) := by decide +kernel
theorem d_Mo_serverHandles_37 : decode (am_b mt_Mo_serverHandles) 37 = .ok (.iconst 1, 1) := by decide +kernel
theorem d_Mo_serverHandles_38 : decode (am_b mt_Mo_serverHandles) 38 = .ok (.goto 4, 3) := by decide +kernel
theorem d_Mo_serverHandles_41 : decode (am_b mt_Mo_serverHandles) 41 = .ok (.iconst 0, 1) := by decide +kernel
theorem d_Mo_serverHandles_42 : decode (am_b mt_Mo_serverHandles) 42 = .ok (.putfield 189, 3) := by decide +kernel
theorem d_Mo_serverHandles_45 : decode (am_b mt_Mo_serverHandles) 45 = .ok (.return_, 1) := by decide +kernel
theorem d_Mo_serverHandles_46 : decode (am_b mt_Mo_serverHandles) 46 = .ok (.iload_n 1, 1) := by decide +kernel
theorem d_Mo_serverHandles_47 : decode (am_b mt_Mo_serverHandles) 47 = .ok (.iconst 2, 1) := by decide +kernel
theorem d_Mo_serverHandles_48 : decode (am_b mt_Mo_serverHandles) 48 = .ok (.if_icmp .eq 49, 3) := by decide +kernel
theorem d_Mo_serverHandles_51 : decode (am_b mt_Mo_serverHandles) 51 = .ok (.iload_n 1, 1) := by decide +kernel
theorem d_Mo_serverHandles_52 : decode (am_b mt_Mo_serverHandles) 52 = .ok (.bipush 10, 2) := by decide +kernel
theorem d_Mo_serverHandles_54 : decode (am_b mt_Mo_serverHandles) 54 = .ok (.if_icmp .eq 43, 3) := by decide +kernel
theorem d_Mo_serverHandles_57 : decode (am_b mt_Mo_serverHandles) 57 = .ok (.iload_n 1, 1) := by decide +kernel
theorem d_Mo_serverHandles_58 : decode (am_b mt_Mo_serverHandles) 58 = .ok (.bipush 12, 2) := by decide +kernel
theorem d_Mo_serverHandles_60 : decode (am_b mt_Mo_serverHandles) 60 = .ok (.if_icmp .eq 37, 3) := by decide +kernel
theorem d_Mo_serverHandles_63 : decode (am_b mt_Mo_serverHandles) 63 = .ok (.iload_n 1, 1) := by decide +kernel
theorem d_Mo_serverHandles_64 : decode (am_b mt_Mo_serverHandles) 64 = .ok (.bipush 16, 2) := by decide +kernel
theorem d_Mo_serverHandles_66 : decode (am_b mt_Mo_serverHandles) 66 = .ok (.if_icmp .eq 31, 3) := by decide +kernel
theorem d_Mo_serverHandles_69 : decode (am_b mt_Mo_serverHandles) 69 = .ok (.iload_n 1, 1) := by decide +kernel
theorem d_Mo_serverHandles_70 : decode (am_b mt_Mo_serverHandles) 70 = .ok (.bipush 18, 2) := by decide +kernel
theorem d_Mo_serverHandles_72 : decode (am_b mt_Mo_serverHandles) 72 = .ok (.if_icmp .eq 25, 3) := by decide +kernel
theorem d_Mo_serverHandles_75 : decode (am_b mt_Mo_serverHandles) 75 = .ok (.iload_n 1, 1) := by decide +kernel
theorem d_Mo_serverHandles_76 : decode (am_b mt_Mo_serverHandles) 76 = .ok (.bipush 22, 2) := by decide +kernel
theorem d_Mo_serverHandles_78 : decode (am_b mt_Mo_serverHandles) 78 = .ok (.if_icmp .eq 19, 3) := by decide +kernel
theorem d_Mo_serverHandles_81 : decode (am_b mt_Mo_serverHandles) 81 = .ok (.iload_n 1, 1) := by decide +kernel
theorem d_Mo_serverHandles_82 : decode (am_b mt_Mo_serverHandles) 82 = .ok (.bipush 24, 2) := by decide +kernel
theorem d_Mo_serverHandles_84 : decode (am_b mt_Mo_serverHandles) 84 = .ok (.if_icmp .eq 13, 3) := by decide +kernel
theorem d_Mo_serverHandles_87 : decode (am_b mt_Mo_serverHandles) 87 = .ok (.aload_n 0, 1) := by decide +kernel
theorem d_Mo_serverHandles_88 : decode (am_b mt_Mo_serverHandles) 88 = .ok (.iconst 0, 1) := by decide +kernel
theorem d_Mo_serverHandles_89 : decode (am_b mt_Mo_serverHandles) 89 = .ok (.bipush 6, 2) := by decide +kernel
theorem d_Mo_serverHandles_91 : decode (am_b mt_Mo_serverHandles) 91 = .ok (.invokevirtual 193, 3) := by decide +kernel
theorem d_Mo_serverHandles_94 : decode (am_b mt_Mo_serverHandles) 94 = .ok (.goto 68, 3) := by decide +kernel
theorem d_Mo_serverHandles_97 : decode (am_b mt_Mo_serverHandles) 97 = .ok (.aload_n 0, 1) := by decide +kernel
theorem d_Mo_serverHandles_98 : decode (am_b mt_Mo_serverHandles) 98 = .ok (.invokevirtual 196, 3) := by decide +kernel
theorem d_Mo_serverHandles_101 : decode (am_b mt_Mo_serverHandles) 101 = .ok (.ifCond .ne 12, 3) := by decide +kernel
theorem d_Mo_serverHandles_104 : decode (am_b mt_Mo_serverHandles) 104 = .ok (.aload_n 0, 1) := by decide +kernel
theorem d_Mo_serverHandles_105 : decode (am_b mt_Mo_serverHandles) 105 = .ok (.iconst 0, 1) := by decide +kernel
theorem d_Mo_serverHandles_106 : decode (am_b mt_Mo_serverHandles) 106 = .ok (.iconst 4, 1) := by decide +kernel
theorem d_Mo_serverHandles_107 : decode (am_b mt_Mo_serverHandles) 107 = .ok (.invokevirtual 193, 3) := by decide +kernel
theorem d_Mo_serverHandles_110 : decode (am_b mt_Mo_serverHandles) 110 = .ok (.goto 52, 3) := by decide +kernel
theorem d_Mo_serverHandles_113 : decode (am_b mt_Mo_serverHandles) 113 = .ok (.iload_n 1, 1) := by decide +kernel
theorem d_Mo_serverHandles_114 : decode (am_b mt_Mo_serverHandles) 114 = .ok (.iconst 2, 1) := by decide +kernel
theorem d_Mo_serverHandles_115 : decode (am_b mt_Mo_serverHandles) 115 = .ok (.if_icmp .ne 10, 3) := by decide +kernel
theorem d_Mo_serverHandles_118 : decode (am_b mt_Mo_serverHandles) 118 = .ok (.aload_n 0, 1) := by decide +kernel
theorem d_Mo_serverHandles_119 : decode (am_b mt_Mo_serverHandles) 119 = .ok (.invokevirtual 200, 3) := by decide +kernel
theorem d_Mo_serverHandles_122 : decode (am_b mt_Mo_serverHandles) 122 = .ok (.goto 40, 3) := by decide +kernel
theorem d_Mo_serverHandles_125 : decode (am_b mt_Mo_serverHandles) 125 = .ok (.iload_n 1, 1) := by decide +kernel
theorem d_Mo_serverHandles_126 : decode (am_b mt_Mo_serverHandles) 126 = .ok (.bipush 16, 2) := by decide +kernel
theorem d_Mo_serverHandles_128 : decode (am_b mt_Mo_serverHandles) 128 = .ok (.if_icmp .ne 10, 3) := by decide +kernel
theorem d_Mo_serverHandles_131 : decode (am_b mt_Mo_serverHandles) 131 = .ok (.aload_n 0, 1) := by decide +kernel
theorem d_Mo_serverHandles_132 : decode (am_b mt_Mo_serverHandles) 132 = .ok (.invokevirtual 203, 3) := by decide +kernel
theorem d_Mo_serverHandles_135 : decode (am_b mt_Mo_serverHandles) 135 = .ok (.goto 27, 3) := by decide +kernel
theorem d_Mo_serverHandles_138 : decode (am_b mt_Mo_serverHandles) 138 = .ok (.iload_n 1, 1) := by decide +kernel
theorem d_Mo_serverHandles_139 : decode (am_b mt_Mo_serverHandles) 139 = .ok (.bipush 24, 2) := by decide +kernel
theorem d_Mo_serverHandles_141 : decode (am_b mt_Mo_serverHandles) 141 = .ok (.if_icmp .ne 10, 3) := by decide +kernel
theorem d_Mo_serverHandles_144 : decode (am_b mt_Mo_serverHandles) 144 = .ok (.aload_n 0, 1) := by decide +kernel
theorem d_Mo_serverHandles_145 : decode (am_b mt_Mo_serverHandles) 145 = .ok (.invokevirtual 206, 3) := by decide +kernel
theorem d_Mo_serverHandles_148 : decode (am_b mt_Mo_serverHandles) 148 = .ok (.goto 14, 3) := by decide +kernel
theorem d_Mo_serverHandles_151 : decode (am_b mt_Mo_serverHandles) 151 = .ok (.aload_n 0, 1) := by decide +kernel
theorem d_Mo_serverHandles_152 : decode (am_b mt_Mo_serverHandles) 152 = .ok (.iload_n 1, 1) := by decide +kernel
theorem d_Mo_serverHandles_153 : decode (am_b mt_Mo_serverHandles) 153 = .ok (.aload_n 0, 1) := by decide +kernel
theorem d_Mo_serverHandles_154 : decode (am_b mt_Mo_serverHandles) 154 = .ok (.getfield 72, 3) := by decide +kernel
theorem d_Mo_serverHandles_157 : decode (am_b mt_Mo_serverHandles) 157 = .ok (.iconst 1, 1) := by decide +kernel
theorem d_Mo_serverHandles_158 : decode (am_b mt_Mo_serverHandles) 158 = .ok (.iaload, 1) := by decide +kernel
theorem d_Mo_serverHandles_159 : decode (am_b mt_Mo_serverHandles) 159 = .ok (.invokevirtual 209, 3) := by decide +kernel
theorem d_Mo_serverHandles_162 : decode (am_b mt_Mo_serverHandles) 162 = .ok (.return_, 1) := by decide +kernel
theorem d_Mo_refuse_0 : decode (am_b mt_Mo_refuse) 0 = .ok (.aload_n 0, 1) := by decide +kernel
theorem d_Mo_refuse_1 : decode (am_b mt_Mo_refuse) 1 = .ok (.getfield 72, 3) := by decide +kernel
theorem d_Mo_refuse_4 : decode (am_b mt_Mo_refuse) 4 = .ok (.iconst 0, 1) := by decide +kernel
theorem d_Mo_refuse_5 : decode (am_b mt_Mo_refuse) 5 = .ok (.iaload, 1) := by decide +kernel
theorem d_Mo_refuse_6 : decode (am_b mt_Mo_refuse) 6 = .ok (.istore_n 3, 1) := by decide +kernel
theorem d_Mo_refuse_7 : decode (am_b mt_Mo_refuse) 7 = .ok (.aload_n 0, 1) := by decide +kernel
theorem d_Mo_refuse_8 : decode (am_b mt_Mo_refuse) 8 = .ok (.iconst 1, 1) := by decide +kernel
theorem d_Mo_refuse_9 : decode (am_b mt_Mo_refuse) 9 = .ok (.invokevirtual 183, 3) := by decide +kernel
theorem d_Mo_refuse_12 : decode (am_b mt_Mo_refuse) 12 = .ok (.aload_n 0, 1) := by decide +kernel
theorem d_Mo_refuse_13 : decode (am_b mt_Mo_refuse) 13 = .ok (.iload_n 3, 1) := by decide +kernel
theorem d_Mo_refuse_14 : decode (am_b mt_Mo_refuse) 14 = .ok (.invokevirtual 186, 3) := by decide +kernel
theorem d_Mo_refuse_17 : decode (am_b mt_Mo_refuse) 17 = .ok (.aload_n 0, 1) := by decide +kernel
theorem d_Mo_refuse_18 : decode (am_b mt_Mo_refuse) 18 = .ok (.iload_n 1, 1) := by decide +kernel
theorem d_Mo_refuse_19 : decode (am_b mt_Mo_refuse) 19 = .ok (.invokevirtual 186, 3) := by decide +kernel
theorem d_Mo_refuse_22 : decode (am_b mt_Mo_refuse) 22 = .ok (.aload_n 0, 1) := by decide +kernel
theorem d_Mo_refuse_23 : decode (am_b mt_Mo_refuse) 23 = .ok (.iload_n 2, 1) := by decide +kernel
theorem d_Mo_refuse_24 : decode (am_b mt_Mo_refuse) 24 = .ok (.invokevirtual 186, 3) := by decide +kernel
theorem d_Mo_refuse_27 : decode (am_b mt_Mo_refuse) 27 = .ok (.aload_n 0, 1) := by decide +kernel
theorem d_Mo_refuse_28 : decode (am_b mt_Mo_refuse) 28 = .ok (.iconst 1, 1) := by decide +kernel
theorem d_Mo_refuse_29 : decode (am_b mt_Mo_refuse) 29 = .ok (.invokevirtual 149, 3) := by decide +kernel
theorem d_Mo_refuse_32 : decode (am_b mt_Mo_refuse) 32 = .ok (.return_, 1) := by decide +kernel
theorem d_Mo_sized_0 : decode (am_b mt_Mo_sized) 0 = .ok (.aload_n 0, 1) := by decide +kernel
theorem d_Mo_sized_1 : decode (am_b mt_Mo_sized) 1 = .ok (.getfield 72, 3) := by decide +kernel
theorem d_Mo_sized_4 : decode (am_b mt_Mo_sized) 4 = .ok (.iconst 0, 1) := by decide +kernel
theorem d_Mo_sized_5 : decode (am_b mt_Mo_sized) 5 = .ok (.iaload, 1) := by decide +kernel
theorem d_Mo_sized_6 : decode (am_b mt_Mo_sized) 6 = .ok (.istore_n 1, 1) := by decide +kernel
theorem d_Mo_sized_7 : decode (am_b mt_Mo_sized) 7 = .ok (.iload_n 1, 1) := by decide +kernel
theorem d_Mo_sized_8 : decode (am_b mt_Mo_sized) 8 = .ok (.iconst 2, 1) := by decide +kernel
theorem d_Mo_sized_9 : decode (am_b mt_Mo_sized) 9 = .ok (.if_icmp .eq 9, 3) := by decide +kernel
theorem d_Mo_sized_12 : decode (am_b mt_Mo_sized) 12 = .ok (.iload_n 1, 1) := by decide +kernel
theorem d_Mo_sized_13 : decode (am_b mt_Mo_sized) 13 = .ok (.bipush 10, 2) := by decide +kernel
theorem d_Mo_sized_15 : decode (am_b mt_Mo_sized) 15 = .ok (.if_icmp .ne 17, 3) := by decide +kernel
theorem d_Mo_sized_18 : decode (am_b mt_Mo_sized) 18 = .ok (.aload_n 0, 1) := by decide +kernel
theorem d_Mo_sized_19 : decode (am_b mt_Mo_sized) 19 = .ok (.getfield 174, 3) := by decide +kernel
theorem d_Mo_sized_22 : decode (am_b mt_Mo_sized) 22 = .ok (.iconst 2, 1) := by decide +kernel
theorem d_Mo_sized_23 : decode (am_b mt_Mo_sized) 23 = .ok (.if_icmp .ne 7, 3) := by decide +kernel
theorem d_Mo_sized_26 : decode (am_b mt_Mo_sized) 26 = .ok (.iconst 1, 1) := by decide +kernel
theorem d_Mo_sized_27 : decode (am_b mt_Mo_sized) 27 = .ok (.goto 4, 3) := by decide +kernel
theorem d_Mo_sized_30 : decode (am_b mt_Mo_sized) 30 = .ok (.iconst 0, 1) := by decide +kernel
theorem d_Mo_sized_31 : decode (am_b mt_Mo_sized) 31 = .ok (.ireturn, 1) := by decide +kernel
theorem d_Mo_sized_32 : decode (am_b mt_Mo_sized) 32 = .ok (.iload_n 1, 1) := by decide +kernel
theorem d_Mo_sized_33 : decode (am_b mt_Mo_sized) 33 = .ok (.bipush 12, 2) := by decide +kernel
theorem d_Mo_sized_35 : decode (am_b mt_Mo_sized) 35 = .ok (.if_icmp .eq 9, 3) := by decide +kernel
theorem d_Mo_sized_38 : decode (am_b mt_Mo_sized) 38 = .ok (.iload_n 1, 1) := by decide +kernel
theorem d_Mo_sized_39 : decode (am_b mt_Mo_sized) 39 = .ok (.bipush 16, 2) := by decide +kernel
theorem d_Mo_sized_41 : decode (am_b mt_Mo_sized) 41 = .ok (.if_icmp .ne 17, 3) := by decide +kernel
theorem d_Mo_sized_44 : decode (am_b mt_Mo_sized) 44 = .ok (.aload_n 0, 1) := by decide +kernel
theorem d_Mo_sized_45 : decode (am_b mt_Mo_sized) 45 = .ok (.getfield 174, 3) := by decide +kernel
theorem d_Mo_sized_48 : decode (am_b mt_Mo_sized) 48 = .ok (.iconst 3, 1) := by decide +kernel
theorem d_Mo_sized_49 : decode (am_b mt_Mo_sized) 49 = .ok (.if_icmp .ne 7, 3) := by decide +kernel
theorem d_Mo_sized_52 : decode (am_b mt_Mo_sized) 52 = .ok (.iconst 1, 1) := by decide +kernel
theorem d_Mo_sized_53 : decode (am_b mt_Mo_sized) 53 = .ok (.goto 4, 3) := by decide +kernel
theorem d_Mo_sized_56 : decode (am_b mt_Mo_sized) 56 = .ok (.iconst 0, 1) := by decide +kernel
theorem d_Mo_sized_57 : decode (am_b mt_Mo_sized) 57 = .ok (.ireturn, 1) := by decide +kernel
theorem d_Mo_sized_58 : decode (am_b mt_Mo_sized) 58 = .ok (.iload_n 1, 1) := by decide +kernel
theorem d_Mo_sized_59 : decode (am_b mt_Mo_sized) 59 = .ok (.bipush 24, 2) := by decide +kernel
theorem d_Mo_sized_61 : decode (am_b mt_Mo_sized) 61 = .ok (.if_icmp .ne 27, 3) := by decide +kernel
theorem d_Mo_sized_64 : decode (am_b mt_Mo_sized) 64 = .ok (.aload_n 0, 1) := by decide +kernel
theorem d_Mo_sized_65 : decode (am_b mt_Mo_sized) 65 = .ok (.getfield 174, 3) := by decide +kernel
theorem d_Mo_sized_68 : decode (am_b mt_Mo_sized) 68 = .ok (.iconst 2, 1) := by decide +kernel
theorem d_Mo_sized_69 : decode (am_b mt_Mo_sized) 69 = .ok (.if_icmp .ne 17, 3) := by decide +kernel
theorem d_Mo_sized_72 : decode (am_b mt_Mo_sized) 72 = .ok (.aload_n 0, 1) := by decide +kernel
theorem d_Mo_sized_73 : decode (am_b mt_Mo_sized) 73 = .ok (.getfield 72, 3) := by decide +kernel
theorem d_Mo_sized_76 : decode (am_b mt_Mo_sized) 76 = .ok (.iconst 1, 1) := by decide +kernel
theorem d_Mo_sized_77 : decode (am_b mt_Mo_sized) 77 = .ok (.iaload, 1) := by decide +kernel
theorem d_Mo_sized_78 : decode (am_b mt_Mo_sized) 78 = .ok (.iconst 2, 1) := by decide +kernel
theorem d_Mo_sized_79 : decode (am_b mt_Mo_sized) 79 = .ok (.if_icmp .ge 7, 3) := by decide +kernel
theorem d_Mo_sized_82 : decode (am_b mt_Mo_sized) 82 = .ok (.iconst 1, 1) := by decide +kernel
theorem d_Mo_sized_83 : decode (am_b mt_Mo_sized) 83 = .ok (.goto 4, 3) := by decide +kernel
theorem d_Mo_sized_86 : decode (am_b mt_Mo_sized) 86 = .ok (.iconst 0, 1) := by decide +kernel
theorem d_Mo_sized_87 : decode (am_b mt_Mo_sized) 87 = .ok (.ireturn, 1) := by decide +kernel
theorem d_Mo_sized_88 : decode (am_b mt_Mo_sized) 88 = .ok (.iload_n 1, 1) := by decide +kernel
theorem d_Mo_sized_89 : decode (am_b mt_Mo_sized) 89 = .ok (.bipush 18, 2) := by decide +kernel
theorem d_Mo_sized_91 : decode (am_b mt_Mo_sized) 91 = .ok (.if_icmp .ne 19, 3) := by decide +kernel
theorem d_Mo_sized_94 : decode (am_b mt_Mo_sized) 94 = .ok (.aload_n 0, 1) := by decide +kernel
theorem d_Mo_sized_95 : decode (am_b mt_Mo_sized) 95 = .ok (.getfield 174, 3) := by decide +kernel
theorem d_Mo_sized_98 : decode (am_b mt_Mo_sized) 98 = .ok (.iconst 2, 1) := by decide +kernel
theorem d_Mo_sized_99 : decode (am_b mt_Mo_sized) 99 = .ok (.if_icmp .lt 7, 3) := by decide +kernel
theorem d_Mo_sized_102 : decode (am_b mt_Mo_sized) 102 = .ok (.iconst 1, 1) := by decide +kernel
theorem d_Mo_sized_103 : decode (am_b mt_Mo_sized) 103 = .ok (.goto 20, 3) := by decide +kernel
theorem d_Mo_sized_106 : decode (am_b mt_Mo_sized) 106 = .ok (.iconst 0, 1) := by decide +kernel
theorem d_Mo_sized_107 : decode (am_b mt_Mo_sized) 107 = .ok (.goto 16, 3) := by decide +kernel
theorem d_Mo_sized_110 : decode (am_b mt_Mo_sized) 110 = .ok (.aload_n 0, 1) := by decide +kernel
theorem d_Mo_sized_111 : decode (am_b mt_Mo_sized) 111 = .ok (.getfield 174, 3) := by decide +kernel
theorem d_Mo_sized_114 : decode (am_b mt_Mo_sized) 114 = .ok (.iconst 3, 1) := by decide +kernel
theorem d_Mo_sized_115 : decode (am_b mt_Mo_sized) 115 = .ok (.if_icmp .lt 7, 3) := by decide +kernel
theorem d_Mo_sized_118 : decode (am_b mt_Mo_sized) 118 = .ok (.iconst 1, 1) := by decide +kernel
theorem d_Mo_sized_119 : decode (am_b mt_Mo_sized) 119 = .ok (.goto 4, 3) := by decide +kernel
theorem d_Mo_sized_122 : decode (am_b mt_Mo_sized) 122 = .ok (.iconst 0, 1) := by decide +kernel
theorem d_Mo_sized_123 : decode (am_b mt_Mo_sized) 123 = .ok (.ireturn, 1) := by decide +kernel
theorem d_Mo_agree_0 : decode (am_b mt_Mo_agree) 0 = .ok (.aload_n 0, 1) := by decide +kernel
theorem d_Mo_agree_1 : decode (am_b mt_Mo_agree) 1 = .ok (.aload_n 0, 1) := by decide +kernel
theorem d_Mo_agree_2 : decode (am_b mt_Mo_agree) 2 = .ok (.getfield 72, 3) := by decide +kernel
theorem d_Mo_agree_5 : decode (am_b mt_Mo_agree) 5 = .ok (.iconst 1, 1) := by decide +kernel
theorem d_Mo_agree_6 : decode (am_b mt_Mo_agree) 6 = .ok (.iaload, 1) := by decide +kernel
theorem d_Mo_agree_7 : decode (am_b mt_Mo_agree) 7 = .ok (.bipush 8, 2) := by decide +kernel
theorem d_Mo_agree_9 : decode (am_b mt_Mo_agree) 9 = .ok (.if_icmp .ge 8, 3) := by decide +kernel
theorem d_Mo_agree_12 : decode (am_b mt_Mo_agree) 12 = .ok (.bipush 8, 2) := by decide +kernel
theorem d_Mo_agree_14 : decode (am_b mt_Mo_agree) 14 = .ok (.goto 25, 3) := by decide +kernel
theorem d_Mo_agree_17 : decode (am_b mt_Mo_agree) 17 = .ok (.aload_n 0, 1) := by decide +kernel
theorem d_Mo_agree_18 : decode (am_b mt_Mo_agree) 18 = .ok (.getfield 72, 3) := by decide +kernel
theorem d_Mo_agree_21 : decode (am_b mt_Mo_agree) 21 = .ok (.iconst 1, 1) := by decide +kernel
theorem d_Mo_agree_22 : decode (am_b mt_Mo_agree) 22 = .ok (.iaload, 1) := by decide +kernel
theorem d_Mo_agree_23 : decode (am_b mt_Mo_agree) 23 = .ok (.bipush 20, 2) := by decide +kernel
theorem d_Mo_agree_25 : decode (am_b mt_Mo_agree) 25 = .ok (.if_icmp .le 8, 3) := by decide +kernel
theorem d_Mo_agree_28 : decode (am_b mt_Mo_agree) 28 = .ok (.bipush 20, 2) := by decide +kernel
theorem d_Mo_agree_30 : decode (am_b mt_Mo_agree) 30 = .ok (.goto 9, 3) := by decide +kernel
theorem d_Mo_agree_33 : decode (am_b mt_Mo_agree) 33 = .ok (.aload_n 0, 1) := by decide +kernel
theorem d_Mo_agree_34 : decode (am_b mt_Mo_agree) 34 = .ok (.getfield 72, 3) := by decide +kernel
theorem d_Mo_agree_37 : decode (am_b mt_Mo_agree) 37 = .ok (.iconst 1, 1) := by decide +kernel
theorem d_Mo_agree_38 : decode (am_b mt_Mo_agree) 38 = .ok (.iaload, 1) := by decide +kernel
theorem d_Mo_agree_39 : decode (am_b mt_Mo_agree) 39 = .ok (.putfield 93, 3) := by decide +kernel
theorem d_Mo_agree_42 : decode (am_b mt_Mo_agree) 42 = .ok (.aload_n 0, 1) := by decide +kernel
theorem d_Mo_agree_43 : decode (am_b mt_Mo_agree) 43 = .ok (.iconst 3, 1) := by decide +kernel
theorem d_Mo_agree_44 : decode (am_b mt_Mo_agree) 44 = .ok (.invokevirtual 183, 3) := by decide +kernel
theorem d_Mo_agree_47 : decode (am_b mt_Mo_agree) 47 = .ok (.aload_n 0, 1) := by decide +kernel
theorem d_Mo_agree_48 : decode (am_b mt_Mo_agree) 48 = .ok (.bipush 20, 2) := by decide +kernel
theorem d_Mo_agree_50 : decode (am_b mt_Mo_agree) 50 = .ok (.invokevirtual 186, 3) := by decide +kernel
theorem d_Mo_agree_53 : decode (am_b mt_Mo_agree) 53 = .ok (.aload_n 0, 1) := by decide +kernel
theorem d_Mo_agree_54 : decode (am_b mt_Mo_agree) 54 = .ok (.iconst 1, 1) := by decide +kernel
theorem d_Mo_agree_55 : decode (am_b mt_Mo_agree) 55 = .ok (.invokevirtual 149, 3) := by decide +kernel
theorem d_Mo_agree_58 : decode (am_b mt_Mo_agree) 58 = .ok (.return_, 1) := by decide +kernel
theorem d_Mo_seek_0 : decode (am_b mt_Mo_seek) 0 = .ok (.aload_n 0, 1) := by decide +kernel
theorem d_Mo_seek_1 : decode (am_b mt_Mo_seek) 1 = .ok (.getfield 72, 3) := by decide +kernel
theorem d_Mo_seek_4 : decode (am_b mt_Mo_seek) 4 = .ok (.iconst 1, 1) := by decide +kernel
theorem d_Mo_seek_5 : decode (am_b mt_Mo_seek) 5 = .ok (.iaload, 1) := by decide +kernel
theorem d_Mo_seek_6 : decode (am_b mt_Mo_seek) 6 = .ok (.iconst 1, 1) := by decide +kernel
theorem d_Mo_seek_7 : decode (am_b mt_Mo_seek) 7 = .ok (.if_icmp .ge 7, 3) := by decide +kernel
theorem d_Mo_seek_10 : decode (am_b mt_Mo_seek) 10 = .ok (.iconst 1, 1) := by decide +kernel
theorem d_Mo_seek_11 : decode (am_b mt_Mo_seek) 11 = .ok (.goto 9, 3) := by decide +kernel
theorem d_Mo_seek_14 : decode (am_b mt_Mo_seek) 14 = .ok (.aload_n 0, 1) := by decide +kernel
theorem d_Mo_seek_15 : decode (am_b mt_Mo_seek) 15 = .ok (.getfield 72, 3) := by decide +kernel
theorem d_Mo_seek_18 : decode (am_b mt_Mo_seek) 18 = .ok (.iconst 1, 1) := by decide +kernel
theorem d_Mo_seek_19 : decode (am_b mt_Mo_seek) 19 = .ok (.iaload, 1) := by decide +kernel
theorem d_Mo_seek_20 : decode (am_b mt_Mo_seek) 20 = .ok (.istore_n 1, 1) := by decide +kernel
theorem d_Mo_seek_21 : decode (am_b mt_Mo_seek) 21 = .ok (.iload_n 1, 1) := by decide +kernel
theorem d_Mo_seek_22 : decode (am_b mt_Mo_seek) 22 = .ok (.aload_n 0, 1) := by decide +kernel
theorem d_Mo_seek_23 : decode (am_b mt_Mo_seek) 23 = .ok (.getfield 212, 3) := by decide +kernel
theorem d_Mo_seek_26 : decode (am_b mt_Mo_seek) 26 = .ok (.if_icmp .gt 43, 3) := by decide +kernel
theorem d_Mo_seek_29 : decode (am_b mt_Mo_seek) 29 = .ok (.aload_n 0, 1) := by decide +kernel
theorem d_Mo_seek_30 : decode (am_b mt_Mo_seek) 30 = .ok (.getfield 78, 3) := by decide +kernel
theorem d_Mo_seek_33 : decode (am_b mt_Mo_seek) 33 = .ok (.iload_n 1, 1) := by decide +kernel
theorem d_Mo_seek_34 : decode (am_b mt_Mo_seek) 34 = .ok (.iconst 1, 1) := by decide +kernel
theorem d_Mo_seek_35 : decode (am_b mt_Mo_seek) 35 = .ok (.isub, 1) := by decide +kernel
theorem d_Mo_seek_36 : decode (am_b mt_Mo_seek) 36 = .ok (.iaload, 1) := by decide +kernel
theorem d_Mo_seek_37 : decode (am_b mt_Mo_seek) 37 = .ok (.aload_n 0, 1) := by decide +kernel
theorem d_Mo_seek_38 : decode (am_b mt_Mo_seek) 38 = .ok (.getfield 72, 3) := by decide +kernel
theorem d_Mo_seek_41 : decode (am_b mt_Mo_seek) 41 = .ok (.iconst 2, 1) := by decide +kernel
theorem d_Mo_seek_42 : decode (am_b mt_Mo_seek) 42 = .ok (.iaload, 1) := by decide +kernel
theorem d_Mo_seek_43 : decode (am_b mt_Mo_seek) 43 = .ok (.if_icmp .ne 20, 3) := by decide +kernel
theorem d_Mo_seek_46 : decode (am_b mt_Mo_seek) 46 = .ok (.aload_n 0, 1) := by decide +kernel
theorem d_Mo_seek_47 : decode (am_b mt_Mo_seek) 47 = .ok (.bipush 17, 2) := by decide +kernel
theorem d_Mo_seek_49 : decode (am_b mt_Mo_seek) 49 = .ok (.invokevirtual 183, 3) := by decide +kernel
theorem d_Mo_seek_52 : decode (am_b mt_Mo_seek) 52 = .ok (.aload_n 0, 1) := by decide +kernel
theorem d_Mo_seek_53 : decode (am_b mt_Mo_seek) 53 = .ok (.iload_n 1, 1) := by decide +kernel
theorem d_Mo_seek_54 : decode (am_b mt_Mo_seek) 54 = .ok (.invokevirtual 186, 3) := by decide +kernel
theorem d_Mo_seek_57 : decode (am_b mt_Mo_seek) 57 = .ok (.aload_n 0, 1) := by decide +kernel
theorem d_Mo_seek_58 : decode (am_b mt_Mo_seek) 58 = .ok (.iconst 1, 1) := by decide +kernel
theorem d_Mo_seek_59 : decode (am_b mt_Mo_seek) 59 = .ok (.invokevirtual 149, 3) := by decide +kernel
theorem d_Mo_seek_62 : decode (am_b mt_Mo_seek) 62 = .ok (.return_, 1) := by decide +kernel
theorem d_Mo_seek_63 : decode (am_b mt_Mo_seek) 63 = .ok (.iinc 1 1, 3) := by decide +kernel
theorem d_Mo_seek_66 : decode (am_b mt_Mo_seek) 66 = .ok (.goto (-45), 3) := by decide +kernel
theorem d_Mo_seek_69 : decode (am_b mt_Mo_seek) 69 = .ok (.aload_n 0, 1) := by decide +kernel
theorem d_Mo_seek_70 : decode (am_b mt_Mo_seek) 70 = .ok (.aload_n 0, 1) := by decide +kernel
theorem d_Mo_seek_71 : decode (am_b mt_Mo_seek) 71 = .ok (.getfield 72, 3) := by decide +kernel
theorem d_Mo_seek_74 : decode (am_b mt_Mo_seek) 74 = .ok (.iconst 1, 1) := by decide +kernel
theorem d_Mo_seek_75 : decode (am_b mt_Mo_seek) 75 = .ok (.iaload, 1) := by decide +kernel
theorem d_Mo_seek_76 : decode (am_b mt_Mo_seek) 76 = .ok (.bipush 10, 2) := by decide +kernel
theorem d_Mo_seek_78 : decode (am_b mt_Mo_seek) 78 = .ok (.invokevirtual 193, 3) := by decide +kernel
theorem d_Mo_seek_81 : decode (am_b mt_Mo_seek) 81 = .ok (.return_, 1) := by decide +kernel
theorem d_Mo_finish_0 : decode (am_b mt_Mo_finish) 0 = .ok (.aload_n 0, 1) := by decide +kernel
theorem d_Mo_finish_1 : decode (am_b mt_Mo_finish) 1 = .ok (.getfield 72, 3) := by decide +kernel
theorem d_Mo_finish_4 : decode (am_b mt_Mo_finish) 4 = .ok (.iconst 1, 1) := by decide +kernel
theorem d_Mo_finish_5 : decode (am_b mt_Mo_finish) 5 = .ok (.iaload, 1) := by decide +kernel
theorem d_Mo_finish_6 : decode (am_b mt_Mo_finish) 6 = .ok (.iconst 1, 1) := by decide +kernel
theorem d_Mo_finish_7 : decode (am_b mt_Mo_finish) 7 = .ok (.if_icmp .ne 10, 3) := by decide +kernel
theorem d_Mo_finish_10 : decode (am_b mt_Mo_finish) 10 = .ok (.aload_n 0, 1) := by decide +kernel
theorem d_Mo_finish_11 : decode (am_b mt_Mo_finish) 11 = .ok (.invokevirtual 228, 3) := by decide +kernel
theorem d_Mo_finish_14 : decode (am_b mt_Mo_finish) 14 = .ok (.goto 4, 3) := by decide +kernel
theorem d_Mo_finish_17 : decode (am_b mt_Mo_finish) 17 = .ok (.iconst 0, 1) := by decide +kernel
theorem d_Mo_finish_18 : decode (am_b mt_Mo_finish) 18 = .ok (.istore_n 1, 1) := by decide +kernel
theorem d_Mo_finish_19 : decode (am_b mt_Mo_finish) 19 = .ok (.iconst 0, 1) := by decide +kernel
theorem d_Mo_finish_20 : decode (am_b mt_Mo_finish) 20 = .ok (.istore_n 2, 1) := by decide +kernel
theorem d_Mo_finish_21 : decode (am_b mt_Mo_finish) 21 = .ok (.iload_n 2, 1) := by decide +kernel
theorem d_Mo_finish_22 : decode (am_b mt_Mo_finish) 22 = .ok (.aload_n 0, 1) := by decide +kernel
theorem d_Mo_finish_23 : decode (am_b mt_Mo_finish) 23 = .ok (.getfield 225, 3) := by decide +kernel
theorem d_Mo_finish_26 : decode (am_b mt_Mo_finish) 26 = .ok (.if_icmp .ge 95, 3) := by decide +kernel
theorem d_Mo_finish_29 : decode (am_b mt_Mo_finish) 29 = .ok (.aload_n 0, 1) := by decide +kernel
theorem d_Mo_finish_30 : decode (am_b mt_Mo_finish) 30 = .ok (.getfield 72, 3) := by decide +kernel
theorem d_Mo_finish_33 : decode (am_b mt_Mo_finish) 33 = .ok (.iconst 1, 1) := by decide +kernel
theorem d_Mo_finish_34 : decode (am_b mt_Mo_finish) 34 = .ok (.iaload, 1) := by decide +kernel
theorem d_Mo_finish_35 : decode (am_b mt_Mo_finish) 35 = .ok (.iconst 1, 1) := by decide +kernel
theorem d_Mo_finish_36 : decode (am_b mt_Mo_finish) 36 = .ok (.if_icmp .ne 85, 3) := by decide +kernel
theorem d_Mo_finish_39 : decode (am_b mt_Mo_finish) 39 = .ok (.iload_n 1, 1) := by decide +kernel
theorem d_Mo_finish_40 : decode (am_b mt_Mo_finish) 40 = .ok (.ifCond .ne 81, 3) := by decide +kernel
theorem d_Mo_finish_43 : decode (am_b mt_Mo_finish) 43 = .ok (.aload_n 0, 1) := by decide +kernel
theorem d_Mo_finish_44 : decode (am_b mt_Mo_finish) 44 = .ok (.getfield 96, 3) := by decide +kernel
theorem d_Mo_finish_47 : decode (am_b mt_Mo_finish) 47 = .ok (.iload_n 2, 1) := by decide +kernel
theorem d_Mo_finish_48 : decode (am_b mt_Mo_finish) 48 = .ok (.iaload, 1) := by decide +kernel
theorem d_Mo_finish_49 : decode (am_b mt_Mo_finish) 49 = .ok (.iconst 1, 1) := by decide +kernel
theorem d_Mo_finish_50 : decode (am_b mt_Mo_finish) 50 = .ok (.isub, 1) := by decide +kernel
theorem d_Mo_finish_51 : decode (am_b mt_Mo_finish) 51 = .ok (.istore_n 3, 1) := by decide +kernel
theorem d_Mo_finish_52 : decode (am_b mt_Mo_finish) 52 = .ok (.iconst 0, 1) := by decide +kernel
theorem d_Mo_finish_53 : decode (am_b mt_Mo_finish) 53 = .ok (.istore 4, 2) := by decide +kernel
theorem d_Mo_finish_55 : decode (am_b mt_Mo_finish) 55 = .ok (.iload 4, 2) := by decide +kernel
theorem d_Mo_finish_57 : decode (am_b mt_Mo_finish) 57 = .ok (.aload_n 0, 1) := by decide +kernel
theorem d_Mo_finish_58 : decode (am_b mt_Mo_finish) 58 = .ok (.getfield 102, 3) := by decide +kernel
theorem d_Mo_finish_61 : decode (am_b mt_Mo_finish) 61 = .ok (.iload_n 2, 1) := by decide +kernel
theorem d_Mo_finish_62 : decode (am_b mt_Mo_finish) 62 = .ok (.iaload, 1) := by decide +kernel
theorem d_Mo_finish_63 : decode (am_b mt_Mo_finish) 63 = .ok (.if_icmp .ge 40, 3) := by decide +kernel
theorem d_Mo_finish_66 : decode (am_b mt_Mo_finish) 66 = .ok (.aload_n 0, 1) := by decide +kernel
theorem d_Mo_finish_67 : decode (am_b mt_Mo_finish) 67 = .ok (.getfield 87, 3) := by decide +kernel
theorem d_Mo_finish_70 : decode (am_b mt_Mo_finish) 70 = .ok (.bipush 16, 2) := by decide +kernel
theorem d_Mo_finish_72 : decode (am_b mt_Mo_finish) 72 = .ok (.iload_n 3, 1) := by decide +kernel
theorem d_Mo_finish_73 : decode (am_b mt_Mo_finish) 73 = .ok (.imul, 1) := by decide +kernel
theorem d_Mo_finish_74 : decode (am_b mt_Mo_finish) 74 = .ok (.aload_n 0, 1) := by decide +kernel
theorem d_Mo_finish_75 : decode (am_b mt_Mo_finish) 75 = .ok (.getfield 99, 3) := by decide +kernel
theorem d_Mo_finish_78 : decode (am_b mt_Mo_finish) 78 = .ok (.iload_n 2, 1) := by decide +kernel
theorem d_Mo_finish_79 : decode (am_b mt_Mo_finish) 79 = .ok (.iaload, 1) := by decide +kernel
theorem d_Mo_finish_80 : decode (am_b mt_Mo_finish) 80 = .ok (.iadd, 1) := by decide +kernel
theorem d_Mo_finish_81 : decode (am_b mt_Mo_finish) 81 = .ok (.iload 4, 2) := by decide +kernel
theorem d_Mo_finish_83 : decode (am_b mt_Mo_finish) 83 = .ok (.iadd, 1) := by decide +kernel
theorem d_Mo_finish_84 : decode (am_b mt_Mo_finish) 84 = .ok (.aload_n 0, 1) := by decide +kernel
theorem d_Mo_finish_85 : decode (am_b mt_Mo_finish) 85 = .ok (.getfield 105, 3) := by decide +kernel
theorem d_Mo_finish_88 : decode (am_b mt_Mo_finish) 88 = .ok (.bipush 20, 2) := by decide +kernel
theorem d_Mo_finish_90 : decode (am_b mt_Mo_finish) 90 = .ok (.iload_n 2, 1) := by decide +kernel
theorem d_Mo_finish_91 : decode (am_b mt_Mo_finish) 91 = .ok (.imul, 1) := by decide +kernel
theorem d_Mo_finish_92 : decode (am_b mt_Mo_finish) 92 = .ok (.iload 4, 2) := by decide +kernel
theorem d_Mo_finish_94 : decode (am_b mt_Mo_finish) 94 = .ok (.iadd, 1) := by decide +kernel
theorem d_Mo_finish_95 : decode (am_b mt_Mo_finish) 95 = .ok (.iaload, 1) := by decide +kernel
theorem d_Mo_finish_96 : decode (am_b mt_Mo_finish) 96 = .ok (.iastore, 1) := by decide +kernel
theorem d_Mo_finish_97 : decode (am_b mt_Mo_finish) 97 = .ok (.iinc 4 1, 3) := by decide +kernel
theorem d_Mo_finish_100 : decode (am_b mt_Mo_finish) 100 = .ok (.goto (-45), 3) := by decide +kernel
theorem d_Mo_finish_103 : decode (am_b mt_Mo_finish) 103 = .ok (.aload_n 0, 1) := by decide +kernel
theorem d_Mo_finish_104 : decode (am_b mt_Mo_finish) 104 = .ok (.getfield 84, 3) := by decide +kernel
theorem d_Mo_finish_107 : decode (am_b mt_Mo_finish) 107 = .ok (.iload_n 3, 1) := by decide +kernel
theorem d_Mo_finish_108 : decode (am_b mt_Mo_finish) 108 = .ok (.aload_n 0, 1) := by decide +kernel
theorem d_Mo_finish_109 : decode (am_b mt_Mo_finish) 109 = .ok (.getfield 90, 3) := by decide +kernel
theorem d_Mo_finish_112 : decode (am_b mt_Mo_finish) 112 = .ok (.iload_n 3, 1) := by decide +kernel
theorem d_Mo_finish_113 : decode (am_b mt_Mo_finish) 113 = .ok (.iaload, 1) := by decide +kernel
theorem d_Mo_finish_114 : decode (am_b mt_Mo_finish) 114 = .ok (.iastore, 1) := by decide +kernel
theorem d_Mo_finish_115 : decode (am_b mt_Mo_finish) 115 = .ok (.iinc 2 1, 3) := by decide +kernel
theorem d_Mo_finish_118 : decode (am_b mt_Mo_finish) 118 = .ok (.goto (-97), 3) := by decide +kernel
theorem d_Mo_finish_121 : decode (am_b mt_Mo_finish) 121 = .ok (.aload_n 0, 1) := by decide +kernel
theorem d_Mo_finish_122 : decode (am_b mt_Mo_finish) 122 = .ok (.iconst 0, 1) := by decide +kernel
theorem d_Mo_finish_123 : decode (am_b mt_Mo_finish) 123 = .ok (.putfield 225, 3) := by decide +kernel
theorem d_Mo_finish_126 : decode (am_b mt_Mo_finish) 126 = .ok (.iload_n 1, 1) := by decide +kernel
theorem d_Mo_finish_127 : decode (am_b mt_Mo_finish) 127 = .ok (.ifCond .le 10, 3) := by decide +kernel
theorem d_Mo_finish_130 : decode (am_b mt_Mo_finish) 130 = .ok (.aload_n 0, 1) := by decide +kernel
theorem d_Mo_finish_131 : decode (am_b mt_Mo_finish) 131 = .ok (.iconst 0, 1) := by decide +kernel
theorem d_Mo_finish_132 : decode (am_b mt_Mo_finish) 132 = .ok (.iload_n 1, 1) := by decide +kernel
theorem d_Mo_finish_133 : decode (am_b mt_Mo_finish) 133 = .ok (.invokevirtual 193, 3) := by decide +kernel
theorem d_Mo_finish_136 : decode (am_b mt_Mo_finish) 136 = .ok (.return_, 1) := by decide +kernel
theorem d_Mo_finish_137 : decode (am_b mt_Mo_finish) 137 = .ok (.aload_n 0, 1) := by decide +kernel
theorem d_Mo_finish_138 : decode (am_b mt_Mo_finish) 138 = .ok (.bipush 25, 2) := by decide +kernel
theorem d_Mo_finish_140 : decode (am_b mt_Mo_finish) 140 = .ok (.invokevirtual 183, 3) := by decide +kernel
theorem d_Mo_finish_143 : decode (am_b mt_Mo_finish) 143 = .ok (.aload_n 0, 1) := by decide +kernel
theorem d_Mo_finish_144 : decode (am_b mt_Mo_finish) 144 = .ok (.iconst 1, 1) := by decide +kernel
theorem d_Mo_finish_145 : decode (am_b mt_Mo_finish) 145 = .ok (.invokevirtual 149, 3) := by decide +kernel
theorem d_Mo_finish_148 : decode (am_b mt_Mo_finish) 148 = .ok (.return_, 1) := by decide +kernel
theorem d_Mo_judge_0 : decode (am_b mt_Mo_judge) 0 = .ok (.iconst 0, 1) := by decide +kernel
theorem d_Mo_judge_1 : decode (am_b mt_Mo_judge) 1 = .ok (.istore_n 1, 1) := by decide +kernel
theorem d_Mo_judge_2 : decode (am_b mt_Mo_judge) 2 = .ok (.iload_n 1, 1) := by decide +kernel
theorem d_Mo_judge_3 : decode (am_b mt_Mo_judge) 3 = .ok (.aload_n 0, 1) := by decide +kernel
theorem d_Mo_judge_4 : decode (am_b mt_Mo_judge) 4 = .ok (.getfield 212, 3) := by decide +kernel
theorem d_Mo_judge_7 : decode (am_b mt_Mo_judge) 7 = .ok (.if_icmp .ge 21, 3) := by decide +kernel
theorem d_Mo_judge_10 : decode (am_b mt_Mo_judge) 10 = .ok (.aload_n 0, 1) := by decide +kernel
theorem d_Mo_judge_11 : decode (am_b mt_Mo_judge) 11 = .ok (.getfield 90, 3) := by decide +kernel
theorem d_Mo_judge_14 : decode (am_b mt_Mo_judge) 14 = .ok (.iload_n 1, 1) := by decide +kernel
theorem d_Mo_judge_15 : decode (am_b mt_Mo_judge) 15 = .ok (.aload_n 0, 1) := by decide +kernel
theorem d_Mo_judge_16 : decode (am_b mt_Mo_judge) 16 = .ok (.getfield 84, 3) := by decide +kernel
theorem d_Mo_judge_19 : decode (am_b mt_Mo_judge) 19 = .ok (.iload_n 1, 1) := by decide +kernel
theorem d_Mo_judge_20 : decode (am_b mt_Mo_judge) 20 = .ok (.iaload, 1) := by decide +kernel
theorem d_Mo_judge_21 : decode (am_b mt_Mo_judge) 21 = .ok (.iastore, 1) := by decide +kernel
theorem d_Mo_judge_22 : decode (am_b mt_Mo_judge) 22 = .ok (.iinc 1 1, 3) := by decide +kernel
theorem d_Mo_judge_25 : decode (am_b mt_Mo_judge) 25 = .ok (.goto (-23), 3) := by decide +kernel
theorem d_Mo_judge_28 : decode (am_b mt_Mo_judge) 28 = .ok (.iconst 0, 1) := by decide +kernel
theorem d_Mo_judge_29 : decode (am_b mt_Mo_judge) 29 = .ok (.istore_n 1, 1) := by decide +kernel
theorem d_Mo_judge_30 : decode (am_b mt_Mo_judge) 30 = .ok (.iload_n 1, 1) := by decide +kernel
theorem d_Mo_judge_31 : decode (am_b mt_Mo_judge) 31 = .ok (.aload_n 0, 1) := by decide +kernel
theorem d_Mo_judge_32 : decode (am_b mt_Mo_judge) 32 = .ok (.getfield 225, 3) := by decide +kernel
theorem d_Mo_judge_35 : decode (am_b mt_Mo_judge) 35 = .ok (.if_icmp .ge 85, 3) := by decide +kernel
theorem d_Mo_judge_38 : decode (am_b mt_Mo_judge) 38 = .ok (.aload_n 0, 1) := by decide +kernel
theorem d_Mo_judge_39 : decode (am_b mt_Mo_judge) 39 = .ok (.getfield 96, 3) := by decide +kernel
theorem d_Mo_judge_42 : decode (am_b mt_Mo_judge) 42 = .ok (.iload_n 1, 1) := by decide +kernel
theorem d_Mo_judge_43 : decode (am_b mt_Mo_judge) 43 = .ok (.iaload, 1) := by decide +kernel
theorem d_Mo_judge_44 : decode (am_b mt_Mo_judge) 44 = .ok (.iconst 1, 1) := by decide +kernel
theorem d_Mo_judge_45 : decode (am_b mt_Mo_judge) 45 = .ok (.isub, 1) := by decide +kernel
theorem d_Mo_judge_46 : decode (am_b mt_Mo_judge) 46 = .ok (.istore_n 2, 1) := by decide +kernel
theorem d_Mo_judge_47 : decode (am_b mt_Mo_judge) 47 = .ok (.aload_n 0, 1) := by decide +kernel
theorem d_Mo_judge_48 : decode (am_b mt_Mo_judge) 48 = .ok (.getfield 99, 3) := by decide +kernel
theorem d_Mo_judge_51 : decode (am_b mt_Mo_judge) 51 = .ok (.iload_n 1, 1) := by decide +kernel
theorem d_Mo_judge_52 : decode (am_b mt_Mo_judge) 52 = .ok (.iaload, 1) := by decide +kernel
theorem d_Mo_judge_53 : decode (am_b mt_Mo_judge) 53 = .ok (.aload_n 0, 1) := by decide +kernel
theorem d_Mo_judge_54 : decode (am_b mt_Mo_judge) 54 = .ok (.getfield 102, 3) := by decide +kernel
theorem d_Mo_judge_57 : decode (am_b mt_Mo_judge) 57 = .ok (.iload_n 1, 1) := by decide +kernel
theorem d_Mo_judge_58 : decode (am_b mt_Mo_judge) 58 = .ok (.iaload, 1) := by decide +kernel
theorem d_Mo_judge_59 : decode (am_b mt_Mo_judge) 59 = .ok (.iadd, 1) := by decide +kernel
theorem d_Mo_judge_60 : decode (am_b mt_Mo_judge) 60 = .ok (.istore_n 3, 1) := by decide +kernel
theorem d_Mo_judge_61 : decode (am_b mt_Mo_judge) 61 = .ok (.aload_n 0, 1) := by decide +kernel
theorem d_Mo_judge_62 : decode (am_b mt_Mo_judge) 62 = .ok (.getfield 99, 3) := by decide +kernel
theorem d_Mo_judge_65 : decode (am_b mt_Mo_judge) 65 = .ok (.iload_n 1, 1) := by decide +kernel
theorem d_Mo_judge_66 : decode (am_b mt_Mo_judge) 66 = .ok (.iaload, 1) := by decide +kernel
theorem d_Mo_judge_67 : decode (am_b mt_Mo_judge) 67 = .ok (.aload_n 0, 1) := by decide +kernel
theorem d_Mo_judge_68 : decode (am_b mt_Mo_judge) 68 = .ok (.getfield 90, 3) := by decide +kernel
theorem d_Mo_judge_71 : decode (am_b mt_Mo_judge) 71 = .ok (.iload_n 2, 1) := by decide +kernel
theorem d_Mo_judge_72 : decode (am_b mt_Mo_judge) 72 = .ok (.iaload, 1) := by decide +kernel
theorem d_Mo_judge_73 : decode (am_b mt_Mo_judge) 73 = .ok (.if_icmp .le 6, 3) := by decide +kernel
theorem d_Mo_judge_76 : decode (am_b mt_Mo_judge) 76 = .ok (.bipush 7, 2) := by decide +kernel
theorem d_Mo_judge_78 : decode (am_b mt_Mo_judge) 78 = .ok (.ireturn, 1) := by decide +kernel
theorem d_Mo_judge_79 : decode (am_b mt_Mo_judge) 79 = .ok (.iload_n 3, 1) := by decide +kernel
theorem d_Mo_judge_80 : decode (am_b mt_Mo_judge) 80 = .ok (.bipush 16, 2) := by decide +kernel
theorem d_Mo_judge_82 : decode (am_b mt_Mo_judge) 82 = .ok (.if_icmp .le 6, 3) := by decide +kernel
theorem d_Mo_judge_85 : decode (am_b mt_Mo_judge) 85 = .ok (.bipush 13, 2) := by decide +kernel
theorem d_Mo_judge_87 : decode (am_b mt_Mo_judge) 87 = .ok (.ireturn, 1) := by decide +kernel
theorem d_Mo_judge_88 : decode (am_b mt_Mo_judge) 88 = .ok (.aload_n 0, 1) := by decide +kernel
theorem d_Mo_judge_89 : decode (am_b mt_Mo_judge) 89 = .ok (.getfield 90, 3) := by decide +kernel
theorem d_Mo_judge_92 : decode (am_b mt_Mo_judge) 92 = .ok (.iload_n 2, 1) := by decide +kernel
theorem d_Mo_judge_93 : decode (am_b mt_Mo_judge) 93 = .ok (.iload_n 3, 1) := by decide +kernel
theorem d_Mo_judge_94 : decode (am_b mt_Mo_judge) 94 = .ok (.aload_n 0, 1) := by decide +kernel
theorem d_Mo_judge_95 : decode (am_b mt_Mo_judge) 95 = .ok (.getfield 90, 3) := by decide +kernel
theorem d_Mo_judge_98 : decode (am_b mt_Mo_judge) 98 = .ok (.iload_n 2, 1) := by decide +kernel
theorem d_Mo_judge_99 : decode (am_b mt_Mo_judge) 99 = .ok (.iaload, 1) := by decide +kernel
theorem d_Mo_judge_100 : decode (am_b mt_Mo_judge) 100 = .ok (.if_icmp .le 7, 3) := by decide +kernel
theorem d_Mo_judge_103 : decode (am_b mt_Mo_judge) 103 = .ok (.iload_n 3, 1) := by decide +kernel
theorem d_Mo_judge_104 : decode (am_b mt_Mo_judge) 104 = .ok (.goto 9, 3) := by decide +kernel
theorem d_Mo_judge_107 : decode (am_b mt_Mo_judge) 107 = .ok (.aload_n 0, 1) := by decide +kernel
theorem d_Mo_judge_108 : decode (am_b mt_Mo_judge) 108 = .ok (.getfield 90, 3) := by decide +kernel
theorem d_Mo_judge_111 : decode (am_b mt_Mo_judge) 111 = .ok (.iload_n 2, 1) := by decide +kernel
theorem d_Mo_judge_112 : decode (am_b mt_Mo_judge) 112 = .ok (.iaload, 1) := by decide +kernel
theorem d_Mo_judge_113 : decode (am_b mt_Mo_judge) 113 = .ok (.iastore, 1) := by decide +kernel
theorem d_Mo_judge_114 : decode (am_b mt_Mo_judge) 114 = .ok (.iinc 1 1, 3) := by decide +kernel
theorem d_Mo_judge_117 : decode (am_b mt_Mo_judge) 117 = .ok (.goto (-87), 3) := by decide +kernel
theorem d_Mo_judge_120 : decode (am_b mt_Mo_judge) 120 = .ok (.iconst 0, 1) := by decide +kernel
theorem d_Mo_judge_121 : decode (am_b mt_Mo_judge) 121 = .ok (.ireturn, 1) := by decide +kernel
theorem d_Mo_touch_0 : decode (am_b mt_Mo_touch) 0 = .ok (.iload_n 2, 1) := by decide +kernel
theorem d_Mo_touch_1 : decode (am_b mt_Mo_touch) 1 = .ok (.iconst 1, 1) := by decide +kernel
theorem d_Mo_touch_2 : decode (am_b mt_Mo_touch) 2 = .ok (.if_icmp .lt 11, 3) := by decide +kernel
theorem d_Mo_touch_5 : decode (am_b mt_Mo_touch) 5 = .ok (.iload_n 2, 1) := by decide +kernel
theorem d_Mo_touch_6 : decode (am_b mt_Mo_touch) 6 = .ok (.aload_n 0, 1) := by decide +kernel
theorem d_Mo_touch_7 : decode (am_b mt_Mo_touch) 7 = .ok (.getfield 212, 3) := by decide +kernel
theorem d_Mo_touch_10 : decode (am_b mt_Mo_touch) 10 = .ok (.if_icmp .le 10, 3) := by decide +kernel
theorem d_Mo_touch_13 : decode (am_b mt_Mo_touch) 13 = .ok (.aload_n 0, 1) := by decide +kernel
theorem d_Mo_touch_14 : decode (am_b mt_Mo_touch) 14 = .ok (.iload_n 2, 1) := by decide +kernel
theorem d_Mo_touch_15 : decode (am_b mt_Mo_touch) 15 = .ok (.iconst 1, 1) := by decide +kernel
theorem d_Mo_touch_16 : decode (am_b mt_Mo_touch) 16 = .ok (.invokevirtual 193, 3) := by decide +kernel
theorem d_Mo_touch_19 : decode (am_b mt_Mo_touch) 19 = .ok (.return_, 1) := by decide +kernel
theorem d_Mo_touch_20 : decode (am_b mt_Mo_touch) 20 = .ok (.iload_n 1, 1) := by decide +kernel
theorem d_Mo_touch_21 : decode (am_b mt_Mo_touch) 21 = .ok (.bipush 16, 2) := by decide +kernel
theorem d_Mo_touch_23 : decode (am_b mt_Mo_touch) 23 = .ok (.if_icmp .ge 16, 3) := by decide +kernel
theorem d_Mo_touch_26 : decode (am_b mt_Mo_touch) 26 = .ok (.aload_n 0, 1) := by decide +kernel
theorem d_Mo_touch_27 : decode (am_b mt_Mo_touch) 27 = .ok (.getfield 81, 3) := by decide +kernel
theorem d_Mo_touch_30 : decode (am_b mt_Mo_touch) 30 = .ok (.iload_n 2, 1) := by decide +kernel
theorem d_Mo_touch_31 : decode (am_b mt_Mo_touch) 31 = .ok (.iconst 1, 1) := by decide +kernel
theorem d_Mo_touch_32 : decode (am_b mt_Mo_touch) 32 = .ok (.isub, 1) := by decide +kernel
theorem d_Mo_touch_33 : decode (am_b mt_Mo_touch) 33 = .ok (.iaload, 1) := by decide +kernel
theorem d_Mo_touch_34 : decode (am_b mt_Mo_touch) 34 = .ok (.iconst 1, 1) := by decide +kernel
theorem d_Mo_touch_35 : decode (am_b mt_Mo_touch) 35 = .ok (.iand, 1) := by decide +kernel
theorem d_Mo_touch_36 : decode (am_b mt_Mo_touch) 36 = .ok (.goto 13, 3) := by decide +kernel
theorem d_Mo_touch_39 : decode (am_b mt_Mo_touch) 39 = .ok (.aload_n 0, 1) := by decide +kernel
theorem d_Mo_touch_40 : decode (am_b mt_Mo_touch) 40 = .ok (.getfield 81, 3) := by decide +kernel
theorem d_Mo_touch_43 : decode (am_b mt_Mo_touch) 43 = .ok (.iload_n 2, 1) := by decide +kernel
theorem d_Mo_touch_44 : decode (am_b mt_Mo_touch) 44 = .ok (.iconst 1, 1) := by decide +kernel
theorem d_Mo_touch_45 : decode (am_b mt_Mo_touch) 45 = .ok (.isub, 1) := by decide +kernel
theorem d_Mo_touch_46 : decode (am_b mt_Mo_touch) 46 = .ok (.iaload, 1) := by decide +kernel
theorem d_Mo_touch_47 : decode (am_b mt_Mo_touch) 47 = .ok (.iconst 2, 1) := by decide +kernel
theorem d_Mo_touch_48 : decode (am_b mt_Mo_touch) 48 = .ok (.iand, 1) := by decide +kernel
theorem d_Mo_touch_49 : decode (am_b mt_Mo_touch) 49 = .ok (.istore_n 3, 1) := by decide +kernel
theorem d_Mo_touch_50 : decode (am_b mt_Mo_touch) 50 = .ok (.iload_n 3, 1) := by decide +kernel
theorem d_Mo_touch_51 : decode (am_b mt_Mo_touch) 51 = .ok (.ifCond .ne 22, 3) := by decide +kernel
theorem d_Mo_touch_54 : decode (am_b mt_Mo_touch) 54 = .ok (.aload_n 0, 1) := by decide +kernel
theorem d_Mo_touch_55 : decode (am_b mt_Mo_touch) 55 = .ok (.iload_n 2, 1) := by decide +kernel
theorem d_Mo_touch_56 : decode (am_b mt_Mo_touch) 56 = .ok (.iload_n 1, 1) := by decide +kernel
theorem d_Mo_touch_57 : decode (am_b mt_Mo_touch) 57 = .ok (.bipush 16, 2) := by decide +kernel
theorem d_Mo_touch_59 : decode (am_b mt_Mo_touch) 59 = .ok (.if_icmp .ge 7, 3) := by decide +kernel
theorem d_Mo_touch_62 : decode (am_b mt_Mo_touch) 62 = .ok (.iconst 2, 1) := by decide +kernel
theorem d_Mo_touch_63 : decode (am_b mt_Mo_touch) 63 = .ok (.goto 4, 3) := by decide +kernel
theorem d_Mo_touch_66 : decode (am_b mt_Mo_touch) 66 = .ok (.iconst 3, 1) := by decide +kernel
theorem d_Mo_touch_67 : decode (am_b mt_Mo_touch) 67 = .ok (.invokevirtual 193, 3) := by decide +kernel
theorem d_Mo_touch_70 : decode (am_b mt_Mo_touch) 70 = .ok (.goto 55, 3) := by decide +kernel
theorem d_Mo_touch_73 : decode (am_b mt_Mo_touch) 73 = .ok (.iload_n 1, 1) := by decide +kernel
theorem d_Mo_touch_74 : decode (am_b mt_Mo_touch) 74 = .ok (.bipush 16, 2) := by decide +kernel
theorem d_Mo_touch_76 : decode (am_b mt_Mo_touch) 76 = .ok (.if_icmp .ge 30, 3) := by decide +kernel
theorem d_Mo_touch_79 : decode (am_b mt_Mo_touch) 79 = .ok (.aload_n 0, 1) := by decide +kernel
theorem d_Mo_touch_80 : decode (am_b mt_Mo_touch) 80 = .ok (.iload_n 1, 1) := by decide +kernel
theorem d_Mo_touch_81 : decode (am_b mt_Mo_touch) 81 = .ok (.iload_n 2, 1) := by decide +kernel
theorem d_Mo_touch_82 : decode (am_b mt_Mo_touch) 82 = .ok (.iconst 1, 1) := by decide +kernel
theorem d_Mo_touch_83 : decode (am_b mt_Mo_touch) 83 = .ok (.isub, 1) := by decide +kernel
theorem d_Mo_touch_84 : decode (am_b mt_Mo_touch) 84 = .ok (.iload_n 1, 1) := by decide +kernel
theorem d_Mo_touch_85 : decode (am_b mt_Mo_touch) 85 = .ok (.bipush 12, 2) := by decide +kernel
theorem d_Mo_touch_87 : decode (am_b mt_Mo_touch) 87 = .ok (.if_icmp .ne 12, 3) := by decide +kernel
theorem d_Mo_touch_90 : decode (am_b mt_Mo_touch) 90 = .ok (.aload_n 0, 1) := by decide +kernel
theorem d_Mo_touch_91 : decode (am_b mt_Mo_touch) 91 = .ok (.getfield 72, 3) := by decide +kernel
theorem d_Mo_touch_94 : decode (am_b mt_Mo_touch) 94 = .ok (.iconst 2, 1) := by decide +kernel
theorem d_Mo_touch_95 : decode (am_b mt_Mo_touch) 95 = .ok (.iaload, 1) := by decide +kernel
theorem d_Mo_touch_96 : decode (am_b mt_Mo_touch) 96 = .ok (.goto 4, 3) := by decide +kernel
theorem d_Mo_touch_99 : decode (am_b mt_Mo_touch) 99 = .ok (.iconst 0, 1) := by decide +kernel
theorem d_Mo_touch_100 : decode (am_b mt_Mo_touch) 100 = .ok (.invokevirtual 215, 3) := by decide +kernel
theorem d_Mo_touch_103 : decode (am_b mt_Mo_touch) 103 = .ok (.goto 22, 3) := by decide +kernel
theorem d_Mo_touch_106 : decode (am_b mt_Mo_touch) 106 = .ok (.iload_n 1, 1) := by decide +kernel
theorem d_Mo_touch_107 : decode (am_b mt_Mo_touch) 107 = .ok (.bipush 18, 2) := by decide +kernel
theorem d_Mo_touch_109 : decode (am_b mt_Mo_touch) 109 = .ok (.if_icmp .ne 11, 3) := by decide +kernel
theorem d_Mo_touch_112 : decode (am_b mt_Mo_touch) 112 = .ok (.aload_n 0, 1) := by decide +kernel
theorem d_Mo_touch_113 : decode (am_b mt_Mo_touch) 113 = .ok (.iload_n 2, 1) := by decide +kernel
theorem d_Mo_touch_114 : decode (am_b mt_Mo_touch) 114 = .ok (.invokevirtual 219, 3) := by decide +kernel
theorem d_Mo_touch_117 : decode (am_b mt_Mo_touch) 117 = .ok (.goto 8, 3) := by decide +kernel
theorem d_Mo_touch_120 : decode (am_b mt_Mo_touch) 120 = .ok (.aload_n 0, 1) := by decide +kernel
theorem d_Mo_touch_121 : decode (am_b mt_Mo_touch) 121 = .ok (.iload_n 2, 1) := by decide +kernel
theorem d_Mo_touch_122 : decode (am_b mt_Mo_touch) 122 = .ok (.invokevirtual 222, 3) := by decide +kernel
theorem d_Mo_touch_125 : decode (am_b mt_Mo_touch) 125 = .ok (.return_, 1) := by decide +kernel
theorem d_Mo_show_0 : decode (am_b mt_Mo_show) 0 = .ok (.iload_n 3, 1) := by decide +kernel
theorem d_Mo_show_1 : decode (am_b mt_Mo_show) 1 = .ok (.aload_n 0, 1) := by decide +kernel
theorem d_Mo_show_2 : decode (am_b mt_Mo_show) 2 = .ok (.getfield 84, 3) := by decide +kernel
theorem d_Mo_show_5 : decode (am_b mt_Mo_show) 5 = .ok (.iload_n 2, 1) := by decide +kernel
