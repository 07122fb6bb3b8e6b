/-! Part 45 (1) (written by gen6.py): the instructions -/
theorem d_De_send_34 : decode (am_b mt_De_send) 34 = .ok (.aload_n 0, 1) := by decide +kernel
theorem d_De_send_35 : decode (am_b mt_De_send) 35 = .ok (.getfield 34, 3) := by decide +kernel
theorem d_De_send_38 : decode (am_b mt_De_send) 38 = .ok (.aload_n 0, 1) := by decide +kernel
theorem d_De_send_39 : decode (am_b mt_De_send) 39 = .ok (.getfield 40, 3) := by decide +kernel
theorem d_De_send_42 : decode (am_b mt_De_send) 42 = .ok (.iconst 4, 1) := by decide +kernel
theorem d_De_send_43 : decode (am_b mt_De_send) 43 = .ok (.aload_n 0, 1) := by decide +kernel
theorem d_De_send_44 : decode (am_b mt_De_send) 44 = .ok (.getfield 51, 3) := by decide +kernel
theorem d_De_send_47 : decode (am_b mt_De_send) 47 = .ok (.imul, 1) := by decide +kernel
theorem d_De_send_48 : decode (am_b mt_De_send) 48 = .ok (.iadd, 1) := by decide +kernel
theorem d_De_send_49 : decode (am_b mt_De_send) 49 = .ok (.bipush 8, 2) := by decide +kernel
theorem d_De_send_51 : decode (am_b mt_De_send) 51 = .ok (.aload_n 0, 1) := by decide +kernel
theorem d_De_send_52 : decode (am_b mt_De_send) 52 = .ok (.getfield 48, 3) := by decide +kernel
theorem d_De_send_55 : decode (am_b mt_De_send) 55 = .ok (.imul, 1) := by decide +kernel
theorem d_De_send_56 : decode (am_b mt_De_send) 56 = .ok (.iadd, 1) := by decide +kernel
theorem d_De_send_57 : decode (am_b mt_De_send) 57 = .ok (.invokevirtual 64, 3) := by decide +kernel
theorem d_De_send_60 : decode (am_b mt_De_send) 60 = .ok (.aload_n 0, 1) := by decide +kernel
theorem d_De_send_61 : decode (am_b mt_De_send) 61 = .ok (.getfield 34, 3) := by decide +kernel
theorem d_De_send_64 : decode (am_b mt_De_send) 64 = .ok (.aload_n 0, 1) := by decide +kernel
theorem d_De_send_65 : decode (am_b mt_De_send) 65 = .ok (.getfield 37, 3) := by decide +kernel
theorem d_De_send_68 : decode (am_b mt_De_send) 68 = .ok (.invokevirtual 67, 3) := by decide +kernel
theorem d_De_send_71 : decode (am_b mt_De_send) 71 = .ok (.invokevirtual 64, 3) := by decide +kernel
theorem d_De_send_74 : decode (am_b mt_De_send) 74 = .ok (.aload_n 0, 1) := by decide +kernel
theorem d_De_send_75 : decode (am_b mt_De_send) 75 = .ok (.getfield 34, 3) := by decide +kernel
theorem d_De_send_78 : decode (am_b mt_De_send) 78 = .ok (.aload_n 0, 1) := by decide +kernel
theorem d_De_send_79 : decode (am_b mt_De_send) 79 = .ok (.getfield 37, 3) := by decide +kernel
theorem d_De_send_82 : decode (am_b mt_De_send) 82 = .ok (.iconst 0, 1) := by decide +kernel
theorem d_De_send_83 : decode (am_b mt_De_send) 83 = .ok (.bipush 7, 2) := by decide +kernel
theorem d_De_send_85 : decode (am_b mt_De_send) 85 = .ok (.invokevirtual 71, 3) := by decide +kernel
theorem d_De_send_88 : decode (am_b mt_De_send) 88 = .ok (.aload_n 0, 1) := by decide +kernel
theorem d_De_send_89 : decode (am_b mt_De_send) 89 = .ok (.getfield 34, 3) := by decide +kernel
theorem d_De_send_92 : decode (am_b mt_De_send) 92 = .ok (.aload_n 0, 1) := by decide +kernel
theorem d_De_send_93 : decode (am_b mt_De_send) 93 = .ok (.getfield 34, 3) := by decide +kernel
theorem d_De_send_96 : decode (am_b mt_De_send) 96 = .ok (.aload_n 0, 1) := by decide +kernel
theorem d_De_send_97 : decode (am_b mt_De_send) 97 = .ok (.getfield 34, 3) := by decide +kernel
theorem d_De_send_100 : decode (am_b mt_De_send) 100 = .ok (.invokevirtual 67, 3) := by decide +kernel
theorem d_De_send_103 : decode (am_b mt_De_send) 103 = .ok (.invokestatic 75, 3) := by decide +kernel
theorem d_De_send_106 : decode (am_b mt_De_send) 106 = .ok (.i2l, 1) := by decide +kernel
theorem d_De_send_107 : decode (am_b mt_De_send) 107 = .ok (.iconst 3, 1) := by decide +kernel
theorem d_De_send_108 : decode (am_b mt_De_send) 108 = .ok (.invokevirtual 79, 3) := by decide +kernel
theorem d_De_send_111 : decode (am_b mt_De_send) 111 = .ok (.aload_n 0, 1) := by decide +kernel
theorem d_De_send_112 : decode (am_b mt_De_send) 112 = .ok (.getfield 30, 3) := by decide +kernel
theorem d_De_send_115 : decode (am_b mt_De_send) 115 = .ok (.invokevirtual 61, 3) := by decide +kernel
theorem d_De_send_118 : decode (am_b mt_De_send) 118 = .ok (.iconst 0, 1) := by decide +kernel
theorem d_De_send_119 : decode (am_b mt_De_send) 119 = .ok (.istore_n 2, 1) := by decide +kernel
theorem d_De_send_120 : decode (am_b mt_De_send) 120 = .ok (.iload_n 2, 1) := by decide +kernel
theorem d_De_send_121 : decode (am_b mt_De_send) 121 = .ok (.aload_n 0, 1) := by decide +kernel
theorem d_De_send_122 : decode (am_b mt_De_send) 122 = .ok (.getfield 34, 3) := by decide +kernel
theorem d_De_send_125 : decode (am_b mt_De_send) 125 = .ok (.invokevirtual 67, 3) := by decide +kernel
theorem d_De_send_128 : decode (am_b mt_De_send) 128 = .ok (.if_icmp .ge 29, 3) := by decide +kernel
theorem d_De_send_131 : decode (am_b mt_De_send) 131 = .ok (.aload_n 0, 1) := by decide +kernel
theorem d_De_send_132 : decode (am_b mt_De_send) 132 = .ok (.getfield 30, 3) := by decide +kernel
theorem d_De_send_135 : decode (am_b mt_De_send) 135 = .ok (.aload_n 1, 1) := by decide +kernel
theorem d_De_send_136 : decode (am_b mt_De_send) 136 = .ok (.iload_n 2, 1) := by decide +kernel
theorem d_De_send_137 : decode (am_b mt_De_send) 137 = .ok (.aload_n 0, 1) := by decide +kernel
theorem d_De_send_138 : decode (am_b mt_De_send) 138 = .ok (.getfield 34, 3) := by decide +kernel
theorem d_De_send_141 : decode (am_b mt_De_send) 141 = .ok (.iload_n 2, 1) := by decide +kernel
theorem d_De_send_142 : decode (am_b mt_De_send) 142 = .ok (.invokevirtual 83, 3) := by decide +kernel
theorem d_De_send_145 : decode (am_b mt_De_send) 145 = .ok (.invokevirtual 87, 3) := by decide +kernel
theorem d_De_send_148 : decode (am_b mt_De_send) 148 = .ok (.invokevirtual 64, 3) := by decide +kernel
theorem d_De_send_151 : decode (am_b mt_De_send) 151 = .ok (.iinc 2 1, 3) := by decide +kernel
theorem d_De_send_154 : decode (am_b mt_De_send) 154 = .ok (.goto (-34), 3) := by decide +kernel
theorem d_De_send_157 : decode (am_b mt_De_send) 157 = .ok (.return_, 1) := by decide +kernel
theorem d_Ou_takePiece_0 : decode (am_b mt_Ou_takePiece) 0 = .ok (.aload_n 1, 1) := by decide +kernel
theorem d_Ou_takePiece_1 : decode (am_b mt_Ou_takePiece) 1 = .ok (.invokevirtual 30, 3) := by decide +kernel
theorem d_Ou_takePiece_4 : decode (am_b mt_Ou_takePiece) 4 = .ok (.aload_n 0, 1) := by decide +kernel
theorem d_Ou_takePiece_5 : decode (am_b mt_Ou_takePiece) 5 = .ok (.getfield 24, 3) := by decide +kernel
theorem d_Ou_takePiece_8 : decode (am_b mt_Ou_takePiece) 8 = .ok (.ifCond .ne 5, 3) := by decide +kernel
theorem d_Ou_takePiece_11 : decode (am_b mt_Ou_takePiece) 11 = .ok (.iconst 1, 1) := by decide +kernel
theorem d_Ou_takePiece_12 : decode (am_b mt_Ou_takePiece) 12 = .ok (.ireturn, 1) := by decide +kernel
theorem d_Ou_takePiece_13 : decode (am_b mt_Ou_takePiece) 13 = .ok (.aload_n 0, 1) := by decide +kernel
theorem d_Ou_takePiece_14 : decode (am_b mt_Ou_takePiece) 14 = .ok (.getfield 13, 3) := by decide +kernel
theorem d_Ou_takePiece_17 : decode (am_b mt_Ou_takePiece) 17 = .ok (.aload_n 0, 1) := by decide +kernel
theorem d_Ou_takePiece_18 : decode (am_b mt_Ou_takePiece) 18 = .ok (.getfield 20, 3) := by decide +kernel
theorem d_Ou_takePiece_21 : decode (am_b mt_Ou_takePiece) 21 = .ok (.aaload, 1) := by decide +kernel
theorem d_Ou_takePiece_22 : decode (am_b mt_Ou_takePiece) 22 = .ok (.astore_n 2, 1) := by decide +kernel
theorem d_Ou_takePiece_23 : decode (am_b mt_Ou_takePiece) 23 = .ok (.aload_n 0, 1) := by decide +kernel
theorem d_Ou_takePiece_24 : decode (am_b mt_Ou_takePiece) 24 = .ok (.getfield 27, 3) := by decide +kernel
theorem d_Ou_takePiece_27 : decode (am_b mt_Ou_takePiece) 27 = .ok (.ifCond .ne 7, 3) := by decide +kernel
theorem d_Ou_takePiece_30 : decode (am_b mt_Ou_takePiece) 30 = .ok (.iconst 2, 1) := by decide +kernel
theorem d_Ou_takePiece_31 : decode (am_b mt_Ou_takePiece) 31 = .ok (.goto 4, 3) := by decide +kernel
theorem d_Ou_takePiece_34 : decode (am_b mt_Ou_takePiece) 34 = .ok (.iconst 1, 1) := by decide +kernel
theorem d_Ou_takePiece_35 : decode (am_b mt_Ou_takePiece) 35 = .ok (.istore_n 3, 1) := by decide +kernel
theorem d_Ou_takePiece_36 : decode (am_b mt_Ou_takePiece) 36 = .ok (.aload_n 1, 1) := by decide +kernel
theorem d_Ou_takePiece_37 : decode (am_b mt_Ou_takePiece) 37 = .ok (.aload_n 2, 1) := by decide +kernel
theorem d_Ou_takePiece_38 : decode (am_b mt_Ou_takePiece) 38 = .ok (.aload_n 0, 1) := by decide +kernel
theorem d_Ou_takePiece_39 : decode (am_b mt_Ou_takePiece) 39 = .ok (.getfield 27, 3) := by decide +kernel
theorem d_Ou_takePiece_42 : decode (am_b mt_Ou_takePiece) 42 = .ok (.bipush 7, 2) := by decide +kernel
theorem d_Ou_takePiece_44 : decode (am_b mt_Ou_takePiece) 44 = .ok (.invokevirtual 40, 3) := by decide +kernel
theorem d_Ou_takePiece_47 : decode (am_b mt_Ou_takePiece) 47 = .ok (.aload_n 0, 1) := by decide +kernel
theorem d_Ou_takePiece_48 : decode (am_b mt_Ou_takePiece) 48 = .ok (.dup, 1) := by decide +kernel
theorem d_Ou_takePiece_49 : decode (am_b mt_Ou_takePiece) 49 = .ok (.getfield 27, 3) := by decide +kernel
theorem d_Ou_takePiece_52 : decode (am_b mt_Ou_takePiece) 52 = .ok (.aload_n 1, 1) := by decide +kernel
theorem d_Ou_takePiece_53 : decode (am_b mt_Ou_takePiece) 53 = .ok (.invokevirtual 33, 3) := by decide +kernel
theorem d_Ou_takePiece_56 : decode (am_b mt_Ou_takePiece) 56 = .ok (.iadd, 1) := by decide +kernel
theorem d_Ou_takePiece_57 : decode (am_b mt_Ou_takePiece) 57 = .ok (.putfield 27, 3) := by decide +kernel
theorem d_Ou_takePiece_60 : decode (am_b mt_Ou_takePiece) 60 = .ok (.aload_n 0, 1) := by decide +kernel
theorem d_Ou_takePiece_61 : decode (am_b mt_Ou_takePiece) 61 = .ok (.getfield 27, 3) := by decide +kernel
theorem d_Ou_takePiece_64 : decode (am_b mt_Ou_takePiece) 64 = .ok (.aload_n 2, 1) := by decide +kernel
theorem d_Ou_takePiece_65 : decode (am_b mt_Ou_takePiece) 65 = .ok (.invokevirtual 33, 3) := by decide +kernel
theorem d_Ou_takePiece_68 : decode (am_b mt_Ou_takePiece) 68 = .ok (.if_icmp .lt 31, 3) := by decide +kernel
theorem d_Ou_takePiece_71 : decode (am_b mt_Ou_takePiece) 71 = .ok (.aload_n 0, 1) := by decide +kernel
theorem d_Ou_takePiece_72 : decode (am_b mt_Ou_takePiece) 72 = .ok (.aload_n 0, 1) := by decide +kernel
theorem d_Ou_takePiece_73 : decode (am_b mt_Ou_takePiece) 73 = .ok (.getfield 20, 3) := by decide +kernel
theorem d_Ou_takePiece_76 : decode (am_b mt_Ou_takePiece) 76 = .ok (.iconst 1, 1) := by decide +kernel
theorem d_Ou_takePiece_77 : decode (am_b mt_Ou_takePiece) 77 = .ok (.iadd, 1) := by decide +kernel
theorem d_Ou_takePiece_78 : decode (am_b mt_Ou_takePiece) 78 = .ok (.bipush 8, 2) := by decide +kernel
theorem d_Ou_takePiece_80 : decode (am_b mt_Ou_takePiece) 80 = .ok (.irem, 1) := by decide +kernel
theorem d_Ou_takePiece_81 : decode (am_b mt_Ou_takePiece) 81 = .ok (.putfield 20, 3) := by decide +kernel
theorem d_Ou_takePiece_84 : decode (am_b mt_Ou_takePiece) 84 = .ok (.aload_n 0, 1) := by decide +kernel
theorem d_Ou_takePiece_85 : decode (am_b mt_Ou_takePiece) 85 = .ok (.dup, 1) := by decide +kernel
theorem d_Ou_takePiece_86 : decode (am_b mt_Ou_takePiece) 86 = .ok (.getfield 24, 3) := by decide +kernel
theorem d_Ou_takePiece_89 : decode (am_b mt_Ou_takePiece) 89 = .ok (.iconst 1, 1) := by decide +kernel
theorem d_Ou_takePiece_90 : decode (am_b mt_Ou_takePiece) 90 = .ok (.isub, 1) := by decide +kernel
theorem d_Ou_takePiece_91 : decode (am_b mt_Ou_takePiece) 91 = .ok (.putfield 24, 3) := by decide +kernel
theorem d_Ou_takePiece_94 : decode (am_b mt_Ou_takePiece) 94 = .ok (.aload_n 0, 1) := by decide +kernel
theorem d_Ou_takePiece_95 : decode (am_b mt_Ou_takePiece) 95 = .ok (.iconst 0, 1) := by decide +kernel
theorem d_Ou_takePiece_96 : decode (am_b mt_Ou_takePiece) 96 = .ok (.putfield 27, 3) := by decide +kernel
theorem d_Ou_takePiece_99 : decode (am_b mt_Ou_takePiece) 99 = .ok (.iload_n 3, 1) := by decide +kernel
theorem d_Ou_takePiece_100 : decode (am_b mt_Ou_takePiece) 100 = .ok (.ireturn, 1) := by decide +kernel
theorem d_De_checkOf_0 : decode (am_b mt_De_checkOf) 0 = .ok (.ldc 111, 2) := by decide +kernel
theorem d_De_checkOf_2 : decode (am_b mt_De_checkOf) 2 = .ok (.istore_n 2, 1) := by decide +kernel
theorem d_De_checkOf_3 : decode (am_b mt_De_checkOf) 3 = .ok (.iconst 0, 1) := by decide +kernel
theorem d_De_checkOf_4 : decode (am_b mt_De_checkOf) 4 = .ok (.istore_n 3, 1) := by decide +kernel
theorem d_De_checkOf_5 : decode (am_b mt_De_checkOf) 5 = .ok (.iload_n 3, 1) := by decide +kernel
theorem d_De_checkOf_6 : decode (am_b mt_De_checkOf) 6 = .ok (.iload_n 1, 1) := by decide +kernel
theorem d_De_checkOf_7 : decode (am_b mt_De_checkOf) 7 = .ok (.if_icmp .ge 65, 3) := by decide +kernel
theorem d_De_checkOf_10 : decode (am_b mt_De_checkOf) 10 = .ok (.aload_n 0, 1) := by decide +kernel
theorem d_De_checkOf_11 : decode (am_b mt_De_checkOf) 11 = .ok (.iload_n 3, 1) := by decide +kernel
theorem d_De_checkOf_12 : decode (am_b mt_De_checkOf) 12 = .ok (.invokevirtual 83, 3) := by decide +kernel
theorem d_De_checkOf_15 : decode (am_b mt_De_checkOf) 15 = .ok (.istore 4, 2) := by decide +kernel
theorem d_De_checkOf_17 : decode (am_b mt_De_checkOf) 17 = .ok (.iconst 0, 1) := by decide +kernel
theorem d_De_checkOf_18 : decode (am_b mt_De_checkOf) 18 = .ok (.istore 5, 2) := by decide +kernel
theorem d_De_checkOf_20 : decode (am_b mt_De_checkOf) 20 = .ok (.iload 5, 2) := by decide +kernel
theorem d_De_checkOf_22 : decode (am_b mt_De_checkOf) 22 = .ok (.bipush 8, 2) := by decide +kernel
theorem d_De_checkOf_24 : decode (am_b mt_De_checkOf) 24 = .ok (.if_icmp .ge 42, 3) := by decide +kernel
theorem d_De_checkOf_27 : decode (am_b mt_De_checkOf) 27 = .ok (.iload_n 2, 1) := by decide +kernel
theorem d_De_checkOf_28 : decode (am_b mt_De_checkOf) 28 = .ok (.bipush 23, 2) := by decide +kernel
theorem d_De_checkOf_30 : decode (am_b mt_De_checkOf) 30 = .ok (.ishr, 1) := by decide +kernel
theorem d_De_checkOf_31 : decode (am_b mt_De_checkOf) 31 = .ok (.iconst 1, 1) := by decide +kernel
theorem d_De_checkOf_32 : decode (am_b mt_De_checkOf) 32 = .ok (.iand, 1) := by decide +kernel
theorem d_De_checkOf_33 : decode (am_b mt_De_checkOf) 33 = .ok (.istore 6, 2) := by decide +kernel
theorem d_De_checkOf_35 : decode (am_b mt_De_checkOf) 35 = .ok (.iload_n 2, 1) := by decide +kernel
theorem d_De_checkOf_36 : decode (am_b mt_De_checkOf) 36 = .ok (.iconst 1, 1) := by decide +kernel
theorem d_De_checkOf_37 : decode (am_b mt_De_checkOf) 37 = .ok (.ishl, 1) := by decide +kernel
theorem d_De_checkOf_38 : decode (am_b mt_De_checkOf) 38 = .ok (.ldc 112, 2) := by decide +kernel
theorem d_De_checkOf_40 : decode (am_b mt_De_checkOf) 40 = .ok (.iand, 1) := by decide +kernel
theorem d_De_checkOf_41 : decode (am_b mt_De_checkOf) 41 = .ok (.istore_n 2, 1) := by decide +kernel
theorem d_De_checkOf_42 : decode (am_b mt_De_checkOf) 42 = .ok (.iload 6, 2) := by decide +kernel
theorem d_De_checkOf_44 : decode (am_b mt_De_checkOf) 44 = .ok (.iload 4, 2) := by decide +kernel
theorem d_De_checkOf_46 : decode (am_b mt_De_checkOf) 46 = .ok (.iload 5, 2) := by decide +kernel
theorem d_De_checkOf_48 : decode (am_b mt_De_checkOf) 48 = .ok (.ishr, 1) := by decide +kernel
theorem d_De_checkOf_49 : decode (am_b mt_De_checkOf) 49 = .ok (.iconst 1, 1) := by decide +kernel
theorem d_De_checkOf_50 : decode (am_b mt_De_checkOf) 50 = .ok (.iand, 1) := by decide +kernel
theorem d_De_checkOf_51 : decode (am_b mt_De_checkOf) 51 = .ok (.if_icmp .eq 9, 3) := by decide +kernel
theorem d_De_checkOf_54 : decode (am_b mt_De_checkOf) 54 = .ok (.iload_n 2, 1) := by decide +kernel
theorem d_De_checkOf_55 : decode (am_b mt_De_checkOf) 55 = .ok (.sipush 1627, 3) := by decide +kernel
theorem d_De_checkOf_58 : decode (am_b mt_De_checkOf) 58 = .ok (.ixor, 1) := by decide +kernel
theorem d_De_checkOf_59 : decode (am_b mt_De_checkOf) 59 = .ok (.istore_n 2, 1) := by decide +kernel
theorem d_De_checkOf_60 : decode (am_b mt_De_checkOf) 60 = .ok (.iinc 5 1, 3) := by decide +kernel
theorem d_De_checkOf_63 : decode (am_b mt_De_checkOf) 63 = .ok (.goto (-43), 3) := by decide +kernel
theorem d_De_checkOf_66 : decode (am_b mt_De_checkOf) 66 = .ok (.iinc 3 1, 3) := by decide +kernel
theorem d_De_checkOf_69 : decode (am_b mt_De_checkOf) 69 = .ok (.goto (-64), 3) := by decide +kernel
theorem d_De_checkOf_72 : decode (am_b mt_De_checkOf) 72 = .ok (.iload_n 2, 1) := by decide +kernel
theorem d_De_checkOf_73 : decode (am_b mt_De_checkOf) 73 = .ok (.ireturn, 1) := by decide +kernel
theorem d_Ro_at_0 : decode (am_b mt_Ro_at) 0 = .ok (.iload_n 1, 1) := by decide +kernel
theorem d_Ro_at_1 : decode (am_b mt_Ro_at) 1 = .ok (.ifCond .lt 20, 3) := by decide +kernel
theorem d_Ro_at_4 : decode (am_b mt_Ro_at) 4 = .ok (.iload_n 1, 1) := by decide +kernel
theorem d_Ro_at_5 : decode (am_b mt_Ro_at) 5 = .ok (.aload_n 0, 1) := by decide +kernel
theorem d_Ro_at_6 : decode (am_b mt_Ro_at) 6 = .ok (.getfield 13, 3) := by decide +kernel
theorem d_Ro_at_9 : decode (am_b mt_Ro_at) 9 = .ok (.if_icmp .ge 12, 3) := by decide +kernel
theorem d_Ro_at_12 : decode (am_b mt_Ro_at) 12 = .ok (.aload_n 0, 1) := by decide +kernel
theorem d_Ro_at_13 : decode (am_b mt_Ro_at) 13 = .ok (.getfield 7, 3) := by decide +kernel
theorem d_Ro_at_16 : decode (am_b mt_Ro_at) 16 = .ok (.iload_n 1, 1) := by decide +kernel
theorem d_Ro_at_17 : decode (am_b mt_Ro_at) 17 = .ok (.iaload, 1) := by decide +kernel
theorem d_Ro_at_18 : decode (am_b mt_Ro_at) 18 = .ok (.goto 4, 3) := by decide +kernel
theorem d_Ro_at_21 : decode (am_b mt_Ro_at) 21 = .ok (.iconst 0, 1) := by decide +kernel
theorem d_Ro_at_22 : decode (am_b mt_Ro_at) 22 = .ok (.ireturn, 1) := by decide +kernel
theorem d_Wh_turnOver_0 : decode (am_b mt_Wh_turnOver) 0 = .ok (.iload_n 1, 1) := by decide +kernel
theorem d_Wh_turnOver_1 : decode (am_b mt_Wh_turnOver) 1 = .ok (.ifCond .lt 23, 3) := by decide +kernel
theorem d_Wh_turnOver_4 : decode (am_b mt_Wh_turnOver) 4 = .ok (.iload_n 1, 1) := by decide +kernel
theorem d_Wh_turnOver_5 : decode (am_b mt_Wh_turnOver) 5 = .ok (.aload_n 0, 1) := by decide +kernel
theorem d_Wh_turnOver_6 : decode (am_b mt_Wh_turnOver) 6 = .ok (.getfield 9, 3) := by decide +kernel
theorem d_Wh_turnOver_9 : decode (am_b mt_Wh_turnOver) 9 = .ok (.arraylength, 1) := by decide +kernel
theorem d_Wh_turnOver_10 : decode (am_b mt_Wh_turnOver) 10 = .ok (.if_icmp .ge 14, 3) := by decide +kernel
theorem d_Wh_turnOver_13 : decode (am_b mt_Wh_turnOver) 13 = .ok (.iload_n 2, 1) := by decide +kernel
theorem d_Wh_turnOver_14 : decode (am_b mt_Wh_turnOver) 14 = .ok (.aload_n 0, 1) := by decide +kernel
theorem d_Wh_turnOver_15 : decode (am_b mt_Wh_turnOver) 15 = .ok (.getfield 9, 3) := by decide +kernel
theorem d_Wh_turnOver_18 : decode (am_b mt_Wh_turnOver) 18 = .ok (.iload_n 1, 1) := by decide +kernel
theorem d_Wh_turnOver_19 : decode (am_b mt_Wh_turnOver) 19 = .ok (.iaload, 1) := by decide +kernel
theorem d_Wh_turnOver_20 : decode (am_b mt_Wh_turnOver) 20 = .ok (.ixor, 1) := by decide +kernel
theorem d_Wh_turnOver_21 : decode (am_b mt_Wh_turnOver) 21 = .ok (.goto 4, 3) := by decide +kernel
theorem d_Wh_turnOver_24 : decode (am_b mt_Wh_turnOver) 24 = .ok (.iload_n 2, 1) := by decide +kernel
theorem d_Wh_turnOver_25 : decode (am_b mt_Wh_turnOver) 25 = .ok (.ireturn, 1) := by decide +kernel
theorem d_De_hear_0 : decode (am_b mt_De_hear) 0 = .ok (.aload_n 0, 1) := by decide +kernel
theorem d_De_hear_1 : decode (am_b mt_De_hear) 1 = .ok (.getfield 21, 3) := by decide +kernel
theorem d_De_hear_4 : decode (am_b mt_De_hear) 4 = .ok (.invokevirtual 93, 3) := by decide +kernel
theorem d_De_hear_7 : decode (am_b mt_De_hear) 7 = .ok (.aload_n 0, 1) := by decide +kernel
theorem d_De_hear_8 : decode (am_b mt_De_hear) 8 = .ok (.getfield 34, 3) := by decide +kernel
theorem d_De_hear_11 : decode (am_b mt_De_hear) 11 = .ok (.invokevirtual 61, 3) := by decide +kernel
theorem d_De_hear_14 : decode (am_b mt_De_hear) 14 = .ok (.iconst 0, 1) := by decide +kernel
theorem d_De_hear_15 : decode (am_b mt_De_hear) 15 = .ok (.istore 5, 2) := by decide +kernel
theorem d_De_hear_17 : decode (am_b mt_De_hear) 17 = .ok (.iload 5, 2) := by decide +kernel
theorem d_De_hear_19 : decode (am_b mt_De_hear) 19 = .ok (.aload_n 1, 1) := by decide +kernel
theorem d_De_hear_20 : decode (am_b mt_De_hear) 20 = .ok (.invokevirtual 67, 3) := by decide +kernel
theorem d_De_hear_23 : decode (am_b mt_De_hear) 23 = .ok (.if_icmp .ge 36, 3) := by decide +kernel
theorem d_De_hear_26 : decode (am_b mt_De_hear) 26 = .ok (.aload_n 0, 1) := by decide +kernel
theorem d_De_hear_27 : decode (am_b mt_De_hear) 27 = .ok (.getfield 34, 3) := by decide +kernel
theorem d_De_hear_30 : decode (am_b mt_De_hear) 30 = .ok (.aload 4, 2) := by decide +kernel
theorem d_De_hear_32 : decode (am_b mt_De_hear) 32 = .ok (.iload 5, 2) := by decide +kernel
theorem d_De_hear_34 : decode (am_b mt_De_hear) 34 = .ok (.aload_n 1, 1) := by decide +kernel
theorem d_De_hear_35 : decode (am_b mt_De_hear) 35 = .ok (.iload 5, 2) := by decide +kernel
theorem d_De_hear_37 : decode (am_b mt_De_hear) 37 = .ok (.invokevirtual 83, 3) := by decide +kernel
theorem d_De_hear_40 : decode (am_b mt_De_hear) 40 = .ok (.lload_n 2, 1) := by decide +kernel
theorem d_De_hear_41 : decode (am_b mt_De_hear) 41 = .ok (.iload 5, 2) := by decide +kernel
theorem d_De_hear_43 : decode (am_b mt_De_hear) 43 = .ok (.invokestatic 96, 3) := by decide +kernel
theorem d_De_hear_46 : decode (am_b mt_De_hear) 46 = .ok (.ixor, 1) := by decide +kernel
theorem d_De_hear_47 : decode (am_b mt_De_hear) 47 = .ok (.invokevirtual 87, 3) := by decide +kernel
theorem d_De_hear_50 : decode (am_b mt_De_hear) 50 = .ok (.invokevirtual 64, 3) := by decide +kernel
theorem d_De_hear_53 : decode (am_b mt_De_hear) 53 = .ok (.iinc 5 1, 3) := by decide +kernel
theorem d_De_hear_56 : decode (am_b mt_De_hear) 56 = .ok (.goto (-39), 3) := by decide +kernel
theorem d_De_hear_59 : decode (am_b mt_De_hear) 59 = .ok (.aload_n 0, 1) := by decide +kernel
theorem d_De_hear_60 : decode (am_b mt_De_hear) 60 = .ok (.invokevirtual 100, 3) := by decide +kernel
theorem d_De_hear_63 : decode (am_b mt_De_hear) 63 = .ok (.ifCond .ne 5, 3) := by decide +kernel
theorem d_De_hear_66 : decode (am_b mt_De_hear) 66 = .ok (.iconst 0, 1) := by decide +kernel
theorem d_De_hear_67 : decode (am_b mt_De_hear) 67 = .ok (.ireturn, 1) := by decide +kernel
theorem d_De_hear_68 : decode (am_b mt_De_hear) 68 = .ok (.aload_n 0, 1) := by decide +kernel
theorem d_De_hear_69 : decode (am_b mt_De_hear) 69 = .ok (.invokevirtual 104, 3) := by decide +kernel
theorem d_De_hear_72 : decode (am_b mt_De_hear) 72 = .ok (.iconst 1, 1) := by decide +kernel
theorem d_De_hear_73 : decode (am_b mt_De_hear) 73 = .ok (.ireturn, 1) := by decide +kernel
theorem d_In_forgetDone_0 : decode (am_b mt_In_forgetDone) 0 = .ok (.aload_n 0, 1) := by decide +kernel
theorem d_In_forgetDone_1 : decode (am_b mt_In_forgetDone) 1 = .ok (.iconst 0, 1) := by decide +kernel
theorem d_In_forgetDone_2 : decode (am_b mt_In_forgetDone) 2 = .ok (.putfield 27, 3) := by decide +kernel
theorem d_In_forgetDone_5 : decode (am_b mt_In_forgetDone) 5 = .ok (.return_, 1) := by decide +kernel
theorem d_De_spoilAt_0 : decode (am_b mt_De_spoilAt) 0 = .ok (.iload_n 2, 1) := by decide +kernel
theorem d_De_spoilAt_1 : decode (am_b mt_De_spoilAt) 1 = .ok (.bipush 8, 2) := by decide +kernel
theorem d_De_spoilAt_3 : decode (am_b mt_De_spoilAt) 3 = .ok (.if_icmp .ge 20, 3) := by decide +kernel
theorem d_De_spoilAt_6 : decode (am_b mt_De_spoilAt) 6 = .ok (.lload_n 0, 1) := by decide +kernel
theorem d_De_spoilAt_7 : decode (am_b mt_De_spoilAt) 7 = .ok (.bipush 56, 2) := by decide +kernel
theorem d_De_spoilAt_9 : decode (am_b mt_De_spoilAt) 9 = .ok (.bipush 8, 2) := by decide +kernel
theorem d_De_spoilAt_11 : decode (am_b mt_De_spoilAt) 11 = .ok (.iload_n 2, 1) := by decide +kernel
theorem d_De_spoilAt_12 : decode (am_b mt_De_spoilAt) 12 = .ok (.imul, 1) := by decide +kernel
theorem d_De_spoilAt_13 : decode (am_b mt_De_spoilAt) 13 = .ok (.isub, 1) := by decide +kernel
theorem d_De_spoilAt_14 : decode (am_b mt_De_spoilAt) 14 = .ok (.lushr, 1) := by decide +kernel
theorem d_De_spoilAt_15 : decode (am_b mt_De_spoilAt) 15 = .ok (.l2i, 1) := by decide +kernel
theorem d_De_spoilAt_16 : decode (am_b mt_De_spoilAt) 16 = .ok (.sipush 255, 3) := by decide +kernel
theorem d_De_spoilAt_19 : decode (am_b mt_De_spoilAt) 19 = .ok (.iand, 1) := by decide +kernel
theorem d_De_spoilAt_20 : decode (am_b mt_De_spoilAt) 20 = .ok (.goto 4, 3) := by decide +kernel
theorem d_De_spoilAt_23 : decode (am_b mt_De_spoilAt) 23 = .ok (.iconst 0, 1) := by decide +kernel
theorem d_De_spoilAt_24 : decode (am_b mt_De_spoilAt) 24 = .ok (.ireturn, 1) := by decide +kernel
theorem d_De_isGood_0 : decode (am_b mt_De_isGood) 0 = .ok (.aload_n 0, 1) := by decide +kernel
theorem d_De_isGood_1 : decode (am_b mt_De_isGood) 1 = .ok (.getfield 34, 3) := by decide +kernel
theorem d_De_isGood_4 : decode (am_b mt_De_isGood) 4 = .ok (.invokevirtual 67, 3) := by decide +kernel
theorem d_De_isGood_7 : decode (am_b mt_De_isGood) 7 = .ok (.iconst 3, 1) := by decide +kernel
theorem d_De_isGood_8 : decode (am_b mt_De_isGood) 8 = .ok (.isub, 1) := by decide +kernel
theorem d_De_isGood_9 : decode (am_b mt_De_isGood) 9 = .ok (.istore_n 1, 1) := by decide +kernel
theorem d_De_isGood_10 : decode (am_b mt_De_isGood) 10 = .ok (.aload_n 0, 1) := by decide +kernel
theorem d_De_isGood_11 : decode (am_b mt_De_isGood) 11 = .ok (.getfield 34, 3) := by decide +kernel
theorem d_De_isGood_14 : decode (am_b mt_De_isGood) 14 = .ok (.iconst 1, 1) := by decide +kernel
theorem d_De_isGood_15 : decode (am_b mt_De_isGood) 15 = .ok (.invokevirtual 83, 3) := by decide +kernel
theorem d_De_isGood_18 : decode (am_b mt_De_isGood) 18 = .ok (.bipush 7, 2) := by decide +kernel
theorem d_De_isGood_20 : decode (am_b mt_De_isGood) 20 = .ok (.if_icmp .gt 17, 3) := by decide +kernel
theorem d_De_isGood_23 : decode (am_b mt_De_isGood) 23 = .ok (.aload_n 0, 1) := by decide +kernel
theorem d_De_isGood_24 : decode (am_b mt_De_isGood) 24 = .ok (.getfield 34, 3) := by decide +kernel
theorem d_De_isGood_27 : decode (am_b mt_De_isGood) 27 = .ok (.iconst 1, 1) := by decide +kernel
theorem d_De_isGood_28 : decode (am_b mt_De_isGood) 28 = .ok (.invokevirtual 83, 3) := by decide +kernel
theorem d_De_isGood_31 : decode (am_b mt_De_isGood) 31 = .ok (.iload_n 1, 1) := by decide +kernel
theorem d_De_isGood_32 : decode (am_b mt_De_isGood) 32 = .ok (.iconst 2, 1) := by decide +kernel
theorem d_De_isGood_33 : decode (am_b mt_De_isGood) 33 = .ok (.isub, 1) := by decide +kernel
theorem d_De_isGood_34 : decode (am_b mt_De_isGood) 34 = .ok (.if_icmp .eq 5, 3) := by decide +kernel
theorem d_De_isGood_37 : decode (am_b mt_De_isGood) 37 = .ok (.iconst 0, 1) := by decide +kernel
theorem d_De_isGood_38 : decode (am_b mt_De_isGood) 38 = .ok (.ireturn, 1) := by decide +kernel
theorem d_De_isGood_39 : decode (am_b mt_De_isGood) 39 = .ok (.aload_n 0, 1) := by decide +kernel
theorem d_De_isGood_40 : decode (am_b mt_De_isGood) 40 = .ok (.getfield 34, 3) := by decide +kernel
theorem d_De_isGood_43 : decode (am_b mt_De_isGood) 43 = .ok (.iload_n 1, 1) := by decide +kernel
theorem d_De_isGood_44 : decode (am_b mt_De_isGood) 44 = .ok (.invokevirtual 83, 3) := by decide +kernel
theorem d_De_isGood_47 : decode (am_b mt_De_isGood) 47 = .ok (.bipush 16, 2) := by decide +kernel
theorem d_De_isGood_49 : decode (am_b mt_De_isGood) 49 = .ok (.ishl, 1) := by decide +kernel
theorem d_De_isGood_50 : decode (am_b mt_De_isGood) 50 = .ok (.aload_n 0, 1) := by decide +kernel
theorem d_De_isGood_51 : decode (am_b mt_De_isGood) 51 = .ok (.getfield 34, 3) := by decide +kernel
theorem d_De_isGood_54 : decode (am_b mt_De_isGood) 54 = .ok (.iload_n 1, 1) := by decide +kernel
theorem d_De_isGood_55 : decode (am_b mt_De_isGood) 55 = .ok (.iconst 1, 1) := by decide +kernel
theorem d_De_isGood_56 : decode (am_b mt_De_isGood) 56 = .ok (.iadd, 1) := by decide +kernel
theorem d_De_isGood_57 : decode (am_b mt_De_isGood) 57 = .ok (.invokevirtual 83, 3) := by decide +kernel
theorem d_De_isGood_60 : decode (am_b mt_De_isGood) 60 = .ok (.bipush 8, 2) := by decide +kernel
theorem d_De_isGood_62 : decode (am_b mt_De_isGood) 62 = .ok (.ishl, 1) := by decide +kernel
theorem d_De_isGood_63 : decode (am_b mt_De_isGood) 63 = .ok (.ior, 1) := by decide +kernel
theorem d_De_isGood_64 : decode (am_b mt_De_isGood) 64 = .ok (.aload_n 0, 1) := by decide +kernel
theorem d_De_isGood_65 : decode (am_b mt_De_isGood) 65 = .ok (.getfield 34, 3) := by decide +kernel
theorem d_De_isGood_68 : decode (am_b mt_De_isGood) 68 = .ok (.iload_n 1, 1) := by decide +kernel
theorem d_De_isGood_69 : decode (am_b mt_De_isGood) 69 = .ok (.iconst 2, 1) := by decide +kernel
theorem d_De_isGood_70 : decode (am_b mt_De_isGood) 70 = .ok (.iadd, 1) := by decide +kernel
theorem d_De_isGood_71 : decode (am_b mt_De_isGood) 71 = .ok (.invokevirtual 83, 3) := by decide +kernel
theorem d_De_isGood_74 : decode (am_b mt_De_isGood) 74 = .ok (.ior, 1) := by decide +kernel
theorem d_De_isGood_75 : decode (am_b mt_De_isGood) 75 = .ok (.istore_n 2, 1) := by decide +kernel
theorem d_De_isGood_76 : decode (am_b mt_De_isGood) 76 = .ok (.iload_n 2, 1) := by decide +kernel
theorem d_De_isGood_77 : decode (am_b mt_De_isGood) 77 = .ok (.aload_n 0, 1) := by decide +kernel
theorem d_De_isGood_78 : decode (am_b mt_De_isGood) 78 = .ok (.getfield 34, 3) := by decide +kernel
theorem d_De_isGood_81 : decode (am_b mt_De_isGood) 81 = .ok (.iload_n 1, 1) := by decide +kernel
theorem d_De_isGood_82 : decode (am_b mt_De_isGood) 82 = .ok (.invokestatic 75, 3) := by decide +kernel
theorem d_De_isGood_85 : decode (am_b mt_De_isGood) 85 = .ok (.if_icmp .ne 7, 3) := by decide +kernel
theorem d_De_isGood_88 : decode (am_b mt_De_isGood) 88 = .ok (.iconst 1, 1) := by decide +kernel
theorem d_De_isGood_89 : decode (am_b mt_De_isGood) 89 = .ok (.goto 4, 3) := by decide +kernel
theorem d_De_isGood_92 : decode (am_b mt_De_isGood) 92 = .ok (.iconst 0, 1) := by decide +kernel
theorem d_De_isGood_93 : decode (am_b mt_De_isGood) 93 = .ok (.ireturn, 1) := by decide +kernel
theorem d_De_accept_0 : decode (am_b mt_De_accept) 0 = .ok (.aload_n 0, 1) := by decide +kernel
theorem d_De_accept_1 : decode (am_b mt_De_accept) 1 = .ok (.getfield 34, 3) := by decide +kernel
theorem d_De_accept_4 : decode (am_b mt_De_accept) 4 = .ok (.iconst 0, 1) := by decide +kernel
theorem d_De_accept_5 : decode (am_b mt_De_accept) 5 = .ok (.invokevirtual 83, 3) := by decide +kernel
theorem d_De_accept_8 : decode (am_b mt_De_accept) 8 = .ok (.istore_n 1, 1) := by decide +kernel
theorem d_De_accept_9 : decode (am_b mt_De_accept) 9 = .ok (.iload_n 1, 1) := by decide +kernel
theorem d_De_accept_10 : decode (am_b mt_De_accept) 10 = .ok (.iconst 2, 1) := by decide +kernel
theorem d_De_accept_11 : decode (am_b mt_De_accept) 11 = .ok (.ishr, 1) := by decide +kernel
theorem d_De_accept_12 : decode (am_b mt_De_accept) 12 = .ok (.iconst 1, 1) := by decide +kernel
theorem d_De_accept_13 : decode (am_b mt_De_accept) 13 = .ok (.iand, 1) := by decide +kernel
theorem d_De_accept_14 : decode (am_b mt_De_accept) 14 = .ok (.aload_n 0, 1) := by decide +kernel
theorem d_De_accept_15 : decode (am_b mt_De_accept) 15 = .ok (.getfield 48, 3) := by decide +kernel
theorem d_De_accept_18 : decode (am_b mt_De_accept) 18 = .ok (.if_icmp .eq 18, 3) := by decide +kernel
theorem d_De_accept_21 : decode (am_b mt_De_accept) 21 = .ok (.aload_n 0, 1) := by decide +kernel
theorem d_De_accept_22 : decode (am_b mt_De_accept) 22 = .ok (.iconst 1, 1) := by decide +kernel
theorem d_De_accept_23 : decode (am_b mt_De_accept) 23 = .ok (.aload_n 0, 1) := by decide +kernel
theorem d_De_accept_24 : decode (am_b mt_De_accept) 24 = .ok (.getfield 48, 3) := by decide +kernel
theorem d_De_accept_27 : decode (am_b mt_De_accept) 27 = .ok (.isub, 1) := by decide +kernel
theorem d_De_accept_28 : decode (am_b mt_De_accept) 28 = .ok (.putfield 48, 3) := by decide +kernel
theorem d_De_accept_31 : decode (am_b mt_De_accept) 31 = .ok (.aload_n 0, 1) := by decide +kernel
theorem d_De_accept_32 : decode (am_b mt_De_accept) 32 = .ok (.iconst 0, 1) := by decide +kernel
theorem d_De_accept_33 : decode (am_b mt_De_accept) 33 = .ok (.putfield 44, 3) := by decide +kernel
theorem d_De_accept_36 : decode (am_b mt_De_accept) 36 = .ok (.iload_n 1, 1) := by decide +kernel
theorem d_De_accept_37 : decode (am_b mt_De_accept) 37 = .ok (.iconst 3, 1) := by decide +kernel
theorem d_De_accept_38 : decode (am_b mt_De_accept) 38 = .ok (.ishr, 1) := by decide +kernel
theorem d_De_accept_39 : decode (am_b mt_De_accept) 39 = .ok (.iconst 1, 1) := by decide +kernel
theorem d_De_accept_40 : decode (am_b mt_De_accept) 40 = .ok (.iand, 1) := by decide +kernel
theorem d_De_accept_41 : decode (am_b mt_De_accept) 41 = .ok (.aload_n 0, 1) := by decide +kernel
theorem d_De_accept_42 : decode (am_b mt_De_accept) 42 = .ok (.getfield 51, 3) := by decide +kernel
theorem d_De_accept_45 : decode (am_b mt_De_accept) 45 = .ok (.if_icmp .ne 38, 3) := by decide +kernel
theorem d_De_accept_48 : decode (am_b mt_De_accept) 48 = .ok (.aload_n 0, 1) := by decide +kernel
theorem d_De_accept_49 : decode (am_b mt_De_accept) 49 = .ok (.iconst 1, 1) := by decide +kernel
theorem d_De_accept_50 : decode (am_b mt_De_accept) 50 = .ok (.aload_n 0, 1) := by decide +kernel
theorem d_De_accept_51 : decode (am_b mt_De_accept) 51 = .ok (.getfield 51, 3) := by decide +kernel
theorem d_De_accept_54 : decode (am_b mt_De_accept) 54 = .ok (.isub, 1) := by decide +kernel
theorem d_De_accept_55 : decode (am_b mt_De_accept) 55 = .ok (.putfield 51, 3) := by decide +kernel
theorem d_De_accept_58 : decode (am_b mt_De_accept) 58 = .ok (.aload_n 0, 1) := by decide +kernel
theorem d_De_accept_59 : decode (am_b mt_De_accept) 59 = .ok (.getfield 34, 3) := by decide +kernel
theorem d_De_accept_62 : decode (am_b mt_De_accept) 62 = .ok (.iconst 1, 1) := by decide +kernel
theorem d_De_accept_63 : decode (am_b mt_De_accept) 63 = .ok (.invokevirtual 83, 3) := by decide +kernel
theorem d_De_accept_66 : decode (am_b mt_De_accept) 66 = .ok (.ifCond .le 17, 3) := by decide +kernel
theorem d_De_accept_69 : decode (am_b mt_De_accept) 69 = .ok (.aload_n 0, 1) := by decide +kernel
theorem d_De_accept_70 : decode (am_b mt_De_accept) 70 = .ok (.getfield 21, 3) := by decide +kernel
theorem d_De_accept_73 : decode (am_b mt_De_accept) 73 = .ok (.iload_n 1, 1) := by decide +kernel
theorem d_De_accept_74 : decode (am_b mt_De_accept) 74 = .ok (.iconst 3, 1) := by decide +kernel
theorem d_De_accept_75 : decode (am_b mt_De_accept) 75 = .ok (.iand, 1) := by decide +kernel
theorem d_De_accept_76 : decode (am_b mt_De_accept) 76 = .ok (.aload_n 0, 1) := by decide +kernel
theorem d_De_accept_77 : decode (am_b mt_De_accept) 77 = .ok (.getfield 34, 3) := by decide +kernel
theorem d_De_accept_80 : decode (am_b mt_De_accept) 80 = .ok (.invokevirtual 107, 3) := by decide +kernel
theorem d_De_accept_83 : decode (am_b mt_De_accept) 83 = .ok (.return_, 1) := by decide +kernel
theorem d_In_take_0 : decode (am_b mt_In_take) 0 = .ok (.iload_n 1, 1) := by decide +kernel
theorem d_In_take_1 : decode (am_b mt_In_take) 1 = .ok (.iconst 2, 1) := by decide +kernel
theorem d_In_take_2 : decode (am_b mt_In_take) 2 = .ok (.if_icmp .ne 18, 3) := by decide +kernel
theorem d_In_take_5 : decode (am_b mt_In_take) 5 = .ok (.aload_n 0, 1) := by decide +kernel
theorem d_In_take_6 : decode (am_b mt_In_take) 6 = .ok (.getfield 20, 3) := by decide +kernel
theorem d_In_take_9 : decode (am_b mt_In_take) 9 = .ok (.invokevirtual 30, 3) := by decide +kernel
theorem d_In_take_12 : decode (am_b mt_In_take) 12 = .ok (.aload_n 0, 1) := by decide +kernel
theorem d_In_take_13 : decode (am_b mt_In_take) 13 = .ok (.iconst 1, 1) := by decide +kernel
theorem d_In_take_14 : decode (am_b mt_In_take) 14 = .ok (.putfield 23, 3) := by decide +kernel
theorem d_In_take_17 : decode (am_b mt_In_take) 17 = .ok (.goto 16, 3) := by decide +kernel
theorem d_In_take_20 : decode (am_b mt_In_take) 20 = .ok (.iload_n 1, 1) := by decide +kernel
theorem d_In_take_21 : decode (am_b mt_In_take) 21 = .ok (.iconst 1, 1) := by decide +kernel
theorem d_In_take_22 : decode (am_b mt_In_take) 22 = .ok (.if_icmp .ne 10, 3) := by decide +kernel
theorem d_In_take_25 : decode (am_b mt_In_take) 25 = .ok (.aload_n 0, 1) := by decide +kernel
theorem d_In_take_26 : decode (am_b mt_In_take) 26 = .ok (.getfield 23, 3) := by decide +kernel
theorem d_In_take_29 : decode (am_b mt_In_take) 29 = .ok (.ifCond .ne 4, 3) := by decide +kernel
theorem d_In_take_32 : decode (am_b mt_In_take) 32 = .ok (.return_, 1) := by decide +kernel
theorem d_In_take_33 : decode (am_b mt_In_take) 33 = .ok (.aload_n 0, 1) := by decide +kernel
theorem d_In_take_34 : decode (am_b mt_In_take) 34 = .ok (.getfield 20, 3) := by decide +kernel
theorem d_In_take_37 : decode (am_b mt_In_take) 37 = .ok (.aload_n 2, 1) := by decide +kernel
theorem d_In_take_38 : decode (am_b mt_In_take) 38 = .ok (.iconst 2, 1) := by decide +kernel
theorem d_In_take_39 : decode (am_b mt_In_take) 39 = .ok (.aload_n 2, 1) := by decide +kernel
theorem d_In_take_40 : decode (am_b mt_In_take) 40 = .ok (.iconst 1, 1) := by decide +kernel
theorem d_In_take_41 : decode (am_b mt_In_take) 41 = .ok (.invokevirtual 33, 3) := by decide +kernel
theorem d_In_take_44 : decode (am_b mt_In_take) 44 = .ok (.invokevirtual 37, 3) := by decide +kernel
theorem d_In_take_47 : decode (am_b mt_In_take) 47 = .ok (.aload_n 0, 1) := by decide +kernel
theorem d_In_take_48 : decode (am_b mt_In_take) 48 = .ok (.getfield 20, 3) := by decide +kernel
theorem d_In_take_51 : decode (am_b mt_In_take) 51 = .ok (.iconst 0, 1) := by decide +kernel
theorem d_In_take_52 : decode (am_b mt_In_take) 52 = .ok (.invokevirtual 33, 3) := by decide +kernel
theorem d_In_take_55 : decode (am_b mt_In_take) 55 = .ok (.istore_n 3, 1) := by decide +kernel
theorem d_In_take_56 : decode (am_b mt_In_take) 56 = .ok (.aload_n 0, 1) := by decide +kernel
theorem d_In_take_57 : decode (am_b mt_In_take) 57 = .ok (.iload_n 3, 1) := by decide +kernel
theorem d_In_take_58 : decode (am_b mt_In_take) 58 = .ok (.invokevirtual 41, 3) := by decide +kernel
theorem d_In_take_61 : decode (am_b mt_In_take) 61 = .ok (.ifCond .ne 11, 3) := by decide +kernel
theorem d_In_take_64 : decode (am_b mt_In_take) 64 = .ok (.aload_n 0, 1) := by decide +kernel
theorem d_In_take_65 : decode (am_b mt_In_take) 65 = .ok (.iconst 0, 1) := by decide +kernel
theorem d_In_take_66 : decode (am_b mt_In_take) 66 = .ok (.putfield 23, 3) := by decide +kernel
theorem d_In_take_69 : decode (am_b mt_In_take) 69 = .ok (.goto 46, 3) := by decide +kernel
theorem d_In_take_72 : decode (am_b mt_In_take) 72 = .ok (.aload_n 0, 1) := by decide +kernel
theorem d_In_take_73 : decode (am_b mt_In_take) 73 = .ok (.getfield 20, 3) := by decide +kernel
theorem d_In_take_76 : decode (am_b mt_In_take) 76 = .ok (.invokevirtual 45, 3) := by decide +kernel
theorem d_In_take_79 : decode (am_b mt_In_take) 79 = .ok (.iload_n 3, 1) := by decide +kernel
theorem d_In_take_80 : decode (am_b mt_In_take) 80 = .ok (.iconst 4, 1) := by decide +kernel
theorem d_In_take_81 : decode (am_b mt_In_take) 81 = .ok (.iadd, 1) := by decide +kernel
theorem d_In_take_82 : decode (am_b mt_In_take) 82 = .ok (.if_icmp .ne 33, 3) := by decide +kernel
theorem d_In_take_85 : decode (am_b mt_In_take) 85 = .ok (.aload_n 0, 1) := by decide +kernel
theorem d_In_take_86 : decode (am_b mt_In_take) 86 = .ok (.iconst 0, 1) := by decide +kernel
theorem d_In_take_87 : decode (am_b mt_In_take) 87 = .ok (.putfield 23, 3) := by decide +kernel
theorem d_In_take_90 : decode (am_b mt_In_take) 90 = .ok (.aload_n 0, 1) := by decide +kernel
theorem d_In_take_91 : decode (am_b mt_In_take) 91 = .ok (.iconst 1, 1) := by decide +kernel
theorem d_In_take_92 : decode (am_b mt_In_take) 92 = .ok (.putfield 27, 3) := by decide +kernel
theorem d_In_take_95 : decode (am_b mt_In_take) 95 = .ok (.aload_n 0, 1) := by decide +kernel
theorem d_In_take_96 : decode (am_b mt_In_take) 96 = .ok (.getfield 14, 3) := by decide +kernel
theorem d_In_take_99 : decode (am_b mt_In_take) 99 = .ok (.invokevirtual 30, 3) := by decide +kernel
theorem d_In_take_102 : decode (am_b mt_In_take) 102 = .ok (.aload_n 0, 1) := by decide +kernel
theorem d_In_take_103 : decode (am_b mt_In_take) 103 = .ok (.getfield 14, 3) := by decide +kernel
theorem d_In_take_106 : decode (am_b mt_In_take) 106 = .ok (.aload_n 0, 1) := by decide +kernel
theorem d_In_take_107 : decode (am_b mt_In_take) 107 = .ok (.getfield 20, 3) := by decide +kernel
theorem d_In_take_110 : decode (am_b mt_In_take) 110 = .ok (.iconst 4, 1) := by decide +kernel
theorem d_In_take_111 : decode (am_b mt_In_take) 111 = .ok (.iload_n 3, 1) := by decide +kernel
theorem d_In_take_112 : decode (am_b mt_In_take) 112 = .ok (.invokevirtual 37, 3) := by decide +kernel
theorem d_In_take_115 : decode (am_b mt_In_take) 115 = .ok (.return_, 1) := by decide +kernel
theorem d_In_isSound_0 : decode (am_b mt_In_isSound) 0 = .ok (.iload_n 1, 1) := by decide +kernel
theorem d_In_isSound_1 : decode (am_b mt_In_isSound) 1 = .ok (.bipush 20, 2) := by decide +kernel
theorem d_In_isSound_3 : decode (am_b mt_In_isSound) 3 = .ok (.if_icmp .gt 16, 3) := by decide +kernel
theorem d_In_isSound_6 : decode (am_b mt_In_isSound) 6 = .ok (.aload_n 0, 1) := by decide +kernel
theorem d_In_isSound_7 : decode (am_b mt_In_isSound) 7 = .ok (.getfield 20, 3) := by decide +kernel
theorem d_In_isSound_10 : decode (am_b mt_In_isSound) 10 = .ok (.invokevirtual 45, 3) := by decide +kernel
theorem d_In_isSound_13 : decode (am_b mt_In_isSound) 13 = .ok (.iload_n 1, 1) := by decide +kernel
theorem d_In_isSound_14 : decode (am_b mt_In_isSound) 14 = .ok (.iconst 4, 1) := by decide +kernel
theorem d_In_isSound_15 : decode (am_b mt_In_isSound) 15 = .ok (.iadd, 1) := by decide +kernel
theorem d_In_isSound_16 : decode (am_b mt_In_isSound) 16 = .ok (.if_icmp .le 5, 3) := by decide +kernel
theorem d_In_isSound_19 : decode (am_b mt_In_isSound) 19 = .ok (.iconst 0, 1) := by decide +kernel
theorem d_In_isSound_20 : decode (am_b mt_In_isSound) 20 = .ok (.ireturn, 1) := by decide +kernel
theorem d_In_isSound_21 : decode (am_b mt_In_isSound) 21 = .ok (.aload_n 0, 1) := by decide +kernel
theorem d_In_isSound_22 : decode (am_b mt_In_isSound) 22 = .ok (.getfield 20, 3) := by decide +kernel
theorem d_In_isSound_25 : decode (am_b mt_In_isSound) 25 = .ok (.invokevirtual 45, 3) := by decide +kernel
theorem d_In_isSound_28 : decode (am_b mt_In_isSound) 28 = .ok (.iconst 4, 1) := by decide +kernel
theorem d_In_isSound_29 : decode (am_b mt_In_isSound) 29 = .ok (.if_icmp .lt 37, 3) := by decide +kernel
theorem d_In_isSound_32 : decode (am_b mt_In_isSound) 32 = .ok (.aload_n 0, 1) := by decide +kernel
theorem d_In_isSound_33 : decode (am_b mt_In_isSound) 33 = .ok (.getfield 20, 3) := by decide +kernel
theorem d_In_isSound_36 : decode (am_b mt_In_isSound) 36 = .ok (.iconst 1, 1) := by decide +kernel
theorem d_In_isSound_37 : decode (am_b mt_In_isSound) 37 = .ok (.invokevirtual 33, 3) := by decide +kernel
theorem d_In_isSound_40 : decode (am_b mt_In_isSound) 40 = .ok (.ifCond .ne 30, 3) := by decide +kernel
theorem d_In_isSound_43 : decode (am_b mt_In_isSound) 43 = .ok (.aload_n 0, 1) := by decide +kernel
theorem d_In_isSound_44 : decode (am_b mt_In_isSound) 44 = .ok (.getfield 20, 3) := by decide +kernel
theorem d_In_isSound_47 : decode (am_b mt_In_isSound) 47 = .ok (.iconst 2, 1) := by decide +kernel
theorem d_In_isSound_48 : decode (am_b mt_In_isSound) 48 = .ok (.invokevirtual 33, 3) := by decide +kernel
theorem d_In_isSound_51 : decode (am_b mt_In_isSound) 51 = .ok (.iconst 4, 1) := by decide +kernel
theorem d_In_isSound_52 : decode (am_b mt_In_isSound) 52 = .ok (.if_icmp .ne 18, 3) := by decide +kernel
theorem d_In_isSound_55 : decode (am_b mt_In_isSound) 55 = .ok (.aload_n 0, 1) := by decide +kernel
theorem d_In_isSound_56 : decode (am_b mt_In_isSound) 56 = .ok (.getfield 20, 3) := by decide +kernel
theorem d_In_isSound_59 : decode (am_b mt_In_isSound) 59 = .ok (.iconst 3, 1) := by decide +kernel
theorem d_In_isSound_60 : decode (am_b mt_In_isSound) 60 = .ok (.invokevirtual 33, 3) := by decide +kernel
theorem d_In_isSound_63 : decode (am_b mt_In_isSound) 63 = .ok (.ifCond .ne 7, 3) := by decide +kernel
theorem d_In_isSound_66 : decode (am_b mt_In_isSound) 66 = .ok (.iconst 1, 1) := by decide +kernel
theorem d_In_isSound_67 : decode (am_b mt_In_isSound) 67 = .ok (.goto 4, 3) := by decide +kernel
theorem d_In_isSound_70 : decode (am_b mt_In_isSound) 70 = .ok (.iconst 0, 1) := by decide +kernel
theorem d_In_isSound_71 : decode (am_b mt_In_isSound) 71 = .ok (.ireturn, 1) := by decide +kernel
theorem d_In_isDone_0 : decode (am_b mt_In_isDone) 0 = .ok (.aload_n 0, 1) := by decide +kernel
theorem d_In_isDone_1 : decode (am_b mt_In_isDone) 1 = .ok (.getfield 27, 3) := by decide +kernel
theorem d_In_isDone_4 : decode (am_b mt_In_isDone) 4 = .ok (.ireturn, 1) := by decide +kernel
theorem d_Se_serve_0 : decode (am_b mt_Se_serve) 0 = .ok (.aload_n 1, 1) := by decide +kernel
theorem d_Se_serve_1 : decode (am_b mt_Se_serve) 1 = .ok (.invokevirtual 80, 3) := by decide +kernel
theorem d_Se_serve_4 : decode (am_b mt_Se_serve) 4 = .ok (.ifCond .ne 4, 3) := by decide +kernel
theorem d_Se_serve_7 : decode (am_b mt_Se_serve) 7 = .ok (.return_, 1) := by decide +kernel
theorem d_Se_serve_8 : decode (am_b mt_Se_serve) 8 = .ok (.aload_n 1, 1) := by decide +kernel
theorem d_Se_serve_9 : decode (am_b mt_Se_serve) 9 = .ok (.iconst 0, 1) := by decide +kernel
theorem d_Se_serve_10 : decode (am_b mt_Se_serve) 10 = .ok (.invokevirtual 84, 3) := by decide +kernel
theorem d_Se_serve_13 : decode (am_b mt_Se_serve) 13 = .ok (.istore_n 3, 1) := by decide +kernel
theorem d_Se_serve_14 : decode (am_b mt_Se_serve) 14 = .ok (.iload_n 3, 1) := by decide +kernel
theorem d_Se_serve_15 : decode (am_b mt_Se_serve) 15 = .ok (.bipush 30, 2) := by decide +kernel
theorem d_Se_serve_17 : decode (am_b mt_Se_serve) 17 = .ok (.if_icmp .ne 28, 3) := by decide +kernel
theorem d_Se_serve_20 : decode (am_b mt_Se_serve) 20 = .ok (.aload_n 0, 1) := by decide +kernel
theorem d_Se_serve_21 : decode (am_b mt_Se_serve) 21 = .ok (.aload_n 0, 1) := by decide +kernel
theorem d_Se_serve_22 : decode (am_b mt_Se_serve) 22 = .ok (.getfield 45, 3) := by decide +kernel
theorem d_Se_serve_25 : decode (am_b mt_Se_serve) 25 = .ok (.ifCond .eq 15, 3) := by decide +kernel
theorem d_Se_serve_28 : decode (am_b mt_Se_serve) 28 = .ok (.aload_n 1, 1) := by decide +kernel
theorem d_Se_serve_29 : decode (am_b mt_Se_serve) 29 = .ok (.invokevirtual 80, 3) := by decide +kernel
theorem d_Se_serve_32 : decode (am_b mt_Se_serve) 32 = .ok (.iconst 1, 1) := by decide +kernel
theorem d_Se_serve_33 : decode (am_b mt_Se_serve) 33 = .ok (.if_icmp .le 7, 3) := by decide +kernel
theorem d_Se_serve_36 : decode (am_b mt_Se_serve) 36 = .ok (.iconst 1, 1) := by decide +kernel
theorem d_Se_serve_37 : decode (am_b mt_Se_serve) 37 = .ok (.goto 4, 3) := by decide +kernel
theorem d_Se_serve_40 : decode (am_b mt_Se_serve) 40 = .ok (.iconst 0, 1) := by decide +kernel
theorem d_Se_serve_41 : decode (am_b mt_Se_serve) 41 = .ok (.putfield 45, 3) := by decide +kernel
theorem d_Se_serve_44 : decode (am_b mt_Se_serve) 44 = .ok (.return_, 1) := by decide +kernel
theorem d_Se_serve_45 : decode (am_b mt_Se_serve) 45 = .ok (.aload_n 0, 1) := by decide +kernel
theorem d_Se_serve_46 : decode (am_b mt_Se_serve) 46 = .ok (.getfield 38, 3) := by decide +kernel
theorem d_Se_serve_49 : decode (am_b mt_Se_serve) 49 = .ok (.invokevirtual 60, 3) := by decide +kernel
theorem d_Se_serve_52 : decode (am_b mt_Se_serve) 52 = .ok (.aload_n 1, 1) := by decide +kernel
theorem d_Se_serve_53 : decode (am_b mt_Se_serve) 53 = .ok (.invokestatic 88, 3) := by decide +kernel
theorem d_Se_serve_56 : decode (am_b mt_Se_serve) 56 = .ok (.istore 4, 2) := by decide +kernel
theorem d_Se_serve_58 : decode (am_b mt_Se_serve) 58 = .ok (.iload 4, 2) := by decide +kernel
theorem d_Se_serve_60 : decode (am_b mt_Se_serve) 60 = .ok (.ifCond .ne 18, 3) := by decide +kernel
theorem d_Se_serve_63 : decode (am_b mt_Se_serve) 63 = .ok (.iload_n 3, 1) := by decide +kernel
theorem d_Se_serve_64 : decode (am_b mt_Se_serve) 64 = .ok (.iconst 2, 1) := by decide +kernel
theorem d_Se_serve_65 : decode (am_b mt_Se_serve) 65 = .ok (.if_icmp .eq 13, 3) := by decide +kernel
theorem d_Se_serve_68 : decode (am_b mt_Se_serve) 68 = .ok (.iload_n 3, 1) := by decide +kernel
theorem d_Se_serve_69 : decode (am_b mt_Se_serve) 69 = .ok (.bipush 24, 2) := by decide +kernel
theorem d_Se_serve_71 : decode (am_b mt_Se_serve) 71 = .ok (.if_icmp .eq 7, 3) := by decide +kernel
theorem d_Se_serve_74 : decode (am_b mt_Se_serve) 74 = .ok (.iconst 1, 1) := by decide +kernel
theorem d_Se_serve_75 : decode (am_b mt_Se_serve) 75 = .ok (.goto 4, 3) := by decide +kernel
theorem d_Se_serve_78 : decode (am_b mt_Se_serve) 78 = .ok (.iconst 0, 1) := by decide +kernel
theorem d_Se_serve_79 : decode (am_b mt_Se_serve) 79 = .ok (.istore 5, 2) := by decide +kernel
theorem d_Se_serve_81 : decode (am_b mt_Se_serve) 81 = .ok (.iload 4, 2) := by decide +kernel
theorem d_Se_serve_83 : decode (am_b mt_Se_serve) 83 = .ok (.ifCond .ne 10, 3) := by decide +kernel
theorem d_Se_serve_86 : decode (am_b mt_Se_serve) 86 = .ok (.aload_n 0, 1) := by decide +kernel
theorem d_Se_serve_87 : decode (am_b mt_Se_serve) 87 = .ok (.aload_n 1, 1) := by decide +kernel
theorem d_Se_serve_88 : decode (am_b mt_Se_serve) 88 = .ok (.invokevirtual 92, 3) := by decide +kernel
theorem d_Se_serve_91 : decode (am_b mt_Se_serve) 91 = .ok (.istore 4, 2) := by decide +kernel
theorem d_Se_serve_93 : decode (am_b mt_Se_serve) 93 = .ok (.iload 4, 2) := by decide +kernel
theorem d_Se_serve_95 : decode (am_b mt_Se_serve) 95 = .ok (.ifCond .eq 24, 3) := by decide +kernel
theorem d_Se_serve_98 : decode (am_b mt_Se_serve) 98 = .ok (.aload_n 0, 1) := by decide +kernel
theorem d_Se_serve_99 : decode (am_b mt_Se_serve) 99 = .ok (.iload_n 3, 1) := by decide +kernel
theorem d_Se_serve_100 : decode (am_b mt_Se_serve) 100 = .ok (.iload 5, 2) := by decide +kernel
theorem d_Se_serve_102 : decode (am_b mt_Se_serve) 102 = .ok (.ifCond .eq 11, 3) := by decide +kernel
theorem d_Se_serve_105 : decode (am_b mt_Se_serve) 105 = .ok (.aload_n 1, 1) := by decide +kernel
theorem d_Se_serve_106 : decode (am_b mt_Se_serve) 106 = .ok (.iconst 1, 1) := by decide +kernel
theorem d_Se_serve_107 : decode (am_b mt_Se_serve) 107 = .ok (.invokevirtual 84, 3) := by decide +kernel
theorem d_Se_serve_110 : decode (am_b mt_Se_serve) 110 = .ok (.goto 4, 3) := by decide +kernel
theorem d_Se_serve_113 : decode (am_b mt_Se_serve) 113 = .ok (.iconst 0, 1) := by decide +kernel
theorem d_Se_serve_114 : decode (am_b mt_Se_serve) 114 = .ok (.iload 4, 2) := by decide +kernel
theorem d_Se_serve_116 : decode (am_b mt_Se_serve) 116 = .ok (.invokevirtual 95, 3) := by decide +kernel
theorem d_Se_serve_119 : decode (am_b mt_Se_serve) 119 = .ok (.aload_n 2, 1) := by decide +kernel
theorem d_Se_serve_120 : decode (am_b mt_Se_serve) 120 = .ok (.aload_n 0, 1) := by decide +kernel
theorem d_Se_serve_121 : decode (am_b mt_Se_serve) 121 = .ok (.getfield 38, 3) := by decide +kernel
theorem d_Se_serve_124 : decode (am_b mt_Se_serve) 124 = .ok (.invokevirtual 74, 3) := by decide +kernel
theorem d_Se_serve_127 : decode (am_b mt_Se_serve) 127 = .ok (.return_, 1) := by decide +kernel
theorem d_Se_shapeError_0 : decode (am_b mt_Se_shapeError) 0 = .ok (.aload_n 0, 1) := by decide +kernel
theorem d_Se_shapeError_1 : decode (am_b mt_Se_shapeError) 1 = .ok (.invokevirtual 80, 3) := by decide +kernel
theorem d_Se_shapeError_4 : decode (am_b mt_Se_shapeError) 4 = .ok (.istore_n 1, 1) := by decide +kernel
theorem d_Se_shapeError_5 : decode (am_b mt_Se_shapeError) 5 = .ok (.aload_n 0, 1) := by decide +kernel
theorem d_Se_shapeError_6 : decode (am_b mt_Se_shapeError) 6 = .ok (.iconst 0, 1) := by decide +kernel
theorem d_Se_shapeError_7 : decode (am_b mt_Se_shapeError) 7 = .ok (.invokevirtual 84, 3) := by decide +kernel
theorem d_Se_shapeError_10 : decode (am_b mt_Se_shapeError) 10 = .ok (.tableswitch 185 2 24 #[106, 185, 185, 185, 185, 185, 185, 185, 106, 185, 120, 185, 185, 185, 120, 185, 134, 185, 185, 185, 148, 185, 162], 106) := by decide +kernel
theorem d_Se_shapeError_116 : decode (am_b mt_Se_shapeError) 116 = .ok (.iload_n 1, 1) := by decide +kernel
theorem d_Se_shapeError_117 : decode (am_b mt_Se_shapeError) 117 = .ok (.iconst 2, 1) := by decide +kernel
theorem d_Se_shapeError_118 : decode (am_b mt_Se_shapeError) 118 = .ok (.if_icmp .ne 7, 3) := by decide +kernel
theorem d_Se_shapeError_121 : decode (am_b mt_Se_shapeError) 121 = .ok (.iconst 1, 1) := by decide +kernel
theorem d_Se_shapeError_122 : decode (am_b mt_Se_shapeError) 122 = .ok (.goto 4, 3) := by decide +kernel
theorem d_Se_shapeError_125 : decode (am_b mt_Se_shapeError) 125 = .ok (.iconst 0, 1) := by decide +kernel
theorem d_Se_shapeError_126 : decode (am_b mt_Se_shapeError) 126 = .ok (.istore_n 2, 1) := by decide +kernel
theorem d_Se_shapeError_127 : decode (am_b mt_Se_shapeError) 127 = .ok (.goto 71, 3) := by decide +kernel
theorem d_Se_shapeError_130 : decode (am_b mt_Se_shapeError) 130 = .ok (.iload_n 1, 1) := by decide +kernel
theorem d_Se_shapeError_131 : decode (am_b mt_Se_shapeError) 131 = .ok (.iconst 3, 1) := by decide +kernel
theorem d_Se_shapeError_132 : decode (am_b mt_Se_shapeError) 132 = .ok (.if_icmp .ne 7, 3) := by decide +kernel
theorem d_Se_shapeError_135 : decode (am_b mt_Se_shapeError) 135 = .ok (.iconst 1, 1) := by decide +kernel
theorem d_Se_shapeError_136 : decode (am_b mt_Se_shapeError) 136 = .ok (.goto 4, 3) := by decide +kernel
theorem d_Se_shapeError_139 : decode (am_b mt_Se_shapeError) 139 = .ok (.iconst 0, 1) := by decide +kernel
theorem d_Se_shapeError_140 : decode (am_b mt_Se_shapeError) 140 = .ok (.istore_n 2, 1) := by decide +kernel
theorem d_Se_shapeError_141 : decode (am_b mt_Se_shapeError) 141 = .ok (.goto 57, 3) := by decide +kernel
theorem d_Se_shapeError_144 : decode (am_b mt_Se_shapeError) 144 = .ok (.iload_n 1, 1) := by decide +kernel
theorem d_Se_shapeError_145 : decode (am_b mt_Se_shapeError) 145 = .ok (.iconst 2, 1) := by decide +kernel
theorem d_Se_shapeError_146 : decode (am_b mt_Se_shapeError) 146 = .ok (.if_icmp .lt 7, 3) := by decide +kernel
theorem d_Se_shapeError_149 : decode (am_b mt_Se_shapeError) 149 = .ok (.iconst 1, 1) := by decide +kernel
theorem d_Se_shapeError_150 : decode (am_b mt_Se_shapeError) 150 = .ok (.goto 4, 3) := by decide +kernel
theorem d_Se_shapeError_153 : decode (am_b mt_Se_shapeError) 153 = .ok (.iconst 0, 1) := by decide +kernel
theorem d_Se_shapeError_154 : decode (am_b mt_Se_shapeError) 154 = .ok (.istore_n 2, 1) := by decide +kernel
theorem d_Se_shapeError_155 : decode (am_b mt_Se_shapeError) 155 = .ok (.goto 43, 3) := by decide +kernel
theorem d_Se_shapeError_158 : decode (am_b mt_Se_shapeError) 158 = .ok (.iload_n 1, 1) := by decide +kernel
theorem d_Se_shapeError_159 : decode (am_b mt_Se_shapeError) 159 = .ok (.iconst 3, 1) := by decide +kernel
theorem d_Se_shapeError_160 : decode (am_b mt_Se_shapeError) 160 = .ok (.if_icmp .lt 7, 3) := by decide +kernel
theorem d_Se_shapeError_163 : decode (am_b mt_Se_shapeError) 163 = .ok (.iconst 1, 1) := by decide +kernel
theorem d_Se_shapeError_164 : decode (am_b mt_Se_shapeError) 164 = .ok (.goto 4, 3) := by decide +kernel
theorem d_Se_shapeError_167 : decode (am_b mt_Se_shapeError) 167 = .ok (.iconst 0, 1) := by decide +kernel
theorem d_Se_shapeError_168 : decode (am_b mt_Se_shapeError) 168 = .ok (.istore_n 2, 1) := by decide +kernel
theorem d_Se_shapeError_169 : decode (am_b mt_Se_shapeError) 169 = .ok (.goto 29, 3) := by decide +kernel
theorem d_Se_shapeError_172 : decode (am_b mt_Se_shapeError) 172 = .ok (.iload_n 1, 1) := by decide +kernel
theorem d_Se_shapeError_173 : decode (am_b mt_Se_shapeError) 173 = .ok (.iconst 2, 1) := by decide +kernel
theorem d_Se_shapeError_174 : decode (am_b mt_Se_shapeError) 174 = .ok (.if_icmp .ne 16, 3) := by decide +kernel
theorem d_Se_shapeError_177 : decode (am_b mt_Se_shapeError) 177 = .ok (.aload_n 0, 1) := by decide +kernel
theorem d_Se_shapeError_178 : decode (am_b mt_Se_shapeError) 178 = .ok (.iconst 1, 1) := by decide +kernel
theorem d_Se_shapeError_179 : decode (am_b mt_Se_shapeError) 179 = .ok (.invokevirtual 84, 3) := by decide +kernel
theorem d_Se_shapeError_182 : decode (am_b mt_Se_shapeError) 182 = .ok (.iconst 1, 1) := by decide +kernel
theorem d_Se_shapeError_183 : decode (am_b mt_Se_shapeError) 183 = .ok (.if_icmp .gt 7, 3) := by decide +kernel
theorem d_Se_shapeError_186 : decode (am_b mt_Se_shapeError) 186 = .ok (.iconst 1, 1) := by decide +kernel
theorem d_Se_shapeError_187 : decode (am_b mt_Se_shapeError) 187 = .ok (.goto 4, 3) := by decide +kernel
theorem d_Se_shapeError_190 : decode (am_b mt_Se_shapeError) 190 = .ok (.iconst 0, 1) := by decide +kernel
theorem d_Se_shapeError_191 : decode (am_b mt_Se_shapeError) 191 = .ok (.istore_n 2, 1) := by decide +kernel
theorem d_Se_shapeError_192 : decode (am_b mt_Se_shapeError) 192 = .ok (.goto 6, 3) := by decide +kernel
theorem d_Se_shapeError_195 : decode (am_b mt_Se_shapeError) 195 = .ok (.bipush 6, 2) := by decide +kernel
theorem d_Se_shapeError_197 : decode (am_b mt_Se_shapeError) 197 = .ok (.ireturn, 1) := by decide +kernel
theorem d_Se_shapeError_198 : decode (am_b mt_Se_shapeError) 198 = .ok (.iload_n 2, 1) := by decide +kernel
theorem d_Se_shapeError_199 : decode (am_b mt_Se_shapeError) 199 = .ok (.ifCond .eq 7, 3) := by decide +kernel
theorem d_Se_shapeError_202 : decode (am_b mt_Se_shapeError) 202 = .ok (.iconst 0, 1) := by decide +kernel
theorem d_Se_shapeError_203 : decode (am_b mt_Se_shapeError) 203 = .ok (.goto 4, 3) := by decide +kernel
theorem d_Se_shapeError_206 : decode (am_b mt_Se_shapeError) 206 = .ok (.iconst 4, 1) := by decide +kernel
theorem d_Se_shapeError_207 : decode (am_b mt_Se_shapeError) 207 = .ok (.ireturn, 1) := by decide +kernel
theorem d_Se_answerTo_0 : decode (am_b mt_Se_answerTo) 0 = .ok (.aload_n 1, 1) := by decide +kernel
theorem d_Se_answerTo_1 : decode (am_b mt_Se_answerTo) 1 = .ok (.iconst 0, 1) := by decide +kernel
theorem d_Se_answerTo_2 : decode (am_b mt_Se_answerTo) 2 = .ok (.invokevirtual 84, 3) := by decide +kernel
theorem d_Se_answerTo_5 : decode (am_b mt_Se_answerTo) 5 = .ok (.lookupswitch 100 #[(2, 35), (16, 66), (24, 81)], 35) := by decide +kernel
theorem d_Se_answerTo_40 : decode (am_b mt_Se_answerTo) 40 = .ok (.aload_n 0, 1) := by decide +kernel
theorem d_Se_answerTo_41 : decode (am_b mt_Se_answerTo) 41 = .ok (.getfield 38, 3) := by decide +kernel
theorem d_Se_answerTo_44 : decode (am_b mt_Se_answerTo) 44 = .ok (.iconst 3, 1) := by decide +kernel
theorem d_Se_answerTo_45 : decode (am_b mt_Se_answerTo) 45 = .ok (.invokevirtual 63, 3) := by decide +kernel
theorem d_Se_answerTo_48 : decode (am_b mt_Se_answerTo) 48 = .ok (.aload_n 0, 1) := by decide +kernel
theorem d_Se_answerTo_49 : decode (am_b mt_Se_answerTo) 49 = .ok (.getfield 38, 3) := by decide +kernel
theorem d_Se_answerTo_52 : decode (am_b mt_Se_answerTo) 52 = .ok (.bipush 20, 2) := by decide +kernel
theorem d_Se_answerTo_54 : decode (am_b mt_Se_answerTo) 54 = .ok (.invokevirtual 63, 3) := by decide +kernel
theorem d_Se_answerTo_57 : decode (am_b mt_Se_answerTo) 57 = .ok (.aload_n 0, 1) := by decide +kernel
theorem d_Se_answerTo_58 : decode (am_b mt_Se_answerTo) 58 = .ok (.aload_n 1, 1) := by decide +kernel
theorem d_Se_answerTo_59 : decode (am_b mt_Se_answerTo) 59 = .ok (.iconst 1, 1) := by decide +kernel
theorem d_Se_answerTo_60 : decode (am_b mt_Se_answerTo) 60 = .ok (.invokevirtual 84, 3) := by decide +kernel
theorem d_Se_answerTo_63 : decode (am_b mt_Se_answerTo) 63 = .ok (.invokestatic 99, 3) := by decide +kernel
theorem d_Se_answerTo_66 : decode (am_b mt_Se_answerTo) 66 = .ok (.putfield 42, 3) := by decide +kernel
theorem d_Se_answerTo_69 : decode (am_b mt_Se_answerTo) 69 = .ok (.iconst 0, 1) := by decide +kernel
theorem d_Se_answerTo_70 : decode (am_b mt_Se_answerTo) 70 = .ok (.ireturn, 1) := by decide +kernel
theorem d_Se_answerTo_71 : decode (am_b mt_Se_answerTo) 71 = .ok (.aload_n 0, 1) := by decide +kernel
theorem d_Se_answerTo_72 : decode (am_b mt_Se_answerTo) 72 = .ok (.aload_n 1, 1) := by decide +kernel
theorem d_Se_answerTo_73 : decode (am_b mt_Se_answerTo) 73 = .ok (.iconst 1, 1) := by decide +kernel
theorem d_Se_answerTo_74 : decode (am_b mt_Se_answerTo) 74 = .ok (.invokevirtual 84, 3) := by decide +kernel
theorem d_Se_answerTo_77 : decode (am_b mt_Se_answerTo) 77 = .ok (.aload_n 1, 1) := by decide +kernel
theorem d_Se_answerTo_78 : decode (am_b mt_Se_answerTo) 78 = .ok (.iconst 2, 1) := by decide +kernel
theorem d_Se_answerTo_79 : decode (am_b mt_Se_answerTo) 79 = .ok (.invokevirtual 84, 3) := by decide +kernel
theorem d_Se_answerTo_82 : decode (am_b mt_Se_answerTo) 82 = .ok (.invokevirtual 102, 3) := by decide +kernel
theorem d_Se_answerTo_85 : decode (am_b mt_Se_answerTo) 85 = .ok (.ireturn, 1) := by decide +kernel
theorem d_Se_answerTo_86 : decode (am_b mt_Se_answerTo) 86 = .ok (.aload_n 0, 1) := by decide +kernel
theorem d_Se_answerTo_87 : decode (am_b mt_Se_answerTo) 87 = .ok (.aload_n 1, 1) := by decide +kernel
theorem d_Se_answerTo_88 : decode (am_b mt_Se_answerTo) 88 = .ok (.iconst 1, 1) := by decide +kernel
theorem d_Se_answerTo_89 : decode (am_b mt_Se_answerTo) 89 = .ok (.invokevirtual 84, 3) := by decide +kernel
theorem d_Se_answerTo_92 : decode (am_b mt_Se_answerTo) 92 = .ok (.iconst 1, 1) := by decide +kernel
theorem d_Se_answerTo_93 : decode (am_b mt_Se_answerTo) 93 = .ok (.if_icmp .ne 7, 3) := by decide +kernel
theorem d_Se_answerTo_96 : decode (am_b mt_Se_answerTo) 96 = .ok (.iconst 1, 1) := by decide +kernel
theorem d_Se_answerTo_97 : decode (am_b mt_Se_answerTo) 97 = .ok (.goto 4, 3) := by decide +kernel
theorem d_Se_answerTo_100 : decode (am_b mt_Se_answerTo) 100 = .ok (.iconst 0, 1) := by decide +kernel
theorem d_Se_answerTo_101 : decode (am_b mt_Se_answerTo) 101 = .ok (.invokevirtual 106, 3) := by decide +kernel
theorem d_Se_answerTo_104 : decode (am_b mt_Se_answerTo) 104 = .ok (.ireturn, 1) := by decide +kernel
theorem d_Se_answerTo_105 : decode (am_b mt_Se_answerTo) 105 = .ok (.aload_n 0, 1) := by decide +kernel
theorem d_Se_answerTo_106 : decode (am_b mt_Se_answerTo) 106 = .ok (.aload_n 1, 1) := by decide +kernel
theorem d_Se_answerTo_107 : decode (am_b mt_Se_answerTo) 107 = .ok (.invokevirtual 110, 3) := by decide +kernel
theorem d_Se_answerTo_110 : decode (am_b mt_Se_answerTo) 110 = .ok (.ireturn, 1) := by decide +kernel
theorem d_Al_boundedLimit_0 : decode (am_b mt_Al_boundedLimit) 0 = .ok (.bipush 8, 2) := by decide +kernel
theorem d_Al_boundedLimit_2 : decode (am_b mt_Al_boundedLimit) 2 = .ok (.bipush 20, 2) := by decide +kernel
theorem d_Al_boundedLimit_4 : decode (am_b mt_Al_boundedLimit) 4 = .ok (.iload_n 0, 1) := by decide +kernel
theorem d_Al_boundedLimit_5 : decode (am_b mt_Al_boundedLimit) 5 = .ok (.invokestatic 170, 3) := by decide +kernel
theorem d_Al_boundedLimit_8 : decode (am_b mt_Al_boundedLimit) 8 = .ok (.invokestatic 176, 3) := by decide +kernel
theorem d_Al_boundedLimit_11 : decode (am_b mt_Al_boundedLimit) 11 = .ok (.ireturn, 1) := by decide +kernel
theorem d_Se_answerFind_0 : decode (am_b mt_Se_answerFind) 0 = .ok (.iload_n 1, 1) := by decide +kernel
theorem d_Se_answerFind_1 : decode (am_b mt_Se_answerFind) 1 = .ok (.iconst 1, 1) := by decide +kernel
theorem d_Se_answerFind_2 : decode (am_b mt_Se_answerFind) 2 = .ok (.invokestatic 113, 3) := by decide +kernel
theorem d_Se_answerFind_5 : decode (am_b mt_Se_answerFind) 5 = .ok (.istore_n 3, 1) := by decide +kernel
theorem d_Se_answerFind_6 : decode (am_b mt_Se_answerFind) 6 = .ok (.iload_n 3, 1) := by decide +kernel
theorem d_Se_answerFind_7 : decode (am_b mt_Se_answerFind) 7 = .ok (.aload_n 0, 1) := by decide +kernel
theorem d_Se_answerFind_8 : decode (am_b mt_Se_answerFind) 8 = .ok (.getfield 18, 3) := by decide +kernel
theorem d_Se_answerFind_11 : decode (am_b mt_Se_answerFind) 11 = .ok (.if_icmp .gt 43, 3) := by decide +kernel
theorem d_Se_answerFind_14 : decode (am_b mt_Se_answerFind) 14 = .ok (.aload_n 0, 1) := by decide +kernel
theorem d_Se_answerFind_15 : decode (am_b mt_Se_answerFind) 15 = .ok (.getfield 13, 3) := by decide +kernel
theorem d_Se_answerFind_18 : decode (am_b mt_Se_answerFind) 18 = .ok (.iload_n 3, 1) := by decide +kernel
theorem d_Se_answerFind_19 : decode (am_b mt_Se_answerFind) 19 = .ok (.iconst 1, 1) := by decide +kernel
theorem d_Se_answerFind_20 : decode (am_b mt_Se_answerFind) 20 = .ok (.isub, 1) := by decide +kernel
theorem d_Se_answerFind_21 : decode (am_b mt_Se_answerFind) 21 = .ok (.aaload, 1) := by decide +kernel
theorem d_Se_answerFind_22 : decode (am_b mt_Se_answerFind) 22 = .ok (.iload_n 2, 1) := by decide +kernel
theorem d_Se_answerFind_23 : decode (am_b mt_Se_answerFind) 23 = .ok (.invokevirtual 118, 3) := by decide +kernel
theorem d_Se_answerFind_26 : decode (am_b mt_Se_answerFind) 26 = .ok (.ifCond .eq 22, 3) := by decide +kernel
theorem d_Se_answerFind_29 : decode (am_b mt_Se_answerFind) 29 = .ok (.aload_n 0, 1) := by decide +kernel
theorem d_Se_answerFind_30 : decode (am_b mt_Se_answerFind) 30 = .ok (.getfield 38, 3) := by decide +kernel
theorem d_Se_answerFind_33 : decode (am_b mt_Se_answerFind) 33 = .ok (.bipush 17, 2) := by decide +kernel
theorem d_Se_answerFind_35 : decode (am_b mt_Se_answerFind) 35 = .ok (.invokevirtual 63, 3) := by decide +kernel
theorem d_Se_answerFind_38 : decode (am_b mt_Se_answerFind) 38 = .ok (.aload_n 0, 1) := by decide +kernel
theorem d_Se_answerFind_39 : decode (am_b mt_Se_answerFind) 39 = .ok (.getfield 38, 3) := by decide +kernel
theorem d_Se_answerFind_42 : decode (am_b mt_Se_answerFind) 42 = .ok (.iload_n 3, 1) := by decide +kernel
theorem d_Se_answerFind_43 : decode (am_b mt_Se_answerFind) 43 = .ok (.invokevirtual 63, 3) := by decide +kernel
theorem d_Se_answerFind_46 : decode (am_b mt_Se_answerFind) 46 = .ok (.iconst 0, 1) := by decide +kernel
theorem d_Se_answerFind_47 : decode (am_b mt_Se_answerFind) 47 = .ok (.ireturn, 1) := by decide +kernel
theorem d_Se_answerFind_48 : decode (am_b mt_Se_answerFind) 48 = .ok (.iinc 3 1, 3) := by decide +kernel
theorem d_Se_answerFind_51 : decode (am_b mt_Se_answerFind) 51 = .ok (.goto (-45), 3) := by decide +kernel
theorem d_Se_answerFind_54 : decode (am_b mt_Se_answerFind) 54 = .ok (.bipush 10, 2) := by decide +kernel
theorem d_Se_answerFind_56 : decode (am_b mt_Se_answerFind) 56 = .ok (.ireturn, 1) := by decide +kernel
theorem d_At_isOfType_0 : decode (am_b mt_At_isOfType) 0 = .ok (.aload_n 0, 1) := by decide +kernel
theorem d_At_isOfType_1 : decode (am_b mt_At_isOfType) 1 = .ok (.getfield 20, 3) := by decide +kernel
theorem d_At_isOfType_4 : decode (am_b mt_At_isOfType) 4 = .ok (.iload_n 1, 1) := by decide +kernel
theorem d_At_isOfType_5 : decode (am_b mt_At_isOfType) 5 = .ok (.if_icmp .ne 7, 3) := by decide +kernel
theorem d_At_isOfType_8 : decode (am_b mt_At_isOfType) 8 = .ok (.iconst 1, 1) := by decide +kernel
theorem d_At_isOfType_9 : decode (am_b mt_At_isOfType) 9 = .ok (.goto 4, 3) := by decide +kernel
theorem d_At_isOfType_12 : decode (am_b mt_At_isOfType) 12 = .ok (.iconst 0, 1) := by decide +kernel
theorem d_At_isOfType_13 : decode (am_b mt_At_isOfType) 13 = .ok (.ireturn, 1) := by decide +kernel
theorem d_Se_answerEnd_0 : decode (am_b mt_Se_answerEnd) 0 = .ok (.iload_n 1, 1) := by decide +kernel
theorem d_Se_answerEnd_1 : decode (am_b mt_Se_answerEnd) 1 = .ok (.ifCond .eq 10, 3) := by decide +kernel
theorem d_Se_answerEnd_4 : decode (am_b mt_Se_answerEnd) 4 = .ok (.aload_n 0, 1) := by decide +kernel
theorem d_Se_answerEnd_5 : decode (am_b mt_Se_answerEnd) 5 = .ok (.invokevirtual 143, 3) := by decide +kernel
theorem d_Se_answerEnd_8 : decode (am_b mt_Se_answerEnd) 8 = .ok (.goto 4, 3) := by decide +kernel
theorem d_Se_answerEnd_11 : decode (am_b mt_Se_answerEnd) 11 = .ok (.iconst 0, 1) := by decide +kernel
theorem d_Se_answerEnd_12 : decode (am_b mt_Se_answerEnd) 12 = .ok (.istore_n 2, 1) := by decide +kernel
theorem d_Se_answerEnd_13 : decode (am_b mt_Se_answerEnd) 13 = .ok (.iload_n 1, 1) := by decide +kernel
theorem d_Se_answerEnd_14 : decode (am_b mt_Se_answerEnd) 14 = .ok (.ifCond .eq 57, 3) := by decide +kernel
theorem d_Se_answerEnd_17 : decode (am_b mt_Se_answerEnd) 17 = .ok (.iload_n 2, 1) := by decide +kernel
theorem d_Se_answerEnd_18 : decode (am_b mt_Se_answerEnd) 18 = .ok (.ifCond .ne 53, 3) := by decide +kernel
theorem d_Se_answerEnd_21 : decode (am_b mt_Se_answerEnd) 21 = .ok (.iconst 0, 1) := by decide +kernel
theorem d_Se_answerEnd_22 : decode (am_b mt_Se_answerEnd) 22 = .ok (.istore_n 3, 1) := by decide +kernel
theorem d_Se_answerEnd_23 : decode (am_b mt_Se_answerEnd) 23 = .ok (.iload_n 3, 1) := by decide +kernel
theorem d_Se_answerEnd_24 : decode (am_b mt_Se_answerEnd) 24 = .ok (.aload_n 0, 1) := by decide +kernel
theorem d_Se_answerEnd_25 : decode (am_b mt_Se_answerEnd) 25 = .ok (.getfield 31, 3) := by decide +kernel
theorem d_Se_answerEnd_28 : decode (am_b mt_Se_answerEnd) 28 = .ok (.if_icmp .ge 43, 3) := by decide +kernel
theorem d_Se_answerEnd_31 : decode (am_b mt_Se_answerEnd) 31 = .ok (.aload_n 0, 1) := by decide +kernel
theorem d_Se_answerEnd_32 : decode (am_b mt_Se_answerEnd) 32 = .ok (.aload_n 0, 1) := by decide +kernel
theorem d_Se_answerEnd_33 : decode (am_b mt_Se_answerEnd) 33 = .ok (.getfield 24, 3) := by decide +kernel
theorem d_Se_answerEnd_36 : decode (am_b mt_Se_answerEnd) 36 = .ok (.iload_n 3, 1) := by decide +kernel
theorem d_Se_answerEnd_37 : decode (am_b mt_Se_answerEnd) 37 = .ok (.aaload, 1) := by decide +kernel
theorem d_Se_answerEnd_38 : decode (am_b mt_Se_answerEnd) 38 = .ok (.iconst 0, 1) := by decide +kernel
theorem d_Se_answerEnd_39 : decode (am_b mt_Se_answerEnd) 39 = .ok (.invokevirtual 84, 3) := by decide +kernel
theorem d_Se_answerEnd_42 : decode (am_b mt_Se_answerEnd) 42 = .ok (.invokevirtual 66, 3) := by decide +kernel
theorem d_Se_answerEnd_45 : decode (am_b mt_Se_answerEnd) 45 = .ok (.aload_n 0, 1) := by decide +kernel
theorem d_Se_answerEnd_46 : decode (am_b mt_Se_answerEnd) 46 = .ok (.getfield 24, 3) := by decide +kernel
theorem d_Se_answerEnd_49 : decode (am_b mt_Se_answerEnd) 49 = .ok (.iload_n 3, 1) := by decide +kernel
theorem d_Se_answerEnd_50 : decode (am_b mt_Se_answerEnd) 50 = .ok (.aaload, 1) := by decide +kernel
theorem d_Se_answerEnd_51 : decode (am_b mt_Se_answerEnd) 51 = .ok (.iconst 1, 1) := by decide +kernel
theorem d_Se_answerEnd_52 : decode (am_b mt_Se_answerEnd) 52 = .ok (.invokevirtual 84, 3) := by decide +kernel
theorem d_Se_answerEnd_55 : decode (am_b mt_Se_answerEnd) 55 = .ok (.aload_n 0, 1) := by decide +kernel
theorem d_Se_answerEnd_56 : decode (am_b mt_Se_answerEnd) 56 = .ok (.getfield 24, 3) := by decide +kernel
theorem d_Se_answerEnd_59 : decode (am_b mt_Se_answerEnd) 59 = .ok (.iload_n 3, 1) := by decide +kernel
theorem d_Se_answerEnd_60 : decode (am_b mt_Se_answerEnd) 60 = .ok (.aaload, 1) := by decide +kernel
theorem d_Se_answerEnd_61 : decode (am_b mt_Se_answerEnd) 61 = .ok (.iconst 2, 1) := by decide +kernel
theorem d_Se_answerEnd_62 : decode (am_b mt_Se_answerEnd) 62 = .ok (.invokevirtual 146, 3) := by decide +kernel
theorem d_Se_answerEnd_65 : decode (am_b mt_Se_answerEnd) 65 = .ok (.iinc 3 1, 3) := by decide +kernel
theorem d_Se_answerEnd_68 : decode (am_b mt_Se_answerEnd) 68 = .ok (.goto (-45), 3) := by decide +kernel
theorem d_Se_answerEnd_71 : decode (am_b mt_Se_answerEnd) 71 = .ok (.aload_n 0, 1) := by decide +kernel
theorem d_Se_answerEnd_72 : decode (am_b mt_Se_answerEnd) 72 = .ok (.iconst 0, 1) := by decide +kernel
theorem d_Se_answerEnd_73 : decode (am_b mt_Se_answerEnd) 73 = .ok (.putfield 31, 3) := by decide +kernel
theorem d_Se_answerEnd_76 : decode (am_b mt_Se_answerEnd) 76 = .ok (.aload_n 0, 1) := by decide +kernel
theorem d_Se_answerEnd_77 : decode (am_b mt_Se_answerEnd) 77 = .ok (.getfield 38, 3) := by decide +kernel
theorem d_Se_answerEnd_80 : decode (am_b mt_Se_answerEnd) 80 = .ok (.bipush 25, 2) := by decide +kernel
theorem d_Se_answerEnd_82 : decode (am_b mt_Se_answerEnd) 82 = .ok (.invokevirtual 63, 3) := by decide +kernel
theorem d_Se_answerEnd_85 : decode (am_b mt_Se_answerEnd) 85 = .ok (.iload_n 2, 1) := by decide +kernel
theorem d_Se_answerEnd_86 : decode (am_b mt_Se_answerEnd) 86 = .ok (.ireturn, 1) := by decide +kernel
theorem d_Se_planParts_0 : decode (am_b mt_Se_planParts) 0 = .ok (.iconst 0, 1) := by decide +kernel
theorem d_Se_planParts_1 : decode (am_b mt_Se_planParts) 1 = .ok (.istore_n 1, 1) := by decide +kernel
theorem d_Se_planParts_2 : decode (am_b mt_Se_planParts) 2 = .ok (.iload_n 1, 1) := by decide +kernel
theorem d_Se_planParts_3 : decode (am_b mt_Se_planParts) 3 = .ok (.aload_n 0, 1) := by decide +kernel
theorem d_Se_planParts_4 : decode (am_b mt_Se_planParts) 4 = .ok (.getfield 18, 3) := by decide +kernel
theorem d_Se_planParts_7 : decode (am_b mt_Se_planParts) 7 = .ok (.if_icmp .ge 27, 3) := by decide +kernel
theorem d_Se_planParts_10 : decode (am_b mt_Se_planParts) 10 = .ok (.aload_n 0, 1) := by decide +kernel
theorem d_Se_planParts_11 : decode (am_b mt_Se_planParts) 11 = .ok (.getfield 34, 3) := by decide +kernel
theorem d_Se_planParts_14 : decode (am_b mt_Se_planParts) 14 = .ok (.iload_n 1, 1) := by decide +kernel
theorem d_Se_planParts_15 : decode (am_b mt_Se_planParts) 15 = .ok (.aload_n 0, 1) := by decide +kernel
theorem d_Se_planParts_16 : decode (am_b mt_Se_planParts) 16 = .ok (.getfield 13, 3) := by decide +kernel
theorem d_Se_planParts_19 : decode (am_b mt_Se_planParts) 19 = .ok (.iload_n 1, 1) := by decide +kernel
theorem d_Se_planParts_20 : decode (am_b mt_Se_planParts) 20 = .ok (.aaload, 1) := by decide +kernel
theorem d_Se_planParts_21 : decode (am_b mt_Se_planParts) 21 = .ok (.getfield 49, 3) := by decide +kernel
theorem d_Se_planParts_24 : decode (am_b mt_Se_planParts) 24 = .ok (.invokevirtual 80, 3) := by decide +kernel
theorem d_Se_planParts_27 : decode (am_b mt_Se_planParts) 27 = .ok (.iastore, 1) := by decide +kernel
theorem d_Se_planParts_28 : decode (am_b mt_Se_planParts) 28 = .ok (.iinc 1 1, 3) := by decide +kernel
theorem d_Se_planParts_31 : decode (am_b mt_Se_planParts) 31 = .ok (.goto (-29), 3) := by decide +kernel
theorem d_Se_planParts_34 : decode (am_b mt_Se_planParts) 34 = .ok (.iconst 0, 1) := by decide +kernel
theorem d_Se_planParts_35 : decode (am_b mt_Se_planParts) 35 = .ok (.istore_n 1, 1) := by decide +kernel
theorem d_Se_planParts_36 : decode (am_b mt_Se_planParts) 36 = .ok (.iload_n 1, 1) := by decide +kernel
theorem d_Se_planParts_37 : decode (am_b mt_Se_planParts) 37 = .ok (.aload_n 0, 1) := by decide +kernel
theorem d_Se_planParts_38 : decode (am_b mt_Se_planParts) 38 = .ok (.getfield 31, 3) := by decide +kernel
theorem d_Se_planParts_41 : decode (am_b mt_Se_planParts) 41 = .ok (.if_icmp .ge 88, 3) := by decide +kernel
theorem d_Se_planParts_44 : decode (am_b mt_Se_planParts) 44 = .ok (.aload_n 0, 1) := by decide +kernel
theorem d_Se_planParts_45 : decode (am_b mt_Se_planParts) 45 = .ok (.getfield 24, 3) := by decide +kernel
theorem d_Se_planParts_48 : decode (am_b mt_Se_planParts) 48 = .ok (.iload_n 1, 1) := by decide +kernel
theorem d_Se_planParts_49 : decode (am_b mt_Se_planParts) 49 = .ok (.aaload, 1) := by decide +kernel
theorem d_Se_planParts_50 : decode (am_b mt_Se_planParts) 50 = .ok (.iconst 0, 1) := by decide +kernel
theorem d_Se_planParts_51 : decode (am_b mt_Se_planParts) 51 = .ok (.invokevirtual 84, 3) := by decide +kernel
theorem d_Se_planParts_54 : decode (am_b mt_Se_planParts) 54 = .ok (.iconst 1, 1) := by decide +kernel
theorem d_Se_planParts_55 : decode (am_b mt_Se_planParts) 55 = .ok (.isub, 1) := by decide +kernel
theorem d_Se_planParts_56 : decode (am_b mt_Se_planParts) 56 = .ok (.istore_n 2, 1) := by decide +kernel
theorem d_Se_planParts_57 : decode (am_b mt_Se_planParts) 57 = .ok (.aload_n 0, 1) := by decide +kernel
theorem d_Se_planParts_58 : decode (am_b mt_Se_planParts) 58 = .ok (.getfield 24, 3) := by decide +kernel
theorem d_Se_planParts_61 : decode (am_b mt_Se_planParts) 61 = .ok (.iload_n 1, 1) := by decide +kernel
theorem d_Se_planParts_62 : decode (am_b mt_Se_planParts) 62 = .ok (.aaload, 1) := by decide +kernel
theorem d_Se_planParts_63 : decode (am_b mt_Se_planParts) 63 = .ok (.iconst 1, 1) := by decide +kernel
theorem d_Se_planParts_64 : decode (am_b mt_Se_planParts) 64 = .ok (.invokevirtual 84, 3) := by decide +kernel
theorem d_Se_planParts_67 : decode (am_b mt_Se_planParts) 67 = .ok (.istore_n 3, 1) := by decide +kernel
theorem d_Se_planParts_68 : decode (am_b mt_Se_planParts) 68 = .ok (.iload_n 3, 1) := by decide +kernel
theorem d_Se_planParts_69 : decode (am_b mt_Se_planParts) 69 = .ok (.aload_n 0, 1) := by decide +kernel
theorem d_Se_planParts_70 : decode (am_b mt_Se_planParts) 70 = .ok (.getfield 24, 3) := by decide +kernel
theorem d_Se_planParts_73 : decode (am_b mt_Se_planParts) 73 = .ok (.iload_n 1, 1) := by decide +kernel
theorem d_Se_planParts_74 : decode (am_b mt_Se_planParts) 74 = .ok (.aaload, 1) := by decide +kernel
theorem d_Se_planParts_75 : decode (am_b mt_Se_planParts) 75 = .ok (.invokevirtual 80, 3) := by decide +kernel
theorem d_Se_planParts_78 : decode (am_b mt_Se_planParts) 78 = .ok (.iadd, 1) := by decide +kernel
theorem d_Se_planParts_79 : decode (am_b mt_Se_planParts) 79 = .ok (.iconst 2, 1) := by decide +kernel
theorem d_Se_planParts_80 : decode (am_b mt_Se_planParts) 80 = .ok (.isub, 1) := by decide +kernel
theorem d_Se_planParts_81 : decode (am_b mt_Se_planParts) 81 = .ok (.istore 4, 2) := by decide +kernel
theorem d_Se_planParts_83 : decode (am_b mt_Se_planParts) 83 = .ok (.iload_n 3, 1) := by decide +kernel
theorem d_Se_planParts_84 : decode (am_b mt_Se_planParts) 84 = .ok (.aload_n 0, 1) := by decide +kernel
theorem d_Se_planParts_85 : decode (am_b mt_Se_planParts) 85 = .ok (.getfield 34, 3) := by decide +kernel
theorem d_Se_planParts_88 : decode (am_b mt_Se_planParts) 88 = .ok (.iload_n 2, 1) := by decide +kernel
theorem d_Se_planParts_89 : decode (am_b mt_Se_planParts) 89 = .ok (.iaload, 1) := by decide +kernel
theorem d_Se_planParts_90 : decode (am_b mt_Se_planParts) 90 = .ok (.if_icmp .le 6, 3) := by decide +kernel
theorem d_Se_planParts_93 : decode (am_b mt_Se_planParts) 93 = .ok (.bipush 7, 2) := by decide +kernel
theorem d_Se_planParts_95 : decode (am_b mt_Se_planParts) 95 = .ok (.ireturn, 1) := by decide +kernel
theorem d_Se_planParts_96 : decode (am_b mt_Se_planParts) 96 = .ok (.iload 4, 2) := by decide +kernel
theorem d_Se_planParts_98 : decode (am_b mt_Se_planParts) 98 = .ok (.bipush 16, 2) := by decide +kernel
theorem d_Se_planParts_100 : decode (am_b mt_Se_planParts) 100 = .ok (.if_icmp .le 6, 3) := by decide +kernel
theorem d_Se_planParts_103 : decode (am_b mt_Se_planParts) 103 = .ok (.bipush 13, 2) := by decide +kernel
theorem d_Se_planParts_105 : decode (am_b mt_Se_planParts) 105 = .ok (.ireturn, 1) := by decide +kernel
theorem d_Se_planParts_106 : decode (am_b mt_Se_planParts) 106 = .ok (.aload_n 0, 1) := by decide +kernel
theorem d_Se_planParts_107 : decode (am_b mt_Se_planParts) 107 = .ok (.getfield 34, 3) := by decide +kernel
theorem d_Se_planParts_110 : decode (am_b mt_Se_planParts) 110 = .ok (.iload_n 2, 1) := by decide +kernel
theorem d_Se_planParts_111 : decode (am_b mt_Se_planParts) 111 = .ok (.aload_n 0, 1) := by decide +kernel
theorem d_Se_planParts_112 : decode (am_b mt_Se_planParts) 112 = .ok (.getfield 34, 3) := by decide +kernel
theorem d_Se_planParts_115 : decode (am_b mt_Se_planParts) 115 = .ok (.iload_n 2, 1) := by decide +kernel
theorem d_Se_planParts_116 : decode (am_b mt_Se_planParts) 116 = .ok (.iaload, 1) := by decide +kernel
theorem d_Se_planParts_117 : decode (am_b mt_Se_planParts) 117 = .ok (.iload 4, 2) := by decide +kernel
theorem d_Se_planParts_119 : decode (am_b mt_Se_planParts) 119 = .ok (.invokestatic 113, 3) := by decide +kernel
theorem d_Se_planParts_122 : decode (am_b mt_Se_planParts) 122 = .ok (.iastore, 1) := by decide +kernel
theorem d_Se_planParts_123 : decode (am_b mt_Se_planParts) 123 = .ok (.iinc 1 1, 3) := by decide +kernel
theorem d_Se_planParts_126 : decode (am_b mt_Se_planParts) 126 = .ok (.goto (-90), 3) := by decide +kernel
theorem d_Se_planParts_129 : decode (am_b mt_Se_planParts) 129 = .ok (.iconst 0, 1) := by decide +kernel
theorem d_Se_planParts_130 : decode (am_b mt_Se_planParts) 130 = .ok (.ireturn, 1) := by decide +kernel
theorem d_Ro_overlay_0 : decode (am_b mt_Ro_overlay) 0 = .ok (.aload_n 2, 1) := by decide +kernel
theorem d_Ro_overlay_1 : decode (am_b mt_Ro_overlay) 1 = .ok (.getfield 13, 3) := by decide +kernel
theorem d_Ro_overlay_4 : decode (am_b mt_Ro_overlay) 4 = .ok (.iload_n 3, 1) := by decide +kernel
theorem d_Ro_overlay_5 : decode (am_b mt_Ro_overlay) 5 = .ok (.isub, 1) := by decide +kernel
theorem d_Ro_overlay_6 : decode (am_b mt_Ro_overlay) 6 = .ok (.istore 4, 2) := by decide +kernel
theorem d_Ro_overlay_8 : decode (am_b mt_Ro_overlay) 8 = .ok (.iload_n 1, 1) := by decide +kernel
theorem d_Ro_overlay_9 : decode (am_b mt_Ro_overlay) 9 = .ok (.ifCond .lt 62, 3) := by decide +kernel
theorem d_Ro_overlay_12 : decode (am_b mt_Ro_overlay) 12 = .ok (.iload_n 1, 1) := by decide +kernel
theorem d_Ro_overlay_13 : decode (am_b mt_Ro_overlay) 13 = .ok (.aload_n 0, 1) := by decide +kernel
theorem d_Ro_overlay_14 : decode (am_b mt_Ro_overlay) 14 = .ok (.getfield 13, 3) := by decide +kernel
theorem d_Ro_overlay_17 : decode (am_b mt_Ro_overlay) 17 = .ok (.if_icmp .gt 54, 3) := by decide +kernel
theorem d_Ro_overlay_20 : decode (am_b mt_Ro_overlay) 20 = .ok (.iload_n 3, 1) := by decide +kernel
theorem d_Ro_overlay_21 : decode (am_b mt_Ro_overlay) 21 = .ok (.ifCond .lt 50, 3) := by decide +kernel
theorem d_Ro_overlay_24 : decode (am_b mt_Ro_overlay) 24 = .ok (.iload 4, 2) := by decide +kernel
theorem d_Ro_overlay_26 : decode (am_b mt_Ro_overlay) 26 = .ok (.ifCond .le 45, 3) := by decide +kernel
theorem d_Ro_overlay_29 : decode (am_b mt_Ro_overlay) 29 = .ok (.iload_n 1, 1) := by decide +kernel
theorem d_Ro_overlay_30 : decode (am_b mt_Ro_overlay) 30 = .ok (.iload 4, 2) := by decide +kernel
theorem d_Ro_overlay_32 : decode (am_b mt_Ro_overlay) 32 = .ok (.iadd, 1) := by decide +kernel
theorem d_Ro_overlay_33 : decode (am_b mt_Ro_overlay) 33 = .ok (.aload_n 0, 1) := by decide +kernel
theorem d_Ro_overlay_34 : decode (am_b mt_Ro_overlay) 34 = .ok (.getfield 7, 3) := by decide +kernel
theorem d_Ro_overlay_37 : decode (am_b mt_Ro_overlay) 37 = .ok (.arraylength, 1) := by decide +kernel
theorem d_Ro_overlay_38 : decode (am_b mt_Ro_overlay) 38 = .ok (.if_icmp .gt 33, 3) := by decide +kernel
theorem d_Ro_overlay_41 : decode (am_b mt_Ro_overlay) 41 = .ok (.aload_n 2, 1) := by decide +kernel
theorem d_Ro_overlay_42 : decode (am_b mt_Ro_overlay) 42 = .ok (.getfield 7, 3) := by decide +kernel
theorem d_Ro_overlay_45 : decode (am_b mt_Ro_overlay) 45 = .ok (.iload_n 3, 1) := by decide +kernel
theorem d_Ro_overlay_46 : decode (am_b mt_Ro_overlay) 46 = .ok (.aload_n 0, 1) := by decide +kernel
theorem d_Ro_overlay_47 : decode (am_b mt_Ro_overlay) 47 = .ok (.getfield 7, 3) := by decide +kernel
theorem d_Ro_overlay_50 : decode (am_b mt_Ro_overlay) 50 = .ok (.iload_n 1, 1) := by decide +kernel
theorem d_Ro_overlay_51 : decode (am_b mt_Ro_overlay) 51 = .ok (.iload 4, 2) := by decide +kernel
theorem d_Ro_overlay_53 : decode (am_b mt_Ro_overlay) 53 = .ok (.invokestatic 23, 3) := by decide +kernel
theorem d_Ro_overlay_56 : decode (am_b mt_Ro_overlay) 56 = .ok (.aload_n 0, 1) := by decide +kernel
theorem d_Ro_overlay_57 : decode (am_b mt_Ro_overlay) 57 = .ok (.aload_n 0, 1) := by decide +kernel
theorem d_Ro_overlay_58 : decode (am_b mt_Ro_overlay) 58 = .ok (.getfield 13, 3) := by decide +kernel
theorem d_Ro_overlay_61 : decode (am_b mt_Ro_overlay) 61 = .ok (.iload_n 1, 1) := by decide +kernel
theorem d_Ro_overlay_62 : decode (am_b mt_Ro_overlay) 62 = .ok (.iload 4, 2) := by decide +kernel
theorem d_Ro_overlay_64 : decode (am_b mt_Ro_overlay) 64 = .ok (.iadd, 1) := by decide +kernel
theorem d_Ro_overlay_65 : decode (am_b mt_Ro_overlay) 65 = .ok (.invokestatic 33, 3) := by decide +kernel
theorem d_Ro_overlay_68 : decode (am_b mt_Ro_overlay) 68 = .ok (.putfield 13, 3) := by decide +kernel
theorem d_Ro_overlay_71 : decode (am_b mt_Ro_overlay) 71 = .ok (.return_, 1) := by decide +kernel
theorem d_Se_answerAccess_0 : decode (am_b mt_Se_answerAccess) 0 = .ok (.aload_n 1, 1) := by decide +kernel
theorem d_Se_answerAccess_1 : decode (am_b mt_Se_answerAccess) 1 = .ok (.iconst 0, 1) := by decide +kernel
theorem d_Se_answerAccess_2 : decode (am_b mt_Se_answerAccess) 2 = .ok (.invokevirtual 84, 3) := by decide +kernel
theorem d_Se_answerAccess_5 : decode (am_b mt_Se_answerAccess) 5 = .ok (.istore_n 2, 1) := by decide +kernel
theorem d_Se_answerAccess_6 : decode (am_b mt_Se_answerAccess) 6 = .ok (.aload_n 1, 1) := by decide +kernel
theorem d_Se_answerAccess_7 : decode (am_b mt_Se_answerAccess) 7 = .ok (.iconst 1, 1) := by decide +kernel
theorem d_Se_answerAccess_8 : decode (am_b mt_Se_answerAccess) 8 = .ok (.invokevirtual 84, 3) := by decide +kernel
theorem d_Se_answerAccess_11 : decode (am_b mt_Se_answerAccess) 11 = .ok (.istore_n 3, 1) := by decide +kernel
theorem d_Se_answerAccess_12 : decode (am_b mt_Se_answerAccess) 12 = .ok (.aload_n 0, 1) := by decide +kernel
theorem d_Se_answerAccess_13 : decode (am_b mt_Se_answerAccess) 13 = .ok (.iload_n 3, 1) := by decide +kernel
theorem d_Se_answerAccess_14 : decode (am_b mt_Se_answerAccess) 14 = .ok (.invokevirtual 122, 3) := by decide +kernel
theorem d_Se_answerAccess_17 : decode (am_b mt_Se_answerAccess) 17 = .ok (.ifCond .ne 5, 3) := by decide +kernel
theorem d_Se_answerAccess_20 : decode (am_b mt_Se_answerAccess) 20 = .ok (.iconst 1, 1) := by decide +kernel
theorem d_Se_answerAccess_21 : decode (am_b mt_Se_answerAccess) 21 = .ok (.ireturn, 1) := by decide +kernel
theorem d_Se_answerAccess_22 : decode (am_b mt_Se_answerAccess) 22 = .ok (.aload_n 0, 1) := by decide +kernel
theorem d_Se_answerAccess_23 : decode (am_b mt_Se_answerAccess) 23 = .ok (.getfield 13, 3) := by decide +kernel
theorem d_Se_answerAccess_26 : decode (am_b mt_Se_answerAccess) 26 = .ok (.iload_n 3, 1) := by decide +kernel
theorem d_Se_answerAccess_27 : decode (am_b mt_Se_answerAccess) 27 = .ok (.iconst 1, 1) := by decide +kernel
theorem d_Se_answerAccess_28 : decode (am_b mt_Se_answerAccess) 28 = .ok (.isub, 1) := by decide +kernel
theorem d_Se_answerAccess_29 : decode (am_b mt_Se_answerAccess) 29 = .ok (.aaload, 1) := by decide +kernel
theorem d_Se_answerAccess_30 : decode (am_b mt_Se_answerAccess) 30 = .ok (.astore 4, 2) := by decide +kernel
theorem d_Se_answerAccess_32 : decode (am_b mt_Se_answerAccess) 32 = .ok (.iload_n 2, 1) := by decide +kernel
theorem d_Se_answerAccess_33 : decode (am_b mt_Se_answerAccess) 33 = .ok (.bipush 10, 2) := by decide +kernel
theorem d_Se_answerAccess_35 : decode (am_b mt_Se_answerAccess) 35 = .ok (.if_icmp .eq 9, 3) := by decide +kernel
theorem d_Se_answerAccess_38 : decode (am_b mt_Se_answerAccess) 38 = .ok (.iload_n 2, 1) := by decide +kernel
theorem d_Se_answerAccess_39 : decode (am_b mt_Se_answerAccess) 39 = .ok (.bipush 12, 2) := by decide +kernel
theorem d_Se_answerAccess_41 : decode (am_b mt_Se_answerAccess) 41 = .ok (.if_icmp .ne 31, 3) := by decide +kernel
theorem d_Se_answerAccess_44 : decode (am_b mt_Se_answerAccess) 44 = .ok (.aload 4, 2) := by decide +kernel
theorem d_Se_answerAccess_46 : decode (am_b mt_Se_answerAccess) 46 = .ok (.invokevirtual 125, 3) := by decide +kernel
theorem d_Se_answerAccess_49 : decode (am_b mt_Se_answerAccess) 49 = .ok (.ifCond .eq 21, 3) := by decide +kernel
theorem d_Se_answerAccess_52 : decode (am_b mt_Se_answerAccess) 52 = .ok (.aload_n 0, 1) := by decide +kernel
theorem d_Se_answerAccess_53 : decode (am_b mt_Se_answerAccess) 53 = .ok (.iload_n 2, 1) := by decide +kernel
theorem d_Se_answerAccess_54 : decode (am_b mt_Se_answerAccess) 54 = .ok (.aload 4, 2) := by decide +kernel
theorem d_Se_answerAccess_56 : decode (am_b mt_Se_answerAccess) 56 = .ok (.getfield 49, 3) := by decide +kernel
theorem d_Se_answerAccess_59 : decode (am_b mt_Se_answerAccess) 59 = .ok (.aload_n 1, 1) := by decide +kernel
theorem d_Se_answerAccess_60 : decode (am_b mt_Se_answerAccess) 60 = .ok (.iconst 2, 1) := by decide +kernel
theorem d_Se_answerAccess_61 : decode (am_b mt_Se_answerAccess) 61 = .ok (.invokevirtual 84, 3) := by decide +kernel
theorem d_Se_answerAccess_64 : decode (am_b mt_Se_answerAccess) 64 = .ok (.invokevirtual 129, 3) := by decide +kernel
theorem d_Se_answerAccess_67 : decode (am_b mt_Se_answerAccess) 67 = .ok (.goto 4, 3) := by decide +kernel
theorem d_Se_answerAccess_70 : decode (am_b mt_Se_answerAccess) 70 = .ok (.iconst 2, 1) := by decide +kernel
theorem d_Se_answerAccess_71 : decode (am_b mt_Se_answerAccess) 71 = .ok (.ireturn, 1) := by decide +kernel
theorem d_Se_answerAccess_72 : decode (am_b mt_Se_answerAccess) 72 = .ok (.aload 4, 2) := by decide +kernel
theorem d_Se_answerAccess_74 : decode (am_b mt_Se_answerAccess) 74 = .ok (.invokevirtual 133, 3) := by decide +kernel
theorem d_Se_answerAccess_77 : decode (am_b mt_Se_answerAccess) 77 = .ok (.ifCond .ne 5, 3) := by decide +kernel
theorem d_Se_answerAccess_80 : decode (am_b mt_Se_answerAccess) 80 = .ok (.iconst 3, 1) := by decide +kernel
theorem d_Se_answerAccess_81 : decode (am_b mt_Se_answerAccess) 81 = .ok (.ireturn, 1) := by decide +kernel
theorem d_Se_answerAccess_82 : decode (am_b mt_Se_answerAccess) 82 = .ok (.iload_n 2, 1) := by decide +kernel
theorem d_Se_answerAccess_83 : decode (am_b mt_Se_answerAccess) 83 = .ok (.bipush 18, 2) := by decide +kernel
theorem d_Se_answerAccess_85 : decode (am_b mt_Se_answerAccess) 85 = .ok (.if_icmp .ne 16, 3) := by decide +kernel
theorem d_Se_answerAccess_88 : decode (am_b mt_Se_answerAccess) 88 = .ok (.aload_n 0, 1) := by decide +kernel
theorem d_Se_answerAccess_89 : decode (am_b mt_Se_answerAccess) 89 = .ok (.aload 4, 2) := by decide +kernel
theorem d_Se_answerAccess_91 : decode (am_b mt_Se_answerAccess) 91 = .ok (.getfield 49, 3) := by decide +kernel
theorem d_Se_answerAccess_94 : decode (am_b mt_Se_answerAccess) 94 = .ok (.aload_n 1, 1) := by decide +kernel
theorem d_Se_answerAccess_95 : decode (am_b mt_Se_answerAccess) 95 = .ok (.invokevirtual 136, 3) := by decide +kernel
theorem d_Se_answerAccess_98 : decode (am_b mt_Se_answerAccess) 98 = .ok (.goto 8, 3) := by decide +kernel
theorem d_Se_answerAccess_101 : decode (am_b mt_Se_answerAccess) 101 = .ok (.aload_n 0, 1) := by decide +kernel
theorem d_Se_answerAccess_102 : decode (am_b mt_Se_answerAccess) 102 = .ok (.aload_n 1, 1) := by decide +kernel
theorem d_Se_answerAccess_103 : decode (am_b mt_Se_answerAccess) 103 = .ok (.invokevirtual 140, 3) := by decide +kernel
theorem d_Se_answerAccess_106 : decode (am_b mt_Se_answerAccess) 106 = .ok (.ireturn, 1) := by decide +kernel
theorem d_At_isReadable_0 : decode (am_b mt_At_isReadable) 0 = .ok (.aload_n 0, 1) := by decide +kernel
theorem d_At_isReadable_1 : decode (am_b mt_At_isReadable) 1 = .ok (.getfield 24, 3) := by decide +kernel
theorem d_At_isReadable_4 : decode (am_b mt_At_isReadable) 4 = .ok (.iconst 1, 1) := by decide +kernel
theorem d_At_isReadable_5 : decode (am_b mt_At_isReadable) 5 = .ok (.iand, 1) := by decide +kernel
theorem d_At_isReadable_6 : decode (am_b mt_At_isReadable) 6 = .ok (.ifCond .eq 7, 3) := by decide +kernel
theorem d_At_isReadable_9 : decode (am_b mt_At_isReadable) 9 = .ok (.iconst 1, 1) := by decide +kernel
theorem d_At_isReadable_10 : decode (am_b mt_At_isReadable) 10 = .ok (.goto 4, 3) := by decide +kernel
theorem d_At_isReadable_13 : decode (am_b mt_At_isReadable) 13 = .ok (.iconst 0, 1) := by decide +kernel
theorem d_At_isReadable_14 : decode (am_b mt_At_isReadable) 14 = .ok (.ireturn, 1) := by decide +kernel
theorem d_Se_answerRead_0 : decode (am_b mt_Se_answerRead) 0 = .ok (.iload_n 3, 1) := by decide +kernel
theorem d_Se_answerRead_1 : decode (am_b mt_Se_answerRead) 1 = .ok (.aload_n 2, 1) := by decide +kernel
theorem d_Se_answerRead_2 : decode (am_b mt_Se_answerRead) 2 = .ok (.invokevirtual 80, 3) := by decide +kernel
theorem d_Se_answerRead_5 : decode (am_b mt_Se_answerRead) 5 = .ok (.if_icmp .le 6, 3) := by decide +kernel
theorem d_Se_answerRead_8 : decode (am_b mt_Se_answerRead) 8 = .ok (.bipush 7, 2) := by decide +kernel
theorem d_Se_answerRead_10 : decode (am_b mt_Se_answerRead) 10 = .ok (.ireturn, 1) := by decide +kernel
theorem d_Se_answerRead_11 : decode (am_b mt_Se_answerRead) 11 = .ok (.aload_n 0, 1) := by decide +kernel
theorem d_Se_answerRead_12 : decode (am_b mt_Se_answerRead) 12 = .ok (.getfield 38, 3) := by decide +kernel
theorem d_Se_answerRead_15 : decode (am_b mt_Se_answerRead) 15 = .ok (.iload_n 1, 1) := by decide +kernel
theorem d_Se_answerRead_16 : decode (am_b mt_Se_answerRead) 16 = .ok (.iconst 1, 1) := by decide +kernel
theorem d_Se_answerRead_17 : decode (am_b mt_Se_answerRead) 17 = .ok (.iadd, 1) := by decide +kernel
theorem d_Se_answerRead_18 : decode (am_b mt_Se_answerRead) 18 = .ok (.invokevirtual 63, 3) := by decide +kernel
theorem d_Se_answerRead_21 : decode (am_b mt_Se_answerRead) 21 = .ok (.aload_n 0, 1) := by decide +kernel
theorem d_Se_answerRead_22 : decode (am_b mt_Se_answerRead) 22 = .ok (.getfield 38, 3) := by decide +kernel
theorem d_Se_answerRead_25 : decode (am_b mt_Se_answerRead) 25 = .ok (.aload_n 2, 1) := by decide +kernel
theorem d_Se_answerRead_26 : decode (am_b mt_Se_answerRead) 26 = .ok (.iload_n 3, 1) := by decide +kernel
theorem d_Se_answerRead_27 : decode (am_b mt_Se_answerRead) 27 = .ok (.aload_n 0, 1) := by decide +kernel
theorem d_Se_answerRead_28 : decode (am_b mt_Se_answerRead) 28 = .ok (.getfield 42, 3) := by decide +kernel
theorem d_Se_answerRead_31 : decode (am_b mt_Se_answerRead) 31 = .ok (.iconst 1, 1) := by decide +kernel
theorem d_Se_answerRead_32 : decode (am_b mt_Se_answerRead) 32 = .ok (.isub, 1) := by decide +kernel
theorem d_Se_answerRead_33 : decode (am_b mt_Se_answerRead) 33 = .ok (.invokevirtual 70, 3) := by decide +kernel
theorem d_Se_answerRead_36 : decode (am_b mt_Se_answerRead) 36 = .ok (.iconst 0, 1) := by decide +kernel
theorem d_Se_answerRead_37 : decode (am_b mt_Se_answerRead) 37 = .ok (.ireturn, 1) := by decide +kernel
theorem d_At_isWritable_0 : decode (am_b mt_At_isWritable) 0 = .ok (.aload_n 0, 1) := by decide +kernel
theorem d_At_isWritable_1 : decode (am_b mt_At_isWritable) 1 = .ok (.getfield 24, 3) := by decide +kernel
theorem d_At_isWritable_4 : decode (am_b mt_At_isWritable) 4 = .ok (.iconst 2, 1) := by decide +kernel
theorem d_At_isWritable_5 : decode (am_b mt_At_isWritable) 5 = .ok (.iand, 1) := by decide +kernel
theorem d_At_isWritable_6 : decode (am_b mt_At_isWritable) 6 = .ok (.ifCond .eq 7, 3) := by decide +kernel
theorem d_At_isWritable_9 : decode (am_b mt_At_isWritable) 9 = .ok (.iconst 1, 1) := by decide +kernel
theorem d_At_isWritable_10 : decode (am_b mt_At_isWritable) 10 = .ok (.goto 4, 3) := by decide +kernel
theorem d_At_isWritable_13 : decode (am_b mt_At_isWritable) 13 = .ok (.iconst 0, 1) := by decide +kernel
theorem d_At_isWritable_14 : decode (am_b mt_At_isWritable) 14 = .ok (.ireturn, 1) := by decide +kernel
theorem d_Se_answerWrite_0 : decode (am_b mt_Se_answerWrite) 0 = .ok (.aload_n 2, 1) := by decide +kernel
theorem d_Se_answerWrite_1 : decode (am_b mt_Se_answerWrite) 1 = .ok (.invokevirtual 80, 3) := by decide +kernel
theorem d_Se_answerWrite_4 : decode (am_b mt_Se_answerWrite) 4 = .ok (.iconst 2, 1) := by decide +kernel
theorem d_Se_answerWrite_5 : decode (am_b mt_Se_answerWrite) 5 = .ok (.isub, 1) := by decide +kernel
theorem d_Se_answerWrite_6 : decode (am_b mt_Se_answerWrite) 6 = .ok (.bipush 16, 2) := by decide +kernel
theorem d_Se_answerWrite_8 : decode (am_b mt_Se_answerWrite) 8 = .ok (.if_icmp .le 6, 3) := by decide +kernel
theorem d_Se_answerWrite_11 : decode (am_b mt_Se_answerWrite) 11 = .ok (.bipush 13, 2) := by decide +kernel
theorem d_Se_answerWrite_13 : decode (am_b mt_Se_answerWrite) 13 = .ok (.ireturn, 1) := by decide +kernel
theorem d_Se_answerWrite_14 : decode (am_b mt_Se_answerWrite) 14 = .ok (.aload_n 1, 1) := by decide +kernel
theorem d_Se_answerWrite_15 : decode (am_b mt_Se_answerWrite) 15 = .ok (.invokevirtual 60, 3) := by decide +kernel
theorem d_Se_answerWrite_18 : decode (am_b mt_Se_answerWrite) 18 = .ok (.aload_n 1, 1) := by decide +kernel
theorem d_Se_answerWrite_19 : decode (am_b mt_Se_answerWrite) 19 = .ok (.aload_n 2, 1) := by decide +kernel
theorem d_Se_answerWrite_20 : decode (am_b mt_Se_answerWrite) 20 = .ok (.iconst 2, 1) := by decide +kernel
theorem d_Se_answerWrite_21 : decode (am_b mt_Se_answerWrite) 21 = .ok (.bipush 16, 2) := by decide +kernel
theorem d_Se_answerWrite_23 : decode (am_b mt_Se_answerWrite) 23 = .ok (.invokevirtual 70, 3) := by decide +kernel
theorem d_Se_answerWrite_26 : decode (am_b mt_Se_answerWrite) 26 = .ok (.aload_n 0, 1) := by decide +kernel
theorem d_Se_answerWrite_27 : decode (am_b mt_Se_answerWrite) 27 = .ok (.getfield 38, 3) := by decide +kernel
theorem d_Se_answerWrite_30 : decode (am_b mt_Se_answerWrite) 30 = .ok (.bipush 19, 2) := by decide +kernel
theorem d_Se_answerWrite_32 : decode (am_b mt_Se_answerWrite) 32 = .ok (.invokevirtual 63, 3) := by decide +kernel
theorem d_Se_answerWrite_35 : decode (am_b mt_Se_answerWrite) 35 = .ok (.iconst 0, 1) := by decide +kernel
theorem d_Se_answerWrite_36 : decode (am_b mt_Se_answerWrite) 36 = .ok (.ireturn, 1) := by decide +kernel
theorem d_Se_answerPart_0 : decode (am_b mt_Se_answerPart) 0 = .ok (.aload_n 0, 1) := by decide +kernel
theorem d_Se_answerPart_1 : decode (am_b mt_Se_answerPart) 1 = .ok (.getfield 31, 3) := by decide +kernel
theorem d_Se_answerPart_4 : decode (am_b mt_Se_answerPart) 4 = .ok (.iconst 4, 1) := by decide +kernel
theorem d_Se_answerPart_5 : decode (am_b mt_Se_answerPart) 5 = .ok (.if_icmp .lt 6, 3) := by decide +kernel
theorem d_Se_answerPart_8 : decode (am_b mt_Se_answerPart) 8 = .ok (.bipush 9, 2) := by decide +kernel
theorem d_Se_answerPart_10 : decode (am_b mt_Se_answerPart) 10 = .ok (.ireturn, 1) := by decide +kernel
theorem d_Se_answerPart_11 : decode (am_b mt_Se_answerPart) 11 = .ok (.aload_n 0, 1) := by decide +kernel
theorem d_Se_answerPart_12 : decode (am_b mt_Se_answerPart) 12 = .ok (.getfield 24, 3) := by decide +kernel
theorem d_Se_answerPart_15 : decode (am_b mt_Se_answerPart) 15 = .ok (.aload_n 0, 1) := by decide +kernel
theorem d_Se_answerPart_16 : decode (am_b mt_Se_answerPart) 16 = .ok (.getfield 31, 3) := by decide +kernel
theorem d_Se_answerPart_19 : decode (am_b mt_Se_answerPart) 19 = .ok (.aaload, 1) := by decide +kernel
theorem d_Se_answerPart_20 : decode (am_b mt_Se_answerPart) 20 = .ok (.invokevirtual 60, 3) := by decide +kernel
theorem d_Se_answerPart_23 : decode (am_b mt_Se_answerPart) 23 = .ok (.aload_n 0, 1) := by decide +kernel
theorem d_Se_answerPart_24 : decode (am_b mt_Se_answerPart) 24 = .ok (.getfield 24, 3) := by decide +kernel
theorem d_Se_answerPart_27 : decode (am_b mt_Se_answerPart) 27 = .ok (.aload_n 0, 1) := by decide +kernel
theorem d_Se_answerPart_28 : decode (am_b mt_Se_answerPart) 28 = .ok (.getfield 31, 3) := by decide +kernel
theorem d_Se_answerPart_31 : decode (am_b mt_Se_answerPart) 31 = .ok (.aaload, 1) := by decide +kernel
theorem d_Se_answerPart_32 : decode (am_b mt_Se_answerPart) 32 = .ok (.aload_n 1, 1) := by decide +kernel
theorem d_Se_answerPart_33 : decode (am_b mt_Se_answerPart) 33 = .ok (.iconst 1, 1) := by decide +kernel
theorem d_Se_answerPart_34 : decode (am_b mt_Se_answerPart) 34 = .ok (.bipush 20, 2) := by decide +kernel
theorem d_Se_answerPart_36 : decode (am_b mt_Se_answerPart) 36 = .ok (.invokevirtual 70, 3) := by decide +kernel
theorem d_Se_answerPart_39 : decode (am_b mt_Se_answerPart) 39 = .ok (.aload_n 0, 1) := by decide +kernel
theorem d_Se_answerPart_40 : decode (am_b mt_Se_answerPart) 40 = .ok (.dup, 1) := by decide +kernel
theorem d_Se_answerPart_41 : decode (am_b mt_Se_answerPart) 41 = .ok (.getfield 31, 3) := by decide +kernel
theorem d_Se_answerPart_44 : decode (am_b mt_Se_answerPart) 44 = .ok (.iconst 1, 1) := by decide +kernel
theorem d_Se_answerPart_45 : decode (am_b mt_Se_answerPart) 45 = .ok (.iadd, 1) := by decide +kernel
theorem d_Se_answerPart_46 : decode (am_b mt_Se_answerPart) 46 = .ok (.putfield 31, 3) := by decide +kernel
theorem d_Se_answerPart_49 : decode (am_b mt_Se_answerPart) 49 = .ok (.aload_n 0, 1) := by decide +kernel
theorem d_Se_answerPart_50 : decode (am_b mt_Se_answerPart) 50 = .ok (.getfield 38, 3) := by decide +kernel
theorem d_Se_answerPart_53 : decode (am_b mt_Se_answerPart) 53 = .ok (.bipush 23, 2) := by decide +kernel
theorem d_Se_answerPart_55 : decode (am_b mt_Se_answerPart) 55 = .ok (.invokevirtual 63, 3) := by decide +kernel
theorem d_Se_answerPart_58 : decode (am_b mt_Se_answerPart) 58 = .ok (.aload_n 0, 1) := by decide +kernel
theorem d_Se_answerPart_59 : decode (am_b mt_Se_answerPart) 59 = .ok (.getfield 38, 3) := by decide +kernel
theorem d_Se_answerPart_62 : decode (am_b mt_Se_answerPart) 62 = .ok (.aload_n 1, 1) := by decide +kernel
theorem d_Se_answerPart_63 : decode (am_b mt_Se_answerPart) 63 = .ok (.iconst 1, 1) := by decide +kernel
theorem d_Se_answerPart_64 : decode (am_b mt_Se_answerPart) 64 = .ok (.bipush 20, 2) := by decide +kernel
theorem d_Se_answerPart_66 : decode (am_b mt_Se_answerPart) 66 = .ok (.invokevirtual 70, 3) := by decide +kernel
theorem d_Se_answerPart_69 : decode (am_b mt_Se_answerPart) 69 = .ok (.iconst 0, 1) := by decide +kernel
theorem d_Se_answerPart_70 : decode (am_b mt_Se_answerPart) 70 = .ok (.ireturn, 1) := by decide +kernel
theorem d_Se_answerError_0 : decode (am_b mt_Se_answerError) 0 = .ok (.aload_n 0, 1) := by decide +kernel
theorem d_Se_answerError_1 : decode (am_b mt_Se_answerError) 1 = .ok (.getfield 38, 3) := by decide +kernel
theorem d_Se_answerError_4 : decode (am_b mt_Se_answerError) 4 = .ok (.invokevirtual 60, 3) := by decide +kernel
theorem d_Se_answerError_7 : decode (am_b mt_Se_answerError) 7 = .ok (.aload_n 0, 1) := by decide +kernel
theorem d_Se_answerError_8 : decode (am_b mt_Se_answerError) 8 = .ok (.getfield 38, 3) := by decide +kernel
theorem d_Se_answerError_11 : decode (am_b mt_Se_answerError) 11 = .ok (.iconst 1, 1) := by decide +kernel
theorem d_Se_answerError_12 : decode (am_b mt_Se_answerError) 12 = .ok (.invokevirtual 63, 3) := by decide +kernel
theorem d_Se_answerError_15 : decode (am_b mt_Se_answerError) 15 = .ok (.aload_n 0, 1) := by decide +kernel
theorem d_Se_answerError_16 : decode (am_b mt_Se_answerError) 16 = .ok (.getfield 38, 3) := by decide +kernel
theorem d_Se_answerError_19 : decode (am_b mt_Se_answerError) 19 = .ok (.iload_n 1, 1) := by decide +kernel
theorem d_Se_answerError_20 : decode (am_b mt_Se_answerError) 20 = .ok (.invokevirtual 63, 3) := by decide +kernel
theorem d_Se_answerError_23 : decode (am_b mt_Se_answerError) 23 = .ok (.aload_n 0, 1) := by decide +kernel
theorem d_Se_answerError_24 : decode (am_b mt_Se_answerError) 24 = .ok (.getfield 38, 3) := by decide +kernel
theorem d_Se_answerError_27 : decode (am_b mt_Se_answerError) 27 = .ok (.iload_n 2, 1) := by decide +kernel
theorem d_Se_answerError_28 : decode (am_b mt_Se_answerError) 28 = .ok (.invokevirtual 63, 3) := by decide +kernel
theorem d_Se_answerError_31 : decode (am_b mt_Se_answerError) 31 = .ok (.aload_n 0, 1) := by decide +kernel
theorem d_Se_answerError_32 : decode (am_b mt_Se_answerError) 32 = .ok (.getfield 38, 3) := by decide +kernel
theorem d_Se_answerError_35 : decode (am_b mt_Se_answerError) 35 = .ok (.iload_n 3, 1) := by decide +kernel
theorem d_Se_answerError_36 : decode (am_b mt_Se_answerError) 36 = .ok (.invokevirtual 63, 3) := by decide +kernel
theorem d_Se_answerError_39 : decode (am_b mt_Se_answerError) 39 = .ok (.return_, 1) := by decide +kernel
theorem d_Cl_listen_0 : decode (am_b mt_Cl_listen) 0 = .ok (.aload_n 1, 1) := by decide +kernel
theorem d_Cl_listen_1 : decode (am_b mt_Cl_listen) 1 = .ok (.iconst 0, 1) := by decide +kernel
theorem d_Cl_listen_2 : decode (am_b mt_Cl_listen) 2 = .ok (.invokevirtual 79, 3) := by decide +kernel
theorem d_Cl_listen_5 : decode (am_b mt_Cl_listen) 5 = .ok (.istore_n 3, 1) := by decide +kernel
theorem d_Cl_listen_6 : decode (am_b mt_Cl_listen) 6 = .ok (.iload_n 3, 1) := by decide +kernel
theorem d_Cl_listen_7 : decode (am_b mt_Cl_listen) 7 = .ok (.bipush 27, 2) := by decide +kernel
theorem d_Cl_listen_9 : decode (am_b mt_Cl_listen) 9 = .ok (.if_icmp .eq 9, 3) := by decide +kernel
theorem d_Cl_listen_12 : decode (am_b mt_Cl_listen) 12 = .ok (.iload_n 3, 1) := by decide +kernel
theorem d_Cl_listen_13 : decode (am_b mt_Cl_listen) 13 = .ok (.bipush 29, 2) := by decide +kernel
theorem d_Cl_listen_15 : decode (am_b mt_Cl_listen) 15 = .ok (.if_icmp .ne 12, 3) := by decide +kernel
theorem d_Cl_listen_18 : decode (am_b mt_Cl_listen) 18 = .ok (.aload_n 0, 1) := by decide +kernel
theorem d_Cl_listen_19 : decode (am_b mt_Cl_listen) 19 = .ok (.aload_n 1, 1) := by decide +kernel
theorem d_Cl_listen_20 : decode (am_b mt_Cl_listen) 20 = .ok (.aload_n 2, 1) := by decide +kernel
theorem d_Cl_listen_21 : decode (am_b mt_Cl_listen) 21 = .ok (.invokevirtual 83, 3) := by decide +kernel
theorem d_Cl_listen_24 : decode (am_b mt_Cl_listen) 24 = .ok (.goto 42, 3) := by decide +kernel
theorem d_Cl_listen_27 : decode (am_b mt_Cl_listen) 27 = .ok (.iload_n 3, 1) := by decide +kernel
theorem d_Cl_listen_28 : decode (am_b mt_Cl_listen) 28 = .ok (.iconst 1, 1) := by decide +kernel
theorem d_Cl_listen_29 : decode (am_b mt_Cl_listen) 29 = .ok (.iand, 1) := by decide +kernel
theorem d_Cl_listen_30 : decode (am_b mt_Cl_listen) 30 = .ok (.iconst 1, 1) := by decide +kernel
theorem d_Cl_listen_31 : decode (am_b mt_Cl_listen) 31 = .ok (.if_icmp .ne 35, 3) := by decide +kernel
theorem d_Cl_listen_34 : decode (am_b mt_Cl_listen) 34 = .ok (.aload_n 0, 1) := by decide +kernel
theorem d_Cl_listen_35 : decode (am_b mt_Cl_listen) 35 = .ok (.getfield 49, 3) := by decide +kernel
theorem d_Cl_listen_38 : decode (am_b mt_Cl_listen) 38 = .ok (.ifCond .ne 28, 3) := by decide +kernel
theorem d_Cl_listen_41 : decode (am_b mt_Cl_listen) 41 = .ok (.aload_n 0, 1) := by decide +kernel
theorem d_Cl_listen_42 : decode (am_b mt_Cl_listen) 42 = .ok (.aload_n 1, 1) := by decide +kernel
theorem d_Cl_listen_43 : decode (am_b mt_Cl_listen) 43 = .ok (.invokevirtual 87, 3) := by decide +kernel
theorem d_Cl_listen_46 : decode (am_b mt_Cl_listen) 46 = .ok (.ifCond .ne 20, 3) := by decide +kernel
theorem d_Cl_listen_49 : decode (am_b mt_Cl_listen) 49 = .ok (.aload_n 0, 1) := by decide +kernel
theorem d_Cl_listen_50 : decode (am_b mt_Cl_listen) 50 = .ok (.aload_n 1, 1) := by decide +kernel
theorem d_Cl_listen_51 : decode (am_b mt_Cl_listen) 51 = .ok (.invokevirtual 91, 3) := by decide +kernel
theorem d_Cl_listen_54 : decode (am_b mt_Cl_listen) 54 = .ok (.aload_n 0, 1) := by decide +kernel
theorem d_Cl_listen_55 : decode (am_b mt_Cl_listen) 55 = .ok (.getfield 49, 3) := by decide +kernel
theorem d_Cl_listen_58 : decode (am_b mt_Cl_listen) 58 = .ok (.ifCond .ne 8, 3) := by decide +kernel
theorem d_Cl_listen_61 : decode (am_b mt_Cl_listen) 61 = .ok (.aload_n 0, 1) := by decide +kernel
theorem d_Cl_listen_62 : decode (am_b mt_Cl_listen) 62 = .ok (.aload_n 2, 1) := by decide +kernel
theorem d_Cl_listen_63 : decode (am_b mt_Cl_listen) 63 = .ok (.invokevirtual 75, 3) := by decide +kernel
theorem d_Cl_listen_66 : decode (am_b mt_Cl_listen) 66 = .ok (.return_, 1) := by decide +kernel
theorem d_Cl_keepNote_0 : decode (am_b mt_Cl_keepNote) 0 = .ok (.aload_n 1, 1) := by decide +kernel
theorem d_Cl_keepNote_1 : decode (am_b mt_Cl_keepNote) 1 = .ok (.invokevirtual 95, 3) := by decide +kernel
theorem d_Cl_keepNote_4 : decode (am_b mt_Cl_keepNote) 4 = .ok (.iconst 2, 1) := by decide +kernel
theorem d_Cl_keepNote_5 : decode (am_b mt_Cl_keepNote) 5 = .ok (.if_icmp .ge 4, 3) := by decide +kernel
theorem d_Cl_keepNote_8 : decode (am_b mt_Cl_keepNote) 8 = .ok (.return_, 1) := by decide +kernel
theorem d_Cl_keepNote_9 : decode (am_b mt_Cl_keepNote) 9 = .ok (.aload_n 0, 1) := by decide +kernel
theorem d_Cl_keepNote_10 : decode (am_b mt_Cl_keepNote) 10 = .ok (.getfield 12, 3) := by decide +kernel
theorem d_Cl_keepNote_13 : decode (am_b mt_Cl_keepNote) 13 = .ok (.aload_n 1, 1) := by decide +kernel
theorem d_Cl_keepNote_14 : decode (am_b mt_Cl_keepNote) 14 = .ok (.invokevirtual 99, 3) := by decide +kernel
theorem d_Cl_keepNote_17 : decode (am_b mt_Cl_keepNote) 17 = .ok (.aload_n 1, 1) := by decide +kernel
theorem d_Cl_keepNote_18 : decode (am_b mt_Cl_keepNote) 18 = .ok (.iconst 0, 1) := by decide +kernel
theorem d_Cl_keepNote_19 : decode (am_b mt_Cl_keepNote) 19 = .ok (.invokevirtual 79, 3) := by decide +kernel
theorem d_Cl_keepNote_22 : decode (am_b mt_Cl_keepNote) 22 = .ok (.bipush 29, 2) := by decide +kernel
theorem d_Cl_keepNote_24 : decode (am_b mt_Cl_keepNote) 24 = .ok (.if_icmp .ne 11, 3) := by decide +kernel
theorem d_Cl_keepNote_27 : decode (am_b mt_Cl_keepNote) 27 = .ok (.aload_n 2, 1) := by decide +kernel
theorem d_Cl_keepNote_28 : decode (am_b mt_Cl_keepNote) 28 = .ok (.aload_n 0, 1) := by decide +kernel
theorem d_Cl_keepNote_29 : decode (am_b mt_Cl_keepNote) 29 = .ok (.getfield 30, 3) := by decide +kernel
theorem d_Cl_keepNote_32 : decode (am_b mt_Cl_keepNote) 32 = .ok (.invokevirtual 102, 3) := by decide +kernel
theorem d_Cl_keepNote_35 : decode (am_b mt_Cl_keepNote) 35 = .ok (.return_, 1) := by decide +kernel
theorem d_No_keep_0 : decode (am_b mt_No_keep) 0 = .ok (.aload_n 0, 1) := by decide +kernel
theorem d_No_keep_1 : decode (am_b mt_No_keep) 1 = .ok (.aload_n 0, 1) := by decide +kernel
theorem d_No_keep_2 : decode (am_b mt_No_keep) 2 = .ok (.getfield 24, 3) := by decide +kernel
theorem d_No_keep_5 : decode (am_b mt_No_keep) 5 = .ok (.iconst 1, 1) := by decide +kernel
theorem d_No_keep_6 : decode (am_b mt_No_keep) 6 = .ok (.iadd, 1) := by decide +kernel
theorem d_No_keep_7 : decode (am_b mt_No_keep) 7 = .ok (.iconst 4, 1) := by decide +kernel
theorem d_No_keep_8 : decode (am_b mt_No_keep) 8 = .ok (.irem, 1) := by decide +kernel
theorem d_No_keep_9 : decode (am_b mt_No_keep) 9 = .ok (.putfield 24, 3) := by decide +kernel
theorem d_No_keep_12 : decode (am_b mt_No_keep) 12 = .ok (.aload_n 0, 1) := by decide +kernel
theorem d_No_keep_13 : decode (am_b mt_No_keep) 13 = .ok (.getfield 13, 3) := by decide +kernel
theorem d_No_keep_16 : decode (am_b mt_No_keep) 16 = .ok (.aload_n 0, 1) := by decide +kernel
theorem d_No_keep_17 : decode (am_b mt_No_keep) 17 = .ok (.getfield 24, 3) := by decide +kernel
theorem d_No_keep_20 : decode (am_b mt_No_keep) 20 = .ok (.aaload, 1) := by decide +kernel
theorem d_No_keep_21 : decode (am_b mt_No_keep) 21 = .ok (.invokevirtual 33, 3) := by decide +kernel
theorem d_No_keep_24 : decode (am_b mt_No_keep) 24 = .ok (.aload_n 0, 1) := by decide +kernel
theorem d_No_keep_25 : decode (am_b mt_No_keep) 25 = .ok (.getfield 13, 3) := by decide +kernel
theorem d_No_keep_28 : decode (am_b mt_No_keep) 28 = .ok (.aload_n 0, 1) := by decide +kernel
theorem d_No_keep_29 : decode (am_b mt_No_keep) 29 = .ok (.getfield 24, 3) := by decide +kernel
theorem d_No_keep_32 : decode (am_b mt_No_keep) 32 = .ok (.aaload, 1) := by decide +kernel
theorem d_No_keep_33 : decode (am_b mt_No_keep) 33 = .ok (.aload_n 1, 1) := by decide +kernel
theorem d_No_keep_34 : decode (am_b mt_No_keep) 34 = .ok (.iconst 1, 1) := by decide +kernel
theorem d_No_keep_35 : decode (am_b mt_No_keep) 35 = .ok (.bipush 20, 2) := by decide +kernel
theorem d_No_keep_37 : decode (am_b mt_No_keep) 37 = .ok (.invokevirtual 36, 3) := by decide +kernel
theorem d_No_keep_40 : decode (am_b mt_No_keep) 40 = .ok (.aload_n 0, 1) := by decide +kernel
theorem d_No_keep_41 : decode (am_b mt_No_keep) 41 = .ok (.iconst 4, 1) := by decide +kernel
theorem d_No_keep_42 : decode (am_b mt_No_keep) 42 = .ok (.aload_n 0, 1) := by decide +kernel
theorem d_No_keep_43 : decode (am_b mt_No_keep) 43 = .ok (.getfield 20, 3) := by decide +kernel
theorem d_No_keep_46 : decode (am_b mt_No_keep) 46 = .ok (.iconst 1, 1) := by decide +kernel
theorem d_No_keep_47 : decode (am_b mt_No_keep) 47 = .ok (.iadd, 1) := by decide +kernel
theorem d_No_keep_48 : decode (am_b mt_No_keep) 48 = .ok (.invokestatic 40, 3) := by decide +kernel
theorem d_No_keep_51 : decode (am_b mt_No_keep) 51 = .ok (.putfield 20, 3) := by decide +kernel
theorem d_No_keep_54 : decode (am_b mt_No_keep) 54 = .ok (.return_, 1) := by decide +kernel
theorem d_Cl_endsWith_0 : decode (am_b mt_Cl_endsWith) 0 = .ok (.aload_n 0, 1) := by decide +kernel
theorem d_Cl_endsWith_1 : decode (am_b mt_Cl_endsWith) 1 = .ok (.getfield 43, 3) := by decide +kernel
theorem d_Cl_endsWith_4 : decode (am_b mt_Cl_endsWith) 4 = .ok (.bipush 6, 2) := by decide +kernel
theorem d_Cl_endsWith_6 : decode (am_b mt_Cl_endsWith) 6 = .ok (.if_icmp .ne 21, 3) := by decide +kernel
theorem d_Cl_endsWith_9 : decode (am_b mt_Cl_endsWith) 9 = .ok (.aload_n 0, 1) := by decide +kernel
theorem d_Cl_endsWith_10 : decode (am_b mt_Cl_endsWith) 10 = .ok (.getfield 23, 3) := by decide +kernel
theorem d_Cl_endsWith_13 : decode (am_b mt_Cl_endsWith) 13 = .ok (.aload_n 1, 1) := by decide +kernel
theorem d_Cl_endsWith_14 : decode (am_b mt_Cl_endsWith) 14 = .ok (.iconst 0, 1) := by decide +kernel
theorem d_Cl_endsWith_15 : decode (am_b mt_Cl_endsWith) 15 = .ok (.bipush 20, 2) := by decide +kernel
theorem d_Cl_endsWith_17 : decode (am_b mt_Cl_endsWith) 17 = .ok (.invokevirtual 114, 3) := by decide +kernel
theorem d_Cl_endsWith_20 : decode (am_b mt_Cl_endsWith) 20 = .ok (.aload_n 0, 1) := by decide +kernel
theorem d_Cl_endsWith_21 : decode (am_b mt_Cl_endsWith) 21 = .ok (.invokevirtual 121, 3) := by decide +kernel
theorem d_Cl_endsWith_24 : decode (am_b mt_Cl_endsWith) 24 = .ok (.goto 83, 3) := by decide +kernel
theorem d_Cl_endsWith_27 : decode (am_b mt_Cl_endsWith) 27 = .ok (.aload_n 0, 1) := by decide +kernel
theorem d_Cl_endsWith_28 : decode (am_b mt_Cl_endsWith) 28 = .ok (.getfield 61, 3) := by decide +kernel
theorem d_Cl_endsWith_31 : decode (am_b mt_Cl_endsWith) 31 = .ok (.ifCond .eq 12, 3) := by decide +kernel
theorem d_Cl_endsWith_34 : decode (am_b mt_Cl_endsWith) 34 = .ok (.aload_n 0, 1) := by decide +kernel
theorem d_Cl_endsWith_35 : decode (am_b mt_Cl_endsWith) 35 = .ok (.bipush 14, 2) := by decide +kernel
theorem d_Cl_endsWith_37 : decode (am_b mt_Cl_endsWith) 37 = .ok (.invokevirtual 124, 3) := by decide +kernel
theorem d_Cl_endsWith_40 : decode (am_b mt_Cl_endsWith) 40 = .ok (.goto 67, 3) := by decide +kernel
theorem d_Cl_endsWith_43 : decode (am_b mt_Cl_endsWith) 43 = .ok (.aload_n 1, 1) := by decide +kernel
theorem d_Cl_endsWith_44 : decode (am_b mt_Cl_endsWith) 44 = .ok (.iconst 0, 1) := by decide +kernel
theorem d_Cl_endsWith_45 : decode (am_b mt_Cl_endsWith) 45 = .ok (.invokevirtual 79, 3) := by decide +kernel
theorem d_Cl_endsWith_48 : decode (am_b mt_Cl_endsWith) 48 = .ok (.iconst 1, 1) := by decide +kernel
theorem d_Cl_endsWith_49 : decode (am_b mt_Cl_endsWith) 49 = .ok (.if_icmp .ne 23, 3) := by decide +kernel
theorem d_Cl_endsWith_52 : decode (am_b mt_Cl_endsWith) 52 = .ok (.aload_n 1, 1) := by decide +kernel
theorem d_Cl_endsWith_53 : decode (am_b mt_Cl_endsWith) 53 = .ok (.invokevirtual 95, 3) := by decide +kernel
theorem d_Cl_endsWith_56 : decode (am_b mt_Cl_endsWith) 56 = .ok (.iconst 4, 1) := by decide +kernel
theorem d_Cl_endsWith_57 : decode (am_b mt_Cl_endsWith) 57 = .ok (.if_icmp .ne 15, 3) := by decide +kernel
theorem d_Cl_endsWith_60 : decode (am_b mt_Cl_endsWith) 60 = .ok (.aload_n 0, 1) := by decide +kernel
theorem d_Cl_endsWith_61 : decode (am_b mt_Cl_endsWith) 61 = .ok (.aload_n 1, 1) := by decide +kernel
theorem d_Cl_endsWith_62 : decode (am_b mt_Cl_endsWith) 62 = .ok (.iconst 3, 1) := by decide +kernel
theorem d_Cl_endsWith_63 : decode (am_b mt_Cl_endsWith) 63 = .ok (.invokevirtual 79, 3) := by decide +kernel
theorem d_Cl_endsWith_66 : decode (am_b mt_Cl_endsWith) 66 = .ok (.invokevirtual 127, 3) := by decide +kernel
theorem d_Cl_endsWith_69 : decode (am_b mt_Cl_endsWith) 69 = .ok (.goto 38, 3) := by decide +kernel
theorem d_Cl_endsWith_72 : decode (am_b mt_Cl_endsWith) 72 = .ok (.aload_n 1, 1) := by decide +kernel
theorem d_Cl_endsWith_73 : decode (am_b mt_Cl_endsWith) 73 = .ok (.iconst 0, 1) := by decide +kernel
theorem d_Cl_endsWith_74 : decode (am_b mt_Cl_endsWith) 74 = .ok (.invokevirtual 79, 3) := by decide +kernel
theorem d_Cl_endsWith_77 : decode (am_b mt_Cl_endsWith) 77 = .ok (.aload_n 0, 1) := by decide +kernel
theorem d_Cl_endsWith_78 : decode (am_b mt_Cl_endsWith) 78 = .ok (.getfield 27, 3) := by decide +kernel
theorem d_Cl_endsWith_81 : decode (am_b mt_Cl_endsWith) 81 = .ok (.iconst 0, 1) := by decide +kernel
theorem d_Cl_endsWith_82 : decode (am_b mt_Cl_endsWith) 82 = .ok (.invokevirtual 79, 3) := by decide +kernel
theorem d_Cl_endsWith_85 : decode (am_b mt_Cl_endsWith) 85 = .ok (.iconst 1, 1) := by decide +kernel
theorem d_Cl_endsWith_86 : decode (am_b mt_Cl_endsWith) 86 = .ok (.iadd, 1) := by decide +kernel
theorem d_Cl_endsWith_87 : decode (am_b mt_Cl_endsWith) 87 = .ok (.if_icmp .ne 14, 3) := by decide +kernel
theorem d_Cl_endsWith_90 : decode (am_b mt_Cl_endsWith) 90 = .ok (.aload_n 1, 1) := by decide +kernel
theorem d_Cl_endsWith_91 : decode (am_b mt_Cl_endsWith) 91 = .ok (.invokevirtual 95, 3) := by decide +kernel
theorem d_Cl_endsWith_94 : decode (am_b mt_Cl_endsWith) 94 = .ok (.aload_n 0, 1) := by decide +kernel
theorem d_Cl_endsWith_95 : decode (am_b mt_Cl_endsWith) 95 = .ok (.invokevirtual 130, 3) := by decide +kernel
theorem d_Cl_endsWith_98 : decode (am_b mt_Cl_endsWith) 98 = .ok (.if_icmp .ge 9, 3) := by decide +kernel
theorem d_Cl_endsWith_101 : decode (am_b mt_Cl_endsWith) 101 = .ok (.aload_n 0, 1) := by decide +kernel
theorem d_Cl_endsWith_102 : decode (am_b mt_Cl_endsWith) 102 = .ok (.bipush 14, 2) := by decide +kernel
theorem d_Cl_endsWith_104 : decode (am_b mt_Cl_endsWith) 104 = .ok (.invokevirtual 124, 3) := by decide +kernel
theorem d_Cl_endsWith_107 : decode (am_b mt_Cl_endsWith) 107 = .ok (.aload_n 0, 1) := by decide +kernel
theorem d_Cl_endsWith_108 : decode (am_b mt_Cl_endsWith) 108 = .ok (.getfield 49, 3) := by decide +kernel
theorem d_Cl_endsWith_111 : decode (am_b mt_Cl_endsWith) 111 = .ok (.ifCond .eq 7, 3) := by decide +kernel
theorem d_Cl_endsWith_114 : decode (am_b mt_Cl_endsWith) 114 = .ok (.iconst 1, 1) := by decide +kernel
theorem d_Cl_endsWith_115 : decode (am_b mt_Cl_endsWith) 115 = .ok (.goto 4, 3) := by decide +kernel
theorem d_Cl_endsWith_118 : decode (am_b mt_Cl_endsWith) 118 = .ok (.iconst 0, 1) := by decide +kernel
theorem d_Cl_endsWith_119 : decode (am_b mt_Cl_endsWith) 119 = .ok (.ireturn, 1) := by decide +kernel
theorem d_Cl_succeed_0 : decode (am_b mt_Cl_succeed) 0 = .ok (.aload_n 0, 1) := by decide +kernel
theorem d_Cl_succeed_1 : decode (am_b mt_Cl_succeed) 1 = .ok (.iconst 1, 1) := by decide +kernel
theorem d_Cl_succeed_2 : decode (am_b mt_Cl_succeed) 2 = .ok (.putfield 49, 3) := by decide +kernel
theorem d_Cl_succeed_5 : decode (am_b mt_Cl_succeed) 5 = .ok (.return_, 1) := by decide +kernel
theorem d_Cl_fail_0 : decode (am_b mt_Cl_fail) 0 = .ok (.aload_n 0, 1) := by decide +kernel
theorem d_Cl_fail_1 : decode (am_b mt_Cl_fail) 1 = .ok (.iconst 2, 1) := by decide +kernel
theorem d_Cl_fail_2 : decode (am_b mt_Cl_fail) 2 = .ok (.putfield 49, 3) := by decide +kernel
theorem d_Cl_fail_5 : decode (am_b mt_Cl_fail) 5 = .ok (.aload_n 0, 1) := by decide +kernel
theorem d_Cl_fail_6 : decode (am_b mt_Cl_fail) 6 = .ok (.iload_n 1, 1) := by decide +kernel
theorem d_Cl_fail_7 : decode (am_b mt_Cl_fail) 7 = .ok (.putfield 52, 3) := by decide +kernel
theorem d_Cl_fail_10 : decode (am_b mt_Cl_fail) 10 = .ok (.return_, 1) := by decide +kernel
theorem d_Cl_takeError_0 : decode (am_b mt_Cl_takeError) 0 = .ok (.aload_n 0, 1) := by decide +kernel
theorem d_Cl_takeError_1 : decode (am_b mt_Cl_takeError) 1 = .ok (.getfield 43, 3) := by decide +kernel
theorem d_Cl_takeError_4 : decode (am_b mt_Cl_takeError) 4 = .ok (.iconst 3, 1) := by decide +kernel
theorem d_Cl_takeError_5 : decode (am_b mt_Cl_takeError) 5 = .ok (.if_icmp .ne 16, 3) := by decide +kernel
theorem d_Cl_takeError_8 : decode (am_b mt_Cl_takeError) 8 = .ok (.iload_n 1, 1) := by decide +kernel
theorem d_Cl_takeError_9 : decode (am_b mt_Cl_takeError) 9 = .ok (.bipush 10, 2) := by decide +kernel
theorem d_Cl_takeError_11 : decode (am_b mt_Cl_takeError) 11 = .ok (.if_icmp .ne 10, 3) := by decide +kernel
theorem d_Cl_takeError_14 : decode (am_b mt_Cl_takeError) 14 = .ok (.aload_n 0, 1) := by decide +kernel
theorem d_Cl_takeError_15 : decode (am_b mt_Cl_takeError) 15 = .ok (.invokevirtual 121, 3) := by decide +kernel
theorem d_Cl_takeError_18 : decode (am_b mt_Cl_takeError) 18 = .ok (.goto 8, 3) := by decide +kernel
theorem d_Cl_takeError_21 : decode (am_b mt_Cl_takeError) 21 = .ok (.aload_n 0, 1) := by decide +kernel
theorem d_Cl_takeError_22 : decode (am_b mt_Cl_takeError) 22 = .ok (.iload_n 1, 1) := by decide +kernel
theorem d_Cl_takeError_23 : decode (am_b mt_Cl_takeError) 23 = .ok (.invokevirtual 124, 3) := by decide +kernel
theorem d_Cl_takeError_26 : decode (am_b mt_Cl_takeError) 26 = .ok (.return_, 1) := by decide +kernel
theorem d_Cl_neededBytes_0 : decode (am_b mt_Cl_neededBytes) 0 = .ok (.aload_n 0, 1) := by decide +kernel
theorem d_Cl_neededBytes_1 : decode (am_b mt_Cl_neededBytes) 1 = .ok (.getfield 43, 3) := by decide +kernel
theorem d_Cl_neededBytes_4 : decode (am_b mt_Cl_neededBytes) 4 = .ok (.ifCond .eq 11, 3) := by decide +kernel
theorem d_Cl_neededBytes_7 : decode (am_b mt_Cl_neededBytes) 7 = .ok (.aload_n 0, 1) := by decide +kernel
theorem d_Cl_neededBytes_8 : decode (am_b mt_Cl_neededBytes) 8 = .ok (.getfield 43, 3) := by decide +kernel
theorem d_Cl_neededBytes_11 : decode (am_b mt_Cl_neededBytes) 11 = .ok (.iconst 3, 1) := by decide +kernel
theorem d_Cl_neededBytes_12 : decode (am_b mt_Cl_neededBytes) 12 = .ok (.if_icmp .ne 7, 3) := by decide +kernel
theorem d_Cl_neededBytes_15 : decode (am_b mt_Cl_neededBytes) 15 = .ok (.iconst 2, 1) := by decide +kernel
theorem d_Cl_neededBytes_16 : decode (am_b mt_Cl_neededBytes) 16 = .ok (.goto 4, 3) := by decide +kernel
theorem d_Cl_neededBytes_19 : decode (am_b mt_Cl_neededBytes) 19 = .ok (.iconst 1, 1) := by decide +kernel
theorem d_Cl_neededBytes_20 : decode (am_b mt_Cl_neededBytes) 20 = .ok (.ireturn, 1) := by decide +kernel
theorem d_Cl_goOn_0 : decode (am_b mt_Cl_goOn) 0 = .ok (.aload_n 0, 1) := by decide +kernel
theorem d_Cl_goOn_1 : decode (am_b mt_Cl_goOn) 1 = .ok (.getfield 43, 3) := by decide +kernel
theorem d_Cl_goOn_4 : decode (am_b mt_Cl_goOn) 4 = .ok (.tableswitch 112 0 5 #[40, 66, 84, 92, 112, 104], 40) := by decide +kernel
theorem d_Cl_goOn_44 : decode (am_b mt_Cl_goOn) 44 = .ok (.aload_n 0, 1) := by decide +kernel
theorem d_Cl_goOn_45 : decode (am_b mt_Cl_goOn) 45 = .ok (.aload_n 0, 1) := by decide +kernel
theorem d_Cl_goOn_46 : decode (am_b mt_Cl_goOn) 46 = .ok (.getfield 46, 3) := by decide +kernel
theorem d_Cl_goOn_49 : decode (am_b mt_Cl_goOn) 49 = .ok (.aload_n 1, 1) := by decide +kernel
theorem d_Cl_goOn_50 : decode (am_b mt_Cl_goOn) 50 = .ok (.iconst 1, 1) := by decide +kernel
theorem d_Cl_goOn_51 : decode (am_b mt_Cl_goOn) 51 = .ok (.invokevirtual 79, 3) := by decide +kernel
theorem d_Cl_goOn_54 : decode (am_b mt_Cl_goOn) 54 = .ok (.invokestatic 133, 3) := by decide +kernel
theorem d_Cl_goOn_57 : decode (am_b mt_Cl_goOn) 57 = .ok (.invokestatic 139, 3) := by decide +kernel
theorem d_Cl_goOn_60 : decode (am_b mt_Cl_goOn) 60 = .ok (.putfield 39, 3) := by decide +kernel
theorem d_Cl_goOn_63 : decode (am_b mt_Cl_goOn) 63 = .ok (.aload_n 0, 1) := by decide +kernel
theorem d_Cl_goOn_64 : decode (am_b mt_Cl_goOn) 64 = .ok (.invokevirtual 121, 3) := by decide +kernel
theorem d_Cl_goOn_67 : decode (am_b mt_Cl_goOn) 67 = .ok (.goto 53, 3) := by decide +kernel
theorem d_Cl_goOn_70 : decode (am_b mt_Cl_goOn) 70 = .ok (.aload_n 0, 1) := by decide +kernel
theorem d_Cl_goOn_71 : decode (am_b mt_Cl_goOn) 71 = .ok (.getfield 23, 3) := by decide +kernel
theorem d_Cl_goOn_74 : decode (am_b mt_Cl_goOn) 74 = .ok (.aload_n 1, 1) := by decide +kernel
theorem d_Cl_goOn_75 : decode (am_b mt_Cl_goOn) 75 = .ok (.iconst 1, 1) := by decide +kernel
theorem d_Cl_goOn_76 : decode (am_b mt_Cl_goOn) 76 = .ok (.bipush 20, 2) := by decide +kernel
theorem d_Cl_goOn_78 : decode (am_b mt_Cl_goOn) 78 = .ok (.invokevirtual 114, 3) := by decide +kernel
theorem d_Cl_goOn_81 : decode (am_b mt_Cl_goOn) 81 = .ok (.aload_n 0, 1) := by decide +kernel
theorem d_Cl_goOn_82 : decode (am_b mt_Cl_goOn) 82 = .ok (.invokevirtual 121, 3) := by decide +kernel
theorem d_Cl_goOn_85 : decode (am_b mt_Cl_goOn) 85 = .ok (.goto 35, 3) := by decide +kernel
theorem d_Cl_goOn_88 : decode (am_b mt_Cl_goOn) 88 = .ok (.aload_n 0, 1) := by decide +kernel
theorem d_Cl_goOn_89 : decode (am_b mt_Cl_goOn) 89 = .ok (.aload_n 1, 1) := by decide +kernel
theorem d_Cl_goOn_90 : decode (am_b mt_Cl_goOn) 90 = .ok (.invokevirtual 142, 3) := by decide +kernel
theorem d_Cl_goOn_93 : decode (am_b mt_Cl_goOn) 93 = .ok (.goto 27, 3) := by decide +kernel
theorem d_Cl_goOn_96 : decode (am_b mt_Cl_goOn) 96 = .ok (.aload_n 0, 1) := by decide +kernel
theorem d_Cl_goOn_97 : decode (am_b mt_Cl_goOn) 97 = .ok (.aload_n 1, 1) := by decide +kernel
theorem d_Cl_goOn_98 : decode (am_b mt_Cl_goOn) 98 = .ok (.iconst 1, 1) := by decide +kernel
theorem d_Cl_goOn_99 : decode (am_b mt_Cl_goOn) 99 = .ok (.invokevirtual 79, 3) := by decide +kernel
theorem d_Cl_goOn_102 : decode (am_b mt_Cl_goOn) 102 = .ok (.invokevirtual 145, 3) := by decide +kernel
theorem d_Cl_goOn_105 : decode (am_b mt_Cl_goOn) 105 = .ok (.goto 15, 3) := by decide +kernel
theorem d_Cl_goOn_108 : decode (am_b mt_Cl_goOn) 108 = .ok (.aload_n 0, 1) := by decide +kernel
theorem d_Cl_goOn_109 : decode (am_b mt_Cl_goOn) 109 = .ok (.aload_n 1, 1) := by decide +kernel
theorem d_Cl_goOn_110 : decode (am_b mt_Cl_goOn) 110 = .ok (.invokevirtual 148, 3) := by decide +kernel
theorem d_Cl_goOn_113 : decode (am_b mt_Cl_goOn) 113 = .ok (.goto 7, 3) := by decide +kernel
theorem d_Cl_goOn_116 : decode (am_b mt_Cl_goOn) 116 = .ok (.aload_n 0, 1) := by decide +kernel
theorem d_Cl_goOn_117 : decode (am_b mt_Cl_goOn) 117 = .ok (.invokevirtual 121, 3) := by decide +kernel
theorem d_Cl_goOn_120 : decode (am_b mt_Cl_goOn) 120 = .ok (.return_, 1) := by decide +kernel
theorem d_Cl_goOnReading_0 : decode (am_b mt_Cl_goOnReading) 0 = .ok (.aload_n 0, 1) := by decide +kernel
theorem d_Cl_goOnReading_1 : decode (am_b mt_Cl_goOnReading) 1 = .ok (.getfield 23, 3) := by decide +kernel
theorem d_Cl_goOnReading_4 : decode (am_b mt_Cl_goOnReading) 4 = .ok (.aload_n 1, 1) := by decide +kernel
theorem d_Cl_goOnReading_5 : decode (am_b mt_Cl_goOnReading) 5 = .ok (.iconst 1, 1) := by decide +kernel
theorem d_Cl_goOnReading_6 : decode (am_b mt_Cl_goOnReading) 6 = .ok (.bipush 20, 2) := by decide +kernel
theorem d_Cl_goOnReading_8 : decode (am_b mt_Cl_goOnReading) 8 = .ok (.invokevirtual 114, 3) := by decide +kernel
theorem d_Cl_goOnReading_11 : decode (am_b mt_Cl_goOnReading) 11 = .ok (.aload_n 0, 1) := by decide +kernel
theorem d_Cl_goOnReading_12 : decode (am_b mt_Cl_goOnReading) 12 = .ok (.getfield 23, 3) := by decide +kernel
theorem d_Cl_goOnReading_15 : decode (am_b mt_Cl_goOnReading) 15 = .ok (.bipush 16, 2) := by decide +kernel
theorem d_Cl_goOnReading_17 : decode (am_b mt_Cl_goOnReading) 17 = .ok (.invokevirtual 151, 3) := by decide +kernel
theorem d_Cl_goOnReading_20 : decode (am_b mt_Cl_goOnReading) 20 = .ok (.aload_n 1, 1) := by decide +kernel
theorem d_Cl_goOnReading_21 : decode (am_b mt_Cl_goOnReading) 21 = .ok (.invokevirtual 95, 3) := by decide +kernel
theorem d_Cl_goOnReading_24 : decode (am_b mt_Cl_goOnReading) 24 = .ok (.aload_n 0, 1) := by decide +kernel
theorem d_Cl_goOnReading_25 : decode (am_b mt_Cl_goOnReading) 25 = .ok (.getfield 39, 3) := by decide +kernel
theorem d_Cl_goOnReading_28 : decode (am_b mt_Cl_goOnReading) 28 = .ok (.if_icmp .ne 42, 3) := by decide +kernel
theorem d_Cl_goOnReading_31 : decode (am_b mt_Cl_goOnReading) 31 = .ok (.aload_n 0, 1) := by decide +kernel
theorem d_Cl_goOnReading_32 : decode (am_b mt_Cl_goOnReading) 32 = .ok (.getfield 23, 3) := by decide +kernel
theorem d_Cl_goOnReading_35 : decode (am_b mt_Cl_goOnReading) 35 = .ok (.invokevirtual 95, 3) := by decide +kernel
theorem d_Cl_goOnReading_38 : decode (am_b mt_Cl_goOnReading) 38 = .ok (.bipush 16, 2) := by decide +kernel
theorem d_Cl_goOnReading_40 : decode (am_b mt_Cl_goOnReading) 40 = .ok (.if_icmp .ge 30, 3) := by decide +kernel
theorem d_Cl_goOnReading_43 : decode (am_b mt_Cl_goOnReading) 43 = .ok (.aload_n 0, 1) := by decide +kernel
theorem d_Cl_goOnReading_44 : decode (am_b mt_Cl_goOnReading) 44 = .ok (.bipush 12, 2) := by decide +kernel
theorem d_Cl_goOnReading_46 : decode (am_b mt_Cl_goOnReading) 46 = .ok (.aload_n 0, 1) := by decide +kernel
theorem d_Cl_goOnReading_47 : decode (am_b mt_Cl_goOnReading) 47 = .ok (.getfield 46, 3) := by decide +kernel
theorem d_Cl_goOnReading_50 : decode (am_b mt_Cl_goOnReading) 50 = .ok (.invokevirtual 107, 3) := by decide +kernel
theorem d_Cl_goOnReading_53 : decode (am_b mt_Cl_goOnReading) 53 = .ok (.aload_n 0, 1) := by decide +kernel
theorem d_Cl_goOnReading_54 : decode (am_b mt_Cl_goOnReading) 54 = .ok (.getfield 27, 3) := by decide +kernel
theorem d_Cl_goOnReading_57 : decode (am_b mt_Cl_goOnReading) 57 = .ok (.aload_n 0, 1) := by decide +kernel
theorem d_Cl_goOnReading_58 : decode (am_b mt_Cl_goOnReading) 58 = .ok (.getfield 23, 3) := by decide +kernel
theorem d_Cl_goOnReading_61 : decode (am_b mt_Cl_goOnReading) 61 = .ok (.invokevirtual 95, 3) := by decide +kernel
theorem d_Cl_goOnReading_64 : decode (am_b mt_Cl_goOnReading) 64 = .ok (.invokevirtual 33, 3) := by decide +kernel
theorem d_Cl_goOnReading_67 : decode (am_b mt_Cl_goOnReading) 67 = .ok (.goto 7, 3) := by decide +kernel
theorem d_Cl_goOnReading_70 : decode (am_b mt_Cl_goOnReading) 70 = .ok (.aload_n 0, 1) := by decide +kernel
theorem d_Cl_goOnReading_71 : decode (am_b mt_Cl_goOnReading) 71 = .ok (.invokevirtual 121, 3) := by decide +kernel
theorem d_Cl_goOnReading_74 : decode (am_b mt_Cl_goOnReading) 74 = .ok (.return_, 1) := by decide +kernel
theorem d_Ro_cut_0 : decode (am_b mt_Ro_cut) 0 = .ok (.iload_n 1, 1) := by decide +kernel
theorem d_Ro_cut_1 : decode (am_b mt_Ro_cut) 1 = .ok (.ifCond .lt 16, 3) := by decide +kernel
theorem d_Ro_cut_4 : decode (am_b mt_Ro_cut) 4 = .ok (.aload_n 0, 1) := by decide +kernel
theorem d_Ro_cut_5 : decode (am_b mt_Ro_cut) 5 = .ok (.getfield 13, 3) := by decide +kernel
theorem d_Ro_cut_8 : decode (am_b mt_Ro_cut) 8 = .ok (.iload_n 1, 1) := by decide +kernel
theorem d_Ro_cut_9 : decode (am_b mt_Ro_cut) 9 = .ok (.if_icmp .le 8, 3) := by decide +kernel
theorem d_Ro_cut_12 : decode (am_b mt_Ro_cut) 12 = .ok (.aload_n 0, 1) := by decide +kernel
theorem d_Ro_cut_13 : decode (am_b mt_Ro_cut) 13 = .ok (.iload_n 1, 1) := by decide +kernel
theorem d_Ro_cut_14 : decode (am_b mt_Ro_cut) 14 = .ok (.putfield 13, 3) := by decide +kernel
theorem d_Ro_cut_17 : decode (am_b mt_Ro_cut) 17 = .ok (.return_, 1) := by decide +kernel
theorem d_Cl_goOnFinding_0 : decode (am_b mt_Cl_goOnFinding) 0 = .ok (.aload_n 0, 1) := by decide +kernel
theorem d_Cl_goOnFinding_1 : decode (am_b mt_Cl_goOnFinding) 1 = .ok (.getfield 23, 3) := by decide +kernel
theorem d_Cl_goOnFinding_4 : decode (am_b mt_Cl_goOnFinding) 4 = .ok (.iload_n 1, 1) := by decide +kernel
theorem d_Cl_goOnFinding_5 : decode (am_b mt_Cl_goOnFinding) 5 = .ok (.invokevirtual 33, 3) := by decide +kernel
theorem d_Cl_goOnFinding_8 : decode (am_b mt_Cl_goOnFinding) 8 = .ok (.aload_n 0, 1) := by decide +kernel
theorem d_Cl_goOnFinding_9 : decode (am_b mt_Cl_goOnFinding) 9 = .ok (.getfield 23, 3) := by decide +kernel
theorem d_Cl_goOnFinding_12 : decode (am_b mt_Cl_goOnFinding) 12 = .ok (.invokevirtual 95, 3) := by decide +kernel
theorem d_Cl_goOnFinding_15 : decode (am_b mt_Cl_goOnFinding) 15 = .ok (.bipush 10, 2) := by decide +kernel
theorem d_Cl_goOnFinding_17 : decode (am_b mt_Cl_goOnFinding) 17 = .ok (.if_icmp .ge 17, 3) := by decide +kernel
theorem d_Cl_goOnFinding_20 : decode (am_b mt_Cl_goOnFinding) 20 = .ok (.aload_n 0, 1) := by decide +kernel
theorem d_Cl_goOnFinding_21 : decode (am_b mt_Cl_goOnFinding) 21 = .ok (.iload_n 1, 1) := by decide +kernel
theorem d_Cl_goOnFinding_22 : decode (am_b mt_Cl_goOnFinding) 22 = .ok (.iconst 1, 1) := by decide +kernel
theorem d_Cl_goOnFinding_23 : decode (am_b mt_Cl_goOnFinding) 23 = .ok (.iadd, 1) := by decide +kernel
theorem d_Cl_goOnFinding_24 : decode (am_b mt_Cl_goOnFinding) 24 = .ok (.sipush 255, 3) := by decide +kernel
theorem d_Cl_goOnFinding_27 : decode (am_b mt_Cl_goOnFinding) 27 = .ok (.iand, 1) := by decide +kernel
theorem d_Cl_goOnFinding_28 : decode (am_b mt_Cl_goOnFinding) 28 = .ok (.invokevirtual 111, 3) := by decide +kernel
theorem d_Cl_goOnFinding_31 : decode (am_b mt_Cl_goOnFinding) 31 = .ok (.goto 7, 3) := by decide +kernel
theorem d_Cl_goOnFinding_34 : decode (am_b mt_Cl_goOnFinding) 34 = .ok (.aload_n 0, 1) := by decide +kernel
theorem d_Cl_goOnFinding_35 : decode (am_b mt_Cl_goOnFinding) 35 = .ok (.invokevirtual 121, 3) := by decide +kernel
theorem d_Cl_goOnFinding_38 : decode (am_b mt_Cl_goOnFinding) 38 = .ok (.return_, 1) := by decide +kernel
theorem d_Cl_goOnWriting_0 : decode (am_b mt_Cl_goOnWriting) 0 = .ok (.aload_n 0, 1) := by decide +kernel
theorem d_Cl_goOnWriting_1 : decode (am_b mt_Cl_goOnWriting) 1 = .ok (.getfield 27, 3) := by decide +kernel
theorem d_Cl_goOnWriting_4 : decode (am_b mt_Cl_goOnWriting) 4 = .ok (.iconst 0, 1) := by decide +kernel
theorem d_Cl_goOnWriting_5 : decode (am_b mt_Cl_goOnWriting) 5 = .ok (.invokevirtual 79, 3) := by decide +kernel
theorem d_Cl_goOnWriting_8 : decode (am_b mt_Cl_goOnWriting) 8 = .ok (.bipush 24, 2) := by decide +kernel
theorem d_Cl_goOnWriting_10 : decode (am_b mt_Cl_goOnWriting) 10 = .ok (.if_icmp .ne 8, 3) := by decide +kernel
theorem d_Cl_goOnWriting_13 : decode (am_b mt_Cl_goOnWriting) 13 = .ok (.aload_n 0, 1) := by decide +kernel
theorem d_Cl_goOnWriting_14 : decode (am_b mt_Cl_goOnWriting) 14 = .ok (.invokevirtual 121, 3) := by decide +kernel
theorem d_Cl_goOnWriting_17 : decode (am_b mt_Cl_goOnWriting) 17 = .ok (.return_, 1) := by decide +kernel
theorem d_Cl_goOnWriting_18 : decode (am_b mt_Cl_goOnWriting) 18 = .ok (.aload_n 0, 1) := by decide +kernel
theorem d_Cl_goOnWriting_19 : decode (am_b mt_Cl_goOnWriting) 19 = .ok (.aload_n 1, 1) := by decide +kernel
theorem d_Cl_goOnWriting_20 : decode (am_b mt_Cl_goOnWriting) 20 = .ok (.iconst 1, 1) := by decide +kernel
theorem d_Cl_goOnWriting_21 : decode (am_b mt_Cl_goOnWriting) 21 = .ok (.aload_n 0, 1) := by decide +kernel
theorem d_Cl_goOnWriting_22 : decode (am_b mt_Cl_goOnWriting) 22 = .ok (.getfield 27, 3) := by decide +kernel
theorem d_Cl_goOnWriting_25 : decode (am_b mt_Cl_goOnWriting) 25 = .ok (.invokevirtual 154, 3) := by decide +kernel
theorem d_Cl_goOnWriting_28 : decode (am_b mt_Cl_goOnWriting) 28 = .ok (.ifCond .ne 7, 3) := by decide +kernel
theorem d_Cl_goOnWriting_31 : decode (am_b mt_Cl_goOnWriting) 31 = .ok (.iconst 1, 1) := by decide +kernel
theorem d_Cl_goOnWriting_32 : decode (am_b mt_Cl_goOnWriting) 32 = .ok (.goto 4, 3) := by decide +kernel
theorem d_Cl_goOnWriting_35 : decode (am_b mt_Cl_goOnWriting) 35 = .ok (.iconst 0, 1) := by decide +kernel
theorem d_Cl_goOnWriting_36 : decode (am_b mt_Cl_goOnWriting) 36 = .ok (.putfield 61, 3) := by decide +kernel
theorem d_Cl_goOnWriting_39 : decode (am_b mt_Cl_goOnWriting) 39 = .ok (.aload_n 0, 1) := by decide +kernel
theorem d_Cl_goOnWriting_40 : decode (am_b mt_Cl_goOnWriting) 40 = .ok (.dup, 1) := by decide +kernel
theorem d_Cl_goOnWriting_41 : decode (am_b mt_Cl_goOnWriting) 41 = .ok (.getfield 58, 3) := by decide +kernel
theorem d_Cl_goOnWriting_44 : decode (am_b mt_Cl_goOnWriting) 44 = .ok (.aload_n 0, 1) := by decide +kernel
theorem d_Cl_goOnWriting_45 : decode (am_b mt_Cl_goOnWriting) 45 = .ok (.getfield 39, 3) := by decide +kernel
theorem d_Cl_goOnWriting_48 : decode (am_b mt_Cl_goOnWriting) 48 = .ok (.iconst 3, 1) := by decide +kernel
theorem d_Cl_goOnWriting_49 : decode (am_b mt_Cl_goOnWriting) 49 = .ok (.isub, 1) := by decide +kernel
theorem d_Cl_goOnWriting_50 : decode (am_b mt_Cl_goOnWriting) 50 = .ok (.iadd, 1) := by decide +kernel
theorem d_Cl_goOnWriting_51 : decode (am_b mt_Cl_goOnWriting) 51 = .ok (.putfield 58, 3) := by decide +kernel
theorem d_Cl_goOnWriting_54 : decode (am_b mt_Cl_goOnWriting) 54 = .ok (.aload_n 0, 1) := by decide +kernel
theorem d_Cl_goOnWriting_55 : decode (am_b mt_Cl_goOnWriting) 55 = .ok (.getfield 61, 3) := by decide +kernel
theorem d_Cl_goOnWriting_58 : decode (am_b mt_Cl_goOnWriting) 58 = .ok (.ifCond .eq 13, 3) := by decide +kernel
theorem d_Cl_goOnWriting_61 : decode (am_b mt_Cl_goOnWriting) 61 = .ok (.aload_n 0, 1) := by decide +kernel
theorem d_Cl_goOnWriting_62 : decode (am_b mt_Cl_goOnWriting) 62 = .ok (.bipush 24, 2) := by decide +kernel
theorem d_Cl_goOnWriting_64 : decode (am_b mt_Cl_goOnWriting) 64 = .ok (.iconst 0, 1) := by decide +kernel
theorem d_Cl_goOnWriting_65 : decode (am_b mt_Cl_goOnWriting) 65 = .ok (.invokevirtual 107, 3) := by decide +kernel
theorem d_Cl_goOnWriting_68 : decode (am_b mt_Cl_goOnWriting) 68 = .ok (.goto 31, 3) := by decide +kernel
theorem d_Cl_goOnWriting_71 : decode (am_b mt_Cl_goOnWriting) 71 = .ok (.aload_n 0, 1) := by decide +kernel
theorem d_Cl_goOnWriting_72 : decode (am_b mt_Cl_goOnWriting) 72 = .ok (.getfield 58, 3) := by decide +kernel
theorem d_Cl_goOnWriting_75 : decode (am_b mt_Cl_goOnWriting) 75 = .ok (.aload_n 0, 1) := by decide +kernel
theorem d_Cl_goOnWriting_76 : decode (am_b mt_Cl_goOnWriting) 76 = .ok (.getfield 36, 3) := by decide +kernel
theorem d_Cl_goOnWriting_79 : decode (am_b mt_Cl_goOnWriting) 79 = .ok (.invokevirtual 95, 3) := by decide +kernel
theorem d_Cl_goOnWriting_82 : decode (am_b mt_Cl_goOnWriting) 82 = .ok (.if_icmp .ge 10, 3) := by decide +kernel
theorem d_Cl_goOnWriting_85 : decode (am_b mt_Cl_goOnWriting) 85 = .ok (.aload_n 0, 1) := by decide +kernel
theorem d_Cl_goOnWriting_86 : decode (am_b mt_Cl_goOnWriting) 86 = .ok (.invokevirtual 118, 3) := by decide +kernel
theorem d_Cl_goOnWriting_89 : decode (am_b mt_Cl_goOnWriting) 89 = .ok (.goto 10, 3) := by decide +kernel
theorem d_Cl_goOnWriting_92 : decode (am_b mt_Cl_goOnWriting) 92 = .ok (.aload_n 0, 1) := by decide +kernel
theorem d_Cl_goOnWriting_93 : decode (am_b mt_Cl_goOnWriting) 93 = .ok (.bipush 24, 2) := by decide +kernel
theorem d_Cl_goOnWriting_95 : decode (am_b mt_Cl_goOnWriting) 95 = .ok (.iconst 1, 1) := by decide +kernel
theorem d_Cl_goOnWriting_96 : decode (am_b mt_Cl_goOnWriting) 96 = .ok (.invokevirtual 107, 3) := by decide +kernel
theorem d_Cl_goOnWriting_99 : decode (am_b mt_Cl_goOnWriting) 99 = .ok (.return_, 1) := by decide +kernel
theorem d_Ro_isSameFrom_0 : decode (am_b mt_Ro_isSameFrom) 0 = .ok (.aload_n 0, 1) := by decide +kernel
theorem d_Ro_isSameFrom_1 : decode (am_b mt_Ro_isSameFrom) 1 = .ok (.getfield 13, 3) := by decide +kernel
theorem d_Ro_isSameFrom_4 : decode (am_b mt_Ro_isSameFrom) 4 = .ok (.aload_n 2, 1) := by decide +kernel
theorem d_Ro_isSameFrom_5 : decode (am_b mt_Ro_isSameFrom) 5 = .ok (.getfield 13, 3) := by decide +kernel
theorem d_Ro_isSameFrom_8 : decode (am_b mt_Ro_isSameFrom) 8 = .ok (.if_icmp .eq 5, 3) := by decide +kernel
theorem d_Ro_isSameFrom_11 : decode (am_b mt_Ro_isSameFrom) 11 = .ok (.iconst 0, 1) := by decide +kernel
theorem d_Ro_isSameFrom_12 : decode (am_b mt_Ro_isSameFrom) 12 = .ok (.ireturn, 1) := by decide +kernel
theorem d_Ro_isSameFrom_13 : decode (am_b mt_Ro_isSameFrom) 13 = .ok (.iload_n 1, 1) := by decide +kernel
theorem d_Ro_isSameFrom_14 : decode (am_b mt_Ro_isSameFrom) 14 = .ok (.istore_n 3, 1) := by decide +kernel
theorem d_Ro_isSameFrom_15 : decode (am_b mt_Ro_isSameFrom) 15 = .ok (.iload_n 3, 1) := by decide +kernel
theorem d_Ro_isSameFrom_16 : decode (am_b mt_Ro_isSameFrom) 16 = .ok (.aload_n 0, 1) := by decide +kernel
theorem d_Ro_isSameFrom_17 : decode (am_b mt_Ro_isSameFrom) 17 = .ok (.getfield 13, 3) := by decide +kernel
theorem d_Ro_isSameFrom_20 : decode (am_b mt_Ro_isSameFrom) 20 = .ok (.if_icmp .ge 24, 3) := by decide +kernel
theorem d_Ro_isSameFrom_23 : decode (am_b mt_Ro_isSameFrom) 23 = .ok (.aload_n 0, 1) := by decide +kernel
theorem d_Ro_isSameFrom_24 : decode (am_b mt_Ro_isSameFrom) 24 = .ok (.iload_n 3, 1) := by decide +kernel
theorem d_Ro_isSameFrom_25 : decode (am_b mt_Ro_isSameFrom) 25 = .ok (.invokevirtual 36, 3) := by decide +kernel
theorem d_Ro_isSameFrom_28 : decode (am_b mt_Ro_isSameFrom) 28 = .ok (.aload_n 2, 1) := by decide +kernel
theorem d_Ro_isSameFrom_29 : decode (am_b mt_Ro_isSameFrom) 29 = .ok (.iload_n 3, 1) := by decide +kernel
theorem d_Ro_isSameFrom_30 : decode (am_b mt_Ro_isSameFrom) 30 = .ok (.invokevirtual 36, 3) := by decide +kernel
theorem d_Ro_isSameFrom_33 : decode (am_b mt_Ro_isSameFrom) 33 = .ok (.if_icmp .eq 5, 3) := by decide +kernel
theorem d_Ro_isSameFrom_36 : decode (am_b mt_Ro_isSameFrom) 36 = .ok (.iconst 0, 1) := by decide +kernel
theorem d_Ro_isSameFrom_37 : decode (am_b mt_Ro_isSameFrom) 37 = .ok (.ireturn, 1) := by decide +kernel
theorem d_Ro_isSameFrom_38 : decode (am_b mt_Ro_isSameFrom) 38 = .ok (.iinc 3 1, 3) := by decide +kernel
theorem d_Ro_isSameFrom_41 : decode (am_b mt_Ro_isSameFrom) 41 = .ok (.goto (-26), 3) := by decide +kernel
theorem d_Ro_isSameFrom_44 : decode (am_b mt_Ro_isSameFrom) 44 = .ok (.iconst 1, 1) := by decide +kernel
theorem d_Ro_isSameFrom_45 : decode (am_b mt_Ro_isSameFrom) 45 = .ok (.ireturn, 1) := by decide +kernel
theorem d_Al_finish_0 : decode (am_b mt_Al_finish) 0 = .ok (.aload_n 0, 1) := by decide +kernel
theorem d_Al_finish_1 : decode (am_b mt_Al_finish) 1 = .ok (.dup, 1) := by decide +kernel
theorem d_Al_finish_2 : decode (am_b mt_Al_finish) 2 = .ok (.getfield 49, 3) := by decide +kernel
theorem d_Al_finish_5 : decode (am_b mt_Al_finish) 5 = .ok (.iconst 1, 1) := by decide +kernel
theorem d_Al_finish_6 : decode (am_b mt_Al_finish) 6 = .ok (.iadd, 1) := by decide +kernel
theorem d_Al_finish_7 : decode (am_b mt_Al_finish) 7 = .ok (.putfield 49, 3) := by decide +kernel
theorem d_Al_finish_10 : decode (am_b mt_Al_finish) 10 = .ok (.aload_n 0, 1) := by decide +kernel
theorem d_Al_finish_11 : decode (am_b mt_Al_finish) 11 = .ok (.getfield 32, 3) := by decide +kernel
theorem d_Al_finish_14 : decode (am_b mt_Al_finish) 14 = .ok (.iload_n 1, 1) := by decide +kernel
theorem d_Al_finish_15 : decode (am_b mt_Al_finish) 15 = .ok (.invokevirtual 228, 3) := by decide +kernel
theorem d_Al_finish_18 : decode (am_b mt_Al_finish) 18 = .ok (.aload_n 0, 1) := by decide +kernel
theorem d_Al_finish_19 : decode (am_b mt_Al_finish) 19 = .ok (.getfield 28, 3) := by decide +kernel
theorem d_Al_finish_22 : decode (am_b mt_Al_finish) 22 = .ok (.iload_n 2, 1) := by decide +kernel
theorem d_Al_finish_23 : decode (am_b mt_Al_finish) 23 = .ok (.invokevirtual 228, 3) := by decide +kernel
theorem d_Al_finish_26 : decode (am_b mt_Al_finish) 26 = .ok (.aload_n 0, 1) := by decide +kernel
theorem d_Al_finish_27 : decode (am_b mt_Al_finish) 27 = .ok (.aload_n 0, 1) := by decide +kernel
theorem d_Al_finish_28 : decode (am_b mt_Al_finish) 28 = .ok (.getfield 32, 3) := by decide +kernel
theorem d_Al_finish_31 : decode (am_b mt_Al_finish) 31 = .ok (.invokevirtual 163, 3) := by decide +kernel
theorem d_Al_finish_34 : decode (am_b mt_Al_finish) 34 = .ok (.bipush 6, 2) := by decide +kernel
theorem d_Al_finish_36 : decode (am_b mt_Al_finish) 36 = .ok (.if_icmp .ge 15, 3) := by decide +kernel
theorem d_Al_finish_39 : decode (am_b mt_Al_finish) 39 = .ok (.aload_n 0, 1) := by decide +kernel
theorem d_Al_finish_40 : decode (am_b mt_Al_finish) 40 = .ok (.getfield 28, 3) := by decide +kernel
theorem d_Al_finish_43 : decode (am_b mt_Al_finish) 43 = .ok (.invokevirtual 163, 3) := by decide +kernel
theorem d_Al_finish_46 : decode (am_b mt_Al_finish) 46 = .ok (.bipush 6, 2) := by decide +kernel
theorem d_Al_finish_48 : decode (am_b mt_Al_finish) 48 = .ok (.if_icmp .lt 7, 3) := by decide +kernel
theorem d_Al_finish_51 : decode (am_b mt_Al_finish) 51 = .ok (.iconst 1, 1) := by decide +kernel
theorem d_Al_finish_52 : decode (am_b mt_Al_finish) 52 = .ok (.goto 4, 3) := by decide +kernel
theorem d_Al_finish_55 : decode (am_b mt_Al_finish) 55 = .ok (.iconst 0, 1) := by decide +kernel
theorem d_Al_finish_56 : decode (am_b mt_Al_finish) 56 = .ok (.putfield 56, 3) := by decide +kernel
theorem d_Al_finish_59 : decode (am_b mt_Al_finish) 59 = .ok (.aload_n 0, 1) := by decide +kernel
theorem d_Al_finish_60 : decode (am_b mt_Al_finish) 60 = .ok (.getfield 38, 3) := by decide +kernel
theorem d_Al_finish_63 : decode (am_b mt_Al_finish) 63 = .ok (.aload_n 0, 1) := by decide +kernel
theorem d_Al_finish_64 : decode (am_b mt_Al_finish) 64 = .ok (.getfield 56, 3) := by decide +kernel
theorem d_Al_finish_67 : decode (am_b mt_Al_finish) 67 = .ok (.invokevirtual 232, 3) := by decide +kernel
theorem d_Al_finish_70 : decode (am_b mt_Al_finish) 70 = .ok (.return_, 1) := by decide +kernel
theorem d_De_countMiss_0 : decode (am_b mt_De_countMiss) 0 = .ok (.aload_n 0, 1) := by decide +kernel
theorem d_De_countMiss_1 : decode (am_b mt_De_countMiss) 1 = .ok (.iload_n 1, 1) := by decide +kernel
theorem d_De_countMiss_2 : decode (am_b mt_De_countMiss) 2 = .ok (.ifCond .eq 7, 3) := by decide +kernel
theorem d_De_countMiss_5 : decode (am_b mt_De_countMiss) 5 = .ok (.iconst 0, 1) := by decide +kernel
theorem d_De_countMiss_6 : decode (am_b mt_De_countMiss) 6 = .ok (.goto 9, 3) := by decide +kernel
theorem d_De_countMiss_9 : decode (am_b mt_De_countMiss) 9 = .ok (.aload_n 0, 1) := by decide +kernel
theorem d_De_countMiss_10 : decode (am_b mt_De_countMiss) 10 = .ok (.getfield 54, 3) := by decide +kernel
theorem d_De_countMiss_13 : decode (am_b mt_De_countMiss) 13 = .ok (.iconst 1, 1) := by decide +kernel
theorem d_De_countMiss_14 : decode (am_b mt_De_countMiss) 14 = .ok (.iadd, 1) := by decide +kernel
theorem d_De_countMiss_15 : decode (am_b mt_De_countMiss) 15 = .ok (.putfield 54, 3) := by decide +kernel
theorem d_De_countMiss_18 : decode (am_b mt_De_countMiss) 18 = .ok (.return_, 1) := by decide +kernel
theorem d_Cl_endEvent_0 : decode (am_b mt_Cl_endEvent) 0 = .ok (.aload_n 0, 1) := by decide +kernel
theorem d_Cl_endEvent_1 : decode (am_b mt_Cl_endEvent) 1 = .ok (.getfield 49, 3) := by decide +kernel
theorem d_Cl_endEvent_4 : decode (am_b mt_Cl_endEvent) 4 = .ok (.ifCond .eq 4, 3) := by decide +kernel
theorem d_Cl_endEvent_7 : decode (am_b mt_Cl_endEvent) 7 = .ok (.return_, 1) := by decide +kernel
theorem d_Cl_endEvent_8 : decode (am_b mt_Cl_endEvent) 8 = .ok (.aload_n 0, 1) := by decide +kernel
theorem d_Cl_endEvent_9 : decode (am_b mt_Cl_endEvent) 9 = .ok (.dup, 1) := by decide +kernel
theorem d_Cl_endEvent_10 : decode (am_b mt_Cl_endEvent) 10 = .ok (.getfield 55, 3) := by decide +kernel
theorem d_Cl_endEvent_13 : decode (am_b mt_Cl_endEvent) 13 = .ok (.iconst 1, 1) := by decide +kernel
theorem d_Cl_endEvent_14 : decode (am_b mt_Cl_endEvent) 14 = .ok (.iadd, 1) := by decide +kernel
theorem d_Cl_endEvent_15 : decode (am_b mt_Cl_endEvent) 15 = .ok (.putfield 55, 3) := by decide +kernel
theorem d_Cl_endEvent_18 : decode (am_b mt_Cl_endEvent) 18 = .ok (.iload_n 1, 1) := by decide +kernel
theorem d_Cl_endEvent_19 : decode (am_b mt_Cl_endEvent) 19 = .ok (.ifCond .eq 11, 3) := by decide +kernel
theorem d_Cl_endEvent_22 : decode (am_b mt_Cl_endEvent) 22 = .ok (.aload_n 0, 1) := by decide +kernel
theorem d_Cl_endEvent_23 : decode (am_b mt_Cl_endEvent) 23 = .ok (.iconst 4, 1) := by decide +kernel
theorem d_Cl_endEvent_24 : decode (am_b mt_Cl_endEvent) 24 = .ok (.putfield 49, 3) := by decide +kernel
theorem d_Cl_endEvent_27 : decode (am_b mt_Cl_endEvent) 27 = .ok (.goto 17, 3) := by decide +kernel
theorem d_Cl_endEvent_30 : decode (am_b mt_Cl_endEvent) 30 = .ok (.aload_n 0, 1) := by decide +kernel
theorem d_Cl_endEvent_31 : decode (am_b mt_Cl_endEvent) 31 = .ok (.getfield 55, 3) := by decide +kernel
theorem d_Cl_endEvent_34 : decode (am_b mt_Cl_endEvent) 34 = .ok (.bipush 30, 2) := by decide +kernel
theorem d_Cl_endEvent_36 : decode (am_b mt_Cl_endEvent) 36 = .ok (.if_icmp .lt 8, 3) := by decide +kernel
theorem d_Cl_endEvent_39 : decode (am_b mt_Cl_endEvent) 39 = .ok (.aload_n 0, 1) := by decide +kernel
theorem d_Cl_endEvent_40 : decode (am_b mt_Cl_endEvent) 40 = .ok (.iconst 3, 1) := by decide +kernel
theorem d_Cl_endEvent_41 : decode (am_b mt_Cl_endEvent) 41 = .ok (.putfield 49, 3) := by decide +kernel
theorem d_Cl_endEvent_44 : decode (am_b mt_Cl_endEvent) 44 = .ok (.return_, 1) := by decide +kernel
theorem d_La_run_0 : decode (am_b mt_La_run) 0 = .ok (.aload_n 2, 1) := by decide +kernel
theorem d_La_run_1 : decode (am_b mt_La_run) 1 = .ok (.iconst 0, 1) := by decide +kernel
theorem d_La_run_2 : decode (am_b mt_La_run) 2 = .ok (.aload_n 0, 1) := by decide +kernel
theorem d_La_run_3 : decode (am_b mt_La_run) 3 = .ok (.iload_n 1, 1) := by decide +kernel
theorem d_La_run_4 : decode (am_b mt_La_run) 4 = .ok (.invokevirtual 41, 3) := by decide +kernel
theorem d_La_run_7 : decode (am_b mt_La_run) 7 = .ok (.i2l, 1) := by decide +kernel
theorem d_La_run_8 : decode (am_b mt_La_run) 8 = .ok (.lastore, 1) := by decide +kernel
theorem d_La_run_9 : decode (am_b mt_La_run) 9 = .ok (.goto 6, 3) := by decide +kernel
theorem d_La_run_12 : decode (am_b mt_La_run) 12 = .ok (.astore_n 3, 1) := by decide +kernel
theorem d_La_run_13 : decode (am_b mt_La_run) 13 = .ok (.iconst 1, 1) := by decide +kernel
theorem d_La_run_14 : decode (am_b mt_La_run) 14 = .ok (.ireturn, 1) := by decide +kernel
theorem d_La_run_15 : decode (am_b mt_La_run) 15 = .ok (.iconst 0, 1) := by decide +kernel
theorem d_La_run_16 : decode (am_b mt_La_run) 16 = .ok (.ireturn, 1) := by decide +kernel
theorem d_Al_run_0 : decode (am_b mt_Al_run) 0 = .ok (.iload_n 1, 1) := by decide +kernel
theorem d_Al_run_1 : decode (am_b mt_Al_run) 1 = .ok (.iconst 1, 1) := by decide +kernel
theorem d_Al_run_2 : decode (am_b mt_Al_run) 2 = .ok (.if_icmp .lt 9, 3) := by decide +kernel
theorem d_Al_run_5 : decode (am_b mt_Al_run) 5 = .ok (.iload_n 1, 1) := by decide +kernel
theorem d_Al_run_6 : decode (am_b mt_Al_run) 6 = .ok (.bipush 40, 2) := by decide +kernel
theorem d_Al_run_8 : decode (am_b mt_Al_run) 8 = .ok (.if_icmp .le 11, 3) := by decide +kernel
theorem d_Al_run_11 : decode (am_b mt_Al_run) 11 = .ok (.new 67, 3) := by decide +kernel
theorem d_Al_run_14 : decode (am_b mt_Al_run) 14 = .ok (.dup, 1) := by decide +kernel
theorem d_Al_run_15 : decode (am_b mt_Al_run) 15 = .ok (.invokespecial 69, 3) := by decide +kernel
theorem d_Al_run_18 : decode (am_b mt_Al_run) 18 = .ok (.athrow, 1) := by decide +kernel
theorem d_Al_run_19 : decode (am_b mt_Al_run) 19 = .ok (.iconst 0, 1) := by decide +kernel
theorem d_Al_run_20 : decode (am_b mt_Al_run) 20 = .ok (.istore_n 2, 1) := by decide +kernel
theorem d_Al_run_21 : decode (am_b mt_Al_run) 21 = .ok (.iload_n 2, 1) := by decide +kernel
theorem d_Al_run_22 : decode (am_b mt_Al_run) 22 = .ok (.iload_n 1, 1) := by decide +kernel
theorem d_Al_run_23 : decode (am_b mt_Al_run) 23 = .ok (.if_icmp .ge 24, 3) := by decide +kernel
theorem d_Al_run_26 : decode (am_b mt_Al_run) 26 = .ok (.aload_n 0, 1) := by decide +kernel
theorem d_Al_run_27 : decode (am_b mt_Al_run) 27 = .ok (.getfield 56, 3) := by decide +kernel
theorem d_Al_run_30 : decode (am_b mt_Al_run) 30 = .ok (.ifCond .ne 17, 3) := by decide +kernel
theorem d_Al_run_33 : decode (am_b mt_Al_run) 33 = .ok (.aload_n 0, 1) := by decide +kernel
theorem d_Al_run_34 : decode (am_b mt_Al_run) 34 = .ok (.iconst 0, 1) := by decide +kernel
theorem d_Al_run_35 : decode (am_b mt_Al_run) 35 = .ok (.lconst 0, 1) := by decide +kernel
theorem d_Al_run_36 : decode (am_b mt_Al_run) 36 = .ok (.lconst 0, 1) := by decide +kernel
theorem d_Al_run_37 : decode (am_b mt_Al_run) 37 = .ok (.invokevirtual 127, 3) := by decide +kernel
theorem d_Al_run_40 : decode (am_b mt_Al_run) 40 = .ok (.pop, 1) := by decide +kernel
theorem d_Al_run_41 : decode (am_b mt_Al_run) 41 = .ok (.iinc 2 1, 3) := by decide +kernel
theorem d_Al_run_44 : decode (am_b mt_Al_run) 44 = .ok (.goto (-23), 3) := by decide +kernel
theorem d_Al_run_47 : decode (am_b mt_Al_run) 47 = .ok (.iload_n 2, 1) := by decide +kernel
theorem d_Al_run_48 : decode (am_b mt_Al_run) 48 = .ok (.ireturn, 1) := by decide +kernel
theorem d_La_outcome_0 : decode (am_b mt_La_outcome) 0 = .ok (.aload_n 1, 1) := by decide +kernel
theorem d_La_outcome_1 : decode (am_b mt_La_outcome) 1 = .ok (.iconst 0, 1) := by decide +kernel
theorem d_La_outcome_2 : decode (am_b mt_La_outcome) 2 = .ok (.aload_n 0, 1) := by decide +kernel
theorem d_La_outcome_3 : decode (am_b mt_La_outcome) 3 = .ok (.invokevirtual 45, 3) := by decide +kernel
theorem d_La_outcome_6 : decode (am_b mt_La_outcome) 6 = .ok (.i2l, 1) := by decide +kernel
theorem d_La_outcome_7 : decode (am_b mt_La_outcome) 7 = .ok (.lastore, 1) := by decide +kernel
theorem d_La_outcome_8 : decode (am_b mt_La_outcome) 8 = .ok (.goto 6, 3) := by decide +kernel
