/-! Part 45 (2) (written by gen6.py): the instructions -/
theorem d_La_outcome_11 : decode (am_b mt_La_outcome) 11 = .ok (.astore_n 2, 1) := by decide +kernel
theorem d_La_outcome_12 : decode (am_b mt_La_outcome) 12 = .ok (.iconst 1, 1) := by decide +kernel
theorem d_La_outcome_13 : decode (am_b mt_La_outcome) 13 = .ok (.ireturn, 1) := by decide +kernel
theorem d_La_outcome_14 : decode (am_b mt_La_outcome) 14 = .ok (.iconst 0, 1) := by decide +kernel
theorem d_La_outcome_15 : decode (am_b mt_La_outcome) 15 = .ok (.ireturn, 1) := by decide +kernel
theorem d_Al_outcome_0 : decode (am_b mt_Al_outcome) 0 = .ok (.aload_n 0, 1) := by decide +kernel
theorem d_Al_outcome_1 : decode (am_b mt_Al_outcome) 1 = .ok (.getfield 38, 3) := by decide +kernel
theorem d_Al_outcome_4 : decode (am_b mt_Al_outcome) 4 = .ok (.invokevirtual 131, 3) := by decide +kernel
theorem d_Al_outcome_7 : decode (am_b mt_Al_outcome) 7 = .ok (.iconst (-1), 1) := by decide +kernel
theorem d_Al_outcome_8 : decode (am_b mt_Al_outcome) 8 = .ok (.if_icmp .ne 11, 3) := by decide +kernel
theorem d_Al_outcome_11 : decode (am_b mt_Al_outcome) 11 = .ok (.new 134, 3) := by decide +kernel
theorem d_Al_outcome_14 : decode (am_b mt_Al_outcome) 14 = .ok (.dup, 1) := by decide +kernel
theorem d_Al_outcome_15 : decode (am_b mt_Al_outcome) 15 = .ok (.invokespecial 136, 3) := by decide +kernel
theorem d_Al_outcome_18 : decode (am_b mt_Al_outcome) 18 = .ok (.athrow, 1) := by decide +kernel
theorem d_Al_outcome_19 : decode (am_b mt_Al_outcome) 19 = .ok (.aload_n 0, 1) := by decide +kernel
theorem d_Al_outcome_20 : decode (am_b mt_Al_outcome) 20 = .ok (.getfield 38, 3) := by decide +kernel
theorem d_Al_outcome_23 : decode (am_b mt_Al_outcome) 23 = .ok (.invokevirtual 131, 3) := by decide +kernel
theorem d_Al_outcome_26 : decode (am_b mt_Al_outcome) 26 = .ok (.ireturn, 1) := by decide +kernel
theorem d_Cl_state_0 : decode (am_b mt_Cl_state) 0 = .ok (.aload_n 0, 1) := by decide +kernel
theorem d_Cl_state_1 : decode (am_b mt_Cl_state) 1 = .ok (.getfield 49, 3) := by decide +kernel
theorem d_Cl_state_4 : decode (am_b mt_Cl_state) 4 = .ok (.ireturn, 1) := by decide +kernel
theorem d_La_data_0 : decode (am_b mt_La_data) 0 = .ok (.aload_n 2, 1) := by decide +kernel
theorem d_La_data_1 : decode (am_b mt_La_data) 1 = .ok (.iconst 0, 1) := by decide +kernel
theorem d_La_data_2 : decode (am_b mt_La_data) 2 = .ok (.aload_n 0, 1) := by decide +kernel
theorem d_La_data_3 : decode (am_b mt_La_data) 3 = .ok (.iload_n 1, 1) := by decide +kernel
theorem d_La_data_4 : decode (am_b mt_La_data) 4 = .ok (.invokevirtual 51, 3) := by decide +kernel
theorem d_La_data_7 : decode (am_b mt_La_data) 7 = .ok (.i2l, 1) := by decide +kernel
theorem d_La_data_8 : decode (am_b mt_La_data) 8 = .ok (.lastore, 1) := by decide +kernel
theorem d_La_data_9 : decode (am_b mt_La_data) 9 = .ok (.goto 6, 3) := by decide +kernel
theorem d_La_data_12 : decode (am_b mt_La_data) 12 = .ok (.astore_n 3, 1) := by decide +kernel
theorem d_La_data_13 : decode (am_b mt_La_data) 13 = .ok (.iconst 1, 1) := by decide +kernel
theorem d_La_data_14 : decode (am_b mt_La_data) 14 = .ok (.ireturn, 1) := by decide +kernel
theorem d_La_data_15 : decode (am_b mt_La_data) 15 = .ok (.iconst 0, 1) := by decide +kernel
theorem d_La_data_16 : decode (am_b mt_La_data) 16 = .ok (.ireturn, 1) := by decide +kernel
theorem d_Al_data_0 : decode (am_b mt_Al_data) 0 = .ok (.aload_n 0, 1) := by decide +kernel
theorem d_Al_data_1 : decode (am_b mt_Al_data) 1 = .ok (.getfield 38, 3) := by decide +kernel
theorem d_Al_data_4 : decode (am_b mt_Al_data) 4 = .ok (.getfield 140, 3) := by decide +kernel
theorem d_Al_data_7 : decode (am_b mt_Al_data) 7 = .ok (.iload_n 1, 1) := by decide +kernel
theorem d_Al_data_8 : decode (am_b mt_Al_data) 8 = .ok (.invokestatic 144, 3) := by decide +kernel
theorem d_Al_data_11 : decode (am_b mt_Al_data) 11 = .ok (.ireturn, 1) := by decide +kernel
theorem d_Al_byteOrLength_0 : decode (am_b mt_Al_byteOrLength) 0 = .ok (.iload_n 1, 1) := by decide +kernel
theorem d_Al_byteOrLength_1 : decode (am_b mt_Al_byteOrLength) 1 = .ok (.iconst (-1), 1) := by decide +kernel
theorem d_Al_byteOrLength_2 : decode (am_b mt_Al_byteOrLength) 2 = .ok (.if_icmp .ne 8, 3) := by decide +kernel
theorem d_Al_byteOrLength_5 : decode (am_b mt_Al_byteOrLength) 5 = .ok (.aload_n 0, 1) := by decide +kernel
theorem d_Al_byteOrLength_6 : decode (am_b mt_Al_byteOrLength) 6 = .ok (.invokevirtual 88, 3) := by decide +kernel
theorem d_Al_byteOrLength_9 : decode (am_b mt_Al_byteOrLength) 9 = .ok (.ireturn, 1) := by decide +kernel
theorem d_Al_byteOrLength_10 : decode (am_b mt_Al_byteOrLength) 10 = .ok (.aload_n 0, 1) := by decide +kernel
theorem d_Al_byteOrLength_11 : decode (am_b mt_Al_byteOrLength) 11 = .ok (.iload_n 1, 1) := by decide +kernel
theorem d_Al_byteOrLength_12 : decode (am_b mt_Al_byteOrLength) 12 = .ok (.invokevirtual 179, 3) := by decide +kernel
theorem d_Al_byteOrLength_15 : decode (am_b mt_Al_byteOrLength) 15 = .ok (.ifCond .ne 11, 3) := by decide +kernel
theorem d_Al_byteOrLength_18 : decode (am_b mt_Al_byteOrLength) 18 = .ok (.new 180, 3) := by decide +kernel
theorem d_Al_byteOrLength_21 : decode (am_b mt_Al_byteOrLength) 21 = .ok (.dup, 1) := by decide +kernel
theorem d_Al_byteOrLength_22 : decode (am_b mt_Al_byteOrLength) 22 = .ok (.invokespecial 182, 3) := by decide +kernel
theorem d_Al_byteOrLength_25 : decode (am_b mt_Al_byteOrLength) 25 = .ok (.athrow, 1) := by decide +kernel
theorem d_Al_byteOrLength_26 : decode (am_b mt_Al_byteOrLength) 26 = .ok (.aload_n 0, 1) := by decide +kernel
theorem d_Al_byteOrLength_27 : decode (am_b mt_Al_byteOrLength) 27 = .ok (.iload_n 1, 1) := by decide +kernel
theorem d_Al_byteOrLength_28 : decode (am_b mt_Al_byteOrLength) 28 = .ok (.invokevirtual 183, 3) := by decide +kernel
theorem d_Al_byteOrLength_31 : decode (am_b mt_Al_byteOrLength) 31 = .ok (.ireturn, 1) := by decide +kernel
theorem d_Ro_has_0 : decode (am_b mt_Ro_has) 0 = .ok (.iload_n 1, 1) := by decide +kernel
theorem d_Ro_has_1 : decode (am_b mt_Ro_has) 1 = .ok (.ifCond .lt 15, 3) := by decide +kernel
theorem d_Ro_has_4 : decode (am_b mt_Ro_has) 4 = .ok (.iload_n 1, 1) := by decide +kernel
theorem d_Ro_has_5 : decode (am_b mt_Ro_has) 5 = .ok (.aload_n 0, 1) := by decide +kernel
theorem d_Ro_has_6 : decode (am_b mt_Ro_has) 6 = .ok (.getfield 13, 3) := by decide +kernel
theorem d_Ro_has_9 : decode (am_b mt_Ro_has) 9 = .ok (.if_icmp .ge 7, 3) := by decide +kernel
theorem d_Ro_has_12 : decode (am_b mt_Ro_has) 12 = .ok (.iconst 1, 1) := by decide +kernel
theorem d_Ro_has_13 : decode (am_b mt_Ro_has) 13 = .ok (.goto 4, 3) := by decide +kernel
theorem d_Ro_has_16 : decode (am_b mt_Ro_has) 16 = .ok (.iconst 0, 1) := by decide +kernel
theorem d_Ro_has_17 : decode (am_b mt_Ro_has) 17 = .ok (.ireturn, 1) := by decide +kernel
theorem d_La_note_0 : decode (am_b mt_La_note) 0 = .ok (.aload_n 3, 1) := by decide +kernel
theorem d_La_note_1 : decode (am_b mt_La_note) 1 = .ok (.iconst 0, 1) := by decide +kernel
theorem d_La_note_2 : decode (am_b mt_La_note) 2 = .ok (.aload_n 0, 1) := by decide +kernel
theorem d_La_note_3 : decode (am_b mt_La_note) 3 = .ok (.iload_n 1, 1) := by decide +kernel
theorem d_La_note_4 : decode (am_b mt_La_note) 4 = .ok (.iload_n 2, 1) := by decide +kernel
theorem d_La_note_5 : decode (am_b mt_La_note) 5 = .ok (.invokevirtual 56, 3) := by decide +kernel
theorem d_La_note_8 : decode (am_b mt_La_note) 8 = .ok (.i2l, 1) := by decide +kernel
theorem d_La_note_9 : decode (am_b mt_La_note) 9 = .ok (.lastore, 1) := by decide +kernel
theorem d_La_note_10 : decode (am_b mt_La_note) 10 = .ok (.goto 11, 3) := by decide +kernel
theorem d_La_note_13 : decode (am_b mt_La_note) 13 = .ok (.astore 4, 2) := by decide +kernel
theorem d_La_note_15 : decode (am_b mt_La_note) 15 = .ok (.iconst 1, 1) := by decide +kernel
theorem d_La_note_16 : decode (am_b mt_La_note) 16 = .ok (.ireturn, 1) := by decide +kernel
theorem d_La_note_17 : decode (am_b mt_La_note) 17 = .ok (.astore 4, 2) := by decide +kernel
theorem d_La_note_19 : decode (am_b mt_La_note) 19 = .ok (.iconst 2, 1) := by decide +kernel
theorem d_La_note_20 : decode (am_b mt_La_note) 20 = .ok (.ireturn, 1) := by decide +kernel
theorem d_La_note_21 : decode (am_b mt_La_note) 21 = .ok (.iconst 0, 1) := by decide +kernel
theorem d_La_note_22 : decode (am_b mt_La_note) 22 = .ok (.ireturn, 1) := by decide +kernel
theorem d_Al_note_0 : decode (am_b mt_Al_note) 0 = .ok (.aload_n 0, 1) := by decide +kernel
theorem d_Al_note_1 : decode (am_b mt_Al_note) 1 = .ok (.getfield 38, 3) := by decide +kernel
theorem d_Al_note_4 : decode (am_b mt_Al_note) 4 = .ok (.getfield 148, 3) := by decide +kernel
theorem d_Al_note_7 : decode (am_b mt_Al_note) 7 = .ok (.iload_n 1, 1) := by decide +kernel
theorem d_Al_note_8 : decode (am_b mt_Al_note) 8 = .ok (.invokevirtual 152, 3) := by decide +kernel
theorem d_Al_note_11 : decode (am_b mt_Al_note) 11 = .ok (.ifCond .ne 11, 3) := by decide +kernel
theorem d_Al_note_14 : decode (am_b mt_Al_note) 14 = .ok (.new 134, 3) := by decide +kernel
theorem d_Al_note_17 : decode (am_b mt_Al_note) 17 = .ok (.dup, 1) := by decide +kernel
theorem d_Al_note_18 : decode (am_b mt_Al_note) 18 = .ok (.invokespecial 136, 3) := by decide +kernel
theorem d_Al_note_21 : decode (am_b mt_Al_note) 21 = .ok (.athrow, 1) := by decide +kernel
theorem d_Al_note_22 : decode (am_b mt_Al_note) 22 = .ok (.aload_n 0, 1) := by decide +kernel
theorem d_Al_note_23 : decode (am_b mt_Al_note) 23 = .ok (.getfield 38, 3) := by decide +kernel
theorem d_Al_note_26 : decode (am_b mt_Al_note) 26 = .ok (.getfield 148, 3) := by decide +kernel
theorem d_Al_note_29 : decode (am_b mt_Al_note) 29 = .ok (.iload_n 1, 1) := by decide +kernel
theorem d_Al_note_30 : decode (am_b mt_Al_note) 30 = .ok (.invokevirtual 157, 3) := by decide +kernel
theorem d_Al_note_33 : decode (am_b mt_Al_note) 33 = .ok (.iload_n 2, 1) := by decide +kernel
theorem d_Al_note_34 : decode (am_b mt_Al_note) 34 = .ok (.invokestatic 144, 3) := by decide +kernel
theorem d_Al_note_37 : decode (am_b mt_Al_note) 37 = .ok (.ireturn, 1) := by decide +kernel
theorem d_No_has_0 : decode (am_b mt_No_has) 0 = .ok (.iload_n 1, 1) := by decide +kernel
theorem d_No_has_1 : decode (am_b mt_No_has) 1 = .ok (.ifCond .lt 15, 3) := by decide +kernel
theorem d_No_has_4 : decode (am_b mt_No_has) 4 = .ok (.iload_n 1, 1) := by decide +kernel
theorem d_No_has_5 : decode (am_b mt_No_has) 5 = .ok (.aload_n 0, 1) := by decide +kernel
theorem d_No_has_6 : decode (am_b mt_No_has) 6 = .ok (.getfield 20, 3) := by decide +kernel
theorem d_No_has_9 : decode (am_b mt_No_has) 9 = .ok (.if_icmp .ge 7, 3) := by decide +kernel
theorem d_No_has_12 : decode (am_b mt_No_has) 12 = .ok (.iconst 1, 1) := by decide +kernel
theorem d_No_has_13 : decode (am_b mt_No_has) 13 = .ok (.goto 4, 3) := by decide +kernel
theorem d_No_has_16 : decode (am_b mt_No_has) 16 = .ok (.iconst 0, 1) := by decide +kernel
theorem d_No_has_17 : decode (am_b mt_No_has) 17 = .ok (.ireturn, 1) := by decide +kernel
theorem d_No_latest_0 : decode (am_b mt_No_latest) 0 = .ok (.aload_n 0, 1) := by decide +kernel
theorem d_No_latest_1 : decode (am_b mt_No_latest) 1 = .ok (.getfield 13, 3) := by decide +kernel
theorem d_No_latest_4 : decode (am_b mt_No_latest) 4 = .ok (.aload_n 0, 1) := by decide +kernel
theorem d_No_latest_5 : decode (am_b mt_No_latest) 5 = .ok (.getfield 24, 3) := by decide +kernel
theorem d_No_latest_8 : decode (am_b mt_No_latest) 8 = .ok (.iload_n 1, 1) := by decide +kernel
theorem d_No_latest_9 : decode (am_b mt_No_latest) 9 = .ok (.isub, 1) := by decide +kernel
theorem d_No_latest_10 : decode (am_b mt_No_latest) 10 = .ok (.iconst 4, 1) := by decide +kernel
theorem d_No_latest_11 : decode (am_b mt_No_latest) 11 = .ok (.invokestatic 27, 3) := by decide +kernel
theorem d_No_latest_14 : decode (am_b mt_No_latest) 14 = .ok (.aaload, 1) := by decide +kernel
theorem d_No_latest_15 : decode (am_b mt_No_latest) 15 = .ok (.areturn, 1) := by decide +kernel
theorem d_La_value_0 : decode (am_b mt_La_value) 0 = .ok (.aload_n 3, 1) := by decide +kernel
theorem d_La_value_1 : decode (am_b mt_La_value) 1 = .ok (.iconst 0, 1) := by decide +kernel
theorem d_La_value_2 : decode (am_b mt_La_value) 2 = .ok (.aload_n 0, 1) := by decide +kernel
theorem d_La_value_3 : decode (am_b mt_La_value) 3 = .ok (.iload_n 1, 1) := by decide +kernel
theorem d_La_value_4 : decode (am_b mt_La_value) 4 = .ok (.iload_n 2, 1) := by decide +kernel
theorem d_La_value_5 : decode (am_b mt_La_value) 5 = .ok (.invokevirtual 60, 3) := by decide +kernel
theorem d_La_value_8 : decode (am_b mt_La_value) 8 = .ok (.i2l, 1) := by decide +kernel
theorem d_La_value_9 : decode (am_b mt_La_value) 9 = .ok (.lastore, 1) := by decide +kernel
theorem d_La_value_10 : decode (am_b mt_La_value) 10 = .ok (.goto 11, 3) := by decide +kernel
theorem d_La_value_13 : decode (am_b mt_La_value) 13 = .ok (.astore 4, 2) := by decide +kernel
theorem d_La_value_15 : decode (am_b mt_La_value) 15 = .ok (.iconst 1, 1) := by decide +kernel
theorem d_La_value_16 : decode (am_b mt_La_value) 16 = .ok (.ireturn, 1) := by decide +kernel
theorem d_La_value_17 : decode (am_b mt_La_value) 17 = .ok (.astore 4, 2) := by decide +kernel
theorem d_La_value_19 : decode (am_b mt_La_value) 19 = .ok (.iconst 2, 1) := by decide +kernel
theorem d_La_value_20 : decode (am_b mt_La_value) 20 = .ok (.ireturn, 1) := by decide +kernel
theorem d_La_value_21 : decode (am_b mt_La_value) 21 = .ok (.iconst 0, 1) := by decide +kernel
theorem d_La_value_22 : decode (am_b mt_La_value) 22 = .ok (.ireturn, 1) := by decide +kernel
theorem d_Al_value_0 : decode (am_b mt_Al_value) 0 = .ok (.aload_n 0, 1) := by decide +kernel
theorem d_Al_value_1 : decode (am_b mt_Al_value) 1 = .ok (.getfield 45, 3) := by decide +kernel
theorem d_Al_value_4 : decode (am_b mt_Al_value) 4 = .ok (.iload_n 1, 1) := by decide +kernel
theorem d_Al_value_5 : decode (am_b mt_Al_value) 5 = .ok (.invokevirtual 81, 3) := by decide +kernel
theorem d_Al_value_8 : decode (am_b mt_Al_value) 8 = .ok (.ifCond .ne 11, 3) := by decide +kernel
theorem d_Al_value_11 : decode (am_b mt_Al_value) 11 = .ok (.new 67, 3) := by decide +kernel
theorem d_Al_value_14 : decode (am_b mt_Al_value) 14 = .ok (.dup, 1) := by decide +kernel
theorem d_Al_value_15 : decode (am_b mt_Al_value) 15 = .ok (.invokespecial 69, 3) := by decide +kernel
theorem d_Al_value_18 : decode (am_b mt_Al_value) 18 = .ok (.athrow, 1) := by decide +kernel
theorem d_Al_value_19 : decode (am_b mt_Al_value) 19 = .ok (.aload_n 0, 1) := by decide +kernel
theorem d_Al_value_20 : decode (am_b mt_Al_value) 20 = .ok (.getfield 45, 3) := by decide +kernel
theorem d_Al_value_23 : decode (am_b mt_Al_value) 23 = .ok (.iload_n 1, 1) := by decide +kernel
theorem d_Al_value_24 : decode (am_b mt_Al_value) 24 = .ok (.invokevirtual 84, 3) := by decide +kernel
theorem d_Al_value_27 : decode (am_b mt_Al_value) 27 = .ok (.iload_n 2, 1) := by decide +kernel
theorem d_Al_value_28 : decode (am_b mt_Al_value) 28 = .ok (.invokestatic 144, 3) := by decide +kernel
theorem d_Al_value_31 : decode (am_b mt_Al_value) 31 = .ok (.ireturn, 1) := by decide +kernel
theorem d_La_air_0 : decode (am_b mt_La_air) 0 = .ok (.aload_n 3, 1) := by decide +kernel
theorem d_La_air_1 : decode (am_b mt_La_air) 1 = .ok (.iconst 0, 1) := by decide +kernel
theorem d_La_air_2 : decode (am_b mt_La_air) 2 = .ok (.aload_n 0, 1) := by decide +kernel
theorem d_La_air_3 : decode (am_b mt_La_air) 3 = .ok (.iload_n 1, 1) := by decide +kernel
theorem d_La_air_4 : decode (am_b mt_La_air) 4 = .ok (.iload_n 2, 1) := by decide +kernel
theorem d_La_air_5 : decode (am_b mt_La_air) 5 = .ok (.invokevirtual 63, 3) := by decide +kernel
theorem d_La_air_8 : decode (am_b mt_La_air) 8 = .ok (.i2l, 1) := by decide +kernel
theorem d_La_air_9 : decode (am_b mt_La_air) 9 = .ok (.lastore, 1) := by decide +kernel
theorem d_La_air_10 : decode (am_b mt_La_air) 10 = .ok (.goto 11, 3) := by decide +kernel
theorem d_La_air_13 : decode (am_b mt_La_air) 13 = .ok (.astore 4, 2) := by decide +kernel
theorem d_La_air_15 : decode (am_b mt_La_air) 15 = .ok (.iconst 1, 1) := by decide +kernel
theorem d_La_air_16 : decode (am_b mt_La_air) 16 = .ok (.ireturn, 1) := by decide +kernel
theorem d_La_air_17 : decode (am_b mt_La_air) 17 = .ok (.astore 4, 2) := by decide +kernel
theorem d_La_air_19 : decode (am_b mt_La_air) 19 = .ok (.iconst 2, 1) := by decide +kernel
theorem d_La_air_20 : decode (am_b mt_La_air) 20 = .ok (.ireturn, 1) := by decide +kernel
theorem d_La_air_21 : decode (am_b mt_La_air) 21 = .ok (.iconst 0, 1) := by decide +kernel
theorem d_La_air_22 : decode (am_b mt_La_air) 22 = .ok (.ireturn, 1) := by decide +kernel
theorem d_Al_air_0 : decode (am_b mt_Al_air) 0 = .ok (.iload_n 1, 1) := by decide +kernel
theorem d_Al_air_1 : decode (am_b mt_Al_air) 1 = .ok (.ifCond .eq 13, 3) := by decide +kernel
theorem d_Al_air_4 : decode (am_b mt_Al_air) 4 = .ok (.aload_n 0, 1) := by decide +kernel
theorem d_Al_air_5 : decode (am_b mt_Al_air) 5 = .ok (.getfield 32, 3) := by decide +kernel
theorem d_Al_air_8 : decode (am_b mt_Al_air) 8 = .ok (.getfield 160, 3) := by decide +kernel
theorem d_Al_air_11 : decode (am_b mt_Al_air) 11 = .ok (.goto 10, 3) := by decide +kernel
theorem d_Al_air_14 : decode (am_b mt_Al_air) 14 = .ok (.aload_n 0, 1) := by decide +kernel
theorem d_Al_air_15 : decode (am_b mt_Al_air) 15 = .ok (.getfield 28, 3) := by decide +kernel
theorem d_Al_air_18 : decode (am_b mt_Al_air) 18 = .ok (.getfield 160, 3) := by decide +kernel
theorem d_Al_air_21 : decode (am_b mt_Al_air) 21 = .ok (.astore_n 3, 1) := by decide +kernel
theorem d_Al_air_22 : decode (am_b mt_Al_air) 22 = .ok (.aload_n 3, 1) := by decide +kernel
theorem d_Al_air_23 : decode (am_b mt_Al_air) 23 = .ok (.invokevirtual 88, 3) := by decide +kernel
theorem d_Al_air_26 : decode (am_b mt_Al_air) 26 = .ok (.ifCond .ne 11, 3) := by decide +kernel
theorem d_Al_air_29 : decode (am_b mt_Al_air) 29 = .ok (.new 134, 3) := by decide +kernel
theorem d_Al_air_32 : decode (am_b mt_Al_air) 32 = .ok (.dup, 1) := by decide +kernel
theorem d_Al_air_33 : decode (am_b mt_Al_air) 33 = .ok (.invokespecial 136, 3) := by decide +kernel
theorem d_Al_air_36 : decode (am_b mt_Al_air) 36 = .ok (.athrow, 1) := by decide +kernel
theorem d_Al_air_37 : decode (am_b mt_Al_air) 37 = .ok (.aload_n 3, 1) := by decide +kernel
theorem d_Al_air_38 : decode (am_b mt_Al_air) 38 = .ok (.iload_n 2, 1) := by decide +kernel
theorem d_Al_air_39 : decode (am_b mt_Al_air) 39 = .ok (.invokestatic 144, 3) := by decide +kernel
theorem d_Al_air_42 : decode (am_b mt_Al_air) 42 = .ok (.ireturn, 1) := by decide +kernel
theorem d_Mo_init_0 : decode (am_b mt_Mo_init) 0 = .ok (.aload_n 0, 1) := by decide +kernel
theorem d_Mo_init_1 : decode (am_b mt_Mo_init) 1 = .ok (.invokespecial 1, 3) := by decide +kernel
theorem d_Mo_init_4 : decode (am_b mt_Mo_init) 4 = .ok (.aload_n 0, 1) := by decide +kernel
theorem d_Mo_init_5 : decode (am_b mt_Mo_init) 5 = .ok (.bipush 37, 2) := by decide +kernel
theorem d_Mo_init_7 : decode (am_b mt_Mo_init) 7 = .ok (.newarray .boolean, 2) := by decide +kernel
theorem d_Mo_init_9 : decode (am_b mt_Mo_init) 9 = .ok (.putfield 7, 3) := by decide +kernel
theorem d_Mo_init_12 : decode (am_b mt_Mo_init) 12 = .ok (.aload_n 0, 1) := by decide +kernel
theorem d_Mo_init_13 : decode (am_b mt_Mo_init) 13 = .ok (.iconst (-1), 1) := by decide +kernel
theorem d_Mo_init_14 : decode (am_b mt_Mo_init) 14 = .ok (.putfield 13, 3) := by decide +kernel
theorem d_Mo_init_17 : decode (am_b mt_Mo_init) 17 = .ok (.aload_n 0, 1) := by decide +kernel
theorem d_Mo_init_18 : decode (am_b mt_Mo_init) 18 = .ok (.bipush 16, 2) := by decide +kernel
theorem d_Mo_init_20 : decode (am_b mt_Mo_init) 20 = .ok (.newarray .int, 2) := by decide +kernel
theorem d_Mo_init_22 : decode (am_b mt_Mo_init) 22 = .ok (.putfield 17, 3) := by decide +kernel
theorem d_Mo_init_25 : decode (am_b mt_Mo_init) 25 = .ok (.aload_n 0, 1) := by decide +kernel
theorem d_Mo_init_26 : decode (am_b mt_Mo_init) 26 = .ok (.iconst 2, 1) := by decide +kernel
theorem d_Mo_init_27 : decode (am_b mt_Mo_init) 27 = .ok (.newarray .int, 2) := by decide +kernel
theorem d_Mo_init_29 : decode (am_b mt_Mo_init) 29 = .ok (.putfield 21, 3) := by decide +kernel
theorem d_Mo_init_32 : decode (am_b mt_Mo_init) 32 = .ok (.aload_n 0, 1) := by decide +kernel
theorem d_Mo_init_33 : decode (am_b mt_Mo_init) 33 = .ok (.iconst 2, 1) := by decide +kernel
theorem d_Mo_init_34 : decode (am_b mt_Mo_init) 34 = .ok (.newarray .int, 2) := by decide +kernel
theorem d_Mo_init_36 : decode (am_b mt_Mo_init) 36 = .ok (.putfield 24, 3) := by decide +kernel
theorem d_Mo_init_39 : decode (am_b mt_Mo_init) 39 = .ok (.aload_n 0, 1) := by decide +kernel
theorem d_Mo_init_40 : decode (am_b mt_Mo_init) 40 = .ok (.iconst 2, 1) := by decide +kernel
theorem d_Mo_init_41 : decode (am_b mt_Mo_init) 41 = .ok (.newarray .int, 2) := by decide +kernel
theorem d_Mo_init_43 : decode (am_b mt_Mo_init) 43 = .ok (.putfield 27, 3) := by decide +kernel
theorem d_Mo_init_46 : decode (am_b mt_Mo_init) 46 = .ok (.aload_n 0, 1) := by decide +kernel
theorem d_Mo_init_47 : decode (am_b mt_Mo_init) 47 = .ok (.iconst 2, 1) := by decide +kernel
theorem d_Mo_init_48 : decode (am_b mt_Mo_init) 48 = .ok (.newarray .boolean, 2) := by decide +kernel
theorem d_Mo_init_50 : decode (am_b mt_Mo_init) 50 = .ok (.putfield 30, 3) := by decide +kernel
theorem d_Mo_init_53 : decode (am_b mt_Mo_init) 53 = .ok (.aload_n 0, 1) := by decide +kernel
theorem d_Mo_init_54 : decode (am_b mt_Mo_init) 54 = .ok (.iconst 2, 1) := by decide +kernel
theorem d_Mo_init_55 : decode (am_b mt_Mo_init) 55 = .ok (.newarray .int, 2) := by decide +kernel
theorem d_Mo_init_57 : decode (am_b mt_Mo_init) 57 = .ok (.putfield 33, 3) := by decide +kernel
theorem d_Mo_init_60 : decode (am_b mt_Mo_init) 60 = .ok (.aload_n 0, 1) := by decide +kernel
theorem d_Mo_init_61 : decode (am_b mt_Mo_init) 61 = .ok (.iconst 2, 1) := by decide +kernel
theorem d_Mo_init_62 : decode (am_b mt_Mo_init) 62 = .ok (.newarray .int, 2) := by decide +kernel
theorem d_Mo_init_64 : decode (am_b mt_Mo_init) 64 = .ok (.putfield 36, 3) := by decide +kernel
theorem d_Mo_init_67 : decode (am_b mt_Mo_init) 67 = .ok (.aload_n 0, 1) := by decide +kernel
theorem d_Mo_init_68 : decode (am_b mt_Mo_init) 68 = .ok (.bipush 16, 2) := by decide +kernel
theorem d_Mo_init_70 : decode (am_b mt_Mo_init) 70 = .ok (.newarray .int, 2) := by decide +kernel
theorem d_Mo_init_72 : decode (am_b mt_Mo_init) 72 = .ok (.putfield 39, 3) := by decide +kernel
theorem d_Mo_init_75 : decode (am_b mt_Mo_init) 75 = .ok (.aload_n 0, 1) := by decide +kernel
theorem d_Mo_init_76 : decode (am_b mt_Mo_init) 76 = .ok (.sipush 384, 3) := by decide +kernel
theorem d_Mo_init_79 : decode (am_b mt_Mo_init) 79 = .ok (.newarray .int, 2) := by decide +kernel
theorem d_Mo_init_81 : decode (am_b mt_Mo_init) 81 = .ok (.putfield 42, 3) := by decide +kernel
theorem d_Mo_init_84 : decode (am_b mt_Mo_init) 84 = .ok (.aload_n 0, 1) := by decide +kernel
theorem d_Mo_init_85 : decode (am_b mt_Mo_init) 85 = .ok (.bipush 16, 2) := by decide +kernel
theorem d_Mo_init_87 : decode (am_b mt_Mo_init) 87 = .ok (.newarray .int, 2) := by decide +kernel
theorem d_Mo_init_89 : decode (am_b mt_Mo_init) 89 = .ok (.putfield 45, 3) := by decide +kernel
theorem d_Mo_init_92 : decode (am_b mt_Mo_init) 92 = .ok (.aload_n 0, 1) := by decide +kernel
theorem d_Mo_init_93 : decode (am_b mt_Mo_init) 93 = .ok (.iconst 2, 1) := by decide +kernel
theorem d_Mo_init_94 : decode (am_b mt_Mo_init) 94 = .ok (.newarray .int, 2) := by decide +kernel
theorem d_Mo_init_96 : decode (am_b mt_Mo_init) 96 = .ok (.putfield 48, 3) := by decide +kernel
theorem d_Mo_init_99 : decode (am_b mt_Mo_init) 99 = .ok (.aload_n 0, 1) := by decide +kernel
theorem d_Mo_init_100 : decode (am_b mt_Mo_init) 100 = .ok (.iconst 2, 1) := by decide +kernel
theorem d_Mo_init_101 : decode (am_b mt_Mo_init) 101 = .ok (.newarray .int, 2) := by decide +kernel
theorem d_Mo_init_103 : decode (am_b mt_Mo_init) 103 = .ok (.putfield 51, 3) := by decide +kernel
theorem d_Mo_init_106 : decode (am_b mt_Mo_init) 106 = .ok (.aload_n 0, 1) := by decide +kernel
theorem d_Mo_init_107 : decode (am_b mt_Mo_init) 107 = .ok (.iconst 2, 1) := by decide +kernel
theorem d_Mo_init_108 : decode (am_b mt_Mo_init) 108 = .ok (.newarray .int, 2) := by decide +kernel
theorem d_Mo_init_110 : decode (am_b mt_Mo_init) 110 = .ok (.putfield 54, 3) := by decide +kernel
theorem d_Mo_init_113 : decode (am_b mt_Mo_init) 113 = .ok (.aload_n 0, 1) := by decide +kernel
theorem d_Mo_init_114 : decode (am_b mt_Mo_init) 114 = .ok (.bipush 96, 2) := by decide +kernel
theorem d_Mo_init_116 : decode (am_b mt_Mo_init) 116 = .ok (.newarray .int, 2) := by decide +kernel
theorem d_Mo_init_118 : decode (am_b mt_Mo_init) 118 = .ok (.putfield 57, 3) := by decide +kernel
theorem d_Mo_init_121 : decode (am_b mt_Mo_init) 121 = .ok (.aload_n 0, 1) := by decide +kernel
theorem d_Mo_init_122 : decode (am_b mt_Mo_init) 122 = .ok (.iconst 2, 1) := by decide +kernel
theorem d_Mo_init_123 : decode (am_b mt_Mo_init) 123 = .ok (.newarray .int, 2) := by decide +kernel
theorem d_Mo_init_125 : decode (am_b mt_Mo_init) 125 = .ok (.putfield 60, 3) := by decide +kernel
theorem d_Mo_init_128 : decode (am_b mt_Mo_init) 128 = .ok (.aload_n 0, 1) := by decide +kernel
theorem d_Mo_init_129 : decode (am_b mt_Mo_init) 129 = .ok (.iconst 2, 1) := by decide +kernel
theorem d_Mo_init_130 : decode (am_b mt_Mo_init) 130 = .ok (.newarray .boolean, 2) := by decide +kernel
theorem d_Mo_init_132 : decode (am_b mt_Mo_init) 132 = .ok (.putfield 63, 3) := by decide +kernel
theorem d_Mo_init_135 : decode (am_b mt_Mo_init) 135 = .ok (.aload_n 0, 1) := by decide +kernel
theorem d_Mo_init_136 : decode (am_b mt_Mo_init) 136 = .ok (.bipush 32, 2) := by decide +kernel
theorem d_Mo_init_138 : decode (am_b mt_Mo_init) 138 = .ok (.newarray .int, 2) := by decide +kernel
theorem d_Mo_init_140 : decode (am_b mt_Mo_init) 140 = .ok (.putfield 66, 3) := by decide +kernel
theorem d_Mo_init_143 : decode (am_b mt_Mo_init) 143 = .ok (.aload_n 0, 1) := by decide +kernel
theorem d_Mo_init_144 : decode (am_b mt_Mo_init) 144 = .ok (.iconst 2, 1) := by decide +kernel
theorem d_Mo_init_145 : decode (am_b mt_Mo_init) 145 = .ok (.newarray .int, 2) := by decide +kernel
theorem d_Mo_init_147 : decode (am_b mt_Mo_init) 147 = .ok (.putfield 69, 3) := by decide +kernel
theorem d_Mo_init_150 : decode (am_b mt_Mo_init) 150 = .ok (.aload_n 0, 1) := by decide +kernel
theorem d_Mo_init_151 : decode (am_b mt_Mo_init) 151 = .ok (.bipush 24, 2) := by decide +kernel
theorem d_Mo_init_153 : decode (am_b mt_Mo_init) 153 = .ok (.newarray .int, 2) := by decide +kernel
theorem d_Mo_init_155 : decode (am_b mt_Mo_init) 155 = .ok (.putfield 72, 3) := by decide +kernel
theorem d_Mo_init_158 : decode (am_b mt_Mo_init) 158 = .ok (.aload_n 0, 1) := by decide +kernel
theorem d_Mo_init_159 : decode (am_b mt_Mo_init) 159 = .ok (.bipush 40, 2) := by decide +kernel
theorem d_Mo_init_161 : decode (am_b mt_Mo_init) 161 = .ok (.newarray .int, 2) := by decide +kernel
theorem d_Mo_init_163 : decode (am_b mt_Mo_init) 163 = .ok (.putfield 75, 3) := by decide +kernel
theorem d_Mo_init_166 : decode (am_b mt_Mo_init) 166 = .ok (.aload_n 0, 1) := by decide +kernel
theorem d_Mo_init_167 : decode (am_b mt_Mo_init) 167 = .ok (.bipush 10, 2) := by decide +kernel
theorem d_Mo_init_169 : decode (am_b mt_Mo_init) 169 = .ok (.newarray .int, 2) := by decide +kernel
theorem d_Mo_init_171 : decode (am_b mt_Mo_init) 171 = .ok (.putfield 78, 3) := by decide +kernel
theorem d_Mo_init_174 : decode (am_b mt_Mo_init) 174 = .ok (.aload_n 0, 1) := by decide +kernel
theorem d_Mo_init_175 : decode (am_b mt_Mo_init) 175 = .ok (.bipush 10, 2) := by decide +kernel
theorem d_Mo_init_177 : decode (am_b mt_Mo_init) 177 = .ok (.newarray .int, 2) := by decide +kernel
theorem d_Mo_init_179 : decode (am_b mt_Mo_init) 179 = .ok (.putfield 81, 3) := by decide +kernel
theorem d_Mo_init_182 : decode (am_b mt_Mo_init) 182 = .ok (.aload_n 0, 1) := by decide +kernel
theorem d_Mo_init_183 : decode (am_b mt_Mo_init) 183 = .ok (.bipush 10, 2) := by decide +kernel
theorem d_Mo_init_185 : decode (am_b mt_Mo_init) 185 = .ok (.newarray .int, 2) := by decide +kernel
theorem d_Mo_init_187 : decode (am_b mt_Mo_init) 187 = .ok (.putfield 84, 3) := by decide +kernel
theorem d_Mo_init_190 : decode (am_b mt_Mo_init) 190 = .ok (.aload_n 0, 1) := by decide +kernel
theorem d_Mo_init_191 : decode (am_b mt_Mo_init) 191 = .ok (.sipush 160, 3) := by decide +kernel
theorem d_Mo_init_194 : decode (am_b mt_Mo_init) 194 = .ok (.newarray .int, 2) := by decide +kernel
theorem d_Mo_init_196 : decode (am_b mt_Mo_init) 196 = .ok (.putfield 87, 3) := by decide +kernel
theorem d_Mo_init_199 : decode (am_b mt_Mo_init) 199 = .ok (.aload_n 0, 1) := by decide +kernel
theorem d_Mo_init_200 : decode (am_b mt_Mo_init) 200 = .ok (.bipush 16, 2) := by decide +kernel
theorem d_Mo_init_202 : decode (am_b mt_Mo_init) 202 = .ok (.newarray .int, 2) := by decide +kernel
theorem d_Mo_init_204 : decode (am_b mt_Mo_init) 204 = .ok (.putfield 90, 3) := by decide +kernel
theorem d_Mo_init_207 : decode (am_b mt_Mo_init) 207 = .ok (.aload_n 0, 1) := by decide +kernel
theorem d_Mo_init_208 : decode (am_b mt_Mo_init) 208 = .ok (.bipush 8, 2) := by decide +kernel
theorem d_Mo_init_210 : decode (am_b mt_Mo_init) 210 = .ok (.putfield 93, 3) := by decide +kernel
theorem d_Mo_init_213 : decode (am_b mt_Mo_init) 213 = .ok (.aload_n 0, 1) := by decide +kernel
theorem d_Mo_init_214 : decode (am_b mt_Mo_init) 214 = .ok (.iconst 4, 1) := by decide +kernel
theorem d_Mo_init_215 : decode (am_b mt_Mo_init) 215 = .ok (.newarray .int, 2) := by decide +kernel
theorem d_Mo_init_217 : decode (am_b mt_Mo_init) 217 = .ok (.putfield 96, 3) := by decide +kernel
theorem d_Mo_init_220 : decode (am_b mt_Mo_init) 220 = .ok (.aload_n 0, 1) := by decide +kernel
theorem d_Mo_init_221 : decode (am_b mt_Mo_init) 221 = .ok (.iconst 4, 1) := by decide +kernel
theorem d_Mo_init_222 : decode (am_b mt_Mo_init) 222 = .ok (.newarray .int, 2) := by decide +kernel
theorem d_Mo_init_224 : decode (am_b mt_Mo_init) 224 = .ok (.putfield 99, 3) := by decide +kernel
theorem d_Mo_init_227 : decode (am_b mt_Mo_init) 227 = .ok (.aload_n 0, 1) := by decide +kernel
theorem d_Mo_init_228 : decode (am_b mt_Mo_init) 228 = .ok (.iconst 4, 1) := by decide +kernel
theorem d_Mo_init_229 : decode (am_b mt_Mo_init) 229 = .ok (.newarray .int, 2) := by decide +kernel
theorem d_Mo_init_231 : decode (am_b mt_Mo_init) 231 = .ok (.putfield 102, 3) := by decide +kernel
theorem d_Mo_init_234 : decode (am_b mt_Mo_init) 234 = .ok (.aload_n 0, 1) := by decide +kernel
theorem d_Mo_init_235 : decode (am_b mt_Mo_init) 235 = .ok (.bipush 80, 2) := by decide +kernel
theorem d_Mo_init_237 : decode (am_b mt_Mo_init) 237 = .ok (.newarray .int, 2) := by decide +kernel
theorem d_Mo_init_239 : decode (am_b mt_Mo_init) 239 = .ok (.putfield 105, 3) := by decide +kernel
theorem d_Mo_init_242 : decode (am_b mt_Mo_init) 242 = .ok (.aload_n 0, 1) := by decide +kernel
theorem d_Mo_init_243 : decode (am_b mt_Mo_init) 243 = .ok (.bipush 8, 2) := by decide +kernel
theorem d_Mo_init_245 : decode (am_b mt_Mo_init) 245 = .ok (.putfield 108, 3) := by decide +kernel
theorem d_Mo_init_248 : decode (am_b mt_Mo_init) 248 = .ok (.aload_n 0, 1) := by decide +kernel
theorem d_Mo_init_249 : decode (am_b mt_Mo_init) 249 = .ok (.iconst 1, 1) := by decide +kernel
theorem d_Mo_init_250 : decode (am_b mt_Mo_init) 250 = .ok (.putfield 111, 3) := by decide +kernel
theorem d_Mo_init_253 : decode (am_b mt_Mo_init) 253 = .ok (.aload_n 0, 1) := by decide +kernel
theorem d_Mo_init_254 : decode (am_b mt_Mo_init) 254 = .ok (.bipush 24, 2) := by decide +kernel
theorem d_Mo_init_256 : decode (am_b mt_Mo_init) 256 = .ok (.newarray .int, 2) := by decide +kernel
theorem d_Mo_init_258 : decode (am_b mt_Mo_init) 258 = .ok (.putfield 114, 3) := by decide +kernel
theorem d_Mo_init_261 : decode (am_b mt_Mo_init) 261 = .ok (.aload_n 0, 1) := by decide +kernel
theorem d_Mo_init_262 : decode (am_b mt_Mo_init) 262 = .ok (.bipush 64, 2) := by decide +kernel
theorem d_Mo_init_264 : decode (am_b mt_Mo_init) 264 = .ok (.newarray .int, 2) := by decide +kernel
theorem d_Mo_init_266 : decode (am_b mt_Mo_init) 266 = .ok (.putfield 117, 3) := by decide +kernel
theorem d_Mo_init_269 : decode (am_b mt_Mo_init) 269 = .ok (.aload_n 0, 1) := by decide +kernel
theorem d_Mo_init_270 : decode (am_b mt_Mo_init) 270 = .ok (.bipush 8, 2) := by decide +kernel
theorem d_Mo_init_272 : decode (am_b mt_Mo_init) 272 = .ok (.newarray .int, 2) := by decide +kernel
theorem d_Mo_init_274 : decode (am_b mt_Mo_init) 274 = .ok (.putfield 120, 3) := by decide +kernel
theorem d_Mo_init_277 : decode (am_b mt_Mo_init) 277 = .ok (.aload_n 0, 1) := by decide +kernel
theorem d_Mo_init_278 : decode (am_b mt_Mo_init) 278 = .ok (.iconst 4, 1) := by decide +kernel
theorem d_Mo_init_279 : decode (am_b mt_Mo_init) 279 = .ok (.newarray .int, 2) := by decide +kernel
theorem d_Mo_init_281 : decode (am_b mt_Mo_init) 281 = .ok (.putfield 123, 3) := by decide +kernel
theorem d_Mo_init_284 : decode (am_b mt_Mo_init) 284 = .ok (.aload_n 0, 1) := by decide +kernel
theorem d_Mo_init_285 : decode (am_b mt_Mo_init) 285 = .ok (.bipush 96, 2) := by decide +kernel
theorem d_Mo_init_287 : decode (am_b mt_Mo_init) 287 = .ok (.newarray .int, 2) := by decide +kernel
theorem d_Mo_init_289 : decode (am_b mt_Mo_init) 289 = .ok (.putfield 126, 3) := by decide +kernel
theorem d_Mo_init_292 : decode (am_b mt_Mo_init) 292 = .ok (.iload_n 1, 1) := by decide +kernel
theorem d_Mo_init_293 : decode (am_b mt_Mo_init) 293 = .ok (.bipush 12, 2) := by decide +kernel
theorem d_Mo_init_295 : decode (am_b mt_Mo_init) 295 = .ok (.irem, 1) := by decide +kernel
theorem d_Mo_init_296 : decode (am_b mt_Mo_init) 296 = .ok (.istore 4, 2) := by decide +kernel
theorem d_Mo_init_298 : decode (am_b mt_Mo_init) 298 = .ok (.aload_n 0, 1) := by decide +kernel
theorem d_Mo_init_299 : decode (am_b mt_Mo_init) 299 = .ok (.iconst 5, 1) := by decide +kernel
theorem d_Mo_init_300 : decode (am_b mt_Mo_init) 300 = .ok (.iload 4, 2) := by decide +kernel
theorem d_Mo_init_302 : decode (am_b mt_Mo_init) 302 = .ok (.ifCond .ge 11, 3) := by decide +kernel
theorem d_Mo_init_305 : decode (am_b mt_Mo_init) 305 = .ok (.iload 4, 2) := by decide +kernel
theorem d_Mo_init_307 : decode (am_b mt_Mo_init) 307 = .ok (.bipush 12, 2) := by decide +kernel
theorem d_Mo_init_309 : decode (am_b mt_Mo_init) 309 = .ok (.iadd, 1) := by decide +kernel
theorem d_Mo_init_310 : decode (am_b mt_Mo_init) 310 = .ok (.goto 5, 3) := by decide +kernel
theorem d_Mo_init_313 : decode (am_b mt_Mo_init) 313 = .ok (.iload 4, 2) := by decide +kernel
theorem d_Mo_init_315 : decode (am_b mt_Mo_init) 315 = .ok (.iadd, 1) := by decide +kernel
theorem d_Mo_init_316 : decode (am_b mt_Mo_init) 316 = .ok (.putfield 129, 3) := by decide +kernel
theorem d_Mo_init_319 : decode (am_b mt_Mo_init) 319 = .ok (.iconst 0, 1) := by decide +kernel
theorem d_Mo_init_320 : decode (am_b mt_Mo_init) 320 = .ok (.istore 5, 2) := by decide +kernel
theorem d_Mo_init_322 : decode (am_b mt_Mo_init) 322 = .ok (.iload 5, 2) := by decide +kernel
theorem d_Mo_init_324 : decode (am_b mt_Mo_init) 324 = .ok (.bipush 37, 2) := by decide +kernel
theorem d_Mo_init_326 : decode (am_b mt_Mo_init) 326 = .ok (.if_icmp .ge 86, 3) := by decide +kernel
theorem d_Mo_init_329 : decode (am_b mt_Mo_init) 329 = .ok (.aload_n 0, 1) := by decide +kernel
theorem d_Mo_init_330 : decode (am_b mt_Mo_init) 330 = .ok (.getfield 7, 3) := by decide +kernel
theorem d_Mo_init_333 : decode (am_b mt_Mo_init) 333 = .ok (.iload 5, 2) := by decide +kernel
theorem d_Mo_init_335 : decode (am_b mt_Mo_init) 335 = .ok (.iload 5, 2) := by decide +kernel
theorem d_Mo_init_337 : decode (am_b mt_Mo_init) 337 = .ok (.bipush 32, 2) := by decide +kernel
theorem d_Mo_init_339 : decode (am_b mt_Mo_init) 339 = .ok (.if_icmp .ge 21, 3) := by decide +kernel
theorem d_Mo_init_342 : decode (am_b mt_Mo_init) 342 = .ok (.iload_n 2, 1) := by decide +kernel
theorem d_Mo_init_343 : decode (am_b mt_Mo_init) 343 = .ok (.iload 5, 2) := by decide +kernel
theorem d_Mo_init_345 : decode (am_b mt_Mo_init) 345 = .ok (.ishr, 1) := by decide +kernel
theorem d_Mo_init_346 : decode (am_b mt_Mo_init) 346 = .ok (.iconst 1, 1) := by decide +kernel
theorem d_Mo_init_347 : decode (am_b mt_Mo_init) 347 = .ok (.iand, 1) := by decide +kernel
theorem d_Mo_init_348 : decode (am_b mt_Mo_init) 348 = .ok (.iconst 1, 1) := by decide +kernel
theorem d_Mo_init_349 : decode (am_b mt_Mo_init) 349 = .ok (.if_icmp .ne 7, 3) := by decide +kernel
theorem d_Mo_init_352 : decode (am_b mt_Mo_init) 352 = .ok (.iconst 1, 1) := by decide +kernel
theorem d_Mo_init_353 : decode (am_b mt_Mo_init) 353 = .ok (.goto 25, 3) := by decide +kernel
theorem d_Mo_init_356 : decode (am_b mt_Mo_init) 356 = .ok (.iconst 0, 1) := by decide +kernel
theorem d_Mo_init_357 : decode (am_b mt_Mo_init) 357 = .ok (.goto 21, 3) := by decide +kernel
theorem d_Mo_init_360 : decode (am_b mt_Mo_init) 360 = .ok (.iload_n 3, 1) := by decide +kernel
theorem d_Mo_init_361 : decode (am_b mt_Mo_init) 361 = .ok (.iload 5, 2) := by decide +kernel
theorem d_Mo_init_363 : decode (am_b mt_Mo_init) 363 = .ok (.bipush 32, 2) := by decide +kernel
theorem d_Mo_init_365 : decode (am_b mt_Mo_init) 365 = .ok (.isub, 1) := by decide +kernel
theorem d_Mo_init_366 : decode (am_b mt_Mo_init) 366 = .ok (.ishr, 1) := by decide +kernel
theorem d_Mo_init_367 : decode (am_b mt_Mo_init) 367 = .ok (.iconst 1, 1) := by decide +kernel
theorem d_Mo_init_368 : decode (am_b mt_Mo_init) 368 = .ok (.iand, 1) := by decide +kernel
theorem d_Mo_init_369 : decode (am_b mt_Mo_init) 369 = .ok (.iconst 1, 1) := by decide +kernel
theorem d_Mo_init_370 : decode (am_b mt_Mo_init) 370 = .ok (.if_icmp .ne 7, 3) := by decide +kernel
theorem d_Mo_init_373 : decode (am_b mt_Mo_init) 373 = .ok (.iconst 1, 1) := by decide +kernel
theorem d_Mo_init_374 : decode (am_b mt_Mo_init) 374 = .ok (.goto 4, 3) := by decide +kernel
theorem d_Mo_init_377 : decode (am_b mt_Mo_init) 377 = .ok (.iconst 0, 1) := by decide +kernel
theorem d_Mo_init_378 : decode (am_b mt_Mo_init) 378 = .ok (.bastore, 1) := by decide +kernel
theorem d_Mo_init_379 : decode (am_b mt_Mo_init) 379 = .ok (.aload_n 0, 1) := by decide +kernel
theorem d_Mo_init_380 : decode (am_b mt_Mo_init) 380 = .ok (.aload_n 0, 1) := by decide +kernel
theorem d_Mo_init_381 : decode (am_b mt_Mo_init) 381 = .ok (.getfield 7, 3) := by decide +kernel
theorem d_Mo_init_384 : decode (am_b mt_Mo_init) 384 = .ok (.iload 5, 2) := by decide +kernel
theorem d_Mo_init_386 : decode (am_b mt_Mo_init) 386 = .ok (.baload, 1) := by decide +kernel
theorem d_Mo_init_387 : decode (am_b mt_Mo_init) 387 = .ok (.ifCond .eq 12, 3) := by decide +kernel
theorem d_Mo_init_390 : decode (am_b mt_Mo_init) 390 = .ok (.aload_n 0, 1) := by decide +kernel
theorem d_Mo_init_391 : decode (am_b mt_Mo_init) 391 = .ok (.getfield 132, 3) := by decide +kernel
theorem d_Mo_init_394 : decode (am_b mt_Mo_init) 394 = .ok (.iconst 1, 1) := by decide +kernel
theorem d_Mo_init_395 : decode (am_b mt_Mo_init) 395 = .ok (.iadd, 1) := by decide +kernel
theorem d_Mo_init_396 : decode (am_b mt_Mo_init) 396 = .ok (.goto 7, 3) := by decide +kernel
theorem d_Mo_init_399 : decode (am_b mt_Mo_init) 399 = .ok (.aload_n 0, 1) := by decide +kernel
theorem d_Mo_init_400 : decode (am_b mt_Mo_init) 400 = .ok (.getfield 132, 3) := by decide +kernel
theorem d_Mo_init_403 : decode (am_b mt_Mo_init) 403 = .ok (.putfield 132, 3) := by decide +kernel
theorem d_Mo_init_406 : decode (am_b mt_Mo_init) 406 = .ok (.iinc 5 1, 3) := by decide +kernel
theorem d_Mo_init_409 : decode (am_b mt_Mo_init) 409 = .ok (.goto (-87), 3) := by decide +kernel
theorem d_Mo_init_412 : decode (am_b mt_Mo_init) 412 = .ok (.aload_n 0, 1) := by decide +kernel
theorem d_Mo_init_413 : decode (am_b mt_Mo_init) 413 = .ok (.getfield 132, 3) := by decide +kernel
theorem d_Mo_init_416 : decode (am_b mt_Mo_init) 416 = .ok (.iconst 2, 1) := by decide +kernel
theorem d_Mo_init_417 : decode (am_b mt_Mo_init) 417 = .ok (.if_icmp .ge 33, 3) := by decide +kernel
theorem d_Mo_init_420 : decode (am_b mt_Mo_init) 420 = .ok (.iconst 0, 1) := by decide +kernel
theorem d_Mo_init_421 : decode (am_b mt_Mo_init) 421 = .ok (.istore 5, 2) := by decide +kernel
theorem d_Mo_init_423 : decode (am_b mt_Mo_init) 423 = .ok (.iload 5, 2) := by decide +kernel
theorem d_Mo_init_425 : decode (am_b mt_Mo_init) 425 = .ok (.bipush 37, 2) := by decide +kernel
theorem d_Mo_init_427 : decode (am_b mt_Mo_init) 427 = .ok (.if_icmp .ge 17, 3) := by decide +kernel
theorem d_Mo_init_430 : decode (am_b mt_Mo_init) 430 = .ok (.aload_n 0, 1) := by decide +kernel
theorem d_Mo_init_431 : decode (am_b mt_Mo_init) 431 = .ok (.getfield 7, 3) := by decide +kernel
theorem d_Mo_init_434 : decode (am_b mt_Mo_init) 434 = .ok (.iload 5, 2) := by decide +kernel
theorem d_Mo_init_436 : decode (am_b mt_Mo_init) 436 = .ok (.iconst 1, 1) := by decide +kernel
theorem d_Mo_init_437 : decode (am_b mt_Mo_init) 437 = .ok (.bastore, 1) := by decide +kernel
theorem d_Mo_init_438 : decode (am_b mt_Mo_init) 438 = .ok (.iinc 5 1, 3) := by decide +kernel
theorem d_Mo_init_441 : decode (am_b mt_Mo_init) 441 = .ok (.goto (-18), 3) := by decide +kernel
theorem d_Mo_init_444 : decode (am_b mt_Mo_init) 444 = .ok (.aload_n 0, 1) := by decide +kernel
theorem d_Mo_init_445 : decode (am_b mt_Mo_init) 445 = .ok (.bipush 37, 2) := by decide +kernel
theorem d_Mo_init_447 : decode (am_b mt_Mo_init) 447 = .ok (.putfield 132, 3) := by decide +kernel
theorem d_Mo_init_450 : decode (am_b mt_Mo_init) 450 = .ok (.return_, 1) := by decide +kernel
theorem d_Mo_thrown_0 : decode (am_b mt_Mo_thrown) 0 = .ok (.aload_n 0, 1) := by decide +kernel
theorem d_Mo_thrown_1 : decode (am_b mt_Mo_thrown) 1 = .ok (.getfield 135, 3) := by decide +kernel
theorem d_Mo_thrown_4 : decode (am_b mt_Mo_thrown) 4 = .ok (.ireturn, 1) := by decide +kernel
theorem d_Mo_attribute_0 : decode (am_b mt_Mo_attribute) 0 = .ok (.aload_n 0, 1) := by decide +kernel
theorem d_Mo_attribute_1 : decode (am_b mt_Mo_attribute) 1 = .ok (.iload_n 1, 1) := by decide +kernel
theorem d_Mo_attribute_2 : decode (am_b mt_Mo_attribute) 2 = .ok (.ifCond .lt 31, 3) := by decide +kernel
theorem d_Mo_attribute_5 : decode (am_b mt_Mo_attribute) 5 = .ok (.iload_n 1, 1) := by decide +kernel
theorem d_Mo_attribute_6 : decode (am_b mt_Mo_attribute) 6 = .ok (.sipush 255, 3) := by decide +kernel
theorem d_Mo_attribute_9 : decode (am_b mt_Mo_attribute) 9 = .ok (.if_icmp .gt 24, 3) := by decide +kernel
theorem d_Mo_attribute_12 : decode (am_b mt_Mo_attribute) 12 = .ok (.iload_n 2, 1) := by decide +kernel
theorem d_Mo_attribute_13 : decode (am_b mt_Mo_attribute) 13 = .ok (.ifCond .lt 20, 3) := by decide +kernel
theorem d_Mo_attribute_16 : decode (am_b mt_Mo_attribute) 16 = .ok (.iload_n 2, 1) := by decide +kernel
theorem d_Mo_attribute_17 : decode (am_b mt_Mo_attribute) 17 = .ok (.iconst 3, 1) := by decide +kernel
theorem d_Mo_attribute_18 : decode (am_b mt_Mo_attribute) 18 = .ok (.if_icmp .gt 15, 3) := by decide +kernel
theorem d_Mo_attribute_21 : decode (am_b mt_Mo_attribute) 21 = .ok (.iload 5, 2) := by decide +kernel
theorem d_Mo_attribute_23 : decode (am_b mt_Mo_attribute) 23 = .ok (.ifCond .lt 10, 3) := by decide +kernel
theorem d_Mo_attribute_26 : decode (am_b mt_Mo_attribute) 26 = .ok (.iload 5, 2) := by decide +kernel
theorem d_Mo_attribute_28 : decode (am_b mt_Mo_attribute) 28 = .ok (.bipush 8, 2) := by decide +kernel
theorem d_Mo_attribute_30 : decode (am_b mt_Mo_attribute) 30 = .ok (.if_icmp .le 7, 3) := by decide +kernel
theorem d_Mo_attribute_33 : decode (am_b mt_Mo_attribute) 33 = .ok (.iconst 1, 1) := by decide +kernel
theorem d_Mo_attribute_34 : decode (am_b mt_Mo_attribute) 34 = .ok (.goto 17, 3) := by decide +kernel
theorem d_Mo_attribute_37 : decode (am_b mt_Mo_attribute) 37 = .ok (.aload_n 0, 1) := by decide +kernel
theorem d_Mo_attribute_38 : decode (am_b mt_Mo_attribute) 38 = .ok (.getfield 212, 3) := by decide +kernel
theorem d_Mo_attribute_41 : decode (am_b mt_Mo_attribute) 41 = .ok (.bipush 10, 2) := by decide +kernel
theorem d_Mo_attribute_43 : decode (am_b mt_Mo_attribute) 43 = .ok (.if_icmp .ne 7, 3) := by decide +kernel
theorem d_Mo_attribute_46 : decode (am_b mt_Mo_attribute) 46 = .ok (.iconst 2, 1) := by decide +kernel
theorem d_Mo_attribute_47 : decode (am_b mt_Mo_attribute) 47 = .ok (.goto 4, 3) := by decide +kernel
theorem d_Mo_attribute_50 : decode (am_b mt_Mo_attribute) 50 = .ok (.iconst 0, 1) := by decide +kernel
theorem d_Mo_attribute_51 : decode (am_b mt_Mo_attribute) 51 = .ok (.putfield 135, 3) := by decide +kernel
theorem d_Mo_attribute_54 : decode (am_b mt_Mo_attribute) 54 = .ok (.aload_n 0, 1) := by decide +kernel
theorem d_Mo_attribute_55 : decode (am_b mt_Mo_attribute) 55 = .ok (.getfield 135, 3) := by decide +kernel
theorem d_Mo_attribute_58 : decode (am_b mt_Mo_attribute) 58 = .ok (.ifCond .le 5, 3) := by decide +kernel
theorem d_Mo_attribute_61 : decode (am_b mt_Mo_attribute) 61 = .ok (.iconst 0, 1) := by decide +kernel
theorem d_Mo_attribute_62 : decode (am_b mt_Mo_attribute) 62 = .ok (.ireturn, 1) := by decide +kernel
theorem d_Mo_attribute_63 : decode (am_b mt_Mo_attribute) 63 = .ok (.aload_n 0, 1) := by decide +kernel
theorem d_Mo_attribute_64 : decode (am_b mt_Mo_attribute) 64 = .ok (.getfield 78, 3) := by decide +kernel
theorem d_Mo_attribute_67 : decode (am_b mt_Mo_attribute) 67 = .ok (.aload_n 0, 1) := by decide +kernel
theorem d_Mo_attribute_68 : decode (am_b mt_Mo_attribute) 68 = .ok (.getfield 212, 3) := by decide +kernel
theorem d_Mo_attribute_71 : decode (am_b mt_Mo_attribute) 71 = .ok (.iload_n 1, 1) := by decide +kernel
theorem d_Mo_attribute_72 : decode (am_b mt_Mo_attribute) 72 = .ok (.iastore, 1) := by decide +kernel
theorem d_Mo_attribute_73 : decode (am_b mt_Mo_attribute) 73 = .ok (.aload_n 0, 1) := by decide +kernel
theorem d_Mo_attribute_74 : decode (am_b mt_Mo_attribute) 74 = .ok (.getfield 81, 3) := by decide +kernel
theorem d_Mo_attribute_77 : decode (am_b mt_Mo_attribute) 77 = .ok (.aload_n 0, 1) := by decide +kernel
theorem d_Mo_attribute_78 : decode (am_b mt_Mo_attribute) 78 = .ok (.getfield 212, 3) := by decide +kernel
theorem d_Mo_attribute_81 : decode (am_b mt_Mo_attribute) 81 = .ok (.iload_n 2, 1) := by decide +kernel
theorem d_Mo_attribute_82 : decode (am_b mt_Mo_attribute) 82 = .ok (.iastore, 1) := by decide +kernel
theorem d_Mo_attribute_83 : decode (am_b mt_Mo_attribute) 83 = .ok (.aload_n 0, 1) := by decide +kernel
theorem d_Mo_attribute_84 : decode (am_b mt_Mo_attribute) 84 = .ok (.getfield 84, 3) := by decide +kernel
theorem d_Mo_attribute_87 : decode (am_b mt_Mo_attribute) 87 = .ok (.aload_n 0, 1) := by decide +kernel
theorem d_Mo_attribute_88 : decode (am_b mt_Mo_attribute) 88 = .ok (.getfield 212, 3) := by decide +kernel
theorem d_Mo_attribute_91 : decode (am_b mt_Mo_attribute) 91 = .ok (.iload 5, 2) := by decide +kernel
theorem d_Mo_attribute_93 : decode (am_b mt_Mo_attribute) 93 = .ok (.iastore, 1) := by decide +kernel
theorem d_Mo_attribute_94 : decode (am_b mt_Mo_attribute) 94 = .ok (.iconst 0, 1) := by decide +kernel
theorem d_Mo_attribute_95 : decode (am_b mt_Mo_attribute) 95 = .ok (.istore 6, 2) := by decide +kernel
theorem d_Mo_attribute_97 : decode (am_b mt_Mo_attribute) 97 = .ok (.iload 6, 2) := by decide +kernel
theorem d_Mo_attribute_99 : decode (am_b mt_Mo_attribute) 99 = .ok (.iload 5, 2) := by decide +kernel
theorem d_Mo_attribute_101 : decode (am_b mt_Mo_attribute) 101 = .ok (.if_icmp .ge 35, 3) := by decide +kernel
theorem d_Mo_attribute_104 : decode (am_b mt_Mo_attribute) 104 = .ok (.aload_n 0, 1) := by decide +kernel
theorem d_Mo_attribute_105 : decode (am_b mt_Mo_attribute) 105 = .ok (.getfield 87, 3) := by decide +kernel
theorem d_Mo_attribute_108 : decode (am_b mt_Mo_attribute) 108 = .ok (.bipush 16, 2) := by decide +kernel
theorem d_Mo_attribute_110 : decode (am_b mt_Mo_attribute) 110 = .ok (.aload_n 0, 1) := by decide +kernel
theorem d_Mo_attribute_111 : decode (am_b mt_Mo_attribute) 111 = .ok (.getfield 212, 3) := by decide +kernel
theorem d_Mo_attribute_114 : decode (am_b mt_Mo_attribute) 114 = .ok (.imul, 1) := by decide +kernel
theorem d_Mo_attribute_115 : decode (am_b mt_Mo_attribute) 115 = .ok (.iload 6, 2) := by decide +kernel
theorem d_Mo_attribute_117 : decode (am_b mt_Mo_attribute) 117 = .ok (.iadd, 1) := by decide +kernel
theorem d_Mo_attribute_118 : decode (am_b mt_Mo_attribute) 118 = .ok (.lload_n 3, 1) := by decide +kernel
theorem d_Mo_attribute_119 : decode (am_b mt_Mo_attribute) 119 = .ok (.iload 5, 2) := by decide +kernel
theorem d_Mo_attribute_121 : decode (am_b mt_Mo_attribute) 121 = .ok (.iconst 1, 1) := by decide +kernel
theorem d_Mo_attribute_122 : decode (am_b mt_Mo_attribute) 122 = .ok (.isub, 1) := by decide +kernel
theorem d_Mo_attribute_123 : decode (am_b mt_Mo_attribute) 123 = .ok (.iload 6, 2) := by decide +kernel
theorem d_Mo_attribute_125 : decode (am_b mt_Mo_attribute) 125 = .ok (.isub, 1) := by decide +kernel
theorem d_Mo_attribute_126 : decode (am_b mt_Mo_attribute) 126 = .ok (.invokestatic 286, 3) := by decide +kernel
theorem d_Mo_attribute_129 : decode (am_b mt_Mo_attribute) 129 = .ok (.iastore, 1) := by decide +kernel
theorem d_Mo_attribute_130 : decode (am_b mt_Mo_attribute) 130 = .ok (.iinc 6 1, 3) := by decide +kernel
theorem d_Mo_attribute_133 : decode (am_b mt_Mo_attribute) 133 = .ok (.goto (-36), 3) := by decide +kernel
theorem d_Mo_attribute_136 : decode (am_b mt_Mo_attribute) 136 = .ok (.aload_n 0, 1) := by decide +kernel
theorem d_Mo_attribute_137 : decode (am_b mt_Mo_attribute) 137 = .ok (.dup, 1) := by decide +kernel
theorem d_Mo_attribute_138 : decode (am_b mt_Mo_attribute) 138 = .ok (.getfield 212, 3) := by decide +kernel
theorem d_Mo_attribute_141 : decode (am_b mt_Mo_attribute) 141 = .ok (.iconst 1, 1) := by decide +kernel
theorem d_Mo_attribute_142 : decode (am_b mt_Mo_attribute) 142 = .ok (.iadd, 1) := by decide +kernel
theorem d_Mo_attribute_143 : decode (am_b mt_Mo_attribute) 143 = .ok (.putfield 212, 3) := by decide +kernel
theorem d_Mo_attribute_146 : decode (am_b mt_Mo_attribute) 146 = .ok (.aload_n 0, 1) := by decide +kernel
theorem d_Mo_attribute_147 : decode (am_b mt_Mo_attribute) 147 = .ok (.getfield 212, 3) := by decide +kernel
theorem d_Mo_attribute_150 : decode (am_b mt_Mo_attribute) 150 = .ok (.ireturn, 1) := by decide +kernel
theorem d_Mo_byteOf_0 : decode (am_b mt_Mo_byteOf) 0 = .ok (.lload_n 0, 1) := by decide +kernel
theorem d_Mo_byteOf_1 : decode (am_b mt_Mo_byteOf) 1 = .ok (.bipush 8, 2) := by decide +kernel
theorem d_Mo_byteOf_3 : decode (am_b mt_Mo_byteOf) 3 = .ok (.iload_n 2, 1) := by decide +kernel
theorem d_Mo_byteOf_4 : decode (am_b mt_Mo_byteOf) 4 = .ok (.imul, 1) := by decide +kernel
theorem d_Mo_byteOf_5 : decode (am_b mt_Mo_byteOf) 5 = .ok (.lshr, 1) := by decide +kernel
theorem d_Mo_byteOf_6 : decode (am_b mt_Mo_byteOf) 6 = .ok (.ldc2_w 138, 3) := by decide +kernel
theorem d_Mo_byteOf_9 : decode (am_b mt_Mo_byteOf) 9 = .ok (.land, 1) := by decide +kernel
theorem d_Mo_byteOf_10 : decode (am_b mt_Mo_byteOf) 10 = .ok (.l2i, 1) := by decide +kernel
theorem d_Mo_byteOf_11 : decode (am_b mt_Mo_byteOf) 11 = .ok (.ireturn, 1) := by decide +kernel
theorem d_Mo_put_0 : decode (am_b mt_Mo_put) 0 = .ok (.iload_n 1, 1) := by decide +kernel
theorem d_Mo_put_1 : decode (am_b mt_Mo_put) 1 = .ok (.iconst 1, 1) := by decide +kernel
theorem d_Mo_put_2 : decode (am_b mt_Mo_put) 2 = .ok (.if_icmp .lt 27, 3) := by decide +kernel
theorem d_Mo_put_5 : decode (am_b mt_Mo_put) 5 = .ok (.iload_n 1, 1) := by decide +kernel
theorem d_Mo_put_6 : decode (am_b mt_Mo_put) 6 = .ok (.aload_n 0, 1) := by decide +kernel
theorem d_Mo_put_7 : decode (am_b mt_Mo_put) 7 = .ok (.getfield 212, 3) := by decide +kernel
theorem d_Mo_put_10 : decode (am_b mt_Mo_put) 10 = .ok (.if_icmp .gt 19, 3) := by decide +kernel
theorem d_Mo_put_13 : decode (am_b mt_Mo_put) 13 = .ok (.iload 5, 2) := by decide +kernel
theorem d_Mo_put_15 : decode (am_b mt_Mo_put) 15 = .ok (.ifCond .lt 14, 3) := by decide +kernel
theorem d_Mo_put_18 : decode (am_b mt_Mo_put) 18 = .ok (.iload 5, 2) := by decide +kernel
theorem d_Mo_put_20 : decode (am_b mt_Mo_put) 20 = .ok (.bipush 8, 2) := by decide +kernel
theorem d_Mo_put_22 : decode (am_b mt_Mo_put) 22 = .ok (.if_icmp .gt 7, 3) := by decide +kernel
theorem d_Mo_put_25 : decode (am_b mt_Mo_put) 25 = .ok (.iconst 1, 1) := by decide +kernel
theorem d_Mo_put_26 : decode (am_b mt_Mo_put) 26 = .ok (.goto 4, 3) := by decide +kernel
theorem d_Mo_put_29 : decode (am_b mt_Mo_put) 29 = .ok (.iconst 0, 1) := by decide +kernel
theorem d_Mo_put_30 : decode (am_b mt_Mo_put) 30 = .ok (.istore 6, 2) := by decide +kernel
theorem d_Mo_put_32 : decode (am_b mt_Mo_put) 32 = .ok (.iload 6, 2) := by decide +kernel
theorem d_Mo_put_34 : decode (am_b mt_Mo_put) 34 = .ok (.ifCond .eq 7, 3) := by decide +kernel
theorem d_Mo_put_37 : decode (am_b mt_Mo_put) 37 = .ok (.iload_n 2, 1) := by decide +kernel
theorem d_Mo_put_38 : decode (am_b mt_Mo_put) 38 = .ok (.ifCond .eq 7, 3) := by decide +kernel
theorem d_Mo_put_41 : decode (am_b mt_Mo_put) 41 = .ok (.iconst 0, 1) := by decide +kernel
theorem d_Mo_put_42 : decode (am_b mt_Mo_put) 42 = .ok (.goto 11, 3) := by decide +kernel
theorem d_Mo_put_45 : decode (am_b mt_Mo_put) 45 = .ok (.aload_n 0, 1) := by decide +kernel
theorem d_Mo_put_46 : decode (am_b mt_Mo_put) 46 = .ok (.getfield 84, 3) := by decide +kernel
theorem d_Mo_put_49 : decode (am_b mt_Mo_put) 49 = .ok (.iload_n 1, 1) := by decide +kernel
theorem d_Mo_put_50 : decode (am_b mt_Mo_put) 50 = .ok (.iconst 1, 1) := by decide +kernel
theorem d_Mo_put_51 : decode (am_b mt_Mo_put) 51 = .ok (.isub, 1) := by decide +kernel
theorem d_Mo_put_52 : decode (am_b mt_Mo_put) 52 = .ok (.iaload, 1) := by decide +kernel
theorem d_Mo_put_53 : decode (am_b mt_Mo_put) 53 = .ok (.istore 7, 2) := by decide +kernel
theorem d_Mo_put_55 : decode (am_b mt_Mo_put) 55 = .ok (.aload_n 0, 1) := by decide +kernel
theorem d_Mo_put_56 : decode (am_b mt_Mo_put) 56 = .ok (.iload 6, 2) := by decide +kernel
theorem d_Mo_put_58 : decode (am_b mt_Mo_put) 58 = .ok (.ifCond .ne 7, 3) := by decide +kernel
theorem d_Mo_put_61 : decode (am_b mt_Mo_put) 61 = .ok (.iconst 1, 1) := by decide +kernel
theorem d_Mo_put_62 : decode (am_b mt_Mo_put) 62 = .ok (.goto 18, 3) := by decide +kernel
theorem d_Mo_put_65 : decode (am_b mt_Mo_put) 65 = .ok (.iload 7, 2) := by decide +kernel
theorem d_Mo_put_67 : decode (am_b mt_Mo_put) 67 = .ok (.iload 5, 2) := by decide +kernel
theorem d_Mo_put_69 : decode (am_b mt_Mo_put) 69 = .ok (.iadd, 1) := by decide +kernel
theorem d_Mo_put_70 : decode (am_b mt_Mo_put) 70 = .ok (.bipush 16, 2) := by decide +kernel
theorem d_Mo_put_72 : decode (am_b mt_Mo_put) 72 = .ok (.if_icmp .le 7, 3) := by decide +kernel
theorem d_Mo_put_75 : decode (am_b mt_Mo_put) 75 = .ok (.iconst 2, 1) := by decide +kernel
theorem d_Mo_put_76 : decode (am_b mt_Mo_put) 76 = .ok (.goto 4, 3) := by decide +kernel
theorem d_Mo_put_79 : decode (am_b mt_Mo_put) 79 = .ok (.iconst 0, 1) := by decide +kernel
theorem d_Mo_put_80 : decode (am_b mt_Mo_put) 80 = .ok (.putfield 135, 3) := by decide +kernel
theorem d_Mo_put_83 : decode (am_b mt_Mo_put) 83 = .ok (.aload_n 0, 1) := by decide +kernel
theorem d_Mo_put_84 : decode (am_b mt_Mo_put) 84 = .ok (.getfield 135, 3) := by decide +kernel
theorem d_Mo_put_87 : decode (am_b mt_Mo_put) 87 = .ok (.ifCond .le 5, 3) := by decide +kernel
theorem d_Mo_put_90 : decode (am_b mt_Mo_put) 90 = .ok (.iconst 0, 1) := by decide +kernel
theorem d_Mo_put_91 : decode (am_b mt_Mo_put) 91 = .ok (.ireturn, 1) := by decide +kernel
theorem d_Mo_put_92 : decode (am_b mt_Mo_put) 92 = .ok (.iconst 0, 1) := by decide +kernel
theorem d_Mo_put_93 : decode (am_b mt_Mo_put) 93 = .ok (.istore 8, 2) := by decide +kernel
theorem d_Mo_put_95 : decode (am_b mt_Mo_put) 95 = .ok (.iload 8, 2) := by decide +kernel
theorem d_Mo_put_97 : decode (am_b mt_Mo_put) 97 = .ok (.iload 5, 2) := by decide +kernel
theorem d_Mo_put_99 : decode (am_b mt_Mo_put) 99 = .ok (.if_icmp .ge 37, 3) := by decide +kernel
theorem d_Mo_put_102 : decode (am_b mt_Mo_put) 102 = .ok (.aload_n 0, 1) := by decide +kernel
theorem d_Mo_put_103 : decode (am_b mt_Mo_put) 103 = .ok (.getfield 87, 3) := by decide +kernel
theorem d_Mo_put_106 : decode (am_b mt_Mo_put) 106 = .ok (.bipush 16, 2) := by decide +kernel
theorem d_Mo_put_108 : decode (am_b mt_Mo_put) 108 = .ok (.iload_n 1, 1) := by decide +kernel
theorem d_Mo_put_109 : decode (am_b mt_Mo_put) 109 = .ok (.iconst 1, 1) := by decide +kernel
theorem d_Mo_put_110 : decode (am_b mt_Mo_put) 110 = .ok (.isub, 1) := by decide +kernel
theorem d_Mo_put_111 : decode (am_b mt_Mo_put) 111 = .ok (.imul, 1) := by decide +kernel
theorem d_Mo_put_112 : decode (am_b mt_Mo_put) 112 = .ok (.iload 7, 2) := by decide +kernel
theorem d_Mo_put_114 : decode (am_b mt_Mo_put) 114 = .ok (.iadd, 1) := by decide +kernel
theorem d_Mo_put_115 : decode (am_b mt_Mo_put) 115 = .ok (.iload 8, 2) := by decide +kernel
theorem d_Mo_put_117 : decode (am_b mt_Mo_put) 117 = .ok (.iadd, 1) := by decide +kernel
theorem d_Mo_put_118 : decode (am_b mt_Mo_put) 118 = .ok (.lload_n 3, 1) := by decide +kernel
theorem d_Mo_put_119 : decode (am_b mt_Mo_put) 119 = .ok (.iload 5, 2) := by decide +kernel
theorem d_Mo_put_121 : decode (am_b mt_Mo_put) 121 = .ok (.iconst 1, 1) := by decide +kernel
theorem d_Mo_put_122 : decode (am_b mt_Mo_put) 122 = .ok (.isub, 1) := by decide +kernel
theorem d_Mo_put_123 : decode (am_b mt_Mo_put) 123 = .ok (.iload 8, 2) := by decide +kernel
theorem d_Mo_put_125 : decode (am_b mt_Mo_put) 125 = .ok (.isub, 1) := by decide +kernel
theorem d_Mo_put_126 : decode (am_b mt_Mo_put) 126 = .ok (.invokestatic 286, 3) := by decide +kernel
theorem d_Mo_put_129 : decode (am_b mt_Mo_put) 129 = .ok (.iastore, 1) := by decide +kernel
theorem d_Mo_put_130 : decode (am_b mt_Mo_put) 130 = .ok (.iinc 8 1, 3) := by decide +kernel
theorem d_Mo_put_133 : decode (am_b mt_Mo_put) 133 = .ok (.goto (-38), 3) := by decide +kernel
theorem d_Mo_put_136 : decode (am_b mt_Mo_put) 136 = .ok (.aload_n 0, 1) := by decide +kernel
theorem d_Mo_put_137 : decode (am_b mt_Mo_put) 137 = .ok (.getfield 84, 3) := by decide +kernel
theorem d_Mo_put_140 : decode (am_b mt_Mo_put) 140 = .ok (.iload_n 1, 1) := by decide +kernel
theorem d_Mo_put_141 : decode (am_b mt_Mo_put) 141 = .ok (.iconst 1, 1) := by decide +kernel
theorem d_Mo_put_142 : decode (am_b mt_Mo_put) 142 = .ok (.isub, 1) := by decide +kernel
theorem d_Mo_put_143 : decode (am_b mt_Mo_put) 143 = .ok (.iload 7, 2) := by decide +kernel
theorem d_Mo_put_145 : decode (am_b mt_Mo_put) 145 = .ok (.iload 5, 2) := by decide +kernel
theorem d_Mo_put_147 : decode (am_b mt_Mo_put) 147 = .ok (.iadd, 1) := by decide +kernel
theorem d_Mo_put_148 : decode (am_b mt_Mo_put) 148 = .ok (.iastore, 1) := by decide +kernel
theorem d_Mo_put_149 : decode (am_b mt_Mo_put) 149 = .ok (.iload 7, 2) := by decide +kernel
theorem d_Mo_put_151 : decode (am_b mt_Mo_put) 151 = .ok (.iload 5, 2) := by decide +kernel
theorem d_Mo_put_153 : decode (am_b mt_Mo_put) 153 = .ok (.iadd, 1) := by decide +kernel
theorem d_Mo_put_154 : decode (am_b mt_Mo_put) 154 = .ok (.ireturn, 1) := by decide +kernel
theorem d_Mo_tell_0 : decode (am_b mt_Mo_tell) 0 = .ok (.aload_n 0, 1) := by decide +kernel
theorem d_Mo_tell_1 : decode (am_b mt_Mo_tell) 1 = .ok (.iload_n 1, 1) := by decide +kernel
theorem d_Mo_tell_2 : decode (am_b mt_Mo_tell) 2 = .ok (.iconst 1, 1) := by decide +kernel
theorem d_Mo_tell_3 : decode (am_b mt_Mo_tell) 3 = .ok (.if_icmp .lt 11, 3) := by decide +kernel
theorem d_Mo_tell_6 : decode (am_b mt_Mo_tell) 6 = .ok (.iload_n 1, 1) := by decide +kernel
theorem d_Mo_tell_7 : decode (am_b mt_Mo_tell) 7 = .ok (.aload_n 0, 1) := by decide +kernel
theorem d_Mo_tell_8 : decode (am_b mt_Mo_tell) 8 = .ok (.getfield 212, 3) := by decide +kernel
theorem d_Mo_tell_11 : decode (am_b mt_Mo_tell) 11 = .ok (.if_icmp .le 7, 3) := by decide +kernel
theorem d_Mo_tell_14 : decode (am_b mt_Mo_tell) 14 = .ok (.iconst 1, 1) := by decide +kernel
theorem d_Mo_tell_15 : decode (am_b mt_Mo_tell) 15 = .ok (.goto 36, 3) := by decide +kernel
theorem d_Mo_tell_18 : decode (am_b mt_Mo_tell) 18 = .ok (.aload_n 0, 1) := by decide +kernel
theorem d_Mo_tell_19 : decode (am_b mt_Mo_tell) 19 = .ok (.getfield 283, 3) := by decide +kernel
theorem d_Mo_tell_22 : decode (am_b mt_Mo_tell) 22 = .ok (.ifCond .ne 24, 3) := by decide +kernel
theorem d_Mo_tell_25 : decode (am_b mt_Mo_tell) 25 = .ok (.aload_n 0, 1) := by decide +kernel
theorem d_Mo_tell_26 : decode (am_b mt_Mo_tell) 26 = .ok (.getfield 51, 3) := by decide +kernel
theorem d_Mo_tell_29 : decode (am_b mt_Mo_tell) 29 = .ok (.iconst 1, 1) := by decide +kernel
theorem d_Mo_tell_30 : decode (am_b mt_Mo_tell) 30 = .ok (.iaload, 1) := by decide +kernel
theorem d_Mo_tell_31 : decode (am_b mt_Mo_tell) 31 = .ok (.iconst 4, 1) := by decide +kernel
theorem d_Mo_tell_32 : decode (am_b mt_Mo_tell) 32 = .ok (.if_icmp .ge 14, 3) := by decide +kernel
theorem d_Mo_tell_35 : decode (am_b mt_Mo_tell) 35 = .ok (.iload_n 2, 1) := by decide +kernel
theorem d_Mo_tell_36 : decode (am_b mt_Mo_tell) 36 = .ok (.ifCond .eq 14, 3) := by decide +kernel
theorem d_Mo_tell_39 : decode (am_b mt_Mo_tell) 39 = .ok (.aload_n 0, 1) := by decide +kernel
theorem d_Mo_tell_40 : decode (am_b mt_Mo_tell) 40 = .ok (.getfield 189, 3) := by decide +kernel
theorem d_Mo_tell_43 : decode (am_b mt_Mo_tell) 43 = .ok (.ifCond .eq 7, 3) := by decide +kernel
theorem d_Mo_tell_46 : decode (am_b mt_Mo_tell) 46 = .ok (.iconst 2, 1) := by decide +kernel
theorem d_Mo_tell_47 : decode (am_b mt_Mo_tell) 47 = .ok (.goto 4, 3) := by decide +kernel
theorem d_Mo_tell_50 : decode (am_b mt_Mo_tell) 50 = .ok (.iconst 0, 1) := by decide +kernel
theorem d_Mo_tell_51 : decode (am_b mt_Mo_tell) 51 = .ok (.putfield 135, 3) := by decide +kernel
theorem d_Mo_tell_54 : decode (am_b mt_Mo_tell) 54 = .ok (.aload_n 0, 1) := by decide +kernel
theorem d_Mo_tell_55 : decode (am_b mt_Mo_tell) 55 = .ok (.getfield 135, 3) := by decide +kernel
theorem d_Mo_tell_58 : decode (am_b mt_Mo_tell) 58 = .ok (.ifCond .le 4, 3) := by decide +kernel
theorem d_Mo_tell_61 : decode (am_b mt_Mo_tell) 61 = .ok (.return_, 1) := by decide +kernel
theorem d_Mo_tell_62 : decode (am_b mt_Mo_tell) 62 = .ok (.aload_n 0, 1) := by decide +kernel
theorem d_Mo_tell_63 : decode (am_b mt_Mo_tell) 63 = .ok (.iload_n 2, 1) := by decide +kernel
theorem d_Mo_tell_64 : decode (am_b mt_Mo_tell) 64 = .ok (.ifCond .eq 8, 3) := by decide +kernel
theorem d_Mo_tell_67 : decode (am_b mt_Mo_tell) 67 = .ok (.bipush 29, 2) := by decide +kernel
theorem d_Mo_tell_69 : decode (am_b mt_Mo_tell) 69 = .ok (.goto 5, 3) := by decide +kernel
theorem d_Mo_tell_72 : decode (am_b mt_Mo_tell) 72 = .ok (.bipush 27, 2) := by decide +kernel
theorem d_Mo_tell_74 : decode (am_b mt_Mo_tell) 74 = .ok (.invokevirtual 183, 3) := by decide +kernel
theorem d_Mo_tell_77 : decode (am_b mt_Mo_tell) 77 = .ok (.aload_n 0, 1) := by decide +kernel
theorem d_Mo_tell_78 : decode (am_b mt_Mo_tell) 78 = .ok (.iload_n 1, 1) := by decide +kernel
theorem d_Mo_tell_79 : decode (am_b mt_Mo_tell) 79 = .ok (.invokevirtual 186, 3) := by decide +kernel
theorem d_Mo_tell_82 : decode (am_b mt_Mo_tell) 82 = .ok (.iconst 0, 1) := by decide +kernel
theorem d_Mo_tell_83 : decode (am_b mt_Mo_tell) 83 = .ok (.istore_n 3, 1) := by decide +kernel
theorem d_Mo_tell_84 : decode (am_b mt_Mo_tell) 84 = .ok (.iload_n 3, 1) := by decide +kernel
theorem d_Mo_tell_85 : decode (am_b mt_Mo_tell) 85 = .ok (.aload_n 0, 1) := by decide +kernel
theorem d_Mo_tell_86 : decode (am_b mt_Mo_tell) 86 = .ok (.getfield 84, 3) := by decide +kernel
theorem d_Mo_tell_89 : decode (am_b mt_Mo_tell) 89 = .ok (.iload_n 1, 1) := by decide +kernel
theorem d_Mo_tell_90 : decode (am_b mt_Mo_tell) 90 = .ok (.iconst 1, 1) := by decide +kernel
theorem d_Mo_tell_91 : decode (am_b mt_Mo_tell) 91 = .ok (.isub, 1) := by decide +kernel
theorem d_Mo_tell_92 : decode (am_b mt_Mo_tell) 92 = .ok (.iaload, 1) := by decide +kernel
theorem d_Mo_tell_93 : decode (am_b mt_Mo_tell) 93 = .ok (.if_icmp .ge 36, 3) := by decide +kernel
theorem d_Mo_tell_96 : decode (am_b mt_Mo_tell) 96 = .ok (.iload_n 3, 1) := by decide +kernel
theorem d_Mo_tell_97 : decode (am_b mt_Mo_tell) 97 = .ok (.aload_n 0, 1) := by decide +kernel
theorem d_Mo_tell_98 : decode (am_b mt_Mo_tell) 98 = .ok (.getfield 93, 3) := by decide +kernel
theorem d_Mo_tell_101 : decode (am_b mt_Mo_tell) 101 = .ok (.iconst 2, 1) := by decide +kernel
theorem d_Mo_tell_102 : decode (am_b mt_Mo_tell) 102 = .ok (.isub, 1) := by decide +kernel
theorem d_Mo_tell_103 : decode (am_b mt_Mo_tell) 103 = .ok (.if_icmp .ge 26, 3) := by decide +kernel
theorem d_Mo_tell_106 : decode (am_b mt_Mo_tell) 106 = .ok (.aload_n 0, 1) := by decide +kernel
theorem d_Mo_tell_107 : decode (am_b mt_Mo_tell) 107 = .ok (.aload_n 0, 1) := by decide +kernel
theorem d_Mo_tell_108 : decode (am_b mt_Mo_tell) 108 = .ok (.getfield 87, 3) := by decide +kernel
theorem d_Mo_tell_111 : decode (am_b mt_Mo_tell) 111 = .ok (.bipush 16, 2) := by decide +kernel
theorem d_Mo_tell_113 : decode (am_b mt_Mo_tell) 113 = .ok (.iload_n 1, 1) := by decide +kernel
theorem d_Mo_tell_114 : decode (am_b mt_Mo_tell) 114 = .ok (.iconst 1, 1) := by decide +kernel
theorem d_Mo_tell_115 : decode (am_b mt_Mo_tell) 115 = .ok (.isub, 1) := by decide +kernel
theorem d_Mo_tell_116 : decode (am_b mt_Mo_tell) 116 = .ok (.imul, 1) := by decide +kernel
theorem d_Mo_tell_117 : decode (am_b mt_Mo_tell) 117 = .ok (.iload_n 3, 1) := by decide +kernel
theorem d_Mo_tell_118 : decode (am_b mt_Mo_tell) 118 = .ok (.iadd, 1) := by decide +kernel
theorem d_Mo_tell_119 : decode (am_b mt_Mo_tell) 119 = .ok (.iaload, 1) := by decide +kernel
theorem d_Mo_tell_120 : decode (am_b mt_Mo_tell) 120 = .ok (.invokevirtual 186, 3) := by decide +kernel
theorem d_Mo_tell_123 : decode (am_b mt_Mo_tell) 123 = .ok (.iinc 3 1, 3) := by decide +kernel
theorem d_Mo_tell_126 : decode (am_b mt_Mo_tell) 126 = .ok (.goto (-42), 3) := by decide +kernel
theorem d_Mo_tell_129 : decode (am_b mt_Mo_tell) 129 = .ok (.aload_n 0, 1) := by decide +kernel
theorem d_Mo_tell_130 : decode (am_b mt_Mo_tell) 130 = .ok (.iconst 1, 1) := by decide +kernel
theorem d_Mo_tell_131 : decode (am_b mt_Mo_tell) 131 = .ok (.invokevirtual 149, 3) := by decide +kernel
theorem d_Mo_tell_134 : decode (am_b mt_Mo_tell) 134 = .ok (.aload_n 0, 1) := by decide +kernel
theorem d_Mo_tell_135 : decode (am_b mt_Mo_tell) 135 = .ok (.aload_n 0, 1) := by decide +kernel
theorem d_Mo_tell_136 : decode (am_b mt_Mo_tell) 136 = .ok (.getfield 189, 3) := by decide +kernel
theorem d_Mo_tell_139 : decode (am_b mt_Mo_tell) 139 = .ok (.ifCond .ne 7, 3) := by decide +kernel
theorem d_Mo_tell_142 : decode (am_b mt_Mo_tell) 142 = .ok (.iload_n 2, 1) := by decide +kernel
theorem d_Mo_tell_143 : decode (am_b mt_Mo_tell) 143 = .ok (.ifCond .eq 7, 3) := by decide +kernel
theorem d_Mo_tell_146 : decode (am_b mt_Mo_tell) 146 = .ok (.iconst 1, 1) := by decide +kernel
theorem d_Mo_tell_147 : decode (am_b mt_Mo_tell) 147 = .ok (.goto 4, 3) := by decide +kernel
theorem d_Mo_tell_150 : decode (am_b mt_Mo_tell) 150 = .ok (.iconst 0, 1) := by decide +kernel
theorem d_Mo_tell_151 : decode (am_b mt_Mo_tell) 151 = .ok (.putfield 189, 3) := by decide +kernel
theorem d_Mo_tell_154 : decode (am_b mt_Mo_tell) 154 = .ok (.return_, 1) := by decide +kernel
theorem d_Mo_start_0 : decode (am_b mt_Mo_start) 0 = .ok (.aload_n 0, 1) := by decide +kernel
theorem d_Mo_start_1 : decode (am_b mt_Mo_start) 1 = .ok (.getfield 75, 3) := by decide +kernel
theorem d_Mo_start_4 : decode (am_b mt_Mo_start) 4 = .ok (.iconst 0, 1) := by decide +kernel
theorem d_Mo_start_5 : decode (am_b mt_Mo_start) 5 = .ok (.iload_n 1, 1) := by decide +kernel
theorem d_Mo_start_6 : decode (am_b mt_Mo_start) 6 = .ok (.sipush 255, 3) := by decide +kernel
theorem d_Mo_start_9 : decode (am_b mt_Mo_start) 9 = .ok (.iand, 1) := by decide +kernel
theorem d_Mo_start_10 : decode (am_b mt_Mo_start) 10 = .ok (.iastore, 1) := by decide +kernel
theorem d_Mo_start_11 : decode (am_b mt_Mo_start) 11 = .ok (.aload_n 0, 1) := by decide +kernel
theorem d_Mo_start_12 : decode (am_b mt_Mo_start) 12 = .ok (.iconst 1, 1) := by decide +kernel
theorem d_Mo_start_13 : decode (am_b mt_Mo_start) 13 = .ok (.putfield 140, 3) := by decide +kernel
theorem d_Mo_start_16 : decode (am_b mt_Mo_start) 16 = .ok (.return_, 1) := by decide +kernel
theorem d_Mo_lay_0 : decode (am_b mt_Mo_lay) 0 = .ok (.aload_n 0, 1) := by decide +kernel
theorem d_Mo_lay_1 : decode (am_b mt_Mo_lay) 1 = .ok (.getfield 75, 3) := by decide +kernel
theorem d_Mo_lay_4 : decode (am_b mt_Mo_lay) 4 = .ok (.aload_n 0, 1) := by decide +kernel
theorem d_Mo_lay_5 : decode (am_b mt_Mo_lay) 5 = .ok (.getfield 140, 3) := by decide +kernel
theorem d_Mo_lay_8 : decode (am_b mt_Mo_lay) 8 = .ok (.iload_n 1, 1) := by decide +kernel
theorem d_Mo_lay_9 : decode (am_b mt_Mo_lay) 9 = .ok (.sipush 255, 3) := by decide +kernel
theorem d_Mo_lay_12 : decode (am_b mt_Mo_lay) 12 = .ok (.iand, 1) := by decide +kernel
theorem d_Mo_lay_13 : decode (am_b mt_Mo_lay) 13 = .ok (.iastore, 1) := by decide +kernel
theorem d_Mo_lay_14 : decode (am_b mt_Mo_lay) 14 = .ok (.aload_n 0, 1) := by decide +kernel
theorem d_Mo_lay_15 : decode (am_b mt_Mo_lay) 15 = .ok (.dup, 1) := by decide +kernel
theorem d_Mo_lay_16 : decode (am_b mt_Mo_lay) 16 = .ok (.getfield 140, 3) := by decide +kernel
theorem d_Mo_lay_19 : decode (am_b mt_Mo_lay) 19 = .ok (.iconst 1, 1) := by decide +kernel
theorem d_Mo_lay_20 : decode (am_b mt_Mo_lay) 20 = .ok (.iadd, 1) := by decide +kernel
theorem d_Mo_lay_21 : decode (am_b mt_Mo_lay) 21 = .ok (.putfield 140, 3) := by decide +kernel
theorem d_Mo_lay_24 : decode (am_b mt_Mo_lay) 24 = .ok (.return_, 1) := by decide +kernel
theorem d_Mo_give_0 : decode (am_b mt_Mo_give) 0 = .ok (.aload_n 0, 1) := by decide +kernel
theorem d_Mo_give_1 : decode (am_b mt_Mo_give) 1 = .ok (.getfield 51, 3) := by decide +kernel
theorem d_Mo_give_4 : decode (am_b mt_Mo_give) 4 = .ok (.iload_n 1, 1) := by decide +kernel
theorem d_Mo_give_5 : decode (am_b mt_Mo_give) 5 = .ok (.iaload, 1) := by decide +kernel
theorem d_Mo_give_6 : decode (am_b mt_Mo_give) 6 = .ok (.bipush 8, 2) := by decide +kernel
theorem d_Mo_give_8 : decode (am_b mt_Mo_give) 8 = .ok (.if_icmp .ne 4, 3) := by decide +kernel
theorem d_Mo_give_11 : decode (am_b mt_Mo_give) 11 = .ok (.return_, 1) := by decide +kernel
theorem d_Mo_give_12 : decode (am_b mt_Mo_give) 12 = .ok (.bipush 8, 2) := by decide +kernel
theorem d_Mo_give_14 : decode (am_b mt_Mo_give) 14 = .ok (.iload_n 1, 1) := by decide +kernel
theorem d_Mo_give_15 : decode (am_b mt_Mo_give) 15 = .ok (.imul, 1) := by decide +kernel
theorem d_Mo_give_16 : decode (am_b mt_Mo_give) 16 = .ok (.aload_n 0, 1) := by decide +kernel
theorem d_Mo_give_17 : decode (am_b mt_Mo_give) 17 = .ok (.getfield 48, 3) := by decide +kernel
theorem d_Mo_give_20 : decode (am_b mt_Mo_give) 20 = .ok (.iload_n 1, 1) := by decide +kernel
theorem d_Mo_give_21 : decode (am_b mt_Mo_give) 21 = .ok (.iaload, 1) := by decide +kernel
theorem d_Mo_give_22 : decode (am_b mt_Mo_give) 22 = .ok (.aload_n 0, 1) := by decide +kernel
theorem d_Mo_give_23 : decode (am_b mt_Mo_give) 23 = .ok (.getfield 51, 3) := by decide +kernel
theorem d_Mo_give_26 : decode (am_b mt_Mo_give) 26 = .ok (.iload_n 1, 1) := by decide +kernel
theorem d_Mo_give_27 : decode (am_b mt_Mo_give) 27 = .ok (.iaload, 1) := by decide +kernel
theorem d_Mo_give_28 : decode (am_b mt_Mo_give) 28 = .ok (.iadd, 1) := by decide +kernel
theorem d_Mo_give_29 : decode (am_b mt_Mo_give) 29 = .ok (.bipush 8, 2) := by decide +kernel
theorem d_Mo_give_31 : decode (am_b mt_Mo_give) 31 = .ok (.irem, 1) := by decide +kernel
theorem d_Mo_give_32 : decode (am_b mt_Mo_give) 32 = .ok (.iadd, 1) := by decide +kernel
theorem d_Mo_give_33 : decode (am_b mt_Mo_give) 33 = .ok (.istore_n 2, 1) := by decide +kernel
theorem d_Mo_give_34 : decode (am_b mt_Mo_give) 34 = .ok (.bipush 24, 2) := by decide +kernel
theorem d_Mo_give_36 : decode (am_b mt_Mo_give) 36 = .ok (.iload_n 2, 1) := by decide +kernel
theorem d_Mo_give_37 : decode (am_b mt_Mo_give) 37 = .ok (.imul, 1) := by decide +kernel
theorem d_Mo_give_38 : decode (am_b mt_Mo_give) 38 = .ok (.istore_n 3, 1) := by decide +kernel
theorem d_Mo_give_39 : decode (am_b mt_Mo_give) 39 = .ok (.aload_n 0, 1) := by decide +kernel
theorem d_Mo_give_40 : decode (am_b mt_Mo_give) 40 = .ok (.getfield 42, 3) := by decide +kernel
theorem d_Mo_give_43 : decode (am_b mt_Mo_give) 43 = .ok (.iload_n 3, 1) := by decide +kernel
theorem d_Mo_give_44 : decode (am_b mt_Mo_give) 44 = .ok (.aload_n 0, 1) := by decide +kernel
theorem d_Mo_give_45 : decode (am_b mt_Mo_give) 45 = .ok (.getfield 140, 3) := by decide +kernel
theorem d_Mo_give_48 : decode (am_b mt_Mo_give) 48 = .ok (.iastore, 1) := by decide +kernel
theorem d_Mo_give_49 : decode (am_b mt_Mo_give) 49 = .ok (.aload_n 0, 1) := by decide +kernel
theorem d_Mo_give_50 : decode (am_b mt_Mo_give) 50 = .ok (.getfield 42, 3) := by decide +kernel
theorem d_Mo_give_53 : decode (am_b mt_Mo_give) 53 = .ok (.iload_n 3, 1) := by decide +kernel
theorem d_Mo_give_54 : decode (am_b mt_Mo_give) 54 = .ok (.iconst 1, 1) := by decide +kernel
theorem d_Mo_give_55 : decode (am_b mt_Mo_give) 55 = .ok (.iadd, 1) := by decide +kernel
theorem d_Mo_give_56 : decode (am_b mt_Mo_give) 56 = .ok (.iconst 0, 1) := by decide +kernel
theorem d_Mo_give_57 : decode (am_b mt_Mo_give) 57 = .ok (.iastore, 1) := by decide +kernel
theorem d_Mo_give_58 : decode (am_b mt_Mo_give) 58 = .ok (.aload_n 0, 1) := by decide +kernel
theorem d_Mo_give_59 : decode (am_b mt_Mo_give) 59 = .ok (.getfield 42, 3) := by decide +kernel
theorem d_Mo_give_62 : decode (am_b mt_Mo_give) 62 = .ok (.iload_n 3, 1) := by decide +kernel
theorem d_Mo_give_63 : decode (am_b mt_Mo_give) 63 = .ok (.iconst 2, 1) := by decide +kernel
theorem d_Mo_give_64 : decode (am_b mt_Mo_give) 64 = .ok (.iadd, 1) := by decide +kernel
theorem d_Mo_give_65 : decode (am_b mt_Mo_give) 65 = .ok (.iconst 4, 1) := by decide +kernel
theorem d_Mo_give_66 : decode (am_b mt_Mo_give) 66 = .ok (.iastore, 1) := by decide +kernel
theorem d_Mo_give_67 : decode (am_b mt_Mo_give) 67 = .ok (.aload_n 0, 1) := by decide +kernel
theorem d_Mo_give_68 : decode (am_b mt_Mo_give) 68 = .ok (.getfield 42, 3) := by decide +kernel
theorem d_Mo_give_71 : decode (am_b mt_Mo_give) 71 = .ok (.iload_n 3, 1) := by decide +kernel
theorem d_Mo_give_72 : decode (am_b mt_Mo_give) 72 = .ok (.iconst 3, 1) := by decide +kernel
theorem d_Mo_give_73 : decode (am_b mt_Mo_give) 73 = .ok (.iadd, 1) := by decide +kernel
theorem d_Mo_give_74 : decode (am_b mt_Mo_give) 74 = .ok (.iconst 0, 1) := by decide +kernel
theorem d_Mo_give_75 : decode (am_b mt_Mo_give) 75 = .ok (.iastore, 1) := by decide +kernel
theorem d_Mo_give_76 : decode (am_b mt_Mo_give) 76 = .ok (.iconst 0, 1) := by decide +kernel
theorem d_Mo_give_77 : decode (am_b mt_Mo_give) 77 = .ok (.istore 4, 2) := by decide +kernel
theorem d_Mo_give_79 : decode (am_b mt_Mo_give) 79 = .ok (.iload 4, 2) := by decide +kernel
theorem d_Mo_give_81 : decode (am_b mt_Mo_give) 81 = .ok (.aload_n 0, 1) := by decide +kernel
theorem d_Mo_give_82 : decode (am_b mt_Mo_give) 82 = .ok (.getfield 140, 3) := by decide +kernel
theorem d_Mo_give_85 : decode (am_b mt_Mo_give) 85 = .ok (.if_icmp .ge 27, 3) := by decide +kernel
theorem d_Mo_give_88 : decode (am_b mt_Mo_give) 88 = .ok (.aload_n 0, 1) := by decide +kernel
theorem d_Mo_give_89 : decode (am_b mt_Mo_give) 89 = .ok (.getfield 42, 3) := by decide +kernel
theorem d_Mo_give_92 : decode (am_b mt_Mo_give) 92 = .ok (.iload_n 3, 1) := by decide +kernel
theorem d_Mo_give_93 : decode (am_b mt_Mo_give) 93 = .ok (.iconst 4, 1) := by decide +kernel
theorem d_Mo_give_94 : decode (am_b mt_Mo_give) 94 = .ok (.iadd, 1) := by decide +kernel
theorem d_Mo_give_95 : decode (am_b mt_Mo_give) 95 = .ok (.iload 4, 2) := by decide +kernel
theorem d_Mo_give_97 : decode (am_b mt_Mo_give) 97 = .ok (.iadd, 1) := by decide +kernel
theorem d_Mo_give_98 : decode (am_b mt_Mo_give) 98 = .ok (.aload_n 0, 1) := by decide +kernel
theorem d_Mo_give_99 : decode (am_b mt_Mo_give) 99 = .ok (.getfield 75, 3) := by decide +kernel
theorem d_Mo_give_102 : decode (am_b mt_Mo_give) 102 = .ok (.iload 4, 2) := by decide +kernel
theorem d_Mo_give_104 : decode (am_b mt_Mo_give) 104 = .ok (.iaload, 1) := by decide +kernel
theorem d_Mo_give_105 : decode (am_b mt_Mo_give) 105 = .ok (.iastore, 1) := by decide +kernel
theorem d_Mo_give_106 : decode (am_b mt_Mo_give) 106 = .ok (.iinc 4 1, 3) := by decide +kernel
theorem d_Mo_give_109 : decode (am_b mt_Mo_give) 109 = .ok (.goto (-30), 3) := by decide +kernel
theorem d_Mo_give_112 : decode (am_b mt_Mo_give) 112 = .ok (.aload_n 0, 1) := by decide +kernel
theorem d_Mo_give_113 : decode (am_b mt_Mo_give) 113 = .ok (.getfield 45, 3) := by decide +kernel
theorem d_Mo_give_116 : decode (am_b mt_Mo_give) 116 = .ok (.iload_n 2, 1) := by decide +kernel
theorem d_Mo_give_117 : decode (am_b mt_Mo_give) 117 = .ok (.aload_n 0, 1) := by decide +kernel
theorem d_Mo_give_118 : decode (am_b mt_Mo_give) 118 = .ok (.getfield 140, 3) := by decide +kernel
theorem d_Mo_give_121 : decode (am_b mt_Mo_give) 121 = .ok (.iconst 4, 1) := by decide +kernel
theorem d_Mo_give_122 : decode (am_b mt_Mo_give) 122 = .ok (.iadd, 1) := by decide +kernel
theorem d_Mo_give_123 : decode (am_b mt_Mo_give) 123 = .ok (.iastore, 1) := by decide +kernel
theorem d_Mo_give_124 : decode (am_b mt_Mo_give) 124 = .ok (.aload_n 0, 1) := by decide +kernel
theorem d_Mo_give_125 : decode (am_b mt_Mo_give) 125 = .ok (.getfield 51, 3) := by decide +kernel
theorem d_Mo_give_128 : decode (am_b mt_Mo_give) 128 = .ok (.iload_n 1, 1) := by decide +kernel
theorem d_Mo_give_129 : decode (am_b mt_Mo_give) 129 = .ok (.dup2, 1) := by decide +kernel
theorem d_Mo_give_130 : decode (am_b mt_Mo_give) 130 = .ok (.iaload, 1) := by decide +kernel
theorem d_Mo_give_131 : decode (am_b mt_Mo_give) 131 = .ok (.iconst 1, 1) := by decide +kernel
theorem d_Mo_give_132 : decode (am_b mt_Mo_give) 132 = .ok (.iadd, 1) := by decide +kernel
theorem d_Mo_give_133 : decode (am_b mt_Mo_give) 133 = .ok (.iastore, 1) := by decide +kernel
theorem d_Mo_give_134 : decode (am_b mt_Mo_give) 134 = .ok (.return_, 1) := by decide +kernel
theorem d_Mo_begin_0 : decode (am_b mt_Mo_begin) 0 = .ok (.aload_n 0, 1) := by decide +kernel
theorem d_Mo_begin_1 : decode (am_b mt_Mo_begin) 1 = .ok (.iload_n 1, 1) := by decide +kernel
theorem d_Mo_begin_2 : decode (am_b mt_Mo_begin) 2 = .ok (.ifCond .lt 19, 3) := by decide +kernel
theorem d_Mo_begin_5 : decode (am_b mt_Mo_begin) 5 = .ok (.iload_n 1, 1) := by decide +kernel
theorem d_Mo_begin_6 : decode (am_b mt_Mo_begin) 6 = .ok (.iconst 3, 1) := by decide +kernel
theorem d_Mo_begin_7 : decode (am_b mt_Mo_begin) 7 = .ok (.if_icmp .gt 14, 3) := by decide +kernel
theorem d_Mo_begin_10 : decode (am_b mt_Mo_begin) 10 = .ok (.iload_n 2, 1) := by decide +kernel
theorem d_Mo_begin_11 : decode (am_b mt_Mo_begin) 11 = .ok (.ifCond .lt 10, 3) := by decide +kernel
theorem d_Mo_begin_14 : decode (am_b mt_Mo_begin) 14 = .ok (.iload_n 2, 1) := by decide +kernel
theorem d_Mo_begin_15 : decode (am_b mt_Mo_begin) 15 = .ok (.sipush 255, 3) := by decide +kernel
theorem d_Mo_begin_18 : decode (am_b mt_Mo_begin) 18 = .ok (.if_icmp .le 7, 3) := by decide +kernel
theorem d_Mo_begin_21 : decode (am_b mt_Mo_begin) 21 = .ok (.iconst 1, 1) := by decide +kernel
theorem d_Mo_begin_22 : decode (am_b mt_Mo_begin) 22 = .ok (.goto 15, 3) := by decide +kernel
theorem d_Mo_begin_25 : decode (am_b mt_Mo_begin) 25 = .ok (.aload_n 0, 1) := by decide +kernel
theorem d_Mo_begin_26 : decode (am_b mt_Mo_begin) 26 = .ok (.invokevirtual 290, 3) := by decide +kernel
theorem d_Mo_begin_29 : decode (am_b mt_Mo_begin) 29 = .ok (.ifCond .eq 7, 3) := by decide +kernel
theorem d_Mo_begin_32 : decode (am_b mt_Mo_begin) 32 = .ok (.iconst 0, 1) := by decide +kernel
theorem d_Mo_begin_33 : decode (am_b mt_Mo_begin) 33 = .ok (.goto 4, 3) := by decide +kernel
theorem d_Mo_begin_36 : decode (am_b mt_Mo_begin) 36 = .ok (.iconst 2, 1) := by decide +kernel
theorem d_Mo_begin_37 : decode (am_b mt_Mo_begin) 37 = .ok (.putfield 135, 3) := by decide +kernel
theorem d_Mo_begin_40 : decode (am_b mt_Mo_begin) 40 = .ok (.aload_n 0, 1) := by decide +kernel
theorem d_Mo_begin_41 : decode (am_b mt_Mo_begin) 41 = .ok (.getfield 135, 3) := by decide +kernel
theorem d_Mo_begin_44 : decode (am_b mt_Mo_begin) 44 = .ok (.ifCond .le 4, 3) := by decide +kernel
theorem d_Mo_begin_47 : decode (am_b mt_Mo_begin) 47 = .ok (.return_, 1) := by decide +kernel
theorem d_Mo_begin_48 : decode (am_b mt_Mo_begin) 48 = .ok (.aload_n 0, 1) := by decide +kernel
theorem d_Mo_begin_49 : decode (am_b mt_Mo_begin) 49 = .ok (.iload_n 1, 1) := by decide +kernel
theorem d_Mo_begin_50 : decode (am_b mt_Mo_begin) 50 = .ok (.iconst 1, 1) := by decide +kernel
theorem d_Mo_begin_51 : decode (am_b mt_Mo_begin) 51 = .ok (.iadd, 1) := by decide +kernel
theorem d_Mo_begin_52 : decode (am_b mt_Mo_begin) 52 = .ok (.iload_n 2, 1) := by decide +kernel
theorem d_Mo_begin_53 : decode (am_b mt_Mo_begin) 53 = .ok (.invokevirtual 293, 3) := by decide +kernel
theorem d_Mo_begin_56 : decode (am_b mt_Mo_begin) 56 = .ok (.aload_n 0, 1) := by decide +kernel
theorem d_Mo_begin_57 : decode (am_b mt_Mo_begin) 57 = .ok (.iload_n 1, 1) := by decide +kernel
theorem d_Mo_begin_58 : decode (am_b mt_Mo_begin) 58 = .ok (.ifCond .ne 7, 3) := by decide +kernel
theorem d_Mo_begin_61 : decode (am_b mt_Mo_begin) 61 = .ok (.iconst 2, 1) := by decide +kernel
theorem d_Mo_begin_62 : decode (am_b mt_Mo_begin) 62 = .ok (.goto 15, 3) := by decide +kernel
theorem d_Mo_begin_65 : decode (am_b mt_Mo_begin) 65 = .ok (.iload_n 1, 1) := by decide +kernel
theorem d_Mo_begin_66 : decode (am_b mt_Mo_begin) 66 = .ok (.iconst 3, 1) := by decide +kernel
theorem d_Mo_begin_67 : decode (am_b mt_Mo_begin) 67 = .ok (.if_icmp .ne 8, 3) := by decide +kernel
theorem d_Mo_begin_70 : decode (am_b mt_Mo_begin) 70 = .ok (.bipush 16, 2) := by decide +kernel
theorem d_Mo_begin_72 : decode (am_b mt_Mo_begin) 72 = .ok (.goto 5, 3) := by decide +kernel
theorem d_Mo_begin_75 : decode (am_b mt_Mo_begin) 75 = .ok (.bipush 10, 2) := by decide +kernel
theorem d_Mo_begin_77 : decode (am_b mt_Mo_begin) 77 = .ok (.invokevirtual 183, 3) := by decide +kernel
theorem d_Mo_begin_80 : decode (am_b mt_Mo_begin) 80 = .ok (.iload_n 1, 1) := by decide +kernel
theorem d_Mo_begin_81 : decode (am_b mt_Mo_begin) 81 = .ok (.iconst 3, 1) := by decide +kernel
theorem d_Mo_begin_82 : decode (am_b mt_Mo_begin) 82 = .ok (.if_icmp .ne 8, 3) := by decide +kernel
theorem d_Mo_begin_85 : decode (am_b mt_Mo_begin) 85 = .ok (.aload_n 0, 1) := by decide +kernel
theorem d_Mo_begin_86 : decode (am_b mt_Mo_begin) 86 = .ok (.iconst 1, 1) := by decide +kernel
theorem d_Mo_begin_87 : decode (am_b mt_Mo_begin) 87 = .ok (.invokevirtual 186, 3) := by decide +kernel
theorem d_Mo_begin_90 : decode (am_b mt_Mo_begin) 90 = .ok (.aload_n 0, 1) := by decide +kernel
theorem d_Mo_begin_91 : decode (am_b mt_Mo_begin) 91 = .ok (.iload_n 2, 1) := by decide +kernel
theorem d_Mo_begin_92 : decode (am_b mt_Mo_begin) 92 = .ok (.invokevirtual 186, 3) := by decide +kernel
theorem d_Mo_begin_95 : decode (am_b mt_Mo_begin) 95 = .ok (.aload_n 0, 1) := by decide +kernel
theorem d_Mo_begin_96 : decode (am_b mt_Mo_begin) 96 = .ok (.invokevirtual 268, 3) := by decide +kernel
theorem d_Mo_begin_99 : decode (am_b mt_Mo_begin) 99 = .ok (.return_, 1) := by decide +kernel
theorem d_Mo_free_0 : decode (am_b mt_Mo_free) 0 = .ok (.aload_n 0, 1) := by decide +kernel
theorem d_Mo_free_1 : decode (am_b mt_Mo_free) 1 = .ok (.getfield 283, 3) := by decide +kernel
theorem d_Mo_free_4 : decode (am_b mt_Mo_free) 4 = .ok (.ifCond .ne 23, 3) := by decide +kernel
theorem d_Mo_free_7 : decode (am_b mt_Mo_free) 7 = .ok (.aload_n 0, 1) := by decide +kernel
theorem d_Mo_free_8 : decode (am_b mt_Mo_free) 8 = .ok (.getfield 111, 3) := by decide +kernel
theorem d_Mo_free_11 : decode (am_b mt_Mo_free) 11 = .ok (.iconst 1, 1) := by decide +kernel
theorem d_Mo_free_12 : decode (am_b mt_Mo_free) 12 = .ok (.if_icmp .eq 11, 3) := by decide +kernel
theorem d_Mo_free_15 : decode (am_b mt_Mo_free) 15 = .ok (.aload_n 0, 1) := by decide +kernel
theorem d_Mo_free_16 : decode (am_b mt_Mo_free) 16 = .ok (.getfield 111, 3) := by decide +kernel
theorem d_Mo_free_19 : decode (am_b mt_Mo_free) 19 = .ok (.iconst 2, 1) := by decide +kernel
theorem d_Mo_free_20 : decode (am_b mt_Mo_free) 20 = .ok (.if_icmp .ne 7, 3) := by decide +kernel
theorem d_Mo_free_23 : decode (am_b mt_Mo_free) 23 = .ok (.iconst 1, 1) := by decide +kernel
theorem d_Mo_free_24 : decode (am_b mt_Mo_free) 24 = .ok (.goto 4, 3) := by decide +kernel
theorem d_Mo_free_27 : decode (am_b mt_Mo_free) 27 = .ok (.iconst 0, 1) := by decide +kernel
theorem d_Mo_free_28 : decode (am_b mt_Mo_free) 28 = .ok (.ireturn, 1) := by decide +kernel
theorem d_Mo_open_0 : decode (am_b mt_Mo_open) 0 = .ok (.aload_n 0, 1) := by decide +kernel
theorem d_Mo_open_1 : decode (am_b mt_Mo_open) 1 = .ok (.iload_n 1, 1) := by decide +kernel
theorem d_Mo_open_2 : decode (am_b mt_Mo_open) 2 = .ok (.putfield 235, 3) := by decide +kernel
theorem d_Mo_open_5 : decode (am_b mt_Mo_open) 5 = .ok (.aload_n 0, 1) := by decide +kernel
theorem d_Mo_open_6 : decode (am_b mt_Mo_open) 6 = .ok (.iload_n 2, 1) := by decide +kernel
theorem d_Mo_open_7 : decode (am_b mt_Mo_open) 7 = .ok (.putfield 265, 3) := by decide +kernel
theorem d_Mo_open_10 : decode (am_b mt_Mo_open) 10 = .ok (.aload_n 0, 1) := by decide +kernel
theorem d_Mo_open_11 : decode (am_b mt_Mo_open) 11 = .ok (.iconst 0, 1) := by decide +kernel
theorem d_Mo_open_12 : decode (am_b mt_Mo_open) 12 = .ok (.putfield 111, 3) := by decide +kernel
theorem d_Mo_open_15 : decode (am_b mt_Mo_open) 15 = .ok (.aload_n 0, 1) := by decide +kernel
theorem d_Mo_open_16 : decode (am_b mt_Mo_open) 16 = .ok (.iconst 0, 1) := by decide +kernel
theorem d_Mo_open_17 : decode (am_b mt_Mo_open) 17 = .ok (.putfield 241, 3) := by decide +kernel
theorem d_Mo_open_20 : decode (am_b mt_Mo_open) 20 = .ok (.aload_n 0, 1) := by decide +kernel
theorem d_Mo_open_21 : decode (am_b mt_Mo_open) 21 = .ok (.iconst 0, 1) := by decide +kernel
theorem d_Mo_open_22 : decode (am_b mt_Mo_open) 22 = .ok (.putfield 262, 3) := by decide +kernel
theorem d_Mo_open_25 : decode (am_b mt_Mo_open) 25 = .ok (.return_, 1) := by decide +kernel
theorem d_Mo_ask_0 : decode (am_b mt_Mo_ask) 0 = .ok (.aload_n 0, 1) := by decide +kernel
theorem d_Mo_ask_1 : decode (am_b mt_Mo_ask) 1 = .ok (.iconst 0, 1) := by decide +kernel
theorem d_Mo_ask_2 : decode (am_b mt_Mo_ask) 2 = .ok (.putfield 143, 3) := by decide +kernel
theorem d_Mo_ask_5 : decode (am_b mt_Mo_ask) 5 = .ok (.aload_n 0, 1) := by decide +kernel
theorem d_Mo_ask_6 : decode (am_b mt_Mo_ask) 6 = .ok (.aload_n 0, 1) := by decide +kernel
theorem d_Mo_ask_7 : decode (am_b mt_Mo_ask) 7 = .ok (.getfield 140, 3) := by decide +kernel
theorem d_Mo_ask_10 : decode (am_b mt_Mo_ask) 10 = .ok (.putfield 146, 3) := by decide +kernel
theorem d_Mo_ask_13 : decode (am_b mt_Mo_ask) 13 = .ok (.iconst 0, 1) := by decide +kernel
theorem d_Mo_ask_14 : decode (am_b mt_Mo_ask) 14 = .ok (.istore_n 1, 1) := by decide +kernel
theorem d_Mo_ask_15 : decode (am_b mt_Mo_ask) 15 = .ok (.iload_n 1, 1) := by decide +kernel
theorem d_Mo_ask_16 : decode (am_b mt_Mo_ask) 16 = .ok (.aload_n 0, 1) := by decide +kernel
theorem d_Mo_ask_17 : decode (am_b mt_Mo_ask) 17 = .ok (.getfield 140, 3) := by decide +kernel
theorem d_Mo_ask_20 : decode (am_b mt_Mo_ask) 20 = .ok (.if_icmp .ge 21, 3) := by decide +kernel
theorem d_Mo_ask_23 : decode (am_b mt_Mo_ask) 23 = .ok (.aload_n 0, 1) := by decide +kernel
theorem d_Mo_ask_24 : decode (am_b mt_Mo_ask) 24 = .ok (.getfield 114, 3) := by decide +kernel
theorem d_Mo_ask_27 : decode (am_b mt_Mo_ask) 27 = .ok (.iload_n 1, 1) := by decide +kernel
theorem d_Mo_ask_28 : decode (am_b mt_Mo_ask) 28 = .ok (.aload_n 0, 1) := by decide +kernel
theorem d_Mo_ask_29 : decode (am_b mt_Mo_ask) 29 = .ok (.getfield 75, 3) := by decide +kernel
theorem d_Mo_ask_32 : decode (am_b mt_Mo_ask) 32 = .ok (.iload_n 1, 1) := by decide +kernel
theorem d_Mo_ask_33 : decode (am_b mt_Mo_ask) 33 = .ok (.iaload, 1) := by decide +kernel
theorem d_Mo_ask_34 : decode (am_b mt_Mo_ask) 34 = .ok (.iastore, 1) := by decide +kernel
theorem d_Mo_ask_35 : decode (am_b mt_Mo_ask) 35 = .ok (.iinc 1 1, 3) := by decide +kernel
theorem d_Mo_ask_38 : decode (am_b mt_Mo_ask) 38 = .ok (.goto (-23), 3) := by decide +kernel
theorem d_Mo_ask_41 : decode (am_b mt_Mo_ask) 41 = .ok (.aload_n 0, 1) := by decide +kernel
theorem d_Mo_ask_42 : decode (am_b mt_Mo_ask) 42 = .ok (.iconst 0, 1) := by decide +kernel
theorem d_Mo_ask_43 : decode (am_b mt_Mo_ask) 43 = .ok (.invokevirtual 149, 3) := by decide +kernel
theorem d_Mo_ask_46 : decode (am_b mt_Mo_ask) 46 = .ok (.return_, 1) := by decide +kernel
theorem d_Mo_write_0 : decode (am_b mt_Mo_write) 0 = .ok (.aload_n 0, 1) := by decide +kernel
theorem d_Mo_write_1 : decode (am_b mt_Mo_write) 1 = .ok (.iload_n 1, 1) := by decide +kernel
theorem d_Mo_write_2 : decode (am_b mt_Mo_write) 2 = .ok (.ifCond .lt 38, 3) := by decide +kernel
theorem d_Mo_write_5 : decode (am_b mt_Mo_write) 5 = .ok (.iload_n 1, 1) := by decide +kernel
theorem d_Mo_write_6 : decode (am_b mt_Mo_write) 6 = .ok (.sipush 255, 3) := by decide +kernel
theorem d_Mo_write_9 : decode (am_b mt_Mo_write) 9 = .ok (.if_icmp .gt 31, 3) := by decide +kernel
theorem d_Mo_write_12 : decode (am_b mt_Mo_write) 12 = .ok (.iload 4, 2) := by decide +kernel
theorem d_Mo_write_14 : decode (am_b mt_Mo_write) 14 = .ok (.ifCond .lt 26, 3) := by decide +kernel
theorem d_Mo_write_17 : decode (am_b mt_Mo_write) 17 = .ok (.iload 4, 2) := by decide +kernel
theorem d_Mo_write_19 : decode (am_b mt_Mo_write) 19 = .ok (.bipush 8, 2) := by decide +kernel
theorem d_Mo_write_21 : decode (am_b mt_Mo_write) 21 = .ok (.if_icmp .gt 19, 3) := by decide +kernel
theorem d_Mo_write_24 : decode (am_b mt_Mo_write) 24 = .ok (.iload 5, 2) := by decide +kernel
theorem d_Mo_write_26 : decode (am_b mt_Mo_write) 26 = .ok (.ifCond .ne 18, 3) := by decide +kernel
theorem d_Mo_write_29 : decode (am_b mt_Mo_write) 29 = .ok (.iload 4, 2) := by decide +kernel
theorem d_Mo_write_31 : decode (am_b mt_Mo_write) 31 = .ok (.aload_n 0, 1) := by decide +kernel
theorem d_Mo_write_32 : decode (am_b mt_Mo_write) 32 = .ok (.getfield 108, 3) := by decide +kernel
theorem d_Mo_write_35 : decode (am_b mt_Mo_write) 35 = .ok (.iconst 2, 1) := by decide +kernel
theorem d_Mo_write_36 : decode (am_b mt_Mo_write) 36 = .ok (.isub, 1) := by decide +kernel
theorem d_Mo_write_37 : decode (am_b mt_Mo_write) 37 = .ok (.if_icmp .le 7, 3) := by decide +kernel
theorem d_Mo_write_40 : decode (am_b mt_Mo_write) 40 = .ok (.iconst 1, 1) := by decide +kernel
theorem d_Mo_write_41 : decode (am_b mt_Mo_write) 41 = .ok (.goto 15, 3) := by decide +kernel
theorem d_Mo_write_44 : decode (am_b mt_Mo_write) 44 = .ok (.aload_n 0, 1) := by decide +kernel
theorem d_Mo_write_45 : decode (am_b mt_Mo_write) 45 = .ok (.invokevirtual 290, 3) := by decide +kernel
theorem d_Mo_write_48 : decode (am_b mt_Mo_write) 48 = .ok (.ifCond .eq 7, 3) := by decide +kernel
theorem d_Mo_write_51 : decode (am_b mt_Mo_write) 51 = .ok (.iconst 0, 1) := by decide +kernel
theorem d_Mo_write_52 : decode (am_b mt_Mo_write) 52 = .ok (.goto 4, 3) := by decide +kernel
theorem d_Mo_write_55 : decode (am_b mt_Mo_write) 55 = .ok (.iconst 2, 1) := by decide +kernel
theorem d_Mo_write_56 : decode (am_b mt_Mo_write) 56 = .ok (.putfield 135, 3) := by decide +kernel
theorem d_Mo_write_59 : decode (am_b mt_Mo_write) 59 = .ok (.aload_n 0, 1) := by decide +kernel
theorem d_Mo_write_60 : decode (am_b mt_Mo_write) 60 = .ok (.getfield 135, 3) := by decide +kernel
theorem d_Mo_write_63 : decode (am_b mt_Mo_write) 63 = .ok (.ifCond .le 4, 3) := by decide +kernel
theorem d_Mo_write_66 : decode (am_b mt_Mo_write) 66 = .ok (.return_, 1) := by decide +kernel
theorem d_Mo_write_67 : decode (am_b mt_Mo_write) 67 = .ok (.aload_n 0, 1) := by decide +kernel
theorem d_Mo_write_68 : decode (am_b mt_Mo_write) 68 = .ok (.iload 5, 2) := by decide +kernel
theorem d_Mo_write_70 : decode (am_b mt_Mo_write) 70 = .ok (.ifCond .eq 8, 3) := by decide +kernel
theorem d_Mo_write_73 : decode (am_b mt_Mo_write) 73 = .ok (.bipush 6, 2) := by decide +kernel
theorem d_Mo_write_75 : decode (am_b mt_Mo_write) 75 = .ok (.goto 4, 3) := by decide +kernel
theorem d_Mo_write_78 : decode (am_b mt_Mo_write) 78 = .ok (.iconst 5, 1) := by decide +kernel
theorem d_Mo_write_79 : decode (am_b mt_Mo_write) 79 = .ok (.iload_n 1, 1) := by decide +kernel
theorem d_Mo_write_80 : decode (am_b mt_Mo_write) 80 = .ok (.invokevirtual 293, 3) := by decide +kernel
theorem d_Mo_write_83 : decode (am_b mt_Mo_write) 83 = .ok (.iload 5, 2) := by decide +kernel
theorem d_Mo_write_85 : decode (am_b mt_Mo_write) 85 = .ok (.ifCond .eq 63, 3) := by decide +kernel
theorem d_Mo_write_88 : decode (am_b mt_Mo_write) 88 = .ok (.iconst 0, 1) := by decide +kernel
theorem d_Mo_write_89 : decode (am_b mt_Mo_write) 89 = .ok (.istore 6, 2) := by decide +kernel
theorem d_Mo_write_91 : decode (am_b mt_Mo_write) 91 = .ok (.iload 6, 2) := by decide +kernel
theorem d_Mo_write_93 : decode (am_b mt_Mo_write) 93 = .ok (.iload 4, 2) := by decide +kernel
theorem d_Mo_write_95 : decode (am_b mt_Mo_write) 95 = .ok (.if_icmp .ge 27, 3) := by decide +kernel
theorem d_Mo_write_98 : decode (am_b mt_Mo_write) 98 = .ok (.aload_n 0, 1) := by decide +kernel
theorem d_Mo_write_99 : decode (am_b mt_Mo_write) 99 = .ok (.getfield 120, 3) := by decide +kernel
theorem d_Mo_write_102 : decode (am_b mt_Mo_write) 102 = .ok (.iload 6, 2) := by decide +kernel
theorem d_Mo_write_104 : decode (am_b mt_Mo_write) 104 = .ok (.lload_n 2, 1) := by decide +kernel
theorem d_Mo_write_105 : decode (am_b mt_Mo_write) 105 = .ok (.iload 4, 2) := by decide +kernel
theorem d_Mo_write_107 : decode (am_b mt_Mo_write) 107 = .ok (.iconst 1, 1) := by decide +kernel
theorem d_Mo_write_108 : decode (am_b mt_Mo_write) 108 = .ok (.isub, 1) := by decide +kernel
theorem d_Mo_write_109 : decode (am_b mt_Mo_write) 109 = .ok (.iload 6, 2) := by decide +kernel
theorem d_Mo_write_111 : decode (am_b mt_Mo_write) 111 = .ok (.isub, 1) := by decide +kernel
theorem d_Mo_write_112 : decode (am_b mt_Mo_write) 112 = .ok (.invokestatic 286, 3) := by decide +kernel
theorem d_Mo_write_115 : decode (am_b mt_Mo_write) 115 = .ok (.iastore, 1) := by decide +kernel
theorem d_Mo_write_116 : decode (am_b mt_Mo_write) 116 = .ok (.iinc 6 1, 3) := by decide +kernel
theorem d_Mo_write_119 : decode (am_b mt_Mo_write) 119 = .ok (.goto (-28), 3) := by decide +kernel
theorem d_Mo_write_122 : decode (am_b mt_Mo_write) 122 = .ok (.aload_n 0, 1) := by decide +kernel
theorem d_Mo_write_123 : decode (am_b mt_Mo_write) 123 = .ok (.iload 4, 2) := by decide +kernel
theorem d_Mo_write_125 : decode (am_b mt_Mo_write) 125 = .ok (.putfield 274, 3) := by decide +kernel
theorem d_Mo_write_128 : decode (am_b mt_Mo_write) 128 = .ok (.aload_n 0, 1) := by decide +kernel
theorem d_Mo_write_129 : decode (am_b mt_Mo_write) 129 = .ok (.iconst 0, 1) := by decide +kernel
theorem d_Mo_write_130 : decode (am_b mt_Mo_write) 130 = .ok (.putfield 271, 3) := by decide +kernel
theorem d_Mo_write_133 : decode (am_b mt_Mo_write) 133 = .ok (.aload_n 0, 1) := by decide +kernel
theorem d_Mo_write_134 : decode (am_b mt_Mo_write) 134 = .ok (.iconst 0, 1) := by decide +kernel
theorem d_Mo_write_135 : decode (am_b mt_Mo_write) 135 = .ok (.putfield 244, 3) := by decide +kernel
theorem d_Mo_write_138 : decode (am_b mt_Mo_write) 138 = .ok (.aload_n 0, 1) := by decide +kernel
theorem d_Mo_write_139 : decode (am_b mt_Mo_write) 139 = .ok (.iconst 0, 1) := by decide +kernel
theorem d_Mo_write_140 : decode (am_b mt_Mo_write) 140 = .ok (.putfield 277, 3) := by decide +kernel
theorem d_Mo_write_143 : decode (am_b mt_Mo_write) 143 = .ok (.aload_n 0, 1) := by decide +kernel
theorem d_Mo_write_144 : decode (am_b mt_Mo_write) 144 = .ok (.invokevirtual 280, 3) := by decide +kernel
theorem d_Mo_write_147 : decode (am_b mt_Mo_write) 147 = .ok (.return_, 1) := by decide +kernel
theorem d_Mo_write_148 : decode (am_b mt_Mo_write) 148 = .ok (.aload_n 0, 1) := by decide +kernel
theorem d_Mo_write_149 : decode (am_b mt_Mo_write) 149 = .ok (.bipush 18, 2) := by decide +kernel
theorem d_Mo_write_151 : decode (am_b mt_Mo_write) 151 = .ok (.invokevirtual 183, 3) := by decide +kernel
theorem d_Mo_write_154 : decode (am_b mt_Mo_write) 154 = .ok (.aload_n 0, 1) := by decide +kernel
theorem d_Mo_write_155 : decode (am_b mt_Mo_write) 155 = .ok (.iload_n 1, 1) := by decide +kernel
theorem d_Mo_write_156 : decode (am_b mt_Mo_write) 156 = .ok (.invokevirtual 186, 3) := by decide +kernel
theorem d_Mo_write_159 : decode (am_b mt_Mo_write) 159 = .ok (.iload 4, 2) := by decide +kernel
theorem d_Mo_write_161 : decode (am_b mt_Mo_write) 161 = .ok (.iconst 1, 1) := by decide +kernel
theorem d_Mo_write_162 : decode (am_b mt_Mo_write) 162 = .ok (.isub, 1) := by decide +kernel
theorem d_Mo_write_163 : decode (am_b mt_Mo_write) 163 = .ok (.istore 6, 2) := by decide +kernel
theorem d_Mo_write_165 : decode (am_b mt_Mo_write) 165 = .ok (.iload 6, 2) := by decide +kernel
theorem d_Mo_write_167 : decode (am_b mt_Mo_write) 167 = .ok (.ifCond .lt 19, 3) := by decide +kernel
theorem d_Mo_write_170 : decode (am_b mt_Mo_write) 170 = .ok (.aload_n 0, 1) := by decide +kernel
theorem d_Mo_write_171 : decode (am_b mt_Mo_write) 171 = .ok (.lload_n 2, 1) := by decide +kernel
theorem d_Mo_write_172 : decode (am_b mt_Mo_write) 172 = .ok (.iload 6, 2) := by decide +kernel
theorem d_Mo_write_174 : decode (am_b mt_Mo_write) 174 = .ok (.invokestatic 286, 3) := by decide +kernel
theorem d_Mo_write_177 : decode (am_b mt_Mo_write) 177 = .ok (.invokevirtual 186, 3) := by decide +kernel
theorem d_Mo_write_180 : decode (am_b mt_Mo_write) 180 = .ok (.iinc 6 (-1), 3) := by decide +kernel
theorem d_Mo_write_183 : decode (am_b mt_Mo_write) 183 = .ok (.goto (-18), 3) := by decide +kernel
theorem d_Mo_write_186 : decode (am_b mt_Mo_write) 186 = .ok (.aload_n 0, 1) := by decide +kernel
theorem d_Mo_write_187 : decode (am_b mt_Mo_write) 187 = .ok (.invokevirtual 268, 3) := by decide +kernel
theorem d_Mo_write_190 : decode (am_b mt_Mo_write) 190 = .ok (.return_, 1) := by decide +kernel
theorem d_Mo_writeOn_0 : decode (am_b mt_Mo_writeOn) 0 = .ok (.aload_n 0, 1) := by decide +kernel
theorem d_Mo_writeOn_1 : decode (am_b mt_Mo_writeOn) 1 = .ok (.bipush 22, 2) := by decide +kernel
theorem d_Mo_writeOn_3 : decode (am_b mt_Mo_writeOn) 3 = .ok (.invokevirtual 183, 3) := by decide +kernel
theorem d_Mo_writeOn_6 : decode (am_b mt_Mo_writeOn) 6 = .ok (.aload_n 0, 1) := by decide +kernel
theorem d_Mo_writeOn_7 : decode (am_b mt_Mo_writeOn) 7 = .ok (.aload_n 0, 1) := by decide +kernel
theorem d_Mo_writeOn_8 : decode (am_b mt_Mo_writeOn) 8 = .ok (.getfield 265, 3) := by decide +kernel
theorem d_Mo_writeOn_11 : decode (am_b mt_Mo_writeOn) 11 = .ok (.invokevirtual 186, 3) := by decide +kernel
theorem d_Mo_writeOn_14 : decode (am_b mt_Mo_writeOn) 14 = .ok (.aload_n 0, 1) := by decide +kernel
theorem d_Mo_writeOn_15 : decode (am_b mt_Mo_writeOn) 15 = .ok (.aload_n 0, 1) := by decide +kernel
theorem d_Mo_writeOn_16 : decode (am_b mt_Mo_writeOn) 16 = .ok (.getfield 271, 3) := by decide +kernel
theorem d_Mo_writeOn_19 : decode (am_b mt_Mo_writeOn) 19 = .ok (.invokevirtual 186, 3) := by decide +kernel
theorem d_Mo_writeOn_22 : decode (am_b mt_Mo_writeOn) 22 = .ok (.iconst 0, 1) := by decide +kernel
theorem d_Mo_writeOn_23 : decode (am_b mt_Mo_writeOn) 23 = .ok (.istore_n 1, 1) := by decide +kernel
theorem d_Mo_writeOn_24 : decode (am_b mt_Mo_writeOn) 24 = .ok (.iload_n 1, 1) := by decide +kernel
theorem d_Mo_writeOn_25 : decode (am_b mt_Mo_writeOn) 25 = .ok (.aload_n 0, 1) := by decide +kernel
theorem d_Mo_writeOn_26 : decode (am_b mt_Mo_writeOn) 26 = .ok (.getfield 108, 3) := by decide +kernel
theorem d_Mo_writeOn_29 : decode (am_b mt_Mo_writeOn) 29 = .ok (.iconst 3, 1) := by decide +kernel
theorem d_Mo_writeOn_30 : decode (am_b mt_Mo_writeOn) 30 = .ok (.isub, 1) := by decide +kernel
theorem d_Mo_writeOn_31 : decode (am_b mt_Mo_writeOn) 31 = .ok (.if_icmp .ge 37, 3) := by decide +kernel
theorem d_Mo_writeOn_34 : decode (am_b mt_Mo_writeOn) 34 = .ok (.aload_n 0, 1) := by decide +kernel
theorem d_Mo_writeOn_35 : decode (am_b mt_Mo_writeOn) 35 = .ok (.getfield 271, 3) := by decide +kernel
theorem d_Mo_writeOn_38 : decode (am_b mt_Mo_writeOn) 38 = .ok (.iload_n 1, 1) := by decide +kernel
theorem d_Mo_writeOn_39 : decode (am_b mt_Mo_writeOn) 39 = .ok (.iadd, 1) := by decide +kernel
theorem d_Mo_writeOn_40 : decode (am_b mt_Mo_writeOn) 40 = .ok (.aload_n 0, 1) := by decide +kernel
theorem d_Mo_writeOn_41 : decode (am_b mt_Mo_writeOn) 41 = .ok (.getfield 274, 3) := by decide +kernel
theorem d_Mo_writeOn_44 : decode (am_b mt_Mo_writeOn) 44 = .ok (.if_icmp .ge 24, 3) := by decide +kernel
theorem d_Mo_writeOn_47 : decode (am_b mt_Mo_writeOn) 47 = .ok (.aload_n 0, 1) := by decide +kernel
theorem d_Mo_writeOn_48 : decode (am_b mt_Mo_writeOn) 48 = .ok (.aload_n 0, 1) := by decide +kernel
theorem d_Mo_writeOn_49 : decode (am_b mt_Mo_writeOn) 49 = .ok (.getfield 120, 3) := by decide +kernel
theorem d_Mo_writeOn_52 : decode (am_b mt_Mo_writeOn) 52 = .ok (.aload_n 0, 1) := by decide +kernel
theorem d_Mo_writeOn_53 : decode (am_b mt_Mo_writeOn) 53 = .ok (.getfield 271, 3) := by decide +kernel
theorem d_Mo_writeOn_56 : decode (am_b mt_Mo_writeOn) 56 = .ok (.iload_n 1, 1) := by decide +kernel
theorem d_Mo_writeOn_57 : decode (am_b mt_Mo_writeOn) 57 = .ok (.iadd, 1) := by decide +kernel
theorem d_Mo_writeOn_58 : decode (am_b mt_Mo_writeOn) 58 = .ok (.iaload, 1) := by decide +kernel
theorem d_Mo_writeOn_59 : decode (am_b mt_Mo_writeOn) 59 = .ok (.invokevirtual 186, 3) := by decide +kernel
theorem d_Mo_writeOn_62 : decode (am_b mt_Mo_writeOn) 62 = .ok (.iinc 1 1, 3) := by decide +kernel
theorem d_Mo_writeOn_65 : decode (am_b mt_Mo_writeOn) 65 = .ok (.goto (-41), 3) := by decide +kernel
theorem d_Mo_writeOn_68 : decode (am_b mt_Mo_writeOn) 68 = .ok (.aload_n 0, 1) := by decide +kernel
theorem d_Mo_writeOn_69 : decode (am_b mt_Mo_writeOn) 69 = .ok (.invokevirtual 268, 3) := by decide +kernel
theorem d_Mo_writeOn_72 : decode (am_b mt_Mo_writeOn) 72 = .ok (.return_, 1) := by decide +kernel
theorem d_Mo_raw_0 : decode (am_b mt_Mo_raw) 0 = .ok (.aload_n 0, 1) := by decide +kernel
theorem d_Mo_raw_1 : decode (am_b mt_Mo_raw) 1 = .ok (.iload_n 3, 1) := by decide +kernel
theorem d_Mo_raw_2 : decode (am_b mt_Mo_raw) 2 = .ok (.iconst 1, 1) := by decide +kernel
theorem d_Mo_raw_3 : decode (am_b mt_Mo_raw) 3 = .ok (.if_icmp .lt 9, 3) := by decide +kernel
theorem d_Mo_raw_6 : decode (am_b mt_Mo_raw) 6 = .ok (.iload_n 3, 1) := by decide +kernel
theorem d_Mo_raw_7 : decode (am_b mt_Mo_raw) 7 = .ok (.bipush 8, 2) := by decide +kernel
theorem d_Mo_raw_9 : decode (am_b mt_Mo_raw) 9 = .ok (.if_icmp .le 7, 3) := by decide +kernel
theorem d_Mo_raw_12 : decode (am_b mt_Mo_raw) 12 = .ok (.iconst 1, 1) := by decide +kernel
theorem d_Mo_raw_13 : decode (am_b mt_Mo_raw) 13 = .ok (.goto 15, 3) := by decide +kernel
theorem d_Mo_raw_16 : decode (am_b mt_Mo_raw) 16 = .ok (.aload_n 0, 1) := by decide +kernel
theorem d_Mo_raw_17 : decode (am_b mt_Mo_raw) 17 = .ok (.invokevirtual 290, 3) := by decide +kernel
theorem d_Mo_raw_20 : decode (am_b mt_Mo_raw) 20 = .ok (.ifCond .eq 7, 3) := by decide +kernel
theorem d_Mo_raw_23 : decode (am_b mt_Mo_raw) 23 = .ok (.iconst 0, 1) := by decide +kernel
theorem d_Mo_raw_24 : decode (am_b mt_Mo_raw) 24 = .ok (.goto 4, 3) := by decide +kernel
theorem d_Mo_raw_27 : decode (am_b mt_Mo_raw) 27 = .ok (.iconst 2, 1) := by decide +kernel
theorem d_Mo_raw_28 : decode (am_b mt_Mo_raw) 28 = .ok (.putfield 135, 3) := by decide +kernel
theorem d_Mo_raw_31 : decode (am_b mt_Mo_raw) 31 = .ok (.aload_n 0, 1) := by decide +kernel
theorem d_Mo_raw_32 : decode (am_b mt_Mo_raw) 32 = .ok (.getfield 135, 3) := by decide +kernel
theorem d_Mo_raw_35 : decode (am_b mt_Mo_raw) 35 = .ok (.ifCond .le 4, 3) := by decide +kernel
theorem d_Mo_raw_38 : decode (am_b mt_Mo_raw) 38 = .ok (.return_, 1) := by decide +kernel
theorem d_Mo_raw_39 : decode (am_b mt_Mo_raw) 39 = .ok (.aload_n 0, 1) := by decide +kernel
theorem d_Mo_raw_40 : decode (am_b mt_Mo_raw) 40 = .ok (.bipush 7, 2) := by decide +kernel
theorem d_Mo_raw_42 : decode (am_b mt_Mo_raw) 42 = .ok (.iconst 0, 1) := by decide +kernel
theorem d_Mo_raw_43 : decode (am_b mt_Mo_raw) 43 = .ok (.invokevirtual 293, 3) := by decide +kernel
theorem d_Mo_raw_46 : decode (am_b mt_Mo_raw) 46 = .ok (.aload_n 0, 1) := by decide +kernel
theorem d_Mo_raw_47 : decode (am_b mt_Mo_raw) 47 = .ok (.iconst 0, 1) := by decide +kernel
theorem d_Mo_raw_48 : decode (am_b mt_Mo_raw) 48 = .ok (.putfield 140, 3) := by decide +kernel
theorem d_Mo_raw_51 : decode (am_b mt_Mo_raw) 51 = .ok (.iload_n 3, 1) := by decide +kernel
theorem d_Mo_raw_52 : decode (am_b mt_Mo_raw) 52 = .ok (.iconst 1, 1) := by decide +kernel
theorem d_Mo_raw_53 : decode (am_b mt_Mo_raw) 53 = .ok (.isub, 1) := by decide +kernel
theorem d_Mo_raw_54 : decode (am_b mt_Mo_raw) 54 = .ok (.istore 4, 2) := by decide +kernel
theorem d_Mo_raw_56 : decode (am_b mt_Mo_raw) 56 = .ok (.iload 4, 2) := by decide +kernel
theorem d_Mo_raw_58 : decode (am_b mt_Mo_raw) 58 = .ok (.ifCond .lt 19, 3) := by decide +kernel
theorem d_Mo_raw_61 : decode (am_b mt_Mo_raw) 61 = .ok (.aload_n 0, 1) := by decide +kernel
theorem d_Mo_raw_62 : decode (am_b mt_Mo_raw) 62 = .ok (.lload_n 1, 1) := by decide +kernel
theorem d_Mo_raw_63 : decode (am_b mt_Mo_raw) 63 = .ok (.iload 4, 2) := by decide +kernel
theorem d_Mo_raw_65 : decode (am_b mt_Mo_raw) 65 = .ok (.invokestatic 286, 3) := by decide +kernel
theorem d_Mo_raw_68 : decode (am_b mt_Mo_raw) 68 = .ok (.invokevirtual 186, 3) := by decide +kernel
theorem d_Mo_raw_71 : decode (am_b mt_Mo_raw) 71 = .ok (.iinc 4 (-1), 3) := by decide +kernel
theorem d_Mo_raw_74 : decode (am_b mt_Mo_raw) 74 = .ok (.goto (-18), 3) := by decide +kernel
theorem d_Mo_raw_77 : decode (am_b mt_Mo_raw) 77 = .ok (.aload_n 0, 1) := by decide +kernel
theorem d_Mo_raw_78 : decode (am_b mt_Mo_raw) 78 = .ok (.invokevirtual 268, 3) := by decide +kernel
theorem d_Mo_raw_81 : decode (am_b mt_Mo_raw) 81 = .ok (.return_, 1) := by decide +kernel
theorem d_Mo_event_0 : decode (am_b mt_Mo_event) 0 = .ok (.aload_n 0, 1) := by decide +kernel
theorem d_Mo_event_1 : decode (am_b mt_Mo_event) 1 = .ok (.iload_n 1, 1) := by decide +kernel
theorem d_Mo_event_2 : decode (am_b mt_Mo_event) 2 = .ok (.ifCond .lt 8, 3) := by decide +kernel
theorem d_Mo_event_5 : decode (am_b mt_Mo_event) 5 = .ok (.iload_n 1, 1) := by decide +kernel
theorem d_Mo_event_6 : decode (am_b mt_Mo_event) 6 = .ok (.iconst 3, 1) := by decide +kernel
theorem d_Mo_event_7 : decode (am_b mt_Mo_event) 7 = .ok (.if_icmp .le 7, 3) := by decide +kernel
theorem d_Mo_event_10 : decode (am_b mt_Mo_event) 10 = .ok (.iconst 1, 1) := by decide +kernel
theorem d_Mo_event_11 : decode (am_b mt_Mo_event) 11 = .ok (.goto 15, 3) := by decide +kernel
theorem d_Mo_event_14 : decode (am_b mt_Mo_event) 14 = .ok (.aload_n 0, 1) := by decide +kernel
theorem d_Mo_event_15 : decode (am_b mt_Mo_event) 15 = .ok (.getfield 283, 3) := by decide +kernel
theorem d_Mo_event_18 : decode (am_b mt_Mo_event) 18 = .ok (.ifCond .eq 7, 3) := by decide +kernel
theorem d_Mo_event_21 : decode (am_b mt_Mo_event) 21 = .ok (.iconst 2, 1) := by decide +kernel
theorem d_Mo_event_22 : decode (am_b mt_Mo_event) 22 = .ok (.goto 4, 3) := by decide +kernel
theorem d_Mo_event_25 : decode (am_b mt_Mo_event) 25 = .ok (.iconst 0, 1) := by decide +kernel
theorem d_Mo_event_26 : decode (am_b mt_Mo_event) 26 = .ok (.putfield 135, 3) := by decide +kernel
theorem d_Mo_event_29 : decode (am_b mt_Mo_event) 29 = .ok (.aload_n 0, 1) := by decide +kernel
theorem d_Mo_event_30 : decode (am_b mt_Mo_event) 30 = .ok (.getfield 135, 3) := by decide +kernel
theorem d_Mo_event_33 : decode (am_b mt_Mo_event) 33 = .ok (.ifCond .le 7, 3) := by decide +kernel
theorem d_Mo_event_36 : decode (am_b mt_Mo_event) 36 = .ok (.iconst 0, 1) := by decide +kernel
theorem d_Mo_event_37 : decode (am_b mt_Mo_event) 37 = .ok (.goto 11, 3) := by decide +kernel
theorem d_Mo_event_40 : decode (am_b mt_Mo_event) 40 = .ok (.aload_n 0, 1) := by decide +kernel
theorem d_Mo_event_41 : decode (am_b mt_Mo_event) 41 = .ok (.iload_n 1, 1) := by decide +kernel
theorem d_Mo_event_42 : decode (am_b mt_Mo_event) 42 = .ok (.lload_n 2, 1) := by decide +kernel
theorem d_Mo_event_43 : decode (am_b mt_Mo_event) 43 = .ok (.lload 4, 2) := by decide +kernel
theorem d_Mo_event_45 : decode (am_b mt_Mo_event) 45 = .ok (.invokevirtual 316, 3) := by decide +kernel
theorem d_Mo_event_48 : decode (am_b mt_Mo_event) 48 = .ok (.ireturn, 1) := by decide +kernel
theorem d_Mo_happen_0 : decode (am_b mt_Mo_happen) 0 = .ok (.aload_n 0, 1) := by decide +kernel
theorem d_Mo_happen_1 : decode (am_b mt_Mo_happen) 1 = .ok (.dup, 1) := by decide +kernel
theorem d_Mo_happen_2 : decode (am_b mt_Mo_happen) 2 = .ok (.getfield 306, 3) := by decide +kernel
theorem d_Mo_happen_5 : decode (am_b mt_Mo_happen) 5 = .ok (.iconst 1, 1) := by decide +kernel
theorem d_Mo_happen_6 : decode (am_b mt_Mo_happen) 6 = .ok (.iadd, 1) := by decide +kernel
theorem d_Mo_happen_7 : decode (am_b mt_Mo_happen) 7 = .ok (.putfield 306, 3) := by decide +kernel
theorem d_Mo_happen_10 : decode (am_b mt_Mo_happen) 10 = .ok (.aload_n 0, 1) := by decide +kernel
theorem d_Mo_happen_11 : decode (am_b mt_Mo_happen) 11 = .ok (.invokevirtual 309, 3) := by decide +kernel
theorem d_Mo_happen_14 : decode (am_b mt_Mo_happen) 14 = .ok (.aload_n 0, 1) := by decide +kernel
theorem d_Mo_happen_15 : decode (am_b mt_Mo_happen) 15 = .ok (.iconst 0, 1) := by decide +kernel
theorem d_Mo_happen_16 : decode (am_b mt_Mo_happen) 16 = .ok (.iload_n 1, 1) := by decide +kernel
theorem d_Mo_happen_17 : decode (am_b mt_Mo_happen) 17 = .ok (.iconst 1, 1) := by decide +kernel
theorem d_Mo_happen_18 : decode (am_b mt_Mo_happen) 18 = .ok (.iand, 1) := by decide +kernel
theorem d_Mo_happen_19 : decode (am_b mt_Mo_happen) 19 = .ok (.iconst 1, 1) := by decide +kernel
theorem d_Mo_happen_20 : decode (am_b mt_Mo_happen) 20 = .ok (.if_icmp .ne 7, 3) := by decide +kernel
theorem d_Mo_happen_23 : decode (am_b mt_Mo_happen) 23 = .ok (.iconst 1, 1) := by decide +kernel
theorem d_Mo_happen_24 : decode (am_b mt_Mo_happen) 24 = .ok (.goto 4, 3) := by decide +kernel
theorem d_Mo_happen_27 : decode (am_b mt_Mo_happen) 27 = .ok (.iconst 0, 1) := by decide +kernel
theorem d_Mo_happen_28 : decode (am_b mt_Mo_happen) 28 = .ok (.lload_n 2, 1) := by decide +kernel
theorem d_Mo_happen_29 : decode (am_b mt_Mo_happen) 29 = .ok (.invokevirtual 312, 3) := by decide +kernel
theorem d_Mo_happen_32 : decode (am_b mt_Mo_happen) 32 = .ok (.istore 6, 2) := by decide +kernel
theorem d_Mo_happen_34 : decode (am_b mt_Mo_happen) 34 = .ok (.iload 6, 2) := by decide +kernel
theorem d_Mo_happen_36 : decode (am_b mt_Mo_happen) 36 = .ok (.ifCond .eq 29, 3) := by decide +kernel
theorem d_Mo_happen_39 : decode (am_b mt_Mo_happen) 39 = .ok (.aload_n 0, 1) := by decide +kernel
theorem d_Mo_happen_40 : decode (am_b mt_Mo_happen) 40 = .ok (.iconst 1, 1) := by decide +kernel
theorem d_Mo_happen_41 : decode (am_b mt_Mo_happen) 41 = .ok (.iload_n 1, 1) := by decide +kernel
theorem d_Mo_happen_42 : decode (am_b mt_Mo_happen) 42 = .ok (.iconst 2, 1) := by decide +kernel
theorem d_Mo_happen_43 : decode (am_b mt_Mo_happen) 43 = .ok (.iand, 1) := by decide +kernel
theorem d_Mo_happen_44 : decode (am_b mt_Mo_happen) 44 = .ok (.iconst 2, 1) := by decide +kernel
theorem d_Mo_happen_45 : decode (am_b mt_Mo_happen) 45 = .ok (.if_icmp .ne 7, 3) := by decide +kernel
theorem d_Mo_happen_48 : decode (am_b mt_Mo_happen) 48 = .ok (.iconst 1, 1) := by decide +kernel
theorem d_Mo_happen_49 : decode (am_b mt_Mo_happen) 49 = .ok (.goto 4, 3) := by decide +kernel
theorem d_Mo_happen_52 : decode (am_b mt_Mo_happen) 52 = .ok (.iconst 0, 1) := by decide +kernel
theorem d_Mo_happen_53 : decode (am_b mt_Mo_happen) 53 = .ok (.lload 4, 2) := by decide +kernel
theorem d_Mo_happen_55 : decode (am_b mt_Mo_happen) 55 = .ok (.invokevirtual 312, 3) := by decide +kernel
theorem d_Mo_happen_58 : decode (am_b mt_Mo_happen) 58 = .ok (.ifCond .eq 7, 3) := by decide +kernel
theorem d_Mo_happen_61 : decode (am_b mt_Mo_happen) 61 = .ok (.iconst 1, 1) := by decide +kernel
theorem d_Mo_happen_62 : decode (am_b mt_Mo_happen) 62 = .ok (.goto 4, 3) := by decide +kernel
theorem d_Mo_happen_65 : decode (am_b mt_Mo_happen) 65 = .ok (.iconst 0, 1) := by decide +kernel
theorem d_Mo_happen_66 : decode (am_b mt_Mo_happen) 66 = .ok (.istore 7, 2) := by decide +kernel
theorem d_Mo_happen_68 : decode (am_b mt_Mo_happen) 68 = .ok (.aload_n 0, 1) := by decide +kernel
theorem d_Mo_happen_69 : decode (am_b mt_Mo_happen) 69 = .ok (.getfield 27, 3) := by decide +kernel
theorem d_Mo_happen_72 : decode (am_b mt_Mo_happen) 72 = .ok (.iconst 1, 1) := by decide +kernel
theorem d_Mo_happen_73 : decode (am_b mt_Mo_happen) 73 = .ok (.iload 6, 2) := by decide +kernel
theorem d_Mo_happen_75 : decode (am_b mt_Mo_happen) 75 = .ok (.ifCond .eq 7, 3) := by decide +kernel
theorem d_Mo_happen_78 : decode (am_b mt_Mo_happen) 78 = .ok (.iconst 0, 1) := by decide +kernel
theorem d_Mo_happen_79 : decode (am_b mt_Mo_happen) 79 = .ok (.goto 11, 3) := by decide +kernel
theorem d_Mo_happen_82 : decode (am_b mt_Mo_happen) 82 = .ok (.aload_n 0, 1) := by decide +kernel
theorem d_Mo_happen_83 : decode (am_b mt_Mo_happen) 83 = .ok (.getfield 27, 3) := by decide +kernel
theorem d_Mo_happen_86 : decode (am_b mt_Mo_happen) 86 = .ok (.iconst 1, 1) := by decide +kernel
theorem d_Mo_happen_87 : decode (am_b mt_Mo_happen) 87 = .ok (.iaload, 1) := by decide +kernel
theorem d_Mo_happen_88 : decode (am_b mt_Mo_happen) 88 = .ok (.iconst 1, 1) := by decide +kernel
theorem d_Mo_happen_89 : decode (am_b mt_Mo_happen) 89 = .ok (.iadd, 1) := by decide +kernel
theorem d_Mo_happen_90 : decode (am_b mt_Mo_happen) 90 = .ok (.iastore, 1) := by decide +kernel
theorem d_Mo_happen_91 : decode (am_b mt_Mo_happen) 91 = .ok (.aload_n 0, 1) := by decide +kernel
theorem d_Mo_happen_92 : decode (am_b mt_Mo_happen) 92 = .ok (.getfield 27, 3) := by decide +kernel
theorem d_Mo_happen_95 : decode (am_b mt_Mo_happen) 95 = .ok (.iconst 0, 1) := by decide +kernel
theorem d_Mo_happen_96 : decode (am_b mt_Mo_happen) 96 = .ok (.iload 7, 2) := by decide +kernel
theorem d_Mo_happen_98 : decode (am_b mt_Mo_happen) 98 = .ok (.ifCond .eq 7, 3) := by decide +kernel
theorem d_Mo_happen_101 : decode (am_b mt_Mo_happen) 101 = .ok (.iconst 0, 1) := by decide +kernel
theorem d_Mo_happen_102 : decode (am_b mt_Mo_happen) 102 = .ok (.goto 11, 3) := by decide +kernel
theorem d_Mo_happen_105 : decode (am_b mt_Mo_happen) 105 = .ok (.aload_n 0, 1) := by decide +kernel
theorem d_Mo_happen_106 : decode (am_b mt_Mo_happen) 106 = .ok (.getfield 27, 3) := by decide +kernel
theorem d_Mo_happen_109 : decode (am_b mt_Mo_happen) 109 = .ok (.iconst 0, 1) := by decide +kernel
theorem d_Mo_happen_110 : decode (am_b mt_Mo_happen) 110 = .ok (.iaload, 1) := by decide +kernel
theorem d_Mo_happen_111 : decode (am_b mt_Mo_happen) 111 = .ok (.iconst 1, 1) := by decide +kernel
theorem d_Mo_happen_112 : decode (am_b mt_Mo_happen) 112 = .ok (.iadd, 1) := by decide +kernel
theorem d_Mo_happen_113 : decode (am_b mt_Mo_happen) 113 = .ok (.iastore, 1) := by decide +kernel
theorem d_Mo_happen_114 : decode (am_b mt_Mo_happen) 114 = .ok (.aload_n 0, 1) := by decide +kernel
theorem d_Mo_happen_115 : decode (am_b mt_Mo_happen) 115 = .ok (.aload_n 0, 1) := by decide +kernel
theorem d_Mo_happen_116 : decode (am_b mt_Mo_happen) 116 = .ok (.getfield 27, 3) := by decide +kernel
theorem d_Mo_happen_119 : decode (am_b mt_Mo_happen) 119 = .ok (.iconst 0, 1) := by decide +kernel
theorem d_Mo_happen_120 : decode (am_b mt_Mo_happen) 120 = .ok (.iaload, 1) := by decide +kernel
theorem d_Mo_happen_121 : decode (am_b mt_Mo_happen) 121 = .ok (.bipush 6, 2) := by decide +kernel
theorem d_Mo_happen_123 : decode (am_b mt_Mo_happen) 123 = .ok (.if_icmp .eq 14, 3) := by decide +kernel
theorem d_Mo_happen_126 : decode (am_b mt_Mo_happen) 126 = .ok (.aload_n 0, 1) := by decide +kernel
theorem d_Mo_happen_127 : decode (am_b mt_Mo_happen) 127 = .ok (.getfield 27, 3) := by decide +kernel
theorem d_Mo_happen_130 : decode (am_b mt_Mo_happen) 130 = .ok (.iconst 1, 1) := by decide +kernel
theorem d_Mo_happen_131 : decode (am_b mt_Mo_happen) 131 = .ok (.iaload, 1) := by decide +kernel
theorem d_Mo_happen_132 : decode (am_b mt_Mo_happen) 132 = .ok (.bipush 6, 2) := by decide +kernel
theorem d_Mo_happen_134 : decode (am_b mt_Mo_happen) 134 = .ok (.if_icmp .ne 7, 3) := by decide +kernel
theorem d_Mo_happen_137 : decode (am_b mt_Mo_happen) 137 = .ok (.iconst 1, 1) := by decide +kernel
theorem d_Mo_happen_138 : decode (am_b mt_Mo_happen) 138 = .ok (.goto 4, 3) := by decide +kernel
theorem d_Mo_happen_141 : decode (am_b mt_Mo_happen) 141 = .ok (.iconst 0, 1) := by decide +kernel
theorem d_Mo_happen_142 : decode (am_b mt_Mo_happen) 142 = .ok (.putfield 283, 3) := by decide +kernel
theorem d_Mo_happen_145 : decode (am_b mt_Mo_happen) 145 = .ok (.aload_n 0, 1) := by decide +kernel
theorem d_Mo_happen_146 : decode (am_b mt_Mo_happen) 146 = .ok (.getfield 235, 3) := by decide +kernel
theorem d_Mo_happen_149 : decode (am_b mt_Mo_happen) 149 = .ok (.ifCond .le 49, 3) := by decide +kernel
theorem d_Mo_happen_152 : decode (am_b mt_Mo_happen) 152 = .ok (.aload_n 0, 1) := by decide +kernel
theorem d_Mo_happen_153 : decode (am_b mt_Mo_happen) 153 = .ok (.getfield 111, 3) := by decide +kernel
theorem d_Mo_happen_156 : decode (am_b mt_Mo_happen) 156 = .ok (.ifCond .ne 42, 3) := by decide +kernel
theorem d_Mo_happen_159 : decode (am_b mt_Mo_happen) 159 = .ok (.aload_n 0, 1) := by decide +kernel
theorem d_Mo_happen_160 : decode (am_b mt_Mo_happen) 160 = .ok (.dup, 1) := by decide +kernel
theorem d_Mo_happen_161 : decode (am_b mt_Mo_happen) 161 = .ok (.getfield 143, 3) := by decide +kernel
theorem d_Mo_happen_164 : decode (am_b mt_Mo_happen) 164 = .ok (.iconst 1, 1) := by decide +kernel
theorem d_Mo_happen_165 : decode (am_b mt_Mo_happen) 165 = .ok (.iadd, 1) := by decide +kernel
theorem d_Mo_happen_166 : decode (am_b mt_Mo_happen) 166 = .ok (.putfield 143, 3) := by decide +kernel
theorem d_Mo_happen_169 : decode (am_b mt_Mo_happen) 169 = .ok (.aload_n 0, 1) := by decide +kernel
theorem d_Mo_happen_170 : decode (am_b mt_Mo_happen) 170 = .ok (.aload_n 0, 1) := by decide +kernel
theorem d_Mo_happen_171 : decode (am_b mt_Mo_happen) 171 = .ok (.getfield 283, 3) := by decide +kernel
theorem d_Mo_happen_174 : decode (am_b mt_Mo_happen) 174 = .ok (.ifCond .eq 7, 3) := by decide +kernel
theorem d_Mo_happen_177 : decode (am_b mt_Mo_happen) 177 = .ok (.iconst 4, 1) := by decide +kernel
theorem d_Mo_happen_178 : decode (am_b mt_Mo_happen) 178 = .ok (.goto 17, 3) := by decide +kernel
theorem d_Mo_happen_181 : decode (am_b mt_Mo_happen) 181 = .ok (.aload_n 0, 1) := by decide +kernel
theorem d_Mo_happen_182 : decode (am_b mt_Mo_happen) 182 = .ok (.getfield 143, 3) := by decide +kernel
theorem d_Mo_happen_185 : decode (am_b mt_Mo_happen) 185 = .ok (.bipush 30, 2) := by decide +kernel
theorem d_Mo_happen_187 : decode (am_b mt_Mo_happen) 187 = .ok (.if_icmp .ne 7, 3) := by decide +kernel
theorem d_Mo_happen_190 : decode (am_b mt_Mo_happen) 190 = .ok (.iconst 3, 1) := by decide +kernel
theorem d_Mo_happen_191 : decode (am_b mt_Mo_happen) 191 = .ok (.goto 4, 3) := by decide +kernel
theorem d_Mo_happen_194 : decode (am_b mt_Mo_happen) 194 = .ok (.iconst 0, 1) := by decide +kernel
theorem d_Mo_happen_195 : decode (am_b mt_Mo_happen) 195 = .ok (.putfield 111, 3) := by decide +kernel
theorem d_Mo_happen_198 : decode (am_b mt_Mo_happen) 198 = .ok (.iload 6, 2) := by decide +kernel
theorem d_Mo_happen_200 : decode (am_b mt_Mo_happen) 200 = .ok (.ifCond .eq 7, 3) := by decide +kernel
theorem d_Mo_happen_203 : decode (am_b mt_Mo_happen) 203 = .ok (.iconst 1, 1) := by decide +kernel
theorem d_Mo_happen_204 : decode (am_b mt_Mo_happen) 204 = .ok (.goto 4, 3) := by decide +kernel
theorem d_Mo_happen_207 : decode (am_b mt_Mo_happen) 207 = .ok (.iconst 0, 1) := by decide +kernel
theorem d_Mo_happen_208 : decode (am_b mt_Mo_happen) 208 = .ok (.iload 7, 2) := by decide +kernel
theorem d_Mo_happen_210 : decode (am_b mt_Mo_happen) 210 = .ok (.ifCond .eq 7, 3) := by decide +kernel
theorem d_Mo_happen_213 : decode (am_b mt_Mo_happen) 213 = .ok (.iconst 2, 1) := by decide +kernel
theorem d_Mo_happen_214 : decode (am_b mt_Mo_happen) 214 = .ok (.goto 4, 3) := by decide +kernel
theorem d_Mo_happen_217 : decode (am_b mt_Mo_happen) 217 = .ok (.iconst 0, 1) := by decide +kernel
theorem d_Mo_happen_218 : decode (am_b mt_Mo_happen) 218 = .ok (.iadd, 1) := by decide +kernel
theorem d_Mo_happen_219 : decode (am_b mt_Mo_happen) 219 = .ok (.ireturn, 1) := by decide +kernel
theorem d_Mo_choose_0 : decode (am_b mt_Mo_choose) 0 = .ok (.aload_n 0, 1) := by decide +kernel
theorem d_Mo_choose_1 : decode (am_b mt_Mo_choose) 1 = .ok (.aload_n 0, 1) := by decide +kernel
theorem d_Mo_choose_2 : decode (am_b mt_Mo_choose) 2 = .ok (.getfield 296, 3) := by decide +kernel
theorem d_Mo_choose_5 : decode (am_b mt_Mo_choose) 5 = .ok (.aload_n 0, 1) := by decide +kernel
theorem d_Mo_choose_6 : decode (am_b mt_Mo_choose) 6 = .ok (.getfield 129, 3) := by decide +kernel
theorem d_Mo_choose_9 : decode (am_b mt_Mo_choose) 9 = .ok (.iadd, 1) := by decide +kernel
theorem d_Mo_choose_10 : decode (am_b mt_Mo_choose) 10 = .ok (.bipush 37, 2) := by decide +kernel
theorem d_Mo_choose_12 : decode (am_b mt_Mo_choose) 12 = .ok (.irem, 1) := by decide +kernel
theorem d_Mo_choose_13 : decode (am_b mt_Mo_choose) 13 = .ok (.putfield 296, 3) := by decide +kernel
theorem d_Mo_choose_16 : decode (am_b mt_Mo_choose) 16 = .ok (.aload_n 0, 1) := by decide +kernel
theorem d_Mo_choose_17 : decode (am_b mt_Mo_choose) 17 = .ok (.aload_n 0, 1) := by decide +kernel
theorem d_Mo_choose_18 : decode (am_b mt_Mo_choose) 18 = .ok (.getfield 296, 3) := by decide +kernel
theorem d_Mo_choose_21 : decode (am_b mt_Mo_choose) 21 = .ok (.putfield 13, 3) := by decide +kernel
theorem d_Mo_choose_24 : decode (am_b mt_Mo_choose) 24 = .ok (.aload_n 0, 1) := by decide +kernel
theorem d_Mo_choose_25 : decode (am_b mt_Mo_choose) 25 = .ok (.getfield 7, 3) := by decide +kernel
theorem d_Mo_choose_28 : decode (am_b mt_Mo_choose) 28 = .ok (.aload_n 0, 1) := by decide +kernel
theorem d_Mo_choose_29 : decode (am_b mt_Mo_choose) 29 = .ok (.getfield 296, 3) := by decide +kernel
theorem d_Mo_choose_32 : decode (am_b mt_Mo_choose) 32 = .ok (.baload, 1) := by decide +kernel
theorem d_Mo_choose_33 : decode (am_b mt_Mo_choose) 33 = .ok (.ifCond .eq 4, 3) := by decide +kernel
theorem d_Mo_choose_36 : decode (am_b mt_Mo_choose) 36 = .ok (.return_, 1) := by decide +kernel
theorem d_Mo_choose_37 : decode (am_b mt_Mo_choose) 37 = .ok (.aload_n 0, 1) := by decide +kernel
theorem d_Mo_choose_38 : decode (am_b mt_Mo_choose) 38 = .ok (.getfield 296, 3) := by decide +kernel
theorem d_Mo_choose_41 : decode (am_b mt_Mo_choose) 41 = .ok (.aload_n 0, 1) := by decide +kernel
theorem d_Mo_choose_42 : decode (am_b mt_Mo_choose) 42 = .ok (.getfield 132, 3) := by decide +kernel
theorem d_Mo_choose_45 : decode (am_b mt_Mo_choose) 45 = .ok (.irem, 1) := by decide +kernel
theorem d_Mo_choose_46 : decode (am_b mt_Mo_choose) 46 = .ok (.istore_n 1, 1) := by decide +kernel
theorem d_Mo_choose_47 : decode (am_b mt_Mo_choose) 47 = .ok (.iconst (-1), 1) := by decide +kernel
theorem d_Mo_choose_48 : decode (am_b mt_Mo_choose) 48 = .ok (.istore_n 2, 1) := by decide +kernel
theorem d_Mo_choose_49 : decode (am_b mt_Mo_choose) 49 = .ok (.iconst 0, 1) := by decide +kernel
theorem d_Mo_choose_50 : decode (am_b mt_Mo_choose) 50 = .ok (.istore_n 3, 1) := by decide +kernel
theorem d_Mo_choose_51 : decode (am_b mt_Mo_choose) 51 = .ok (.iload_n 3, 1) := by decide +kernel
theorem d_Mo_choose_52 : decode (am_b mt_Mo_choose) 52 = .ok (.bipush 37, 2) := by decide +kernel
theorem d_Mo_choose_54 : decode (am_b mt_Mo_choose) 54 = .ok (.if_icmp .ge 45, 3) := by decide +kernel
theorem d_Mo_choose_57 : decode (am_b mt_Mo_choose) 57 = .ok (.aload_n 0, 1) := by decide +kernel
theorem d_Mo_choose_58 : decode (am_b mt_Mo_choose) 58 = .ok (.getfield 7, 3) := by decide +kernel
theorem d_Mo_choose_61 : decode (am_b mt_Mo_choose) 61 = .ok (.iload_n 3, 1) := by decide +kernel
theorem d_Mo_choose_62 : decode (am_b mt_Mo_choose) 62 = .ok (.baload, 1) := by decide +kernel
theorem d_Mo_choose_63 : decode (am_b mt_Mo_choose) 63 = .ok (.ifCond .eq 13, 3) := by decide +kernel
theorem d_Mo_choose_66 : decode (am_b mt_Mo_choose) 66 = .ok (.iload_n 1, 1) := by decide +kernel
theorem d_Mo_choose_67 : decode (am_b mt_Mo_choose) 67 = .ok (.ifCond .ne 9, 3) := by decide +kernel
theorem d_Mo_choose_70 : decode (am_b mt_Mo_choose) 70 = .ok (.iload_n 2, 1) := by decide +kernel
theorem d_Mo_choose_71 : decode (am_b mt_Mo_choose) 71 = .ok (.ifCond .ge 5, 3) := by decide +kernel
theorem d_Mo_choose_74 : decode (am_b mt_Mo_choose) 74 = .ok (.iload_n 3, 1) := by decide +kernel
theorem d_Mo_choose_75 : decode (am_b mt_Mo_choose) 75 = .ok (.istore_n 2, 1) := by decide +kernel
theorem d_Mo_choose_76 : decode (am_b mt_Mo_choose) 76 = .ok (.aload_n 0, 1) := by decide +kernel
theorem d_Mo_choose_77 : decode (am_b mt_Mo_choose) 77 = .ok (.getfield 7, 3) := by decide +kernel
theorem d_Mo_choose_80 : decode (am_b mt_Mo_choose) 80 = .ok (.iload_n 3, 1) := by decide +kernel
theorem d_Mo_choose_81 : decode (am_b mt_Mo_choose) 81 = .ok (.baload, 1) := by decide +kernel
theorem d_Mo_choose_82 : decode (am_b mt_Mo_choose) 82 = .ok (.ifCond .eq 9, 3) := by decide +kernel
theorem d_Mo_choose_85 : decode (am_b mt_Mo_choose) 85 = .ok (.iload_n 1, 1) := by decide +kernel
theorem d_Mo_choose_86 : decode (am_b mt_Mo_choose) 86 = .ok (.iconst 1, 1) := by decide +kernel
theorem d_Mo_choose_87 : decode (am_b mt_Mo_choose) 87 = .ok (.isub, 1) := by decide +kernel
theorem d_Mo_choose_88 : decode (am_b mt_Mo_choose) 88 = .ok (.goto 4, 3) := by decide +kernel
theorem d_Mo_choose_91 : decode (am_b mt_Mo_choose) 91 = .ok (.iload_n 1, 1) := by decide +kernel
theorem d_Mo_choose_92 : decode (am_b mt_Mo_choose) 92 = .ok (.istore_n 1, 1) := by decide +kernel
theorem d_Mo_choose_93 : decode (am_b mt_Mo_choose) 93 = .ok (.iinc 3 1, 3) := by decide +kernel
theorem d_Mo_choose_96 : decode (am_b mt_Mo_choose) 96 = .ok (.goto (-45), 3) := by decide +kernel
theorem d_Mo_choose_99 : decode (am_b mt_Mo_choose) 99 = .ok (.aload_n 0, 1) := by decide +kernel
theorem d_Mo_choose_100 : decode (am_b mt_Mo_choose) 100 = .ok (.iload_n 2, 1) := by decide +kernel
theorem d_Mo_choose_101 : decode (am_b mt_Mo_choose) 101 = .ok (.putfield 13, 3) := by decide +kernel
theorem d_Mo_choose_104 : decode (am_b mt_Mo_choose) 104 = .ok (.return_, 1) := by decide +kernel
theorem d_Mo_carry_0 : decode (am_b mt_Mo_carry) 0 = .ok (.aload_n 0, 1) := by decide +kernel
theorem d_Mo_carry_1 : decode (am_b mt_Mo_carry) 1 = .ok (.iload_n 1, 1) := by decide +kernel
theorem d_Mo_carry_2 : decode (am_b mt_Mo_carry) 2 = .ok (.invokevirtual 299, 3) := by decide +kernel
theorem d_Mo_carry_5 : decode (am_b mt_Mo_carry) 5 = .ok (.iconst 0, 1) := by decide +kernel
theorem d_Mo_carry_6 : decode (am_b mt_Mo_carry) 6 = .ok (.istore 5, 2) := by decide +kernel
theorem d_Mo_carry_8 : decode (am_b mt_Mo_carry) 8 = .ok (.iload 5, 2) := by decide +kernel
theorem d_Mo_carry_10 : decode (am_b mt_Mo_carry) 10 = .ok (.bipush 8, 2) := by decide +kernel
theorem d_Mo_carry_12 : decode (am_b mt_Mo_carry) 12 = .ok (.if_icmp .ge 42, 3) := by decide +kernel
theorem d_Mo_carry_15 : decode (am_b mt_Mo_carry) 15 = .ok (.iload 5, 2) := by decide +kernel
theorem d_Mo_carry_17 : decode (am_b mt_Mo_carry) 17 = .ok (.aload_n 0, 1) := by decide +kernel
theorem d_Mo_carry_18 : decode (am_b mt_Mo_carry) 18 = .ok (.getfield 156, 3) := by decide +kernel
theorem d_Mo_carry_21 : decode (am_b mt_Mo_carry) 21 = .ok (.if_icmp .ge 33, 3) := by decide +kernel
theorem d_Mo_carry_24 : decode (am_b mt_Mo_carry) 24 = .ok (.aload_n 0, 1) := by decide +kernel
theorem d_Mo_carry_25 : decode (am_b mt_Mo_carry) 25 = .ok (.getfield 17, 3) := by decide +kernel
theorem d_Mo_carry_28 : decode (am_b mt_Mo_carry) 28 = .ok (.iload 5, 2) := by decide +kernel
theorem d_Mo_carry_30 : decode (am_b mt_Mo_carry) 30 = .ok (.aload_n 0, 1) := by decide +kernel
theorem d_Mo_carry_31 : decode (am_b mt_Mo_carry) 31 = .ok (.getfield 17, 3) := by decide +kernel
theorem d_Mo_carry_34 : decode (am_b mt_Mo_carry) 34 = .ok (.iload 5, 2) := by decide +kernel
theorem d_Mo_carry_36 : decode (am_b mt_Mo_carry) 36 = .ok (.iaload, 1) := by decide +kernel
theorem d_Mo_carry_37 : decode (am_b mt_Mo_carry) 37 = .ok (.lload_n 3, 1) := by decide +kernel
theorem d_Mo_carry_38 : decode (am_b mt_Mo_carry) 38 = .ok (.bipush 7, 2) := by decide +kernel
theorem d_Mo_carry_40 : decode (am_b mt_Mo_carry) 40 = .ok (.iload 5, 2) := by decide +kernel
theorem d_Mo_carry_42 : decode (am_b mt_Mo_carry) 42 = .ok (.isub, 1) := by decide +kernel
theorem d_Mo_carry_43 : decode (am_b mt_Mo_carry) 43 = .ok (.invokestatic 286, 3) := by decide +kernel
theorem d_Mo_carry_46 : decode (am_b mt_Mo_carry) 46 = .ok (.ixor, 1) := by decide +kernel
theorem d_Mo_carry_47 : decode (am_b mt_Mo_carry) 47 = .ok (.iastore, 1) := by decide +kernel
theorem d_Mo_carry_48 : decode (am_b mt_Mo_carry) 48 = .ok (.iinc 5 1, 3) := by decide +kernel
theorem d_Mo_carry_51 : decode (am_b mt_Mo_carry) 51 = .ok (.goto (-43), 3) := by decide +kernel
theorem d_Mo_carry_54 : decode (am_b mt_Mo_carry) 54 = .ok (.iload_n 2, 1) := by decide +kernel
theorem d_Mo_carry_55 : decode (am_b mt_Mo_carry) 55 = .ok (.ifCond .ne 17, 3) := by decide +kernel
theorem d_Mo_carry_58 : decode (am_b mt_Mo_carry) 58 = .ok (.aload_n 0, 1) := by decide +kernel
theorem d_Mo_carry_59 : decode (am_b mt_Mo_carry) 59 = .ok (.iconst 1, 1) := by decide +kernel
theorem d_Mo_carry_60 : decode (am_b mt_Mo_carry) 60 = .ok (.iload_n 1, 1) := by decide +kernel
theorem d_Mo_carry_61 : decode (am_b mt_Mo_carry) 61 = .ok (.isub, 1) := by decide +kernel
theorem d_Mo_carry_62 : decode (am_b mt_Mo_carry) 62 = .ok (.invokevirtual 302, 3) := by decide +kernel
theorem d_Mo_carry_65 : decode (am_b mt_Mo_carry) 65 = .ok (.ifCond .eq 7, 3) := by decide +kernel
theorem d_Mo_carry_68 : decode (am_b mt_Mo_carry) 68 = .ok (.iconst 1, 1) := by decide +kernel
theorem d_Mo_carry_69 : decode (am_b mt_Mo_carry) 69 = .ok (.goto 4, 3) := by decide +kernel
theorem d_Mo_carry_72 : decode (am_b mt_Mo_carry) 72 = .ok (.iconst 0, 1) := by decide +kernel
theorem d_Mo_carry_73 : decode (am_b mt_Mo_carry) 73 = .ok (.ireturn, 1) := by decide +kernel
theorem d_Mo_send_0 : decode (am_b mt_Mo_send) 0 = .ok (.aload_n 0, 1) := by decide +kernel
theorem d_Mo_send_1 : decode (am_b mt_Mo_send) 1 = .ok (.iload_n 1, 1) := by decide +kernel
theorem d_Mo_send_2 : decode (am_b mt_Mo_send) 2 = .ok (.invokevirtual 159, 3) := by decide +kernel
theorem d_Mo_send_5 : decode (am_b mt_Mo_send) 5 = .ok (.aload_n 0, 1) := by decide +kernel
theorem d_Mo_send_6 : decode (am_b mt_Mo_send) 6 = .ok (.getfield 36, 3) := by decide +kernel
theorem d_Mo_send_9 : decode (am_b mt_Mo_send) 9 = .ok (.iload_n 1, 1) := by decide +kernel
theorem d_Mo_send_10 : decode (am_b mt_Mo_send) 10 = .ok (.iaload, 1) := by decide +kernel
theorem d_Mo_send_11 : decode (am_b mt_Mo_send) 11 = .ok (.istore_n 2, 1) := by decide +kernel
theorem d_Mo_send_12 : decode (am_b mt_Mo_send) 12 = .ok (.aload_n 0, 1) := by decide +kernel
theorem d_Mo_send_13 : decode (am_b mt_Mo_send) 13 = .ok (.getfield 17, 3) := by decide +kernel
theorem d_Mo_send_16 : decode (am_b mt_Mo_send) 16 = .ok (.iconst 0, 1) := by decide +kernel
theorem d_Mo_send_17 : decode (am_b mt_Mo_send) 17 = .ok (.aload_n 0, 1) := by decide +kernel
theorem d_Mo_send_18 : decode (am_b mt_Mo_send) 18 = .ok (.getfield 33, 3) := by decide +kernel
theorem d_Mo_send_21 : decode (am_b mt_Mo_send) 21 = .ok (.iload_n 1, 1) := by decide +kernel
theorem d_Mo_send_22 : decode (am_b mt_Mo_send) 22 = .ok (.iaload, 1) := by decide +kernel
theorem d_Mo_send_23 : decode (am_b mt_Mo_send) 23 = .ok (.iconst 4, 1) := by decide +kernel
theorem d_Mo_send_24 : decode (am_b mt_Mo_send) 24 = .ok (.aload_n 0, 1) := by decide +kernel
theorem d_Mo_send_25 : decode (am_b mt_Mo_send) 25 = .ok (.getfield 24, 3) := by decide +kernel
theorem d_Mo_send_28 : decode (am_b mt_Mo_send) 28 = .ok (.iload_n 1, 1) := by decide +kernel
theorem d_Mo_send_29 : decode (am_b mt_Mo_send) 29 = .ok (.iaload, 1) := by decide +kernel
theorem d_Mo_send_30 : decode (am_b mt_Mo_send) 30 = .ok (.imul, 1) := by decide +kernel
theorem d_Mo_send_31 : decode (am_b mt_Mo_send) 31 = .ok (.iadd, 1) := by decide +kernel
theorem d_Mo_send_32 : decode (am_b mt_Mo_send) 32 = .ok (.bipush 8, 2) := by decide +kernel
theorem d_Mo_send_34 : decode (am_b mt_Mo_send) 34 = .ok (.aload_n 0, 1) := by decide +kernel
theorem d_Mo_send_35 : decode (am_b mt_Mo_send) 35 = .ok (.getfield 21, 3) := by decide +kernel
theorem d_Mo_send_38 : decode (am_b mt_Mo_send) 38 = .ok (.iload_n 1, 1) := by decide +kernel
theorem d_Mo_send_39 : decode (am_b mt_Mo_send) 39 = .ok (.iaload, 1) := by decide +kernel
theorem d_Mo_send_40 : decode (am_b mt_Mo_send) 40 = .ok (.imul, 1) := by decide +kernel
theorem d_Mo_send_41 : decode (am_b mt_Mo_send) 41 = .ok (.iadd, 1) := by decide +kernel
theorem d_Mo_send_42 : decode (am_b mt_Mo_send) 42 = .ok (.iastore, 1) := by decide +kernel
theorem d_Mo_send_43 : decode (am_b mt_Mo_send) 43 = .ok (.aload_n 0, 1) := by decide +kernel
theorem d_Mo_send_44 : decode (am_b mt_Mo_send) 44 = .ok (.getfield 17, 3) := by decide +kernel
theorem d_Mo_send_47 : decode (am_b mt_Mo_send) 47 = .ok (.iconst 1, 1) := by decide +kernel
theorem d_Mo_send_48 : decode (am_b mt_Mo_send) 48 = .ok (.iload_n 2, 1) := by decide +kernel
theorem d_Mo_send_49 : decode (am_b mt_Mo_send) 49 = .ok (.iastore, 1) := by decide +kernel
theorem d_Mo_send_50 : decode (am_b mt_Mo_send) 50 = .ok (.iconst 0, 1) := by decide +kernel
theorem d_Mo_send_51 : decode (am_b mt_Mo_send) 51 = .ok (.istore_n 3, 1) := by decide +kernel
theorem d_Mo_send_52 : decode (am_b mt_Mo_send) 52 = .ok (.iload_n 3, 1) := by decide +kernel
theorem d_Mo_send_53 : decode (am_b mt_Mo_send) 53 = .ok (.iload_n 2, 1) := by decide +kernel
theorem d_Mo_send_54 : decode (am_b mt_Mo_send) 54 = .ok (.if_icmp .ge 28, 3) := by decide +kernel
theorem d_Mo_send_57 : decode (am_b mt_Mo_send) 57 = .ok (.aload_n 0, 1) := by decide +kernel
theorem d_Mo_send_58 : decode (am_b mt_Mo_send) 58 = .ok (.getfield 17, 3) := by decide +kernel
theorem d_Mo_send_61 : decode (am_b mt_Mo_send) 61 = .ok (.iconst 2, 1) := by decide +kernel
theorem d_Mo_send_62 : decode (am_b mt_Mo_send) 62 = .ok (.iload_n 3, 1) := by decide +kernel
theorem d_Mo_send_63 : decode (am_b mt_Mo_send) 63 = .ok (.iadd, 1) := by decide +kernel
theorem d_Mo_send_64 : decode (am_b mt_Mo_send) 64 = .ok (.aload_n 0, 1) := by decide +kernel
theorem d_Mo_send_65 : decode (am_b mt_Mo_send) 65 = .ok (.getfield 39, 3) := by decide +kernel
theorem d_Mo_send_68 : decode (am_b mt_Mo_send) 68 = .ok (.bipush 8, 2) := by decide +kernel
theorem d_Mo_send_70 : decode (am_b mt_Mo_send) 70 = .ok (.iload_n 1, 1) := by decide +kernel
theorem d_Mo_send_71 : decode (am_b mt_Mo_send) 71 = .ok (.imul, 1) := by decide +kernel
theorem d_Mo_send_72 : decode (am_b mt_Mo_send) 72 = .ok (.iload_n 3, 1) := by decide +kernel
theorem d_Mo_send_73 : decode (am_b mt_Mo_send) 73 = .ok (.iadd, 1) := by decide +kernel
theorem d_Mo_send_74 : decode (am_b mt_Mo_send) 74 = .ok (.iaload, 1) := by decide +kernel
theorem d_Mo_send_75 : decode (am_b mt_Mo_send) 75 = .ok (.iastore, 1) := by decide +kernel
theorem d_Mo_send_76 : decode (am_b mt_Mo_send) 76 = .ok (.iinc 3 1, 3) := by decide +kernel
theorem d_Mo_send_79 : decode (am_b mt_Mo_send) 79 = .ok (.goto (-27), 3) := by decide +kernel
theorem d_Mo_send_82 : decode (am_b mt_Mo_send) 82 = .ok (.aload_n 0, 1) := by decide +kernel
theorem d_Mo_send_83 : decode (am_b mt_Mo_send) 83 = .ok (.iconst 2, 1) := by decide +kernel
theorem d_Mo_send_84 : decode (am_b mt_Mo_send) 84 = .ok (.iload_n 2, 1) := by decide +kernel
theorem d_Mo_send_85 : decode (am_b mt_Mo_send) 85 = .ok (.iadd, 1) := by decide +kernel
theorem d_Mo_send_86 : decode (am_b mt_Mo_send) 86 = .ok (.invokevirtual 162, 3) := by decide +kernel
theorem d_Mo_send_89 : decode (am_b mt_Mo_send) 89 = .ok (.istore_n 3, 1) := by decide +kernel
theorem d_Mo_send_90 : decode (am_b mt_Mo_send) 90 = .ok (.aload_n 0, 1) := by decide +kernel
theorem d_Mo_send_91 : decode (am_b mt_Mo_send) 91 = .ok (.getfield 17, 3) := by decide +kernel
theorem d_Mo_send_94 : decode (am_b mt_Mo_send) 94 = .ok (.iconst 2, 1) := by decide +kernel
theorem d_Mo_send_95 : decode (am_b mt_Mo_send) 95 = .ok (.iload_n 2, 1) := by decide +kernel
theorem d_Mo_send_96 : decode (am_b mt_Mo_send) 96 = .ok (.iadd, 1) := by decide +kernel
theorem d_Mo_send_97 : decode (am_b mt_Mo_send) 97 = .ok (.iload_n 3, 1) := by decide +kernel
theorem d_Mo_send_98 : decode (am_b mt_Mo_send) 98 = .ok (.bipush 16, 2) := by decide +kernel
theorem d_Mo_send_100 : decode (am_b mt_Mo_send) 100 = .ok (.ishr, 1) := by decide +kernel
theorem d_Mo_send_101 : decode (am_b mt_Mo_send) 101 = .ok (.iastore, 1) := by decide +kernel
theorem d_Mo_send_102 : decode (am_b mt_Mo_send) 102 = .ok (.aload_n 0, 1) := by decide +kernel
theorem d_Mo_send_103 : decode (am_b mt_Mo_send) 103 = .ok (.getfield 17, 3) := by decide +kernel
theorem d_Mo_send_106 : decode (am_b mt_Mo_send) 106 = .ok (.iconst 3, 1) := by decide +kernel
theorem d_Mo_send_107 : decode (am_b mt_Mo_send) 107 = .ok (.iload_n 2, 1) := by decide +kernel
theorem d_Mo_send_108 : decode (am_b mt_Mo_send) 108 = .ok (.iadd, 1) := by decide +kernel
theorem d_Mo_send_109 : decode (am_b mt_Mo_send) 109 = .ok (.iload_n 3, 1) := by decide +kernel
theorem d_Mo_send_110 : decode (am_b mt_Mo_send) 110 = .ok (.bipush 8, 2) := by decide +kernel
theorem d_Mo_send_112 : decode (am_b mt_Mo_send) 112 = .ok (.ishr, 1) := by decide +kernel
theorem d_Mo_send_113 : decode (am_b mt_Mo_send) 113 = .ok (.sipush 255, 3) := by decide +kernel
theorem d_Mo_send_116 : decode (am_b mt_Mo_send) 116 = .ok (.iand, 1) := by decide +kernel
theorem d_Mo_send_117 : decode (am_b mt_Mo_send) 117 = .ok (.iastore, 1) := by decide +kernel
theorem d_Mo_send_118 : decode (am_b mt_Mo_send) 118 = .ok (.aload_n 0, 1) := by decide +kernel
theorem d_Mo_send_119 : decode (am_b mt_Mo_send) 119 = .ok (.getfield 17, 3) := by decide +kernel
theorem d_Mo_send_122 : decode (am_b mt_Mo_send) 122 = .ok (.iconst 4, 1) := by decide +kernel
theorem d_Mo_send_123 : decode (am_b mt_Mo_send) 123 = .ok (.iload_n 2, 1) := by decide +kernel
theorem d_Mo_send_124 : decode (am_b mt_Mo_send) 124 = .ok (.iadd, 1) := by decide +kernel
theorem d_Mo_send_125 : decode (am_b mt_Mo_send) 125 = .ok (.iload_n 3, 1) := by decide +kernel
theorem d_Mo_send_126 : decode (am_b mt_Mo_send) 126 = .ok (.sipush 255, 3) := by decide +kernel
theorem d_Mo_send_129 : decode (am_b mt_Mo_send) 129 = .ok (.iand, 1) := by decide +kernel
theorem d_Mo_send_130 : decode (am_b mt_Mo_send) 130 = .ok (.iastore, 1) := by decide +kernel
theorem d_Mo_send_131 : decode (am_b mt_Mo_send) 131 = .ok (.aload_n 0, 1) := by decide +kernel
theorem d_Mo_send_132 : decode (am_b mt_Mo_send) 132 = .ok (.iconst 5, 1) := by decide +kernel
theorem d_Mo_send_133 : decode (am_b mt_Mo_send) 133 = .ok (.iload_n 2, 1) := by decide +kernel
theorem d_Mo_send_134 : decode (am_b mt_Mo_send) 134 = .ok (.iadd, 1) := by decide +kernel
theorem d_Mo_send_135 : decode (am_b mt_Mo_send) 135 = .ok (.putfield 156, 3) := by decide +kernel
theorem d_Mo_send_138 : decode (am_b mt_Mo_send) 138 = .ok (.aload_n 0, 1) := by decide +kernel
theorem d_Mo_send_139 : decode (am_b mt_Mo_send) 139 = .ok (.invokevirtual 166, 3) := by decide +kernel
theorem d_Mo_send_142 : decode (am_b mt_Mo_send) 142 = .ok (.aload_n 0, 1) := by decide +kernel
theorem d_Mo_send_143 : decode (am_b mt_Mo_send) 143 = .ok (.getfield 69, 3) := by decide +kernel
theorem d_Mo_send_146 : decode (am_b mt_Mo_send) 146 = .ok (.iload_n 1, 1) := by decide +kernel
theorem d_Mo_send_147 : decode (am_b mt_Mo_send) 147 = .ok (.aload_n 0, 1) := by decide +kernel
theorem d_Mo_send_148 : decode (am_b mt_Mo_send) 148 = .ok (.getfield 156, 3) := by decide +kernel
theorem d_Mo_send_151 : decode (am_b mt_Mo_send) 151 = .ok (.iastore, 1) := by decide +kernel
theorem d_Mo_send_152 : decode (am_b mt_Mo_send) 152 = .ok (.iconst 0, 1) := by decide +kernel
theorem d_Mo_send_153 : decode (am_b mt_Mo_send) 153 = .ok (.istore 4, 2) := by decide +kernel
theorem d_Mo_send_155 : decode (am_b mt_Mo_send) 155 = .ok (.iload 4, 2) := by decide +kernel
theorem d_Mo_send_157 : decode (am_b mt_Mo_send) 157 = .ok (.aload_n 0, 1) := by decide +kernel
theorem d_Mo_send_158 : decode (am_b mt_Mo_send) 158 = .ok (.getfield 156, 3) := by decide +kernel
theorem d_Mo_send_161 : decode (am_b mt_Mo_send) 161 = .ok (.if_icmp .ge 28, 3) := by decide +kernel
theorem d_Mo_send_164 : decode (am_b mt_Mo_send) 164 = .ok (.aload_n 0, 1) := by decide +kernel
theorem d_Mo_send_165 : decode (am_b mt_Mo_send) 165 = .ok (.getfield 66, 3) := by decide +kernel
theorem d_Mo_send_168 : decode (am_b mt_Mo_send) 168 = .ok (.bipush 16, 2) := by decide +kernel
theorem d_Mo_send_170 : decode (am_b mt_Mo_send) 170 = .ok (.iload_n 1, 1) := by decide +kernel
theorem d_Mo_send_171 : decode (am_b mt_Mo_send) 171 = .ok (.imul, 1) := by decide +kernel
theorem d_Mo_send_172 : decode (am_b mt_Mo_send) 172 = .ok (.iload 4, 2) := by decide +kernel
theorem d_Mo_send_174 : decode (am_b mt_Mo_send) 174 = .ok (.iadd, 1) := by decide +kernel
theorem d_Mo_send_175 : decode (am_b mt_Mo_send) 175 = .ok (.aload_n 0, 1) := by decide +kernel
theorem d_Mo_send_176 : decode (am_b mt_Mo_send) 176 = .ok (.getfield 17, 3) := by decide +kernel
theorem d_Mo_send_179 : decode (am_b mt_Mo_send) 179 = .ok (.iload 4, 2) := by decide +kernel
theorem d_Mo_send_181 : decode (am_b mt_Mo_send) 181 = .ok (.iaload, 1) := by decide +kernel
theorem d_Mo_send_182 : decode (am_b mt_Mo_send) 182 = .ok (.iastore, 1) := by decide +kernel
theorem d_Mo_send_183 : decode (am_b mt_Mo_send) 183 = .ok (.iinc 4 1, 3) := by decide +kernel
theorem d_Mo_send_186 : decode (am_b mt_Mo_send) 186 = .ok (.goto (-31), 3) := by decide +kernel
theorem d_Mo_send_189 : decode (am_b mt_Mo_send) 189 = .ok (.return_, 1) := by decide +kernel
theorem d_Mo_take_0 : decode (am_b mt_Mo_take) 0 = .ok (.aload_n 0, 1) := by decide +kernel
theorem d_Mo_take_1 : decode (am_b mt_Mo_take) 1 = .ok (.getfield 30, 3) := by decide +kernel
theorem d_Mo_take_4 : decode (am_b mt_Mo_take) 4 = .ok (.iload_n 1, 1) := by decide +kernel
theorem d_Mo_take_5 : decode (am_b mt_Mo_take) 5 = .ok (.baload, 1) := by decide +kernel
theorem d_Mo_take_6 : decode (am_b mt_Mo_take) 6 = .ok (.ifCond .eq 4, 3) := by decide +kernel
theorem d_Mo_take_9 : decode (am_b mt_Mo_take) 9 = .ok (.return_, 1) := by decide +kernel
theorem d_Mo_take_10 : decode (am_b mt_Mo_take) 10 = .ok (.aload_n 0, 1) := by decide +kernel
theorem d_Mo_take_11 : decode (am_b mt_Mo_take) 11 = .ok (.getfield 30, 3) := by decide +kernel
theorem d_Mo_take_14 : decode (am_b mt_Mo_take) 14 = .ok (.iload_n 1, 1) := by decide +kernel
theorem d_Mo_take_15 : decode (am_b mt_Mo_take) 15 = .ok (.iconst 1, 1) := by decide +kernel
theorem d_Mo_take_16 : decode (am_b mt_Mo_take) 16 = .ok (.bastore, 1) := by decide +kernel
theorem d_Mo_take_17 : decode (am_b mt_Mo_take) 17 = .ok (.aload_n 0, 1) := by decide +kernel
theorem d_Mo_take_18 : decode (am_b mt_Mo_take) 18 = .ok (.getfield 36, 3) := by decide +kernel
theorem d_Mo_take_21 : decode (am_b mt_Mo_take) 21 = .ok (.iload_n 1, 1) := by decide +kernel
theorem d_Mo_take_22 : decode (am_b mt_Mo_take) 22 = .ok (.iconst 0, 1) := by decide +kernel
theorem d_Mo_take_23 : decode (am_b mt_Mo_take) 23 = .ok (.iastore, 1) := by decide +kernel
