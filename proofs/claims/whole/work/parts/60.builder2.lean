/-! The builder: texts and numbers put behind; its length and letters -/
theorem d_AB_append_I_0 : decode M_AB_append_I.2.1 0 = .ok (.aload_n 0, 1) := by decide +kernel
theorem d_AB_append_I_1 : decode M_AB_append_I.2.1 1 = .ok (.getfield 79, 3) := by decide +kernel
theorem d_AB_append_I_4 : decode M_AB_append_I.2.1 4 = .ok (.istore_n 2, 1) := by decide +kernel
theorem d_AB_append_I_5 : decode M_AB_append_I.2.1 5 = .ok (.iload_n 2, 1) := by decide +kernel
theorem d_AB_append_I_6 : decode M_AB_append_I.2.1 6 = .ok (.iload_n 1, 1) := by decide +kernel
theorem d_AB_append_I_7 : decode M_AB_append_I.2.1 7 = .ok (.invokestatic 245, 3) := by decide +kernel
theorem d_AB_append_I_10 : decode M_AB_append_I.2.1 10 = .ok (.iadd, 1) := by decide +kernel
theorem d_AB_append_I_11 : decode M_AB_append_I.2.1 11 = .ok (.istore_n 3, 1) := by decide +kernel
theorem d_AB_append_I_12 : decode M_AB_append_I.2.1 12 = .ok (.aload_n 0, 1) := by decide +kernel
theorem d_AB_append_I_13 : decode M_AB_append_I.2.1 13 = .ok (.iload_n 3, 1) := by decide +kernel
theorem d_AB_append_I_14 : decode M_AB_append_I.2.1 14 = .ok (.invokevirtual 100, 3) := by decide +kernel
theorem d_AB_append_I_17 : decode M_AB_append_I.2.1 17 = .ok (.aload_n 0, 1) := by decide +kernel
theorem d_AB_append_I_18 : decode M_AB_append_I.2.1 18 = .ok (.invokevirtual 83, 3) := by decide +kernel
theorem d_AB_append_I_21 : decode M_AB_append_I.2.1 21 = .ok (.ifCond .eq 16, 3) := by decide +kernel
theorem d_AB_append_I_24 : decode M_AB_append_I.2.1 24 = .ok (.iload_n 1, 1) := by decide +kernel
theorem d_AB_append_I_25 : decode M_AB_append_I.2.1 25 = .ok (.iload_n 3, 1) := by decide +kernel
theorem d_AB_append_I_26 : decode M_AB_append_I.2.1 26 = .ok (.aload_n 0, 1) := by decide +kernel
theorem d_AB_append_I_27 : decode M_AB_append_I.2.1 27 = .ok (.getfield 15, 3) := by decide +kernel
theorem d_AB_append_I_30 : decode M_AB_append_I.2.1 30 = .ok (.invokestatic 248, 3) := by decide +kernel
theorem d_AB_append_I_33 : decode M_AB_append_I.2.1 33 = .ok (.pop, 1) := by decide +kernel
theorem d_AB_append_I_34 : decode M_AB_append_I.2.1 34 = .ok (.goto 14, 3) := by decide +kernel
theorem d_AB_append_I_37 : decode M_AB_append_I.2.1 37 = .ok (.iload_n 1, 1) := by decide +kernel
theorem d_AB_append_I_38 : decode M_AB_append_I.2.1 38 = .ok (.iload_n 2, 1) := by decide +kernel
theorem d_AB_append_I_39 : decode M_AB_append_I.2.1 39 = .ok (.iload_n 3, 1) := by decide +kernel
theorem d_AB_append_I_40 : decode M_AB_append_I.2.1 40 = .ok (.aload_n 0, 1) := by decide +kernel
theorem d_AB_append_I_41 : decode M_AB_append_I.2.1 41 = .ok (.getfield 15, 3) := by decide +kernel
theorem d_AB_append_I_44 : decode M_AB_append_I.2.1 44 = .ok (.invokestatic 251, 3) := by decide +kernel
theorem d_AB_append_I_47 : decode M_AB_append_I.2.1 47 = .ok (.pop, 1) := by decide +kernel
theorem d_AB_append_I_48 : decode M_AB_append_I.2.1 48 = .ok (.aload_n 0, 1) := by decide +kernel
theorem d_AB_append_I_49 : decode M_AB_append_I.2.1 49 = .ok (.iload_n 3, 1) := by decide +kernel
theorem d_AB_append_I_50 : decode M_AB_append_I.2.1 50 = .ok (.putfield 79, 3) := by decide +kernel
theorem d_AB_append_I_53 : decode M_AB_append_I.2.1 53 = .ok (.aload_n 0, 1) := by decide +kernel
theorem d_AB_append_I_54 : decode M_AB_append_I.2.1 54 = .ok (.areturn, 1) := by decide +kernel
theorem d_AB_append_LString_0 : decode M_AB_append_LString.2.1 0 = .ok (.aload_n 1, 1) := by decide +kernel
theorem d_AB_append_LString_1 : decode M_AB_append_LString.2.1 1 = .ok (.ifnonnull 8, 3) := by decide +kernel
theorem d_AB_append_LString_4 : decode M_AB_append_LString.2.1 4 = .ok (.aload_n 0, 1) := by decide +kernel
theorem d_AB_append_LString_5 : decode M_AB_append_LString.2.1 5 = .ok (.invokevirtual 204, 3) := by decide +kernel
theorem d_AB_append_LString_8 : decode M_AB_append_LString.2.1 8 = .ok (.areturn, 1) := by decide +kernel
theorem d_AB_append_LString_9 : decode M_AB_append_LString.2.1 9 = .ok (.aload_n 1, 1) := by decide +kernel
theorem d_AB_append_LString_10 : decode M_AB_append_LString.2.1 10 = .ok (.invokevirtual 32, 3) := by decide +kernel
theorem d_AB_append_LString_13 : decode M_AB_append_LString.2.1 13 = .ok (.istore_n 2, 1) := by decide +kernel
theorem d_AB_append_LString_14 : decode M_AB_append_LString.2.1 14 = .ok (.aload_n 0, 1) := by decide +kernel
theorem d_AB_append_LString_15 : decode M_AB_append_LString.2.1 15 = .ok (.aload_n 0, 1) := by decide +kernel
theorem d_AB_append_LString_16 : decode M_AB_append_LString.2.1 16 = .ok (.getfield 79, 3) := by decide +kernel
theorem d_AB_append_LString_19 : decode M_AB_append_LString.2.1 19 = .ok (.iload_n 2, 1) := by decide +kernel
theorem d_AB_append_LString_20 : decode M_AB_append_LString.2.1 20 = .ok (.iadd, 1) := by decide +kernel
theorem d_AB_append_LString_21 : decode M_AB_append_LString.2.1 21 = .ok (.invokevirtual 100, 3) := by decide +kernel
theorem d_AB_append_LString_24 : decode M_AB_append_LString.2.1 24 = .ok (.aload_n 0, 1) := by decide +kernel
theorem d_AB_append_LString_25 : decode M_AB_append_LString.2.1 25 = .ok (.aload_n 0, 1) := by decide +kernel
theorem d_AB_append_LString_26 : decode M_AB_append_LString.2.1 26 = .ok (.getfield 79, 3) := by decide +kernel
theorem d_AB_append_LString_29 : decode M_AB_append_LString.2.1 29 = .ok (.aload_n 1, 1) := by decide +kernel
theorem d_AB_append_LString_30 : decode M_AB_append_LString.2.1 30 = .ok (.invokevirtual 208, 3) := by decide +kernel
theorem d_AB_append_LString_33 : decode M_AB_append_LString.2.1 33 = .ok (.aload_n 0, 1) := by decide +kernel
theorem d_AB_append_LString_34 : decode M_AB_append_LString.2.1 34 = .ok (.dup, 1) := by decide +kernel
theorem d_AB_append_LString_35 : decode M_AB_append_LString.2.1 35 = .ok (.getfield 79, 3) := by decide +kernel
theorem d_AB_append_LString_38 : decode M_AB_append_LString.2.1 38 = .ok (.iload_n 2, 1) := by decide +kernel
theorem d_AB_append_LString_39 : decode M_AB_append_LString.2.1 39 = .ok (.iadd, 1) := by decide +kernel
theorem d_AB_append_LString_40 : decode M_AB_append_LString.2.1 40 = .ok (.putfield 79, 3) := by decide +kernel
theorem d_AB_append_LString_43 : decode M_AB_append_LString.2.1 43 = .ok (.aload_n 0, 1) := by decide +kernel
theorem d_AB_append_LString_44 : decode M_AB_append_LString.2.1 44 = .ok (.areturn, 1) := by decide +kernel
theorem d_AB_charAt_0 : decode M_AB_charAt.2.1 0 = .ok (.aload_n 0, 1) := by decide +kernel
theorem d_AB_charAt_1 : decode M_AB_charAt.2.1 1 = .ok (.getfield 22, 3) := by decide +kernel
theorem d_AB_charAt_4 : decode M_AB_charAt.2.1 4 = .ok (.istore_n 2, 1) := by decide +kernel
theorem d_AB_charAt_5 : decode M_AB_charAt.2.1 5 = .ok (.aload_n 0, 1) := by decide +kernel
theorem d_AB_charAt_6 : decode M_AB_charAt.2.1 6 = .ok (.getfield 15, 3) := by decide +kernel
theorem d_AB_charAt_9 : decode M_AB_charAt.2.1 9 = .ok (.astore_n 3, 1) := by decide +kernel
theorem d_AB_charAt_10 : decode M_AB_charAt.2.1 10 = .ok (.aload_n 0, 1) := by decide +kernel
theorem d_AB_charAt_11 : decode M_AB_charAt.2.1 11 = .ok (.getfield 79, 3) := by decide +kernel
theorem d_AB_charAt_14 : decode M_AB_charAt.2.1 14 = .ok (.aload_n 3, 1) := by decide +kernel
theorem d_AB_charAt_15 : decode M_AB_charAt.2.1 15 = .ok (.arraylength, 1) := by decide +kernel
theorem d_AB_charAt_16 : decode M_AB_charAt.2.1 16 = .ok (.iload_n 2, 1) := by decide +kernel
theorem d_AB_charAt_17 : decode M_AB_charAt.2.1 17 = .ok (.ishr, 1) := by decide +kernel
theorem d_AB_charAt_18 : decode M_AB_charAt.2.1 18 = .ok (.invokestatic 138, 3) := by decide +kernel
theorem d_AB_charAt_21 : decode M_AB_charAt.2.1 21 = .ok (.istore 4, 2) := by decide +kernel
theorem d_AB_charAt_23 : decode M_AB_charAt.2.1 23 = .ok (.iload_n 1, 1) := by decide +kernel
theorem d_AB_charAt_24 : decode M_AB_charAt.2.1 24 = .ok (.iload 4, 2) := by decide +kernel
theorem d_AB_charAt_26 : decode M_AB_charAt.2.1 26 = .ok (.invokestatic 144, 3) := by decide +kernel
theorem d_AB_charAt_29 : decode M_AB_charAt.2.1 29 = .ok (.iload_n 2, 1) := by decide +kernel
theorem d_AB_charAt_30 : decode M_AB_charAt.2.1 30 = .ok (.ifCond .ne 12, 3) := by decide +kernel
theorem d_AB_charAt_33 : decode M_AB_charAt.2.1 33 = .ok (.aload_n 3, 1) := by decide +kernel
theorem d_AB_charAt_34 : decode M_AB_charAt.2.1 34 = .ok (.iload_n 1, 1) := by decide +kernel
theorem d_AB_charAt_35 : decode M_AB_charAt.2.1 35 = .ok (.baload, 1) := by decide +kernel
theorem d_AB_charAt_36 : decode M_AB_charAt.2.1 36 = .ok (.sipush 255, 3) := by decide +kernel
theorem d_AB_charAt_39 : decode M_AB_charAt.2.1 39 = .ok (.iand, 1) := by decide +kernel
theorem d_AB_charAt_40 : decode M_AB_charAt.2.1 40 = .ok (.i2c, 1) := by decide +kernel
theorem d_AB_charAt_41 : decode M_AB_charAt.2.1 41 = .ok (.ireturn, 1) := by decide +kernel
theorem d_AB_charAt_42 : decode M_AB_charAt.2.1 42 = .ok (.aload_n 3, 1) := by decide +kernel
theorem d_AB_charAt_43 : decode M_AB_charAt.2.1 43 = .ok (.iload_n 1, 1) := by decide +kernel
theorem d_AB_charAt_44 : decode M_AB_charAt.2.1 44 = .ok (.invokestatic 148, 3) := by decide +kernel
theorem d_AB_charAt_47 : decode M_AB_charAt.2.1 47 = .ok (.ireturn, 1) := by decide +kernel
theorem d_AB_inflateIfNeededFor_0 : decode M_AB_inflateIfNeededFor.2.1 0 = .ok (.getstatic 18, 3) := by decide +kernel
theorem d_AB_inflateIfNeededFor_3 : decode M_AB_inflateIfNeededFor.2.1 3 = .ok (.ifCond .eq 18, 3) := by decide +kernel
theorem d_AB_inflateIfNeededFor_6 : decode M_AB_inflateIfNeededFor.2.1 6 = .ok (.aload_n 0, 1) := by decide +kernel
theorem d_AB_inflateIfNeededFor_7 : decode M_AB_inflateIfNeededFor.2.1 7 = .ok (.getfield 22, 3) := by decide +kernel
theorem d_AB_inflateIfNeededFor_10 : decode M_AB_inflateIfNeededFor.2.1 10 = .ok (.aload_n 1, 1) := by decide +kernel
theorem d_AB_inflateIfNeededFor_11 : decode M_AB_inflateIfNeededFor.2.1 11 = .ok (.invokevirtual 40, 3) := by decide +kernel
theorem d_AB_inflateIfNeededFor_14 : decode M_AB_inflateIfNeededFor.2.1 14 = .ok (.if_icmp .eq 7, 3) := by decide +kernel
theorem d_AB_inflateIfNeededFor_17 : decode M_AB_inflateIfNeededFor.2.1 17 = .ok (.aload_n 0, 1) := by decide +kernel
theorem d_AB_inflateIfNeededFor_18 : decode M_AB_inflateIfNeededFor.2.1 18 = .ok (.invokevirtual 195, 3) := by decide +kernel
theorem d_AB_inflateIfNeededFor_21 : decode M_AB_inflateIfNeededFor.2.1 21 = .ok (.return_, 1) := by decide +kernel
theorem d_AB_length_0 : decode M_AB_length.2.1 0 = .ok (.aload_n 0, 1) := by decide +kernel
theorem d_AB_length_1 : decode M_AB_length.2.1 1 = .ok (.getfield 79, 3) := by decide +kernel
theorem d_AB_length_4 : decode M_AB_length.2.1 4 = .ok (.ireturn, 1) := by decide +kernel
theorem d_AB_putStringAt_0 : decode M_AB_putStringAt.2.1 0 = .ok (.aload_n 0, 1) := by decide +kernel
theorem d_AB_putStringAt_1 : decode M_AB_putStringAt.2.1 1 = .ok (.aload_n 2, 1) := by decide +kernel
theorem d_AB_putStringAt_2 : decode M_AB_putStringAt.2.1 2 = .ok (.invokevirtual 397, 3) := by decide +kernel
theorem d_AB_putStringAt_5 : decode M_AB_putStringAt.2.1 5 = .ok (.aload_n 2, 1) := by decide +kernel
theorem d_AB_putStringAt_6 : decode M_AB_putStringAt.2.1 6 = .ok (.aload_n 0, 1) := by decide +kernel
theorem d_AB_putStringAt_7 : decode M_AB_putStringAt.2.1 7 = .ok (.getfield 15, 3) := by decide +kernel
theorem d_AB_putStringAt_10 : decode M_AB_putStringAt.2.1 10 = .ok (.iload_n 1, 1) := by decide +kernel
theorem d_AB_putStringAt_11 : decode M_AB_putStringAt.2.1 11 = .ok (.aload_n 0, 1) := by decide +kernel
theorem d_AB_putStringAt_12 : decode M_AB_putStringAt.2.1 12 = .ok (.getfield 22, 3) := by decide +kernel
theorem d_AB_putStringAt_15 : decode M_AB_putStringAt.2.1 15 = .ok (.invokevirtual 399, 3) := by decide +kernel
theorem d_AB_putStringAt_18 : decode M_AB_putStringAt.2.1 18 = .ok (.return_, 1) := by decide +kernel
theorem d_AB_setLength_0 : decode M_AB_setLength.2.1 0 = .ok (.iload_n 1, 1) := by decide +kernel
theorem d_AB_setLength_1 : decode M_AB_setLength.2.1 1 = .ok (.ifCond .ge 12, 3) := by decide +kernel
theorem d_AB_setLength_4 : decode M_AB_setLength.2.1 4 = .ok (.new 129, 3) := by decide +kernel
theorem d_AB_setLength_7 : decode M_AB_setLength.2.1 7 = .ok (.dup, 1) := by decide +kernel
theorem d_AB_setLength_8 : decode M_AB_setLength.2.1 8 = .ok (.iload_n 1, 1) := by decide +kernel
theorem d_AB_setLength_9 : decode M_AB_setLength.2.1 9 = .ok (.invokespecial 131, 3) := by decide +kernel
theorem d_AB_setLength_12 : decode M_AB_setLength.2.1 12 = .ok (.athrow, 1) := by decide +kernel
theorem d_AB_setLength_13 : decode M_AB_setLength.2.1 13 = .ok (.aload_n 0, 1) := by decide +kernel
theorem d_AB_setLength_14 : decode M_AB_setLength.2.1 14 = .ok (.iload_n 1, 1) := by decide +kernel
theorem d_AB_setLength_15 : decode M_AB_setLength.2.1 15 = .ok (.invokevirtual 100, 3) := by decide +kernel
theorem d_AB_setLength_18 : decode M_AB_setLength.2.1 18 = .ok (.aload_n 0, 1) := by decide +kernel
theorem d_AB_setLength_19 : decode M_AB_setLength.2.1 19 = .ok (.getfield 79, 3) := by decide +kernel
theorem d_AB_setLength_22 : decode M_AB_setLength.2.1 22 = .ok (.iload_n 1, 1) := by decide +kernel
theorem d_AB_setLength_23 : decode M_AB_setLength.2.1 23 = .ok (.if_icmp .ge 40, 3) := by decide +kernel
theorem d_AB_setLength_26 : decode M_AB_setLength.2.1 26 = .ok (.aload_n 0, 1) := by decide +kernel
theorem d_AB_setLength_27 : decode M_AB_setLength.2.1 27 = .ok (.invokevirtual 83, 3) := by decide +kernel
theorem d_AB_setLength_30 : decode M_AB_setLength.2.1 30 = .ok (.ifCond .eq 18, 3) := by decide +kernel
theorem d_AB_setLength_33 : decode M_AB_setLength.2.1 33 = .ok (.aload_n 0, 1) := by decide +kernel
theorem d_AB_setLength_34 : decode M_AB_setLength.2.1 34 = .ok (.getfield 15, 3) := by decide +kernel
theorem d_AB_setLength_37 : decode M_AB_setLength.2.1 37 = .ok (.aload_n 0, 1) := by decide +kernel
theorem d_AB_setLength_38 : decode M_AB_setLength.2.1 38 = .ok (.getfield 79, 3) := by decide +kernel
theorem d_AB_setLength_41 : decode M_AB_setLength.2.1 41 = .ok (.iload_n 1, 1) := by decide +kernel
theorem d_AB_setLength_42 : decode M_AB_setLength.2.1 42 = .ok (.invokestatic 133, 3) := by decide +kernel
theorem d_AB_setLength_45 : decode M_AB_setLength.2.1 45 = .ok (.goto 31, 3) := by decide +kernel
theorem d_AB_setLength_48 : decode M_AB_setLength.2.1 48 = .ok (.aload_n 0, 1) := by decide +kernel
theorem d_AB_setLength_49 : decode M_AB_setLength.2.1 49 = .ok (.getfield 15, 3) := by decide +kernel
theorem d_AB_setLength_52 : decode M_AB_setLength.2.1 52 = .ok (.aload_n 0, 1) := by decide +kernel
theorem d_AB_setLength_53 : decode M_AB_setLength.2.1 53 = .ok (.getfield 79, 3) := by decide +kernel
theorem d_AB_setLength_56 : decode M_AB_setLength.2.1 56 = .ok (.iload_n 1, 1) := by decide +kernel
theorem d_AB_setLength_57 : decode M_AB_setLength.2.1 57 = .ok (.invokestatic 137, 3) := by decide +kernel
theorem d_AB_setLength_60 : decode M_AB_setLength.2.1 60 = .ok (.goto 16, 3) := by decide +kernel
theorem d_AB_setLength_63 : decode M_AB_setLength.2.1 63 = .ok (.aload_n 0, 1) := by decide +kernel
theorem d_AB_setLength_64 : decode M_AB_setLength.2.1 64 = .ok (.getfield 79, 3) := by decide +kernel
theorem d_AB_setLength_67 : decode M_AB_setLength.2.1 67 = .ok (.iload_n 1, 1) := by decide +kernel
theorem d_AB_setLength_68 : decode M_AB_setLength.2.1 68 = .ok (.if_icmp .le 8, 3) := by decide +kernel
theorem d_AB_setLength_71 : decode M_AB_setLength.2.1 71 = .ok (.aload_n 0, 1) := by decide +kernel
theorem d_AB_setLength_72 : decode M_AB_setLength.2.1 72 = .ok (.iconst 1, 1) := by decide +kernel
theorem d_AB_setLength_73 : decode M_AB_setLength.2.1 73 = .ok (.putfield 73, 3) := by decide +kernel
theorem d_AB_setLength_76 : decode M_AB_setLength.2.1 76 = .ok (.aload_n 0, 1) := by decide +kernel
theorem d_AB_setLength_77 : decode M_AB_setLength.2.1 77 = .ok (.iload_n 1, 1) := by decide +kernel
theorem d_AB_setLength_78 : decode M_AB_setLength.2.1 78 = .ok (.putfield 79, 3) := by decide +kernel
theorem d_AB_setLength_81 : decode M_AB_setLength.2.1 81 = .ok (.return_, 1) := by decide +kernel
theorem d_In_getChars_0 : decode M_In_getChars.2.1 0 = .ok (.iload_n 1, 1) := by decide +kernel
theorem d_In_getChars_1 : decode M_In_getChars.2.1 1 = .ok (.istore 5, 2) := by decide +kernel
theorem d_In_getChars_3 : decode M_In_getChars.2.1 3 = .ok (.iload_n 0, 1) := by decide +kernel
theorem d_In_getChars_4 : decode M_In_getChars.2.1 4 = .ok (.ifCond .ge 7, 3) := by decide +kernel
theorem d_In_getChars_7 : decode M_In_getChars.2.1 7 = .ok (.iconst 1, 1) := by decide +kernel
theorem d_In_getChars_8 : decode M_In_getChars.2.1 8 = .ok (.goto 4, 3) := by decide +kernel
theorem d_In_getChars_11 : decode M_In_getChars.2.1 11 = .ok (.iconst 0, 1) := by decide +kernel
theorem d_In_getChars_12 : decode M_In_getChars.2.1 12 = .ok (.istore 6, 2) := by decide +kernel
theorem d_In_getChars_14 : decode M_In_getChars.2.1 14 = .ok (.iload 6, 2) := by decide +kernel
theorem d_In_getChars_16 : decode M_In_getChars.2.1 16 = .ok (.ifCond .ne 6, 3) := by decide +kernel
theorem d_In_getChars_19 : decode M_In_getChars.2.1 19 = .ok (.iload_n 0, 1) := by decide +kernel
theorem d_In_getChars_20 : decode M_In_getChars.2.1 20 = .ok (.ineg, 1) := by decide +kernel
theorem d_In_getChars_21 : decode M_In_getChars.2.1 21 = .ok (.istore_n 0, 1) := by decide +kernel
theorem d_In_getChars_22 : decode M_In_getChars.2.1 22 = .ok (.iload_n 0, 1) := by decide +kernel
theorem d_In_getChars_23 : decode M_In_getChars.2.1 23 = .ok (.bipush (-100), 2) := by decide +kernel
theorem d_In_getChars_25 : decode M_In_getChars.2.1 25 = .ok (.if_icmp .gt 47, 3) := by decide +kernel
theorem d_In_getChars_28 : decode M_In_getChars.2.1 28 = .ok (.iload_n 0, 1) := by decide +kernel
theorem d_In_getChars_29 : decode M_In_getChars.2.1 29 = .ok (.bipush 100, 2) := by decide +kernel
theorem d_In_getChars_31 : decode M_In_getChars.2.1 31 = .ok (.idiv, 1) := by decide +kernel
theorem d_In_getChars_32 : decode M_In_getChars.2.1 32 = .ok (.istore_n 3, 1) := by decide +kernel
theorem d_In_getChars_33 : decode M_In_getChars.2.1 33 = .ok (.iload_n 3, 1) := by decide +kernel
theorem d_In_getChars_34 : decode M_In_getChars.2.1 34 = .ok (.bipush 100, 2) := by decide +kernel
theorem d_In_getChars_36 : decode M_In_getChars.2.1 36 = .ok (.imul, 1) := by decide +kernel
theorem d_In_getChars_37 : decode M_In_getChars.2.1 37 = .ok (.iload_n 0, 1) := by decide +kernel
theorem d_In_getChars_38 : decode M_In_getChars.2.1 38 = .ok (.isub, 1) := by decide +kernel
theorem d_In_getChars_39 : decode M_In_getChars.2.1 39 = .ok (.istore 4, 2) := by decide +kernel
theorem d_In_getChars_41 : decode M_In_getChars.2.1 41 = .ok (.iload_n 3, 1) := by decide +kernel
theorem d_In_getChars_42 : decode M_In_getChars.2.1 42 = .ok (.istore_n 0, 1) := by decide +kernel
theorem d_In_getChars_43 : decode M_In_getChars.2.1 43 = .ok (.aload_n 2, 1) := by decide +kernel
theorem d_In_getChars_44 : decode M_In_getChars.2.1 44 = .ok (.iinc 5 (-1), 3) := by decide +kernel
theorem d_In_getChars_47 : decode M_In_getChars.2.1 47 = .ok (.iload 5, 2) := by decide +kernel
theorem d_In_getChars_49 : decode M_In_getChars.2.1 49 = .ok (.getstatic 83, 3) := by decide +kernel
theorem d_In_getChars_52 : decode M_In_getChars.2.1 52 = .ok (.iload 4, 2) := by decide +kernel
theorem d_In_getChars_54 : decode M_In_getChars.2.1 54 = .ok (.baload, 1) := by decide +kernel
theorem d_In_getChars_55 : decode M_In_getChars.2.1 55 = .ok (.bastore, 1) := by decide +kernel
theorem d_In_getChars_56 : decode M_In_getChars.2.1 56 = .ok (.aload_n 2, 1) := by decide +kernel
theorem d_In_getChars_57 : decode M_In_getChars.2.1 57 = .ok (.iinc 5 (-1), 3) := by decide +kernel
theorem d_In_getChars_60 : decode M_In_getChars.2.1 60 = .ok (.iload 5, 2) := by decide +kernel
theorem d_In_getChars_62 : decode M_In_getChars.2.1 62 = .ok (.getstatic 87, 3) := by decide +kernel
theorem d_In_getChars_65 : decode M_In_getChars.2.1 65 = .ok (.iload 4, 2) := by decide +kernel
theorem d_In_getChars_67 : decode M_In_getChars.2.1 67 = .ok (.baload, 1) := by decide +kernel
theorem d_In_getChars_68 : decode M_In_getChars.2.1 68 = .ok (.bastore, 1) := by decide +kernel
theorem d_In_getChars_69 : decode M_In_getChars.2.1 69 = .ok (.goto (-47), 3) := by decide +kernel
theorem d_In_getChars_72 : decode M_In_getChars.2.1 72 = .ok (.aload_n 2, 1) := by decide +kernel
theorem d_In_getChars_73 : decode M_In_getChars.2.1 73 = .ok (.iinc 5 (-1), 3) := by decide +kernel
theorem d_In_getChars_76 : decode M_In_getChars.2.1 76 = .ok (.iload 5, 2) := by decide +kernel
theorem d_In_getChars_78 : decode M_In_getChars.2.1 78 = .ok (.getstatic 83, 3) := by decide +kernel
theorem d_In_getChars_81 : decode M_In_getChars.2.1 81 = .ok (.iload_n 0, 1) := by decide +kernel
theorem d_In_getChars_82 : decode M_In_getChars.2.1 82 = .ok (.ineg, 1) := by decide +kernel
theorem d_In_getChars_83 : decode M_In_getChars.2.1 83 = .ok (.baload, 1) := by decide +kernel
theorem d_In_getChars_84 : decode M_In_getChars.2.1 84 = .ok (.bastore, 1) := by decide +kernel
theorem d_In_getChars_85 : decode M_In_getChars.2.1 85 = .ok (.iload_n 0, 1) := by decide +kernel
theorem d_In_getChars_86 : decode M_In_getChars.2.1 86 = .ok (.bipush (-9), 2) := by decide +kernel
theorem d_In_getChars_88 : decode M_In_getChars.2.1 88 = .ok (.if_icmp .ge 16, 3) := by decide +kernel
theorem d_In_getChars_91 : decode M_In_getChars.2.1 91 = .ok (.aload_n 2, 1) := by decide +kernel
theorem d_In_getChars_92 : decode M_In_getChars.2.1 92 = .ok (.iinc 5 (-1), 3) := by decide +kernel
theorem d_In_getChars_95 : decode M_In_getChars.2.1 95 = .ok (.iload 5, 2) := by decide +kernel
theorem d_In_getChars_97 : decode M_In_getChars.2.1 97 = .ok (.getstatic 87, 3) := by decide +kernel
theorem d_In_getChars_100 : decode M_In_getChars.2.1 100 = .ok (.iload_n 0, 1) := by decide +kernel
theorem d_In_getChars_101 : decode M_In_getChars.2.1 101 = .ok (.ineg, 1) := by decide +kernel
theorem d_In_getChars_102 : decode M_In_getChars.2.1 102 = .ok (.baload, 1) := by decide +kernel
theorem d_In_getChars_103 : decode M_In_getChars.2.1 103 = .ok (.bastore, 1) := by decide +kernel
theorem d_In_getChars_104 : decode M_In_getChars.2.1 104 = .ok (.iload 6, 2) := by decide +kernel
theorem d_In_getChars_106 : decode M_In_getChars.2.1 106 = .ok (.ifCond .eq 12, 3) := by decide +kernel
theorem d_In_getChars_109 : decode M_In_getChars.2.1 109 = .ok (.aload_n 2, 1) := by decide +kernel
theorem d_In_getChars_110 : decode M_In_getChars.2.1 110 = .ok (.iinc 5 (-1), 3) := by decide +kernel
theorem d_In_getChars_113 : decode M_In_getChars.2.1 113 = .ok (.iload 5, 2) := by decide +kernel
theorem d_In_getChars_115 : decode M_In_getChars.2.1 115 = .ok (.bipush 45, 2) := by decide +kernel
theorem d_In_getChars_117 : decode M_In_getChars.2.1 117 = .ok (.bastore, 1) := by decide +kernel
theorem d_In_getChars_118 : decode M_In_getChars.2.1 118 = .ok (.iload 5, 2) := by decide +kernel
theorem d_In_getChars_120 : decode M_In_getChars.2.1 120 = .ok (.ireturn, 1) := by decide +kernel
theorem d_In_stringSize_0 : decode M_In_stringSize.2.1 0 = .ok (.iconst 1, 1) := by decide +kernel
theorem d_In_stringSize_1 : decode M_In_stringSize.2.1 1 = .ok (.istore_n 1, 1) := by decide +kernel
theorem d_In_stringSize_2 : decode M_In_stringSize.2.1 2 = .ok (.iload_n 0, 1) := by decide +kernel
theorem d_In_stringSize_3 : decode M_In_stringSize.2.1 3 = .ok (.ifCond .lt 8, 3) := by decide +kernel
theorem d_In_stringSize_6 : decode M_In_stringSize.2.1 6 = .ok (.iconst 0, 1) := by decide +kernel
theorem d_In_stringSize_7 : decode M_In_stringSize.2.1 7 = .ok (.istore_n 1, 1) := by decide +kernel
theorem d_In_stringSize_8 : decode M_In_stringSize.2.1 8 = .ok (.iload_n 0, 1) := by decide +kernel
theorem d_In_stringSize_9 : decode M_In_stringSize.2.1 9 = .ok (.ineg, 1) := by decide +kernel
theorem d_In_stringSize_10 : decode M_In_stringSize.2.1 10 = .ok (.istore_n 0, 1) := by decide +kernel
theorem d_In_stringSize_11 : decode M_In_stringSize.2.1 11 = .ok (.bipush (-10), 2) := by decide +kernel
theorem d_In_stringSize_13 : decode M_In_stringSize.2.1 13 = .ok (.istore_n 2, 1) := by decide +kernel
theorem d_In_stringSize_14 : decode M_In_stringSize.2.1 14 = .ok (.iconst 1, 1) := by decide +kernel
theorem d_In_stringSize_15 : decode M_In_stringSize.2.1 15 = .ok (.istore_n 3, 1) := by decide +kernel
theorem d_In_stringSize_16 : decode M_In_stringSize.2.1 16 = .ok (.iload_n 3, 1) := by decide +kernel
theorem d_In_stringSize_17 : decode M_In_stringSize.2.1 17 = .ok (.bipush 10, 2) := by decide +kernel
theorem d_In_stringSize_19 : decode M_In_stringSize.2.1 19 = .ok (.if_icmp .ge 23, 3) := by decide +kernel
theorem d_In_stringSize_22 : decode M_In_stringSize.2.1 22 = .ok (.iload_n 0, 1) := by decide +kernel
theorem d_In_stringSize_23 : decode M_In_stringSize.2.1 23 = .ok (.iload_n 2, 1) := by decide +kernel
theorem d_In_stringSize_24 : decode M_In_stringSize.2.1 24 = .ok (.if_icmp .le 7, 3) := by decide +kernel
theorem d_In_stringSize_27 : decode M_In_stringSize.2.1 27 = .ok (.iload_n 3, 1) := by decide +kernel
theorem d_In_stringSize_28 : decode M_In_stringSize.2.1 28 = .ok (.iload_n 1, 1) := by decide +kernel
theorem d_In_stringSize_29 : decode M_In_stringSize.2.1 29 = .ok (.iadd, 1) := by decide +kernel
theorem d_In_stringSize_30 : decode M_In_stringSize.2.1 30 = .ok (.ireturn, 1) := by decide +kernel
theorem d_In_stringSize_31 : decode M_In_stringSize.2.1 31 = .ok (.bipush 10, 2) := by decide +kernel
theorem d_In_stringSize_33 : decode M_In_stringSize.2.1 33 = .ok (.iload_n 2, 1) := by decide +kernel
theorem d_In_stringSize_34 : decode M_In_stringSize.2.1 34 = .ok (.imul, 1) := by decide +kernel
theorem d_In_stringSize_35 : decode M_In_stringSize.2.1 35 = .ok (.istore_n 2, 1) := by decide +kernel
theorem d_In_stringSize_36 : decode M_In_stringSize.2.1 36 = .ok (.iinc 3 1, 3) := by decide +kernel
theorem d_In_stringSize_39 : decode M_In_stringSize.2.1 39 = .ok (.goto (-23), 3) := by decide +kernel
theorem d_In_stringSize_42 : decode M_In_stringSize.2.1 42 = .ok (.bipush 10, 2) := by decide +kernel
theorem d_In_stringSize_44 : decode M_In_stringSize.2.1 44 = .ok (.iload_n 1, 1) := by decide +kernel
theorem d_In_stringSize_45 : decode M_In_stringSize.2.1 45 = .ok (.iadd, 1) := by decide +kernel
theorem d_In_stringSize_46 : decode M_In_stringSize.2.1 46 = .ok (.ireturn, 1) := by decide +kernel
theorem d_SB_append_I_0 : decode M_SB_append_I.2.1 0 = .ok (.aload_n 0, 1) := by decide +kernel
theorem d_SB_append_I_1 : decode M_SB_append_I.2.1 1 = .ok (.iload_n 1, 1) := by decide +kernel
theorem d_SB_append_I_2 : decode M_SB_append_I.2.1 2 = .ok (.invokespecial 53, 3) := by decide +kernel
theorem d_SB_append_I_5 : decode M_SB_append_I.2.1 5 = .ok (.pop, 1) := by decide +kernel
theorem d_SB_append_I_6 : decode M_SB_append_I.2.1 6 = .ok (.aload_n 0, 1) := by decide +kernel
theorem d_SB_append_I_7 : decode M_SB_append_I.2.1 7 = .ok (.areturn, 1) := by decide +kernel
theorem d_SB_append_LString_0 : decode M_SB_append_LString.2.1 0 = .ok (.aload_n 0, 1) := by decide +kernel
theorem d_SB_append_LString_1 : decode M_SB_append_LString.2.1 1 = .ok (.aload_n 1, 1) := by decide +kernel
theorem d_SB_append_LString_2 : decode M_SB_append_LString.2.1 2 = .ok (.invokespecial 29, 3) := by decide +kernel
theorem d_SB_append_LString_5 : decode M_SB_append_LString.2.1 5 = .ok (.pop, 1) := by decide +kernel
theorem d_SB_append_LString_6 : decode M_SB_append_LString.2.1 6 = .ok (.aload_n 0, 1) := by decide +kernel
theorem d_SB_append_LString_7 : decode M_SB_append_LString.2.1 7 = .ok (.areturn, 1) := by decide +kernel
theorem d_SB_charAt_0 : decode M_SB_charAt.2.1 0 = .ok (.aload_n 0, 1) := by decide +kernel
theorem d_SB_charAt_1 : decode M_SB_charAt.2.1 1 = .ok (.iload_n 1, 1) := by decide +kernel
theorem d_SB_charAt_2 : decode M_SB_charAt.2.1 2 = .ok (.invokespecial 329, 3) := by decide +kernel
theorem d_SB_charAt_5 : decode M_SB_charAt.2.1 5 = .ok (.ireturn, 1) := by decide +kernel
theorem d_SB_length_0 : decode M_SB_length.2.1 0 = .ok (.aload_n 0, 1) := by decide +kernel
theorem d_SB_length_1 : decode M_SB_length.2.1 1 = .ok (.invokespecial 343, 3) := by decide +kernel
theorem d_SB_length_4 : decode M_SB_length.2.1 4 = .ok (.ireturn, 1) := by decide +kernel
theorem d_SB_setLength_0 : decode M_SB_setLength.2.1 0 = .ok (.aload_n 0, 1) := by decide +kernel
theorem d_SB_setLength_1 : decode M_SB_setLength.2.1 1 = .ok (.iload_n 1, 1) := by decide +kernel
theorem d_SB_setLength_2 : decode M_SB_setLength.2.1 2 = .ok (.invokespecial 333, 3) := by decide +kernel
theorem d_SB_setLength_5 : decode M_SB_setLength.2.1 5 = .ok (.return_, 1) := by decide +kernel
theorem d_St_getBytes_0 : decode M_St_getBytes.2.1 0 = .ok (.aload_n 0, 1) := by decide +kernel
theorem d_St_getBytes_1 : decode M_St_getBytes.2.1 1 = .ok (.invokevirtual 335, 3) := by decide +kernel
theorem d_St_getBytes_4 : decode M_St_getBytes.2.1 4 = .ok (.iload_n 3, 1) := by decide +kernel
theorem d_St_getBytes_5 : decode M_St_getBytes.2.1 5 = .ok (.if_icmp .ne 23, 3) := by decide +kernel
theorem d_St_getBytes_8 : decode M_St_getBytes.2.1 8 = .ok (.aload_n 0, 1) := by decide +kernel
theorem d_St_getBytes_9 : decode M_St_getBytes.2.1 9 = .ok (.getfield 9, 3) := by decide +kernel
theorem d_St_getBytes_12 : decode M_St_getBytes.2.1 12 = .ok (.iconst 0, 1) := by decide +kernel
theorem d_St_getBytes_13 : decode M_St_getBytes.2.1 13 = .ok (.aload_n 1, 1) := by decide +kernel
theorem d_St_getBytes_14 : decode M_St_getBytes.2.1 14 = .ok (.iload_n 2, 1) := by decide +kernel
theorem d_St_getBytes_15 : decode M_St_getBytes.2.1 15 = .ok (.iload_n 3, 1) := by decide +kernel
theorem d_St_getBytes_16 : decode M_St_getBytes.2.1 16 = .ok (.ishl, 1) := by decide +kernel
theorem d_St_getBytes_17 : decode M_St_getBytes.2.1 17 = .ok (.aload_n 0, 1) := by decide +kernel
theorem d_St_getBytes_18 : decode M_St_getBytes.2.1 18 = .ok (.getfield 9, 3) := by decide +kernel
theorem d_St_getBytes_21 : decode M_St_getBytes.2.1 21 = .ok (.arraylength, 1) := by decide +kernel
theorem d_St_getBytes_22 : decode M_St_getBytes.2.1 22 = .ok (.invokestatic 212, 3) := by decide +kernel
theorem d_St_getBytes_25 : decode M_St_getBytes.2.1 25 = .ok (.goto 18, 3) := by decide +kernel
theorem d_St_getBytes_28 : decode M_St_getBytes.2.1 28 = .ok (.aload_n 0, 1) := by decide +kernel
theorem d_St_getBytes_29 : decode M_St_getBytes.2.1 29 = .ok (.getfield 9, 3) := by decide +kernel
theorem d_St_getBytes_32 : decode M_St_getBytes.2.1 32 = .ok (.iconst 0, 1) := by decide +kernel
theorem d_St_getBytes_33 : decode M_St_getBytes.2.1 33 = .ok (.aload_n 1, 1) := by decide +kernel
theorem d_St_getBytes_34 : decode M_St_getBytes.2.1 34 = .ok (.iload_n 2, 1) := by decide +kernel
theorem d_St_getBytes_35 : decode M_St_getBytes.2.1 35 = .ok (.aload_n 0, 1) := by decide +kernel
theorem d_St_getBytes_36 : decode M_St_getBytes.2.1 36 = .ok (.getfield 9, 3) := by decide +kernel
theorem d_St_getBytes_39 : decode M_St_getBytes.2.1 39 = .ok (.arraylength, 1) := by decide +kernel
theorem d_St_getBytes_40 : decode M_St_getBytes.2.1 40 = .ok (.invokestatic 106, 3) := by decide +kernel
theorem d_St_getBytes_43 : decode M_St_getBytes.2.1 43 = .ok (.return_, 1) := by decide +kernel
section
variable {nx : Nat} {ct : Nat → Nat × Nat} {mi : Nat → Nat → Int32} {ml : Nat → Nat → Int64} {mr : Nat → Nat → Option Nat} {vb c s p k : Nat} {l : List Int32} {u : Int32}
theorem jl_getBytes (hi : rx_is (nx, ct, mi, ml, mr) vb 103 c) (hs : s < 61) (hp : p + rx_sl s ≤ c) (hc : c ≤ 200000) : rx_Calls y_St_getBytes M_St_getBytes 1 0 0 [.ref (30 + s), .ref vb, .int (nI p), .int (nI 0)] (nx, ct, mi, ml, mr) (fun v τ => v = none ∧ τ = (nx, ct, va_up mi vb (va_cpy (rx_sb s) (mi vb) 0 p (rx_sl s)), ml, mr)) := by
  refine rx_enter (by decide +kernel) rfl rfl (Nat.le_of_ble_eq_true rfl) ?_
  have l := tx_len2 s hs
  refine ru_aload_n d_St_getBytes_0 rfl rfl ?_
  refine ru_callV (mc := 0) (ms := 0) d_St_getBytes_1 lm_St_335 (jl_coder hs) (rx_recv_tx hs) (by decide) rfl (Nat.le_of_ble_eq_true rfl) ?_
  rintro v τ ⟨rfl, rfl⟩
  refine ru_iload_n d_St_getBytes_4 rfl rfl ?_
  refine ru_icmp_ne (tgt := 28) d_St_getBytes_5 (by decide) (fun h5 => absurd h5 (by decide)) (fun h5 => ?_)
  refine ru_aload_n d_St_getBytes_8 rfl rfl ?_
  refine ru_getO (v := .ref ((100 + s))) d_St_getBytes_9 (rx_in (tm_4 (List.mem_of_getElem? (i := 216) rfl)) rfl) (fun ev U h => (h.2.2.2.1 s hs).2.2.1) ?_
  refine ru_iconst (v := 0) d_St_getBytes_12 (by decide) ?_
  refine ru_aload_n d_St_getBytes_13 rfl rfl ?_
  refine ru_iload_n d_St_getBytes_14 rfl rfl ?_
  refine ru_iload_n d_St_getBytes_15 rfl rfl ?_
  refine ru_ishl d_St_getBytes_16 ?_
  refine ru_eqi (sl_0 _) ?_
  refine ru_aload_n d_St_getBytes_17 rfl rfl ?_
  refine ru_getO (v := .ref ((100 + s))) d_St_getBytes_18 (rx_in (tm_4 (List.mem_of_getElem? (i := 216) rfl)) rfl) (fun ev U h => (h.2.2.2.1 s hs).2.2.1) ?_
  refine ru_tlen d_St_getBytes_21 (fun ev U h => (h.2.2.2.1 s hs).2.2.2) ?_
  refine ru_acopy (sp := 0) (dp := p) (n := rx_sl s) d_St_getBytes_22 ac_St_212 (tx_src hs) hi (by omega) (by omega) (by omega) (by omega) (fun i hi => by rw [Nat.zero_add]; exact asc_fits (tx_all s hs i hi)) (by decide) (by decide) ?_
  refine ru_goto (tgt := 43) d_St_getBytes_25 (by decide) ?_
  refine ru_vret d_St_getBytes_43 rfl ?_
  exact ⟨rfl, rfl⟩
theorem jl_inflate (hL : LAY nx ct mr) (h1 : mi 272 1 = 0) (hs : s < 61) : rx_Calls y_AB_inflateIfNeededFor M_AB_inflateIfNeededFor 1 0 0 [.ref 272, .ref (30 + s)] (nx, ct, mi, ml, mr) (fun v τ => v = none ∧ τ = (nx, ct, mi, ml, mr)) := by
  refine rx_enter (by decide +kernel) rfl rfl (Nat.le_of_ble_eq_true rfl) ?_
  refine ru_gets d_AB_inflateIfNeededFor_0 (Or.inl (rx_in (tm_1 (List.mem_of_getElem? (i := 174) rfl)) rfl)) (List.mem_of_getElem? (i := 4) rfl) ?_
  refine ru_if_eq (tgt := 21) d_AB_inflateIfNeededFor_3 (by decide) (fun h3 => absurd h3 (by decide)) (fun h3 => ?_)
  refine ru_aload_n d_AB_inflateIfNeededFor_6 rfl rfl ?_
  refine ru_getI d_AB_inflateIfNeededFor_7 lf_AB_22 (ly hL 272 10 0) rfl ?_
  refine ru_eqi h1 ?_
  refine ru_aload_n d_AB_inflateIfNeededFor_10 rfl rfl ?_
  refine ru_callV (mc := 0) (ms := 0) d_AB_inflateIfNeededFor_11 lm_AB_40 (jl_coder hs) (rx_recv_tx hs) (by decide) rfl (Nat.le_of_ble_eq_true rfl) ?_
  rintro v τ ⟨rfl, rfl⟩
  refine ru_icmp_eq (tgt := 21) d_AB_inflateIfNeededFor_14 (by decide) (fun h14 => ?_) (fun h14 => absurd h14 (by decide))
  refine ru_vret d_AB_inflateIfNeededFor_21 rfl ?_
  exact ⟨rfl, rfl⟩
theorem jl_putString (hL : LAY nx ct mr) (h : SbI nx ct mi mr vb l c) (hs : s < 61) (hp : p + rx_sl s ≤ c) : rx_Calls y_AB_putStringAt M_AB_putStringAt 2 0 0 [.ref 272, .int (nI p), .ref (30 + s)] (nx, ct, mi, ml, mr) (fun v τ => v = none ∧ τ = (nx, ct, va_up mi vb (va_cpy (rx_sb s) (mi vb) 0 p (rx_sl s)), ml, mr)) := by
  refine rx_enter (by decide +kernel) rfl rfl (Nat.le_of_ble_eq_true rfl) ?_
  have hc := h.2.2.2.2.2.2.2.1
  refine ru_aload_n d_AB_putStringAt_0 rfl rfl ?_
  refine ru_aload_n d_AB_putStringAt_1 rfl rfl ?_
  refine ru_callU (mc := 0) (ms := 0) d_AB_putStringAt_2 lm_AB_397 (jl_inflate hL h.2.2.2.2.1 hs) (rx_recv_is (ly hL 272 10 0) kx_SB) (by decide) rfl (Nat.le_of_ble_eq_true rfl) ?_
  intro v τ h
  obtain ⟨rfl, rfl⟩ := h
  refine ru_aload_n d_AB_putStringAt_5 rfl rfl ?_
  refine ru_aload_n d_AB_putStringAt_6 rfl rfl ?_
  refine ru_getR d_AB_putStringAt_7 lf_AB_15 (ly hL 272 10 0) rfl h.1 ?_
  refine ru_iload_n d_AB_putStringAt_10 rfl rfl ?_
  refine ru_aload_n d_AB_putStringAt_11 rfl rfl ?_
  refine ru_getI d_AB_putStringAt_12 lf_AB_22 (ly hL 272 10 0) rfl ?_
  refine ru_eqi h.2.2.2.2.1 ?_
  refine ru_callV (mc := 0) (ms := 0) d_AB_putStringAt_15 lm_AB_399 (jl_getBytes h.is hs hp hc.2) (rx_recv_tx hs) (by decide) rfl (Nat.le_of_ble_eq_true rfl) ?_
  intro v τ h
  obtain ⟨rfl, rfl⟩ := h
  refine ru_vret d_AB_putStringAt_18 rfl ?_
  exact ⟨rfl, rfl⟩
theorem tx_get {i : Nat} {x : Int32} (hs : s < 61) (h : (rx_tx s)[i]? = some x) : rx_sb s i = x ∧ asc x := by
  have hi : i < (rx_tx s).length := (List.getElem?_eq_some_iff.mp h).1
  have e : rx_sb s i = x := by
    unfold rx_sb
    rw [List.getD_eq_getElem?_getD, h]
    rfl
  exact ⟨e, e ▸ tx_all s hs i hi⟩
theorem jl_appendS (hL : LAY nx ct mr) (h : SbI nx ct mi mr vb l c) (hs : s < 61) (h18 : rx_sl s ≤ 18) (hm3 : cp c (l.length + rx_sl s) ≤ 200000) : rx_Calls y_AB_append_LString M_AB_append_LString 4 (cp c (l.length + rx_sl s) - c) (2 * (cp c (l.length + rx_sl s) - c)) [.ref 272, .ref (30 + s)] (nx, ct, mi, ml, mr) (sbP (some (.ref 272)) nx ct mi ml mr (l ++ rx_tx s) (cp c (l.length + rx_sl s))) := by
  refine rx_enter (by decide +kernel) rfl rfl (Nat.le_of_ble_eq_true rfl) ?_
  have hc := h.2.2.2.2.2.2.2.1
  have hl := h.2.2.2.2.2.2.1
  have g1 := cp_ge c (l.length + rx_sl s)
  refine ru_aload_n d_AB_append_LString_0 rfl rfl ?_
  refine ru_ifnonnull (tgt := 9) d_AB_append_LString_1 (by decide) ?_
  refine ru_aload_n d_AB_append_LString_9 rfl rfl ?_
  refine ru_mcs (Nat.zero_add _).symm (Nat.zero_add _).symm ?_
  refine ru_callV (mc := cp c (l.length + rx_sl s) - c) (ms := 2 * (cp c (l.length + rx_sl s) - c)) d_AB_append_LString_10 lm_AB_32 (jl_length hs) (rx_recv_tx hs) (by decide) rfl (Nat.le_of_ble_eq_true rfl) ?_
  rintro v τ ⟨rfl, rfl⟩
  refine ru_istore_n d_AB_append_LString_13 rfl (by decide) ?_
  refine ru_aload_n d_AB_append_LString_14 rfl rfl ?_
  refine ru_aload_n d_AB_append_LString_15 rfl rfl ?_
  refine ru_getI d_AB_append_LString_16 lf_AB_79 (ly hL 272 10 0) rfl ?_
  refine ru_eqi h.2.2.2.2.2.1 ?_
  refine ru_iload_n d_AB_append_LString_19 rfl rfl ?_
  refine ru_iadd d_AB_append_LString_20 ?_
  refine ru_eqi (nm_add l.length (rx_sl s) : _ = nI (l.length + (rx_sl s))) ?_
  refine ru_callU (mc := 0) (ms := 0) d_AB_append_LString_21 lm_AB_100 (jl_ensure hL h (by omega) hm3) (rx_recv_is (ly hL 272 10 0) kx_SB) (by decide) rfl (Nat.le_of_ble_eq_true rfl) ?_
  rintro v τ ⟨rfl, nx1, ct1, m1, l1, r1, vb1, rfl, f1, hL1, s1⟩
  have s2 := s1.put (f := rx_sb s) (l2 := rx_tx s) hL1 (by show l.length + rx_sl s ≤ _; omega) (fun i x hx => tx_get hs hx)
  have ne : 272 ≠ vb1 := by have := s1.2.1; omega
  have e3 : va_up m1 vb1 (va_cpy (rx_sb s) (m1 vb1) 0 l.length (rx_sl s)) 272 3 = nI l.length := by rw [va_up_ne _ _ ne]; exact s1.2.2.2.2.2.1
  refine ru_aload_n d_AB_append_LString_24 rfl rfl ?_
  refine ru_aload_n d_AB_append_LString_25 rfl rfl ?_
  refine ru_getI d_AB_append_LString_26 lf_AB_79 (ly hL1 272 10 0) rfl ?_
  refine ru_eqi s1.2.2.2.2.2.1 ?_
  refine ru_aload_n d_AB_append_LString_29 rfl rfl ?_
  refine ru_callU (mc := 0) (ms := 0) d_AB_append_LString_30 lm_AB_208 (jl_putString hL1 s1 hs (by omega)) (rx_recv_is (ly hL1 272 10 0) kx_SB) (by decide) rfl (Nat.le_of_ble_eq_true rfl) ?_
  intro v τ h
  obtain ⟨rfl, rfl⟩ := h
  refine ru_aload_n d_AB_append_LString_33 rfl rfl ?_
  refine ru_dup d_AB_append_LString_34 rfl ?_
  refine ru_getI d_AB_append_LString_35 lf_AB_79 (ly hL1 272 10 0) rfl ?_
  refine ru_eqi e3 ?_
  refine ru_iload_n d_AB_append_LString_38 rfl rfl ?_
  refine ru_iadd d_AB_append_LString_39 ?_
  refine ru_eqi (nm_add l.length (rx_sl s) : _ = nI (l.length + (rx_sl s))) ?_
  refine ru_putI d_AB_append_LString_40 lf_AB_79 (ly hL1 272 10 0) rfl (fun q hq => by cases hq; exact Or.inl rfl) ⟨rfl, rfl⟩ ?_
  refine ru_aload_n d_AB_append_LString_43 rfl rfl ?_
  refine ru_aret d_AB_append_LString_44 rfl (Or.inl ⟨_, rfl⟩) ?_
  refine ⟨rfl, _, _, _, _, _, vb1, rfl, f1.trans ⟨Nat.le_refl _, fun x hx => ⟨rfl, fun a b => ⟨?_, rfl, rfl⟩⟩⟩, hL1, s2⟩
  have nv : x ≠ vb1 := by have := s1.2.1; omega
  rw [rx_u_r _ _ a, va_up_ne _ _ nv]
theorem js_appendS (hL : LAY nx ct mr) (h : SbI nx ct mi mr vb l c) (hs : s < 61) (h18 : rx_sl s ≤ 18) (hm3 : cp c (l.length + rx_sl s) ≤ 200000) : rx_Calls y_SB_append_LString M_SB_append_LString 5 (cp c (l.length + rx_sl s) - c) (2 * (cp c (l.length + rx_sl s) - c)) [.ref 272, .ref (30 + s)] (nx, ct, mi, ml, mr) (sbP (some (.ref 272)) nx ct mi ml mr (l ++ rx_tx s) (cp c (l.length + rx_sl s))) := by
  refine rx_enter (by decide +kernel) rfl rfl (Nat.le_of_ble_eq_true rfl) ?_
  refine ru_aload_n d_SB_append_LString_0 rfl rfl ?_
  refine ru_aload_n d_SB_append_LString_1 rfl rfl ?_
  refine ru_callSU (mc := 0) (ms := 0) d_SB_append_LString_2 lm_SB_29 (jl_appendS hL h hs h18 hm3) (ly hL 272 10 0) kx_SB (by decide) rfl (Nat.le_of_ble_eq_true rfl) ?_
  rintro v τ ⟨rfl, h2⟩
  refine ru_pop d_SB_append_LString_5 rfl ?_
  refine ru_aload_n d_SB_append_LString_6 rfl rfl ?_
  refine ru_aret d_SB_append_LString_7 rfl (Or.inl ⟨_, rfl⟩) ?_
  exact ⟨rfl, h2⟩
theorem dec_1 : ∀ k, k < 10 → dec k = [nI (48 + k % 10)] := by decide +kernel
theorem dec_2 : ∀ k, k < 100 → 10 ≤ k → dec k = [nI (48 + k / 10), nI (48 + k % 10)] := by decide +kernel
theorem sz_1 : ∀ k, k < 10 → 1 ≤ k → ¬ nI k < 0 ∧ ¬ (-(nI k)) ≤ -10 := by decide +kernel
theorem sz_2 : ∀ k, k < 100 → 10 ≤ k → ¬ nI k < 0 ∧ (-(nI k)) ≤ -10 ∧ ¬ (-(nI k)) ≤ 10 * (-10) := by decide +kernel
theorem gc_1 : ∀ k, k < 10 → 1 ≤ k → ¬ -(nI k) ≤ -100 ∧ -9 ≤ -(nI k) := by decide +kernel
theorem gc_2 : ∀ k, k < 100 → 10 ≤ k → ¬ -(nI k) ≤ -100 ∧ ¬ -9 ≤ -(nI k) := by decide +kernel
def dsz (k : Nat) : Nat := if k < 10 then 1 else 2
theorem jl_stringSize (σ : rx_S) (h1 : 1 ≤ k) (h2 : k < 100) : rx_Calls y_In_stringSize M_In_stringSize 0 0 0 [.int (nI k)] σ (fun v τ => v = some (.int (nI (dsz k))) ∧ τ = σ) := by
  refine rx_enter (by decide +kernel) rfl rfl (Nat.le_of_ble_eq_true rfl) ?_
  unfold dsz
  by_cases q : k < 10
  · have z := sz_1 k q h1
    rw [if_pos q]
    refine ru_iconst (v := 1) d_In_stringSize_0 (by decide) ?_
    refine ru_istore_n d_In_stringSize_1 rfl (by decide) ?_
    refine ru_iload_n d_In_stringSize_2 rfl rfl ?_
    refine ru_if_lt (tgt := 11) d_In_stringSize_3 (by decide) (fun h3 => absurd h3 z.1) (fun h3 => ?_)
    replace h3 := nm_nlt (a := k) (b := 0) (by omega) (by omega) h3
    refine ru_iconst (v := 0) d_In_stringSize_6 (by decide) ?_
    refine ru_istore_n d_In_stringSize_7 rfl (by decide) ?_
    refine ru_iload_n d_In_stringSize_8 rfl rfl ?_
    refine ru_ineg d_In_stringSize_9 ?_
    refine ru_istore_n d_In_stringSize_10 rfl (by decide) ?_
    refine ru_bipush (v := (-10)) d_In_stringSize_11 (by decide) ?_
    refine ru_istore_n d_In_stringSize_13 rfl (by decide) ?_
    refine ru_iconst (v := 1) d_In_stringSize_14 (by decide) ?_
    refine ru_istore_n d_In_stringSize_15 rfl (by decide) ?_
    refine ru_iload_n d_In_stringSize_16 rfl rfl ?_
    refine ru_bipush (v := 10) d_In_stringSize_17 (by decide) ?_
    refine ru_icmp_ge (tgt := 42) d_In_stringSize_19 (by decide) (fun h19 => absurd h19 (by decide)) (fun h19 => ?_)
    refine ru_iload_n d_In_stringSize_22 rfl rfl ?_
    refine ru_iload_n d_In_stringSize_23 rfl rfl ?_
    refine ru_icmp_le (tgt := 31) d_In_stringSize_24 (by decide) (fun h24 => absurd h24 z.2) (fun h24 => ?_)
    refine ru_iload_n d_In_stringSize_27 rfl rfl ?_
    refine ru_iload_n d_In_stringSize_28 rfl rfl ?_
    refine ru_iadd d_In_stringSize_29 ?_
    refine ru_eqi (nm_add 1 0 : _ = nI 1) ?_
    refine ru_iret d_In_stringSize_30 rfl ?_
    exact ⟨rfl, rfl⟩
  · have z := sz_2 k h2 (by omega)
    rw [if_neg q]
    refine ru_iconst (v := 1) d_In_stringSize_0 (by decide) ?_
    refine ru_istore_n d_In_stringSize_1 rfl (by decide) ?_
    refine ru_iload_n d_In_stringSize_2 rfl rfl ?_
    refine ru_if_lt (tgt := 11) d_In_stringSize_3 (by decide) (fun h3 => absurd h3 z.1) (fun h3 => ?_)
    replace h3 := nm_nlt (a := k) (b := 0) (by omega) (by omega) h3
    refine ru_iconst (v := 0) d_In_stringSize_6 (by decide) ?_
    refine ru_istore_n d_In_stringSize_7 rfl (by decide) ?_
    refine ru_iload_n d_In_stringSize_8 rfl rfl ?_
    refine ru_ineg d_In_stringSize_9 ?_
    refine ru_istore_n d_In_stringSize_10 rfl (by decide) ?_
    refine ru_bipush (v := (-10)) d_In_stringSize_11 (by decide) ?_
    refine ru_istore_n d_In_stringSize_13 rfl (by decide) ?_
    refine ru_iconst (v := 1) d_In_stringSize_14 (by decide) ?_
    refine ru_istore_n d_In_stringSize_15 rfl (by decide) ?_
    refine ru_iload_n d_In_stringSize_16 rfl rfl ?_
    refine ru_bipush (v := 10) d_In_stringSize_17 (by decide) ?_
    refine ru_icmp_ge (tgt := 42) d_In_stringSize_19 (by decide) (fun h19 => absurd h19 (by decide)) (fun h19 => ?_)
    refine ru_iload_n d_In_stringSize_22 rfl rfl ?_
    refine ru_iload_n d_In_stringSize_23 rfl rfl ?_
    refine ru_icmp_le (tgt := 31) d_In_stringSize_24 (by decide) (fun h24 => ?_) (fun h24 => absurd z.2.1 h24)
    refine ru_to (?_ : rx_W M_In_stringSize 0 0 0 31 [(0, .int (-(nI k))), (1, .int 0), (2, .int (-10)), (3, .int (nI 1))] [] σ _) ⟨rfl, rfl, rfl, rfl, trivial⟩
    refine ru_bipush (v := 10) d_In_stringSize_31 (by decide) ?_
    refine ru_iload_n d_In_stringSize_33 rfl rfl ?_
    refine ru_imul d_In_stringSize_34 ?_
    refine ru_istore_n d_In_stringSize_35 rfl (by decide) ?_
    refine ru_iinc (v := nI 2) d_In_stringSize_36 rfl (nm_inc _ 1) (by decide) ?_
    refine ru_goto (tgt := 16) d_In_stringSize_39 (by decide) ?_
    refine ru_iload_n d_In_stringSize_16 rfl rfl ?_
    refine ru_bipush (v := 10) d_In_stringSize_17 (by decide) ?_
    refine ru_icmp_ge (tgt := 42) d_In_stringSize_19 (by decide) (fun h19 => absurd h19 (by decide)) (fun h19 => ?_)
    refine ru_iload_n d_In_stringSize_22 rfl rfl ?_
    refine ru_iload_n d_In_stringSize_23 rfl rfl ?_
    refine ru_icmp_le (tgt := 31) d_In_stringSize_24 (by decide) (fun h24 => absurd h24 z.2.2) (fun h24 => ?_)
    refine ru_iload_n d_In_stringSize_27 rfl rfl ?_
    refine ru_iload_n d_In_stringSize_28 rfl rfl ?_
    refine ru_iadd d_In_stringSize_29 ?_
    refine ru_eqi (nm_add 2 0 : _ = nI 2) ?_
    refine ru_iret d_In_stringSize_30 rfl ?_
    exact ⟨rfl, rfl⟩
theorem asc_nar0 {x : Int32} (h : asc x) : vp_nar .byte x = x := (ch_nar h).2.2
theorem d1_asc {k : Nat} : asc (nI (48 + k % 10)) := by
  unfold asc
  rw [nI_toInt (by omega)]
  omega
theorem d10_asc {k : Nat} (h : k < 100) : asc (nI (48 + k / 10)) := by
  unfold asc
  rw [nI_toInt (by omega)]
  omega
theorem neg_neg_nI {k : Nat} : -(-(nI k)) = nI k := Int32.neg_neg
theorem jl_getChars (hi : rx_is (nx, ct, mi, ml, mr) vb 103 c) (h1 : 1 ≤ k) (h2 : k < 100) (hp : p + dsz k ≤ c) (hc : c ≤ 200000) : rx_Calls y_In_getChars M_In_getChars 0 0 0 [.int (nI k), .int (nI (p + dsz k)), .ref vb] (nx, ct, mi, ml, mr) (fun v τ => (∃ x, v = some (.int x)) ∧ τ = (nx, ct, va_up mi vb (va_cpy (fun i => (dec k).getD i 0) (mi vb) 0 p (dec k).length), ml, mr)) := by
  refine rx_enter (by decide +kernel) rfl rfl (Nat.le_of_ble_eq_true rfl) ?_
  by_cases q : k < 10
  · have z := gc_1 k q h1
    have zz := (sz_1 k q h1).1
    have e : dsz k = 1 := if_pos q
    have em : rx_u mi vb p (nI (48 + k % 10)) = va_up mi vb (va_cpy (fun i => (dec k).getD i 0) (mi vb) 0 p (dec k).length) := by
      rw [dec_1 k q, up_one]
      congr 1
      funext i
      simp only [va_cpy, List.length_singleton]
      by_cases w : p ≤ i ∧ i < p + 1
      · rw [if_pos w, if_pos w, show 0 + (i - p) = 0 by omega]; rfl
      · rw [if_neg w, if_neg w]
    rw [← em]
    rw [e] at hp ⊢
    refine ru_iload_n d_In_getChars_0 rfl rfl ?_
    refine ru_istore d_In_getChars_1 (by decide) ?_
    refine ru_iload_n d_In_getChars_3 rfl rfl ?_
    refine ru_if_ge (tgt := 11) d_In_getChars_4 (by decide) (fun h4 => ?_) (fun h4 => absurd (nI_le (a := 0) (b := k) (by omega) (by omega)) h4)
    replace h4 := nm_le (a := 0) (b := k) (by omega) (by omega) h4
    refine ru_iconst (v := 0) d_In_getChars_11 (by decide) ?_
    refine ru_istore d_In_getChars_12 (by decide) ?_
    refine ru_iload d_In_getChars_14 rfl ?_
    refine ru_if_ne (tgt := 22) d_In_getChars_16 (by decide) (fun h16 => absurd h16 (by decide)) (fun h16 => ?_)
    refine ru_iload_n d_In_getChars_19 rfl rfl ?_
    refine ru_ineg d_In_getChars_20 ?_
    refine ru_istore_n d_In_getChars_21 rfl (by decide) ?_
    refine ru_iload_n d_In_getChars_22 rfl rfl ?_
    refine ru_bipush (v := (-100)) d_In_getChars_23 (by decide) ?_
    refine ru_icmp_gt (tgt := 72) d_In_getChars_25 (by decide) (fun h25 => ?_) (fun h25 => absurd (Int32.not_le.mp z.1) h25)
    refine ru_aload_n d_In_getChars_72 rfl rfl ?_
    refine ru_iinc (v := nI p) d_In_getChars_73 rfl (nm_dec (c := p + 1) (by omega)) (by decide) ?_
    refine ru_iload d_In_getChars_76 rfl ?_
    refine ru_gets d_In_getChars_78 (Or.inl (rx_in (tm_4 (List.mem_of_getElem? (i := 158) rfl)) rfl)) (List.mem_of_getElem? (i := 5) rfl) ?_
    refine ru_iload_n d_In_getChars_81 rfl rfl ?_
    refine ru_ineg d_In_getChars_82 ?_
    refine ru_eqi neg_neg_nI ?_
    refine ru_tb (i := k) d_In_getChars_83 (fun ev U h => h.2.2.2.2.2.2.1) (by omega) (by omega) ?_
    refine ru_bastN (j := p) d_In_getChars_84 hi (by omega) (by omega) ?_
    rw [show vp_nar .byte (rx_d1 k) = nI (48 + k % 10) from asc_nar0 d1_asc]
    refine ru_iload_n d_In_getChars_85 rfl rfl ?_
    refine ru_bipush (v := (-9)) d_In_getChars_86 (by decide) ?_
    refine ru_icmp_ge (tgt := 104) d_In_getChars_88 (by decide) (fun h88 => ?_) (fun h88 => absurd z.2 h88)
    refine ru_iload d_In_getChars_104 rfl ?_
    refine ru_if_eq (tgt := 118) d_In_getChars_106 (by decide) (fun h106 => ?_) (fun h106 => absurd h106 (by decide))
    refine ru_iload d_In_getChars_118 rfl ?_
    refine ru_iret d_In_getChars_120 rfl ?_
    exact ⟨⟨_, rfl⟩, rfl⟩
  · have z := gc_2 k h2 (by omega)
    have zz := (sz_2 k h2 (by omega)).1
    have e : dsz k = 2 := if_neg q
    have em : rx_u (rx_u mi vb (p + 1) (nI (48 + k % 10))) vb p (nI (48 + k / 10)) = va_up mi vb (va_cpy (fun i => (dec k).getD i 0) (mi vb) 0 p (dec k).length) := by
      rw [dec_2 k h2 (by omega)]
      funext r i
      by_cases hr : r = vb
      · subst hr
        show _ = va_up mi r _ r i
        simp only [va_up, va_cpy, if_true, List.length_cons, List.length_nil]
        by_cases w : i = p
        · subst w
          rw [rx_u_same, if_pos (by omega), show 0 + (i - i) = 0 by omega]
          rfl
        · rw [rx_u_k _ _ w]
          by_cases w2 : i = p + 1
          · subst w2
            rw [rx_u_same, if_pos (by omega), show 0 + (p + 1 - p) = 1 by omega]
            rfl
          · rw [rx_u_k _ _ w2, if_neg (by omega)]
      · rw [rx_u_r _ _ hr, rx_u_r _ _ hr, va_up_ne _ _ hr]
    rw [← em]
    rw [e] at hp ⊢
    refine ru_iload_n d_In_getChars_0 rfl rfl ?_
    refine ru_istore d_In_getChars_1 (by decide) ?_
    refine ru_iload_n d_In_getChars_3 rfl rfl ?_
    refine ru_if_ge (tgt := 11) d_In_getChars_4 (by decide) (fun h4 => ?_) (fun h4 => absurd (nI_le (a := 0) (b := k) (by omega) (by omega)) h4)
    replace h4 := nm_le (a := 0) (b := k) (by omega) (by omega) h4
    refine ru_iconst (v := 0) d_In_getChars_11 (by decide) ?_
    refine ru_istore d_In_getChars_12 (by decide) ?_
    refine ru_iload d_In_getChars_14 rfl ?_
    refine ru_if_ne (tgt := 22) d_In_getChars_16 (by decide) (fun h16 => absurd h16 (by decide)) (fun h16 => ?_)
    refine ru_iload_n d_In_getChars_19 rfl rfl ?_
    refine ru_ineg d_In_getChars_20 ?_
    refine ru_istore_n d_In_getChars_21 rfl (by decide) ?_
    refine ru_iload_n d_In_getChars_22 rfl rfl ?_
    refine ru_bipush (v := (-100)) d_In_getChars_23 (by decide) ?_
    refine ru_icmp_gt (tgt := 72) d_In_getChars_25 (by decide) (fun h25 => ?_) (fun h25 => absurd (Int32.not_le.mp z.1) h25)
    refine ru_aload_n d_In_getChars_72 rfl rfl ?_
    refine ru_iinc (v := nI (p + 1)) d_In_getChars_73 rfl (nm_dec (c := p + 2) (by omega)) (by decide) ?_
    refine ru_iload d_In_getChars_76 rfl ?_
    refine ru_gets d_In_getChars_78 (Or.inl (rx_in (tm_4 (List.mem_of_getElem? (i := 158) rfl)) rfl)) (List.mem_of_getElem? (i := 5) rfl) ?_
    refine ru_iload_n d_In_getChars_81 rfl rfl ?_
    refine ru_ineg d_In_getChars_82 ?_
    refine ru_eqi neg_neg_nI ?_
    refine ru_tb (i := k) d_In_getChars_83 (fun ev U h => h.2.2.2.2.2.2.1) (by omega) (by omega) ?_
    refine ru_bastN (j := (p + 1)) d_In_getChars_84 hi (by omega) (by omega) ?_
    rw [show vp_nar .byte (rx_d1 k) = nI (48 + k % 10) from asc_nar0 d1_asc]
    refine ru_iload_n d_In_getChars_85 rfl rfl ?_
    refine ru_bipush (v := (-9)) d_In_getChars_86 (by decide) ?_
    refine ru_icmp_ge (tgt := 104) d_In_getChars_88 (by decide) (fun h88 => absurd h88 z.2) (fun h88 => ?_)
    refine ru_aload_n d_In_getChars_91 rfl rfl ?_
    refine ru_iinc (v := nI p) d_In_getChars_92 rfl (nm_dec (c := p + 1) (by omega)) (by decide) ?_
    refine ru_iload d_In_getChars_95 rfl ?_
    refine ru_gets d_In_getChars_97 (Or.inl (rx_in (tm_4 (List.mem_of_getElem? (i := 160) rfl)) rfl)) (List.mem_of_getElem? (i := 6) rfl) ?_
    refine ru_iload_n d_In_getChars_100 rfl rfl ?_
    refine ru_ineg d_In_getChars_101 ?_
    refine ru_eqi neg_neg_nI ?_
    refine ru_tb (i := k) d_In_getChars_102 (fun ev U h => h.2.2.2.2.2.2.2.1) (by omega) (by omega) ?_
    refine ru_bastN (j := p) d_In_getChars_103 hi (by omega) (by omega) ?_
    rw [show vp_nar .byte (rx_d10 k) = nI (48 + k / 10) from asc_nar0 (d10_asc h2)]
    refine ru_iload d_In_getChars_104 rfl ?_
    refine ru_if_eq (tgt := 118) d_In_getChars_106 (by decide) (fun h106 => ?_) (fun h106 => absurd h106 (by decide))
    refine ru_iload d_In_getChars_118 rfl ?_
    refine ru_iret d_In_getChars_120 rfl ?_
    exact ⟨⟨_, rfl⟩, rfl⟩
theorem dec_len2 (h1 : 1 ≤ k) (h2 : k < 100) : (dec k).length = dsz k := by
  unfold dsz
  by_cases q : k < 10
  · rw [dec_1 k q, if_pos q]; rfl
  · rw [dec_2 k h2 (by omega), if_neg q]; rfl
theorem dec_get {i : Nat} {x : Int32} (h1 : 1 ≤ k) (h2 : k < 100) (h : (dec k)[i]? = some x) : (dec k).getD i 0 = x ∧ asc x := by
  refine ⟨by rw [List.getD_eq_getElem?_getD, h]; rfl, ?_⟩
  by_cases q : k < 10
  · rw [dec_1 k q] at h
    cases i with
    | zero => cases h; exact d1_asc
    | succ i => cases h
  · rw [dec_2 k h2 (by omega)] at h
    cases i with
    | zero => cases h; exact d10_asc h2
    | succ i =>
      cases i with
      | zero => cases h; exact d1_asc
      | succ i => cases h
theorem jl_appendI (hL : LAY nx ct mr) (h : SbI nx ct mi mr vb l c) (h1 : 1 ≤ k) (h2 : k < 100) (hm3 : cp c (l.length + (dec k).length) ≤ 200000) : rx_Calls y_AB_append_I M_AB_append_I 4 (cp c (l.length + (dec k).length) - c) (2 * (cp c (l.length + (dec k).length) - c)) [.ref 272, .int (nI k)] (nx, ct, mi, ml, mr) (sbP (some (.ref 272)) nx ct mi ml mr (l ++ dec k) (cp c (l.length + (dec k).length))) := by
  refine rx_enter (by decide +kernel) rfl rfl (Nat.le_of_ble_eq_true rfl) ?_
  have hc := h.2.2.2.2.2.2.2.1
  have hl := h.2.2.2.2.2.2.1
  have ez := dec_len2 h1 h2
  have dz : dsz k ≤ 2 := by unfold dsz; split <;> omega
  rw [ez] at hm3 ⊢
  have g1 := cp_ge c (l.length + dsz k)
  refine ru_aload_n d_AB_append_I_0 rfl rfl ?_
  refine ru_getI d_AB_append_I_1 lf_AB_79 (ly hL 272 10 0) rfl ?_
  refine ru_eqi h.2.2.2.2.2.1 ?_
  refine ru_istore_n d_AB_append_I_4 rfl (by decide) ?_
  refine ru_iload_n d_AB_append_I_5 rfl rfl ?_
  refine ru_iload_n d_AB_append_I_6 rfl rfl ?_
  refine ru_mcs (Nat.zero_add _).symm (Nat.zero_add _).symm ?_
  refine ru_callS (mc := cp c (l.length + dsz k) - c) (ms := 2 * (cp c (l.length + dsz k) - c)) d_AB_append_I_7 lm_AB_245 (jl_stringSize _ h1 h2) (by decide) rfl (Nat.le_of_ble_eq_true rfl) ?_
  rintro v τ ⟨rfl, rfl⟩
  refine ru_iadd d_AB_append_I_10 ?_
  refine ru_eqi (nm_add l.length (dsz k) : _ = nI (l.length + (dsz k))) ?_
  refine ru_istore_n d_AB_append_I_11 rfl (by decide) ?_
  refine ru_aload_n d_AB_append_I_12 rfl rfl ?_
  refine ru_iload_n d_AB_append_I_13 rfl rfl ?_
  refine ru_callU (mc := 0) (ms := 0) d_AB_append_I_14 lm_AB_100 (jl_ensure hL h (by omega) hm3) (rx_recv_is (ly hL 272 10 0) kx_SB) (by decide) rfl (Nat.le_of_ble_eq_true rfl) ?_
  rintro v τ ⟨rfl, nx1, ct1, m1, l1, r1, vb1, rfl, f1, hL1, s1⟩
  have s2 := s1.put (f := fun i => (dec k).getD i 0) (l2 := dec k) hL1 (by rw [ez]; omega) (fun i x hx => dec_get h1 h2 hx)
  have ne : 272 ≠ vb1 := by have := s1.2.1; omega
  have e1 : va_up m1 vb1 (va_cpy (fun i => (dec k).getD i 0) (m1 vb1) 0 l.length (dec k).length) 272 = m1 272 := va_up_ne _ _ ne
  refine ru_aload_n d_AB_append_I_17 rfl rfl ?_
  refine ru_callU (mc := 0) (ms := 0) d_AB_append_I_18 lm_AB_83 (jl_sbLatin1 hL1 s1.2.2.2.2.1) (rx_recv_is (ly hL1 272 10 0) kx_SB) (by decide) rfl (Nat.le_of_ble_eq_true rfl) ?_
  rintro v τ ⟨rfl, rfl⟩
  refine ru_if_eq (tgt := 37) d_AB_append_I_21 (by decide) (fun h21 => absurd h21 (by decide)) (fun h21 => ?_)
  refine ru_iload_n d_AB_append_I_24 rfl rfl ?_
  refine ru_iload_n d_AB_append_I_25 rfl rfl ?_
  refine ru_aload_n d_AB_append_I_26 rfl rfl ?_
  refine ru_getR d_AB_append_I_27 lf_AB_15 (ly hL1 272 10 0) rfl s1.1 ?_
  refine ru_callS (mc := 0) (ms := 0) d_AB_append_I_30 lm_AB_248 (jl_getChars s1.is h1 h2 (by omega) (by omega)) (by decide) rfl (Nat.le_of_ble_eq_true rfl) ?_
  rintro v τ ⟨⟨x, rfl⟩, rfl⟩
  refine ru_pop d_AB_append_I_33 rfl ?_
  refine ru_goto (tgt := 48) d_AB_append_I_34 (by decide) ?_
  refine ru_aload_n d_AB_append_I_48 rfl rfl ?_
  refine ru_iload_n d_AB_append_I_49 rfl rfl ?_
  refine ru_putI d_AB_append_I_50 lf_AB_79 (ly hL1 272 10 0) rfl (fun q hq => by cases hq; exact Or.inl rfl) ⟨rfl, rfl⟩ ?_
  refine ru_aload_n d_AB_append_I_53 rfl rfl ?_
  refine ru_aret d_AB_append_I_54 rfl (Or.inl ⟨_, rfl⟩) ?_
  rw [ez] at s2
  refine ⟨rfl, _, _, _, _, _, vb1, rfl, f1.trans ⟨Nat.le_refl _, fun x hx => ⟨rfl, fun a b => ⟨?_, rfl, rfl⟩⟩⟩, hL1, by rw [ez]; exact s2⟩
  have nv : x ≠ vb1 := by have := s1.2.1; omega
  rw [rx_u_r _ _ a, va_up_ne _ _ nv]
theorem js_appendI (hL : LAY nx ct mr) (h : SbI nx ct mi mr vb l c) (h1 : 1 ≤ k) (h2 : k < 100) (hm3 : cp c (l.length + (dec k).length) ≤ 200000) : rx_Calls y_SB_append_I M_SB_append_I 5 (cp c (l.length + (dec k).length) - c) (2 * (cp c (l.length + (dec k).length) - c)) [.ref 272, .int (nI k)] (nx, ct, mi, ml, mr) (sbP (some (.ref 272)) nx ct mi ml mr (l ++ dec k) (cp c (l.length + (dec k).length))) := by
  refine rx_enter (by decide +kernel) rfl rfl (Nat.le_of_ble_eq_true rfl) ?_
  refine ru_aload_n d_SB_append_I_0 rfl rfl ?_
  refine ru_iload_n d_SB_append_I_1 rfl rfl ?_
  refine ru_callSU (mc := 0) (ms := 0) d_SB_append_I_2 lm_SB_53 (jl_appendI hL h h1 h2 hm3) (ly hL 272 10 0) kx_SB (by decide) rfl (Nat.le_of_ble_eq_true rfl) ?_
  rintro v τ ⟨rfl, h2⟩
  refine ru_pop d_SB_append_I_5 rfl ?_
  refine ru_aload_n d_SB_append_I_6 rfl rfl ?_
  refine ru_aret d_SB_append_I_7 rfl (Or.inl ⟨_, rfl⟩) ?_
  exact ⟨rfl, h2⟩
theorem jl_setLength0 (hL : LAY nx ct mr) (h : SbI nx ct mi mr vb l c) : rx_Calls y_AB_setLength M_AB_setLength 4 0 0 [.ref 272, .int (nI 0)] (nx, ct, mi, ml, mr) (sbP none nx ct mi ml mr [] c) := by
  refine rx_enter (by decide +kernel) rfl rfl (Nat.le_of_ble_eq_true rfl) ?_
  have hc := h.2.2.2.2.2.2.2.1
  have hl := h.2.2.2.2.2.2.1
  have en := jl_ensure (ml := ml) (m := 0) hL h (by omega) (by rw [cp_id (Nat.zero_le c)]; exact hc.2)
  rw [cp_id (Nat.zero_le c), Nat.sub_self] at en
  have fin : ∀ nx1 ct1 m1 l1 r1 vb1 (b : Bool), frW nx nx1 ct ct1 mi m1 ml l1 mr r1 → LAY nx1 ct1 r1 → SbI nx1 ct1 m1 r1 vb1 l c → sbP none nx ct mi ml mr [] c none (nx1, ct1, rx_u (if b then rx_u m1 272 2 1 else m1) 272 3 (nI 0), l1, r1) := by
    intro nx1 ct1 m1 l1 r1 vb1 b f1 hL1 s1
    have ne : vb1 ≠ 272 := by have := s1.2.1; omega
    have q : ∀ x, x ≠ 272 → (if b then rx_u m1 272 2 1 else m1) x = m1 x := fun x hx => by
      cases b
      · rfl
      · exact rx_u_r _ _ hx
    refine ⟨rfl, _, _, _, _, _, vb1, rfl, f1.trans ⟨Nat.le_refl _, fun x hx => ⟨rfl, fun a d => ⟨?_, rfl, rfl⟩⟩⟩, hL1, ?_⟩
    · rw [rx_u_r _ _ a, q x a]
    · obtain ⟨s1', s2, s3, s4, s5, s6, s7, s8, s9, s10⟩ := s1
      refine ⟨s1', s2, s3, s4, ?_, rx_u_same _ _ _ _, Nat.zero_le _, s8, (fun i x hx => by cases hx), fun i hi => ?_⟩
      · rw [rx_u_k _ _ (by decide)]
        cases b
        · exact s5
        · show rx_u m1 272 2 1 272 1 = 0
          rw [rx_u_k _ _ (by decide)]; exact s5
      · rw [rx_u_r _ _ ne, q _ ne]; exact s10 i hi
  refine ru_iload_n d_AB_setLength_0 rfl rfl ?_
  refine ru_if_ge (tgt := 13) d_AB_setLength_1 (by decide) (fun h1 => ?_) (fun h1 => absurd h1 (by decide))
  refine ru_aload_n d_AB_setLength_13 rfl rfl ?_
  refine ru_iload_n d_AB_setLength_14 rfl rfl ?_
  refine ru_callU (mc := 0) (ms := 0) d_AB_setLength_15 lm_AB_100 en (rx_recv_is (ly hL 272 10 0) kx_SB) (by decide) rfl (Nat.le_of_ble_eq_true rfl) ?_
  rintro v τ ⟨rfl, nx1, ct1, m1, l1, r1, vb1, rfl, f1, hL1, s1⟩
  refine ru_aload_n d_AB_setLength_18 rfl rfl ?_
  refine ru_getI d_AB_setLength_19 lf_AB_79 (ly hL1 272 10 0) rfl ?_
  refine ru_eqi s1.2.2.2.2.2.1 ?_
  refine ru_iload_n d_AB_setLength_22 rfl rfl ?_
  refine ru_icmp_ge (tgt := 63) d_AB_setLength_23 (by decide) (fun h23 => ?_) (fun h23 => absurd (nI_le (a := 0) (b := l.length) (by omega) (by omega)) h23)
  replace h23 := nm_le (a := 0) (b := l.length) (by omega) (by omega) h23
  refine ru_aload_n d_AB_setLength_63 rfl rfl ?_
  refine ru_getI d_AB_setLength_64 lf_AB_79 (ly hL1 272 10 0) rfl ?_
  refine ru_eqi s1.2.2.2.2.2.1 ?_
  refine ru_iload_n d_AB_setLength_67 rfl rfl ?_
  refine ru_icmp_le (tgt := 76) d_AB_setLength_68 (by decide) (fun h68 => ?_) (fun h68 => ?_)
  · skip
    replace h68 := nm_le (a := l.length) (b := 0) (by omega) (by omega) h68
    refine ru_aload_n d_AB_setLength_76 rfl rfl ?_
    refine ru_iload_n d_AB_setLength_77 rfl rfl ?_
    refine ru_putI d_AB_setLength_78 lf_AB_79 (ly hL1 272 10 0) rfl (fun q hq => by cases hq; exact Or.inl rfl) ⟨rfl, rfl⟩ ?_
    refine ru_vret d_AB_setLength_81 rfl ?_
    first | exact fin _ _ _ _ _ vb1 true f1 hL1 s1 | exact fin _ _ _ _ _ vb1 false f1 hL1 s1
  · skip
    replace h68 := nm_nle (a := l.length) (b := 0) (by omega) (by omega) h68
    refine ru_aload_n d_AB_setLength_71 rfl rfl ?_
    refine ru_iconst (v := 1) d_AB_setLength_72 (by decide) ?_
    refine ru_putI d_AB_setLength_73 lf_AB_73 (ly hL1 272 10 0) rfl (fun q hq => by cases hq; exact Or.inl rfl) ⟨rfl, rfl⟩ ?_
    refine ru_aload_n d_AB_setLength_76 rfl rfl ?_
    refine ru_iload_n d_AB_setLength_77 rfl rfl ?_
    refine ru_putI d_AB_setLength_78 lf_AB_79 (ly hL1 272 10 0) rfl (fun q hq => by cases hq; exact Or.inl rfl) ⟨rfl, rfl⟩ ?_
    refine ru_vret d_AB_setLength_81 rfl ?_
    first | exact fin _ _ _ _ _ vb1 true f1 hL1 s1 | exact fin _ _ _ _ _ vb1 false f1 hL1 s1
theorem js_setLength0 (hL : LAY nx ct mr) (h : SbI nx ct mi mr vb l c) : rx_Calls y_SB_setLength M_SB_setLength 5 0 0 [.ref 272, .int (nI 0)] (nx, ct, mi, ml, mr) (sbP none nx ct mi ml mr [] c) := by
  refine rx_enter (by decide +kernel) rfl rfl (Nat.le_of_ble_eq_true rfl) ?_
  refine ru_aload_n d_SB_setLength_0 rfl rfl ?_
  refine ru_iload_n d_SB_setLength_1 rfl rfl ?_
  refine ru_callSU (mc := 0) (ms := 0) d_SB_setLength_2 lm_SB_333 (jl_setLength0 hL h) (ly hL 272 10 0) kx_SB (by decide) rfl (Nat.le_of_ble_eq_true rfl) ?_
  rintro v τ ⟨rfl, h2⟩
  refine ru_vret d_SB_setLength_5 rfl ?_
  exact ⟨rfl, h2⟩
theorem jl_sbLength (hL : LAY nx ct mr) (h : SbI nx ct mi mr vb l c) : rx_Calls y_AB_length M_AB_length 0 0 0 [.ref 272] (nx, ct, mi, ml, mr) (fun v τ => v = some (.int (nI l.length)) ∧ τ = (nx, ct, mi, ml, mr)) := by
  refine rx_enter (by decide +kernel) rfl rfl (Nat.le_of_ble_eq_true rfl) ?_
  refine ru_aload_n d_AB_length_0 rfl rfl ?_
  refine ru_getI d_AB_length_1 lf_AB_79 (ly hL 272 10 0) rfl ?_
  refine ru_eqi h.2.2.2.2.2.1 ?_
  refine ru_iret d_AB_length_4 rfl ?_
  exact ⟨rfl, rfl⟩
theorem js_length (hL : LAY nx ct mr) (h : SbI nx ct mi mr vb l c) : rx_Calls y_SB_length M_SB_length 1 0 0 [.ref 272] (nx, ct, mi, ml, mr) (fun v τ => v = some (.int (nI l.length)) ∧ τ = (nx, ct, mi, ml, mr)) := by
  refine rx_enter (by decide +kernel) rfl rfl (Nat.le_of_ble_eq_true rfl) ?_
  refine ru_aload_n d_SB_length_0 rfl rfl ?_
  refine ru_callSU (mc := 0) (ms := 0) d_SB_length_1 lm_SB_343 (jl_sbLength hL h) (ly hL 272 10 0) kx_SB (by decide) rfl (Nat.le_of_ble_eq_true rfl) ?_
  intro v τ h
  obtain ⟨rfl, rfl⟩ := h
  refine ru_iret d_SB_length_4 rfl ?_
  exact ⟨rfl, rfl⟩
theorem jl_sbCharAt {i : Nat} {x : Int32} (hL : LAY nx ct mr) (h : SbI nx ct mi mr vb l c) (hx : l[i]? = some x) : rx_Calls y_AB_charAt M_AB_charAt 2 0 0 [.ref 272, .int (nI i)] (nx, ct, mi, ml, mr) (fun v τ => v = some (.int x) ∧ τ = (nx, ct, mi, ml, mr)) := by
  refine rx_enter (by decide +kernel) rfl rfl (Nat.le_of_ble_eq_true rfl) ?_
  have hc := h.2.2.2.2.2.2.2.1
  have hl := h.2.2.2.2.2.2.1
  have hi : i < l.length := (List.getElem?_eq_some_iff.mp hx).1
  have ex := h.2.2.2.2.2.2.2.2.1 i x hx
  have ax : asc x := ex ▸ h.2.2.2.2.2.2.2.2.2 i (by omega)
  refine ru_aload_n d_AB_charAt_0 rfl rfl ?_
  refine ru_getI d_AB_charAt_1 lf_AB_22 (ly hL 272 10 0) rfl ?_
  refine ru_eqi h.2.2.2.2.1 ?_
  refine ru_istore_n d_AB_charAt_4 rfl (by decide) ?_
  refine ru_aload_n d_AB_charAt_5 rfl rfl ?_
  refine ru_getR d_AB_charAt_6 lf_AB_15 (ly hL 272 10 0) rfl h.1 ?_
  refine ru_astore_n d_AB_charAt_9 rfl (by decide) ?_
  refine ru_aload_n d_AB_charAt_10 rfl rfl ?_
  refine ru_getI d_AB_charAt_11 lf_AB_79 (ly hL 272 10 0) rfl ?_
  refine ru_eqi h.2.2.2.2.2.1 ?_
  refine ru_aload_n d_AB_charAt_14 rfl rfl ?_
  refine ru_alen (v := nI c) d_AB_charAt_15 h.is (by decide) (fun _ => rfl) rfl ?_
  refine ru_eqi rfl ?_
  refine ru_iload_n d_AB_charAt_16 rfl rfl ?_
  refine ru_ishr d_AB_charAt_17 ?_
  refine ru_eqi (sh_0 _) ?_
  refine ru_callS (mc := 0) (ms := 0) d_AB_charAt_18 lm_AB_138 (jl_min (by omega) (by omega)) (by decide) rfl (Nat.le_of_ble_eq_true rfl) ?_
  rintro v τ ⟨rfl, rfl⟩
  rw [show min l.length c = l.length by omega]
  refine ru_istore d_AB_charAt_21 (by decide) ?_
  refine ru_iload_n d_AB_charAt_23 rfl rfl ?_
  refine ru_iload d_AB_charAt_24 rfl ?_
  refine ru_callS (mc := 0) (ms := 0) d_AB_charAt_26 lm_AB_144 (jl_check hi (by omega)) (by decide) rfl (Nat.le_of_ble_eq_true rfl) ?_
  intro v τ h
  obtain ⟨rfl, rfl⟩ := h
  refine ru_iload_n d_AB_charAt_29 rfl rfl ?_
  refine ru_if_ne (tgt := 42) d_AB_charAt_30 (by decide) (fun h30 => absurd h30 (by decide)) (fun h30 => ?_)
  refine ru_aload_n d_AB_charAt_33 rfl rfl ?_
  refine ru_iload_n d_AB_charAt_34 rfl rfl ?_
  refine ru_baldN (j := i) d_AB_charAt_35 h.is (by omega) (by omega) ?_
  rw [ex]
  refine ru_sipush (v := 255) d_AB_charAt_36 (by decide) ?_
  refine ru_iand d_AB_charAt_39 ?_
  refine ru_eqi (ch_nar ax).1 ?_
  refine ru_i2c d_AB_charAt_40 ?_
  refine ru_eqi (ch_nar ax).2.1 ?_
  refine ru_zret (ty := .char) d_AB_charAt_41 rfl (ch_narC ax) ?_
  exact ⟨rfl, rfl⟩
theorem js_charAt {i : Nat} {x : Int32} (hL : LAY nx ct mr) (h : SbI nx ct mi mr vb l c) (hx : l[i]? = some x) (ax : asc x) : rx_Calls y_SB_charAt M_SB_charAt 3 0 0 [.ref 272, .int (nI i)] (nx, ct, mi, ml, mr) (fun v τ => v = some (.int x) ∧ τ = (nx, ct, mi, ml, mr)) := by
  refine rx_enter (by decide +kernel) rfl rfl (Nat.le_of_ble_eq_true rfl) ?_
  refine ru_aload_n d_SB_charAt_0 rfl rfl ?_
  refine ru_iload_n d_SB_charAt_1 rfl rfl ?_
  refine ru_callSU (mc := 0) (ms := 0) d_SB_charAt_2 lm_SB_329 (jl_sbCharAt hL h hx) (ly hL 272 10 0) kx_SB (by decide) rfl (Nat.le_of_ble_eq_true rfl) ?_
  intro v τ h
  obtain ⟨rfl, rfl⟩ := h
  refine ru_zret (ty := .char) d_SB_charAt_5 rfl (ch_narC ax) ?_
  exact ⟨rfl, rfl⟩
end
