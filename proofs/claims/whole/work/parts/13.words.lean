/-! The class: letters and digits, Words -/
theorem d_RT_isLetterOrDigit_0 : decode M_RT_isLetterOrDigit.2.1 0 = .ok (.iload_n 0, 1) := by decide +kernel
theorem d_RT_isLetterOrDigit_1 : decode M_RT_isLetterOrDigit.2.1 1 = .ok (.bipush 97, 2) := by decide +kernel
theorem d_RT_isLetterOrDigit_3 : decode M_RT_isLetterOrDigit.2.1 3 = .ok (.if_icmp .lt 9, 3) := by decide +kernel
theorem d_RT_isLetterOrDigit_6 : decode M_RT_isLetterOrDigit.2.1 6 = .ok (.iload_n 0, 1) := by decide +kernel
theorem d_RT_isLetterOrDigit_7 : decode M_RT_isLetterOrDigit.2.1 7 = .ok (.bipush 122, 2) := by decide +kernel
theorem d_RT_isLetterOrDigit_9 : decode M_RT_isLetterOrDigit.2.1 9 = .ok (.if_icmp .le 15, 3) := by decide +kernel
theorem d_RT_isLetterOrDigit_12 : decode M_RT_isLetterOrDigit.2.1 12 = .ok (.iload_n 0, 1) := by decide +kernel
theorem d_RT_isLetterOrDigit_13 : decode M_RT_isLetterOrDigit.2.1 13 = .ok (.bipush 48, 2) := by decide +kernel
theorem d_RT_isLetterOrDigit_15 : decode M_RT_isLetterOrDigit.2.1 15 = .ok (.if_icmp .lt 13, 3) := by decide +kernel
theorem d_RT_isLetterOrDigit_18 : decode M_RT_isLetterOrDigit.2.1 18 = .ok (.iload_n 0, 1) := by decide +kernel
theorem d_RT_isLetterOrDigit_19 : decode M_RT_isLetterOrDigit.2.1 19 = .ok (.bipush 57, 2) := by decide +kernel
theorem d_RT_isLetterOrDigit_21 : decode M_RT_isLetterOrDigit.2.1 21 = .ok (.if_icmp .gt 7, 3) := by decide +kernel
theorem d_RT_isLetterOrDigit_24 : decode M_RT_isLetterOrDigit.2.1 24 = .ok (.iconst 1, 1) := by decide +kernel
theorem d_RT_isLetterOrDigit_25 : decode M_RT_isLetterOrDigit.2.1 25 = .ok (.goto 4, 3) := by decide +kernel
theorem d_RT_isLetterOrDigit_28 : decode M_RT_isLetterOrDigit.2.1 28 = .ok (.iconst 0, 1) := by decide +kernel
theorem d_RT_isLetterOrDigit_29 : decode M_RT_isLetterOrDigit.2.1 29 = .ok (.ireturn, 1) := by decide +kernel
theorem d_RT_slotOf_0 : decode M_RT_slotOf.2.1 0 = .ok (.iload_n 0, 1) := by decide +kernel
theorem d_RT_slotOf_1 : decode M_RT_slotOf.2.1 1 = .ok (.bipush 16, 2) := by decide +kernel
theorem d_RT_slotOf_3 : decode M_RT_slotOf.2.1 3 = .ok (.imul, 1) := by decide +kernel
theorem d_RT_slotOf_4 : decode M_RT_slotOf.2.1 4 = .ok (.iload_n 1, 1) := by decide +kernel
theorem d_RT_slotOf_5 : decode M_RT_slotOf.2.1 5 = .ok (.iadd, 1) := by decide +kernel
theorem d_RT_slotOf_6 : decode M_RT_slotOf.2.1 6 = .ok (.ireturn, 1) := by decide +kernel
theorem d_RT_kindOf_0 : decode M_RT_kindOf.2.1 0 = .ok (.iload_n 0, 1) := by decide +kernel
theorem d_RT_kindOf_1 : decode M_RT_kindOf.2.1 1 = .ok (.iconst (-1), 1) := by decide +kernel
theorem d_RT_kindOf_2 : decode M_RT_kindOf.2.1 2 = .ok (.if_icmp .ne 7, 3) := by decide +kernel
theorem d_RT_kindOf_5 : decode M_RT_kindOf.2.1 5 = .ok (.iconst (-1), 1) := by decide +kernel
theorem d_RT_kindOf_6 : decode M_RT_kindOf.2.1 6 = .ok (.goto 7, 3) := by decide +kernel
theorem d_RT_kindOf_9 : decode M_RT_kindOf.2.1 9 = .ok (.iload_n 0, 1) := by decide +kernel
theorem d_RT_kindOf_10 : decode M_RT_kindOf.2.1 10 = .ok (.bipush 16, 2) := by decide +kernel
theorem d_RT_kindOf_12 : decode M_RT_kindOf.2.1 12 = .ok (.idiv, 1) := by decide +kernel
theorem d_RT_kindOf_13 : decode M_RT_kindOf.2.1 13 = .ok (.ireturn, 1) := by decide +kernel
theorem d_RT_thingOf_0 : decode M_RT_thingOf.2.1 0 = .ok (.iload_n 0, 1) := by decide +kernel
theorem d_RT_thingOf_1 : decode M_RT_thingOf.2.1 1 = .ok (.iconst (-1), 1) := by decide +kernel
theorem d_RT_thingOf_2 : decode M_RT_thingOf.2.1 2 = .ok (.if_icmp .ne 7, 3) := by decide +kernel
theorem d_RT_thingOf_5 : decode M_RT_thingOf.2.1 5 = .ok (.iconst (-1), 1) := by decide +kernel
theorem d_RT_thingOf_6 : decode M_RT_thingOf.2.1 6 = .ok (.goto 7, 3) := by decide +kernel
theorem d_RT_thingOf_9 : decode M_RT_thingOf.2.1 9 = .ok (.iload_n 0, 1) := by decide +kernel
theorem d_RT_thingOf_10 : decode M_RT_thingOf.2.1 10 = .ok (.bipush 16, 2) := by decide +kernel
theorem d_RT_thingOf_12 : decode M_RT_thingOf.2.1 12 = .ok (.irem, 1) := by decide +kernel
theorem d_RT_thingOf_13 : decode M_RT_thingOf.2.1 13 = .ok (.ireturn, 1) := by decide +kernel
theorem d_Wo_append_0 : decode M_Wo_append.2.1 0 = .ok (.iload_n 1, 1) := by decide +kernel
theorem d_Wo_append_1 : decode M_Wo_append.2.1 1 = .ok (.bipush 32, 2) := by decide +kernel
theorem d_Wo_append_3 : decode M_Wo_append.2.1 3 = .ok (.if_icmp .eq 28, 3) := by decide +kernel
theorem d_Wo_append_6 : decode M_Wo_append.2.1 6 = .ok (.iload_n 1, 1) := by decide +kernel
theorem d_Wo_append_7 : decode M_Wo_append.2.1 7 = .ok (.bipush 10, 2) := by decide +kernel
theorem d_Wo_append_9 : decode M_Wo_append.2.1 9 = .ok (.if_icmp .eq 22, 3) := by decide +kernel
theorem d_Wo_append_12 : decode M_Wo_append.2.1 12 = .ok (.iload_n 1, 1) := by decide +kernel
theorem d_Wo_append_13 : decode M_Wo_append.2.1 13 = .ok (.bipush 59, 2) := by decide +kernel
theorem d_Wo_append_15 : decode M_Wo_append.2.1 15 = .ok (.if_icmp .eq 16, 3) := by decide +kernel
theorem d_Wo_append_18 : decode M_Wo_append.2.1 18 = .ok (.iload_n 1, 1) := by decide +kernel
theorem d_Wo_append_19 : decode M_Wo_append.2.1 19 = .ok (.bipush 46, 2) := by decide +kernel
theorem d_Wo_append_21 : decode M_Wo_append.2.1 21 = .ok (.if_icmp .eq 10, 3) := by decide +kernel
theorem d_Wo_append_24 : decode M_Wo_append.2.1 24 = .ok (.iload_n 1, 1) := by decide +kernel
theorem d_Wo_append_25 : decode M_Wo_append.2.1 25 = .ok (.invokestatic 15, 3) := by decide +kernel
theorem d_Wo_append_28 : decode M_Wo_append.2.1 28 = .ok (.ifCond .eq 7, 3) := by decide +kernel
theorem d_Wo_append_31 : decode M_Wo_append.2.1 31 = .ok (.iconst 1, 1) := by decide +kernel
theorem d_Wo_append_32 : decode M_Wo_append.2.1 32 = .ok (.goto 4, 3) := by decide +kernel
theorem d_Wo_append_35 : decode M_Wo_append.2.1 35 = .ok (.iconst 0, 1) := by decide +kernel
theorem d_Wo_append_36 : decode M_Wo_append.2.1 36 = .ok (.istore_n 2, 1) := by decide +kernel
theorem d_Wo_append_37 : decode M_Wo_append.2.1 37 = .ok (.iload_n 2, 1) := by decide +kernel
theorem d_Wo_append_38 : decode M_Wo_append.2.1 38 = .ok (.ifCond .eq 13, 3) := by decide +kernel
theorem d_Wo_append_41 : decode M_Wo_append.2.1 41 = .ok (.aload_n 0, 1) := by decide +kernel
theorem d_Wo_append_42 : decode M_Wo_append.2.1 42 = .ok (.getfield 19, 3) := by decide +kernel
theorem d_Wo_append_45 : decode M_Wo_append.2.1 45 = .ok (.sipush 3000, 3) := by decide +kernel
theorem d_Wo_append_48 : decode M_Wo_append.2.1 48 = .ok (.if_icmp .lt 5, 3) := by decide +kernel
theorem d_Wo_append_51 : decode M_Wo_append.2.1 51 = .ok (.iconst 0, 1) := by decide +kernel
theorem d_Wo_append_52 : decode M_Wo_append.2.1 52 = .ok (.ireturn, 1) := by decide +kernel
theorem d_Wo_append_53 : decode M_Wo_append.2.1 53 = .ok (.aload_n 0, 1) := by decide +kernel
theorem d_Wo_append_54 : decode M_Wo_append.2.1 54 = .ok (.getfield 9, 3) := by decide +kernel
theorem d_Wo_append_57 : decode M_Wo_append.2.1 57 = .ok (.aload_n 0, 1) := by decide +kernel
theorem d_Wo_append_58 : decode M_Wo_append.2.1 58 = .ok (.getfield 19, 3) := by decide +kernel
theorem d_Wo_append_61 : decode M_Wo_append.2.1 61 = .ok (.iload_n 1, 1) := by decide +kernel
theorem d_Wo_append_62 : decode M_Wo_append.2.1 62 = .ok (.i2c, 1) := by decide +kernel
theorem d_Wo_append_63 : decode M_Wo_append.2.1 63 = .ok (.castore, 1) := by decide +kernel
theorem d_Wo_append_64 : decode M_Wo_append.2.1 64 = .ok (.aload_n 0, 1) := by decide +kernel
theorem d_Wo_append_65 : decode M_Wo_append.2.1 65 = .ok (.dup, 1) := by decide +kernel
theorem d_Wo_append_66 : decode M_Wo_append.2.1 66 = .ok (.getfield 19, 3) := by decide +kernel
theorem d_Wo_append_69 : decode M_Wo_append.2.1 69 = .ok (.iconst 1, 1) := by decide +kernel
theorem d_Wo_append_70 : decode M_Wo_append.2.1 70 = .ok (.iadd, 1) := by decide +kernel
theorem d_Wo_append_71 : decode M_Wo_append.2.1 71 = .ok (.putfield 19, 3) := by decide +kernel
theorem d_Wo_append_74 : decode M_Wo_append.2.1 74 = .ok (.iconst 1, 1) := by decide +kernel
theorem d_Wo_append_75 : decode M_Wo_append.2.1 75 = .ok (.ireturn, 1) := by decide +kernel
theorem d_Wo_atEnd_0 : decode M_Wo_atEnd.2.1 0 = .ok (.aload_n 0, 1) := by decide +kernel
theorem d_Wo_atEnd_1 : decode M_Wo_atEnd.2.1 1 = .ok (.getfield 35, 3) := by decide +kernel
theorem d_Wo_atEnd_4 : decode M_Wo_atEnd.2.1 4 = .ok (.aload_n 0, 1) := by decide +kernel
theorem d_Wo_atEnd_5 : decode M_Wo_atEnd.2.1 5 = .ok (.getfield 23, 3) := by decide +kernel
theorem d_Wo_atEnd_8 : decode M_Wo_atEnd.2.1 8 = .ok (.if_icmp .ne 7, 3) := by decide +kernel
theorem d_Wo_atEnd_11 : decode M_Wo_atEnd.2.1 11 = .ok (.iconst 1, 1) := by decide +kernel
theorem d_Wo_atEnd_12 : decode M_Wo_atEnd.2.1 12 = .ok (.goto 4, 3) := by decide +kernel
theorem d_Wo_atEnd_15 : decode M_Wo_atEnd.2.1 15 = .ok (.iconst 0, 1) := by decide +kernel
theorem d_Wo_atEnd_16 : decode M_Wo_atEnd.2.1 16 = .ok (.ireturn, 1) := by decide +kernel
theorem d_Wo_endOfDigits_0 : decode M_Wo_endOfDigits.2.1 0 = .ok (.iload_n 1, 1) := by decide +kernel
theorem d_Wo_endOfDigits_1 : decode M_Wo_endOfDigits.2.1 1 = .ok (.istore_n 2, 1) := by decide +kernel
theorem d_Wo_endOfDigits_2 : decode M_Wo_endOfDigits.2.1 2 = .ok (.iload_n 2, 1) := by decide +kernel
theorem d_Wo_endOfDigits_3 : decode M_Wo_endOfDigits.2.1 3 = .ok (.aload_n 0, 1) := by decide +kernel
theorem d_Wo_endOfDigits_4 : decode M_Wo_endOfDigits.2.1 4 = .ok (.getfield 23, 3) := by decide +kernel
theorem d_Wo_endOfDigits_7 : decode M_Wo_endOfDigits.2.1 7 = .ok (.if_icmp .ge 31, 3) := by decide +kernel
theorem d_Wo_endOfDigits_10 : decode M_Wo_endOfDigits.2.1 10 = .ok (.aload_n 0, 1) := by decide +kernel
theorem d_Wo_endOfDigits_11 : decode M_Wo_endOfDigits.2.1 11 = .ok (.getfield 9, 3) := by decide +kernel
theorem d_Wo_endOfDigits_14 : decode M_Wo_endOfDigits.2.1 14 = .ok (.iload_n 2, 1) := by decide +kernel
theorem d_Wo_endOfDigits_15 : decode M_Wo_endOfDigits.2.1 15 = .ok (.caload, 1) := by decide +kernel
theorem d_Wo_endOfDigits_16 : decode M_Wo_endOfDigits.2.1 16 = .ok (.bipush 48, 2) := by decide +kernel
theorem d_Wo_endOfDigits_18 : decode M_Wo_endOfDigits.2.1 18 = .ok (.if_icmp .lt 20, 3) := by decide +kernel
theorem d_Wo_endOfDigits_21 : decode M_Wo_endOfDigits.2.1 21 = .ok (.aload_n 0, 1) := by decide +kernel
theorem d_Wo_endOfDigits_22 : decode M_Wo_endOfDigits.2.1 22 = .ok (.getfield 9, 3) := by decide +kernel
theorem d_Wo_endOfDigits_25 : decode M_Wo_endOfDigits.2.1 25 = .ok (.iload_n 2, 1) := by decide +kernel
theorem d_Wo_endOfDigits_26 : decode M_Wo_endOfDigits.2.1 26 = .ok (.caload, 1) := by decide +kernel
theorem d_Wo_endOfDigits_27 : decode M_Wo_endOfDigits.2.1 27 = .ok (.bipush 57, 2) := by decide +kernel
theorem d_Wo_endOfDigits_29 : decode M_Wo_endOfDigits.2.1 29 = .ok (.if_icmp .gt 9, 3) := by decide +kernel
theorem d_Wo_endOfDigits_32 : decode M_Wo_endOfDigits.2.1 32 = .ok (.iinc 2 1, 3) := by decide +kernel
theorem d_Wo_endOfDigits_35 : decode M_Wo_endOfDigits.2.1 35 = .ok (.goto (-33), 3) := by decide +kernel
theorem d_Wo_endOfDigits_38 : decode M_Wo_endOfDigits.2.1 38 = .ok (.iload_n 2, 1) := by decide +kernel
theorem d_Wo_endOfDigits_39 : decode M_Wo_endOfDigits.2.1 39 = .ok (.ireturn, 1) := by decide +kernel
theorem d_Wo_digitsAsNumber_0 : decode M_Wo_digitsAsNumber.2.1 0 = .ok (.iconst 0, 1) := by decide +kernel
theorem d_Wo_digitsAsNumber_1 : decode M_Wo_digitsAsNumber.2.1 1 = .ok (.istore_n 3, 1) := by decide +kernel
theorem d_Wo_digitsAsNumber_2 : decode M_Wo_digitsAsNumber.2.1 2 = .ok (.iload_n 1, 1) := by decide +kernel
theorem d_Wo_digitsAsNumber_3 : decode M_Wo_digitsAsNumber.2.1 3 = .ok (.istore 4, 2) := by decide +kernel
theorem d_Wo_digitsAsNumber_5 : decode M_Wo_digitsAsNumber.2.1 5 = .ok (.iload 4, 2) := by decide +kernel
theorem d_Wo_digitsAsNumber_7 : decode M_Wo_digitsAsNumber.2.1 7 = .ok (.iload_n 2, 1) := by decide +kernel
theorem d_Wo_digitsAsNumber_8 : decode M_Wo_digitsAsNumber.2.1 8 = .ok (.if_icmp .ge 25, 3) := by decide +kernel
theorem d_Wo_digitsAsNumber_11 : decode M_Wo_digitsAsNumber.2.1 11 = .ok (.iload_n 3, 1) := by decide +kernel
theorem d_Wo_digitsAsNumber_12 : decode M_Wo_digitsAsNumber.2.1 12 = .ok (.bipush 10, 2) := by decide +kernel
theorem d_Wo_digitsAsNumber_14 : decode M_Wo_digitsAsNumber.2.1 14 = .ok (.imul, 1) := by decide +kernel
theorem d_Wo_digitsAsNumber_15 : decode M_Wo_digitsAsNumber.2.1 15 = .ok (.aload_n 0, 1) := by decide +kernel
theorem d_Wo_digitsAsNumber_16 : decode M_Wo_digitsAsNumber.2.1 16 = .ok (.getfield 9, 3) := by decide +kernel
theorem d_Wo_digitsAsNumber_19 : decode M_Wo_digitsAsNumber.2.1 19 = .ok (.iload 4, 2) := by decide +kernel
theorem d_Wo_digitsAsNumber_21 : decode M_Wo_digitsAsNumber.2.1 21 = .ok (.caload, 1) := by decide +kernel
theorem d_Wo_digitsAsNumber_22 : decode M_Wo_digitsAsNumber.2.1 22 = .ok (.bipush 48, 2) := by decide +kernel
theorem d_Wo_digitsAsNumber_24 : decode M_Wo_digitsAsNumber.2.1 24 = .ok (.isub, 1) := by decide +kernel
theorem d_Wo_digitsAsNumber_25 : decode M_Wo_digitsAsNumber.2.1 25 = .ok (.iadd, 1) := by decide +kernel
theorem d_Wo_digitsAsNumber_26 : decode M_Wo_digitsAsNumber.2.1 26 = .ok (.istore_n 3, 1) := by decide +kernel
theorem d_Wo_digitsAsNumber_27 : decode M_Wo_digitsAsNumber.2.1 27 = .ok (.iinc 4 1, 3) := by decide +kernel
theorem d_Wo_digitsAsNumber_30 : decode M_Wo_digitsAsNumber.2.1 30 = .ok (.goto (-25), 3) := by decide +kernel
theorem d_Wo_digitsAsNumber_33 : decode M_Wo_digitsAsNumber.2.1 33 = .ok (.iload_n 3, 1) := by decide +kernel
theorem d_Wo_digitsAsNumber_34 : decode M_Wo_digitsAsNumber.2.1 34 = .ok (.ireturn, 1) := by decide +kernel
theorem d_Wo_goOn_0 : decode M_Wo_goOn.2.1 0 = .ok (.aload_n 0, 1) := by decide +kernel
theorem d_Wo_goOn_1 : decode M_Wo_goOn.2.1 1 = .ok (.getfield 23, 3) := by decide +kernel
theorem d_Wo_goOn_4 : decode M_Wo_goOn.2.1 4 = .ok (.istore_n 1, 1) := by decide +kernel
theorem d_Wo_goOn_5 : decode M_Wo_goOn.2.1 5 = .ok (.iload_n 1, 1) := by decide +kernel
theorem d_Wo_goOn_6 : decode M_Wo_goOn.2.1 6 = .ok (.aload_n 0, 1) := by decide +kernel
theorem d_Wo_goOn_7 : decode M_Wo_goOn.2.1 7 = .ok (.getfield 19, 3) := by decide +kernel
theorem d_Wo_goOn_10 : decode M_Wo_goOn.2.1 10 = .ok (.if_icmp .ge 41, 3) := by decide +kernel
theorem d_Wo_goOn_13 : decode M_Wo_goOn.2.1 13 = .ok (.aload_n 0, 1) := by decide +kernel
theorem d_Wo_goOn_14 : decode M_Wo_goOn.2.1 14 = .ok (.getfield 9, 3) := by decide +kernel
theorem d_Wo_goOn_17 : decode M_Wo_goOn.2.1 17 = .ok (.iload_n 1, 1) := by decide +kernel
theorem d_Wo_goOn_18 : decode M_Wo_goOn.2.1 18 = .ok (.caload, 1) := by decide +kernel
theorem d_Wo_goOn_19 : decode M_Wo_goOn.2.1 19 = .ok (.bipush 32, 2) := by decide +kernel
theorem d_Wo_goOn_21 : decode M_Wo_goOn.2.1 21 = .ok (.if_icmp .gt 30, 3) := by decide +kernel
theorem d_Wo_goOn_24 : decode M_Wo_goOn.2.1 24 = .ok (.aload_n 0, 1) := by decide +kernel
theorem d_Wo_goOn_25 : decode M_Wo_goOn.2.1 25 = .ok (.getfield 9, 3) := by decide +kernel
theorem d_Wo_goOn_28 : decode M_Wo_goOn.2.1 28 = .ok (.iload_n 1, 1) := by decide +kernel
theorem d_Wo_goOn_29 : decode M_Wo_goOn.2.1 29 = .ok (.caload, 1) := by decide +kernel
theorem d_Wo_goOn_30 : decode M_Wo_goOn.2.1 30 = .ok (.bipush 10, 2) := by decide +kernel
theorem d_Wo_goOn_32 : decode M_Wo_goOn.2.1 32 = .ok (.if_icmp .ne 13, 3) := by decide +kernel
theorem d_Wo_goOn_35 : decode M_Wo_goOn.2.1 35 = .ok (.aload_n 0, 1) := by decide +kernel
theorem d_Wo_goOn_36 : decode M_Wo_goOn.2.1 36 = .ok (.dup, 1) := by decide +kernel
theorem d_Wo_goOn_37 : decode M_Wo_goOn.2.1 37 = .ok (.getfield 29, 3) := by decide +kernel
theorem d_Wo_goOn_40 : decode M_Wo_goOn.2.1 40 = .ok (.iconst 1, 1) := by decide +kernel
theorem d_Wo_goOn_41 : decode M_Wo_goOn.2.1 41 = .ok (.iadd, 1) := by decide +kernel
theorem d_Wo_goOn_42 : decode M_Wo_goOn.2.1 42 = .ok (.putfield 29, 3) := by decide +kernel
theorem d_Wo_goOn_45 : decode M_Wo_goOn.2.1 45 = .ok (.iinc 1 1, 3) := by decide +kernel
theorem d_Wo_goOn_48 : decode M_Wo_goOn.2.1 48 = .ok (.goto (-43), 3) := by decide +kernel
theorem d_Wo_goOn_51 : decode M_Wo_goOn.2.1 51 = .ok (.aload_n 0, 1) := by decide +kernel
theorem d_Wo_goOn_52 : decode M_Wo_goOn.2.1 52 = .ok (.iload_n 1, 1) := by decide +kernel
theorem d_Wo_goOn_53 : decode M_Wo_goOn.2.1 53 = .ok (.putfield 35, 3) := by decide +kernel
theorem d_Wo_goOn_56 : decode M_Wo_goOn.2.1 56 = .ok (.iload_n 1, 1) := by decide +kernel
theorem d_Wo_goOn_57 : decode M_Wo_goOn.2.1 57 = .ok (.aload_n 0, 1) := by decide +kernel
theorem d_Wo_goOn_58 : decode M_Wo_goOn.2.1 58 = .ok (.getfield 19, 3) := by decide +kernel
theorem d_Wo_goOn_61 : decode M_Wo_goOn.2.1 61 = .ok (.if_icmp .ge 20, 3) := by decide +kernel
theorem d_Wo_goOn_64 : decode M_Wo_goOn.2.1 64 = .ok (.aload_n 0, 1) := by decide +kernel
theorem d_Wo_goOn_65 : decode M_Wo_goOn.2.1 65 = .ok (.getfield 9, 3) := by decide +kernel
theorem d_Wo_goOn_68 : decode M_Wo_goOn.2.1 68 = .ok (.iload_n 1, 1) := by decide +kernel
theorem d_Wo_goOn_69 : decode M_Wo_goOn.2.1 69 = .ok (.caload, 1) := by decide +kernel
theorem d_Wo_goOn_70 : decode M_Wo_goOn.2.1 70 = .ok (.bipush 59, 2) := by decide +kernel
theorem d_Wo_goOn_72 : decode M_Wo_goOn.2.1 72 = .ok (.if_icmp .ne 9, 3) := by decide +kernel
theorem d_Wo_goOn_75 : decode M_Wo_goOn.2.1 75 = .ok (.iinc 1 1, 3) := by decide +kernel
theorem d_Wo_goOn_78 : decode M_Wo_goOn.2.1 78 = .ok (.goto 39, 3) := by decide +kernel
theorem d_Wo_goOn_81 : decode M_Wo_goOn.2.1 81 = .ok (.iload_n 1, 1) := by decide +kernel
theorem d_Wo_goOn_82 : decode M_Wo_goOn.2.1 82 = .ok (.aload_n 0, 1) := by decide +kernel
theorem d_Wo_goOn_83 : decode M_Wo_goOn.2.1 83 = .ok (.getfield 19, 3) := by decide +kernel
theorem d_Wo_goOn_86 : decode M_Wo_goOn.2.1 86 = .ok (.if_icmp .ge 31, 3) := by decide +kernel
theorem d_Wo_goOn_89 : decode M_Wo_goOn.2.1 89 = .ok (.aload_n 0, 1) := by decide +kernel
theorem d_Wo_goOn_90 : decode M_Wo_goOn.2.1 90 = .ok (.getfield 9, 3) := by decide +kernel
theorem d_Wo_goOn_93 : decode M_Wo_goOn.2.1 93 = .ok (.iload_n 1, 1) := by decide +kernel
theorem d_Wo_goOn_94 : decode M_Wo_goOn.2.1 94 = .ok (.caload, 1) := by decide +kernel
theorem d_Wo_goOn_95 : decode M_Wo_goOn.2.1 95 = .ok (.bipush 32, 2) := by decide +kernel
theorem d_Wo_goOn_97 : decode M_Wo_goOn.2.1 97 = .ok (.if_icmp .le 20, 3) := by decide +kernel
theorem d_Wo_goOn_100 : decode M_Wo_goOn.2.1 100 = .ok (.aload_n 0, 1) := by decide +kernel
theorem d_Wo_goOn_101 : decode M_Wo_goOn.2.1 101 = .ok (.getfield 9, 3) := by decide +kernel
theorem d_Wo_goOn_104 : decode M_Wo_goOn.2.1 104 = .ok (.iload_n 1, 1) := by decide +kernel
theorem d_Wo_goOn_105 : decode M_Wo_goOn.2.1 105 = .ok (.caload, 1) := by decide +kernel
theorem d_Wo_goOn_106 : decode M_Wo_goOn.2.1 106 = .ok (.bipush 59, 2) := by decide +kernel
theorem d_Wo_goOn_108 : decode M_Wo_goOn.2.1 108 = .ok (.if_icmp .eq 9, 3) := by decide +kernel
theorem d_Wo_goOn_111 : decode M_Wo_goOn.2.1 111 = .ok (.iinc 1 1, 3) := by decide +kernel
theorem d_Wo_goOn_114 : decode M_Wo_goOn.2.1 114 = .ok (.goto (-33), 3) := by decide +kernel
theorem d_Wo_goOn_117 : decode M_Wo_goOn.2.1 117 = .ok (.aload_n 0, 1) := by decide +kernel
theorem d_Wo_goOn_118 : decode M_Wo_goOn.2.1 118 = .ok (.iload_n 1, 1) := by decide +kernel
theorem d_Wo_goOn_119 : decode M_Wo_goOn.2.1 119 = .ok (.putfield 23, 3) := by decide +kernel
theorem d_Wo_goOn_122 : decode M_Wo_goOn.2.1 122 = .ok (.aload_n 0, 1) := by decide +kernel
theorem d_Wo_goOn_123 : decode M_Wo_goOn.2.1 123 = .ok (.dup, 1) := by decide +kernel
theorem d_Wo_goOn_124 : decode M_Wo_goOn.2.1 124 = .ok (.getfield 26, 3) := by decide +kernel
theorem d_Wo_goOn_127 : decode M_Wo_goOn.2.1 127 = .ok (.iconst 1, 1) := by decide +kernel
theorem d_Wo_goOn_128 : decode M_Wo_goOn.2.1 128 = .ok (.iadd, 1) := by decide +kernel
theorem d_Wo_goOn_129 : decode M_Wo_goOn.2.1 129 = .ok (.putfield 26, 3) := by decide +kernel
theorem d_Wo_goOn_132 : decode M_Wo_goOn.2.1 132 = .ok (.return_, 1) := by decide +kernel
theorem d_Wo_goToFirst_0 : decode M_Wo_goToFirst.2.1 0 = .ok (.aload_n 0, 1) := by decide +kernel
theorem d_Wo_goToFirst_1 : decode M_Wo_goToFirst.2.1 1 = .ok (.iconst 0, 1) := by decide +kernel
theorem d_Wo_goToFirst_2 : decode M_Wo_goToFirst.2.1 2 = .ok (.putfield 23, 3) := by decide +kernel
theorem d_Wo_goToFirst_5 : decode M_Wo_goToFirst.2.1 5 = .ok (.aload_n 0, 1) := by decide +kernel
theorem d_Wo_goToFirst_6 : decode M_Wo_goToFirst.2.1 6 = .ok (.iconst (-1), 1) := by decide +kernel
theorem d_Wo_goToFirst_7 : decode M_Wo_goToFirst.2.1 7 = .ok (.putfield 26, 3) := by decide +kernel
theorem d_Wo_goToFirst_10 : decode M_Wo_goToFirst.2.1 10 = .ok (.aload_n 0, 1) := by decide +kernel
theorem d_Wo_goToFirst_11 : decode M_Wo_goToFirst.2.1 11 = .ok (.iconst 0, 1) := by decide +kernel
theorem d_Wo_goToFirst_12 : decode M_Wo_goToFirst.2.1 12 = .ok (.putfield 29, 3) := by decide +kernel
theorem d_Wo_goToFirst_15 : decode M_Wo_goToFirst.2.1 15 = .ok (.aload_n 0, 1) := by decide +kernel
theorem d_Wo_goToFirst_16 : decode M_Wo_goToFirst.2.1 16 = .ok (.invokevirtual 32, 3) := by decide +kernel
theorem d_Wo_goToFirst_19 : decode M_Wo_goToFirst.2.1 19 = .ok (.return_, 1) := by decide +kernel
def isLD (u : Int32) : Prop := (97 ≤ u.toInt ∧ u.toInt ≤ 122) ∨ (48 ≤ u.toInt ∧ u.toInt ≤ 57)
def isTC (u : Int32) : Prop := u.toInt = 32 ∨ u.toInt = 10 ∨ u.toInt = 59 ∨ u.toInt = 46 ∨ isLD u
noncomputable def bI (p : Prop) : Int32 := @ite _ p (Classical.propDecidable p) 1 0
theorem bI_t {p : Prop} (h : p) : bI p = 1 := by unfold bI; exact if_pos h
theorem bI_f {p : Prop} (h : ¬ p) : bI p = 0 := by unfold bI; exact if_neg h
theorem i10 : ¬ (1 : Int32) = 0 := by decide
theorem bI_eq0 {p : Prop} : bI p = 0 ↔ ¬ p := by
  by_cases h : p
  · rw [bI_t h]; exact ⟨fun q => absurd q i10, fun q => absurd h q⟩
  · rw [bI_f h]; exact ⟨fun _ => h, fun _ => rfl⟩
theorem bI_ne0 {p : Prop} : ¬ bI p = 0 ↔ p := by
  by_cases h : p
  · rw [bI_t h]; exact ⟨fun _ => h, fun _ => i10⟩
  · rw [bI_f h]; exact ⟨fun q => absurd rfl q, fun q => absurd q h⟩
theorem bI_congr {p q : Prop} (h : p ↔ q) : bI p = bI q := by
  by_cases hp : p
  · rw [bI_t hp, bI_t (h.mp hp)]
  · rw [bI_f hp, bI_f (fun z => hp (h.mpr z))]
theorem bI_nar (p : Prop) : narrow .boolean (.int (bI p)) = .int (bI p) := by
  by_cases hp : p
  · rw [bI_t hp]; rfl
  · rw [bI_f hp]; rfl
/-- the first place from i on, below n, where the text is no blank -/
def sk (n : Nat) (t : Nat → Int32) : Nat → Nat → Nat
  | 0, i => i
  | f + 1, i => if i < n ∧ (t i).toInt ≤ 32 then sk n t f (i + 1) else i
/-- the line feeds passed on the way -/
def nls (n : Nat) (t : Nat → Int32) : Nat → Nat → Nat
  | 0, _ => 0
  | f + 1, i => if i < n ∧ (t i).toInt ≤ 32 then (if (t i).toInt = 10 then 1 else 0) + nls n t f (i + 1) else 0
/-- where a word of signs ends -/
def we (n : Nat) (t : Nat → Int32) : Nat → Nat → Nat
  | 0, i => i
  | f + 1, i => if i < n ∧ 32 < (t i).toInt ∧ (t i).toInt ≠ 59 then we n t f (i + 1) else i
/-- where the word that begins at i ends -/
def wordEnd (n : Nat) (t : Nat → Int32) (i : Nat) : Nat := if i < n ∧ (t i).toInt = 59 then i + 1 else we n t (n - i) i
/-- where digits end -/
def de (e : Nat) (t : Nat → Int32) : Nat → Nat → Nat
  | 0, i => i
  | f + 1, i => if i < e ∧ 48 ≤ (t i).toInt ∧ (t i).toInt ≤ 57 then de e t f (i + 1) else i
theorem sk_le (n : Nat) (t : Nat → Int32) : ∀ f i, i ≤ n → i ≤ sk n t f i ∧ sk n t f i ≤ n
  | 0, i, h => ⟨Nat.le_refl _, h⟩
  | f + 1, i, h => by
    unfold sk
    split
    · have := sk_le n t f (i + 1) (by omega)
      omega
    · omega
theorem we_le (n : Nat) (t : Nat → Int32) : ∀ f i, i ≤ n → i ≤ we n t f i ∧ we n t f i ≤ n
  | 0, i, h => ⟨Nat.le_refl _, h⟩
  | f + 1, i, h => by
    unfold we
    split
    · have := we_le n t f (i + 1) (by omega)
      omega
    · omega
theorem wordEnd_le {n i : Nat} (t : Nat → Int32) (h : i ≤ n) : i ≤ wordEnd n t i ∧ wordEnd n t i ≤ n := by
  unfold wordEnd
  split
  · omega
  · exact we_le n t _ i h
theorem de_le (e : Nat) (t : Nat → Int32) : ∀ f i, i ≤ e → i ≤ de e t f i ∧ de e t f i ≤ e
  | 0, i, h => ⟨Nat.le_refl _, h⟩
  | f + 1, i, h => by
    unfold de
    split
    · have := de_le e t f (i + 1) (by omega)
      omega
    · omega
section
variable {nx : Nat} {ct : Nat → Nat × Nat} {mi : Nat → Nat → Int32} {ml : Nat → Nat → Int64} {mr : Nat → Nat → Option Nat}
theorem sp_isLD (u : Int32) (σ : rx_S) : rx_Calls y_RT_isLetterOrDigit M_RT_isLetterOrDigit 0 0 0 [.int u] σ (fun v τ => v = some (.int (bI (isLD u))) ∧ τ = σ) := by
  refine rx_enter (by decide) rfl rfl (Nat.le_of_ble_eq_true rfl) ?_
  refine ru_iload_n d_RT_isLetterOrDigit_0 rfl rfl ?_
  refine ru_bipush (v := 97) d_RT_isLetterOrDigit_1 (by decide) ?_
  refine ru_icmp_lt (tgt := 12) d_RT_isLetterOrDigit_3 (by decide) (fun h3 => ?_) (fun h3 => ?_)
  · skip
    refine ru_iload_n d_RT_isLetterOrDigit_12 rfl rfl ?_
    refine ru_bipush (v := 48) d_RT_isLetterOrDigit_13 (by decide) ?_
    refine ru_icmp_lt (tgt := 28) d_RT_isLetterOrDigit_15 (by decide) (fun h15 => ?_) (fun h15 => ?_)
    · skip
      refine ru_iconst (v := 0) d_RT_isLetterOrDigit_28 (by decide) ?_
      refine ru_zret (ty := .boolean) d_RT_isLetterOrDigit_29 rfl rfl ?_
      first | (exfalso; simp only [il, ie, i_97, i_122, i_48, i_57] at *; omega) | exact ⟨by rw [bI_t (by simp only [il, ie, i_97, i_122, i_48, i_57] at *; unfold isLD; omega)], rfl⟩ | exact ⟨by rw [bI_f (by simp only [il, ie, i_97, i_122, i_48, i_57] at *; unfold isLD; omega)], rfl⟩
    · skip
      refine ru_iload_n d_RT_isLetterOrDigit_18 rfl rfl ?_
      refine ru_bipush (v := 57) d_RT_isLetterOrDigit_19 (by decide) ?_
      refine ru_icmp_gt (tgt := 28) d_RT_isLetterOrDigit_21 (by decide) (fun h21 => ?_) (fun h21 => ?_)
      · skip
        refine ru_iconst (v := 0) d_RT_isLetterOrDigit_28 (by decide) ?_
        refine ru_zret (ty := .boolean) d_RT_isLetterOrDigit_29 rfl rfl ?_
        first | (exfalso; simp only [il, ie, i_97, i_122, i_48, i_57] at *; omega) | exact ⟨by rw [bI_t (by simp only [il, ie, i_97, i_122, i_48, i_57] at *; unfold isLD; omega)], rfl⟩ | exact ⟨by rw [bI_f (by simp only [il, ie, i_97, i_122, i_48, i_57] at *; unfold isLD; omega)], rfl⟩
      · skip
        refine ru_iconst (v := 1) d_RT_isLetterOrDigit_24 (by decide) ?_
        refine ru_goto (tgt := 29) d_RT_isLetterOrDigit_25 (by decide) ?_
        refine ru_zret (ty := .boolean) d_RT_isLetterOrDigit_29 rfl rfl ?_
        first | (exfalso; simp only [il, ie, i_97, i_122, i_48, i_57] at *; omega) | exact ⟨by rw [bI_t (by simp only [il, ie, i_97, i_122, i_48, i_57] at *; unfold isLD; omega)], rfl⟩ | exact ⟨by rw [bI_f (by simp only [il, ie, i_97, i_122, i_48, i_57] at *; unfold isLD; omega)], rfl⟩
  · skip
    refine ru_iload_n d_RT_isLetterOrDigit_6 rfl rfl ?_
    refine ru_bipush (v := 122) d_RT_isLetterOrDigit_7 (by decide) ?_
    refine ru_icmp_le (tgt := 24) d_RT_isLetterOrDigit_9 (by decide) (fun h9 => ?_) (fun h9 => ?_)
    · skip
      refine ru_iconst (v := 1) d_RT_isLetterOrDigit_24 (by decide) ?_
      refine ru_goto (tgt := 29) d_RT_isLetterOrDigit_25 (by decide) ?_
      refine ru_zret (ty := .boolean) d_RT_isLetterOrDigit_29 rfl rfl ?_
      first | (exfalso; simp only [il, ie, i_97, i_122, i_48, i_57] at *; omega) | exact ⟨by rw [bI_t (by simp only [il, ie, i_97, i_122, i_48, i_57] at *; unfold isLD; omega)], rfl⟩ | exact ⟨by rw [bI_f (by simp only [il, ie, i_97, i_122, i_48, i_57] at *; unfold isLD; omega)], rfl⟩
    · skip
      refine ru_iload_n d_RT_isLetterOrDigit_12 rfl rfl ?_
      refine ru_bipush (v := 48) d_RT_isLetterOrDigit_13 (by decide) ?_
      refine ru_icmp_lt (tgt := 28) d_RT_isLetterOrDigit_15 (by decide) (fun h15 => ?_) (fun h15 => ?_)
      · skip
        refine ru_iconst (v := 0) d_RT_isLetterOrDigit_28 (by decide) ?_
        refine ru_zret (ty := .boolean) d_RT_isLetterOrDigit_29 rfl rfl ?_
        first | (exfalso; simp only [il, ie, i_97, i_122, i_48, i_57] at *; omega) | exact ⟨by rw [bI_t (by simp only [il, ie, i_97, i_122, i_48, i_57] at *; unfold isLD; omega)], rfl⟩ | exact ⟨by rw [bI_f (by simp only [il, ie, i_97, i_122, i_48, i_57] at *; unfold isLD; omega)], rfl⟩
      · skip
        refine ru_iload_n d_RT_isLetterOrDigit_18 rfl rfl ?_
        refine ru_bipush (v := 57) d_RT_isLetterOrDigit_19 (by decide) ?_
        refine ru_icmp_gt (tgt := 28) d_RT_isLetterOrDigit_21 (by decide) (fun h21 => ?_) (fun h21 => ?_)
        · skip
          refine ru_iconst (v := 0) d_RT_isLetterOrDigit_28 (by decide) ?_
          refine ru_zret (ty := .boolean) d_RT_isLetterOrDigit_29 rfl rfl ?_
          first | (exfalso; simp only [il, ie, i_97, i_122, i_48, i_57] at *; omega) | exact ⟨by rw [bI_t (by simp only [il, ie, i_97, i_122, i_48, i_57] at *; unfold isLD; omega)], rfl⟩ | exact ⟨by rw [bI_f (by simp only [il, ie, i_97, i_122, i_48, i_57] at *; unfold isLD; omega)], rfl⟩
        · skip
          refine ru_iconst (v := 1) d_RT_isLetterOrDigit_24 (by decide) ?_
          refine ru_goto (tgt := 29) d_RT_isLetterOrDigit_25 (by decide) ?_
          refine ru_zret (ty := .boolean) d_RT_isLetterOrDigit_29 rfl rfl ?_
          first | (exfalso; simp only [il, ie, i_97, i_122, i_48, i_57] at *; omega) | exact ⟨by rw [bI_t (by simp only [il, ie, i_97, i_122, i_48, i_57] at *; unfold isLD; omega)], rfl⟩ | exact ⟨by rw [bI_f (by simp only [il, ie, i_97, i_122, i_48, i_57] at *; unfold isLD; omega)], rfl⟩
theorem sp_slotOf (a b : Int32) (σ : rx_S) : rx_Calls y_RT_slotOf M_RT_slotOf 0 0 0 [.int a, .int b] σ (fun v τ => v = some (.int (a * 16 + b)) ∧ τ = σ) := by
  refine rx_enter (by decide) rfl rfl (Nat.le_of_ble_eq_true rfl) ?_
  refine ru_iload_n d_RT_slotOf_0 rfl rfl ?_
  refine ru_bipush (v := 16) d_RT_slotOf_1 (by decide) ?_
  refine ru_imul d_RT_slotOf_3 ?_
  refine ru_iload_n d_RT_slotOf_4 rfl rfl ?_
  refine ru_iadd d_RT_slotOf_5 ?_
  refine ru_iret d_RT_slotOf_6 rfl ?_
  exact ⟨rfl, rfl⟩
theorem sp_kindOf (a : Int32) (σ : rx_S) : rx_Calls y_RT_kindOf M_RT_kindOf 0 0 0 [.int a] σ (fun v τ => v = some (.int (if a = -1 then -1 else a / 16)) ∧ τ = σ) := by
  refine rx_enter (by decide) rfl rfl (Nat.le_of_ble_eq_true rfl) ?_
  refine ru_iload_n d_RT_kindOf_0 rfl rfl ?_
  refine ru_iconst (v := (-1)) d_RT_kindOf_1 (by decide) ?_
  refine ru_icmp_ne (tgt := 9) d_RT_kindOf_2 (by decide) (fun h2 => ?_) (fun h2 => ?_)
  · skip
    refine ru_iload_n d_RT_kindOf_9 rfl rfl ?_
    refine ru_bipush (v := 16) d_RT_kindOf_10 (by decide) ?_
    refine ru_idiv d_RT_kindOf_12 (by decide) ?_
    refine ru_iret d_RT_kindOf_13 rfl ?_
    first | exact ⟨by rw [if_neg h2], rfl⟩ | exact ⟨by rw [if_pos h2], rfl⟩
  · skip
    refine ru_iconst (v := (-1)) d_RT_kindOf_5 (by decide) ?_
    refine ru_goto (tgt := 13) d_RT_kindOf_6 (by decide) ?_
    refine ru_iret d_RT_kindOf_13 rfl ?_
    first | exact ⟨by rw [if_neg h2], rfl⟩ | exact ⟨by rw [if_pos h2], rfl⟩
theorem sp_thingOf (a : Int32) (σ : rx_S) : rx_Calls y_RT_thingOf M_RT_thingOf 0 0 0 [.int a] σ (fun v τ => v = some (.int (if a = -1 then -1 else a - a / 16 * 16)) ∧ τ = σ) := by
  refine rx_enter (by decide) rfl rfl (Nat.le_of_ble_eq_true rfl) ?_
  refine ru_iload_n d_RT_thingOf_0 rfl rfl ?_
  refine ru_iconst (v := (-1)) d_RT_thingOf_1 (by decide) ?_
  refine ru_icmp_ne (tgt := 9) d_RT_thingOf_2 (by decide) (fun h2 => ?_) (fun h2 => ?_)
  · skip
    refine ru_iload_n d_RT_thingOf_9 rfl rfl ?_
    refine ru_bipush (v := 16) d_RT_thingOf_10 (by decide) ?_
    refine ru_irem d_RT_thingOf_12 (by decide) ?_
    refine ru_iret d_RT_thingOf_13 rfl ?_
    first | exact ⟨by rw [if_neg h2], rfl⟩ | exact ⟨by rw [if_pos h2], rfl⟩
  · skip
    refine ru_iconst (v := (-1)) d_RT_thingOf_5 (by decide) ?_
    refine ru_goto (tgt := 13) d_RT_thingOf_6 (by decide) ?_
    refine ru_iret d_RT_thingOf_13 rfl ?_
    first | exact ⟨by rw [if_neg h2], rfl⟩ | exact ⟨by rw [if_pos h2], rfl⟩
theorem sp_atEnd (hL : LAY nx ct mr) : rx_Calls y_Wo_atEnd M_Wo_atEnd 0 0 0 [.ref 266] (nx, ct, mi, ml, mr) (fun v τ => v = some (.int (bI (mi 266 2 = mi 266 3))) ∧ τ = (nx, ct, mi, ml, mr)) := by
  refine rx_enter (by decide) rfl rfl (Nat.le_of_ble_eq_true rfl) ?_
  refine ru_aload_n d_Wo_atEnd_0 rfl rfl ?_
  refine ru_getI d_Wo_atEnd_1 lf_Wo_35 (ly hL 266 7 0) rfl ?_
  refine ru_aload_n d_Wo_atEnd_4 rfl rfl ?_
  refine ru_getI d_Wo_atEnd_5 lf_Wo_23 (ly hL 266 7 0) rfl ?_
  refine ru_icmp_ne (tgt := 15) d_Wo_atEnd_8 (by decide) (fun h8 => ?_) (fun h8 => ?_)
  · skip
    refine ru_iconst (v := 0) d_Wo_atEnd_15 (by decide) ?_
    refine ru_zret (ty := .boolean) d_Wo_atEnd_16 rfl rfl ?_
    first | exact ⟨by rw [bI_t h8], rfl⟩ | exact ⟨by rw [bI_f h8], rfl⟩
  · skip
    refine ru_iconst (v := 1) d_Wo_atEnd_11 (by decide) ?_
    refine ru_goto (tgt := 16) d_Wo_atEnd_12 (by decide) ?_
    refine ru_zret (ty := .boolean) d_Wo_atEnd_16 rfl rfl ?_
    first | exact ⟨by rw [bI_t h8], rfl⟩ | exact ⟨by rw [bI_f h8], rfl⟩
theorem tc_nar {u : Int32} (h : isTC u) : vp_nar .char (u.toUInt32 % 65536).toInt32 = u := by
  rw [pk_vc]
  obtain ⟨j, hj, e⟩ := nI_of (x := u) (by rw [il, i_0]; unfold isTC isLD at h; omega)
  have h2 : j < 128 := by
    have : u.toInt = j := by rw [e, nI_toInt hj]
    unfold isTC isLD at h
    omega
  rw [e, pk_char, pk_tn (by omega)]
  congr 1
  omega
theorem sp_Wo_append {n : Nat} (u : Int32) (hL : LAY nx ct mr) (hn : mi 266 1 = nI n) (hn2 : n ≤ 3000) : rx_Calls y_Wo_append M_Wo_append 1 0 0 [.ref 266, .int u] (nx, ct, mi, ml, mr) (fun v τ => v = some (.int (bI (isTC u ∧ n < 3000))) ∧ τ = (nx, ct, @ite _ (isTC u ∧ n < 3000) (Classical.propDecidable _) (rx_u (rx_u mi 267 n u) 266 1 (nI (n + 1))) mi, ml, mr)) := by
  refine rx_enter (by decide) rfl rfl (Nat.le_of_ble_eq_true rfl) ?_
  have fin : isTC u → rx_W M_Wo_append 1 0 0 36 [(0, .ref 266), (1, .int u)] [.int 1] (nx, ct, mi, ml, mr) (pR (fun v τ => v = some (.int (bI (isTC u ∧ n < 3000))) ∧ τ = (nx, ct, @ite _ (isTC u ∧ n < 3000) (Classical.propDecidable _) (rx_u (rx_u mi 267 n u) 266 1 (nI (n + 1))) mi, ml, mr))) := by
    intro hu
    refine ru_istore_n d_Wo_append_36 rfl (by decide) ?_
    refine ru_iload_n d_Wo_append_37 rfl rfl ?_
    refine ru_if_eq (tgt := 51) d_Wo_append_38 (by decide) (fun h38 => absurd h38 (by decide)) (fun h38 => ?_)
    refine ru_aload_n d_Wo_append_41 rfl rfl ?_
    refine ru_getI d_Wo_append_42 lf_Wo_19 (ly hL 266 7 0) rfl ?_
    refine ru_sipush (v := 3000) d_Wo_append_45 (by decide) ?_
    refine ru_icmp_lt (tgt := 53) d_Wo_append_48 (by decide) (fun h48 => ?_) (fun h48 => ?_)
    · skip
      refine ru_aload_n d_Wo_append_53 rfl rfl ?_
      refine ru_getR d_Wo_append_54 lf_Wo_9 (ly hL 266 7 0) rfl (lr hL 266 0 267) ?_
      refine ru_aload_n d_Wo_append_57 rfl rfl ?_
      refine ru_getI d_Wo_append_58 lf_Wo_19 (ly hL 266 7 0) rfl ?_
      refine ru_eqi hn ?_
      refine ru_iload_n d_Wo_append_61 rfl rfl ?_
      refine ru_i2c d_Wo_append_62 ?_
      refine ru_castN d_Wo_append_63 (ly hL 267 101 3000) (by rw [hn, il, nI_toInt (by omega), i_3000] at h48; omega) (by decide) ?_
      refine ru_aload_n d_Wo_append_64 rfl rfl ?_
      refine ru_dup d_Wo_append_65 rfl ?_
      refine ru_getI d_Wo_append_66 lf_Wo_19 (ly hL 266 7 0) rfl ?_
      refine ru_iconst (v := 1) d_Wo_append_69 (by decide) ?_
      refine ru_iadd d_Wo_append_70 ?_
      refine ru_putI d_Wo_append_71 lf_Wo_19 (ly hL 266 7 0) rfl (fun q hq => by cases hq; exact Or.inl rfl) ⟨rfl, rfl⟩ ?_
      refine ru_iconst (v := 1) d_Wo_append_74 (by decide) ?_
      refine ru_zret (ty := .boolean) d_Wo_append_75 rfl rfl ?_
      have hlt : n < 3000 := by rw [hn, il, nI_toInt (by omega), i_3000] at h48; omega
      refine ⟨by rw [bI_t ⟨hu, hlt⟩], ?_⟩
      rw [if_pos ⟨hu, hlt⟩, tc_nar hu, rx_u_r _ _ (by decide), hn, nI_1]
    · skip
      refine ru_iconst (v := 0) d_Wo_append_51 (by decide) ?_
      refine ru_zret (ty := .boolean) d_Wo_append_52 rfl rfl ?_
      have hge : ¬ n < 3000 := by rw [hn, il, nI_toInt (by omega), i_3000] at h48; omega
      exact ⟨by rw [bI_f (fun q => hge q.2)], by rw [if_neg (fun q => hge q.2)]⟩
  refine ru_iload_n d_Wo_append_0 rfl rfl ?_
  refine ru_bipush (v := 32) d_Wo_append_1 (by decide) ?_
  refine ru_icmp_eq (tgt := 31) d_Wo_append_3 (by decide) (fun h3 => ?_) (fun h3 => ?_)
  · skip
    refine ru_iconst (v := 1) d_Wo_append_31 (by decide) ?_
    refine ru_goto (tgt := 36) d_Wo_append_32 (by decide) ?_
    exact fin (by first | exact Or.inr (Or.inr (Or.inr (Or.inr (bI_ne0.mp h28)))) | (simp only [iq, i_32, i_10, i_59, i_46] at *; unfold isTC; omega))
  · skip
    refine ru_iload_n d_Wo_append_6 rfl rfl ?_
    refine ru_bipush (v := 10) d_Wo_append_7 (by decide) ?_
    refine ru_icmp_eq (tgt := 31) d_Wo_append_9 (by decide) (fun h9 => ?_) (fun h9 => ?_)
    · skip
      refine ru_iconst (v := 1) d_Wo_append_31 (by decide) ?_
      refine ru_goto (tgt := 36) d_Wo_append_32 (by decide) ?_
      exact fin (by first | exact Or.inr (Or.inr (Or.inr (Or.inr (bI_ne0.mp h28)))) | (simp only [iq, i_32, i_10, i_59, i_46] at *; unfold isTC; omega))
    · skip
      refine ru_iload_n d_Wo_append_12 rfl rfl ?_
      refine ru_bipush (v := 59) d_Wo_append_13 (by decide) ?_
      refine ru_icmp_eq (tgt := 31) d_Wo_append_15 (by decide) (fun h15 => ?_) (fun h15 => ?_)
      · skip
        refine ru_iconst (v := 1) d_Wo_append_31 (by decide) ?_
        refine ru_goto (tgt := 36) d_Wo_append_32 (by decide) ?_
        exact fin (by first | exact Or.inr (Or.inr (Or.inr (Or.inr (bI_ne0.mp h28)))) | (simp only [iq, i_32, i_10, i_59, i_46] at *; unfold isTC; omega))
      · skip
        refine ru_iload_n d_Wo_append_18 rfl rfl ?_
        refine ru_bipush (v := 46) d_Wo_append_19 (by decide) ?_
        refine ru_icmp_eq (tgt := 31) d_Wo_append_21 (by decide) (fun h21 => ?_) (fun h21 => ?_)
        · skip
          refine ru_iconst (v := 1) d_Wo_append_31 (by decide) ?_
          refine ru_goto (tgt := 36) d_Wo_append_32 (by decide) ?_
          exact fin (by first | exact Or.inr (Or.inr (Or.inr (Or.inr (bI_ne0.mp h28)))) | (simp only [iq, i_32, i_10, i_59, i_46] at *; unfold isTC; omega))
        · skip
          refine ru_iload_n d_Wo_append_24 rfl rfl ?_
          refine ru_callS (mc := 0) (ms := 0) d_Wo_append_25 lm_Wo_15 (sp_isLD u _) (by decide) rfl (by decide) ?_
          intro v τ h
          obtain ⟨rfl, rfl⟩ := h
          refine ru_if_eq (tgt := 35) d_Wo_append_28 (by decide) (fun h28 => ?_) (fun h28 => ?_)
          · skip
            refine ru_iconst (v := 0) d_Wo_append_35 (by decide) ?_
            refine ru_istore_n d_Wo_append_36 rfl (by decide) ?_
            refine ru_iload_n d_Wo_append_37 rfl rfl ?_
            refine ru_if_eq (tgt := 51) d_Wo_append_38 (by decide) (fun h38 => ?_) (fun h38 => absurd rfl h38)
            refine ru_iconst (v := 0) d_Wo_append_51 (by decide) ?_
            refine ru_zret (ty := .boolean) d_Wo_append_52 rfl rfl ?_
            have hu : ¬ isTC u := by have q := bI_eq0.mp h28; clear h28; simp only [iq, i_32, i_10, i_59, i_46] at *; unfold isTC; unfold isLD at q ⊢; omega
            exact ⟨by rw [bI_f (fun q => hu q.1)], by rw [if_neg (fun q => hu q.1)]⟩
          · skip
            refine ru_iconst (v := 1) d_Wo_append_31 (by decide) ?_
            refine ru_goto (tgt := 36) d_Wo_append_32 (by decide) ?_
            exact fin (by first | exact Or.inr (Or.inr (Or.inr (Or.inr (bI_ne0.mp h28)))) | (simp only [iq, i_32, i_10, i_59, i_46] at *; unfold isTC; omega))
theorem sp_endOfDigits {e i : Nat} (hL : LAY nx ct mr) (he : mi 266 3 = nI e) (he2 : e ≤ 3000) (hi : i ≤ e) : rx_Calls y_Wo_endOfDigits M_Wo_endOfDigits 0 0 0 [.ref 266, .int (nI i)] (nx, ct, mi, ml, mr) (fun v τ => v = some (.int (nI (de e (mi 267) (e - i) i))) ∧ τ = (nx, ct, mi, ml, mr)) := by
  refine rx_enter (by decide) rfl rfl (Nat.le_of_ble_eq_true rfl) ?_
  have loop : ∀ f i, i ≤ e → f = e - i → rx_W M_Wo_endOfDigits 0 0 0 2 [(0, .ref 266), (2, .int (nI i))] [] (nx, ct, mi, ml, mr) (pR (fun v τ => v = some (.int (nI (de e (mi 267) f i))) ∧ τ = (nx, ct, mi, ml, mr))) := by
    intro f
    induction f with
    | zero =>
      intro i hi hf
      refine ru_iload_n d_Wo_endOfDigits_2 rfl rfl ?_
      refine ru_aload_n d_Wo_endOfDigits_3 rfl rfl ?_
      refine ru_getI d_Wo_endOfDigits_4 lf_Wo_23 (ly hL 266 7 0) rfl ?_
      refine ru_eqi he ?_
      refine ru_icmp_ge (tgt := 38) d_Wo_endOfDigits_7 (by decide) (fun h7 => ?_) (fun h7 => absurd (nI_le (by omega) (by omega)) h7)
      refine ru_iload_n d_Wo_endOfDigits_38 rfl rfl ?_
      refine ru_iret d_Wo_endOfDigits_39 rfl ?_
      exact ⟨rfl, rfl⟩
    | succ f ih =>
      intro i hi hf
      unfold de
      refine ru_iload_n d_Wo_endOfDigits_2 rfl rfl ?_
      refine ru_aload_n d_Wo_endOfDigits_3 rfl rfl ?_
      refine ru_getI d_Wo_endOfDigits_4 lf_Wo_23 (ly hL 266 7 0) rfl ?_
      refine ru_eqi he ?_
      refine ru_icmp_ge (tgt := 38) d_Wo_endOfDigits_7 (by decide) (fun h7 => absurd h7 (nI_ge (by omega) (by omega))) (fun h7 => ?_)
      refine ru_aload_n d_Wo_endOfDigits_10 rfl rfl ?_
      refine ru_getR d_Wo_endOfDigits_11 lf_Wo_9 (ly hL 266 7 0) rfl (lr hL 266 0 267) ?_
      refine ru_iload_n d_Wo_endOfDigits_14 rfl rfl ?_
      refine ru_caldN d_Wo_endOfDigits_15 (ly hL 267 101 3000) (by omega) (by decide) ?_
      refine ru_bipush (v := 48) d_Wo_endOfDigits_16 (by decide) ?_
      refine ru_icmp_lt (tgt := 38) d_Wo_endOfDigits_18 (by decide) (fun h18 => ?_) (fun h18 => ?_)
      · skip
        refine ru_iload_n d_Wo_endOfDigits_38 rfl rfl ?_
        refine ru_iret d_Wo_endOfDigits_39 rfl ?_
        rw [if_neg (by simp only [il, i_48, i_57] at *; omega)]
        exact ⟨rfl, rfl⟩
      · skip
        refine ru_aload_n d_Wo_endOfDigits_21 rfl rfl ?_
        refine ru_getR d_Wo_endOfDigits_22 lf_Wo_9 (ly hL 266 7 0) rfl (lr hL 266 0 267) ?_
        refine ru_iload_n d_Wo_endOfDigits_25 rfl rfl ?_
        refine ru_caldN d_Wo_endOfDigits_26 (ly hL 267 101 3000) (by omega) (by decide) ?_
        refine ru_bipush (v := 57) d_Wo_endOfDigits_27 (by decide) ?_
        refine ru_icmp_gt (tgt := 38) d_Wo_endOfDigits_29 (by decide) (fun h29 => ?_) (fun h29 => ?_)
        · skip
          refine ru_iload_n d_Wo_endOfDigits_38 rfl rfl ?_
          refine ru_iret d_Wo_endOfDigits_39 rfl ?_
          rw [if_neg (by simp only [il, i_48, i_57] at *; omega)]
          exact ⟨rfl, rfl⟩
        · skip
          refine ru_iinc d_Wo_endOfDigits_32 rfl (nI_1 i) (by decide) ?_
          refine ru_goto (tgt := 2) d_Wo_endOfDigits_35 (by decide) ?_
          rw [if_pos (by simp only [il, i_48, i_57] at *; omega)]
          exact ru_to (ih (i + 1) (by omega) (by omega)) ⟨rfl, rfl, trivial⟩
  refine ru_iload_n d_Wo_endOfDigits_0 rfl rfl ?_
  refine ru_istore_n d_Wo_endOfDigits_1 rfl (by decide) ?_
  exact ru_to (loop _ i hi rfl) ⟨rfl, rfl, trivial⟩
theorem sp_goOn {n b : Nat} (hL : LAY nx ct mr) (hn : mi 266 1 = nI n) (hn2 : n ≤ 3000) (hb : mi 266 3 = nI b) (hb2 : b ≤ n) : rx_Calls y_Wo_goOn M_Wo_goOn 0 0 0 [.ref 266] (nx, ct, mi, ml, mr) (fun v τ => v = none ∧ τ = (nx, ct, rx_u (rx_u (rx_u (rx_u mi 266 5 (mi 266 5 + nI (nls n (mi 267) (n - b) b))) 266 2 (nI (sk n (mi 267) (n - b) b))) 266 3 (nI (wordEnd n (mi 267) (sk n (mi 267) (n - b) b)))) 266 4 (mi 266 4 + 1), ml, mr)) := by
  refine rx_enter (by decide) rfl rfl (Nat.le_of_ble_eq_true rfl) ?_
  generalize hp : (fun (v : Option Value) (τ : rx_S) => v = none ∧ τ = (nx, ct, rx_u (rx_u (rx_u (rx_u mi 266 5 (mi 266 5 + nI (nls n (mi 267) (n - b) b))) 266 2 (nI (sk n (mi 267) (n - b) b))) 266 3 (nI (wordEnd n (mi 267) (sk n (mi 267) (n - b) b)))) 266 4 (mi 266 4 + 1), ml, mr)) = post
  -- the end, from 117
  have fin : ∀ (m1 : Nat → Nat → Int32) (e : Nat), post none (nx, ct, rx_u (rx_u m1 266 3 (nI e)) 266 4 (m1 266 4 + 1), ml, mr) → rx_W M_Wo_goOn 0 0 0 117 [(0, .ref 266), (1, .int (nI e))] [] (nx, ct, m1, ml, mr) (pR post) := by
    intro m1 e h
    refine ru_aload_n d_Wo_goOn_117 rfl rfl ?_
    refine ru_iload_n d_Wo_goOn_118 rfl rfl ?_
    refine ru_putI d_Wo_goOn_119 lf_Wo_23 (ly hL 266 7 0) rfl (fun q hq => by cases hq; exact Or.inl rfl) ⟨rfl, rfl⟩ ?_
    refine ru_aload_n d_Wo_goOn_122 rfl rfl ?_
    refine ru_dup d_Wo_goOn_123 rfl ?_
    refine ru_getI d_Wo_goOn_124 lf_Wo_26 (ly hL 266 7 0) rfl ?_
    refine ru_iconst (v := 1) d_Wo_goOn_127 (by decide) ?_
    refine ru_iadd d_Wo_goOn_128 ?_
    refine ru_putI d_Wo_goOn_129 lf_Wo_26 (ly hL 266 7 0) rfl (fun q hq => by cases hq; exact Or.inl rfl) ⟨rfl, rfl⟩ ?_
    refine ru_vret d_Wo_goOn_132 rfl ?_
    rw [rx_u_k _ _ (by decide)]
    exact h
  -- the second loop, from 81
  have loop2 : ∀ (m1 : Nat → Nat → Int32), m1 266 1 = nI n → m1 267 = mi 267 → ∀ f i, i ≤ n → f = n - i → post none (nx, ct, rx_u (rx_u m1 266 3 (nI (we n (mi 267) f i))) 266 4 (m1 266 4 + 1), ml, mr) → rx_W M_Wo_goOn 0 0 0 81 [(0, .ref 266), (1, .int (nI i))] [] (nx, ct, m1, ml, mr) (pR post) := by
    intro m1 h1 h2 f
    induction f with
    | zero =>
      intro i hi hf h
      refine ru_iload_n d_Wo_goOn_81 rfl rfl ?_
      refine ru_aload_n d_Wo_goOn_82 rfl rfl ?_
      refine ru_getI d_Wo_goOn_83 lf_Wo_19 (ly hL 266 7 0) rfl ?_
      refine ru_eqi h1 ?_
      refine ru_icmp_ge (tgt := 117) d_Wo_goOn_86 (by decide) (fun h86 => ?_) (fun h86 => absurd (nI_le (by omega) (by omega)) h86)
      exact fin _ _ h
    | succ f ih =>
      intro i hi hf h
      unfold we at h
      refine ru_iload_n d_Wo_goOn_81 rfl rfl ?_
      refine ru_aload_n d_Wo_goOn_82 rfl rfl ?_
      refine ru_getI d_Wo_goOn_83 lf_Wo_19 (ly hL 266 7 0) rfl ?_
      refine ru_eqi h1 ?_
      refine ru_icmp_ge (tgt := 117) d_Wo_goOn_86 (by decide) (fun h86 => absurd h86 (nI_ge (by omega) (by omega))) (fun h86 => ?_)
      refine ru_aload_n d_Wo_goOn_89 rfl rfl ?_
      refine ru_getR d_Wo_goOn_90 lf_Wo_9 (ly hL 266 7 0) rfl (lr hL 266 0 267) ?_
      refine ru_iload_n d_Wo_goOn_93 rfl rfl ?_
      refine ru_caldN d_Wo_goOn_94 (ly hL 267 101 3000) (by omega) (by decide) ?_
      rw [h2]
      refine ru_bipush (v := 32) d_Wo_goOn_95 (by decide) ?_
      refine ru_icmp_le (tgt := 117) d_Wo_goOn_97 (by decide) (fun h97 => ?_) (fun h97 => ?_)
      · skip
        rw [if_neg (by simp only [ie, iq, i_32, i_59] at *; omega)] at h
        exact fin _ _ h
      · skip
        refine ru_aload_n d_Wo_goOn_100 rfl rfl ?_
        refine ru_getR d_Wo_goOn_101 lf_Wo_9 (ly hL 266 7 0) rfl (lr hL 266 0 267) ?_
        refine ru_iload_n d_Wo_goOn_104 rfl rfl ?_
        refine ru_caldN d_Wo_goOn_105 (ly hL 267 101 3000) (by omega) (by decide) ?_
        rw [h2]
        refine ru_bipush (v := 59) d_Wo_goOn_106 (by decide) ?_
        refine ru_icmp_eq (tgt := 117) d_Wo_goOn_108 (by decide) (fun h108 => ?_) (fun h108 => ?_)
        · skip
          rw [if_neg (by simp only [ie, iq, i_32, i_59] at *; omega)] at h
          exact fin _ _ h
        · skip
          refine ru_iinc d_Wo_goOn_111 rfl (nI_1 i) (by decide) ?_
          refine ru_goto (tgt := 81) d_Wo_goOn_114 (by decide) ?_
          rw [if_pos (by simp only [ie, iq, i_32, i_59] at *; omega)] at h
          exact ru_to (ih (i + 1) (by omega) (by omega) h) ⟨rfl, rfl, trivial⟩
  -- from 51: the start is told
  have mid : ∀ (m1 : Nat → Nat → Int32) (i : Nat), m1 266 1 = nI n → m1 267 = mi 267 → i ≤ n → post none (nx, ct, rx_u (rx_u (rx_u m1 266 2 (nI i)) 266 3 (nI (wordEnd n (mi 267) i))) 266 4 (m1 266 4 + 1), ml, mr) → rx_W M_Wo_goOn 0 0 0 51 [(0, .ref 266), (1, .int (nI i))] [] (nx, ct, m1, ml, mr) (pR post) := by
    intro m1 i h1 h2 hi h
    have h1' : rx_u m1 266 2 (nI i) 266 1 = nI n := by rw [rx_u_k _ _ (by decide)]; exact h1
    have h2' : rx_u m1 266 2 (nI i) 267 = mi 267 := by rw [rx_u_r _ _ (by decide)]; exact h2
    have h4' : rx_u m1 266 2 (nI i) 266 4 = m1 266 4 := rx_u_k _ _ (by decide)
    unfold wordEnd at h
    refine ru_aload_n d_Wo_goOn_51 rfl rfl ?_
    refine ru_iload_n d_Wo_goOn_52 rfl rfl ?_
    refine ru_putI d_Wo_goOn_53 lf_Wo_35 (ly hL 266 7 0) rfl (fun q hq => by cases hq; exact Or.inl rfl) ⟨rfl, rfl⟩ ?_
    refine ru_iload_n d_Wo_goOn_56 rfl rfl ?_
    refine ru_aload_n d_Wo_goOn_57 rfl rfl ?_
    refine ru_getI d_Wo_goOn_58 lf_Wo_19 (ly hL 266 7 0) rfl ?_
    refine ru_eqi h1' ?_
    refine ru_icmp_ge (tgt := 81) d_Wo_goOn_61 (by decide) (fun h61 => ?_) (fun h61 => ?_)
    · skip
      rw [if_neg (by first | (rintro ⟨q, -⟩; exact absurd h61 (nI_ge q (by omega))) | (rintro ⟨-, q⟩; exact h72 (by rw [iq, i_59]; exact q)))] at h
      exact loop2 _ h1' h2' _ i hi rfl (by rw [h4']; exact h)
    · skip
      refine ru_aload_n d_Wo_goOn_64 rfl rfl ?_
      refine ru_getR d_Wo_goOn_65 lf_Wo_9 (ly hL 266 7 0) rfl (lr hL 266 0 267) ?_
      refine ru_iload_n d_Wo_goOn_68 rfl rfl ?_
      refine ru_caldN d_Wo_goOn_69 (ly hL 267 101 3000) (Nat.lt_of_lt_of_le (Nat.lt_of_not_le (fun q => h61 (nI_le q (by omega)))) hn2) (by decide) ?_
      rw [h2']
      refine ru_bipush (v := 59) d_Wo_goOn_70 (by decide) ?_
      refine ru_icmp_ne (tgt := 81) d_Wo_goOn_72 (by decide) (fun h72 => ?_) (fun h72 => ?_)
      · skip
        rw [if_neg (by first | (rintro ⟨q, -⟩; exact absurd h61 (nI_ge q (by omega))) | (rintro ⟨-, q⟩; exact h72 (by rw [iq, i_59]; exact q)))] at h
        exact loop2 _ h1' h2' _ i hi rfl (by rw [h4']; exact h)
      · skip
        refine ru_iinc d_Wo_goOn_75 rfl (nI_1 i) (by decide) ?_
        refine ru_goto (tgt := 117) d_Wo_goOn_78 (by decide) ?_
        rw [if_pos ⟨Nat.lt_of_not_le (fun q => h61 (nI_le q (by omega))), by rw [h72, i_59]⟩] at h
        exact ru_to (fin _ (i + 1) (by rw [h4']; exact h)) ⟨rfl, rfl, trivial⟩
  -- the first loop, from 5
  have loop1 : ∀ f (m1 : Nat → Nat → Int32) i, m1 266 1 = nI n → m1 267 = mi 267 → i ≤ n → f = n - i → post none (nx, ct, rx_u (rx_u (rx_u (rx_u m1 266 5 (m1 266 5 + nI (nls n (mi 267) f i))) 266 2 (nI (sk n (mi 267) f i))) 266 3 (nI (wordEnd n (mi 267) (sk n (mi 267) f i)))) 266 4 (m1 266 4 + 1), ml, mr) → rx_W M_Wo_goOn 0 0 0 5 [(0, .ref 266), (1, .int (nI i))] [] (nx, ct, m1, ml, mr) (pR post) := by
    intro f
    induction f with
    | zero =>
      intro m1 i h1 h2 hi hf h
      unfold nls sk at h
      refine ru_iload_n d_Wo_goOn_5 rfl rfl ?_
      refine ru_aload_n d_Wo_goOn_6 rfl rfl ?_
      refine ru_getI d_Wo_goOn_7 lf_Wo_19 (ly hL 266 7 0) rfl ?_
      refine ru_eqi h1 ?_
      refine ru_icmp_ge (tgt := 51) d_Wo_goOn_10 (by decide) (fun h10 => ?_) (fun h10 => absurd (nI_le (by omega) (by omega)) h10)
      refine mid _ i h1 h2 hi ?_
      rw [nI_0, Int32.add_zero, rx_u_id] at h
      exact h
    | succ f ih =>
      intro m1 i h1 h2 hi hf h
      unfold nls sk at h
      refine ru_iload_n d_Wo_goOn_5 rfl rfl ?_
      refine ru_aload_n d_Wo_goOn_6 rfl rfl ?_
      refine ru_getI d_Wo_goOn_7 lf_Wo_19 (ly hL 266 7 0) rfl ?_
      refine ru_eqi h1 ?_
      refine ru_icmp_ge (tgt := 51) d_Wo_goOn_10 (by decide) (fun h10 => absurd h10 (nI_ge (by omega) (by omega))) (fun h10 => ?_)
      refine ru_aload_n d_Wo_goOn_13 rfl rfl ?_
      refine ru_getR d_Wo_goOn_14 lf_Wo_9 (ly hL 266 7 0) rfl (lr hL 266 0 267) ?_
      refine ru_iload_n d_Wo_goOn_17 rfl rfl ?_
      refine ru_caldN d_Wo_goOn_18 (ly hL 267 101 3000) (by omega) (by decide) ?_
      rw [h2]
      refine ru_bipush (v := 32) d_Wo_goOn_19 (by decide) ?_
      refine ru_icmp_gt (tgt := 51) d_Wo_goOn_21 (by decide) (fun h21 => ?_) (fun h21 => ?_)
      · skip
        rw [if_neg (by simp only [il, i_32] at *; omega), if_neg (by simp only [il, i_32] at *; omega)] at h
        refine mid _ i h1 h2 hi ?_
        rw [nI_0, Int32.add_zero, rx_u_id] at h
        exact h
      · skip
        refine ru_aload_n d_Wo_goOn_24 rfl rfl ?_
        refine ru_getR d_Wo_goOn_25 lf_Wo_9 (ly hL 266 7 0) rfl (lr hL 266 0 267) ?_
        refine ru_iload_n d_Wo_goOn_28 rfl rfl ?_
        refine ru_caldN d_Wo_goOn_29 (ly hL 267 101 3000) (by omega) (by decide) ?_
        rw [h2]
        refine ru_bipush (v := 10) d_Wo_goOn_30 (by decide) ?_
        refine ru_icmp_ne (tgt := 45) d_Wo_goOn_32 (by decide) (fun h32 => ?_) (fun h32 => ?_)
        · skip
          refine ru_iinc d_Wo_goOn_45 rfl (nI_1 i) (by decide) ?_
          refine ru_goto (tgt := 5) d_Wo_goOn_48 (by decide) ?_
          have hb : i < n ∧ (mi 267 i).toInt ≤ 32 := ⟨by omega, by simp only [il, i_32] at *; omega⟩
          rw [if_pos hb, if_pos hb] at h
          first | (rw [if_pos (show (mi 267 i).toInt = 10 by rw [h32, i_10])] at h; refine ru_to (ih _ (i + 1) (by rw [rx_u_k _ _ (by decide)]; exact h1) (by rw [rx_u_r _ _ (by decide)]; exact h2) (by omega) (by omega) ?_) ⟨rfl, rfl, trivial⟩; rw [rx_u_u, rx_u_same, rx_u_k _ _ (by decide)]; rw [Int32.add_assoc, ← nI_add 1] at *; exact h) | (rw [if_neg (show ¬ (mi 267 i).toInt = 10 by intro q; exact h32 (by rw [iq, i_10]; exact q)), Nat.zero_add] at h; exact ru_to (ih _ (i + 1) h1 h2 (by omega) (by omega) h) ⟨rfl, rfl, trivial⟩)
        · skip
          refine ru_aload_n d_Wo_goOn_35 rfl rfl ?_
          refine ru_dup d_Wo_goOn_36 rfl ?_
          refine ru_getI d_Wo_goOn_37 lf_Wo_29 (ly hL 266 7 0) rfl ?_
          refine ru_iconst (v := 1) d_Wo_goOn_40 (by decide) ?_
          refine ru_iadd d_Wo_goOn_41 ?_
          refine ru_putI d_Wo_goOn_42 lf_Wo_29 (ly hL 266 7 0) rfl (fun q hq => by cases hq; exact Or.inl rfl) ⟨rfl, rfl⟩ ?_
          refine ru_iinc d_Wo_goOn_45 rfl (nI_1 i) (by decide) ?_
          refine ru_goto (tgt := 5) d_Wo_goOn_48 (by decide) ?_
          have hb : i < n ∧ (mi 267 i).toInt ≤ 32 := ⟨by omega, by simp only [il, i_32] at *; omega⟩
          rw [if_pos hb, if_pos hb] at h
          first | (rw [if_pos (show (mi 267 i).toInt = 10 by rw [h32, i_10])] at h; refine ru_to (ih _ (i + 1) (by rw [rx_u_k _ _ (by decide)]; exact h1) (by rw [rx_u_r _ _ (by decide)]; exact h2) (by omega) (by omega) ?_) ⟨rfl, rfl, trivial⟩; rw [rx_u_u, rx_u_same, rx_u_k _ _ (by decide)]; rw [Int32.add_assoc, ← nI_add 1] at *; exact h) | (rw [if_neg (show ¬ (mi 267 i).toInt = 10 by intro q; exact h32 (by rw [iq, i_10]; exact q)), Nat.zero_add] at h; exact ru_to (ih _ (i + 1) h1 h2 (by omega) (by omega) h) ⟨rfl, rfl, trivial⟩)
  refine ru_aload_n d_Wo_goOn_0 rfl rfl ?_
  refine ru_getI d_Wo_goOn_1 lf_Wo_23 (ly hL 266 7 0) rfl ?_
  refine ru_eqi hb ?_
  refine ru_istore_n d_Wo_goOn_4 rfl (by decide) ?_
  refine ru_to (loop1 _ _ b hn rfl hb2 rfl ?_) ⟨rfl, rfl, trivial⟩
  rw [← hp]
  exact ⟨rfl, rfl⟩
end
