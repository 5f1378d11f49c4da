/-! The class: rules weighed against one another -/
theorem d_Ru_covers_0 : decode M_Ru_covers.2.1 0 = .ok (.aload_n 0, 1) := by decide +kernel
theorem d_Ru_covers_1 : decode M_Ru_covers.2.1 1 = .ok (.aload_n 1, 1) := by decide +kernel
theorem d_Ru_covers_2 : decode M_Ru_covers.2.1 2 = .ok (.invokevirtual 51, 3) := by decide +kernel
theorem d_Ru_covers_5 : decode M_Ru_covers.2.1 5 = .ok (.ifCond .eq 32, 3) := by decide +kernel
theorem d_Ru_covers_8 : decode M_Ru_covers.2.1 8 = .ok (.aload_n 0, 1) := by decide +kernel
theorem d_Ru_covers_9 : decode M_Ru_covers.2.1 9 = .ok (.aload_n 1, 1) := by decide +kernel
theorem d_Ru_covers_10 : decode M_Ru_covers.2.1 10 = .ok (.invokevirtual 55, 3) := by decide +kernel
theorem d_Ru_covers_13 : decode M_Ru_covers.2.1 13 = .ok (.ifCond .eq 24, 3) := by decide +kernel
theorem d_Ru_covers_16 : decode M_Ru_covers.2.1 16 = .ok (.aload_n 0, 1) := by decide +kernel
theorem d_Ru_covers_17 : decode M_Ru_covers.2.1 17 = .ok (.aload_n 1, 1) := by decide +kernel
theorem d_Ru_covers_18 : decode M_Ru_covers.2.1 18 = .ok (.invokevirtual 58, 3) := by decide +kernel
theorem d_Ru_covers_21 : decode M_Ru_covers.2.1 21 = .ok (.ifCond .eq 16, 3) := by decide +kernel
theorem d_Ru_covers_24 : decode M_Ru_covers.2.1 24 = .ok (.aload_n 0, 1) := by decide +kernel
theorem d_Ru_covers_25 : decode M_Ru_covers.2.1 25 = .ok (.aload_n 1, 1) := by decide +kernel
theorem d_Ru_covers_26 : decode M_Ru_covers.2.1 26 = .ok (.aload_n 2, 1) := by decide +kernel
theorem d_Ru_covers_27 : decode M_Ru_covers.2.1 27 = .ok (.invokevirtual 61, 3) := by decide +kernel
theorem d_Ru_covers_30 : decode M_Ru_covers.2.1 30 = .ok (.ifCond .eq 7, 3) := by decide +kernel
theorem d_Ru_covers_33 : decode M_Ru_covers.2.1 33 = .ok (.iconst 1, 1) := by decide +kernel
theorem d_Ru_covers_34 : decode M_Ru_covers.2.1 34 = .ok (.goto 4, 3) := by decide +kernel
theorem d_Ru_covers_37 : decode M_Ru_covers.2.1 37 = .ok (.iconst 0, 1) := by decide +kernel
theorem d_Ru_covers_38 : decode M_Ru_covers.2.1 38 = .ok (.ireturn, 1) := by decide +kernel
theorem d_Ru_coversArea_0 : decode M_Ru_coversArea.2.1 0 = .ok (.aload_n 0, 1) := by decide +kernel
theorem d_Ru_coversArea_1 : decode M_Ru_coversArea.2.1 1 = .ok (.getfield 30, 3) := by decide +kernel
theorem d_Ru_coversArea_4 : decode M_Ru_coversArea.2.1 4 = .ok (.iconst (-1), 1) := by decide +kernel
theorem d_Ru_coversArea_5 : decode M_Ru_coversArea.2.1 5 = .ok (.if_icmp .eq 14, 3) := by decide +kernel
theorem d_Ru_coversArea_8 : decode M_Ru_coversArea.2.1 8 = .ok (.aload_n 0, 1) := by decide +kernel
theorem d_Ru_coversArea_9 : decode M_Ru_coversArea.2.1 9 = .ok (.getfield 30, 3) := by decide +kernel
theorem d_Ru_coversArea_12 : decode M_Ru_coversArea.2.1 12 = .ok (.aload_n 1, 1) := by decide +kernel
theorem d_Ru_coversArea_13 : decode M_Ru_coversArea.2.1 13 = .ok (.getfield 30, 3) := by decide +kernel
theorem d_Ru_coversArea_16 : decode M_Ru_coversArea.2.1 16 = .ok (.if_icmp .ne 5, 3) := by decide +kernel
theorem d_Ru_coversArea_19 : decode M_Ru_coversArea.2.1 19 = .ok (.iconst 1, 1) := by decide +kernel
theorem d_Ru_coversArea_20 : decode M_Ru_coversArea.2.1 20 = .ok (.ireturn, 1) := by decide +kernel
theorem d_Ru_coversArea_21 : decode M_Ru_coversArea.2.1 21 = .ok (.aload_n 1, 1) := by decide +kernel
theorem d_Ru_coversArea_22 : decode M_Ru_coversArea.2.1 22 = .ok (.getfield 30, 3) := by decide +kernel
theorem d_Ru_coversArea_25 : decode M_Ru_coversArea.2.1 25 = .ok (.iconst (-1), 1) := by decide +kernel
theorem d_Ru_coversArea_26 : decode M_Ru_coversArea.2.1 26 = .ok (.if_icmp .eq 22, 3) := by decide +kernel
theorem d_Ru_coversArea_29 : decode M_Ru_coversArea.2.1 29 = .ok (.aload_n 2, 1) := by decide +kernel
theorem d_Ru_coversArea_30 : decode M_Ru_coversArea.2.1 30 = .ok (.aload_n 0, 1) := by decide +kernel
theorem d_Ru_coversArea_31 : decode M_Ru_coversArea.2.1 31 = .ok (.getfield 30, 3) := by decide +kernel
theorem d_Ru_coversArea_34 : decode M_Ru_coversArea.2.1 34 = .ok (.aload_n 1, 1) := by decide +kernel
theorem d_Ru_coversArea_35 : decode M_Ru_coversArea.2.1 35 = .ok (.getfield 30, 3) := by decide +kernel
theorem d_Ru_coversArea_38 : decode M_Ru_coversArea.2.1 38 = .ok (.invokevirtual 73, 3) := by decide +kernel
theorem d_Ru_coversArea_41 : decode M_Ru_coversArea.2.1 41 = .ok (.ifCond .eq 7, 3) := by decide +kernel
theorem d_Ru_coversArea_44 : decode M_Ru_coversArea.2.1 44 = .ok (.iconst 1, 1) := by decide +kernel
theorem d_Ru_coversArea_45 : decode M_Ru_coversArea.2.1 45 = .ok (.goto 4, 3) := by decide +kernel
theorem d_Ru_coversArea_48 : decode M_Ru_coversArea.2.1 48 = .ok (.iconst 0, 1) := by decide +kernel
theorem d_Ru_coversArea_49 : decode M_Ru_coversArea.2.1 49 = .ok (.ireturn, 1) := by decide +kernel
theorem d_Ru_coversKind_0 : decode M_Ru_coversKind.2.1 0 = .ok (.aload_n 0, 1) := by decide +kernel
theorem d_Ru_coversKind_1 : decode M_Ru_coversKind.2.1 1 = .ok (.getfield 15, 3) := by decide +kernel
theorem d_Ru_coversKind_4 : decode M_Ru_coversKind.2.1 4 = .ok (.aload_n 1, 1) := by decide +kernel
theorem d_Ru_coversKind_5 : decode M_Ru_coversKind.2.1 5 = .ok (.getfield 15, 3) := by decide +kernel
theorem d_Ru_coversKind_8 : decode M_Ru_coversKind.2.1 8 = .ok (.if_acmp .eq 20, 3) := by decide +kernel
theorem d_Ru_coversKind_11 : decode M_Ru_coversKind.2.1 11 = .ok (.aload_n 0, 1) := by decide +kernel
theorem d_Ru_coversKind_12 : decode M_Ru_coversKind.2.1 12 = .ok (.invokevirtual 65, 3) := by decide +kernel
theorem d_Ru_coversKind_15 : decode M_Ru_coversKind.2.1 15 = .ok (.ifCond .eq 17, 3) := by decide +kernel
theorem d_Ru_coversKind_18 : decode M_Ru_coversKind.2.1 18 = .ok (.aload_n 1, 1) := by decide +kernel
theorem d_Ru_coversKind_19 : decode M_Ru_coversKind.2.1 19 = .ok (.getfield 15, 3) := by decide +kernel
theorem d_Ru_coversKind_22 : decode M_Ru_coversKind.2.1 22 = .ok (.getstatic 9, 3) := by decide +kernel
theorem d_Ru_coversKind_25 : decode M_Ru_coversKind.2.1 25 = .ok (.if_acmp .ne 7, 3) := by decide +kernel
theorem d_Ru_coversKind_28 : decode M_Ru_coversKind.2.1 28 = .ok (.iconst 1, 1) := by decide +kernel
theorem d_Ru_coversKind_29 : decode M_Ru_coversKind.2.1 29 = .ok (.goto 4, 3) := by decide +kernel
theorem d_Ru_coversKind_32 : decode M_Ru_coversKind.2.1 32 = .ok (.iconst 0, 1) := by decide +kernel
theorem d_Ru_coversKind_33 : decode M_Ru_coversKind.2.1 33 = .ok (.ireturn, 1) := by decide +kernel
theorem d_Ru_coversLayer_0 : decode M_Ru_coversLayer.2.1 0 = .ok (.aload_n 0, 1) := by decide +kernel
theorem d_Ru_coversLayer_1 : decode M_Ru_coversLayer.2.1 1 = .ok (.getfield 27, 3) := by decide +kernel
theorem d_Ru_coversLayer_4 : decode M_Ru_coversLayer.2.1 4 = .ok (.ifCond .eq 14, 3) := by decide +kernel
theorem d_Ru_coversLayer_7 : decode M_Ru_coversLayer.2.1 7 = .ok (.aload_n 0, 1) := by decide +kernel
theorem d_Ru_coversLayer_8 : decode M_Ru_coversLayer.2.1 8 = .ok (.getfield 27, 3) := by decide +kernel
theorem d_Ru_coversLayer_11 : decode M_Ru_coversLayer.2.1 11 = .ok (.aload_n 1, 1) := by decide +kernel
theorem d_Ru_coversLayer_12 : decode M_Ru_coversLayer.2.1 12 = .ok (.getfield 27, 3) := by decide +kernel
theorem d_Ru_coversLayer_15 : decode M_Ru_coversLayer.2.1 15 = .ok (.if_icmp .ne 7, 3) := by decide +kernel
theorem d_Ru_coversLayer_18 : decode M_Ru_coversLayer.2.1 18 = .ok (.iconst 1, 1) := by decide +kernel
theorem d_Ru_coversLayer_19 : decode M_Ru_coversLayer.2.1 19 = .ok (.goto 4, 3) := by decide +kernel
theorem d_Ru_coversLayer_22 : decode M_Ru_coversLayer.2.1 22 = .ok (.iconst 0, 1) := by decide +kernel
theorem d_Ru_coversLayer_23 : decode M_Ru_coversLayer.2.1 23 = .ok (.ireturn, 1) := by decide +kernel
theorem d_Ru_coversThing_0 : decode M_Ru_coversThing.2.1 0 = .ok (.iload_n 0, 1) := by decide +kernel
theorem d_Ru_coversThing_1 : decode M_Ru_coversThing.2.1 1 = .ok (.iconst (-1), 1) := by decide +kernel
theorem d_Ru_coversThing_2 : decode M_Ru_coversThing.2.1 2 = .ok (.if_icmp .eq 8, 3) := by decide +kernel
theorem d_Ru_coversThing_5 : decode M_Ru_coversThing.2.1 5 = .ok (.iload_n 0, 1) := by decide +kernel
theorem d_Ru_coversThing_6 : decode M_Ru_coversThing.2.1 6 = .ok (.iload_n 1, 1) := by decide +kernel
theorem d_Ru_coversThing_7 : decode M_Ru_coversThing.2.1 7 = .ok (.if_icmp .ne 7, 3) := by decide +kernel
theorem d_Ru_coversThing_10 : decode M_Ru_coversThing.2.1 10 = .ok (.iconst 1, 1) := by decide +kernel
theorem d_Ru_coversThing_11 : decode M_Ru_coversThing.2.1 11 = .ok (.goto 4, 3) := by decide +kernel
theorem d_Ru_coversThing_14 : decode M_Ru_coversThing.2.1 14 = .ok (.iconst 0, 1) := by decide +kernel
theorem d_Ru_coversThing_15 : decode M_Ru_coversThing.2.1 15 = .ok (.ireturn, 1) := by decide +kernel
theorem d_Ru_coversThings_0 : decode M_Ru_coversThings.2.1 0 = .ok (.aload_n 0, 1) := by decide +kernel
theorem d_Ru_coversThings_1 : decode M_Ru_coversThings.2.1 1 = .ok (.getfield 20, 3) := by decide +kernel
theorem d_Ru_coversThings_4 : decode M_Ru_coversThings.2.1 4 = .ok (.aload_n 1, 1) := by decide +kernel
theorem d_Ru_coversThings_5 : decode M_Ru_coversThings.2.1 5 = .ok (.getfield 20, 3) := by decide +kernel
theorem d_Ru_coversThings_8 : decode M_Ru_coversThings.2.1 8 = .ok (.invokestatic 69, 3) := by decide +kernel
theorem d_Ru_coversThings_11 : decode M_Ru_coversThings.2.1 11 = .ok (.ifCond .eq 17, 3) := by decide +kernel
theorem d_Ru_coversThings_14 : decode M_Ru_coversThings.2.1 14 = .ok (.aload_n 0, 1) := by decide +kernel
theorem d_Ru_coversThings_15 : decode M_Ru_coversThings.2.1 15 = .ok (.getfield 24, 3) := by decide +kernel
theorem d_Ru_coversThings_18 : decode M_Ru_coversThings.2.1 18 = .ok (.aload_n 1, 1) := by decide +kernel
theorem d_Ru_coversThings_19 : decode M_Ru_coversThings.2.1 19 = .ok (.getfield 24, 3) := by decide +kernel
theorem d_Ru_coversThings_22 : decode M_Ru_coversThings.2.1 22 = .ok (.invokestatic 69, 3) := by decide +kernel
theorem d_Ru_coversThings_25 : decode M_Ru_coversThings.2.1 25 = .ok (.ifCond .ne 31, 3) := by decide +kernel
theorem d_Ru_coversThings_28 : decode M_Ru_coversThings.2.1 28 = .ok (.aload_n 0, 1) := by decide +kernel
theorem d_Ru_coversThings_29 : decode M_Ru_coversThings.2.1 29 = .ok (.getfield 20, 3) := by decide +kernel
theorem d_Ru_coversThings_32 : decode M_Ru_coversThings.2.1 32 = .ok (.aload_n 1, 1) := by decide +kernel
theorem d_Ru_coversThings_33 : decode M_Ru_coversThings.2.1 33 = .ok (.getfield 24, 3) := by decide +kernel
theorem d_Ru_coversThings_36 : decode M_Ru_coversThings.2.1 36 = .ok (.invokestatic 69, 3) := by decide +kernel
theorem d_Ru_coversThings_39 : decode M_Ru_coversThings.2.1 39 = .ok (.ifCond .eq 21, 3) := by decide +kernel
theorem d_Ru_coversThings_42 : decode M_Ru_coversThings.2.1 42 = .ok (.aload_n 0, 1) := by decide +kernel
theorem d_Ru_coversThings_43 : decode M_Ru_coversThings.2.1 43 = .ok (.getfield 24, 3) := by decide +kernel
theorem d_Ru_coversThings_46 : decode M_Ru_coversThings.2.1 46 = .ok (.aload_n 1, 1) := by decide +kernel
theorem d_Ru_coversThings_47 : decode M_Ru_coversThings.2.1 47 = .ok (.getfield 20, 3) := by decide +kernel
theorem d_Ru_coversThings_50 : decode M_Ru_coversThings.2.1 50 = .ok (.invokestatic 69, 3) := by decide +kernel
theorem d_Ru_coversThings_53 : decode M_Ru_coversThings.2.1 53 = .ok (.ifCond .eq 7, 3) := by decide +kernel
theorem d_Ru_coversThings_56 : decode M_Ru_coversThings.2.1 56 = .ok (.iconst 1, 1) := by decide +kernel
theorem d_Ru_coversThings_57 : decode M_Ru_coversThings.2.1 57 = .ok (.goto 4, 3) := by decide +kernel
theorem d_Ru_coversThings_60 : decode M_Ru_coversThings.2.1 60 = .ok (.iconst 0, 1) := by decide +kernel
theorem d_Ru_coversThings_61 : decode M_Ru_coversThings.2.1 61 = .ok (.ireturn, 1) := by decide +kernel
theorem d_Ru_isOfTwoThings_0 : decode M_Ru_isOfTwoThings.2.1 0 = .ok (.aload_n 0, 1) := by decide +kernel
theorem d_Ru_isOfTwoThings_1 : decode M_Ru_isOfTwoThings.2.1 1 = .ok (.getfield 15, 3) := by decide +kernel
theorem d_Ru_isOfTwoThings_4 : decode M_Ru_isOfTwoThings.2.1 4 = .ok (.getstatic 9, 3) := by decide +kernel
theorem d_Ru_isOfTwoThings_7 : decode M_Ru_isOfTwoThings.2.1 7 = .ok (.if_acmp .eq 13, 3) := by decide +kernel
theorem d_Ru_isOfTwoThings_10 : decode M_Ru_isOfTwoThings.2.1 10 = .ok (.aload_n 0, 1) := by decide +kernel
theorem d_Ru_isOfTwoThings_11 : decode M_Ru_isOfTwoThings.2.1 11 = .ok (.getfield 15, 3) := by decide +kernel
theorem d_Ru_isOfTwoThings_14 : decode M_Ru_isOfTwoThings.2.1 14 = .ok (.getstatic 48, 3) := by decide +kernel
theorem d_Ru_isOfTwoThings_17 : decode M_Ru_isOfTwoThings.2.1 17 = .ok (.if_acmp .ne 7, 3) := by decide +kernel
theorem d_Ru_isOfTwoThings_20 : decode M_Ru_isOfTwoThings.2.1 20 = .ok (.iconst 1, 1) := by decide +kernel
theorem d_Ru_isOfTwoThings_21 : decode M_Ru_isOfTwoThings.2.1 21 = .ok (.goto 4, 3) := by decide +kernel
theorem d_Ru_isOfTwoThings_24 : decode M_Ru_isOfTwoThings.2.1 24 = .ok (.iconst 0, 1) := by decide +kernel
theorem d_Ru_isOfTwoThings_25 : decode M_Ru_isOfTwoThings.2.1 25 = .ok (.ireturn, 1) := by decide +kernel
theorem d_Ru_isWaiver_0 : decode M_Ru_isWaiver.2.1 0 = .ok (.aload_n 0, 1) := by decide +kernel
theorem d_Ru_isWaiver_1 : decode M_Ru_isWaiver.2.1 1 = .ok (.getfield 15, 3) := by decide +kernel
theorem d_Ru_isWaiver_4 : decode M_Ru_isWaiver.2.1 4 = .ok (.getstatic 48, 3) := by decide +kernel
theorem d_Ru_isWaiver_7 : decode M_Ru_isWaiver.2.1 7 = .ok (.if_acmp .ne 7, 3) := by decide +kernel
theorem d_Ru_isWaiver_10 : decode M_Ru_isWaiver.2.1 10 = .ok (.iconst 1, 1) := by decide +kernel
theorem d_Ru_isWaiver_11 : decode M_Ru_isWaiver.2.1 11 = .ok (.goto 4, 3) := by decide +kernel
theorem d_Ru_isWaiver_14 : decode M_Ru_isWaiver.2.1 14 = .ok (.iconst 0, 1) := by decide +kernel
theorem d_Ru_isWaiver_15 : decode M_Ru_isWaiver.2.1 15 = .ok (.ireturn, 1) := by decide +kernel
theorem d_Ru_reachesUpTo_0 : decode M_Ru_reachesUpTo.2.1 0 = .ok (.aload_n 0, 1) := by decide +kernel
theorem d_Ru_reachesUpTo_1 : decode M_Ru_reachesUpTo.2.1 1 = .ok (.getfield 42, 3) := by decide +kernel
theorem d_Ru_reachesUpTo_4 : decode M_Ru_reachesUpTo.2.1 4 = .ok (.ldc2_w 36, 3) := by decide +kernel
theorem d_Ru_reachesUpTo_7 : decode M_Ru_reachesUpTo.2.1 7 = .ok (.lcmp, 1) := by decide +kernel
theorem d_Ru_reachesUpTo_8 : decode M_Ru_reachesUpTo.2.1 8 = .ok (.ifCond .eq 26, 3) := by decide +kernel
theorem d_Ru_reachesUpTo_11 : decode M_Ru_reachesUpTo.2.1 11 = .ok (.aload_n 1, 1) := by decide +kernel
theorem d_Ru_reachesUpTo_12 : decode M_Ru_reachesUpTo.2.1 12 = .ok (.getfield 38, 3) := by decide +kernel
theorem d_Ru_reachesUpTo_15 : decode M_Ru_reachesUpTo.2.1 15 = .ok (.ldc2_w 36, 3) := by decide +kernel
theorem d_Ru_reachesUpTo_18 : decode M_Ru_reachesUpTo.2.1 18 = .ok (.lcmp, 1) := by decide +kernel
theorem d_Ru_reachesUpTo_19 : decode M_Ru_reachesUpTo.2.1 19 = .ok (.ifCond .eq 15, 3) := by decide +kernel
theorem d_Ru_reachesUpTo_22 : decode M_Ru_reachesUpTo.2.1 22 = .ok (.aload_n 0, 1) := by decide +kernel
theorem d_Ru_reachesUpTo_23 : decode M_Ru_reachesUpTo.2.1 23 = .ok (.getfield 42, 3) := by decide +kernel
theorem d_Ru_reachesUpTo_26 : decode M_Ru_reachesUpTo.2.1 26 = .ok (.aload_n 1, 1) := by decide +kernel
theorem d_Ru_reachesUpTo_27 : decode M_Ru_reachesUpTo.2.1 27 = .ok (.getfield 38, 3) := by decide +kernel
theorem d_Ru_reachesUpTo_30 : decode M_Ru_reachesUpTo.2.1 30 = .ok (.lcmp, 1) := by decide +kernel
theorem d_Ru_reachesUpTo_31 : decode M_Ru_reachesUpTo.2.1 31 = .ok (.ifCond .lt 7, 3) := by decide +kernel
theorem d_Ru_reachesUpTo_34 : decode M_Ru_reachesUpTo.2.1 34 = .ok (.iconst 1, 1) := by decide +kernel
theorem d_Ru_reachesUpTo_35 : decode M_Ru_reachesUpTo.2.1 35 = .ok (.goto 4, 3) := by decide +kernel
theorem d_Ru_reachesUpTo_38 : decode M_Ru_reachesUpTo.2.1 38 = .ok (.iconst 0, 1) := by decide +kernel
theorem d_Ru_reachesUpTo_39 : decode M_Ru_reachesUpTo.2.1 39 = .ok (.ireturn, 1) := by decide +kernel
theorem d_Ru_sharesValueWith_0 : decode M_Ru_sharesValueWith.2.1 0 = .ok (.aload_n 0, 1) := by decide +kernel
theorem d_Ru_sharesValueWith_1 : decode M_Ru_sharesValueWith.2.1 1 = .ok (.aload_n 1, 1) := by decide +kernel
theorem d_Ru_sharesValueWith_2 : decode M_Ru_sharesValueWith.2.1 2 = .ok (.invokevirtual 78, 3) := by decide +kernel
theorem d_Ru_sharesValueWith_5 : decode M_Ru_sharesValueWith.2.1 5 = .ok (.ifCond .eq 15, 3) := by decide +kernel
theorem d_Ru_sharesValueWith_8 : decode M_Ru_sharesValueWith.2.1 8 = .ok (.aload_n 1, 1) := by decide +kernel
theorem d_Ru_sharesValueWith_9 : decode M_Ru_sharesValueWith.2.1 9 = .ok (.aload_n 0, 1) := by decide +kernel
theorem d_Ru_sharesValueWith_10 : decode M_Ru_sharesValueWith.2.1 10 = .ok (.invokevirtual 78, 3) := by decide +kernel
theorem d_Ru_sharesValueWith_13 : decode M_Ru_sharesValueWith.2.1 13 = .ok (.ifCond .eq 7, 3) := by decide +kernel
theorem d_Ru_sharesValueWith_16 : decode M_Ru_sharesValueWith.2.1 16 = .ok (.iconst 1, 1) := by decide +kernel
theorem d_Ru_sharesValueWith_17 : decode M_Ru_sharesValueWith.2.1 17 = .ok (.goto 4, 3) := by decide +kernel
theorem d_Ru_sharesValueWith_20 : decode M_Ru_sharesValueWith.2.1 20 = .ok (.iconst 0, 1) := by decide +kernel
theorem d_Ru_sharesValueWith_21 : decode M_Ru_sharesValueWith.2.1 21 = .ok (.ireturn, 1) := by decide +kernel
theorem d_Sh_holds_0 : decode M_Sh_holds.2.1 0 = .ok (.aload_n 0, 1) := by decide +kernel
theorem d_Sh_holds_1 : decode M_Sh_holds.2.1 1 = .ok (.getfield 9, 3) := by decide +kernel
theorem d_Sh_holds_4 : decode M_Sh_holds.2.1 4 = .ok (.iload_n 1, 1) := by decide +kernel
theorem d_Sh_holds_5 : decode M_Sh_holds.2.1 5 = .ok (.baload, 1) := by decide +kernel
theorem d_Sh_holds_6 : decode M_Sh_holds.2.1 6 = .ok (.ifCond .eq 80, 3) := by decide +kernel
theorem d_Sh_holds_9 : decode M_Sh_holds.2.1 9 = .ok (.aload_n 0, 1) := by decide +kernel
theorem d_Sh_holds_10 : decode M_Sh_holds.2.1 10 = .ok (.getfield 9, 3) := by decide +kernel
theorem d_Sh_holds_13 : decode M_Sh_holds.2.1 13 = .ok (.iload_n 2, 1) := by decide +kernel
theorem d_Sh_holds_14 : decode M_Sh_holds.2.1 14 = .ok (.baload, 1) := by decide +kernel
theorem d_Sh_holds_15 : decode M_Sh_holds.2.1 15 = .ok (.ifCond .eq 71, 3) := by decide +kernel
theorem d_Sh_holds_18 : decode M_Sh_holds.2.1 18 = .ok (.aload_n 0, 1) := by decide +kernel
theorem d_Sh_holds_19 : decode M_Sh_holds.2.1 19 = .ok (.getfield 15, 3) := by decide +kernel
theorem d_Sh_holds_22 : decode M_Sh_holds.2.1 22 = .ok (.iload_n 1, 1) := by decide +kernel
theorem d_Sh_holds_23 : decode M_Sh_holds.2.1 23 = .ok (.laload, 1) := by decide +kernel
theorem d_Sh_holds_24 : decode M_Sh_holds.2.1 24 = .ok (.aload_n 0, 1) := by decide +kernel
theorem d_Sh_holds_25 : decode M_Sh_holds.2.1 25 = .ok (.getfield 15, 3) := by decide +kernel
theorem d_Sh_holds_28 : decode M_Sh_holds.2.1 28 = .ok (.iload_n 2, 1) := by decide +kernel
theorem d_Sh_holds_29 : decode M_Sh_holds.2.1 29 = .ok (.laload, 1) := by decide +kernel
theorem d_Sh_holds_30 : decode M_Sh_holds.2.1 30 = .ok (.lcmp, 1) := by decide +kernel
theorem d_Sh_holds_31 : decode M_Sh_holds.2.1 31 = .ok (.ifCond .gt 55, 3) := by decide +kernel
theorem d_Sh_holds_34 : decode M_Sh_holds.2.1 34 = .ok (.aload_n 0, 1) := by decide +kernel
theorem d_Sh_holds_35 : decode M_Sh_holds.2.1 35 = .ok (.getfield 22, 3) := by decide +kernel
theorem d_Sh_holds_38 : decode M_Sh_holds.2.1 38 = .ok (.iload_n 2, 1) := by decide +kernel
theorem d_Sh_holds_39 : decode M_Sh_holds.2.1 39 = .ok (.laload, 1) := by decide +kernel
theorem d_Sh_holds_40 : decode M_Sh_holds.2.1 40 = .ok (.aload_n 0, 1) := by decide +kernel
theorem d_Sh_holds_41 : decode M_Sh_holds.2.1 41 = .ok (.getfield 22, 3) := by decide +kernel
theorem d_Sh_holds_44 : decode M_Sh_holds.2.1 44 = .ok (.iload_n 1, 1) := by decide +kernel
theorem d_Sh_holds_45 : decode M_Sh_holds.2.1 45 = .ok (.laload, 1) := by decide +kernel
theorem d_Sh_holds_46 : decode M_Sh_holds.2.1 46 = .ok (.lcmp, 1) := by decide +kernel
theorem d_Sh_holds_47 : decode M_Sh_holds.2.1 47 = .ok (.ifCond .gt 39, 3) := by decide +kernel
theorem d_Sh_holds_50 : decode M_Sh_holds.2.1 50 = .ok (.aload_n 0, 1) := by decide +kernel
theorem d_Sh_holds_51 : decode M_Sh_holds.2.1 51 = .ok (.getfield 19, 3) := by decide +kernel
theorem d_Sh_holds_54 : decode M_Sh_holds.2.1 54 = .ok (.iload_n 1, 1) := by decide +kernel
theorem d_Sh_holds_55 : decode M_Sh_holds.2.1 55 = .ok (.laload, 1) := by decide +kernel
theorem d_Sh_holds_56 : decode M_Sh_holds.2.1 56 = .ok (.aload_n 0, 1) := by decide +kernel
theorem d_Sh_holds_57 : decode M_Sh_holds.2.1 57 = .ok (.getfield 19, 3) := by decide +kernel
theorem d_Sh_holds_60 : decode M_Sh_holds.2.1 60 = .ok (.iload_n 2, 1) := by decide +kernel
theorem d_Sh_holds_61 : decode M_Sh_holds.2.1 61 = .ok (.laload, 1) := by decide +kernel
theorem d_Sh_holds_62 : decode M_Sh_holds.2.1 62 = .ok (.lcmp, 1) := by decide +kernel
theorem d_Sh_holds_63 : decode M_Sh_holds.2.1 63 = .ok (.ifCond .gt 23, 3) := by decide +kernel
theorem d_Sh_holds_66 : decode M_Sh_holds.2.1 66 = .ok (.aload_n 0, 1) := by decide +kernel
theorem d_Sh_holds_67 : decode M_Sh_holds.2.1 67 = .ok (.getfield 25, 3) := by decide +kernel
theorem d_Sh_holds_70 : decode M_Sh_holds.2.1 70 = .ok (.iload_n 2, 1) := by decide +kernel
theorem d_Sh_holds_71 : decode M_Sh_holds.2.1 71 = .ok (.laload, 1) := by decide +kernel
theorem d_Sh_holds_72 : decode M_Sh_holds.2.1 72 = .ok (.aload_n 0, 1) := by decide +kernel
theorem d_Sh_holds_73 : decode M_Sh_holds.2.1 73 = .ok (.getfield 25, 3) := by decide +kernel
theorem d_Sh_holds_76 : decode M_Sh_holds.2.1 76 = .ok (.iload_n 1, 1) := by decide +kernel
theorem d_Sh_holds_77 : decode M_Sh_holds.2.1 77 = .ok (.laload, 1) := by decide +kernel
theorem d_Sh_holds_78 : decode M_Sh_holds.2.1 78 = .ok (.lcmp, 1) := by decide +kernel
theorem d_Sh_holds_79 : decode M_Sh_holds.2.1 79 = .ok (.ifCond .gt 7, 3) := by decide +kernel
theorem d_Sh_holds_82 : decode M_Sh_holds.2.1 82 = .ok (.iconst 1, 1) := by decide +kernel
theorem d_Sh_holds_83 : decode M_Sh_holds.2.1 83 = .ok (.goto 4, 3) := by decide +kernel
theorem d_Sh_holds_86 : decode M_Sh_holds.2.1 86 = .ok (.iconst 0, 1) := by decide +kernel
theorem d_Sh_holds_87 : decode M_Sh_holds.2.1 87 = .ok (.ireturn, 1) := by decide +kernel
/-- cell r of the class holds rule q -/
def clI (mi : Nat → Nat → Int32) (ml : Nat → Nat → Int64) (mr : Nat → Nat → Option Nat) (r : Nat) (q : ruS) : Prop :=
  mr r 0 = some (1 + q.1) ∧ (mi r 1 = oR q.2.1.1 ∧ mi r 2 = oR q.2.1.2) ∧ mi r 3 = nI q.2.2.1 ∧ mi r 4 = oR q.2.2.2.1 ∧ mi r 5 = nI q.2.2.2.2.1 ∧ (ml r 6 = oL q.2.2.2.2.2.1.1 ∧ ml r 7 = oL q.2.2.2.2.2.1.2) ∧ mi r 8 = nI q.2.2.2.2.2.2
def aheadP (q q' : ruS) (i k : Nat) : Prop := (q.1 = 12 ∧ ¬ q'.1 = 12) ∨ ((q.1 = 12 ↔ q'.1 = 12) ∧ (q'.2.2.2.2.1 < q.2.2.2.2.1 ∨ (q.2.2.2.2.1 = q'.2.2.2.2.1 ∧ k < i)))
def thP2 (a b : Option Nat) : Prop := a = none ∨ a = b
def thingsP (q q' : ruS) : Prop := (thP2 q.2.1.1 q'.2.1.1 ∧ thP2 q.2.1.2 q'.2.1.2) ∨ (thP2 q.2.1.1 q'.2.1.2 ∧ thP2 q.2.1.2 q'.2.1.1)
def hP (T : Nat → Int32) (Q : Nat → Nat → Int64) (x y : Nat) : Prop := ¬ T x = 0 ∧ ¬ T y = 0 ∧ Q 0 x ≤ Q 0 y ∧ Q 2 y ≤ Q 2 x ∧ Q 1 x ≤ Q 1 y ∧ Q 3 y ≤ Q 3 x
def areaP (T : Nat → Int32) (Q : Nat → Nat → Int64) (a b : Option Nat) : Prop := a = none ∨ a = b ∨ ∃ x y, a = some x ∧ b = some y ∧ hP T Q x y
def coversP (T : Nat → Int32) (Q : Nat → Nat → Int64) (q q' : ruS) : Prop := (q.1 = q'.1 ∨ (q.1 = 12 ∧ q'.1 = 0)) ∧ thingsP q q' ∧ (q.2.2.1 = 0 ∨ q.2.2.1 = q'.2.2.1) ∧ areaP T Q q.2.2.2.1 q'.2.2.2.1
def reachP (q q' : ruS) : Prop := q.2.2.2.2.2.1.2 = none ∨ q'.2.2.2.2.2.1.1 = none ∨ ∃ x y, q.2.2.2.2.2.1.2 = some x ∧ q'.2.2.2.2.2.1.1 = some y ∧ y ≤ x
def oddsP (T : Nat → Int32) (Q : Nat → Nat → Int64) (q q' : ruS) : Prop := ¬ q.1 = 12 ∧ ¬ q'.1 = 12 ∧ ¬ (reachP q q' ∧ reachP q' q) ∧ coversP T Q q q' ∧ coversP T Q q' q
theorem oR_m1 {a : Option Nat} (h : ∀ x, a = some x → x < 2 ^ 31) : oR a = -1 ↔ a = none := by
  cases a with
  | none => exact ⟨fun _ => rfl, fun _ => rfl⟩
  | some x => exact ⟨fun z => absurd z (nI_m1 (h x rfl)), fun z => by cases z⟩
theorem oR_eq {a b : Option Nat} (h : ∀ x, a = some x → x < 2 ^ 31) (h' : ∀ x, b = some x → x < 2 ^ 31) : oR a = oR b ↔ a = b := by
  cases a with
  | none =>
    cases b with
    | none => exact ⟨fun _ => rfl, fun _ => rfl⟩
    | some x => exact ⟨fun z => absurd z.symm (nI_m1 (h' x rfl)), fun z => by cases z⟩
  | some x =>
    cases b with
    | none => exact ⟨fun z => absurd z (nI_m1 (h x rfl)), fun z => by cases z⟩
    | some y => exact ⟨fun z => by rw [nm_eq (h x rfl) (h' y rfl) z], fun z => by rw [z]⟩
theorem oL_m1 {a : Option Nat} (h : ∀ x, a = some x → x < 2 ^ 63) : oL a = -1 ↔ a = none := by
  cases a with
  | none => exact ⟨fun _ => rfl, fun _ => rfl⟩
  | some x =>
    refine ⟨fun z => ?_, fun z => by cases z⟩
    have := congrArg Int64.toInt z
    rw [show oL (some x) = Int64.ofNat x from rfl, nl_toInt (h x rfl), show ((-1 : Int64)).toInt = -1 from by decide] at this
    omega
theorem ends_lt {e : Option Nat × Option Nat} (h : endsOK e) : (∀ x, e.1 = some x → x < 2 ^ 63) ∧ ∀ x, e.2 = some x → x < 2 ^ 63 := by
  obtain ⟨a, b⟩ := e
  cases a with
  | none =>
    cases b with
    | none => exact ⟨(fun x z => by cases z), (fun x z => by cases z)⟩
    | some b => exact ⟨(fun x z => by cases z), (fun x z => by cases z; have : b ≤ 1000000000000 := h; omega)⟩
  | some a =>
    cases b with
    | none => exact ⟨(fun x z => by cases z; have : a ≤ 1000000000000 := h; omega), (fun x z => by cases z)⟩
    | some b => exact ⟨(fun x z => by cases z; have : a ≤ b ∧ b ≤ 1000000000000 := h; omega), (fun x z => by cases z; have : a ≤ b ∧ b ≤ 1000000000000 := h; omega)⟩
section
variable {nx : Nat} {ct : Nat → Nat × Nat} {mi : Nat → Nat → Int32} {ml : Nat → Nat → Int64} {mr : Nat → Nat → Option Nat} {ra rb : Nat} {q q' : ruS}
theorem sp_isWaiver (hL : LAY nx ct mr) (ha : isRu ra) (hq : clI mi ml mr ra q) (ho : ruOK q) : rx_Calls y_Ru_isWaiver M_Ru_isWaiver 0 0 0 [.ref ra] (nx, ct, mi, ml, mr) (fun v τ => v = some (.int (bI (q.1 = 12))) ∧ τ = (nx, ct, mi, ml, mr)) := by
  refine rx_enter (by decide) rfl rfl (Nat.le_of_ble_eq_true rfl) ?_
  have h13 := ho.1
  refine ru_aload_n d_Ru_isWaiver_0 rfl rfl ?_
  refine ru_getR d_Ru_isWaiver_1 lf_Ru_15 (ly_ru hL ha) rfl hq.1 ?_
  refine ru_gets d_Ru_isWaiver_4 (Or.inl (rx_in (tm_2 (List.mem_of_getElem? (i := 179) rfl)) rfl)) (List.mem_of_getElem? (i := 1) rfl) ?_
  refine ru_acmp_ne (tgt := 14) d_Ru_isWaiver_7 (by decide) (by omega) (by omega) (fun h7 => ?_) (fun h7 => ?_)
  · skip
    refine ru_iconst (v := 0) d_Ru_isWaiver_14 (by decide) ?_
    refine ru_zret (ty := .boolean) d_Ru_isWaiver_15 rfl rfl ?_
    first | (rw [bI_t (by omega)]; exact ⟨rfl, rfl⟩) | (rw [bI_f (by omega)]; exact ⟨rfl, rfl⟩)
  · skip
    refine ru_iconst (v := 1) d_Ru_isWaiver_10 (by decide) ?_
    refine ru_goto (tgt := 15) d_Ru_isWaiver_11 (by decide) ?_
    refine ru_zret (ty := .boolean) d_Ru_isWaiver_15 rfl rfl ?_
    first | (rw [bI_t (by omega)]; exact ⟨rfl, rfl⟩) | (rw [bI_f (by omega)]; exact ⟨rfl, rfl⟩)
theorem sp_isOfTwo (hL : LAY nx ct mr) (ha : isRu ra) (hq : clI mi ml mr ra q) (ho : ruOK q) : rx_Calls y_Ru_isOfTwoThings M_Ru_isOfTwoThings 0 0 0 [.ref ra] (nx, ct, mi, ml, mr) (fun v τ => v = some (.int (bI (q.1 = 0 ∨ q.1 = 12))) ∧ τ = (nx, ct, mi, ml, mr)) := by
  refine rx_enter (by decide) rfl rfl (Nat.le_of_ble_eq_true rfl) ?_
  have h13 := ho.1
  refine ru_aload_n d_Ru_isOfTwoThings_0 rfl rfl ?_
  refine ru_getR d_Ru_isOfTwoThings_1 lf_Ru_15 (ly_ru hL ha) rfl hq.1 ?_
  refine ru_gets d_Ru_isOfTwoThings_4 (Or.inl (rx_in (tm_1 (List.mem_of_getElem? (i := 219) rfl)) rfl)) (List.mem_of_getElem? (i := 0) rfl) ?_
  refine ru_acmp_eq (tgt := 20) d_Ru_isOfTwoThings_7 (by decide) (by omega) (by omega) (fun h7 => ?_) (fun h7 => ?_)
  · skip
    refine ru_iconst (v := 1) d_Ru_isOfTwoThings_20 (by decide) ?_
    refine ru_goto (tgt := 25) d_Ru_isOfTwoThings_21 (by decide) ?_
    refine ru_zret (ty := .boolean) d_Ru_isOfTwoThings_25 rfl rfl ?_
    first | (rw [bI_t (by omega)]; exact ⟨rfl, rfl⟩) | (rw [bI_f (by omega)]; exact ⟨rfl, rfl⟩)
  · skip
    refine ru_aload_n d_Ru_isOfTwoThings_10 rfl rfl ?_
    refine ru_getR d_Ru_isOfTwoThings_11 lf_Ru_15 (ly_ru hL ha) rfl hq.1 ?_
    refine ru_gets d_Ru_isOfTwoThings_14 (Or.inl (rx_in (tm_2 (List.mem_of_getElem? (i := 179) rfl)) rfl)) (List.mem_of_getElem? (i := 1) rfl) ?_
    refine ru_acmp_ne (tgt := 24) d_Ru_isOfTwoThings_17 (by decide) (by omega) (by omega) (fun h17 => ?_) (fun h17 => ?_)
    · skip
      refine ru_iconst (v := 0) d_Ru_isOfTwoThings_24 (by decide) ?_
      refine ru_zret (ty := .boolean) d_Ru_isOfTwoThings_25 rfl rfl ?_
      first | (rw [bI_t (by omega)]; exact ⟨rfl, rfl⟩) | (rw [bI_f (by omega)]; exact ⟨rfl, rfl⟩)
    · skip
      refine ru_iconst (v := 1) d_Ru_isOfTwoThings_20 (by decide) ?_
      refine ru_goto (tgt := 25) d_Ru_isOfTwoThings_21 (by decide) ?_
      refine ru_zret (ty := .boolean) d_Ru_isOfTwoThings_25 rfl rfl ?_
      first | (rw [bI_t (by omega)]; exact ⟨rfl, rfl⟩) | (rw [bI_f (by omega)]; exact ⟨rfl, rfl⟩)
theorem sp_coversKind (hL : LAY nx ct mr) (ha : isRu ra) (hb : isRu rb) (hq : clI mi ml mr ra q) (hq' : clI mi ml mr rb q') (ho : ruOK q) (ho' : ruOK q') : rx_Calls y_Ru_coversKind M_Ru_coversKind 1 0 0 [.ref ra, .ref rb] (nx, ct, mi, ml, mr) (fun v τ => v = some (.int (bI (q.1 = q'.1 ∨ (q.1 = 12 ∧ q'.1 = 0)))) ∧ τ = (nx, ct, mi, ml, mr)) := by
  refine rx_enter (by decide) rfl rfl (Nat.le_of_ble_eq_true rfl) ?_
  have h13 := ho.1
  have h13' := ho'.1
  refine ru_aload_n d_Ru_coversKind_0 rfl rfl ?_
  refine ru_getR d_Ru_coversKind_1 lf_Ru_15 (ly_ru hL ha) rfl hq.1 ?_
  refine ru_aload_n d_Ru_coversKind_4 rfl rfl ?_
  refine ru_getR d_Ru_coversKind_5 lf_Ru_15 (ly_ru hL hb) rfl hq'.1 ?_
  refine ru_acmp_eq (tgt := 28) d_Ru_coversKind_8 (by decide) (by omega) (by omega) (fun h8 => ?_) (fun h8 => ?_)
  · skip
    refine ru_iconst (v := 1) d_Ru_coversKind_28 (by decide) ?_
    refine ru_goto (tgt := 33) d_Ru_coversKind_29 (by decide) ?_
    refine ru_zret (ty := .boolean) d_Ru_coversKind_33 rfl rfl ?_
    first | (rw [bI_t (by omega)]; exact ⟨rfl, rfl⟩) | (rw [bI_f (by omega)]; exact ⟨rfl, rfl⟩)
  · skip
    refine ru_aload_n d_Ru_coversKind_11 rfl rfl ?_
    refine ru_callV (mc := 0) (ms := 0) d_Ru_coversKind_12 lm_Ru_65 (sp_isWaiver hL ha hq ho) (rx_recv_is (ly_ru hL ha) kx_Ru) (by decide) rfl (Nat.le_of_ble_eq_true rfl) ?_
    intro v τ h
    obtain ⟨rfl, rfl⟩ := h
    refine ru_if_eq (tgt := 32) d_Ru_coversKind_15 (by decide) (fun h15 => ?_) (fun h15 => ?_)
    · skip
      replace h15 := bI_eq0.mp h15
      refine ru_iconst (v := 0) d_Ru_coversKind_32 (by decide) ?_
      refine ru_zret (ty := .boolean) d_Ru_coversKind_33 rfl rfl ?_
      first | (rw [bI_t (by omega)]; exact ⟨rfl, rfl⟩) | (rw [bI_f (by omega)]; exact ⟨rfl, rfl⟩)
    · skip
      replace h15 := bI_ne0.mp h15
      refine ru_aload_n d_Ru_coversKind_18 rfl rfl ?_
      refine ru_getR d_Ru_coversKind_19 lf_Ru_15 (ly_ru hL hb) rfl hq'.1 ?_
      refine ru_gets d_Ru_coversKind_22 (Or.inl (rx_in (tm_1 (List.mem_of_getElem? (i := 219) rfl)) rfl)) (List.mem_of_getElem? (i := 0) rfl) ?_
      refine ru_acmp_ne (tgt := 32) d_Ru_coversKind_25 (by decide) (by omega) (by omega) (fun h25 => ?_) (fun h25 => ?_)
      · skip
        refine ru_iconst (v := 0) d_Ru_coversKind_32 (by decide) ?_
        refine ru_zret (ty := .boolean) d_Ru_coversKind_33 rfl rfl ?_
        first | (rw [bI_t (by omega)]; exact ⟨rfl, rfl⟩) | (rw [bI_f (by omega)]; exact ⟨rfl, rfl⟩)
      · skip
        refine ru_iconst (v := 1) d_Ru_coversKind_28 (by decide) ?_
        refine ru_goto (tgt := 33) d_Ru_coversKind_29 (by decide) ?_
        refine ru_zret (ty := .boolean) d_Ru_coversKind_33 rfl rfl ?_
        first | (rw [bI_t (by omega)]; exact ⟨rfl, rfl⟩) | (rw [bI_f (by omega)]; exact ⟨rfl, rfl⟩)
theorem sp_coversThing {a b : Option Nat} (ha : ∀ x, a = some x → x < 2 ^ 31) (hb : ∀ x, b = some x → x < 2 ^ 31) (σ : rx_S) : rx_Calls y_Ru_coversThing M_Ru_coversThing 0 0 0 [.int (oR a), .int (oR b)] σ (fun v τ => v = some (.int (bI (thP2 a b))) ∧ τ = σ) := by
  refine rx_enter (by decide) rfl rfl (Nat.le_of_ble_eq_true rfl) ?_
  unfold thP2
  have e1 := oR_m1 ha
  have e2 := oR_eq ha hb
  refine ru_iload_n d_Ru_coversThing_0 rfl rfl ?_
  refine ru_iconst (v := (-1)) d_Ru_coversThing_1 (by decide) ?_
  refine ru_icmp_eq (tgt := 10) d_Ru_coversThing_2 (by decide) (fun h2 => ?_) (fun h2 => ?_)
  · skip
    refine ru_iconst (v := 1) d_Ru_coversThing_10 (by decide) ?_
    refine ru_goto (tgt := 15) d_Ru_coversThing_11 (by decide) ?_
    refine ru_zret (ty := .boolean) d_Ru_coversThing_15 rfl rfl ?_
    first | (rw [bI_t (by rw [← e1, ← e2]; first | exact Or.inl h2 | exact Or.inr h7)]; exact ⟨rfl, rfl⟩) | (rw [bI_f (by rw [← e1, ← e2]; exact fun z => z.elim h2 h7)]; exact ⟨rfl, rfl⟩)
  · skip
    refine ru_iload_n d_Ru_coversThing_5 rfl rfl ?_
    refine ru_iload_n d_Ru_coversThing_6 rfl rfl ?_
    refine ru_icmp_ne (tgt := 14) d_Ru_coversThing_7 (by decide) (fun h7 => ?_) (fun h7 => ?_)
    · skip
      refine ru_iconst (v := 0) d_Ru_coversThing_14 (by decide) ?_
      refine ru_zret (ty := .boolean) d_Ru_coversThing_15 rfl rfl ?_
      first | (rw [bI_t (by rw [← e1, ← e2]; first | exact Or.inl h2 | exact Or.inr h7)]; exact ⟨rfl, rfl⟩) | (rw [bI_f (by rw [← e1, ← e2]; exact fun z => z.elim h2 h7)]; exact ⟨rfl, rfl⟩)
    · skip
      refine ru_iconst (v := 1) d_Ru_coversThing_10 (by decide) ?_
      refine ru_goto (tgt := 15) d_Ru_coversThing_11 (by decide) ?_
      refine ru_zret (ty := .boolean) d_Ru_coversThing_15 rfl rfl ?_
      first | (rw [bI_t (by rw [← e1, ← e2]; first | exact Or.inl h2 | exact Or.inr h7)]; exact ⟨rfl, rfl⟩) | (rw [bI_f (by rw [← e1, ← e2]; exact fun z => z.elim h2 h7)]; exact ⟨rfl, rfl⟩)
theorem sp_coversThings (hL : LAY nx ct mr) (ha : isRu ra) (hb : isRu rb) (hq : clI mi ml mr ra q) (hq' : clI mi ml mr rb q') (ho : ruOK q) (ho' : ruOK q') : rx_Calls y_Ru_coversThings M_Ru_coversThings 1 0 0 [.ref ra, .ref rb] (nx, ct, mi, ml, mr) (fun v τ => v = some (.int (bI (thingsP q q'))) ∧ τ = (nx, ct, mi, ml, mr)) := by
  refine rx_enter (by decide) rfl rfl (Nat.le_of_ble_eq_true rfl) ?_
  unfold thingsP
  have b1 : ∀ x, q.2.1.1 = some x → x < 2 ^ 31 := fun x hx => by have := ho.2.1.1 x hx; omega
  have b2 : ∀ x, q.2.1.2 = some x → x < 2 ^ 31 := fun x hx => by have := ho.2.1.2 x hx; omega
  have c1 : ∀ x, q'.2.1.1 = some x → x < 2 ^ 31 := fun x hx => by have := ho'.2.1.1 x hx; omega
  have c2 : ∀ x, q'.2.1.2 = some x → x < 2 ^ 31 := fun x hx => by have := ho'.2.1.2 x hx; omega
  refine ru_aload_n d_Ru_coversThings_0 rfl rfl ?_
  refine ru_getI d_Ru_coversThings_1 lf_Ru_20 (ly_ru hL ha) rfl ?_
  refine ru_eqi hq.2.1.1 ?_
  refine ru_aload_n d_Ru_coversThings_4 rfl rfl ?_
  refine ru_getI d_Ru_coversThings_5 lf_Ru_20 (ly_ru hL hb) rfl ?_
  refine ru_eqi hq'.2.1.1 ?_
  refine ru_callS (mc := 0) (ms := 0) d_Ru_coversThings_8 lm_Ru_69 (sp_coversThing b1 c1 _) (by decide) rfl (Nat.le_of_ble_eq_true rfl) ?_
  intro v τ h
  obtain ⟨rfl, rfl⟩ := h
  refine ru_if_eq (tgt := 28) d_Ru_coversThings_11 (by decide) (fun h11 => ?_) (fun h11 => ?_)
  · skip
    replace h11 := bI_eq0.mp h11
    refine ru_aload_n d_Ru_coversThings_28 rfl rfl ?_
    refine ru_getI d_Ru_coversThings_29 lf_Ru_20 (ly_ru hL ha) rfl ?_
    refine ru_eqi hq.2.1.1 ?_
    refine ru_aload_n d_Ru_coversThings_32 rfl rfl ?_
    refine ru_getI d_Ru_coversThings_33 lf_Ru_24 (ly_ru hL hb) rfl ?_
    refine ru_eqi hq'.2.1.2 ?_
    refine ru_callS (mc := 0) (ms := 0) d_Ru_coversThings_36 lm_Ru_69 (sp_coversThing b1 c2 _) (by decide) rfl (Nat.le_of_ble_eq_true rfl) ?_
    intro v τ h
    obtain ⟨rfl, rfl⟩ := h
    refine ru_if_eq (tgt := 60) d_Ru_coversThings_39 (by decide) (fun h39 => ?_) (fun h39 => ?_)
    · skip
      replace h39 := bI_eq0.mp h39
      refine ru_iconst (v := 0) d_Ru_coversThings_60 (by decide) ?_
      refine ru_zret (ty := .boolean) d_Ru_coversThings_61 rfl rfl ?_
      first | (rw [bI_t (by grind)]; exact ⟨rfl, rfl⟩) | (rw [bI_f (by grind)]; exact ⟨rfl, rfl⟩)
    · skip
      replace h39 := bI_ne0.mp h39
      refine ru_aload_n d_Ru_coversThings_42 rfl rfl ?_
      refine ru_getI d_Ru_coversThings_43 lf_Ru_24 (ly_ru hL ha) rfl ?_
      refine ru_eqi hq.2.1.2 ?_
      refine ru_aload_n d_Ru_coversThings_46 rfl rfl ?_
      refine ru_getI d_Ru_coversThings_47 lf_Ru_20 (ly_ru hL hb) rfl ?_
      refine ru_eqi hq'.2.1.1 ?_
      refine ru_callS (mc := 0) (ms := 0) d_Ru_coversThings_50 lm_Ru_69 (sp_coversThing b2 c1 _) (by decide) rfl (Nat.le_of_ble_eq_true rfl) ?_
      intro v τ h
      obtain ⟨rfl, rfl⟩ := h
      refine ru_if_eq (tgt := 60) d_Ru_coversThings_53 (by decide) (fun h53 => ?_) (fun h53 => ?_)
      · skip
        replace h53 := bI_eq0.mp h53
        refine ru_iconst (v := 0) d_Ru_coversThings_60 (by decide) ?_
        refine ru_zret (ty := .boolean) d_Ru_coversThings_61 rfl rfl ?_
        first | (rw [bI_t (by grind)]; exact ⟨rfl, rfl⟩) | (rw [bI_f (by grind)]; exact ⟨rfl, rfl⟩)
      · skip
        replace h53 := bI_ne0.mp h53
        refine ru_iconst (v := 1) d_Ru_coversThings_56 (by decide) ?_
        refine ru_goto (tgt := 61) d_Ru_coversThings_57 (by decide) ?_
        refine ru_zret (ty := .boolean) d_Ru_coversThings_61 rfl rfl ?_
        first | (rw [bI_t (by grind)]; exact ⟨rfl, rfl⟩) | (rw [bI_f (by grind)]; exact ⟨rfl, rfl⟩)
  · skip
    replace h11 := bI_ne0.mp h11
    refine ru_aload_n d_Ru_coversThings_14 rfl rfl ?_
    refine ru_getI d_Ru_coversThings_15 lf_Ru_24 (ly_ru hL ha) rfl ?_
    refine ru_eqi hq.2.1.2 ?_
    refine ru_aload_n d_Ru_coversThings_18 rfl rfl ?_
    refine ru_getI d_Ru_coversThings_19 lf_Ru_24 (ly_ru hL hb) rfl ?_
    refine ru_eqi hq'.2.1.2 ?_
    refine ru_callS (mc := 0) (ms := 0) d_Ru_coversThings_22 lm_Ru_69 (sp_coversThing b2 c2 _) (by decide) rfl (Nat.le_of_ble_eq_true rfl) ?_
    intro v τ h
    obtain ⟨rfl, rfl⟩ := h
    refine ru_if_ne (tgt := 56) d_Ru_coversThings_25 (by decide) (fun h25 => ?_) (fun h25 => ?_)
    · skip
      replace h25 := bI_ne0.mp h25
      refine ru_iconst (v := 1) d_Ru_coversThings_56 (by decide) ?_
      refine ru_goto (tgt := 61) d_Ru_coversThings_57 (by decide) ?_
      refine ru_zret (ty := .boolean) d_Ru_coversThings_61 rfl rfl ?_
      first | (rw [bI_t (by grind)]; exact ⟨rfl, rfl⟩) | (rw [bI_f (by grind)]; exact ⟨rfl, rfl⟩)
    · skip
      replace h25 := bI_eq0.mp h25
      refine ru_aload_n d_Ru_coversThings_28 rfl rfl ?_
      refine ru_getI d_Ru_coversThings_29 lf_Ru_20 (ly_ru hL ha) rfl ?_
      refine ru_eqi hq.2.1.1 ?_
      refine ru_aload_n d_Ru_coversThings_32 rfl rfl ?_
      refine ru_getI d_Ru_coversThings_33 lf_Ru_24 (ly_ru hL hb) rfl ?_
      refine ru_eqi hq'.2.1.2 ?_
      refine ru_callS (mc := 0) (ms := 0) d_Ru_coversThings_36 lm_Ru_69 (sp_coversThing b1 c2 _) (by decide) rfl (Nat.le_of_ble_eq_true rfl) ?_
      intro v τ h
      obtain ⟨rfl, rfl⟩ := h
      refine ru_if_eq (tgt := 60) d_Ru_coversThings_39 (by decide) (fun h39 => ?_) (fun h39 => ?_)
      · skip
        replace h39 := bI_eq0.mp h39
        refine ru_iconst (v := 0) d_Ru_coversThings_60 (by decide) ?_
        refine ru_zret (ty := .boolean) d_Ru_coversThings_61 rfl rfl ?_
        first | (rw [bI_t (by grind)]; exact ⟨rfl, rfl⟩) | (rw [bI_f (by grind)]; exact ⟨rfl, rfl⟩)
      · skip
        replace h39 := bI_ne0.mp h39
        refine ru_aload_n d_Ru_coversThings_42 rfl rfl ?_
        refine ru_getI d_Ru_coversThings_43 lf_Ru_24 (ly_ru hL ha) rfl ?_
        refine ru_eqi hq.2.1.2 ?_
        refine ru_aload_n d_Ru_coversThings_46 rfl rfl ?_
        refine ru_getI d_Ru_coversThings_47 lf_Ru_20 (ly_ru hL hb) rfl ?_
        refine ru_eqi hq'.2.1.1 ?_
        refine ru_callS (mc := 0) (ms := 0) d_Ru_coversThings_50 lm_Ru_69 (sp_coversThing b2 c1 _) (by decide) rfl (Nat.le_of_ble_eq_true rfl) ?_
        intro v τ h
        obtain ⟨rfl, rfl⟩ := h
        refine ru_if_eq (tgt := 60) d_Ru_coversThings_53 (by decide) (fun h53 => ?_) (fun h53 => ?_)
        · skip
          replace h53 := bI_eq0.mp h53
          refine ru_iconst (v := 0) d_Ru_coversThings_60 (by decide) ?_
          refine ru_zret (ty := .boolean) d_Ru_coversThings_61 rfl rfl ?_
          first | (rw [bI_t (by grind)]; exact ⟨rfl, rfl⟩) | (rw [bI_f (by grind)]; exact ⟨rfl, rfl⟩)
        · skip
          replace h53 := bI_ne0.mp h53
          refine ru_iconst (v := 1) d_Ru_coversThings_56 (by decide) ?_
          refine ru_goto (tgt := 61) d_Ru_coversThings_57 (by decide) ?_
          refine ru_zret (ty := .boolean) d_Ru_coversThings_61 rfl rfl ?_
          first | (rw [bI_t (by grind)]; exact ⟨rfl, rfl⟩) | (rw [bI_f (by grind)]; exact ⟨rfl, rfl⟩)
theorem sp_coversLayer (hL : LAY nx ct mr) (ha : isRu ra) (hb : isRu rb) (hq : clI mi ml mr ra q) (hq' : clI mi ml mr rb q') (ho : ruOK q) (ho' : ruOK q') : rx_Calls y_Ru_coversLayer M_Ru_coversLayer 0 0 0 [.ref ra, .ref rb] (nx, ct, mi, ml, mr) (fun v τ => v = some (.int (bI (q.2.2.1 = 0 ∨ q.2.2.1 = q'.2.2.1))) ∧ τ = (nx, ct, mi, ml, mr)) := by
  refine rx_enter (by decide) rfl rfl (Nat.le_of_ble_eq_true rfl) ?_
  have h1 := ho.2.2.1
  have h2 := ho'.2.2.1
  refine ru_aload_n d_Ru_coversLayer_0 rfl rfl ?_
  refine ru_getI d_Ru_coversLayer_1 lf_Ru_27 (ly_ru hL ha) rfl ?_
  refine ru_eqi hq.2.2.1 ?_
  refine ru_if_eq (tgt := 18) d_Ru_coversLayer_4 (by decide) (fun h4 => ?_) (fun h4 => ?_)
  · skip
    replace h4 := nm_eq (a := q.2.2.1) (b := 0) (by omega) (by omega) h4
    refine ru_iconst (v := 1) d_Ru_coversLayer_18 (by decide) ?_
    refine ru_goto (tgt := 23) d_Ru_coversLayer_19 (by decide) ?_
    refine ru_zret (ty := .boolean) d_Ru_coversLayer_23 rfl rfl ?_
    first | (rw [bI_t (by omega)]; exact ⟨rfl, rfl⟩) | (rw [bI_f (by omega)]; exact ⟨rfl, rfl⟩)
  · skip
    replace h4 := nm_ne (a := q.2.2.1) (b := 0) (by omega) (by omega) h4
    refine ru_aload_n d_Ru_coversLayer_7 rfl rfl ?_
    refine ru_getI d_Ru_coversLayer_8 lf_Ru_27 (ly_ru hL ha) rfl ?_
    refine ru_eqi hq.2.2.1 ?_
    refine ru_aload_n d_Ru_coversLayer_11 rfl rfl ?_
    refine ru_getI d_Ru_coversLayer_12 lf_Ru_27 (ly_ru hL hb) rfl ?_
    refine ru_eqi hq'.2.2.1 ?_
    refine ru_icmp_ne (tgt := 22) d_Ru_coversLayer_15 (by decide) (fun h15 => ?_) (fun h15 => ?_)
    · skip
      replace h15 := nm_ne (a := q.2.2.1) (b := q'.2.2.1) (by omega) (by omega) h15
      refine ru_iconst (v := 0) d_Ru_coversLayer_22 (by decide) ?_
      refine ru_zret (ty := .boolean) d_Ru_coversLayer_23 rfl rfl ?_
      first | (rw [bI_t (by omega)]; exact ⟨rfl, rfl⟩) | (rw [bI_f (by omega)]; exact ⟨rfl, rfl⟩)
    · skip
      replace h15 := nm_eq (a := q.2.2.1) (b := q'.2.2.1) (by omega) (by omega) h15
      refine ru_iconst (v := 1) d_Ru_coversLayer_18 (by decide) ?_
      refine ru_goto (tgt := 23) d_Ru_coversLayer_19 (by decide) ?_
      refine ru_zret (ty := .boolean) d_Ru_coversLayer_23 rfl rfl ?_
      first | (rw [bI_t (by omega)]; exact ⟨rfl, rfl⟩) | (rw [bI_f (by omega)]; exact ⟨rfl, rfl⟩)
abbrev shT (mi : Nat → Nat → Int32) : Nat → Int32 := mi 261
abbrev shQ (ml : Nat → Nat → Int64) : Nat → Nat → Int64 := fun i x => ml (262 + i) x
theorem sp_holds {x y : Nat} (hL : LAY nx ct mr) (hx : x < 16) (hy : y < 16) : rx_Calls y_Sh_holds M_Sh_holds 0 0 0 [.ref 260, .int (nI x), .int (nI y)] (nx, ct, mi, ml, mr) (fun v τ => v = some (.int (bI (hP (shT mi) (shQ ml) x y))) ∧ τ = (nx, ct, mi, ml, mr)) := by
  refine rx_enter (by decide) rfl rfl (Nat.le_of_ble_eq_true rfl) ?_
  have e : hP (shT mi) (shQ ml) x y ↔ (¬ mi 261 x = 0 ∧ ¬ mi 261 y = 0 ∧ ml 262 x ≤ ml 262 y ∧ ml 264 y ≤ ml 264 x ∧ ml 263 x ≤ ml 263 y ∧ ml 265 y ≤ ml 265 x) := Iff.rfl
  rw [bI_congr e]
  refine ru_aload_n d_Sh_holds_0 rfl rfl ?_
  refine ru_getR d_Sh_holds_1 lf_Sh_9 (ly hL 260 6 0) rfl (lr hL 260 0 261) ?_
  refine ru_iload_n d_Sh_holds_4 rfl rfl ?_
  refine ru_zaldN (j := x) d_Sh_holds_5 (ly hL 261 102 16) (by omega) (by decide) ?_
  refine ru_if_eq (tgt := 86) d_Sh_holds_6 (by decide) (fun h6 => ?_) (fun h6 => ?_)
  · skip
    refine ru_iconst (v := 0) d_Sh_holds_86 (by decide) ?_
    refine ru_zret (ty := .boolean) d_Sh_holds_87 rfl rfl ?_
    first | (rw [bI_t (by grind)]; exact ⟨rfl, rfl⟩) | (rw [bI_f (by grind)]; exact ⟨rfl, rfl⟩)
  · skip
    refine ru_aload_n d_Sh_holds_9 rfl rfl ?_
    refine ru_getR d_Sh_holds_10 lf_Sh_9 (ly hL 260 6 0) rfl (lr hL 260 0 261) ?_
    refine ru_iload_n d_Sh_holds_13 rfl rfl ?_
    refine ru_zaldN (j := y) d_Sh_holds_14 (ly hL 261 102 16) (by omega) (by decide) ?_
    refine ru_if_eq (tgt := 86) d_Sh_holds_15 (by decide) (fun h15 => ?_) (fun h15 => ?_)
    · skip
      refine ru_iconst (v := 0) d_Sh_holds_86 (by decide) ?_
      refine ru_zret (ty := .boolean) d_Sh_holds_87 rfl rfl ?_
      first | (rw [bI_t (by grind)]; exact ⟨rfl, rfl⟩) | (rw [bI_f (by grind)]; exact ⟨rfl, rfl⟩)
    · skip
      refine ru_aload_n d_Sh_holds_18 rfl rfl ?_
      refine ru_getR d_Sh_holds_19 lf_Sh_15 (ly hL 260 6 0) rfl (lr hL 260 1 262) ?_
      refine ru_iload_n d_Sh_holds_22 rfl rfl ?_
      refine ru_laldN (j := x) d_Sh_holds_23 (ly hL 262 104 16) (by omega) (by decide) ?_
      refine ru_aload_n d_Sh_holds_24 rfl rfl ?_
      refine ru_getR d_Sh_holds_25 lf_Sh_15 (ly hL 260 6 0) rfl (lr hL 260 1 262) ?_
      refine ru_iload_n d_Sh_holds_28 rfl rfl ?_
      refine ru_laldN (j := y) d_Sh_holds_29 (ly hL 262 104 16) (by omega) (by decide) ?_
      refine ru_lcmp d_Sh_holds_30 ?_
      refine ru_if_gt (tgt := 86) d_Sh_holds_31 (by decide) (fun h31 => ?_) (fun h31 => ?_)
      · skip
        replace h31 := (lg_cmp_gt _ _).mp h31
        refine ru_iconst (v := 0) d_Sh_holds_86 (by decide) ?_
        refine ru_zret (ty := .boolean) d_Sh_holds_87 rfl rfl ?_
        first | (rw [bI_t (by grind)]; exact ⟨rfl, rfl⟩) | (rw [bI_f (by grind)]; exact ⟨rfl, rfl⟩)
      · skip
        replace h31 := fun q => h31 ((lg_cmp_gt _ _).mpr q)
        refine ru_aload_n d_Sh_holds_34 rfl rfl ?_
        refine ru_getR d_Sh_holds_35 lf_Sh_22 (ly hL 260 6 0) rfl (lr hL 260 3 264) ?_
        refine ru_iload_n d_Sh_holds_38 rfl rfl ?_
        refine ru_laldN (j := y) d_Sh_holds_39 (ly hL 264 104 16) (by omega) (by decide) ?_
        refine ru_aload_n d_Sh_holds_40 rfl rfl ?_
        refine ru_getR d_Sh_holds_41 lf_Sh_22 (ly hL 260 6 0) rfl (lr hL 260 3 264) ?_
        refine ru_iload_n d_Sh_holds_44 rfl rfl ?_
        refine ru_laldN (j := x) d_Sh_holds_45 (ly hL 264 104 16) (by omega) (by decide) ?_
        refine ru_lcmp d_Sh_holds_46 ?_
        refine ru_if_gt (tgt := 86) d_Sh_holds_47 (by decide) (fun h47 => ?_) (fun h47 => ?_)
        · skip
          replace h47 := (lg_cmp_gt _ _).mp h47
          refine ru_iconst (v := 0) d_Sh_holds_86 (by decide) ?_
          refine ru_zret (ty := .boolean) d_Sh_holds_87 rfl rfl ?_
          first | (rw [bI_t (by grind)]; exact ⟨rfl, rfl⟩) | (rw [bI_f (by grind)]; exact ⟨rfl, rfl⟩)
        · skip
          replace h47 := fun q => h47 ((lg_cmp_gt _ _).mpr q)
          refine ru_aload_n d_Sh_holds_50 rfl rfl ?_
          refine ru_getR d_Sh_holds_51 lf_Sh_19 (ly hL 260 6 0) rfl (lr hL 260 2 263) ?_
          refine ru_iload_n d_Sh_holds_54 rfl rfl ?_
          refine ru_laldN (j := x) d_Sh_holds_55 (ly hL 263 104 16) (by omega) (by decide) ?_
          refine ru_aload_n d_Sh_holds_56 rfl rfl ?_
          refine ru_getR d_Sh_holds_57 lf_Sh_19 (ly hL 260 6 0) rfl (lr hL 260 2 263) ?_
          refine ru_iload_n d_Sh_holds_60 rfl rfl ?_
          refine ru_laldN (j := y) d_Sh_holds_61 (ly hL 263 104 16) (by omega) (by decide) ?_
          refine ru_lcmp d_Sh_holds_62 ?_
          refine ru_if_gt (tgt := 86) d_Sh_holds_63 (by decide) (fun h63 => ?_) (fun h63 => ?_)
          · skip
            replace h63 := (lg_cmp_gt _ _).mp h63
            refine ru_iconst (v := 0) d_Sh_holds_86 (by decide) ?_
            refine ru_zret (ty := .boolean) d_Sh_holds_87 rfl rfl ?_
            first | (rw [bI_t (by grind)]; exact ⟨rfl, rfl⟩) | (rw [bI_f (by grind)]; exact ⟨rfl, rfl⟩)
          · skip
            replace h63 := fun q => h63 ((lg_cmp_gt _ _).mpr q)
            refine ru_aload_n d_Sh_holds_66 rfl rfl ?_
            refine ru_getR d_Sh_holds_67 lf_Sh_25 (ly hL 260 6 0) rfl (lr hL 260 4 265) ?_
            refine ru_iload_n d_Sh_holds_70 rfl rfl ?_
            refine ru_laldN (j := y) d_Sh_holds_71 (ly hL 265 104 16) (by omega) (by decide) ?_
            refine ru_aload_n d_Sh_holds_72 rfl rfl ?_
            refine ru_getR d_Sh_holds_73 lf_Sh_25 (ly hL 260 6 0) rfl (lr hL 260 4 265) ?_
            refine ru_iload_n d_Sh_holds_76 rfl rfl ?_
            refine ru_laldN (j := x) d_Sh_holds_77 (ly hL 265 104 16) (by omega) (by decide) ?_
            refine ru_lcmp d_Sh_holds_78 ?_
            refine ru_if_gt (tgt := 86) d_Sh_holds_79 (by decide) (fun h79 => ?_) (fun h79 => ?_)
            · skip
              replace h79 := (lg_cmp_gt _ _).mp h79
              refine ru_iconst (v := 0) d_Sh_holds_86 (by decide) ?_
              refine ru_zret (ty := .boolean) d_Sh_holds_87 rfl rfl ?_
              first | (rw [bI_t (by grind)]; exact ⟨rfl, rfl⟩) | (rw [bI_f (by grind)]; exact ⟨rfl, rfl⟩)
            · skip
              replace h79 := fun q => h79 ((lg_cmp_gt _ _).mpr q)
              refine ru_iconst (v := 1) d_Sh_holds_82 (by decide) ?_
              refine ru_goto (tgt := 87) d_Sh_holds_83 (by decide) ?_
              refine ru_zret (ty := .boolean) d_Sh_holds_87 rfl rfl ?_
              first | (rw [bI_t (by grind)]; exact ⟨rfl, rfl⟩) | (rw [bI_f (by grind)]; exact ⟨rfl, rfl⟩)
theorem sp_coversArea (hL : LAY nx ct mr) (ha : isRu ra) (hb : isRu rb) (hq : clI mi ml mr ra q) (hq' : clI mi ml mr rb q') (ho : ruOK q) (ho' : ruOK q') : rx_Calls y_Ru_coversArea M_Ru_coversArea 1 0 0 [.ref ra, .ref rb, .ref 260] (nx, ct, mi, ml, mr) (fun v τ => v = some (.int (bI (areaP (shT mi) (shQ ml) q.2.2.2.1 q'.2.2.2.1))) ∧ τ = (nx, ct, mi, ml, mr)) := by
  refine rx_enter (by decide) rfl rfl (Nat.le_of_ble_eq_true rfl) ?_
  have h1 := ho.2.2.2.1
  have h2 := ho'.2.2.2.1
  have f1 := hq.2.2.2.1
  have f2 := hq'.2.2.2.1
  generalize q.2.2.2.1 = a at h1 f1
  generalize q'.2.2.2.1 = b at h2 f2
  unfold areaP
  have e1 := oR_m1 (a := a) (fun x hx => by have := h1 x hx; omega)
  have e2 := oR_m1 (a := b) (fun x hx => by have := h2 x hx; omega)
  have e3 := oR_eq (a := a) (b := b) (fun x hx => by have := h1 x hx; omega) (fun x hx => by have := h2 x hx; omega)
  by_cases c : a = none ∨ a = b
  · rw [bI_t (c.elim Or.inl (fun z => Or.inr (Or.inl z)))]
    refine ru_aload_n d_Ru_coversArea_0 rfl rfl ?_
    refine ru_getI d_Ru_coversArea_1 lf_Ru_30 (ly_ru hL ha) rfl ?_
    refine ru_eqi f1 ?_
    refine ru_iconst (v := (-1)) d_Ru_coversArea_4 (by decide) ?_
    refine ru_icmp_eq (tgt := 19) d_Ru_coversArea_5 (by decide) (fun h5 => ?_) (fun h5 => ?_)
    · skip
      refine ru_iconst (v := 1) d_Ru_coversArea_19 (by decide) ?_
      refine ru_zret (ty := .boolean) d_Ru_coversArea_20 rfl rfl ?_
      exact ⟨rfl, rfl⟩
    · skip
      refine ru_aload_n d_Ru_coversArea_8 rfl rfl ?_
      refine ru_getI d_Ru_coversArea_9 lf_Ru_30 (ly_ru hL ha) rfl ?_
      refine ru_eqi f1 ?_
      refine ru_aload_n d_Ru_coversArea_12 rfl rfl ?_
      refine ru_getI d_Ru_coversArea_13 lf_Ru_30 (ly_ru hL hb) rfl ?_
      refine ru_eqi f2 ?_
      refine ru_icmp_ne (tgt := 21) d_Ru_coversArea_16 (by decide) (fun h16 => ?_) (fun h16 => ?_)
      · skip
        exact absurd c (fun z => z.elim (fun y => h5 (e1.mpr y)) (fun y => h16 (e3.mpr y)))
      · skip
        refine ru_iconst (v := 1) d_Ru_coversArea_19 (by decide) ?_
        refine ru_zret (ty := .boolean) d_Ru_coversArea_20 rfl rfl ?_
        exact ⟨rfl, rfl⟩
  · have ca : ¬ oR a = -1 := fun z => c (Or.inl (e1.mp z))
    have cb : ¬ oR a = oR b := fun z => c (Or.inr (e3.mp z))
    cases b with
    | none =>
      rw [bI_f (fun z => c (z.elim Or.inl (fun y => y.elim Or.inr (fun ⟨_, _, _, w, _⟩ => by cases w))))]
      refine ru_aload_n d_Ru_coversArea_0 rfl rfl ?_
      refine ru_getI d_Ru_coversArea_1 lf_Ru_30 (ly_ru hL ha) rfl ?_
      refine ru_eqi f1 ?_
      refine ru_iconst (v := (-1)) d_Ru_coversArea_4 (by decide) ?_
      refine ru_icmp_eq (tgt := 19) d_Ru_coversArea_5 (by decide) (fun h5 => absurd h5 ca) (fun h5 => ?_)
      refine ru_aload_n d_Ru_coversArea_8 rfl rfl ?_
      refine ru_getI d_Ru_coversArea_9 lf_Ru_30 (ly_ru hL ha) rfl ?_
      refine ru_eqi f1 ?_
      refine ru_aload_n d_Ru_coversArea_12 rfl rfl ?_
      refine ru_getI d_Ru_coversArea_13 lf_Ru_30 (ly_ru hL hb) rfl ?_
      refine ru_eqi f2 ?_
      refine ru_icmp_ne (tgt := 21) d_Ru_coversArea_16 (by decide) (fun h16 => ?_) (fun h16 => absurd h16 cb)
      refine ru_aload_n d_Ru_coversArea_21 rfl rfl ?_
      refine ru_getI d_Ru_coversArea_22 lf_Ru_30 (ly_ru hL hb) rfl ?_
      refine ru_eqi f2 ?_
      refine ru_iconst (v := (-1)) d_Ru_coversArea_25 (by decide) ?_
      refine ru_icmp_eq (tgt := 48) d_Ru_coversArea_26 (by decide) (fun h26 => ?_) (fun h26 => absurd rfl h26)
      refine ru_iconst (v := 0) d_Ru_coversArea_48 (by decide) ?_
      refine ru_zret (ty := .boolean) d_Ru_coversArea_49 rfl rfl ?_
      exact ⟨rfl, rfl⟩
    | some y =>
      cases a with
      | none => exact absurd rfl (fun z => c (Or.inl z))
      | some x =>
        have hx := h1 x rfl
        have hy := h2 y rfl
        have eP : (some x = none ∨ some x = some y ∨ ∃ x_1 y_1, some x = some x_1 ∧ some y = some y_1 ∧ hP (shT mi) (shQ ml) x_1 y_1) ↔ hP (shT mi) (shQ ml) x y := ⟨fun z => z.elim (fun w => by cases w) (fun w => w.elim (fun v => absurd (Or.inr v) c) (fun ⟨_, _, p1, p2, p3⟩ => by cases p1; cases p2; exact p3)), fun z => Or.inr (Or.inr ⟨x, y, rfl, rfl, z⟩)⟩
        rw [bI_congr eP]
        refine ru_aload_n d_Ru_coversArea_0 rfl rfl ?_
        refine ru_getI d_Ru_coversArea_1 lf_Ru_30 (ly_ru hL ha) rfl ?_
        refine ru_eqi f1 ?_
        refine ru_iconst (v := (-1)) d_Ru_coversArea_4 (by decide) ?_
        refine ru_icmp_eq (tgt := 19) d_Ru_coversArea_5 (by decide) (fun h5 => absurd h5 ca) (fun h5 => ?_)
        refine ru_aload_n d_Ru_coversArea_8 rfl rfl ?_
        refine ru_getI d_Ru_coversArea_9 lf_Ru_30 (ly_ru hL ha) rfl ?_
        refine ru_eqi f1 ?_
        refine ru_aload_n d_Ru_coversArea_12 rfl rfl ?_
        refine ru_getI d_Ru_coversArea_13 lf_Ru_30 (ly_ru hL hb) rfl ?_
        refine ru_eqi f2 ?_
        refine ru_icmp_ne (tgt := 21) d_Ru_coversArea_16 (by decide) (fun h16 => ?_) (fun h16 => absurd h16 cb)
        refine ru_aload_n d_Ru_coversArea_21 rfl rfl ?_
        refine ru_getI d_Ru_coversArea_22 lf_Ru_30 (ly_ru hL hb) rfl ?_
        refine ru_eqi f2 ?_
        refine ru_iconst (v := (-1)) d_Ru_coversArea_25 (by decide) ?_
        refine ru_icmp_eq (tgt := 48) d_Ru_coversArea_26 (by decide) (fun h26 => absurd h26 (nI_m1 (by omega))) (fun h26 => ?_)
        refine ru_aload_n d_Ru_coversArea_29 rfl rfl ?_
        refine ru_aload_n d_Ru_coversArea_30 rfl rfl ?_
        refine ru_getI d_Ru_coversArea_31 lf_Ru_30 (ly_ru hL ha) rfl ?_
        refine ru_eqi f1 ?_
        refine ru_aload_n d_Ru_coversArea_34 rfl rfl ?_
        refine ru_getI d_Ru_coversArea_35 lf_Ru_30 (ly_ru hL hb) rfl ?_
        refine ru_eqi f2 ?_
        refine ru_callV (mc := 0) (ms := 0) d_Ru_coversArea_38 lm_Ru_73 (sp_holds hL hx hy) (rx_recv_is (ly hL 260 6 0) kx_Sh) (by decide) rfl (Nat.le_of_ble_eq_true rfl) ?_
        intro v τ h
        obtain ⟨rfl, rfl⟩ := h
        refine ru_if_eq (tgt := 48) d_Ru_coversArea_41 (by decide) (fun h41 => ?_) (fun h41 => ?_)
        · skip
          replace h41 := bI_eq0.mp h41
          refine ru_iconst (v := 0) d_Ru_coversArea_48 (by decide) ?_
          refine ru_zret (ty := .boolean) d_Ru_coversArea_49 rfl rfl ?_
          first | (rw [bI_t h41]; exact ⟨rfl, rfl⟩) | (rw [bI_f h41]; exact ⟨rfl, rfl⟩)
        · skip
          replace h41 := bI_ne0.mp h41
          refine ru_iconst (v := 1) d_Ru_coversArea_44 (by decide) ?_
          refine ru_goto (tgt := 49) d_Ru_coversArea_45 (by decide) ?_
          refine ru_zret (ty := .boolean) d_Ru_coversArea_49 rfl rfl ?_
          first | (rw [bI_t h41]; exact ⟨rfl, rfl⟩) | (rw [bI_f h41]; exact ⟨rfl, rfl⟩)
theorem sp_covers (hL : LAY nx ct mr) (ha : isRu ra) (hb : isRu rb) (hq : clI mi ml mr ra q) (hq' : clI mi ml mr rb q') (ho : ruOK q) (ho' : ruOK q') : rx_Calls y_Ru_covers M_Ru_covers 2 0 0 [.ref ra, .ref rb, .ref 260] (nx, ct, mi, ml, mr) (fun v τ => v = some (.int (bI (coversP (shT mi) (shQ ml) q q'))) ∧ τ = (nx, ct, mi, ml, mr)) := by
  refine rx_enter (by decide) rfl rfl (Nat.le_of_ble_eq_true rfl) ?_
  unfold coversP
  refine ru_aload_n d_Ru_covers_0 rfl rfl ?_
  refine ru_aload_n d_Ru_covers_1 rfl rfl ?_
  refine ru_callV (mc := 0) (ms := 0) d_Ru_covers_2 lm_Ru_51 (sp_coversKind hL ha hb hq hq' ho ho') (rx_recv_is (ly_ru hL ha) kx_Ru) (by decide) rfl (Nat.le_of_ble_eq_true rfl) ?_
  intro v τ h
  obtain ⟨rfl, rfl⟩ := h
  refine ru_if_eq (tgt := 37) d_Ru_covers_5 (by decide) (fun h5 => ?_) (fun h5 => ?_)
  · skip
    replace h5 := bI_eq0.mp h5
    refine ru_iconst (v := 0) d_Ru_covers_37 (by decide) ?_
    refine ru_zret (ty := .boolean) d_Ru_covers_38 rfl rfl ?_
    first | (rw [bI_t ⟨h5, h13, h21, h30⟩]; exact ⟨rfl, rfl⟩) | (rw [bI_f (fun z => h5 z.1)]; exact ⟨rfl, rfl⟩) | (rw [bI_f (fun z => h13 z.2.1)]; exact ⟨rfl, rfl⟩) | (rw [bI_f (fun z => h21 z.2.2.1)]; exact ⟨rfl, rfl⟩) | (rw [bI_f (fun z => h30 z.2.2.2)]; exact ⟨rfl, rfl⟩)
  · skip
    replace h5 := bI_ne0.mp h5
    refine ru_aload_n d_Ru_covers_8 rfl rfl ?_
    refine ru_aload_n d_Ru_covers_9 rfl rfl ?_
    refine ru_callV (mc := 0) (ms := 0) d_Ru_covers_10 lm_Ru_55 (sp_coversThings hL ha hb hq hq' ho ho') (rx_recv_is (ly_ru hL ha) kx_Ru) (by decide) rfl (Nat.le_of_ble_eq_true rfl) ?_
    intro v τ h
    obtain ⟨rfl, rfl⟩ := h
    refine ru_if_eq (tgt := 37) d_Ru_covers_13 (by decide) (fun h13 => ?_) (fun h13 => ?_)
    · skip
      replace h13 := bI_eq0.mp h13
      refine ru_iconst (v := 0) d_Ru_covers_37 (by decide) ?_
      refine ru_zret (ty := .boolean) d_Ru_covers_38 rfl rfl ?_
      first | (rw [bI_t ⟨h5, h13, h21, h30⟩]; exact ⟨rfl, rfl⟩) | (rw [bI_f (fun z => h5 z.1)]; exact ⟨rfl, rfl⟩) | (rw [bI_f (fun z => h13 z.2.1)]; exact ⟨rfl, rfl⟩) | (rw [bI_f (fun z => h21 z.2.2.1)]; exact ⟨rfl, rfl⟩) | (rw [bI_f (fun z => h30 z.2.2.2)]; exact ⟨rfl, rfl⟩)
    · skip
      replace h13 := bI_ne0.mp h13
      refine ru_aload_n d_Ru_covers_16 rfl rfl ?_
      refine ru_aload_n d_Ru_covers_17 rfl rfl ?_
      refine ru_callV (mc := 0) (ms := 0) d_Ru_covers_18 lm_Ru_58 (sp_coversLayer hL ha hb hq hq' ho ho') (rx_recv_is (ly_ru hL ha) kx_Ru) (by decide) rfl (Nat.le_of_ble_eq_true rfl) ?_
      intro v τ h
      obtain ⟨rfl, rfl⟩ := h
      refine ru_if_eq (tgt := 37) d_Ru_covers_21 (by decide) (fun h21 => ?_) (fun h21 => ?_)
      · skip
        replace h21 := bI_eq0.mp h21
        refine ru_iconst (v := 0) d_Ru_covers_37 (by decide) ?_
        refine ru_zret (ty := .boolean) d_Ru_covers_38 rfl rfl ?_
        first | (rw [bI_t ⟨h5, h13, h21, h30⟩]; exact ⟨rfl, rfl⟩) | (rw [bI_f (fun z => h5 z.1)]; exact ⟨rfl, rfl⟩) | (rw [bI_f (fun z => h13 z.2.1)]; exact ⟨rfl, rfl⟩) | (rw [bI_f (fun z => h21 z.2.2.1)]; exact ⟨rfl, rfl⟩) | (rw [bI_f (fun z => h30 z.2.2.2)]; exact ⟨rfl, rfl⟩)
      · skip
        replace h21 := bI_ne0.mp h21
        refine ru_aload_n d_Ru_covers_24 rfl rfl ?_
        refine ru_aload_n d_Ru_covers_25 rfl rfl ?_
        refine ru_aload_n d_Ru_covers_26 rfl rfl ?_
        refine ru_callV (mc := 0) (ms := 0) d_Ru_covers_27 lm_Ru_61 (sp_coversArea hL ha hb hq hq' ho ho') (rx_recv_is (ly_ru hL ha) kx_Ru) (by decide) rfl (Nat.le_of_ble_eq_true rfl) ?_
        intro v τ h
        obtain ⟨rfl, rfl⟩ := h
        refine ru_if_eq (tgt := 37) d_Ru_covers_30 (by decide) (fun h30 => ?_) (fun h30 => ?_)
        · skip
          replace h30 := bI_eq0.mp h30
          refine ru_iconst (v := 0) d_Ru_covers_37 (by decide) ?_
          refine ru_zret (ty := .boolean) d_Ru_covers_38 rfl rfl ?_
          first | (rw [bI_t ⟨h5, h13, h21, h30⟩]; exact ⟨rfl, rfl⟩) | (rw [bI_f (fun z => h5 z.1)]; exact ⟨rfl, rfl⟩) | (rw [bI_f (fun z => h13 z.2.1)]; exact ⟨rfl, rfl⟩) | (rw [bI_f (fun z => h21 z.2.2.1)]; exact ⟨rfl, rfl⟩) | (rw [bI_f (fun z => h30 z.2.2.2)]; exact ⟨rfl, rfl⟩)
        · skip
          replace h30 := bI_ne0.mp h30
          refine ru_iconst (v := 1) d_Ru_covers_33 (by decide) ?_
          refine ru_goto (tgt := 38) d_Ru_covers_34 (by decide) ?_
          refine ru_zret (ty := .boolean) d_Ru_covers_38 rfl rfl ?_
          first | (rw [bI_t ⟨h5, h13, h21, h30⟩]; exact ⟨rfl, rfl⟩) | (rw [bI_f (fun z => h5 z.1)]; exact ⟨rfl, rfl⟩) | (rw [bI_f (fun z => h13 z.2.1)]; exact ⟨rfl, rfl⟩) | (rw [bI_f (fun z => h21 z.2.2.1)]; exact ⟨rfl, rfl⟩) | (rw [bI_f (fun z => h30 z.2.2.2)]; exact ⟨rfl, rfl⟩)
theorem sp_reaches (hL : LAY nx ct mr) (ha : isRu ra) (hb : isRu rb) (hq : clI mi ml mr ra q) (hq' : clI mi ml mr rb q') (ho : endsOK q.2.2.2.2.2.1) (ho' : endsOK q'.2.2.2.2.2.1) : rx_Calls y_Ru_reachesUpTo M_Ru_reachesUpTo 0 0 0 [.ref ra, .ref rb] (nx, ct, mi, ml, mr) (fun v τ => v = some (.int (bI (reachP q q'))) ∧ τ = (nx, ct, mi, ml, mr)) := by
  refine rx_enter (by decide) rfl rfl (Nat.le_of_ble_eq_true rfl) ?_
  have f1 := hq.2.2.2.2.2.1.2
  have f2 := hq'.2.2.2.2.2.1.1
  have b1 := (ends_lt ho).2
  have b2 := (ends_lt ho').1
  unfold reachP
  generalize q.2.2.2.2.2.1.2 = a at f1 b1
  generalize q'.2.2.2.2.2.1.1 = b at f2 b2
  have e1 := oL_m1 b1
  have e2 := oL_m1 b2
  cases a with
  | none =>
    rw [bI_t (Or.inl rfl)]
    refine ru_aload_n d_Ru_reachesUpTo_0 rfl rfl ?_
    refine ru_getL d_Ru_reachesUpTo_1 lf_Ru_42 (ly_ru hL ha) rfl ?_
    refine ru_eql f1 ?_
    refine ru_ldc2 d_Ru_reachesUpTo_4 lc_Ru_36 ?_
    refine ru_lcmp d_Ru_reachesUpTo_7 ?_
    refine ru_if_eq (tgt := 34) d_Ru_reachesUpTo_8 (by decide) (fun h8 => ?_) (fun h8 => absurd ((lg_cmp_eq _ _).mpr rfl) h8)
    replace h8 := (lg_cmp_eq _ _).mp h8
    refine ru_iconst (v := 1) d_Ru_reachesUpTo_34 (by decide) ?_
    refine ru_goto (tgt := 39) d_Ru_reachesUpTo_35 (by decide) ?_
    refine ru_zret (ty := .boolean) d_Ru_reachesUpTo_39 rfl rfl ?_
    exact ⟨rfl, rfl⟩
  | some x =>
    cases b with
    | none =>
      rw [bI_t (Or.inr (Or.inl rfl))]
      refine ru_aload_n d_Ru_reachesUpTo_0 rfl rfl ?_
      refine ru_getL d_Ru_reachesUpTo_1 lf_Ru_42 (ly_ru hL ha) rfl ?_
      refine ru_eql f1 ?_
      refine ru_ldc2 d_Ru_reachesUpTo_4 lc_Ru_36 ?_
      refine ru_lcmp d_Ru_reachesUpTo_7 ?_
      refine ru_if_eq (tgt := 34) d_Ru_reachesUpTo_8 (by decide) (fun h8 => ?_) (fun h8 => ?_)
      · skip
        replace h8 := (lg_cmp_eq _ _).mp h8
        refine ru_iconst (v := 1) d_Ru_reachesUpTo_34 (by decide) ?_
        refine ru_goto (tgt := 39) d_Ru_reachesUpTo_35 (by decide) ?_
        refine ru_zret (ty := .boolean) d_Ru_reachesUpTo_39 rfl rfl ?_
        exact ⟨rfl, rfl⟩
      · skip
        replace h8 := fun q => h8 ((lg_cmp_eq _ _).mpr q)
        refine ru_aload_n d_Ru_reachesUpTo_11 rfl rfl ?_
        refine ru_getL d_Ru_reachesUpTo_12 lf_Ru_38 (ly_ru hL hb) rfl ?_
        refine ru_eql f2 ?_
        refine ru_ldc2 d_Ru_reachesUpTo_15 lc_Ru_36 ?_
        refine ru_lcmp d_Ru_reachesUpTo_18 ?_
        refine ru_if_eq (tgt := 34) d_Ru_reachesUpTo_19 (by decide) (fun h19 => ?_) (fun h19 => absurd ((lg_cmp_eq _ _).mpr rfl) h19)
        replace h19 := (lg_cmp_eq _ _).mp h19
        refine ru_iconst (v := 1) d_Ru_reachesUpTo_34 (by decide) ?_
        refine ru_goto (tgt := 39) d_Ru_reachesUpTo_35 (by decide) ?_
        refine ru_zret (ty := .boolean) d_Ru_reachesUpTo_39 rfl rfl ?_
        exact ⟨rfl, rfl⟩
    | some y =>
      have hx := b1 x rfl
      have hy := b2 y rfl
      have eP : (some x = none ∨ some y = none ∨ ∃ x_1 y_1, some x = some x_1 ∧ some y = some y_1 ∧ y_1 ≤ x_1) ↔ y ≤ x := ⟨fun z => z.elim (fun w => by cases w) (fun w => w.elim (fun v => by cases v) (fun ⟨_, _, p1, p2, p3⟩ => by cases p1; cases p2; exact p3)), fun z => Or.inr (Or.inr ⟨x, y, rfl, rfl, z⟩)⟩
      rw [bI_congr eP]
      refine ru_aload_n d_Ru_reachesUpTo_0 rfl rfl ?_
      refine ru_getL d_Ru_reachesUpTo_1 lf_Ru_42 (ly_ru hL ha) rfl ?_
      refine ru_eql f1 ?_
      refine ru_ldc2 d_Ru_reachesUpTo_4 lc_Ru_36 ?_
      refine ru_lcmp d_Ru_reachesUpTo_7 ?_
      refine ru_if_eq (tgt := 34) d_Ru_reachesUpTo_8 (by decide) (fun h8 => absurd (e1.mp ((lg_cmp_eq _ _).mp h8)) (fun z => by cases z)) (fun h8 => ?_)
      replace h8 := fun q => h8 ((lg_cmp_eq _ _).mpr q)
      refine ru_aload_n d_Ru_reachesUpTo_11 rfl rfl ?_
      refine ru_getL d_Ru_reachesUpTo_12 lf_Ru_38 (ly_ru hL hb) rfl ?_
      refine ru_eql f2 ?_
      refine ru_ldc2 d_Ru_reachesUpTo_15 lc_Ru_36 ?_
      refine ru_lcmp d_Ru_reachesUpTo_18 ?_
      refine ru_if_eq (tgt := 34) d_Ru_reachesUpTo_19 (by decide) (fun h19 => absurd (e2.mp ((lg_cmp_eq _ _).mp h19)) (fun z => by cases z)) (fun h19 => ?_)
      replace h19 := fun q => h19 ((lg_cmp_eq _ _).mpr q)
      refine ru_aload_n d_Ru_reachesUpTo_22 rfl rfl ?_
      refine ru_getL d_Ru_reachesUpTo_23 lf_Ru_42 (ly_ru hL ha) rfl ?_
      refine ru_eql f1 ?_
      refine ru_aload_n d_Ru_reachesUpTo_26 rfl rfl ?_
      refine ru_getL d_Ru_reachesUpTo_27 lf_Ru_38 (ly_ru hL hb) rfl ?_
      refine ru_eql f2 ?_
      refine ru_lcmp d_Ru_reachesUpTo_30 ?_
      refine ru_if_lt (tgt := 38) d_Ru_reachesUpTo_31 (by decide) (fun h31 => ?_) (fun h31 => ?_)
      · skip
        replace h31 := (lg_cmp_lt _ _).mp h31
        replace h31 := nl_lt (a := x) (b := y) (by omega) (by omega) h31
        refine ru_iconst (v := 0) d_Ru_reachesUpTo_38 (by decide) ?_
        refine ru_zret (ty := .boolean) d_Ru_reachesUpTo_39 rfl rfl ?_
        first | (rw [bI_t (by omega)]; exact ⟨rfl, rfl⟩) | (rw [bI_f (by omega)]; exact ⟨rfl, rfl⟩)
      · skip
        replace h31 := fun q => h31 ((lg_cmp_lt _ _).mpr q)
        replace h31 := nl_nlt (a := x) (b := y) (by omega) (by omega) h31
        refine ru_iconst (v := 1) d_Ru_reachesUpTo_34 (by decide) ?_
        refine ru_goto (tgt := 39) d_Ru_reachesUpTo_35 (by decide) ?_
        refine ru_zret (ty := .boolean) d_Ru_reachesUpTo_39 rfl rfl ?_
        first | (rw [bI_t (by omega)]; exact ⟨rfl, rfl⟩) | (rw [bI_f (by omega)]; exact ⟨rfl, rfl⟩)
theorem sp_shares (hL : LAY nx ct mr) (ha : isRu ra) (hb : isRu rb) (hq : clI mi ml mr ra q) (hq' : clI mi ml mr rb q') (ho : endsOK q.2.2.2.2.2.1) (ho' : endsOK q'.2.2.2.2.2.1) : rx_Calls y_Ru_sharesValueWith M_Ru_sharesValueWith 1 0 0 [.ref ra, .ref rb] (nx, ct, mi, ml, mr) (fun v τ => v = some (.int (bI (reachP q q' ∧ reachP q' q))) ∧ τ = (nx, ct, mi, ml, mr)) := by
  refine rx_enter (by decide) rfl rfl (Nat.le_of_ble_eq_true rfl) ?_
  refine ru_aload_n d_Ru_sharesValueWith_0 rfl rfl ?_
  refine ru_aload_n d_Ru_sharesValueWith_1 rfl rfl ?_
  refine ru_callV (mc := 0) (ms := 0) d_Ru_sharesValueWith_2 lm_Ru_78 (sp_reaches hL ha hb hq hq' ho ho') (rx_recv_is (ly_ru hL ha) kx_Ru) (by decide) rfl (Nat.le_of_ble_eq_true rfl) ?_
  intro v τ h
  obtain ⟨rfl, rfl⟩ := h
  refine ru_if_eq (tgt := 20) d_Ru_sharesValueWith_5 (by decide) (fun h5 => ?_) (fun h5 => ?_)
  · skip
    replace h5 := bI_eq0.mp h5
    refine ru_iconst (v := 0) d_Ru_sharesValueWith_20 (by decide) ?_
    refine ru_zret (ty := .boolean) d_Ru_sharesValueWith_21 rfl rfl ?_
    first | (rw [bI_t ⟨h5, h13⟩]; exact ⟨rfl, rfl⟩) | (rw [bI_f (fun z => h5 z.1)]; exact ⟨rfl, rfl⟩) | (rw [bI_f (fun z => h13 z.2)]; exact ⟨rfl, rfl⟩)
  · skip
    replace h5 := bI_ne0.mp h5
    refine ru_aload_n d_Ru_sharesValueWith_8 rfl rfl ?_
    refine ru_aload_n d_Ru_sharesValueWith_9 rfl rfl ?_
    refine ru_callV (mc := 0) (ms := 0) d_Ru_sharesValueWith_10 lm_Ru_78 (sp_reaches hL hb ha hq' hq ho' ho) (rx_recv_is (ly_ru hL hb) kx_Ru) (by decide) rfl (Nat.le_of_ble_eq_true rfl) ?_
    intro v τ h
    obtain ⟨rfl, rfl⟩ := h
    refine ru_if_eq (tgt := 20) d_Ru_sharesValueWith_13 (by decide) (fun h13 => ?_) (fun h13 => ?_)
    · skip
      replace h13 := bI_eq0.mp h13
      refine ru_iconst (v := 0) d_Ru_sharesValueWith_20 (by decide) ?_
      refine ru_zret (ty := .boolean) d_Ru_sharesValueWith_21 rfl rfl ?_
      first | (rw [bI_t ⟨h5, h13⟩]; exact ⟨rfl, rfl⟩) | (rw [bI_f (fun z => h5 z.1)]; exact ⟨rfl, rfl⟩) | (rw [bI_f (fun z => h13 z.2)]; exact ⟨rfl, rfl⟩)
    · skip
      replace h13 := bI_ne0.mp h13
      refine ru_iconst (v := 1) d_Ru_sharesValueWith_16 (by decide) ?_
      refine ru_goto (tgt := 21) d_Ru_sharesValueWith_17 (by decide) ?_
      refine ru_zret (ty := .boolean) d_Ru_sharesValueWith_21 rfl rfl ?_
      first | (rw [bI_t ⟨h5, h13⟩]; exact ⟨rfl, rfl⟩) | (rw [bI_f (fun z => h5 z.1)]; exact ⟨rfl, rfl⟩) | (rw [bI_f (fun z => h13 z.2)]; exact ⟨rfl, rfl⟩)
end
