/-! The class: its face, but for read, kinds and write -/
theorem d_Na_append_0 : decode M_Na_append.2.1 0 = .ok (.iload_n 2, 1) := by decide +kernel
theorem d_Na_append_1 : decode M_Na_append.2.1 1 = .ok (.invokestatic 19, 3) := by decide +kernel
theorem d_Na_append_4 : decode M_Na_append.2.1 4 = .ok (.ifCond .eq 14, 3) := by decide +kernel
theorem d_Na_append_7 : decode M_Na_append.2.1 7 = .ok (.aload_n 0, 1) := by decide +kernel
theorem d_Na_append_8 : decode M_Na_append.2.1 8 = .ok (.getfield 15, 3) := by decide +kernel
theorem d_Na_append_11 : decode M_Na_append.2.1 11 = .ok (.iload_n 1, 1) := by decide +kernel
theorem d_Na_append_12 : decode M_Na_append.2.1 12 = .ok (.iaload, 1) := by decide +kernel
theorem d_Na_append_13 : decode M_Na_append.2.1 13 = .ok (.bipush 8, 2) := by decide +kernel
theorem d_Na_append_15 : decode M_Na_append.2.1 15 = .ok (.if_icmp .lt 5, 3) := by decide +kernel
theorem d_Na_append_18 : decode M_Na_append.2.1 18 = .ok (.iconst 0, 1) := by decide +kernel
theorem d_Na_append_19 : decode M_Na_append.2.1 19 = .ok (.ireturn, 1) := by decide +kernel
theorem d_Na_append_20 : decode M_Na_append.2.1 20 = .ok (.aload_n 0, 1) := by decide +kernel
theorem d_Na_append_21 : decode M_Na_append.2.1 21 = .ok (.getfield 9, 3) := by decide +kernel
theorem d_Na_append_24 : decode M_Na_append.2.1 24 = .ok (.iload_n 1, 1) := by decide +kernel
theorem d_Na_append_25 : decode M_Na_append.2.1 25 = .ok (.bipush 8, 2) := by decide +kernel
theorem d_Na_append_27 : decode M_Na_append.2.1 27 = .ok (.imul, 1) := by decide +kernel
theorem d_Na_append_28 : decode M_Na_append.2.1 28 = .ok (.aload_n 0, 1) := by decide +kernel
theorem d_Na_append_29 : decode M_Na_append.2.1 29 = .ok (.getfield 15, 3) := by decide +kernel
theorem d_Na_append_32 : decode M_Na_append.2.1 32 = .ok (.iload_n 1, 1) := by decide +kernel
theorem d_Na_append_33 : decode M_Na_append.2.1 33 = .ok (.iaload, 1) := by decide +kernel
theorem d_Na_append_34 : decode M_Na_append.2.1 34 = .ok (.iadd, 1) := by decide +kernel
theorem d_Na_append_35 : decode M_Na_append.2.1 35 = .ok (.iload_n 2, 1) := by decide +kernel
theorem d_Na_append_36 : decode M_Na_append.2.1 36 = .ok (.i2c, 1) := by decide +kernel
theorem d_Na_append_37 : decode M_Na_append.2.1 37 = .ok (.castore, 1) := by decide +kernel
theorem d_Na_append_38 : decode M_Na_append.2.1 38 = .ok (.aload_n 0, 1) := by decide +kernel
theorem d_Na_append_39 : decode M_Na_append.2.1 39 = .ok (.getfield 15, 3) := by decide +kernel
theorem d_Na_append_42 : decode M_Na_append.2.1 42 = .ok (.iload_n 1, 1) := by decide +kernel
theorem d_Na_append_43 : decode M_Na_append.2.1 43 = .ok (.dup2, 1) := by decide +kernel
theorem d_Na_append_44 : decode M_Na_append.2.1 44 = .ok (.iaload, 1) := by decide +kernel
theorem d_Na_append_45 : decode M_Na_append.2.1 45 = .ok (.iconst 1, 1) := by decide +kernel
theorem d_Na_append_46 : decode M_Na_append.2.1 46 = .ok (.iadd, 1) := by decide +kernel
theorem d_Na_append_47 : decode M_Na_append.2.1 47 = .ok (.iastore, 1) := by decide +kernel
theorem d_Na_append_48 : decode M_Na_append.2.1 48 = .ok (.iconst 1, 1) := by decide +kernel
theorem d_Na_append_49 : decode M_Na_append.2.1 49 = .ok (.ireturn, 1) := by decide +kernel
theorem d_RL_has_0 : decode M_RL_has.2.1 0 = .ok (.iload_n 1, 1) := by decide +kernel
theorem d_RL_has_1 : decode M_RL_has.2.1 1 = .ok (.ifCond .lt 15, 3) := by decide +kernel
theorem d_RL_has_4 : decode M_RL_has.2.1 4 = .ok (.iload_n 1, 1) := by decide +kernel
theorem d_RL_has_5 : decode M_RL_has.2.1 5 = .ok (.aload_n 0, 1) := by decide +kernel
theorem d_RL_has_6 : decode M_RL_has.2.1 6 = .ok (.getfield 18, 3) := by decide +kernel
theorem d_RL_has_9 : decode M_RL_has.2.1 9 = .ok (.if_icmp .ge 7, 3) := by decide +kernel
theorem d_RL_has_12 : decode M_RL_has.2.1 12 = .ok (.iconst 1, 1) := by decide +kernel
theorem d_RL_has_13 : decode M_RL_has.2.1 13 = .ok (.goto 4, 3) := by decide +kernel
theorem d_RL_has_16 : decode M_RL_has.2.1 16 = .ok (.iconst 0, 1) := by decide +kernel
theorem d_RL_has_17 : decode M_RL_has.2.1 17 = .ok (.ireturn, 1) := by decide +kernel
theorem d_RT_clash_0 : decode M_RT_clash.2.1 0 = .ok (.iload_n 2, 1) := by decide +kernel
theorem d_RT_clash_1 : decode M_RT_clash.2.1 1 = .ok (.ifCond .lt 8, 3) := by decide +kernel
theorem d_RT_clash_4 : decode M_RT_clash.2.1 4 = .ok (.iload_n 2, 1) := by decide +kernel
theorem d_RT_clash_5 : decode M_RT_clash.2.1 5 = .ok (.iconst 1, 1) := by decide +kernel
theorem d_RT_clash_6 : decode M_RT_clash.2.1 6 = .ok (.if_icmp .le 13, 3) := by decide +kernel
theorem d_RT_clash_9 : decode M_RT_clash.2.1 9 = .ok (.new 66, 3) := by decide +kernel
theorem d_RT_clash_12 : decode M_RT_clash.2.1 12 = .ok (.dup, 1) := by decide +kernel
theorem d_RT_clash_13 : decode M_RT_clash.2.1 13 = .ok (.ldc 154, 2) := by decide +kernel
theorem d_RT_clash_15 : decode M_RT_clash.2.1 15 = .ok (.invokespecial 70, 3) := by decide +kernel
theorem d_RT_clash_18 : decode M_RT_clash.2.1 18 = .ok (.athrow, 1) := by decide +kernel
theorem d_RT_clash_19 : decode M_RT_clash.2.1 19 = .ok (.iconst 0, 1) := by decide +kernel
theorem d_RT_clash_20 : decode M_RT_clash.2.1 20 = .ok (.istore_n 3, 1) := by decide +kernel
theorem d_RT_clash_21 : decode M_RT_clash.2.1 21 = .ok (.iconst 0, 1) := by decide +kernel
theorem d_RT_clash_22 : decode M_RT_clash.2.1 22 = .ok (.istore 4, 2) := by decide +kernel
theorem d_RT_clash_24 : decode M_RT_clash.2.1 24 = .ok (.iload 4, 2) := by decide +kernel
theorem d_RT_clash_26 : decode M_RT_clash.2.1 26 = .ok (.aload_n 0, 1) := by decide +kernel
theorem d_RT_clash_27 : decode M_RT_clash.2.1 27 = .ok (.getfield 51, 3) := by decide +kernel
theorem d_RT_clash_30 : decode M_RT_clash.2.1 30 = .ok (.getfield 147, 3) := by decide +kernel
theorem d_RT_clash_33 : decode M_RT_clash.2.1 33 = .ok (.if_icmp .ge 71, 3) := by decide +kernel
theorem d_RT_clash_36 : decode M_RT_clash.2.1 36 = .ok (.iload 4, 2) := by decide +kernel
theorem d_RT_clash_38 : decode M_RT_clash.2.1 38 = .ok (.iconst 1, 1) := by decide +kernel
theorem d_RT_clash_39 : decode M_RT_clash.2.1 39 = .ok (.iadd, 1) := by decide +kernel
theorem d_RT_clash_40 : decode M_RT_clash.2.1 40 = .ok (.istore 5, 2) := by decide +kernel
theorem d_RT_clash_42 : decode M_RT_clash.2.1 42 = .ok (.iload 5, 2) := by decide +kernel
theorem d_RT_clash_44 : decode M_RT_clash.2.1 44 = .ok (.aload_n 0, 1) := by decide +kernel
theorem d_RT_clash_45 : decode M_RT_clash.2.1 45 = .ok (.getfield 51, 3) := by decide +kernel
theorem d_RT_clash_48 : decode M_RT_clash.2.1 48 = .ok (.getfield 147, 3) := by decide +kernel
theorem d_RT_clash_51 : decode M_RT_clash.2.1 51 = .ok (.if_icmp .ge 47, 3) := by decide +kernel
theorem d_RT_clash_54 : decode M_RT_clash.2.1 54 = .ok (.aload_n 0, 1) := by decide +kernel
theorem d_RT_clash_55 : decode M_RT_clash.2.1 55 = .ok (.getfield 51, 3) := by decide +kernel
theorem d_RT_clash_58 : decode M_RT_clash.2.1 58 = .ok (.iload 4, 2) := by decide +kernel
theorem d_RT_clash_60 : decode M_RT_clash.2.1 60 = .ok (.iload 5, 2) := by decide +kernel
theorem d_RT_clash_62 : decode M_RT_clash.2.1 62 = .ok (.aload_n 0, 1) := by decide +kernel
theorem d_RT_clash_63 : decode M_RT_clash.2.1 63 = .ok (.getfield 19, 3) := by decide +kernel
theorem d_RT_clash_66 : decode M_RT_clash.2.1 66 = .ok (.invokevirtual 156, 3) := by decide +kernel
theorem d_RT_clash_69 : decode M_RT_clash.2.1 69 = .ok (.ifCond .eq 23, 3) := by decide +kernel
theorem d_RT_clash_72 : decode M_RT_clash.2.1 72 = .ok (.iload_n 3, 1) := by decide +kernel
theorem d_RT_clash_73 : decode M_RT_clash.2.1 73 = .ok (.iload_n 1, 1) := by decide +kernel
theorem d_RT_clash_74 : decode M_RT_clash.2.1 74 = .ok (.if_icmp .ne 15, 3) := by decide +kernel
theorem d_RT_clash_77 : decode M_RT_clash.2.1 77 = .ok (.iload_n 2, 1) := by decide +kernel
theorem d_RT_clash_78 : decode M_RT_clash.2.1 78 = .ok (.ifCond .ne 8, 3) := by decide +kernel
theorem d_RT_clash_81 : decode M_RT_clash.2.1 81 = .ok (.iload 4, 2) := by decide +kernel
theorem d_RT_clash_83 : decode M_RT_clash.2.1 83 = .ok (.goto 5, 3) := by decide +kernel
theorem d_RT_clash_86 : decode M_RT_clash.2.1 86 = .ok (.iload 5, 2) := by decide +kernel
theorem d_RT_clash_88 : decode M_RT_clash.2.1 88 = .ok (.ireturn, 1) := by decide +kernel
theorem d_RT_clash_89 : decode M_RT_clash.2.1 89 = .ok (.iinc 3 1, 3) := by decide +kernel
theorem d_RT_clash_92 : decode M_RT_clash.2.1 92 = .ok (.iinc 5 1, 3) := by decide +kernel
theorem d_RT_clash_95 : decode M_RT_clash.2.1 95 = .ok (.goto (-53), 3) := by decide +kernel
theorem d_RT_clash_98 : decode M_RT_clash.2.1 98 = .ok (.iinc 4 1, 3) := by decide +kernel
theorem d_RT_clash_101 : decode M_RT_clash.2.1 101 = .ok (.goto (-77), 3) := by decide +kernel
theorem d_RT_clash_104 : decode M_RT_clash.2.1 104 = .ok (.iconst (-1), 1) := by decide +kernel
theorem d_RT_clash_105 : decode M_RT_clash.2.1 105 = .ok (.ireturn, 1) := by decide +kernel
theorem d_RT_clear_0 : decode M_RT_clear.2.1 0 = .ok (.aload_n 0, 1) := by decide +kernel
theorem d_RT_clear_1 : decode M_RT_clear.2.1 1 = .ok (.getfield 26, 3) := by decide +kernel
theorem d_RT_clear_4 : decode M_RT_clear.2.1 4 = .ok (.iconst 0, 1) := by decide +kernel
theorem d_RT_clear_5 : decode M_RT_clear.2.1 5 = .ok (.putfield 188, 3) := by decide +kernel
theorem d_RT_clear_8 : decode M_RT_clear.2.1 8 = .ok (.return_, 1) := by decide +kernel
theorem d_RT_line_0 : decode M_RT_line.2.1 0 = .ok (.aload_n 0, 1) := by decide +kernel
theorem d_RT_line_1 : decode M_RT_line.2.1 1 = .ok (.getfield 51, 3) := by decide +kernel
theorem d_RT_line_4 : decode M_RT_line.2.1 4 = .ok (.iload_n 1, 1) := by decide +kernel
theorem d_RT_line_5 : decode M_RT_line.2.1 5 = .ok (.invokevirtual 84, 3) := by decide +kernel
theorem d_RT_line_8 : decode M_RT_line.2.1 8 = .ok (.ifCond .ne 13, 3) := by decide +kernel
theorem d_RT_line_11 : decode M_RT_line.2.1 11 = .ok (.new 66, 3) := by decide +kernel
theorem d_RT_line_14 : decode M_RT_line.2.1 14 = .ok (.dup, 1) := by decide +kernel
theorem d_RT_line_15 : decode M_RT_line.2.1 15 = .ok (.ldc 136, 2) := by decide +kernel
theorem d_RT_line_17 : decode M_RT_line.2.1 17 = .ok (.invokespecial 70, 3) := by decide +kernel
theorem d_RT_line_20 : decode M_RT_line.2.1 20 = .ok (.athrow, 1) := by decide +kernel
theorem d_RT_line_21 : decode M_RT_line.2.1 21 = .ok (.aload_n 0, 1) := by decide +kernel
theorem d_RT_line_22 : decode M_RT_line.2.1 22 = .ok (.getfield 51, 3) := by decide +kernel
theorem d_RT_line_25 : decode M_RT_line.2.1 25 = .ok (.getfield 89, 3) := by decide +kernel
theorem d_RT_line_28 : decode M_RT_line.2.1 28 = .ok (.iload_n 1, 1) := by decide +kernel
theorem d_RT_line_29 : decode M_RT_line.2.1 29 = .ok (.aaload, 1) := by decide +kernel
theorem d_RT_line_30 : decode M_RT_line.2.1 30 = .ok (.getfield 160, 3) := by decide +kernel
theorem d_RT_line_33 : decode M_RT_line.2.1 33 = .ok (.ireturn, 1) := by decide +kernel
theorem d_RT_name_0 : decode M_RT_name.2.1 0 = .ok (.iload_n 1, 1) := by decide +kernel
theorem d_RT_name_1 : decode M_RT_name.2.1 1 = .ok (.ifCond .lt 18, 3) := by decide +kernel
theorem d_RT_name_4 : decode M_RT_name.2.1 4 = .ok (.iload_n 1, 1) := by decide +kernel
theorem d_RT_name_5 : decode M_RT_name.2.1 5 = .ok (.iconst 3, 1) := by decide +kernel
theorem d_RT_name_6 : decode M_RT_name.2.1 6 = .ok (.if_icmp .ge 13, 3) := by decide +kernel
theorem d_RT_name_9 : decode M_RT_name.2.1 9 = .ok (.iload_n 2, 1) := by decide +kernel
theorem d_RT_name_10 : decode M_RT_name.2.1 10 = .ok (.ifCond .lt 9, 3) := by decide +kernel
theorem d_RT_name_13 : decode M_RT_name.2.1 13 = .ok (.iload_n 2, 1) := by decide +kernel
theorem d_RT_name_14 : decode M_RT_name.2.1 14 = .ok (.bipush 16, 2) := by decide +kernel
theorem d_RT_name_16 : decode M_RT_name.2.1 16 = .ok (.if_icmp .lt 13, 3) := by decide +kernel
theorem d_RT_name_19 : decode M_RT_name.2.1 19 = .ok (.new 66, 3) := by decide +kernel
theorem d_RT_name_22 : decode M_RT_name.2.1 22 = .ok (.dup, 1) := by decide +kernel
theorem d_RT_name_23 : decode M_RT_name.2.1 23 = .ok (.ldc 68, 2) := by decide +kernel
theorem d_RT_name_25 : decode M_RT_name.2.1 25 = .ok (.invokespecial 70, 3) := by decide +kernel
theorem d_RT_name_28 : decode M_RT_name.2.1 28 = .ok (.athrow, 1) := by decide +kernel
theorem d_RT_name_29 : decode M_RT_name.2.1 29 = .ok (.aload_n 0, 1) := by decide +kernel
theorem d_RT_name_30 : decode M_RT_name.2.1 30 = .ok (.getfield 10, 3) := by decide +kernel
theorem d_RT_name_33 : decode M_RT_name.2.1 33 = .ok (.iload_n 1, 1) := by decide +kernel
theorem d_RT_name_34 : decode M_RT_name.2.1 34 = .ok (.iload_n 2, 1) := by decide +kernel
theorem d_RT_name_35 : decode M_RT_name.2.1 35 = .ok (.invokestatic 73, 3) := by decide +kernel
theorem d_RT_name_38 : decode M_RT_name.2.1 38 = .ok (.iload_n 3, 1) := by decide +kernel
theorem d_RT_name_39 : decode M_RT_name.2.1 39 = .ok (.invokevirtual 77, 3) := by decide +kernel
theorem d_RT_name_42 : decode M_RT_name.2.1 42 = .ok (.ifCond .ne 5, 3) := by decide +kernel
theorem d_RT_name_45 : decode M_RT_name.2.1 45 = .ok (.iconst 0, 1) := by decide +kernel
theorem d_RT_name_46 : decode M_RT_name.2.1 46 = .ok (.ireturn, 1) := by decide +kernel
theorem d_RT_name_47 : decode M_RT_name.2.1 47 = .ok (.aload_n 0, 1) := by decide +kernel
theorem d_RT_name_48 : decode M_RT_name.2.1 48 = .ok (.iconst 1, 1) := by decide +kernel
theorem d_RT_name_49 : decode M_RT_name.2.1 49 = .ok (.putfield 58, 3) := by decide +kernel
theorem d_RT_name_52 : decode M_RT_name.2.1 52 = .ok (.iconst 1, 1) := by decide +kernel
theorem d_RT_name_53 : decode M_RT_name.2.1 53 = .ok (.ireturn, 1) := by decide +kernel
theorem d_RT_rank_0 : decode M_RT_rank.2.1 0 = .ok (.aload_n 0, 1) := by decide +kernel
theorem d_RT_rank_1 : decode M_RT_rank.2.1 1 = .ok (.getfield 51, 3) := by decide +kernel
theorem d_RT_rank_4 : decode M_RT_rank.2.1 4 = .ok (.iload_n 1, 1) := by decide +kernel
theorem d_RT_rank_5 : decode M_RT_rank.2.1 5 = .ok (.invokevirtual 84, 3) := by decide +kernel
theorem d_RT_rank_8 : decode M_RT_rank.2.1 8 = .ok (.ifCond .ne 13, 3) := by decide +kernel
theorem d_RT_rank_11 : decode M_RT_rank.2.1 11 = .ok (.new 66, 3) := by decide +kernel
theorem d_RT_rank_14 : decode M_RT_rank.2.1 14 = .ok (.dup, 1) := by decide +kernel
theorem d_RT_rank_15 : decode M_RT_rank.2.1 15 = .ok (.ldc 136, 2) := by decide +kernel
theorem d_RT_rank_17 : decode M_RT_rank.2.1 17 = .ok (.invokespecial 70, 3) := by decide +kernel
theorem d_RT_rank_20 : decode M_RT_rank.2.1 20 = .ok (.athrow, 1) := by decide +kernel
theorem d_RT_rank_21 : decode M_RT_rank.2.1 21 = .ok (.aload_n 0, 1) := by decide +kernel
theorem d_RT_rank_22 : decode M_RT_rank.2.1 22 = .ok (.getfield 51, 3) := by decide +kernel
theorem d_RT_rank_25 : decode M_RT_rank.2.1 25 = .ok (.iload_n 1, 1) := by decide +kernel
theorem d_RT_rank_26 : decode M_RT_rank.2.1 26 = .ok (.invokevirtual 138, 3) := by decide +kernel
theorem d_RT_rank_29 : decode M_RT_rank.2.1 29 = .ok (.ireturn, 1) := by decide +kernel
theorem d_RT_rule_0 : decode M_RT_rule.2.1 0 = .ok (.aload_n 0, 1) := by decide +kernel
theorem d_RT_rule_1 : decode M_RT_rule.2.1 1 = .ok (.getfield 51, 3) := by decide +kernel
theorem d_RT_rule_4 : decode M_RT_rule.2.1 4 = .ok (.iload_n 1, 1) := by decide +kernel
theorem d_RT_rule_5 : decode M_RT_rule.2.1 5 = .ok (.invokevirtual 84, 3) := by decide +kernel
theorem d_RT_rule_8 : decode M_RT_rule.2.1 8 = .ok (.ifCond .eq 13, 3) := by decide +kernel
theorem d_RT_rule_11 : decode M_RT_rule.2.1 11 = .ok (.iload_n 2, 1) := by decide +kernel
theorem d_RT_rule_12 : decode M_RT_rule.2.1 12 = .ok (.ifCond .lt 9, 3) := by decide +kernel
theorem d_RT_rule_15 : decode M_RT_rule.2.1 15 = .ok (.iload_n 2, 1) := by decide +kernel
theorem d_RT_rule_16 : decode M_RT_rule.2.1 16 = .ok (.bipush 8, 2) := by decide +kernel
theorem d_RT_rule_18 : decode M_RT_rule.2.1 18 = .ok (.if_icmp .lt 13, 3) := by decide +kernel
theorem d_RT_rule_21 : decode M_RT_rule.2.1 21 = .ok (.new 66, 3) := by decide +kernel
theorem d_RT_rule_24 : decode M_RT_rule.2.1 24 = .ok (.dup, 1) := by decide +kernel
theorem d_RT_rule_25 : decode M_RT_rule.2.1 25 = .ok (.ldc 87, 2) := by decide +kernel
theorem d_RT_rule_27 : decode M_RT_rule.2.1 27 = .ok (.invokespecial 70, 3) := by decide +kernel
theorem d_RT_rule_30 : decode M_RT_rule.2.1 30 = .ok (.athrow, 1) := by decide +kernel
theorem d_RT_rule_31 : decode M_RT_rule.2.1 31 = .ok (.aload_n 0, 1) := by decide +kernel
theorem d_RT_rule_32 : decode M_RT_rule.2.1 32 = .ok (.getfield 51, 3) := by decide +kernel
theorem d_RT_rule_35 : decode M_RT_rule.2.1 35 = .ok (.getfield 89, 3) := by decide +kernel
theorem d_RT_rule_38 : decode M_RT_rule.2.1 38 = .ok (.iload_n 1, 1) := by decide +kernel
theorem d_RT_rule_39 : decode M_RT_rule.2.1 39 = .ok (.aaload, 1) := by decide +kernel
theorem d_RT_rule_40 : decode M_RT_rule.2.1 40 = .ok (.astore_n 3, 1) := by decide +kernel
theorem d_RT_rule_41 : decode M_RT_rule.2.1 41 = .ok (.iload_n 2, 1) := by decide +kernel
theorem d_RT_rule_42 : decode M_RT_rule.2.1 42 = .ok (.tableswitch 92 0 6 #[42, 50, 58, 66, 74, 82, 87], 42) := by decide +kernel
theorem d_RT_rule_84 : decode M_RT_rule.2.1 84 = .ok (.aload_n 3, 1) := by decide +kernel
theorem d_RT_rule_85 : decode M_RT_rule.2.1 85 = .ok (.getfield 93, 3) := by decide +kernel
theorem d_RT_rule_88 : decode M_RT_rule.2.1 88 = .ok (.getfield 99, 3) := by decide +kernel
theorem d_RT_rule_91 : decode M_RT_rule.2.1 91 = .ok (.ireturn, 1) := by decide +kernel
theorem d_RT_rule_92 : decode M_RT_rule.2.1 92 = .ok (.aload_n 3, 1) := by decide +kernel
theorem d_RT_rule_93 : decode M_RT_rule.2.1 93 = .ok (.getfield 105, 3) := by decide +kernel
theorem d_RT_rule_96 : decode M_RT_rule.2.1 96 = .ok (.invokestatic 108, 3) := by decide +kernel
theorem d_RT_rule_99 : decode M_RT_rule.2.1 99 = .ok (.ireturn, 1) := by decide +kernel
theorem d_RT_rule_100 : decode M_RT_rule.2.1 100 = .ok (.aload_n 3, 1) := by decide +kernel
theorem d_RT_rule_101 : decode M_RT_rule.2.1 101 = .ok (.getfield 105, 3) := by decide +kernel
theorem d_RT_rule_104 : decode M_RT_rule.2.1 104 = .ok (.invokestatic 112, 3) := by decide +kernel
theorem d_RT_rule_107 : decode M_RT_rule.2.1 107 = .ok (.ireturn, 1) := by decide +kernel
theorem d_RT_rule_108 : decode M_RT_rule.2.1 108 = .ok (.aload_n 3, 1) := by decide +kernel
theorem d_RT_rule_109 : decode M_RT_rule.2.1 109 = .ok (.getfield 115, 3) := by decide +kernel
theorem d_RT_rule_112 : decode M_RT_rule.2.1 112 = .ok (.invokestatic 108, 3) := by decide +kernel
theorem d_RT_rule_115 : decode M_RT_rule.2.1 115 = .ok (.ireturn, 1) := by decide +kernel
theorem d_RT_rule_116 : decode M_RT_rule.2.1 116 = .ok (.aload_n 3, 1) := by decide +kernel
theorem d_RT_rule_117 : decode M_RT_rule.2.1 117 = .ok (.getfield 115, 3) := by decide +kernel
theorem d_RT_rule_120 : decode M_RT_rule.2.1 120 = .ok (.invokestatic 112, 3) := by decide +kernel
theorem d_RT_rule_123 : decode M_RT_rule.2.1 123 = .ok (.ireturn, 1) := by decide +kernel
theorem d_RT_rule_124 : decode M_RT_rule.2.1 124 = .ok (.aload_n 3, 1) := by decide +kernel
theorem d_RT_rule_125 : decode M_RT_rule.2.1 125 = .ok (.getfield 118, 3) := by decide +kernel
theorem d_RT_rule_128 : decode M_RT_rule.2.1 128 = .ok (.ireturn, 1) := by decide +kernel
theorem d_RT_rule_129 : decode M_RT_rule.2.1 129 = .ok (.aload_n 3, 1) := by decide +kernel
theorem d_RT_rule_130 : decode M_RT_rule.2.1 130 = .ok (.getfield 121, 3) := by decide +kernel
theorem d_RT_rule_133 : decode M_RT_rule.2.1 133 = .ok (.ireturn, 1) := by decide +kernel
theorem d_RT_rule_134 : decode M_RT_rule.2.1 134 = .ok (.aload_n 3, 1) := by decide +kernel
theorem d_RT_rule_135 : decode M_RT_rule.2.1 135 = .ok (.getfield 124, 3) := by decide +kernel
theorem d_RT_rule_138 : decode M_RT_rule.2.1 138 = .ok (.ireturn, 1) := by decide +kernel
theorem d_RT_shape_0 : decode M_RT_shape.2.1 0 = .ok (.iload_n 1, 1) := by decide +kernel
theorem d_RT_shape_1 : decode M_RT_shape.2.1 1 = .ok (.ifCond .lt 9, 3) := by decide +kernel
theorem d_RT_shape_4 : decode M_RT_shape.2.1 4 = .ok (.iload_n 1, 1) := by decide +kernel
theorem d_RT_shape_5 : decode M_RT_shape.2.1 5 = .ok (.bipush 16, 2) := by decide +kernel
theorem d_RT_shape_7 : decode M_RT_shape.2.1 7 = .ok (.if_icmp .lt 13, 3) := by decide +kernel
theorem d_RT_shape_10 : decode M_RT_shape.2.1 10 = .ok (.new 66, 3) := by decide +kernel
theorem d_RT_shape_13 : decode M_RT_shape.2.1 13 = .ok (.dup, 1) := by decide +kernel
theorem d_RT_shape_14 : decode M_RT_shape.2.1 14 = .ok (.ldc 141, 2) := by decide +kernel
theorem d_RT_shape_16 : decode M_RT_shape.2.1 16 = .ok (.invokespecial 70, 3) := by decide +kernel
theorem d_RT_shape_19 : decode M_RT_shape.2.1 19 = .ok (.athrow, 1) := by decide +kernel
theorem d_RT_shape_20 : decode M_RT_shape.2.1 20 = .ok (.aload_n 0, 1) := by decide +kernel
theorem d_RT_shape_21 : decode M_RT_shape.2.1 21 = .ok (.getfield 19, 3) := by decide +kernel
theorem d_RT_shape_24 : decode M_RT_shape.2.1 24 = .ok (.iload_n 1, 1) := by decide +kernel
theorem d_RT_shape_25 : decode M_RT_shape.2.1 25 = .ok (.lload_n 2, 1) := by decide +kernel
theorem d_RT_shape_26 : decode M_RT_shape.2.1 26 = .ok (.lload 4, 2) := by decide +kernel
theorem d_RT_shape_28 : decode M_RT_shape.2.1 28 = .ok (.lload 6, 2) := by decide +kernel
theorem d_RT_shape_30 : decode M_RT_shape.2.1 30 = .ok (.lload 8, 2) := by decide +kernel
theorem d_RT_shape_32 : decode M_RT_shape.2.1 32 = .ok (.invokevirtual 143, 3) := by decide +kernel
theorem d_RT_shape_35 : decode M_RT_shape.2.1 35 = .ok (.ireturn, 1) := by decide +kernel
theorem d_RT_unit_0 : decode M_RT_unit.2.1 0 = .ok (.aload_n 0, 1) := by decide +kernel
theorem d_RT_unit_1 : decode M_RT_unit.2.1 1 = .ok (.getfield 26, 3) := by decide +kernel
theorem d_RT_unit_4 : decode M_RT_unit.2.1 4 = .ok (.iload_n 1, 1) := by decide +kernel
theorem d_RT_unit_5 : decode M_RT_unit.2.1 5 = .ok (.invokevirtual 62, 3) := by decide +kernel
theorem d_RT_unit_8 : decode M_RT_unit.2.1 8 = .ok (.ireturn, 1) := by decide +kernel
theorem d_RT_value_0 : decode M_RT_value.2.1 0 = .ok (.aload_n 0, 1) := by decide +kernel
theorem d_RT_value_1 : decode M_RT_value.2.1 1 = .ok (.getfield 51, 3) := by decide +kernel
theorem d_RT_value_4 : decode M_RT_value.2.1 4 = .ok (.iload_n 1, 1) := by decide +kernel
theorem d_RT_value_5 : decode M_RT_value.2.1 5 = .ok (.invokevirtual 84, 3) := by decide +kernel
theorem d_RT_value_8 : decode M_RT_value.2.1 8 = .ok (.ifCond .eq 12, 3) := by decide +kernel
theorem d_RT_value_11 : decode M_RT_value.2.1 11 = .ok (.iload_n 2, 1) := by decide +kernel
theorem d_RT_value_12 : decode M_RT_value.2.1 12 = .ok (.ifCond .lt 8, 3) := by decide +kernel
theorem d_RT_value_15 : decode M_RT_value.2.1 15 = .ok (.iload_n 2, 1) := by decide +kernel
theorem d_RT_value_16 : decode M_RT_value.2.1 16 = .ok (.iconst 1, 1) := by decide +kernel
theorem d_RT_value_17 : decode M_RT_value.2.1 17 = .ok (.if_icmp .le 13, 3) := by decide +kernel
theorem d_RT_value_20 : decode M_RT_value.2.1 20 = .ok (.new 66, 3) := by decide +kernel
theorem d_RT_value_23 : decode M_RT_value.2.1 23 = .ok (.dup, 1) := by decide +kernel
theorem d_RT_value_24 : decode M_RT_value.2.1 24 = .ok (.ldc 127, 2) := by decide +kernel
theorem d_RT_value_26 : decode M_RT_value.2.1 26 = .ok (.invokespecial 70, 3) := by decide +kernel
theorem d_RT_value_29 : decode M_RT_value.2.1 29 = .ok (.athrow, 1) := by decide +kernel
theorem d_RT_value_30 : decode M_RT_value.2.1 30 = .ok (.iload_n 2, 1) := by decide +kernel
theorem d_RT_value_31 : decode M_RT_value.2.1 31 = .ok (.ifCond .ne 18, 3) := by decide +kernel
theorem d_RT_value_34 : decode M_RT_value.2.1 34 = .ok (.aload_n 0, 1) := by decide +kernel
theorem d_RT_value_35 : decode M_RT_value.2.1 35 = .ok (.getfield 51, 3) := by decide +kernel
theorem d_RT_value_38 : decode M_RT_value.2.1 38 = .ok (.getfield 89, 3) := by decide +kernel
theorem d_RT_value_41 : decode M_RT_value.2.1 41 = .ok (.iload_n 1, 1) := by decide +kernel
theorem d_RT_value_42 : decode M_RT_value.2.1 42 = .ok (.aaload, 1) := by decide +kernel
theorem d_RT_value_43 : decode M_RT_value.2.1 43 = .ok (.getfield 129, 3) := by decide +kernel
theorem d_RT_value_46 : decode M_RT_value.2.1 46 = .ok (.goto 15, 3) := by decide +kernel
theorem d_RT_value_49 : decode M_RT_value.2.1 49 = .ok (.aload_n 0, 1) := by decide +kernel
theorem d_RT_value_50 : decode M_RT_value.2.1 50 = .ok (.getfield 51, 3) := by decide +kernel
theorem d_RT_value_53 : decode M_RT_value.2.1 53 = .ok (.getfield 89, 3) := by decide +kernel
theorem d_RT_value_56 : decode M_RT_value.2.1 56 = .ok (.iload_n 1, 1) := by decide +kernel
theorem d_RT_value_57 : decode M_RT_value.2.1 57 = .ok (.aaload, 1) := by decide +kernel
theorem d_RT_value_58 : decode M_RT_value.2.1 58 = .ok (.getfield 133, 3) := by decide +kernel
theorem d_RT_value_61 : decode M_RT_value.2.1 61 = .ok (.lreturn, 1) := by decide +kernel
theorem d_RT_write_0 : decode M_RT_write.2.1 0 = .ok (.iload_n 1, 1) := by decide +kernel
theorem d_RT_write_1 : decode M_RT_write.2.1 1 = .ok (.ifCond .ge 13, 3) := by decide +kernel
theorem d_RT_write_4 : decode M_RT_write.2.1 4 = .ok (.new 66, 3) := by decide +kernel
theorem d_RT_write_7 : decode M_RT_write.2.1 7 = .ok (.dup, 1) := by decide +kernel
theorem d_RT_write_8 : decode M_RT_write.2.1 8 = .ok (.ldc 168, 2) := by decide +kernel
theorem d_RT_write_10 : decode M_RT_write.2.1 10 = .ok (.invokespecial 70, 3) := by decide +kernel
theorem d_RT_write_13 : decode M_RT_write.2.1 13 = .ok (.athrow, 1) := by decide +kernel
theorem d_RT_write_14 : decode M_RT_write.2.1 14 = .ok (.aload_n 0, 1) := by decide +kernel
theorem d_RT_write_15 : decode M_RT_write.2.1 15 = .ok (.getfield 58, 3) := by decide +kernel
theorem d_RT_write_18 : decode M_RT_write.2.1 18 = .ok (.ifCond .eq 19, 3) := by decide +kernel
theorem d_RT_write_21 : decode M_RT_write.2.1 21 = .ok (.aload_n 0, 1) := by decide +kernel
theorem d_RT_write_22 : decode M_RT_write.2.1 22 = .ok (.getfield 44, 3) := by decide +kernel
theorem d_RT_write_25 : decode M_RT_write.2.1 25 = .ok (.aload_n 0, 1) := by decide +kernel
theorem d_RT_write_26 : decode M_RT_write.2.1 26 = .ok (.getfield 51, 3) := by decide +kernel
theorem d_RT_write_29 : decode M_RT_write.2.1 29 = .ok (.invokevirtual 170, 3) := by decide +kernel
theorem d_RT_write_32 : decode M_RT_write.2.1 32 = .ok (.aload_n 0, 1) := by decide +kernel
theorem d_RT_write_33 : decode M_RT_write.2.1 33 = .ok (.iconst 0, 1) := by decide +kernel
theorem d_RT_write_34 : decode M_RT_write.2.1 34 = .ok (.putfield 58, 3) := by decide +kernel
theorem d_RT_write_37 : decode M_RT_write.2.1 37 = .ok (.iload_n 1, 1) := by decide +kernel
theorem d_RT_write_38 : decode M_RT_write.2.1 38 = .ok (.aload_n 0, 1) := by decide +kernel
theorem d_RT_write_39 : decode M_RT_write.2.1 39 = .ok (.getfield 44, 3) := by decide +kernel
theorem d_RT_write_42 : decode M_RT_write.2.1 42 = .ok (.getfield 174, 3) := by decide +kernel
theorem d_RT_write_45 : decode M_RT_write.2.1 45 = .ok (.invokevirtual 178, 3) := by decide +kernel
theorem d_RT_write_48 : decode M_RT_write.2.1 48 = .ok (.if_icmp .ge 17, 3) := by decide +kernel
theorem d_RT_write_51 : decode M_RT_write.2.1 51 = .ok (.aload_n 0, 1) := by decide +kernel
theorem d_RT_write_52 : decode M_RT_write.2.1 52 = .ok (.getfield 44, 3) := by decide +kernel
theorem d_RT_write_55 : decode M_RT_write.2.1 55 = .ok (.getfield 174, 3) := by decide +kernel
theorem d_RT_write_58 : decode M_RT_write.2.1 58 = .ok (.iload_n 1, 1) := by decide +kernel
theorem d_RT_write_59 : decode M_RT_write.2.1 59 = .ok (.invokevirtual 184, 3) := by decide +kernel
theorem d_RT_write_62 : decode M_RT_write.2.1 62 = .ok (.goto 4, 3) := by decide +kernel
theorem d_RT_write_65 : decode M_RT_write.2.1 65 = .ok (.iconst (-1), 1) := by decide +kernel
theorem d_RT_write_66 : decode M_RT_write.2.1 66 = .ok (.ireturn, 1) := by decide +kernel
theorem d_Sh_tell_0 : decode M_Sh_tell.2.1 0 = .ok (.lload_n 2, 1) := by decide +kernel
theorem d_Sh_tell_1 : decode M_Sh_tell.2.1 1 = .ok (.lload 6, 2) := by decide +kernel
theorem d_Sh_tell_3 : decode M_Sh_tell.2.1 3 = .ok (.lcmp, 1) := by decide +kernel
theorem d_Sh_tell_4 : decode M_Sh_tell.2.1 4 = .ok (.ifCond .gt 11, 3) := by decide +kernel
theorem d_Sh_tell_7 : decode M_Sh_tell.2.1 7 = .ok (.lload 4, 2) := by decide +kernel
theorem d_Sh_tell_9 : decode M_Sh_tell.2.1 9 = .ok (.lload 8, 2) := by decide +kernel
theorem d_Sh_tell_11 : decode M_Sh_tell.2.1 11 = .ok (.lcmp, 1) := by decide +kernel
theorem d_Sh_tell_12 : decode M_Sh_tell.2.1 12 = .ok (.ifCond .le 5, 3) := by decide +kernel
theorem d_Sh_tell_15 : decode M_Sh_tell.2.1 15 = .ok (.iconst 0, 1) := by decide +kernel
theorem d_Sh_tell_16 : decode M_Sh_tell.2.1 16 = .ok (.ireturn, 1) := by decide +kernel
theorem d_Sh_tell_17 : decode M_Sh_tell.2.1 17 = .ok (.aload_n 0, 1) := by decide +kernel
theorem d_Sh_tell_18 : decode M_Sh_tell.2.1 18 = .ok (.getfield 9, 3) := by decide +kernel
theorem d_Sh_tell_21 : decode M_Sh_tell.2.1 21 = .ok (.iload_n 1, 1) := by decide +kernel
theorem d_Sh_tell_22 : decode M_Sh_tell.2.1 22 = .ok (.iconst 1, 1) := by decide +kernel
theorem d_Sh_tell_23 : decode M_Sh_tell.2.1 23 = .ok (.bastore, 1) := by decide +kernel
theorem d_Sh_tell_24 : decode M_Sh_tell.2.1 24 = .ok (.aload_n 0, 1) := by decide +kernel
theorem d_Sh_tell_25 : decode M_Sh_tell.2.1 25 = .ok (.getfield 15, 3) := by decide +kernel
theorem d_Sh_tell_28 : decode M_Sh_tell.2.1 28 = .ok (.iload_n 1, 1) := by decide +kernel
theorem d_Sh_tell_29 : decode M_Sh_tell.2.1 29 = .ok (.lload_n 2, 1) := by decide +kernel
theorem d_Sh_tell_30 : decode M_Sh_tell.2.1 30 = .ok (.lastore, 1) := by decide +kernel
theorem d_Sh_tell_31 : decode M_Sh_tell.2.1 31 = .ok (.aload_n 0, 1) := by decide +kernel
theorem d_Sh_tell_32 : decode M_Sh_tell.2.1 32 = .ok (.getfield 19, 3) := by decide +kernel
theorem d_Sh_tell_35 : decode M_Sh_tell.2.1 35 = .ok (.iload_n 1, 1) := by decide +kernel
theorem d_Sh_tell_36 : decode M_Sh_tell.2.1 36 = .ok (.lload 4, 2) := by decide +kernel
theorem d_Sh_tell_38 : decode M_Sh_tell.2.1 38 = .ok (.lastore, 1) := by decide +kernel
theorem d_Sh_tell_39 : decode M_Sh_tell.2.1 39 = .ok (.aload_n 0, 1) := by decide +kernel
theorem d_Sh_tell_40 : decode M_Sh_tell.2.1 40 = .ok (.getfield 22, 3) := by decide +kernel
theorem d_Sh_tell_43 : decode M_Sh_tell.2.1 43 = .ok (.iload_n 1, 1) := by decide +kernel
theorem d_Sh_tell_44 : decode M_Sh_tell.2.1 44 = .ok (.lload 6, 2) := by decide +kernel
theorem d_Sh_tell_46 : decode M_Sh_tell.2.1 46 = .ok (.lastore, 1) := by decide +kernel
theorem d_Sh_tell_47 : decode M_Sh_tell.2.1 47 = .ok (.aload_n 0, 1) := by decide +kernel
theorem d_Sh_tell_48 : decode M_Sh_tell.2.1 48 = .ok (.getfield 25, 3) := by decide +kernel
theorem d_Sh_tell_51 : decode M_Sh_tell.2.1 51 = .ok (.iload_n 1, 1) := by decide +kernel
theorem d_Sh_tell_52 : decode M_Sh_tell.2.1 52 = .ok (.lload 8, 2) := by decide +kernel
theorem d_Sh_tell_54 : decode M_Sh_tell.2.1 54 = .ok (.lastore, 1) := by decide +kernel
theorem d_Sh_tell_55 : decode M_Sh_tell.2.1 55 = .ok (.iconst 1, 1) := by decide +kernel
theorem d_Sh_tell_56 : decode M_Sh_tell.2.1 56 = .ok (.ireturn, 1) := by decide +kernel
def NmC (N : nmS) (mi : Nat → Nat → Int32) : Prop := ∀ k, k < 48 → mi 259 k = nI (N.1 k) ∧ N.1 k ≤ 8 ∧ ∀ i, i < N.1 k → mi 258 (k * 8 + i) = N.2 k i
def nmAdd (N : nmS) (k : Nat) (u : Int32) : nmS := (fun x => if x = k then N.1 k + 1 else N.1 x, rx_u N.2 k (N.1 k) u)
theorem nmAdd_k {N : nmS} {k : Nat} {u : Int32} : (nmAdd N k u).1 k = N.1 k + 1 := if_pos rfl
theorem nmAdd_n {N : nmS} {k x : Nat} {u : Int32} (h : x ≠ k) : (nmAdd N k u).1 x = N.1 x := if_neg h
theorem NmOK.add {N : nmS} {k : Nat} {u : Int32} (h : NmOK N) (h8 : N.1 k < 8) (hu : isLD u) : NmOK (nmAdd N k u) := by
  intro x hx
  by_cases e : x = k
  · subst e
    rw [nmAdd_k]
    refine ⟨by omega, fun i hi => ?_⟩
    show isLD (rx_u N.2 x (N.1 x) u x i)
    by_cases e2 : i = N.1 x
    · subst e2; rw [rx_u_same]; exact hu
    · rw [rx_u_k _ _ e2]; exact (h x hx).2 i (by omega)
  · rw [nmAdd_n e]
    refine ⟨(h x hx).1, fun i hi => ?_⟩
    show isLD (rx_u N.2 k (N.1 k) u x i)
    rw [rx_u_r _ _ e]
    exact (h x hx).2 i hi
theorem NmC.add {N : nmS} {mi : Nat → Nat → Int32} {k : Nat} {u : Int32} (h : NmC N mi) (hk : k < 48) (h8 : N.1 k < 8) : NmC (nmAdd N k u) (rx_u (rx_u mi 258 (k * 8 + N.1 k) u) 259 k (nI (N.1 k + 1))) := by
  intro x hx
  obtain ⟨a1, a2, a3⟩ := h x hx
  by_cases e : x = k
  · subst e
    rw [nmAdd_k]
    refine ⟨rx_u_same _ _ _ _, by omega, fun i hi => ?_⟩
    show _ = rx_u N.2 x (N.1 x) u x i
    rw [rx_u_r _ _ (by decide)]
    by_cases e2 : i = N.1 x
    · subst e2; rw [rx_u_same, rx_u_same]
    · rw [rx_u_k _ _ (by omega), rx_u_k _ _ e2]; exact a3 i (by omega)
  · rw [nmAdd_n e]
    refine ⟨by rw [rx_u_k _ _ e, rx_u_r _ _ (by decide)]; exact a1, a2, fun i hi => ?_⟩
    show _ = rx_u N.2 k (N.1 k) u x i
    rw [rx_u_r _ _ (by decide), rx_u_k _ _ (by omega), rx_u_r _ _ e]
    exact a3 i hi
theorem NmM.add {N : nmS} {mi : Nat → Nat → Int32} {k : Nat} {u : Int32} (h : NmM N mi) (hk : k < 48) (h8 : N.1 k < 8) : NmM (nmAdd N k u) (rx_u (rx_u mi 401 (8 * k + N.1 k) u) 400 k (nI (N.1 k + 1))) := by
  intro x hx
  obtain ⟨a1, a2, a3⟩ := h x hx
  by_cases e : x = k
  · subst e
    rw [nmAdd_k]
    refine ⟨rx_u_same _ _ _ _, by omega, fun i hi => ?_⟩
    show _ = rx_u N.2 x (N.1 x) u x i
    rw [rx_u_r _ _ (by decide)]
    by_cases e2 : i = N.1 x
    · subst e2; rw [rx_u_same, rx_u_same]
    · rw [rx_u_k _ _ (by omega), rx_u_k _ _ e2]; exact a3 i (by omega)
  · rw [nmAdd_n e]
    refine ⟨by rw [rx_u_k _ _ e, rx_u_r _ _ (by decide)]; exact a1, a2, fun i hi => ?_⟩
    show _ = rx_u N.2 k (N.1 k) u x i
    rw [rx_u_r _ _ (by decide), rx_u_k _ _ (by omega), rx_u_r _ _ e]
    exact a3 i hi
def ruV (q : ruS) (w : Nat) : Int32 := match w with
  | 0 => nI q.1
  | 1 => kO q.2.1.1
  | 2 => tO q.2.1.1
  | 3 => kO q.2.1.2
  | 4 => tO q.2.1.2
  | 5 => nI q.2.2.1
  | 6 => oR q.2.2.2.1
  | _ => nI q.2.2.2.2.1
theorem nm_div {a b : Nat} (ha : a < 2 ^ 31) (hb : b < 2 ^ 31) : nI a / nI b = nI (a / b) := by
  apply Int32.toInt_inj.mp
  have hd : a / b ≤ a := Nat.div_le_self a b
  rw [Int32.toInt_div, nI_toInt ha, nI_toInt hb, nI_toInt (by omega), ← Int.ofNat_tdiv]
  generalize a / b = q at hd ⊢
  apply Int.bmod_eq_of_le <;> omega
theorem kindOf_oR {o : Option Nat} (h : ∀ s, o = some s → s < 32) : (if oR o = -1 then -1 else oR o / 16) = kO o := by
  cases o with
  | none => rfl
  | some s =>
    have := h s rfl
    rw [if_neg (show ¬ oR (some s) = -1 from nI_m1 (by omega))]
    exact nm_div (b := 16) (by omega) (by decide)
theorem thingOf_oR {o : Option Nat} (h : ∀ s, o = some s → s < 32) : (if oR o = -1 then -1 else oR o - oR o / 16 * 16) = tO o := by
  cases o with
  | none => rfl
  | some s =>
    have hs := h s rfl
    rw [if_neg (show ¬ oR (some s) = -1 from nI_m1 (by omega))]
    have e : oR (some s) / 16 = nI (s / 16) := nm_div (b := 16) (by omega) (by decide)
    rw [e, show (16 : Int32) = nI 16 from rfl, nm_mul]
    show nI s - nI (s / 16 * 16) = nI (s % 16)
    rw [nm_sub (by omega)]
    congr 1
    omega
section
variable {nx : Nat} {ct : Nat → Nat × Nat} {mi : Nat → Nat → Int32} {ml : Nat → Nat → Int64} {mr : Nat → Nat → Option Nat} {b : Nat} {L : List ruS} {N : nmS}
abbrev thr (nx : Nat) (ct : Nat → Nat × Nat) (mi : Nat → Nat → Int32) (ml : Nat → Nat → Int64) (mr : Nat → Nat → Option Nat) : Nat → rx_S → Prop := fun x τ => x = nx ∧ τ = rx_new nx ct mi ml mr 95 0
theorem sp_Na_append {k : Nat} {u : Int32} (hL : LAY nx ct mr) (hN : NmC N mi) (hk : k < 48) : rx_Calls y_Na_append M_Na_append 1 0 0 [.ref 257, .int (nI k), .int u] (nx, ct, mi, ml, mr) (fun v τ => v = some (.int (bI (isLD u ∧ N.1 k < 8))) ∧ τ = (nx, ct, cnd (isLD u ∧ N.1 k < 8) (rx_u (rx_u mi 258 (k * 8 + N.1 k) u) 259 k (nI (N.1 k + 1))) mi, ml, mr)) := by
  refine rx_enter (by decide) rfl rfl (Nat.le_of_ble_eq_true rfl) ?_
  obtain ⟨n1, n2, n3⟩ := hN k hk
  generalize N.1 k = z at n1 n2 n3
  refine ru_iload_n d_Na_append_0 rfl rfl ?_
  refine ru_callS (mc := 0) (ms := 0) d_Na_append_1 lm_Na_19 (sp_isLD u _) (by decide) rfl (Nat.le_of_ble_eq_true rfl) ?_
  intro v τ h
  obtain ⟨rfl, rfl⟩ := h
  refine ru_if_eq (tgt := 18) d_Na_append_4 (by decide) (fun h4 => ?_) (fun h4 => ?_)
  · skip
    replace h4 := bI_eq0.mp h4
    refine ru_iconst (v := 0) d_Na_append_18 (by decide) ?_
    refine ru_zret (ty := .boolean) d_Na_append_19 rfl rfl ?_
    first | (have q : isLD u ∧ z < 8 := ⟨h4, by omega⟩; rw [bI_t q, cnd_t q, tc_nar (Or.inr (Or.inr (Or.inr (Or.inr h4))))]; exact ⟨rfl, rfl⟩) | (have q : ¬ (isLD u ∧ z < 8) := (fun q => h4 q.1); rw [bI_f q, cnd_f q]; exact ⟨rfl, rfl⟩) | (have q : ¬ (isLD u ∧ z < 8) := (by omega); rw [bI_f q, cnd_f q]; exact ⟨rfl, rfl⟩)
  · skip
    replace h4 := bI_ne0.mp h4
    refine ru_aload_n d_Na_append_7 rfl rfl ?_
    refine ru_getR d_Na_append_8 lf_Na_15 (ly hL 257 2 0) rfl (lr hL 257 1 259) ?_
    refine ru_iload_n d_Na_append_11 rfl rfl ?_
    refine ru_ialdN (j := k) d_Na_append_12 (ly hL 259 100 48) (by omega) (by decide) ?_
    refine ru_eqi n1 ?_
    refine ru_bipush (v := 8) d_Na_append_13 (by decide) ?_
    refine ru_icmp_lt (tgt := 20) d_Na_append_15 (by decide) (fun h15 => ?_) (fun h15 => ?_)
    · skip
      replace h15 := nm_lt (a := z) (b := 8) (by omega) (by omega) h15
      refine ru_aload_n d_Na_append_20 rfl rfl ?_
      refine ru_getR d_Na_append_21 lf_Na_9 (ly hL 257 2 0) rfl (lr hL 257 0 258) ?_
      refine ru_iload_n d_Na_append_24 rfl rfl ?_
      refine ru_bipush (v := 8) d_Na_append_25 (by decide) ?_
      refine ru_imul d_Na_append_27 ?_
      refine ru_eqi (nm_mul k 8 : _ = nI (k * 8)) ?_
      refine ru_aload_n d_Na_append_28 rfl rfl ?_
      refine ru_getR d_Na_append_29 lf_Na_15 (ly hL 257 2 0) rfl (lr hL 257 1 259) ?_
      refine ru_iload_n d_Na_append_32 rfl rfl ?_
      refine ru_ialdN (j := k) d_Na_append_33 (ly hL 259 100 48) (by omega) (by decide) ?_
      refine ru_eqi n1 ?_
      refine ru_iadd d_Na_append_34 ?_
      refine ru_eqi (nm_add (k * 8) z : _ = nI ((k * 8) + z)) ?_
      refine ru_iload_n d_Na_append_35 rfl rfl ?_
      refine ru_i2c d_Na_append_36 ?_
      refine ru_castN (j := ((k * 8) + z)) d_Na_append_37 (ly hL 258 101 384) (by omega) (by decide) ?_
      refine ru_aload_n d_Na_append_38 rfl rfl ?_
      refine ru_getR d_Na_append_39 lf_Na_15 (ly hL 257 2 0) rfl (lr hL 257 1 259) ?_
      refine ru_iload_n d_Na_append_42 rfl rfl ?_
      refine ru_dup2 d_Na_append_43 rfl rfl ?_
      refine ru_ialdN (j := k) d_Na_append_44 (ly hL 259 100 48) (by omega) (by decide) ?_
      rw [rx_u_r _ _ (by decide)]
      refine ru_eqi n1 ?_
      refine ru_iconst (v := 1) d_Na_append_45 (by decide) ?_
      refine ru_iadd d_Na_append_46 ?_
      refine ru_eqi (nm_add z 1 : _ = nI (z + 1)) ?_
      refine ru_iastN (j := k) d_Na_append_47 (ly hL 259 100 48) (by omega) (by decide) ?_
      refine ru_iconst (v := 1) d_Na_append_48 (by decide) ?_
      refine ru_zret (ty := .boolean) d_Na_append_49 rfl rfl ?_
      first | (have q : isLD u ∧ z < 8 := ⟨h4, by omega⟩; rw [bI_t q, cnd_t q, tc_nar (Or.inr (Or.inr (Or.inr (Or.inr h4))))]; exact ⟨rfl, rfl⟩) | (have q : ¬ (isLD u ∧ z < 8) := (fun q => h4 q.1); rw [bI_f q, cnd_f q]; exact ⟨rfl, rfl⟩) | (have q : ¬ (isLD u ∧ z < 8) := (by omega); rw [bI_f q, cnd_f q]; exact ⟨rfl, rfl⟩)
    · skip
      replace h15 := nm_nlt (a := z) (b := 8) (by omega) (by omega) h15
      refine ru_iconst (v := 0) d_Na_append_18 (by decide) ?_
      refine ru_zret (ty := .boolean) d_Na_append_19 rfl rfl ?_
      first | (have q : isLD u ∧ z < 8 := ⟨h4, by omega⟩; rw [bI_t q, cnd_t q, tc_nar (Or.inr (Or.inr (Or.inr (Or.inr h4))))]; exact ⟨rfl, rfl⟩) | (have q : ¬ (isLD u ∧ z < 8) := (fun q => h4 q.1); rw [bI_f q, cnd_f q]; exact ⟨rfl, rfl⟩) | (have q : ¬ (isLD u ∧ z < 8) := (by omega); rw [bI_f q, cnd_f q]; exact ⟨rfl, rfl⟩)
theorem sp_name {k a : Nat} {u : Int32} (hL : LAY nx ct mr) (hN : NmC N mi) (hk : k < 3) (ha : a < 16) : rx_Calls y_RT_name M_RT_name 2 0 0 [.ref 256, .int (nI k), .int (nI a), .int u] (nx, ct, mi, ml, mr) (fun v τ => v = some (.int (bI (isLD u ∧ N.1 (16 * k + a) < 8))) ∧ τ = (nx, ct, cnd (isLD u ∧ N.1 (16 * k + a) < 8) (rx_u (rx_u (rx_u mi 258 ((16 * k + a) * 8 + N.1 (16 * k + a)) u) 259 (16 * k + a) (nI (N.1 (16 * k + a) + 1))) 256 7 1) mi, ml, mr)) := by
  refine rx_enter (by decide) rfl rfl (Nat.le_of_ble_eq_true rfl) ?_
  have es : nI k * 16 + nI a = nI (16 * k + a) := by rw [show (16 : Int32) = nI 16 from rfl, nm_mul, nm_add, Nat.mul_comm]
  have hA := sp_Na_append (ml := ml) (u := u) hL hN (show 16 * k + a < 48 by omega)
  generalize 16 * k + a = z at es hA
  refine ru_iload_n d_RT_name_0 rfl rfl ?_
  refine ru_if_lt (tgt := 19) d_RT_name_1 (by decide) (fun h1 => ?_) (fun h1 => ?_)
  · skip
    replace h1 := nm_lt (a := k) (b := 0) (by omega) (by omega) h1
    exfalso; omega
  · skip
    replace h1 := nm_nlt (a := k) (b := 0) (by omega) (by omega) h1
    refine ru_iload_n d_RT_name_4 rfl rfl ?_
    refine ru_iconst (v := 3) d_RT_name_5 (by decide) ?_
    refine ru_icmp_ge (tgt := 19) d_RT_name_6 (by decide) (fun h6 => ?_) (fun h6 => ?_)
    · skip
      replace h6 := nm_le (a := 3) (b := k) (by omega) (by omega) h6
      exfalso; omega
    · skip
      replace h6 := nm_nle (a := 3) (b := k) (by omega) (by omega) h6
      refine ru_iload_n d_RT_name_9 rfl rfl ?_
      refine ru_if_lt (tgt := 19) d_RT_name_10 (by decide) (fun h10 => ?_) (fun h10 => ?_)
      · skip
        replace h10 := nm_lt (a := a) (b := 0) (by omega) (by omega) h10
        exfalso; omega
      · skip
        replace h10 := nm_nlt (a := a) (b := 0) (by omega) (by omega) h10
        refine ru_iload_n d_RT_name_13 rfl rfl ?_
        refine ru_bipush (v := 16) d_RT_name_14 (by decide) ?_
        refine ru_icmp_lt (tgt := 29) d_RT_name_16 (by decide) (fun h16 => ?_) (fun h16 => ?_)
        · skip
          replace h16 := nm_lt (a := a) (b := 16) (by omega) (by omega) h16
          refine ru_aload_n d_RT_name_29 rfl rfl ?_
          refine ru_getR d_RT_name_30 lf_RT_10 (ly hL 256 0 0) rfl (lr hL 256 0 257) ?_
          refine ru_iload_n d_RT_name_33 rfl rfl ?_
          refine ru_iload_n d_RT_name_34 rfl rfl ?_
          refine ru_callS (mc := 0) (ms := 0) d_RT_name_35 lm_RT_73 (sp_slotOf _ _ _) (by decide) rfl (Nat.le_of_ble_eq_true rfl) ?_
          rintro v τ ⟨rfl, rfl⟩
          rw [es]
          refine ru_iload_n d_RT_name_38 rfl rfl ?_
          refine ru_callV (mc := 0) (ms := 0) d_RT_name_39 lm_RT_77 hA (rx_recv_is (ly hL 257 2 0) kx_Na) (by decide) rfl (Nat.le_of_ble_eq_true rfl) ?_
          rintro v τ ⟨rfl, rfl⟩
          refine ru_if_ne (tgt := 47) d_RT_name_42 (by decide) (fun h42 => ?_) (fun h42 => ?_)
          · skip
            replace h42 := bI_ne0.mp h42
            rw [cnd_t h42]
            refine ru_aload_n d_RT_name_47 rfl rfl ?_
            refine ru_iconst (v := 1) d_RT_name_48 (by decide) ?_
            refine ru_putI d_RT_name_49 lf_RT_58 (ly hL 256 0 0) rfl (fun q hq => by cases hq; exact Or.inl rfl) ⟨rfl, rfl⟩ ?_
            refine ru_iconst (v := 1) d_RT_name_52 (by decide) ?_
            refine ru_zret (ty := .boolean) d_RT_name_53 rfl rfl ?_
            first | (rw [bI_t h42, cnd_t h42]; exact ⟨rfl, rfl⟩) | (rw [bI_f h42, cnd_f h42]; exact ⟨rfl, rfl⟩)
          · skip
            replace h42 := bI_eq0.mp h42
            rw [cnd_f h42]
            refine ru_iconst (v := 0) d_RT_name_45 (by decide) ?_
            refine ru_zret (ty := .boolean) d_RT_name_46 rfl rfl ?_
            first | (rw [bI_t h42, cnd_t h42]; exact ⟨rfl, rfl⟩) | (rw [bI_f h42, cnd_f h42]; exact ⟨rfl, rfl⟩)
        · skip
          replace h16 := nm_nlt (a := a) (b := 16) (by omega) (by omega) h16
          exfalso; omega
theorem th_name {k a u : Int32} (h : ¬ ((0 ≤ k.toInt ∧ k.toInt < 3) ∧ 0 ≤ a.toInt ∧ a.toInt < 16)) : rx_Throws y_RT_name M_RT_name 6 1 6 [.ref 256, .int k, .int a, .int u] (nx, ct, mi, ml, mr) (thr nx ct mi ml mr) := by
  refine rx_enterT (by decide) rfl rfl (Nat.le_of_ble_eq_true rfl) ?_
  refine rv_iload_n d_RT_name_0 rfl rfl ?_
  refine rv_if_lt (tgt := 19) d_RT_name_1 (by decide) (fun h1 => ?_) (fun h1 => ?_)
  · skip
    exact rv_throw d_RT_name_19 d_RT_name_22 d_RT_name_23 d_RT_name_25 d_RT_name_28 rfl (List.mem_of_getElem? (i := 17) rfl) rfl (by decide) ⟨rfl, rfl⟩
  · skip
    refine rv_iload_n d_RT_name_4 rfl rfl ?_
    refine rv_iconst (v := 3) d_RT_name_5 (by decide) ?_
    refine rv_icmp_ge (tgt := 19) d_RT_name_6 (by decide) (fun h6 => ?_) (fun h6 => ?_)
    · skip
      exact rv_throw d_RT_name_19 d_RT_name_22 d_RT_name_23 d_RT_name_25 d_RT_name_28 rfl (List.mem_of_getElem? (i := 17) rfl) rfl (by decide) ⟨rfl, rfl⟩
    · skip
      refine rv_iload_n d_RT_name_9 rfl rfl ?_
      refine rv_if_lt (tgt := 19) d_RT_name_10 (by decide) (fun h10 => ?_) (fun h10 => ?_)
      · skip
        exact rv_throw d_RT_name_19 d_RT_name_22 d_RT_name_23 d_RT_name_25 d_RT_name_28 rfl (List.mem_of_getElem? (i := 17) rfl) rfl (by decide) ⟨rfl, rfl⟩
      · skip
        refine rv_iload_n d_RT_name_13 rfl rfl ?_
        refine rv_bipush (v := 16) d_RT_name_14 (by decide) ?_
        refine rv_icmp_lt (tgt := 29) d_RT_name_16 (by decide) (fun h16 => ?_) (fun h16 => ?_)
        · skip
          exfalso; ((try simp only [isLet, isDig, isLD, isTC, il, ie, iq, i_m1, i_0, i_1, i_2, i_3, i_7, i_8, i_10, i_15, i_16, i_32, i_46, i_48, i_57, i_59, i_97, i_122] at *); omega)
        · skip
          exact rv_throw d_RT_name_19 d_RT_name_22 d_RT_name_23 d_RT_name_25 d_RT_name_28 rfl (List.mem_of_getElem? (i := 17) rfl) rfl (by decide) ⟨rfl, rfl⟩
theorem sp_tell {a : Nat} {x0 y0 x1 y1 : Int64} (hL : LAY nx ct mr) (ha : a < 16) : rx_Calls y_Sh_tell M_Sh_tell 0 0 0 [.ref 260, .int (nI a), .long x0, .long y0, .long x1, .long y1] (nx, ct, mi, ml, mr) (fun v τ => v = some (.int (bI (x0 ≤ x1 ∧ y0 ≤ y1))) ∧ τ = (nx, ct, cnd (x0 ≤ x1 ∧ y0 ≤ y1) (rx_u mi 261 a 1) mi, cnd (x0 ≤ x1 ∧ y0 ≤ y1) (rx_u (rx_u (rx_u (rx_u ml 262 a x0) 263 a y0) 264 a x1) 265 a y1) ml, mr)) := by
  refine rx_enter (by decide) rfl rfl (Nat.le_of_ble_eq_true rfl) ?_
  refine ru_lload_n d_Sh_tell_0 rfl rfl ?_
  refine ru_lload d_Sh_tell_1 rfl ?_
  refine ru_lcmp d_Sh_tell_3 ?_
  refine ru_if_gt (tgt := 15) d_Sh_tell_4 (by decide) (fun h4 => ?_) (fun h4 => ?_)
  · skip
    replace h4 := (lg_cmp_gt _ _).mp h4
    refine ru_iconst (v := 0) d_Sh_tell_15 (by decide) ?_
    refine ru_zret (ty := .boolean) d_Sh_tell_16 rfl rfl ?_
    first | (have q : x0 ≤ x1 ∧ y0 ≤ y1 := ⟨Int64.not_lt.mp h4, h12⟩; rw [bI_t q, cnd_t q, cnd_t q]; exact ⟨rfl, rfl⟩) | (have q : ¬ (x0 ≤ x1 ∧ y0 ≤ y1) := (fun q => h12 q.2); rw [bI_f q, cnd_f q, cnd_f q]; exact ⟨rfl, rfl⟩) | (have q : ¬ (x0 ≤ x1 ∧ y0 ≤ y1) := (fun q => Int64.not_lt.mpr q.1 h4); rw [bI_f q, cnd_f q, cnd_f q]; exact ⟨rfl, rfl⟩)
  · skip
    replace h4 := fun q => h4 ((lg_cmp_gt _ _).mpr q)
    refine ru_lload d_Sh_tell_7 rfl ?_
    refine ru_lload d_Sh_tell_9 rfl ?_
    refine ru_lcmp d_Sh_tell_11 ?_
    refine ru_if_le (tgt := 17) d_Sh_tell_12 (by decide) (fun h12 => ?_) (fun h12 => ?_)
    · skip
      replace h12 := (lg_cmp_le _ _).mp h12
      refine ru_aload_n d_Sh_tell_17 rfl rfl ?_
      refine ru_getR d_Sh_tell_18 lf_Sh_9 (ly hL 260 6 0) rfl (lr hL 260 0 261) ?_
      refine ru_iload_n d_Sh_tell_21 rfl rfl ?_
      refine ru_iconst (v := 1) d_Sh_tell_22 (by decide) ?_
      refine ru_zastN (j := a) d_Sh_tell_23 (ly hL 261 102 16) (by omega) (by decide) ?_
      refine ru_aload_n d_Sh_tell_24 rfl rfl ?_
      refine ru_getR d_Sh_tell_25 lf_Sh_15 (ly hL 260 6 0) rfl (lr hL 260 1 262) ?_
      refine ru_iload_n d_Sh_tell_28 rfl rfl ?_
      refine ru_lload_n d_Sh_tell_29 rfl rfl ?_
      refine ru_lastN (j := a) d_Sh_tell_30 (ly hL 262 104 16) (by omega) (by decide) ?_
      refine ru_aload_n d_Sh_tell_31 rfl rfl ?_
      refine ru_getR d_Sh_tell_32 lf_Sh_19 (ly hL 260 6 0) rfl (lr hL 260 2 263) ?_
      refine ru_iload_n d_Sh_tell_35 rfl rfl ?_
      refine ru_lload d_Sh_tell_36 rfl ?_
      refine ru_lastN (j := a) d_Sh_tell_38 (ly hL 263 104 16) (by omega) (by decide) ?_
      refine ru_aload_n d_Sh_tell_39 rfl rfl ?_
      refine ru_getR d_Sh_tell_40 lf_Sh_22 (ly hL 260 6 0) rfl (lr hL 260 3 264) ?_
      refine ru_iload_n d_Sh_tell_43 rfl rfl ?_
      refine ru_lload d_Sh_tell_44 rfl ?_
      refine ru_lastN (j := a) d_Sh_tell_46 (ly hL 264 104 16) (by omega) (by decide) ?_
      refine ru_aload_n d_Sh_tell_47 rfl rfl ?_
      refine ru_getR d_Sh_tell_48 lf_Sh_25 (ly hL 260 6 0) rfl (lr hL 260 4 265) ?_
      refine ru_iload_n d_Sh_tell_51 rfl rfl ?_
      refine ru_lload d_Sh_tell_52 rfl ?_
      refine ru_lastN (j := a) d_Sh_tell_54 (ly hL 265 104 16) (by omega) (by decide) ?_
      refine ru_iconst (v := 1) d_Sh_tell_55 (by decide) ?_
      refine ru_zret (ty := .boolean) d_Sh_tell_56 rfl rfl ?_
      first | (have q : x0 ≤ x1 ∧ y0 ≤ y1 := ⟨Int64.not_lt.mp h4, h12⟩; rw [bI_t q, cnd_t q, cnd_t q]; exact ⟨rfl, rfl⟩) | (have q : ¬ (x0 ≤ x1 ∧ y0 ≤ y1) := (fun q => h12 q.2); rw [bI_f q, cnd_f q, cnd_f q]; exact ⟨rfl, rfl⟩) | (have q : ¬ (x0 ≤ x1 ∧ y0 ≤ y1) := (fun q => Int64.not_lt.mpr q.1 h4); rw [bI_f q, cnd_f q, cnd_f q]; exact ⟨rfl, rfl⟩)
    · skip
      replace h12 := fun q => h12 ((lg_cmp_le _ _).mpr q)
      refine ru_iconst (v := 0) d_Sh_tell_15 (by decide) ?_
      refine ru_zret (ty := .boolean) d_Sh_tell_16 rfl rfl ?_
      first | (have q : x0 ≤ x1 ∧ y0 ≤ y1 := ⟨Int64.not_lt.mp h4, h12⟩; rw [bI_t q, cnd_t q, cnd_t q]; exact ⟨rfl, rfl⟩) | (have q : ¬ (x0 ≤ x1 ∧ y0 ≤ y1) := (fun q => h12 q.2); rw [bI_f q, cnd_f q, cnd_f q]; exact ⟨rfl, rfl⟩) | (have q : ¬ (x0 ≤ x1 ∧ y0 ≤ y1) := (fun q => Int64.not_lt.mpr q.1 h4); rw [bI_f q, cnd_f q, cnd_f q]; exact ⟨rfl, rfl⟩)
theorem sp_shape {a : Nat} {x0 y0 x1 y1 : Int64} (hL : LAY nx ct mr) (ha : a < 16) : rx_Calls y_RT_shape M_RT_shape 1 0 0 [.ref 256, .int (nI a), .long x0, .long y0, .long x1, .long y1] (nx, ct, mi, ml, mr) (fun v τ => v = some (.int (bI (x0 ≤ x1 ∧ y0 ≤ y1))) ∧ τ = (nx, ct, cnd (x0 ≤ x1 ∧ y0 ≤ y1) (rx_u mi 261 a 1) mi, cnd (x0 ≤ x1 ∧ y0 ≤ y1) (rx_u (rx_u (rx_u (rx_u ml 262 a x0) 263 a y0) 264 a x1) 265 a y1) ml, mr)) := by
  refine rx_enter (by decide) rfl rfl (Nat.le_of_ble_eq_true rfl) ?_
  refine ru_iload_n d_RT_shape_0 rfl rfl ?_
  refine ru_if_lt (tgt := 10) d_RT_shape_1 (by decide) (fun h1 => ?_) (fun h1 => ?_)
  · skip
    replace h1 := nm_lt (a := a) (b := 0) (by omega) (by omega) h1
    exfalso; omega
  · skip
    replace h1 := nm_nlt (a := a) (b := 0) (by omega) (by omega) h1
    refine ru_iload_n d_RT_shape_4 rfl rfl ?_
    refine ru_bipush (v := 16) d_RT_shape_5 (by decide) ?_
    refine ru_icmp_lt (tgt := 20) d_RT_shape_7 (by decide) (fun h7 => ?_) (fun h7 => ?_)
    · skip
      replace h7 := nm_lt (a := a) (b := 16) (by omega) (by omega) h7
      refine ru_aload_n d_RT_shape_20 rfl rfl ?_
      refine ru_getR d_RT_shape_21 lf_RT_19 (ly hL 256 0 0) rfl (lr hL 256 1 260) ?_
      refine ru_iload_n d_RT_shape_24 rfl rfl ?_
      refine ru_lload_n d_RT_shape_25 rfl rfl ?_
      refine ru_lload d_RT_shape_26 rfl ?_
      refine ru_lload d_RT_shape_28 rfl ?_
      refine ru_lload d_RT_shape_30 rfl ?_
      refine ru_callV (mc := 0) (ms := 0) d_RT_shape_32 lm_RT_143 (sp_tell hL ha) (rx_recv_is (ly hL 260 6 0) kx_Sh) (by decide) rfl (Nat.le_of_ble_eq_true rfl) ?_
      intro v τ h
      obtain ⟨rfl, rfl⟩ := h
      refine ru_zret (ty := .boolean) d_RT_shape_35 rfl (bI_nar _) ?_
      exact ⟨rfl, rfl⟩
    · skip
      replace h7 := nm_nlt (a := a) (b := 16) (by omega) (by omega) h7
      exfalso; omega
theorem th_shape {a : Int32} {x0 y0 x1 y1 : Int64} (h : ¬ (0 ≤ a.toInt ∧ a.toInt < 16)) : rx_Throws y_RT_shape M_RT_shape 6 1 6 [.ref 256, .int a, .long x0, .long y0, .long x1, .long y1] (nx, ct, mi, ml, mr) (thr nx ct mi ml mr) := by
  refine rx_enterT (by decide) rfl rfl (Nat.le_of_ble_eq_true rfl) ?_
  refine rv_iload_n d_RT_shape_0 rfl rfl ?_
  refine rv_if_lt (tgt := 10) d_RT_shape_1 (by decide) (fun h1 => ?_) (fun h1 => ?_)
  · skip
    exact rv_throw d_RT_shape_10 d_RT_shape_13 d_RT_shape_14 d_RT_shape_16 d_RT_shape_19 rfl (List.mem_of_getElem? (i := 21) rfl) rfl (by decide) ⟨rfl, rfl⟩
  · skip
    refine rv_iload_n d_RT_shape_4 rfl rfl ?_
    refine rv_bipush (v := 16) d_RT_shape_5 (by decide) ?_
    refine rv_icmp_lt (tgt := 20) d_RT_shape_7 (by decide) (fun h7 => ?_) (fun h7 => ?_)
    · skip
      exfalso; ((try simp only [isLet, isDig, isLD, isTC, il, ie, iq, i_m1, i_0, i_1, i_2, i_3, i_7, i_8, i_10, i_15, i_16, i_32, i_46, i_48, i_57, i_59, i_97, i_122] at *); omega)
    · skip
      exact rv_throw d_RT_shape_10 d_RT_shape_13 d_RT_shape_14 d_RT_shape_16 d_RT_shape_19 rfl (List.mem_of_getElem? (i := 21) rfl) rfl (by decide) ⟨rfl, rfl⟩
theorem sp_unit {n : Nat} (u : Int32) (hL : LAY nx ct mr) (hn : mi 266 1 = nI n) (hn2 : n ≤ 3000) : rx_Calls y_RT_unit M_RT_unit 2 0 0 [.ref 256, .int u] (nx, ct, mi, ml, mr) (fun v τ => v = some (.int (bI (isTC u ∧ n < 3000))) ∧ τ = (nx, ct, @ite _ (isTC u ∧ n < 3000) (Classical.propDecidable _) (rx_u (rx_u mi 267 n u) 266 1 (nI (n + 1))) mi, ml, mr)) := by
  refine rx_enter (by decide) rfl rfl (Nat.le_of_ble_eq_true rfl) ?_
  refine ru_aload_n d_RT_unit_0 rfl rfl ?_
  refine ru_getR d_RT_unit_1 lf_RT_26 (ly hL 256 0 0) rfl (lr hL 256 2 266) ?_
  refine ru_iload_n d_RT_unit_4 rfl rfl ?_
  refine ru_callV (mc := 0) (ms := 0) d_RT_unit_5 lm_RT_62 (sp_Wo_append u hL hn hn2) (rx_recv_is (ly hL 266 7 0) kx_Wo) (by decide) rfl (Nat.le_of_ble_eq_true rfl) ?_
  intro v τ h
  obtain ⟨rfl, rfl⟩ := h
  refine ru_zret (ty := .boolean) d_RT_unit_8 rfl (bI_nar _) ?_
  exact ⟨rfl, rfl⟩
theorem sp_clear (hL : LAY nx ct mr) : rx_Calls y_RT_clear M_RT_clear 0 0 0 [.ref 256] (nx, ct, mi, ml, mr) (fun v τ => v = none ∧ τ = (nx, ct, rx_u mi 266 1 0, ml, mr)) := by
  refine rx_enter (by decide) rfl rfl (Nat.le_of_ble_eq_true rfl) ?_
  refine ru_aload_n d_RT_clear_0 rfl rfl ?_
  refine ru_getR d_RT_clear_1 lf_RT_26 (ly hL 256 0 0) rfl (lr hL 256 2 266) ?_
  refine ru_iconst (v := 0) d_RT_clear_4 (by decide) ?_
  refine ru_putI d_RT_clear_5 lf_RT_188 (ly hL 266 7 0) rfl (fun q hq => by cases hq; exact Or.inl rfl) ⟨rfl, rfl⟩ ?_
  refine ru_vret d_RT_clear_8 rfl ?_
  exact ⟨rfl, rfl⟩
theorem sp_hasP {n : Nat} (hL : LAY nx ct mr) (hb : isLst b) (k : Int32) (hn : mi b 1 = nI n) (hn2 : n ≤ 60) : rx_Pure y_RL_has M_RL_has 0 [.ref b, .int k] (nx, ct, mi, ml, mr) (fun v => v = some (.int (bI (0 ≤ k.toInt ∧ k.toInt < n)))) := by
  refine rx_enterP (by decide) rfl rfl (Nat.le_of_ble_eq_true rfl) ?_
  have hz : (nI n).toInt = n := nI_toInt (by omega)
  refine rv_iload_n d_RL_has_0 rfl rfl ?_
  refine rv_if_lt (tgt := 16) d_RL_has_1 (by decide) (fun h1 => ?_) (fun h1 => ?_)
  · skip
    refine rv_iconst (v := 0) d_RL_has_16 (by decide) ?_
    refine rv_zret (ty := .boolean) d_RL_has_17 rfl rfl ?_
    first | (rw [bI_t (by simp only [il, ie, hz, i_0] at *; omega)]) | (rw [bI_f (by simp only [il, ie, hz, i_0] at *; omega)])
  · skip
    refine rv_iload_n d_RL_has_4 rfl rfl ?_
    refine rv_aload_n d_RL_has_5 rfl rfl ?_
    refine rv_getI d_RL_has_6 lf_RL_18 (ly_b hL hb) rfl ?_
    refine rv_eqi hn ?_
    refine rv_icmp_ge (tgt := 16) d_RL_has_9 (by decide) (fun h9 => ?_) (fun h9 => ?_)
    · skip
      refine rv_iconst (v := 0) d_RL_has_16 (by decide) ?_
      refine rv_zret (ty := .boolean) d_RL_has_17 rfl rfl ?_
      first | (rw [bI_t (by simp only [il, ie, hz, i_0] at *; omega)]) | (rw [bI_f (by simp only [il, ie, hz, i_0] at *; omega)])
    · skip
      refine rv_iconst (v := 1) d_RL_has_12 (by decide) ?_
      refine rv_goto (tgt := 17) d_RL_has_13 (by decide) ?_
      refine rv_zret (ty := .boolean) d_RL_has_17 rfl rfl ?_
      first | (rw [bI_t (by simp only [il, ie, hz, i_0] at *; omega)]) | (rw [bI_f (by simp only [il, ie, hz, i_0] at *; omega)])
theorem sp_has {n : Nat} (hL : LAY nx ct mr) (hb : isLst b) (k : Int32) (hn : mi b 1 = nI n) (hn2 : n ≤ 60) : rx_Calls y_RL_has M_RL_has 0 0 0 [.ref b, .int k] (nx, ct, mi, ml, mr) (fun v τ => v = some (.int (bI (0 ≤ k.toInt ∧ k.toInt < n))) ∧ τ = (nx, ct, mi, ml, mr)) := (sp_hasP hL hb k hn hn2).calls
theorem sp_hasN {n k : Nat} (hL : LAY nx ct mr) (hb : isLst b) (hk : k < 2 ^ 31) (hn : mi b 1 = nI n) (hn2 : n ≤ 60) : rx_Calls y_RL_has M_RL_has 0 0 0 [.ref b, .int (nI k)] (nx, ct, mi, ml, mr) (fun v τ => v = some (.int (bI (k < n))) ∧ τ = (nx, ct, mi, ml, mr)) := by
  have h := sp_has (ml := ml) hL hb (nI k) hn hn2
  rw [nI_toInt hk, show (0 ≤ (k : Int) ∧ (k : Int) < (n : Int)) = (k < n) from propext ⟨fun q => by omega, fun q => by omega⟩] at h
  exact h
theorem sp_rank {k : Nat} (hL : LAY nx ct mr) (hr : mr 256 5 = some b) (hb : isLst b) (hl : LsI mi ml mr b L) (hk : k < L.length) : rx_Calls y_RT_rank M_RT_rank 3 0 0 [.ref 256, .int (nI k)] (nx, ct, mi, ml, mr) (fun v τ => v = some (.int (nI (cF (fun i => aheadL L i k) L.length 0))) ∧ τ = (nx, ct, mi, ml, mr)) := by
  refine rx_enter (by decide) rfl rfl (Nat.le_of_ble_eq_true rfl) ?_
  have l2 := hl.2.1
  refine ru_aload_n d_RT_rank_0 rfl rfl ?_
  refine ru_getR d_RT_rank_1 lf_RT_51 (ly hL 256 0 0) rfl hr ?_
  refine ru_iload_n d_RT_rank_4 rfl rfl ?_
  refine ru_callV (mc := 0) (ms := 0) d_RT_rank_5 lm_RT_84 (sp_hasN hL hb (by omega) hl.1 l2) (rx_recv_is (ly_b hL hb) kx_RL) (by decide) rfl (Nat.le_of_ble_eq_true rfl) ?_
  intro v τ h
  obtain ⟨rfl, rfl⟩ := h
  refine ru_if_ne (tgt := 21) d_RT_rank_8 (by decide) (fun h8 => ?_) (fun h8 => absurd h8 (bI_ne0.mpr hk))
  refine ru_aload_n d_RT_rank_21 rfl rfl ?_
  refine ru_getR d_RT_rank_22 lf_RT_51 (ly hL 256 0 0) rfl hr ?_
  refine ru_iload_n d_RT_rank_25 rfl rfl ?_
  refine ru_callV (mc := 0) (ms := 0) d_RT_rank_26 lm_RT_138 (sp_countAhead hL hb hl hk) (rx_recv_is (ly_b hL hb) kx_RL) (by decide) rfl (Nat.le_of_ble_eq_true rfl) ?_
  intro v τ h
  obtain ⟨rfl, rfl⟩ := h
  refine ru_iret d_RT_rank_29 rfl ?_
  exact ⟨rfl, rfl⟩
theorem sp_line {k : Nat} {q : ruS} (hL : LAY nx ct mr) (hr : mr 256 5 = some b) (hb : isLst b) (hl : LsI mi ml mr b L) (hk : L[k]? = some q) : rx_Calls y_RT_line M_RT_line 1 0 0 [.ref 256, .int (nI k)] (nx, ct, mi, ml, mr) (fun v τ => v = some (.int (nI q.2.2.2.2.2.2)) ∧ τ = (nx, ct, mi, ml, mr)) := by
  refine rx_enter (by decide) rfl rfl (Nat.le_of_ble_eq_true rfl) ?_
  have l2 := hl.2.1
  have hkl : k < L.length := (List.getElem?_eq_some_iff.mp hk).1
  have c := hl.2.2 k q hk
  refine ru_aload_n d_RT_line_0 rfl rfl ?_
  refine ru_getR d_RT_line_1 lf_RT_51 (ly hL 256 0 0) rfl hr ?_
  refine ru_iload_n d_RT_line_4 rfl rfl ?_
  refine ru_callV (mc := 0) (ms := 0) d_RT_line_5 lm_RT_84 (sp_hasN hL hb (by omega) hl.1 l2) (rx_recv_is (ly_b hL hb) kx_RL) (by decide) rfl (Nat.le_of_ble_eq_true rfl) ?_
  intro v τ h
  obtain ⟨rfl, rfl⟩ := h
  refine ru_if_ne (tgt := 21) d_RT_line_8 (by decide) (fun h8 => ?_) (fun h8 => absurd h8 (bI_ne0.mpr hkl))
  refine ru_aload_n d_RT_line_21 rfl rfl ?_
  refine ru_getR d_RT_line_22 lf_RT_51 (ly hL 256 0 0) rfl hr ?_
  refine ru_getR d_RT_line_25 lf_RT_89 (ly_b hL hb) rfl (lr_b hL hb) ?_
  refine ru_iload_n d_RT_line_28 rfl rfl ?_
  refine ru_aldq (Cn := "RuleText$Rule") d_RT_line_29 (ly_bi hL hb) (by decide) (fun _ => rfl) (al_in (by omega)) (al_mr hL hb (by omega)) ?_
  refine ru_getI d_RT_line_30 lf_RT_160 (ly_ru hL (isRu_b hb (show k < 60 by omega))) rfl ?_
  refine ru_eqi c.1.2.2.2.2.2.2 ?_
  refine ru_iret d_RT_line_33 rfl ?_
  exact ⟨rfl, rfl⟩
theorem sp_value {k w : Nat} {q : ruS} (hL : LAY nx ct mr) (hr : mr 256 5 = some b) (hb : isLst b) (hl : LsI mi ml mr b L) (hk : L[k]? = some q) (hw : w < 2) : rx_Calls y_RT_value M_RT_value 1 0 0 [.ref 256, .int (nI k), .int (nI w)] (nx, ct, mi, ml, mr) (fun v τ => v = some (.long (oL (if w = 0 then q.2.2.2.2.2.1.1 else q.2.2.2.2.2.1.2))) ∧ τ = (nx, ct, mi, ml, mr)) := by
  refine rx_enter (by decide) rfl rfl (Nat.le_of_ble_eq_true rfl) ?_
  have l2 := hl.2.1
  have hkl : k < L.length := (List.getElem?_eq_some_iff.mp hk).1
  have c := hl.2.2 k q hk
  refine ru_aload_n d_RT_value_0 rfl rfl ?_
  refine ru_getR d_RT_value_1 lf_RT_51 (ly hL 256 0 0) rfl hr ?_
  refine ru_iload_n d_RT_value_4 rfl rfl ?_
  refine ru_callV (mc := 0) (ms := 0) d_RT_value_5 lm_RT_84 (sp_hasN hL hb (by omega) hl.1 l2) (rx_recv_is (ly_b hL hb) kx_RL) (by decide) rfl (Nat.le_of_ble_eq_true rfl) ?_
  intro v τ h
  obtain ⟨rfl, rfl⟩ := h
  refine ru_if_eq (tgt := 20) d_RT_value_8 (by decide) (fun h8 => absurd h8 (bI_ne0.mpr hkl)) (fun h8 => ?_)
  refine ru_iload_n d_RT_value_11 rfl rfl ?_
  refine ru_if_lt (tgt := 20) d_RT_value_12 (by decide) (fun h12 => ?_) (fun h12 => ?_)
  · skip
    replace h12 := nm_lt (a := w) (b := 0) (by omega) (by omega) h12
    exfalso; omega
  · skip
    replace h12 := nm_nlt (a := w) (b := 0) (by omega) (by omega) h12
    refine ru_iload_n d_RT_value_15 rfl rfl ?_
    refine ru_iconst (v := 1) d_RT_value_16 (by decide) ?_
    refine ru_icmp_le (tgt := 30) d_RT_value_17 (by decide) (fun h17 => ?_) (fun h17 => ?_)
    · skip
      replace h17 := nm_le (a := w) (b := 1) (by omega) (by omega) h17
      refine ru_iload_n d_RT_value_30 rfl rfl ?_
      refine ru_if_ne (tgt := 49) d_RT_value_31 (by decide) (fun h31 => ?_) (fun h31 => ?_)
      · skip
        replace h31 := nm_ne (a := w) (b := 0) (by omega) (by omega) h31
        refine ru_aload_n d_RT_value_49 rfl rfl ?_
        refine ru_getR d_RT_value_50 lf_RT_51 (ly hL 256 0 0) rfl hr ?_
        refine ru_getR d_RT_value_53 lf_RT_89 (ly_b hL hb) rfl (lr_b hL hb) ?_
        refine ru_iload_n d_RT_value_56 rfl rfl ?_
        refine ru_aldq (Cn := "RuleText$Rule") d_RT_value_57 (ly_bi hL hb) (by decide) (fun _ => rfl) (al_in (by omega)) (al_mr hL hb (by omega)) ?_
        refine ru_getL d_RT_value_58 lf_RT_133 (ly_ru hL (isRu_b hb (show k < 60 by omega))) rfl ?_
        refine ru_eql c.1.2.2.2.2.2.1.2 ?_
        refine ru_lret d_RT_value_61 rfl ?_
        first | (rw [if_pos h31]; exact ⟨rfl, rfl⟩) | (rw [if_neg h31]; exact ⟨rfl, rfl⟩)
      · skip
        replace h31 := nm_eq (a := w) (b := 0) (by omega) (by omega) h31
        refine ru_aload_n d_RT_value_34 rfl rfl ?_
        refine ru_getR d_RT_value_35 lf_RT_51 (ly hL 256 0 0) rfl hr ?_
        refine ru_getR d_RT_value_38 lf_RT_89 (ly_b hL hb) rfl (lr_b hL hb) ?_
        refine ru_iload_n d_RT_value_41 rfl rfl ?_
        refine ru_aldq (Cn := "RuleText$Rule") d_RT_value_42 (ly_bi hL hb) (by decide) (fun _ => rfl) (al_in (by omega)) (al_mr hL hb (by omega)) ?_
        refine ru_getL d_RT_value_43 lf_RT_129 (ly_ru hL (isRu_b hb (show k < 60 by omega))) rfl ?_
        refine ru_eql c.1.2.2.2.2.2.1.1 ?_
        refine ru_goto (tgt := 61) d_RT_value_46 (by decide) ?_
        refine ru_lret d_RT_value_61 rfl ?_
        first | (rw [if_pos h31]; exact ⟨rfl, rfl⟩) | (rw [if_neg h31]; exact ⟨rfl, rfl⟩)
    · skip
      replace h17 := nm_nle (a := w) (b := 1) (by omega) (by omega) h17
      exfalso; omega
theorem sp_rule {k w : Nat} {q : ruS} (hL : LAY nx ct mr) (hr : mr 256 5 = some b) (hb : isLst b) (hl : LsI mi ml mr b L) (hk : L[k]? = some q) (hw : w < 8) : rx_Calls y_RT_rule M_RT_rule 1 0 0 [.ref 256, .int (nI k), .int (nI w)] (nx, ct, mi, ml, mr) (fun v τ => v = some (.int (ruV q w)) ∧ τ = (nx, ct, mi, ml, mr)) := by
  refine rx_enter (by decide) rfl rfl (Nat.le_of_ble_eq_true rfl) ?_
  have l2 := hl.2.1
  have hkl : k < L.length := (List.getElem?_eq_some_iff.mp hk).1
  have c := hl.2.2 k q hk
  have o1 := c.2.2.1.1
  have o2 := c.2.2.1.2
  have hκ := c.2.1
  obtain rfl | rfl | rfl | rfl | rfl | rfl | rfl | rfl : w = 0 ∨ w = 1 ∨ w = 2 ∨ w = 3 ∨ w = 4 ∨ w = 5 ∨ w = 6 ∨ w = 7 := by omega
  · skip
    refine ru_aload_n d_RT_rule_0 rfl rfl ?_
    refine ru_getR d_RT_rule_1 lf_RT_51 (ly hL 256 0 0) rfl hr ?_
    refine ru_iload_n d_RT_rule_4 rfl rfl ?_
    refine ru_callV (mc := 0) (ms := 0) d_RT_rule_5 lm_RT_84 (sp_hasN hL hb (by omega) hl.1 l2) (rx_recv_is (ly_b hL hb) kx_RL) (by decide) rfl (Nat.le_of_ble_eq_true rfl) ?_
    intro v τ h
    obtain ⟨rfl, rfl⟩ := h
    refine ru_if_eq (tgt := 21) d_RT_rule_8 (by decide) (fun h8 => absurd h8 (bI_ne0.mpr hkl)) (fun h8 => ?_)
    refine ru_iload_n d_RT_rule_11 rfl rfl ?_
    refine ru_if_lt (tgt := 21) d_RT_rule_12 (by decide) (fun h12 => absurd h12 (by decide)) (fun h12 => ?_)
    refine ru_iload_n d_RT_rule_15 rfl rfl ?_
    refine ru_bipush (v := 8) d_RT_rule_16 (by decide) ?_
    refine ru_icmp_lt (tgt := 31) d_RT_rule_18 (by decide) (fun h18 => ?_) (fun h18 => absurd h18 (by decide))
    refine ru_aload_n d_RT_rule_31 rfl rfl ?_
    refine ru_getR d_RT_rule_32 lf_RT_51 (ly hL 256 0 0) rfl hr ?_
    refine ru_getR d_RT_rule_35 lf_RT_89 (ly_b hL hb) rfl (lr_b hL hb) ?_
    refine ru_iload_n d_RT_rule_38 rfl rfl ?_
    refine ru_aldq (Cn := "RuleText$Rule") d_RT_rule_39 (ly_bi hL hb) (by decide) (fun _ => rfl) (al_in (by omega)) (al_mr hL hb (by omega)) ?_
    refine ru_astore_n d_RT_rule_40 rfl (by decide) ?_
    refine ru_iload_n d_RT_rule_41 rfl rfl ?_
    refine ru_tableIn (tgt := 84) d_RT_rule_42 (by decide) (by decide) rfl (by decide) ?_
    refine ru_aload_n d_RT_rule_84 rfl rfl ?_
    refine ru_getR d_RT_rule_85 lf_RT_93 (ly_ru hL (isRu_b hb (show k < 60 by omega))) rfl c.1.1 ?_
    refine ru_getO (v := .int (nI q.1)) d_RT_rule_88 (rx_in (tm_6 (List.mem_of_getElem? (i := 182) rfl)) rfl) (fun ev U h => (h.2.1 q.1 hκ).1) ?_
    refine ru_iret d_RT_rule_91 rfl ?_
    exact ⟨rfl, rfl⟩
  · skip
    refine ru_aload_n d_RT_rule_0 rfl rfl ?_
    refine ru_getR d_RT_rule_1 lf_RT_51 (ly hL 256 0 0) rfl hr ?_
    refine ru_iload_n d_RT_rule_4 rfl rfl ?_
    refine ru_callV (mc := 0) (ms := 0) d_RT_rule_5 lm_RT_84 (sp_hasN hL hb (by omega) hl.1 l2) (rx_recv_is (ly_b hL hb) kx_RL) (by decide) rfl (Nat.le_of_ble_eq_true rfl) ?_
    intro v τ h
    obtain ⟨rfl, rfl⟩ := h
    refine ru_if_eq (tgt := 21) d_RT_rule_8 (by decide) (fun h8 => absurd h8 (bI_ne0.mpr hkl)) (fun h8 => ?_)
    refine ru_iload_n d_RT_rule_11 rfl rfl ?_
    refine ru_if_lt (tgt := 21) d_RT_rule_12 (by decide) (fun h12 => absurd h12 (by decide)) (fun h12 => ?_)
    refine ru_iload_n d_RT_rule_15 rfl rfl ?_
    refine ru_bipush (v := 8) d_RT_rule_16 (by decide) ?_
    refine ru_icmp_lt (tgt := 31) d_RT_rule_18 (by decide) (fun h18 => ?_) (fun h18 => absurd h18 (by decide))
    refine ru_aload_n d_RT_rule_31 rfl rfl ?_
    refine ru_getR d_RT_rule_32 lf_RT_51 (ly hL 256 0 0) rfl hr ?_
    refine ru_getR d_RT_rule_35 lf_RT_89 (ly_b hL hb) rfl (lr_b hL hb) ?_
    refine ru_iload_n d_RT_rule_38 rfl rfl ?_
    refine ru_aldq (Cn := "RuleText$Rule") d_RT_rule_39 (ly_bi hL hb) (by decide) (fun _ => rfl) (al_in (by omega)) (al_mr hL hb (by omega)) ?_
    refine ru_astore_n d_RT_rule_40 rfl (by decide) ?_
    refine ru_iload_n d_RT_rule_41 rfl rfl ?_
    refine ru_tableIn (tgt := 92) d_RT_rule_42 (by decide) (by decide) rfl (by decide) ?_
    refine ru_aload_n d_RT_rule_92 rfl rfl ?_
    refine ru_getI d_RT_rule_93 lf_RT_105 (ly_ru hL (isRu_b hb (show k < 60 by omega))) rfl ?_
    refine ru_eqi c.1.2.1.1 ?_
    refine ru_callS (mc := 0) (ms := 0) d_RT_rule_96 lm_RT_108 (sp_kindOf _ _) (by decide) rfl (Nat.le_of_ble_eq_true rfl) ?_
    rintro v τ ⟨rfl, rfl⟩
    refine ru_iret d_RT_rule_99 rfl ?_
    exact ⟨by rw [kindOf_oR o1]; rfl, rfl⟩
  · skip
    refine ru_aload_n d_RT_rule_0 rfl rfl ?_
    refine ru_getR d_RT_rule_1 lf_RT_51 (ly hL 256 0 0) rfl hr ?_
    refine ru_iload_n d_RT_rule_4 rfl rfl ?_
    refine ru_callV (mc := 0) (ms := 0) d_RT_rule_5 lm_RT_84 (sp_hasN hL hb (by omega) hl.1 l2) (rx_recv_is (ly_b hL hb) kx_RL) (by decide) rfl (Nat.le_of_ble_eq_true rfl) ?_
    intro v τ h
    obtain ⟨rfl, rfl⟩ := h
    refine ru_if_eq (tgt := 21) d_RT_rule_8 (by decide) (fun h8 => absurd h8 (bI_ne0.mpr hkl)) (fun h8 => ?_)
    refine ru_iload_n d_RT_rule_11 rfl rfl ?_
    refine ru_if_lt (tgt := 21) d_RT_rule_12 (by decide) (fun h12 => absurd h12 (by decide)) (fun h12 => ?_)
    refine ru_iload_n d_RT_rule_15 rfl rfl ?_
    refine ru_bipush (v := 8) d_RT_rule_16 (by decide) ?_
    refine ru_icmp_lt (tgt := 31) d_RT_rule_18 (by decide) (fun h18 => ?_) (fun h18 => absurd h18 (by decide))
    refine ru_aload_n d_RT_rule_31 rfl rfl ?_
    refine ru_getR d_RT_rule_32 lf_RT_51 (ly hL 256 0 0) rfl hr ?_
    refine ru_getR d_RT_rule_35 lf_RT_89 (ly_b hL hb) rfl (lr_b hL hb) ?_
    refine ru_iload_n d_RT_rule_38 rfl rfl ?_
    refine ru_aldq (Cn := "RuleText$Rule") d_RT_rule_39 (ly_bi hL hb) (by decide) (fun _ => rfl) (al_in (by omega)) (al_mr hL hb (by omega)) ?_
    refine ru_astore_n d_RT_rule_40 rfl (by decide) ?_
    refine ru_iload_n d_RT_rule_41 rfl rfl ?_
    refine ru_tableIn (tgt := 100) d_RT_rule_42 (by decide) (by decide) rfl (by decide) ?_
    refine ru_aload_n d_RT_rule_100 rfl rfl ?_
    refine ru_getI d_RT_rule_101 lf_RT_105 (ly_ru hL (isRu_b hb (show k < 60 by omega))) rfl ?_
    refine ru_eqi c.1.2.1.1 ?_
    refine ru_callS (mc := 0) (ms := 0) d_RT_rule_104 lm_RT_112 (sp_thingOf _ _) (by decide) rfl (Nat.le_of_ble_eq_true rfl) ?_
    rintro v τ ⟨rfl, rfl⟩
    refine ru_iret d_RT_rule_107 rfl ?_
    exact ⟨by rw [thingOf_oR o1]; rfl, rfl⟩
  · skip
    refine ru_aload_n d_RT_rule_0 rfl rfl ?_
    refine ru_getR d_RT_rule_1 lf_RT_51 (ly hL 256 0 0) rfl hr ?_
    refine ru_iload_n d_RT_rule_4 rfl rfl ?_
    refine ru_callV (mc := 0) (ms := 0) d_RT_rule_5 lm_RT_84 (sp_hasN hL hb (by omega) hl.1 l2) (rx_recv_is (ly_b hL hb) kx_RL) (by decide) rfl (Nat.le_of_ble_eq_true rfl) ?_
    intro v τ h
    obtain ⟨rfl, rfl⟩ := h
    refine ru_if_eq (tgt := 21) d_RT_rule_8 (by decide) (fun h8 => absurd h8 (bI_ne0.mpr hkl)) (fun h8 => ?_)
    refine ru_iload_n d_RT_rule_11 rfl rfl ?_
    refine ru_if_lt (tgt := 21) d_RT_rule_12 (by decide) (fun h12 => absurd h12 (by decide)) (fun h12 => ?_)
    refine ru_iload_n d_RT_rule_15 rfl rfl ?_
    refine ru_bipush (v := 8) d_RT_rule_16 (by decide) ?_
    refine ru_icmp_lt (tgt := 31) d_RT_rule_18 (by decide) (fun h18 => ?_) (fun h18 => absurd h18 (by decide))
    refine ru_aload_n d_RT_rule_31 rfl rfl ?_
    refine ru_getR d_RT_rule_32 lf_RT_51 (ly hL 256 0 0) rfl hr ?_
    refine ru_getR d_RT_rule_35 lf_RT_89 (ly_b hL hb) rfl (lr_b hL hb) ?_
    refine ru_iload_n d_RT_rule_38 rfl rfl ?_
    refine ru_aldq (Cn := "RuleText$Rule") d_RT_rule_39 (ly_bi hL hb) (by decide) (fun _ => rfl) (al_in (by omega)) (al_mr hL hb (by omega)) ?_
    refine ru_astore_n d_RT_rule_40 rfl (by decide) ?_
    refine ru_iload_n d_RT_rule_41 rfl rfl ?_
    refine ru_tableIn (tgt := 108) d_RT_rule_42 (by decide) (by decide) rfl (by decide) ?_
    refine ru_aload_n d_RT_rule_108 rfl rfl ?_
    refine ru_getI d_RT_rule_109 lf_RT_115 (ly_ru hL (isRu_b hb (show k < 60 by omega))) rfl ?_
    refine ru_eqi c.1.2.1.2 ?_
    refine ru_callS (mc := 0) (ms := 0) d_RT_rule_112 lm_RT_108 (sp_kindOf _ _) (by decide) rfl (Nat.le_of_ble_eq_true rfl) ?_
    rintro v τ ⟨rfl, rfl⟩
    refine ru_iret d_RT_rule_115 rfl ?_
    exact ⟨by rw [kindOf_oR o2]; rfl, rfl⟩
  · skip
    refine ru_aload_n d_RT_rule_0 rfl rfl ?_
    refine ru_getR d_RT_rule_1 lf_RT_51 (ly hL 256 0 0) rfl hr ?_
    refine ru_iload_n d_RT_rule_4 rfl rfl ?_
    refine ru_callV (mc := 0) (ms := 0) d_RT_rule_5 lm_RT_84 (sp_hasN hL hb (by omega) hl.1 l2) (rx_recv_is (ly_b hL hb) kx_RL) (by decide) rfl (Nat.le_of_ble_eq_true rfl) ?_
    intro v τ h
    obtain ⟨rfl, rfl⟩ := h
    refine ru_if_eq (tgt := 21) d_RT_rule_8 (by decide) (fun h8 => absurd h8 (bI_ne0.mpr hkl)) (fun h8 => ?_)
    refine ru_iload_n d_RT_rule_11 rfl rfl ?_
    refine ru_if_lt (tgt := 21) d_RT_rule_12 (by decide) (fun h12 => absurd h12 (by decide)) (fun h12 => ?_)
    refine ru_iload_n d_RT_rule_15 rfl rfl ?_
    refine ru_bipush (v := 8) d_RT_rule_16 (by decide) ?_
    refine ru_icmp_lt (tgt := 31) d_RT_rule_18 (by decide) (fun h18 => ?_) (fun h18 => absurd h18 (by decide))
    refine ru_aload_n d_RT_rule_31 rfl rfl ?_
    refine ru_getR d_RT_rule_32 lf_RT_51 (ly hL 256 0 0) rfl hr ?_
    refine ru_getR d_RT_rule_35 lf_RT_89 (ly_b hL hb) rfl (lr_b hL hb) ?_
    refine ru_iload_n d_RT_rule_38 rfl rfl ?_
    refine ru_aldq (Cn := "RuleText$Rule") d_RT_rule_39 (ly_bi hL hb) (by decide) (fun _ => rfl) (al_in (by omega)) (al_mr hL hb (by omega)) ?_
    refine ru_astore_n d_RT_rule_40 rfl (by decide) ?_
    refine ru_iload_n d_RT_rule_41 rfl rfl ?_
    refine ru_tableIn (tgt := 116) d_RT_rule_42 (by decide) (by decide) rfl (by decide) ?_
    refine ru_aload_n d_RT_rule_116 rfl rfl ?_
    refine ru_getI d_RT_rule_117 lf_RT_115 (ly_ru hL (isRu_b hb (show k < 60 by omega))) rfl ?_
    refine ru_eqi c.1.2.1.2 ?_
    refine ru_callS (mc := 0) (ms := 0) d_RT_rule_120 lm_RT_112 (sp_thingOf _ _) (by decide) rfl (Nat.le_of_ble_eq_true rfl) ?_
    rintro v τ ⟨rfl, rfl⟩
    refine ru_iret d_RT_rule_123 rfl ?_
    exact ⟨by rw [thingOf_oR o2]; rfl, rfl⟩
  · skip
    refine ru_aload_n d_RT_rule_0 rfl rfl ?_
    refine ru_getR d_RT_rule_1 lf_RT_51 (ly hL 256 0 0) rfl hr ?_
    refine ru_iload_n d_RT_rule_4 rfl rfl ?_
    refine ru_callV (mc := 0) (ms := 0) d_RT_rule_5 lm_RT_84 (sp_hasN hL hb (by omega) hl.1 l2) (rx_recv_is (ly_b hL hb) kx_RL) (by decide) rfl (Nat.le_of_ble_eq_true rfl) ?_
    intro v τ h
    obtain ⟨rfl, rfl⟩ := h
    refine ru_if_eq (tgt := 21) d_RT_rule_8 (by decide) (fun h8 => absurd h8 (bI_ne0.mpr hkl)) (fun h8 => ?_)
    refine ru_iload_n d_RT_rule_11 rfl rfl ?_
    refine ru_if_lt (tgt := 21) d_RT_rule_12 (by decide) (fun h12 => absurd h12 (by decide)) (fun h12 => ?_)
    refine ru_iload_n d_RT_rule_15 rfl rfl ?_
    refine ru_bipush (v := 8) d_RT_rule_16 (by decide) ?_
    refine ru_icmp_lt (tgt := 31) d_RT_rule_18 (by decide) (fun h18 => ?_) (fun h18 => absurd h18 (by decide))
    refine ru_aload_n d_RT_rule_31 rfl rfl ?_
    refine ru_getR d_RT_rule_32 lf_RT_51 (ly hL 256 0 0) rfl hr ?_
    refine ru_getR d_RT_rule_35 lf_RT_89 (ly_b hL hb) rfl (lr_b hL hb) ?_
    refine ru_iload_n d_RT_rule_38 rfl rfl ?_
    refine ru_aldq (Cn := "RuleText$Rule") d_RT_rule_39 (ly_bi hL hb) (by decide) (fun _ => rfl) (al_in (by omega)) (al_mr hL hb (by omega)) ?_
    refine ru_astore_n d_RT_rule_40 rfl (by decide) ?_
    refine ru_iload_n d_RT_rule_41 rfl rfl ?_
    refine ru_tableIn (tgt := 124) d_RT_rule_42 (by decide) (by decide) rfl (by decide) ?_
    refine ru_aload_n d_RT_rule_124 rfl rfl ?_
    refine ru_getI d_RT_rule_125 lf_RT_118 (ly_ru hL (isRu_b hb (show k < 60 by omega))) rfl ?_
    refine ru_eqi c.1.2.2.1 ?_
    refine ru_iret d_RT_rule_128 rfl ?_
    exact ⟨rfl, rfl⟩
  · skip
    refine ru_aload_n d_RT_rule_0 rfl rfl ?_
    refine ru_getR d_RT_rule_1 lf_RT_51 (ly hL 256 0 0) rfl hr ?_
    refine ru_iload_n d_RT_rule_4 rfl rfl ?_
    refine ru_callV (mc := 0) (ms := 0) d_RT_rule_5 lm_RT_84 (sp_hasN hL hb (by omega) hl.1 l2) (rx_recv_is (ly_b hL hb) kx_RL) (by decide) rfl (Nat.le_of_ble_eq_true rfl) ?_
    intro v τ h
    obtain ⟨rfl, rfl⟩ := h
    refine ru_if_eq (tgt := 21) d_RT_rule_8 (by decide) (fun h8 => absurd h8 (bI_ne0.mpr hkl)) (fun h8 => ?_)
    refine ru_iload_n d_RT_rule_11 rfl rfl ?_
    refine ru_if_lt (tgt := 21) d_RT_rule_12 (by decide) (fun h12 => absurd h12 (by decide)) (fun h12 => ?_)
    refine ru_iload_n d_RT_rule_15 rfl rfl ?_
    refine ru_bipush (v := 8) d_RT_rule_16 (by decide) ?_
    refine ru_icmp_lt (tgt := 31) d_RT_rule_18 (by decide) (fun h18 => ?_) (fun h18 => absurd h18 (by decide))
    refine ru_aload_n d_RT_rule_31 rfl rfl ?_
    refine ru_getR d_RT_rule_32 lf_RT_51 (ly hL 256 0 0) rfl hr ?_
    refine ru_getR d_RT_rule_35 lf_RT_89 (ly_b hL hb) rfl (lr_b hL hb) ?_
    refine ru_iload_n d_RT_rule_38 rfl rfl ?_
    refine ru_aldq (Cn := "RuleText$Rule") d_RT_rule_39 (ly_bi hL hb) (by decide) (fun _ => rfl) (al_in (by omega)) (al_mr hL hb (by omega)) ?_
    refine ru_astore_n d_RT_rule_40 rfl (by decide) ?_
    refine ru_iload_n d_RT_rule_41 rfl rfl ?_
    refine ru_tableIn (tgt := 129) d_RT_rule_42 (by decide) (by decide) rfl (by decide) ?_
    refine ru_aload_n d_RT_rule_129 rfl rfl ?_
    refine ru_getI d_RT_rule_130 lf_RT_121 (ly_ru hL (isRu_b hb (show k < 60 by omega))) rfl ?_
    refine ru_eqi c.1.2.2.2.1 ?_
    refine ru_iret d_RT_rule_133 rfl ?_
    exact ⟨rfl, rfl⟩
  · skip
    refine ru_aload_n d_RT_rule_0 rfl rfl ?_
    refine ru_getR d_RT_rule_1 lf_RT_51 (ly hL 256 0 0) rfl hr ?_
    refine ru_iload_n d_RT_rule_4 rfl rfl ?_
    refine ru_callV (mc := 0) (ms := 0) d_RT_rule_5 lm_RT_84 (sp_hasN hL hb (by omega) hl.1 l2) (rx_recv_is (ly_b hL hb) kx_RL) (by decide) rfl (Nat.le_of_ble_eq_true rfl) ?_
    intro v τ h
    obtain ⟨rfl, rfl⟩ := h
    refine ru_if_eq (tgt := 21) d_RT_rule_8 (by decide) (fun h8 => absurd h8 (bI_ne0.mpr hkl)) (fun h8 => ?_)
    refine ru_iload_n d_RT_rule_11 rfl rfl ?_
    refine ru_if_lt (tgt := 21) d_RT_rule_12 (by decide) (fun h12 => absurd h12 (by decide)) (fun h12 => ?_)
    refine ru_iload_n d_RT_rule_15 rfl rfl ?_
    refine ru_bipush (v := 8) d_RT_rule_16 (by decide) ?_
    refine ru_icmp_lt (tgt := 31) d_RT_rule_18 (by decide) (fun h18 => ?_) (fun h18 => absurd h18 (by decide))
    refine ru_aload_n d_RT_rule_31 rfl rfl ?_
    refine ru_getR d_RT_rule_32 lf_RT_51 (ly hL 256 0 0) rfl hr ?_
    refine ru_getR d_RT_rule_35 lf_RT_89 (ly_b hL hb) rfl (lr_b hL hb) ?_
    refine ru_iload_n d_RT_rule_38 rfl rfl ?_
    refine ru_aldq (Cn := "RuleText$Rule") d_RT_rule_39 (ly_bi hL hb) (by decide) (fun _ => rfl) (al_in (by omega)) (al_mr hL hb (by omega)) ?_
    refine ru_astore_n d_RT_rule_40 rfl (by decide) ?_
    refine ru_iload_n d_RT_rule_41 rfl rfl ?_
    refine ru_tableOut (tgt := 134) d_RT_rule_42 (by decide) (by decide) ?_
    refine ru_aload_n d_RT_rule_134 rfl rfl ?_
    refine ru_getI d_RT_rule_135 lf_RT_124 (ly_ru hL (isRu_b hb (show k < 60 by omega))) rfl ?_
    refine ru_eqi c.1.2.2.2.2.1 ?_
    refine ru_iret d_RT_rule_138 rfl ?_
    exact ⟨rfl, rfl⟩
theorem th_rank {k : Int32} (hL : LAY nx ct mr) (hr : mr 256 5 = some b) (hb : isLst b) (hn : mi b 1 = nI L.length) (hn2 : L.length ≤ 60) (h : ¬ (0 ≤ k.toInt ∧ k.toInt < L.length)) : rx_Throws y_RT_rank M_RT_rank 6 1 6 [.ref 256, .int k] (nx, ct, mi, ml, mr) (thr nx ct mi ml mr) := by
  refine rx_enterT (by decide) rfl rfl (Nat.le_of_ble_eq_true rfl) ?_
  refine rv_aload_n d_RT_rank_0 rfl rfl ?_
  refine rv_getR d_RT_rank_1 lf_RT_51 (ly hL 256 0 0) rfl hr ?_
  refine rv_iload_n d_RT_rank_4 rfl rfl ?_
  refine rv_callV d_RT_rank_5 lm_RT_84 (sp_hasP hL hb _ hn hn2) (rx_recv_is (ly_b hL hb) kx_RL) (by decide) rfl (Nat.le_of_ble_eq_true rfl) ?_
  rintro v rfl
  refine rv_if_ne (tgt := 21) d_RT_rank_8 (by decide) (fun h8 => absurd (bI_f h) h8) (fun h8 => ?_)
  exact rv_throw d_RT_rank_11 d_RT_rank_14 d_RT_rank_15 d_RT_rank_17 d_RT_rank_20 rfl (List.mem_of_getElem? (i := 20) rfl) rfl (by decide) ⟨rfl, rfl⟩
theorem th_line {k : Int32} (hL : LAY nx ct mr) (hr : mr 256 5 = some b) (hb : isLst b) (hn : mi b 1 = nI L.length) (hn2 : L.length ≤ 60) (h : ¬ (0 ≤ k.toInt ∧ k.toInt < L.length)) : rx_Throws y_RT_line M_RT_line 6 1 6 [.ref 256, .int k] (nx, ct, mi, ml, mr) (thr nx ct mi ml mr) := by
  refine rx_enterT (by decide) rfl rfl (Nat.le_of_ble_eq_true rfl) ?_
  refine rv_aload_n d_RT_line_0 rfl rfl ?_
  refine rv_getR d_RT_line_1 lf_RT_51 (ly hL 256 0 0) rfl hr ?_
  refine rv_iload_n d_RT_line_4 rfl rfl ?_
  refine rv_callV d_RT_line_5 lm_RT_84 (sp_hasP hL hb _ hn hn2) (rx_recv_is (ly_b hL hb) kx_RL) (by decide) rfl (Nat.le_of_ble_eq_true rfl) ?_
  rintro v rfl
  refine rv_if_ne (tgt := 21) d_RT_line_8 (by decide) (fun h8 => absurd (bI_f h) h8) (fun h8 => ?_)
  exact rv_throw d_RT_line_11 d_RT_line_14 d_RT_line_15 d_RT_line_17 d_RT_line_20 rfl (List.mem_of_getElem? (i := 20) rfl) rfl (by decide) ⟨rfl, rfl⟩
theorem th_rule {k w : Int32} (hL : LAY nx ct mr) (hr : mr 256 5 = some b) (hb : isLst b) (hn : mi b 1 = nI L.length) (hn2 : L.length ≤ 60) (h : ¬ ((0 ≤ k.toInt ∧ k.toInt < L.length) ∧ 0 ≤ w.toInt ∧ w.toInt < 8)) : rx_Throws y_RT_rule M_RT_rule 6 1 6 [.ref 256, .int k, .int w] (nx, ct, mi, ml, mr) (thr nx ct mi ml mr) := by
  refine rx_enterT (by decide) rfl rfl (Nat.le_of_ble_eq_true rfl) ?_
  refine rv_aload_n d_RT_rule_0 rfl rfl ?_
  refine rv_getR d_RT_rule_1 lf_RT_51 (ly hL 256 0 0) rfl hr ?_
  refine rv_iload_n d_RT_rule_4 rfl rfl ?_
  refine rv_callV d_RT_rule_5 lm_RT_84 (sp_hasP hL hb _ hn hn2) (rx_recv_is (ly_b hL hb) kx_RL) (by decide) rfl (Nat.le_of_ble_eq_true rfl) ?_
  rintro v rfl
  refine rv_if_eq (tgt := 21) d_RT_rule_8 (by decide) (fun h8 => ?_) (fun h8 => ?_)
  · skip
    replace h8 := bI_eq0.mp h8
    exact rv_throw d_RT_rule_21 d_RT_rule_24 d_RT_rule_25 d_RT_rule_27 d_RT_rule_30 rfl (List.mem_of_getElem? (i := 18) rfl) rfl (by decide) ⟨rfl, rfl⟩
  · skip
    replace h8 := bI_ne0.mp h8
    refine rv_iload_n d_RT_rule_11 rfl rfl ?_
    refine rv_if_lt (tgt := 21) d_RT_rule_12 (by decide) (fun h12 => ?_) (fun h12 => ?_)
    · skip
      exact rv_throw d_RT_rule_21 d_RT_rule_24 d_RT_rule_25 d_RT_rule_27 d_RT_rule_30 rfl (List.mem_of_getElem? (i := 18) rfl) rfl (by decide) ⟨rfl, rfl⟩
    · skip
      refine rv_iload_n d_RT_rule_15 rfl rfl ?_
      refine rv_bipush (v := 8) d_RT_rule_16 (by decide) ?_
      refine rv_icmp_lt (tgt := 31) d_RT_rule_18 (by decide) (fun h18 => ?_) (fun h18 => ?_)
      · skip
        exfalso; ((try simp only [isLet, isDig, isLD, isTC, il, ie, iq, i_m1, i_0, i_1, i_2, i_3, i_7, i_8, i_10, i_15, i_16, i_32, i_46, i_48, i_57, i_59, i_97, i_122] at *); omega)
      · skip
        exact rv_throw d_RT_rule_21 d_RT_rule_24 d_RT_rule_25 d_RT_rule_27 d_RT_rule_30 rfl (List.mem_of_getElem? (i := 18) rfl) rfl (by decide) ⟨rfl, rfl⟩
theorem th_value {k w : Int32} (hL : LAY nx ct mr) (hr : mr 256 5 = some b) (hb : isLst b) (hn : mi b 1 = nI L.length) (hn2 : L.length ≤ 60) (h : ¬ ((0 ≤ k.toInt ∧ k.toInt < L.length) ∧ 0 ≤ w.toInt ∧ w.toInt < 2)) : rx_Throws y_RT_value M_RT_value 6 1 6 [.ref 256, .int k, .int w] (nx, ct, mi, ml, mr) (thr nx ct mi ml mr) := by
  refine rx_enterT (by decide) rfl rfl (Nat.le_of_ble_eq_true rfl) ?_
  refine rv_aload_n d_RT_value_0 rfl rfl ?_
  refine rv_getR d_RT_value_1 lf_RT_51 (ly hL 256 0 0) rfl hr ?_
  refine rv_iload_n d_RT_value_4 rfl rfl ?_
  refine rv_callV d_RT_value_5 lm_RT_84 (sp_hasP hL hb _ hn hn2) (rx_recv_is (ly_b hL hb) kx_RL) (by decide) rfl (Nat.le_of_ble_eq_true rfl) ?_
  rintro v rfl
  refine rv_if_eq (tgt := 20) d_RT_value_8 (by decide) (fun h8 => ?_) (fun h8 => ?_)
  · skip
    replace h8 := bI_eq0.mp h8
    exact rv_throw d_RT_value_20 d_RT_value_23 d_RT_value_24 d_RT_value_26 d_RT_value_29 rfl (List.mem_of_getElem? (i := 19) rfl) rfl (by decide) ⟨rfl, rfl⟩
  · skip
    replace h8 := bI_ne0.mp h8
    refine rv_iload_n d_RT_value_11 rfl rfl ?_
    refine rv_if_lt (tgt := 20) d_RT_value_12 (by decide) (fun h12 => ?_) (fun h12 => ?_)
    · skip
      exact rv_throw d_RT_value_20 d_RT_value_23 d_RT_value_24 d_RT_value_26 d_RT_value_29 rfl (List.mem_of_getElem? (i := 19) rfl) rfl (by decide) ⟨rfl, rfl⟩
    · skip
      refine rv_iload_n d_RT_value_15 rfl rfl ?_
      refine rv_iconst (v := 1) d_RT_value_16 (by decide) ?_
      refine rv_icmp_le (tgt := 30) d_RT_value_17 (by decide) (fun h17 => ?_) (fun h17 => ?_)
      · skip
        exfalso; ((try simp only [isLet, isDig, isLD, isTC, il, ie, iq, i_m1, i_0, i_1, i_2, i_3, i_7, i_8, i_10, i_15, i_16, i_32, i_46, i_48, i_57, i_59, i_97, i_122] at *); omega)
      · skip
        exact rv_throw d_RT_value_20 d_RT_value_23 d_RT_value_24 d_RT_value_26 d_RT_value_29 rfl (List.mem_of_getElem? (i := 19) rfl) rfl (by decide) ⟨rfl, rfl⟩
theorem th_clash {k w : Int32} (h : ¬ (w = 0 ∨ w = 1)) : rx_Throws y_RT_clash M_RT_clash 6 1 6 [.ref 256, .int k, .int w] (nx, ct, mi, ml, mr) (thr nx ct mi ml mr) := by
  refine rx_enterT (by decide) rfl rfl (Nat.le_of_ble_eq_true rfl) ?_
  refine rv_iload_n d_RT_clash_0 rfl rfl ?_
  refine rv_if_lt (tgt := 9) d_RT_clash_1 (by decide) (fun h1 => ?_) (fun h1 => ?_)
  · skip
    exact rv_throw d_RT_clash_9 d_RT_clash_12 d_RT_clash_13 d_RT_clash_15 d_RT_clash_18 rfl (List.mem_of_getElem? (i := 22) rfl) rfl (by decide) ⟨rfl, rfl⟩
  · skip
    refine rv_iload_n d_RT_clash_4 rfl rfl ?_
    refine rv_iconst (v := 1) d_RT_clash_5 (by decide) ?_
    refine rv_icmp_le (tgt := 19) d_RT_clash_6 (by decide) (fun h6 => ?_) (fun h6 => ?_)
    · skip
      exfalso; ((try simp only [isLet, isDig, isLD, isTC, il, ie, iq, i_m1, i_0, i_1, i_2, i_3, i_7, i_8, i_10, i_15, i_16, i_32, i_46, i_48, i_57, i_59, i_97, i_122] at *); omega)
    · skip
      exact rv_throw d_RT_clash_9 d_RT_clash_12 d_RT_clash_13 d_RT_clash_15 d_RT_clash_18 rfl (List.mem_of_getElem? (i := 22) rfl) rfl (by decide) ⟨rfl, rfl⟩
theorem th_write {i : Int32} (h : i < 0) : rx_Throws y_RT_write M_RT_write 6 1 6 [.ref 256, .int i] (nx, ct, mi, ml, mr) (thr nx ct mi ml mr) := by
  refine rx_enterT (by decide) rfl rfl (Nat.le_of_ble_eq_true rfl) ?_
  refine rv_iload_n d_RT_write_0 rfl rfl ?_
  refine rv_if_ge (tgt := 14) d_RT_write_1 (by decide) (fun h1 => absurd h (Int32.not_lt.mpr h1)) (fun h1 => ?_)
  exact rv_throw d_RT_write_4 d_RT_write_7 d_RT_write_8 d_RT_write_10 d_RT_write_13 rfl (List.mem_of_getElem? (i := 23) rfl) rfl (by decide) ⟨rfl, rfl⟩
end
