/-! The reference: rank, never, clash, kinds -/
theorem d_Mo_rank_0 : decode M_Mo_rank.2.1 0 = .ok (.aload_n 0, 1) := by decide +kernel
theorem d_Mo_rank_1 : decode M_Mo_rank.2.1 1 = .ok (.aload_n 0, 1) := by decide +kernel
theorem d_Mo_rank_2 : decode M_Mo_rank.2.1 2 = .ok (.iload_n 1, 1) := by decide +kernel
theorem d_Mo_rank_3 : decode M_Mo_rank.2.1 3 = .ok (.invokevirtual 192, 3) := by decide +kernel
theorem d_Mo_rank_6 : decode M_Mo_rank.2.1 6 = .ok (.ifCond .eq 7, 3) := by decide +kernel
theorem d_Mo_rank_9 : decode M_Mo_rank.2.1 9 = .ok (.iconst 0, 1) := by decide +kernel
theorem d_Mo_rank_10 : decode M_Mo_rank.2.1 10 = .ok (.goto 4, 3) := by decide +kernel
theorem d_Mo_rank_13 : decode M_Mo_rank.2.1 13 = .ok (.iconst 1, 1) := by decide +kernel
theorem d_Mo_rank_14 : decode M_Mo_rank.2.1 14 = .ok (.putfield 39, 3) := by decide +kernel
theorem d_Mo_rank_17 : decode M_Mo_rank.2.1 17 = .ok (.iconst 0, 1) := by decide +kernel
theorem d_Mo_rank_18 : decode M_Mo_rank.2.1 18 = .ok (.istore_n 2, 1) := by decide +kernel
theorem d_Mo_rank_19 : decode M_Mo_rank.2.1 19 = .ok (.iconst 0, 1) := by decide +kernel
theorem d_Mo_rank_20 : decode M_Mo_rank.2.1 20 = .ok (.istore_n 3, 1) := by decide +kernel
theorem d_Mo_rank_21 : decode M_Mo_rank.2.1 21 = .ok (.aload_n 0, 1) := by decide +kernel
theorem d_Mo_rank_22 : decode M_Mo_rank.2.1 22 = .ok (.getfield 39, 3) := by decide +kernel
theorem d_Mo_rank_25 : decode M_Mo_rank.2.1 25 = .ok (.ifCond .ne 34, 3) := by decide +kernel
theorem d_Mo_rank_28 : decode M_Mo_rank.2.1 28 = .ok (.iload_n 3, 1) := by decide +kernel
theorem d_Mo_rank_29 : decode M_Mo_rank.2.1 29 = .ok (.aload_n 0, 1) := by decide +kernel
theorem d_Mo_rank_30 : decode M_Mo_rank.2.1 30 = .ok (.getfield 189, 3) := by decide +kernel
theorem d_Mo_rank_33 : decode M_Mo_rank.2.1 33 = .ok (.if_icmp .ge 26, 3) := by decide +kernel
theorem d_Mo_rank_36 : decode M_Mo_rank.2.1 36 = .ok (.iload_n 2, 1) := by decide +kernel
theorem d_Mo_rank_37 : decode M_Mo_rank.2.1 37 = .ok (.aload_n 0, 1) := by decide +kernel
theorem d_Mo_rank_38 : decode M_Mo_rank.2.1 38 = .ok (.iload_n 3, 1) := by decide +kernel
theorem d_Mo_rank_39 : decode M_Mo_rank.2.1 39 = .ok (.iload_n 1, 1) := by decide +kernel
theorem d_Mo_rank_40 : decode M_Mo_rank.2.1 40 = .ok (.invokevirtual 197, 3) := by decide +kernel
theorem d_Mo_rank_43 : decode M_Mo_rank.2.1 43 = .ok (.ifCond .eq 7, 3) := by decide +kernel
theorem d_Mo_rank_46 : decode M_Mo_rank.2.1 46 = .ok (.iconst 1, 1) := by decide +kernel
theorem d_Mo_rank_47 : decode M_Mo_rank.2.1 47 = .ok (.goto 4, 3) := by decide +kernel
theorem d_Mo_rank_50 : decode M_Mo_rank.2.1 50 = .ok (.iconst 0, 1) := by decide +kernel
theorem d_Mo_rank_51 : decode M_Mo_rank.2.1 51 = .ok (.iadd, 1) := by decide +kernel
theorem d_Mo_rank_52 : decode M_Mo_rank.2.1 52 = .ok (.istore_n 2, 1) := by decide +kernel
theorem d_Mo_rank_53 : decode M_Mo_rank.2.1 53 = .ok (.iinc 3 1, 3) := by decide +kernel
theorem d_Mo_rank_56 : decode M_Mo_rank.2.1 56 = .ok (.goto (-35), 3) := by decide +kernel
theorem d_Mo_rank_59 : decode M_Mo_rank.2.1 59 = .ok (.iload_n 2, 1) := by decide +kernel
theorem d_Mo_rank_60 : decode M_Mo_rank.2.1 60 = .ok (.ireturn, 1) := by decide +kernel
theorem d_Mo_never_0 : decode M_Mo_never.2.1 0 = .ok (.aload_n 0, 1) := by decide +kernel
theorem d_Mo_never_1 : decode M_Mo_never.2.1 1 = .ok (.iconst 0, 1) := by decide +kernel
theorem d_Mo_never_2 : decode M_Mo_never.2.1 2 = .ok (.putfield 39, 3) := by decide +kernel
theorem d_Mo_never_5 : decode M_Mo_never.2.1 5 = .ok (.iload_n 1, 1) := by decide +kernel
theorem d_Mo_never_6 : decode M_Mo_never.2.1 6 = .ok (.istore_n 2, 1) := by decide +kernel
theorem d_Mo_never_7 : decode M_Mo_never.2.1 7 = .ok (.iconst 0, 1) := by decide +kernel
theorem d_Mo_never_8 : decode M_Mo_never.2.1 8 = .ok (.istore_n 3, 1) := by decide +kernel
theorem d_Mo_never_9 : decode M_Mo_never.2.1 9 = .ok (.iload_n 3, 1) := by decide +kernel
theorem d_Mo_never_10 : decode M_Mo_never.2.1 10 = .ok (.aload_n 0, 1) := by decide +kernel
theorem d_Mo_never_11 : decode M_Mo_never.2.1 11 = .ok (.getfield 189, 3) := by decide +kernel
theorem d_Mo_never_14 : decode M_Mo_never.2.1 14 = .ok (.if_icmp .ge 83, 3) := by decide +kernel
theorem d_Mo_never_17 : decode M_Mo_never.2.1 17 = .ok (.iload_n 1, 1) := by decide +kernel
theorem d_Mo_never_18 : decode M_Mo_never.2.1 18 = .ok (.ifCond .lt 79, 3) := by decide +kernel
theorem d_Mo_never_21 : decode M_Mo_never.2.1 21 = .ok (.iconst 0, 1) := by decide +kernel
theorem d_Mo_never_22 : decode M_Mo_never.2.1 22 = .ok (.istore 4, 2) := by decide +kernel
theorem d_Mo_never_24 : decode M_Mo_never.2.1 24 = .ok (.iconst 0, 1) := by decide +kernel
theorem d_Mo_never_25 : decode M_Mo_never.2.1 25 = .ok (.istore 5, 2) := by decide +kernel
theorem d_Mo_never_27 : decode M_Mo_never.2.1 27 = .ok (.iload 5, 2) := by decide +kernel
theorem d_Mo_never_29 : decode M_Mo_never.2.1 29 = .ok (.aload_n 0, 1) := by decide +kernel
theorem d_Mo_never_30 : decode M_Mo_never.2.1 30 = .ok (.getfield 189, 3) := by decide +kernel
theorem d_Mo_never_33 : decode M_Mo_never.2.1 33 = .ok (.if_icmp .ge 41, 3) := by decide +kernel
theorem d_Mo_never_36 : decode M_Mo_never.2.1 36 = .ok (.iload 4, 2) := by decide +kernel
theorem d_Mo_never_38 : decode M_Mo_never.2.1 38 = .ok (.ifCond .ne 23, 3) := by decide +kernel
theorem d_Mo_never_41 : decode M_Mo_never.2.1 41 = .ok (.aload_n 0, 1) := by decide +kernel
theorem d_Mo_never_42 : decode M_Mo_never.2.1 42 = .ok (.iload 5, 2) := by decide +kernel
theorem d_Mo_never_44 : decode M_Mo_never.2.1 44 = .ok (.iload_n 3, 1) := by decide +kernel
theorem d_Mo_never_45 : decode M_Mo_never.2.1 45 = .ok (.invokevirtual 197, 3) := by decide +kernel
theorem d_Mo_never_48 : decode M_Mo_never.2.1 48 = .ok (.ifCond .eq 17, 3) := by decide +kernel
theorem d_Mo_never_51 : decode M_Mo_never.2.1 51 = .ok (.aload_n 0, 1) := by decide +kernel
theorem d_Mo_never_52 : decode M_Mo_never.2.1 52 = .ok (.iload 5, 2) := by decide +kernel
theorem d_Mo_never_54 : decode M_Mo_never.2.1 54 = .ok (.iload_n 3, 1) := by decide +kernel
theorem d_Mo_never_55 : decode M_Mo_never.2.1 55 = .ok (.invokevirtual 209, 3) := by decide +kernel
theorem d_Mo_never_58 : decode M_Mo_never.2.1 58 = .ok (.ifCond .eq 7, 3) := by decide +kernel
theorem d_Mo_never_61 : decode M_Mo_never.2.1 61 = .ok (.iconst 1, 1) := by decide +kernel
theorem d_Mo_never_62 : decode M_Mo_never.2.1 62 = .ok (.goto 4, 3) := by decide +kernel
theorem d_Mo_never_65 : decode M_Mo_never.2.1 65 = .ok (.iconst 0, 1) := by decide +kernel
theorem d_Mo_never_66 : decode M_Mo_never.2.1 66 = .ok (.istore 4, 2) := by decide +kernel
theorem d_Mo_never_68 : decode M_Mo_never.2.1 68 = .ok (.iinc 5 1, 3) := by decide +kernel
theorem d_Mo_never_71 : decode M_Mo_never.2.1 71 = .ok (.goto (-44), 3) := by decide +kernel
theorem d_Mo_never_74 : decode M_Mo_never.2.1 74 = .ok (.iload 4, 2) := by decide +kernel
theorem d_Mo_never_76 : decode M_Mo_never.2.1 76 = .ok (.ifCond .ne 6, 3) := by decide +kernel
theorem d_Mo_never_79 : decode M_Mo_never.2.1 79 = .ok (.goto 12, 3) := by decide +kernel
theorem d_Mo_never_82 : decode M_Mo_never.2.1 82 = .ok (.iload_n 2, 1) := by decide +kernel
theorem d_Mo_never_83 : decode M_Mo_never.2.1 83 = .ok (.ifCond .ne 5, 3) := by decide +kernel
theorem d_Mo_never_86 : decode M_Mo_never.2.1 86 = .ok (.iload_n 3, 1) := by decide +kernel
theorem d_Mo_never_87 : decode M_Mo_never.2.1 87 = .ok (.ireturn, 1) := by decide +kernel
theorem d_Mo_never_88 : decode M_Mo_never.2.1 88 = .ok (.iinc 2 (-1), 3) := by decide +kernel
theorem d_Mo_never_91 : decode M_Mo_never.2.1 91 = .ok (.iinc 3 1, 3) := by decide +kernel
theorem d_Mo_never_94 : decode M_Mo_never.2.1 94 = .ok (.goto (-85), 3) := by decide +kernel
theorem d_Mo_never_97 : decode M_Mo_never.2.1 97 = .ok (.iconst (-1), 1) := by decide +kernel
theorem d_Mo_never_98 : decode M_Mo_never.2.1 98 = .ok (.ireturn, 1) := by decide +kernel
theorem d_Mo_clash_0 : decode M_Mo_clash.2.1 0 = .ok (.aload_n 0, 1) := by decide +kernel
theorem d_Mo_clash_1 : decode M_Mo_clash.2.1 1 = .ok (.iload_n 2, 1) := by decide +kernel
theorem d_Mo_clash_2 : decode M_Mo_clash.2.1 2 = .ok (.ifCond .eq 8, 3) := by decide +kernel
theorem d_Mo_clash_5 : decode M_Mo_clash.2.1 5 = .ok (.iload_n 2, 1) := by decide +kernel
theorem d_Mo_clash_6 : decode M_Mo_clash.2.1 6 = .ok (.iconst 1, 1) := by decide +kernel
theorem d_Mo_clash_7 : decode M_Mo_clash.2.1 7 = .ok (.if_icmp .ne 7, 3) := by decide +kernel
theorem d_Mo_clash_10 : decode M_Mo_clash.2.1 10 = .ok (.iconst 0, 1) := by decide +kernel
theorem d_Mo_clash_11 : decode M_Mo_clash.2.1 11 = .ok (.goto 4, 3) := by decide +kernel
theorem d_Mo_clash_14 : decode M_Mo_clash.2.1 14 = .ok (.iconst 1, 1) := by decide +kernel
theorem d_Mo_clash_15 : decode M_Mo_clash.2.1 15 = .ok (.putfield 39, 3) := by decide +kernel
theorem d_Mo_clash_18 : decode M_Mo_clash.2.1 18 = .ok (.iload_n 1, 1) := by decide +kernel
theorem d_Mo_clash_19 : decode M_Mo_clash.2.1 19 = .ok (.istore_n 3, 1) := by decide +kernel
theorem d_Mo_clash_20 : decode M_Mo_clash.2.1 20 = .ok (.iconst 0, 1) := by decide +kernel
theorem d_Mo_clash_21 : decode M_Mo_clash.2.1 21 = .ok (.istore 4, 2) := by decide +kernel
theorem d_Mo_clash_23 : decode M_Mo_clash.2.1 23 = .ok (.iload 4, 2) := by decide +kernel
theorem d_Mo_clash_25 : decode M_Mo_clash.2.1 25 = .ok (.aload_n 0, 1) := by decide +kernel
theorem d_Mo_clash_26 : decode M_Mo_clash.2.1 26 = .ok (.getfield 189, 3) := by decide +kernel
theorem d_Mo_clash_29 : decode M_Mo_clash.2.1 29 = .ok (.if_icmp .ge 74, 3) := by decide +kernel
theorem d_Mo_clash_32 : decode M_Mo_clash.2.1 32 = .ok (.iload_n 1, 1) := by decide +kernel
theorem d_Mo_clash_33 : decode M_Mo_clash.2.1 33 = .ok (.ifCond .lt 70, 3) := by decide +kernel
theorem d_Mo_clash_36 : decode M_Mo_clash.2.1 36 = .ok (.aload_n 0, 1) := by decide +kernel
theorem d_Mo_clash_37 : decode M_Mo_clash.2.1 37 = .ok (.getfield 39, 3) := by decide +kernel
theorem d_Mo_clash_40 : decode M_Mo_clash.2.1 40 = .ok (.ifCond .ne 63, 3) := by decide +kernel
theorem d_Mo_clash_43 : decode M_Mo_clash.2.1 43 = .ok (.iload 4, 2) := by decide +kernel
theorem d_Mo_clash_45 : decode M_Mo_clash.2.1 45 = .ok (.iconst 1, 1) := by decide +kernel
theorem d_Mo_clash_46 : decode M_Mo_clash.2.1 46 = .ok (.iadd, 1) := by decide +kernel
theorem d_Mo_clash_47 : decode M_Mo_clash.2.1 47 = .ok (.istore 5, 2) := by decide +kernel
theorem d_Mo_clash_49 : decode M_Mo_clash.2.1 49 = .ok (.iload 5, 2) := by decide +kernel
theorem d_Mo_clash_51 : decode M_Mo_clash.2.1 51 = .ok (.aload_n 0, 1) := by decide +kernel
theorem d_Mo_clash_52 : decode M_Mo_clash.2.1 52 = .ok (.getfield 189, 3) := by decide +kernel
theorem d_Mo_clash_55 : decode M_Mo_clash.2.1 55 = .ok (.if_icmp .ge 42, 3) := by decide +kernel
theorem d_Mo_clash_58 : decode M_Mo_clash.2.1 58 = .ok (.aload_n 0, 1) := by decide +kernel
theorem d_Mo_clash_59 : decode M_Mo_clash.2.1 59 = .ok (.iload 4, 2) := by decide +kernel
theorem d_Mo_clash_61 : decode M_Mo_clash.2.1 61 = .ok (.iload 5, 2) := by decide +kernel
theorem d_Mo_clash_63 : decode M_Mo_clash.2.1 63 = .ok (.invokevirtual 212, 3) := by decide +kernel
theorem d_Mo_clash_66 : decode M_Mo_clash.2.1 66 = .ok (.ifCond .ne 6, 3) := by decide +kernel
theorem d_Mo_clash_69 : decode M_Mo_clash.2.1 69 = .ok (.goto 22, 3) := by decide +kernel
theorem d_Mo_clash_72 : decode M_Mo_clash.2.1 72 = .ok (.iload_n 3, 1) := by decide +kernel
theorem d_Mo_clash_73 : decode M_Mo_clash.2.1 73 = .ok (.ifCond .ne 15, 3) := by decide +kernel
theorem d_Mo_clash_76 : decode M_Mo_clash.2.1 76 = .ok (.iload_n 2, 1) := by decide +kernel
theorem d_Mo_clash_77 : decode M_Mo_clash.2.1 77 = .ok (.ifCond .ne 8, 3) := by decide +kernel
theorem d_Mo_clash_80 : decode M_Mo_clash.2.1 80 = .ok (.iload 4, 2) := by decide +kernel
theorem d_Mo_clash_82 : decode M_Mo_clash.2.1 82 = .ok (.goto 5, 3) := by decide +kernel
theorem d_Mo_clash_85 : decode M_Mo_clash.2.1 85 = .ok (.iload 5, 2) := by decide +kernel
theorem d_Mo_clash_87 : decode M_Mo_clash.2.1 87 = .ok (.ireturn, 1) := by decide +kernel
theorem d_Mo_clash_88 : decode M_Mo_clash.2.1 88 = .ok (.iinc 3 (-1), 3) := by decide +kernel
theorem d_Mo_clash_91 : decode M_Mo_clash.2.1 91 = .ok (.iinc 5 1, 3) := by decide +kernel
theorem d_Mo_clash_94 : decode M_Mo_clash.2.1 94 = .ok (.goto (-45), 3) := by decide +kernel
theorem d_Mo_clash_97 : decode M_Mo_clash.2.1 97 = .ok (.iinc 4 1, 3) := by decide +kernel
theorem d_Mo_clash_100 : decode M_Mo_clash.2.1 100 = .ok (.goto (-77), 3) := by decide +kernel
theorem d_Mo_clash_103 : decode M_Mo_clash.2.1 103 = .ok (.aload_n 0, 1) := by decide +kernel
theorem d_Mo_clash_104 : decode M_Mo_clash.2.1 104 = .ok (.getfield 39, 3) := by decide +kernel
theorem d_Mo_clash_107 : decode M_Mo_clash.2.1 107 = .ok (.ifCond .ne 7, 3) := by decide +kernel
theorem d_Mo_clash_110 : decode M_Mo_clash.2.1 110 = .ok (.iconst (-1), 1) := by decide +kernel
theorem d_Mo_clash_111 : decode M_Mo_clash.2.1 111 = .ok (.goto 4, 3) := by decide +kernel
theorem d_Mo_clash_114 : decode M_Mo_clash.2.1 114 = .ok (.iconst 0, 1) := by decide +kernel
theorem d_Mo_clash_115 : decode M_Mo_clash.2.1 115 = .ok (.ireturn, 1) := by decide +kernel
theorem d_Mo_kinds_0 : decode M_Mo_kinds.2.1 0 = .ok (.aload_n 0, 1) := by decide +kernel
theorem d_Mo_kinds_1 : decode M_Mo_kinds.2.1 1 = .ok (.iconst 0, 1) := by decide +kernel
theorem d_Mo_kinds_2 : decode M_Mo_kinds.2.1 2 = .ok (.putfield 39, 3) := by decide +kernel
theorem d_Mo_kinds_5 : decode M_Mo_kinds.2.1 5 = .ok (.iconst 0, 1) := by decide +kernel
theorem d_Mo_kinds_6 : decode M_Mo_kinds.2.1 6 = .ok (.istore_n 1, 1) := by decide +kernel
theorem d_Mo_kinds_7 : decode M_Mo_kinds.2.1 7 = .ok (.iconst 0, 1) := by decide +kernel
theorem d_Mo_kinds_8 : decode M_Mo_kinds.2.1 8 = .ok (.istore_n 2, 1) := by decide +kernel
theorem d_Mo_kinds_9 : decode M_Mo_kinds.2.1 9 = .ok (.iload_n 2, 1) := by decide +kernel
theorem d_Mo_kinds_10 : decode M_Mo_kinds.2.1 10 = .ok (.aload_n 0, 1) := by decide +kernel
theorem d_Mo_kinds_11 : decode M_Mo_kinds.2.1 11 = .ok (.getfield 189, 3) := by decide +kernel
theorem d_Mo_kinds_14 : decode M_Mo_kinds.2.1 14 = .ok (.if_icmp .ge 24, 3) := by decide +kernel
theorem d_Mo_kinds_17 : decode M_Mo_kinds.2.1 17 = .ok (.iload_n 1, 1) := by decide +kernel
theorem d_Mo_kinds_18 : decode M_Mo_kinds.2.1 18 = .ok (.iconst 1, 1) := by decide +kernel
theorem d_Mo_kinds_19 : decode M_Mo_kinds.2.1 19 = .ok (.aload_n 0, 1) := by decide +kernel
theorem d_Mo_kinds_20 : decode M_Mo_kinds.2.1 20 = .ok (.getfield 27, 3) := by decide +kernel
theorem d_Mo_kinds_23 : decode M_Mo_kinds.2.1 23 = .ok (.bipush 12, 2) := by decide +kernel
theorem d_Mo_kinds_25 : decode M_Mo_kinds.2.1 25 = .ok (.iload_n 2, 1) := by decide +kernel
theorem d_Mo_kinds_26 : decode M_Mo_kinds.2.1 26 = .ok (.imul, 1) := by decide +kernel
theorem d_Mo_kinds_27 : decode M_Mo_kinds.2.1 27 = .ok (.laload, 1) := by decide +kernel
theorem d_Mo_kinds_28 : decode M_Mo_kinds.2.1 28 = .ok (.l2i, 1) := by decide +kernel
theorem d_Mo_kinds_29 : decode M_Mo_kinds.2.1 29 = .ok (.ishl, 1) := by decide +kernel
theorem d_Mo_kinds_30 : decode M_Mo_kinds.2.1 30 = .ok (.ior, 1) := by decide +kernel
theorem d_Mo_kinds_31 : decode M_Mo_kinds.2.1 31 = .ok (.istore_n 1, 1) := by decide +kernel
theorem d_Mo_kinds_32 : decode M_Mo_kinds.2.1 32 = .ok (.iinc 2 1, 3) := by decide +kernel
theorem d_Mo_kinds_35 : decode M_Mo_kinds.2.1 35 = .ok (.goto (-26), 3) := by decide +kernel
theorem d_Mo_kinds_38 : decode M_Mo_kinds.2.1 38 = .ok (.iconst 0, 1) := by decide +kernel
theorem d_Mo_kinds_39 : decode M_Mo_kinds.2.1 39 = .ok (.istore_n 2, 1) := by decide +kernel
theorem d_Mo_kinds_40 : decode M_Mo_kinds.2.1 40 = .ok (.iload_n 1, 1) := by decide +kernel
theorem d_Mo_kinds_41 : decode M_Mo_kinds.2.1 41 = .ok (.ifCond .eq 16, 3) := by decide +kernel
theorem d_Mo_kinds_44 : decode M_Mo_kinds.2.1 44 = .ok (.iload_n 2, 1) := by decide +kernel
theorem d_Mo_kinds_45 : decode M_Mo_kinds.2.1 45 = .ok (.iload_n 1, 1) := by decide +kernel
theorem d_Mo_kinds_46 : decode M_Mo_kinds.2.1 46 = .ok (.iconst 1, 1) := by decide +kernel
theorem d_Mo_kinds_47 : decode M_Mo_kinds.2.1 47 = .ok (.iand, 1) := by decide +kernel
theorem d_Mo_kinds_48 : decode M_Mo_kinds.2.1 48 = .ok (.iadd, 1) := by decide +kernel
theorem d_Mo_kinds_49 : decode M_Mo_kinds.2.1 49 = .ok (.istore_n 2, 1) := by decide +kernel
theorem d_Mo_kinds_50 : decode M_Mo_kinds.2.1 50 = .ok (.iload_n 1, 1) := by decide +kernel
theorem d_Mo_kinds_51 : decode M_Mo_kinds.2.1 51 = .ok (.iconst 1, 1) := by decide +kernel
theorem d_Mo_kinds_52 : decode M_Mo_kinds.2.1 52 = .ok (.ishr, 1) := by decide +kernel
theorem d_Mo_kinds_53 : decode M_Mo_kinds.2.1 53 = .ok (.istore_n 1, 1) := by decide +kernel
theorem d_Mo_kinds_54 : decode M_Mo_kinds.2.1 54 = .ok (.goto (-14), 3) := by decide +kernel
theorem d_Mo_kinds_57 : decode M_Mo_kinds.2.1 57 = .ok (.iload_n 2, 1) := by decide +kernel
theorem d_Mo_kinds_58 : decode M_Mo_kinds.2.1 58 = .ok (.ireturn, 1) := by decide +kernel
noncomputable def cF (P : Nat → Prop) : Nat → Nat → Nat
  | 0, _ => 0
  | f + 1, i => @ite _ (P i) (Classical.propDecidable _) 1 0 + cF P f (i + 1)
noncomputable def nthF (P : Nat → Prop) : Nat → Nat → Nat → Option Nat
  | 0, _, _ => none
  | f + 1, i, c => @ite _ (P i) (Classical.propDecidable _) (if c = 0 then some i else nthF P f (i + 1) (c - 1)) (nthF P f (i + 1) c)
noncomputable def nthB (P : Nat → Prop) : Nat → Nat → Nat → Nat ⊕ Nat
  | 0, _, c => .inr c
  | f + 1, i, c => @ite _ (P i) (Classical.propDecidable _) (if c = 0 then .inl i else nthB P f (i + 1) (c - 1)) (nthB P f (i + 1) c)
noncomputable def nthA (P : Nat → Nat → Prop) (n : Nat) : Nat → Nat → Nat → Option (Nat × Nat)
  | 0, _, _ => none
  | f + 1, a, c => match nthB (P a) (n - (a + 1)) (a + 1) c with
    | .inl b => some (a, b)
    | .inr c' => nthA P n f (a + 1) c'
def exB (P : Nat → Prop) (i : Nat) : Prop := ∃ j, j < i ∧ P j
theorem exB_0 (P : Nat → Prop) : ¬ exB P 0 := fun ⟨j, h, _⟩ => by omega
theorem exB_s (P : Nat → Prop) (i : Nat) : exB P (i + 1) ↔ exB P i ∨ P i := by
  constructor
  · rintro ⟨j, h1, h2⟩
    by_cases e : j = i
    · subst e; exact Or.inr h2
    · exact Or.inl ⟨j, by omega, h2⟩
  · rintro (⟨j, h1, h2⟩ | h)
    · exact ⟨j, by omega, h2⟩
    · exact ⟨i, by omega, h⟩
def oR : Option Nat → Int32
  | none => -1
  | some i => nI i
def oP (w : Nat) : Option (Nat × Nat) → Int32
  | none => -1
  | some q => if w = 0 then nI q.1 else nI q.2
theorem nm_dec {c : Nat} (h : ¬ c = 0) : nI c + Int32.ofInt (-1) = nI (c - 1) := by
  obtain ⟨k, rfl⟩ : ∃ k, c = k + 1 := ⟨c - 1, by omega⟩
  rw [← nI_add, Nat.add_sub_cancel, Int32.add_assoc, show nI 1 + Int32.ofInt (-1) = 0 from rfl, Int32.add_zero]
theorem cF_congr {P Q : Nat → Prop} {n : Nat} : ∀ f i, i + f ≤ n → (∀ j, j < n → (P j ↔ Q j)) → cF P f i = cF Q f i
  | 0, _, _, _ => rfl
  | f + 1, i, hi, h => by
    unfold cF
    rw [cF_congr f (i + 1) (by omega) h]
    by_cases q : P i
    · rw [if_pos q, if_pos ((h i (by omega)).mp q)]
    · rw [if_neg q, if_neg (fun z => q ((h i (by omega)).mpr z))]
theorem nthF_congr {P Q : Nat → Prop} {n : Nat} : ∀ f i c, i + f ≤ n → (∀ j, j < n → (P j ↔ Q j)) → nthF P f i c = nthF Q f i c
  | 0, _, _, _, _ => rfl
  | f + 1, i, c, hi, h => by
    unfold nthF
    rw [nthF_congr f (i + 1) _ (by omega) h, nthF_congr f (i + 1) _ (by omega) h]
    by_cases q : P i
    · rw [if_pos q, if_pos ((h i (by omega)).mp q)]
    · rw [if_neg q, if_neg (fun z => q ((h i (by omega)).mpr z))]
theorem nthB_congr {P Q : Nat → Prop} {n : Nat} : ∀ f i c, i + f ≤ n → (∀ j, j < n → i ≤ j → (P j ↔ Q j)) → nthB P f i c = nthB Q f i c
  | 0, _, _, _, _ => rfl
  | f + 1, i, c, hi, h => by
    unfold nthB
    rw [nthB_congr f (i + 1) _ (by omega) (fun j a b => h j a (by omega)), nthB_congr f (i + 1) _ (by omega) (fun j a b => h j a (by omega))]
    by_cases q : P i
    · rw [if_pos q, if_pos ((h i (by omega) (by omega)).mp q)]
    · rw [if_neg q, if_neg (fun z => q ((h i (by omega) (by omega)).mpr z))]
theorem nthA_congr {P Q : Nat → Nat → Prop} {n : Nat} : ∀ f a c, a + f ≤ n → (∀ i j, i < n → j < n → i < j → (P i j ↔ Q i j)) → nthA P n f a c = nthA Q n f a c
  | 0, _, _, _, _ => rfl
  | f + 1, a, c, hi, h => by
    unfold nthA
    rw [nthB_congr (n := n) (n - (a + 1)) (a + 1) c (by omega) (fun j x y => h a j (by omega) x (by omega))]
    split
    · rfl
    · exact nthA_congr f (a + 1) _ (by omega) h
section
variable {nx : Nat} {ct : Nat → Nat × Nat} {mi : Nat → Nat → Int32} {ml : Nat → Nat → Int64} {mr : Nat → Nat → Option Nat}
theorem sp_Mo_rank {n k : Nat} (hL : LAY nx ct mr) (hn : mi 398 7 = nI n) (hn2 : n ≤ 60) (hk : k < n) : rx_Calls y_Mo_rank M_Mo_rank 1 0 0 [.ref 398, .int (nI k)] (nx, ct, mi, ml, mr) (fun v τ => v = some (.int (nI (cF (fun i => aheadM (ml 404) i k) n 0))) ∧ τ = (nx, ct, rx_u mi 398 0 0, ml, mr)) := by
  refine rx_enter (by decide) rfl rfl (Nat.le_of_ble_eq_true rfl) ?_
  have hn' : rx_u mi 398 0 0 398 7 = nI n := by rw [rx_u_k _ _ (by decide)]; exact hn
  have loop : ∀ f i c, i ≤ n → f = n - i → rx_W M_Mo_rank 1 0 0 21 [(0, .ref 398), (1, .int (nI k)), (2, .int (nI c)), (3, .int (nI i))] [] (nx, ct, rx_u mi 398 0 0, ml, mr) (pR (fun v τ => v = some (.int (nI (c + cF (fun i => aheadM (ml 404) i k) f i))) ∧ τ = (nx, ct, rx_u mi 398 0 0, ml, mr))) := by
    intro f
    induction f with
    | zero =>
      intro i c hi hf
      refine ru_aload_n d_Mo_rank_21 rfl rfl ?_
      refine ru_getI d_Mo_rank_22 lf_Mo_39 (ly hL 398 9 0) rfl ?_
      rw [rx_u_same]
      refine ru_if_ne (tgt := 59) d_Mo_rank_25 (by decide) (fun h25 => absurd h25 (by decide)) (fun h25 => ?_)
      refine ru_iload_n d_Mo_rank_28 rfl rfl ?_
      refine ru_aload_n d_Mo_rank_29 rfl rfl ?_
      refine ru_getI d_Mo_rank_30 lf_Mo_189 (ly hL 398 9 0) rfl ?_
      rw [rx_u_k _ _ (by decide)]
      refine ru_eqi hn ?_
      refine ru_icmp_ge (tgt := 59) d_Mo_rank_33 (by decide) (fun h33 => ?_) (fun h33 => absurd (nI_le (by omega) (by omega)) h33)
      replace h33 := nm_le (a := n) (b := i) (by omega) (by omega) h33
      refine ru_iload_n d_Mo_rank_59 rfl rfl ?_
      refine ru_iret d_Mo_rank_60 rfl ?_
      exact ⟨rfl, rfl⟩
    | succ f ih =>
      intro i c hi hf
      unfold cF
      refine ru_aload_n d_Mo_rank_21 rfl rfl ?_
      refine ru_getI d_Mo_rank_22 lf_Mo_39 (ly hL 398 9 0) rfl ?_
      rw [rx_u_same]
      refine ru_if_ne (tgt := 59) d_Mo_rank_25 (by decide) (fun h25 => absurd h25 (by decide)) (fun h25 => ?_)
      refine ru_iload_n d_Mo_rank_28 rfl rfl ?_
      refine ru_aload_n d_Mo_rank_29 rfl rfl ?_
      refine ru_getI d_Mo_rank_30 lf_Mo_189 (ly hL 398 9 0) rfl ?_
      rw [rx_u_k _ _ (by decide)]
      refine ru_eqi hn ?_
      refine ru_icmp_ge (tgt := 59) d_Mo_rank_33 (by decide) (fun h33 => absurd h33 (nI_ge (by omega) (by omega))) (fun h33 => ?_)
      replace h33 := nm_nle (a := n) (b := i) (by omega) (by omega) h33
      refine ru_iload_n d_Mo_rank_36 rfl rfl ?_
      refine ru_aload_n d_Mo_rank_37 rfl rfl ?_
      refine ru_iload_n d_Mo_rank_38 rfl rfl ?_
      refine ru_iload_n d_Mo_rank_39 rfl rfl ?_
      refine ru_callV (mc := 0) (ms := 0) d_Mo_rank_40 lm_Mo_197 (sp_Mo_isAhead hL (by omega) (by omega)) (rx_recv_is (ly hL 398 9 0) kx_Mo) (by decide) rfl (Nat.le_of_ble_eq_true rfl) ?_
      intro v τ h
      obtain ⟨rfl, rfl⟩ := h
      refine ru_if_eq (tgt := 50) d_Mo_rank_43 (by decide) (fun h43 => ?_) (fun h43 => ?_)
      · skip
        replace h43 := bI_eq0.mp h43
        refine ru_iconst (v := 0) d_Mo_rank_50 (by decide) ?_
        refine ru_iadd d_Mo_rank_51 ?_
        refine ru_eqi (nm_add c 0 : _ = nI (c + 0)) ?_
        refine ru_istore_n d_Mo_rank_52 rfl (by decide) ?_
        refine ru_iinc (v := nI (i + 1)) d_Mo_rank_53 rfl (nm_inc _ 1) (by decide) ?_
        refine ru_goto (tgt := 21) d_Mo_rank_56 (by decide) ?_
        first | rw [if_pos h43] | rw [if_neg h43]
        rw [← Nat.add_assoc]
        exact ru_to (ih (i + 1) _ (by omega) (by omega)) ⟨rfl, rfl, rfl, rfl, trivial⟩
      · skip
        replace h43 := bI_ne0.mp h43
        refine ru_iconst (v := 1) d_Mo_rank_46 (by decide) ?_
        refine ru_goto (tgt := 51) d_Mo_rank_47 (by decide) ?_
        refine ru_iadd d_Mo_rank_51 ?_
        refine ru_eqi (nm_add c 1 : _ = nI (c + 1)) ?_
        refine ru_istore_n d_Mo_rank_52 rfl (by decide) ?_
        refine ru_iinc (v := nI (i + 1)) d_Mo_rank_53 rfl (nm_inc _ 1) (by decide) ?_
        refine ru_goto (tgt := 21) d_Mo_rank_56 (by decide) ?_
        first | rw [if_pos h43] | rw [if_neg h43]
        rw [← Nat.add_assoc]
        exact ru_to (ih (i + 1) _ (by omega) (by omega)) ⟨rfl, rfl, rfl, rfl, trivial⟩
  refine ru_aload_n d_Mo_rank_0 rfl rfl ?_
  refine ru_aload_n d_Mo_rank_1 rfl rfl ?_
  refine ru_iload_n d_Mo_rank_2 rfl rfl ?_
  refine ru_callV (mc := 0) (ms := 0) d_Mo_rank_3 lm_Mo_192 (sp_Mo_isRuleN hL hn hn2 (by omega)) (rx_recv_is (ly hL 398 9 0) kx_Mo) (by decide) rfl (Nat.le_of_ble_eq_true rfl) ?_
  intro v τ h
  obtain ⟨rfl, rfl⟩ := h
  refine ru_if_eq (tgt := 13) d_Mo_rank_6 (by decide) (fun h6 => absurd h6 (bI_ne0.mpr hk)) (fun h6 => ?_)
  replace h6 := bI_ne0.mp h6
  refine ru_iconst (v := 0) d_Mo_rank_9 (by decide) ?_
  refine ru_goto (tgt := 14) d_Mo_rank_10 (by decide) ?_
  refine ru_putI d_Mo_rank_14 lf_Mo_39 (ly hL 398 9 0) rfl (fun q hq => by cases hq; exact Or.inl rfl) ⟨rfl, rfl⟩ ?_
  refine ru_iconst (v := 0) d_Mo_rank_17 (by decide) ?_
  refine ru_istore_n d_Mo_rank_18 rfl (by decide) ?_
  refine ru_iconst (v := 0) d_Mo_rank_19 (by decide) ?_
  refine ru_istore_n d_Mo_rank_20 rfl (by decide) ?_
  have z := loop n 0 0 (by omega) rfl
  rw [Nat.zero_add] at z
  exact ru_to z ⟨rfl, rfl, rfl, rfl, trivial⟩
theorem sp_Mo_rank0 {n : Nat} {k : Int32} (hL : LAY nx ct mr) (hn : mi 398 7 = nI n) (hn2 : n ≤ 60) (hk : ¬ (0 ≤ k.toInt ∧ k.toInt < n)) : rx_Calls y_Mo_rank M_Mo_rank 1 0 0 [.ref 398, .int k] (nx, ct, mi, ml, mr) (fun v τ => v = some (.int 0) ∧ τ = (nx, ct, rx_u mi 398 0 1, ml, mr)) := by
  refine rx_enter (by decide) rfl rfl (Nat.le_of_ble_eq_true rfl) ?_
  refine ru_aload_n d_Mo_rank_0 rfl rfl ?_
  refine ru_aload_n d_Mo_rank_1 rfl rfl ?_
  refine ru_iload_n d_Mo_rank_2 rfl rfl ?_
  refine ru_callV (mc := 0) (ms := 0) d_Mo_rank_3 lm_Mo_192 (sp_Mo_isRule hL k hn hn2) (rx_recv_is (ly hL 398 9 0) kx_Mo) (by decide) rfl (Nat.le_of_ble_eq_true rfl) ?_
  intro v τ h
  obtain ⟨rfl, rfl⟩ := h
  refine ru_if_eq (tgt := 13) d_Mo_rank_6 (by decide) (fun h6 => ?_) (fun h6 => ?_)
  · skip
    replace h6 := bI_eq0.mp h6
    refine ru_iconst (v := 1) d_Mo_rank_13 (by decide) ?_
    refine ru_putI d_Mo_rank_14 lf_Mo_39 (ly hL 398 9 0) rfl (fun q hq => by cases hq; exact Or.inl rfl) ⟨rfl, rfl⟩ ?_
    refine ru_iconst (v := 0) d_Mo_rank_17 (by decide) ?_
    refine ru_istore_n d_Mo_rank_18 rfl (by decide) ?_
    refine ru_iconst (v := 0) d_Mo_rank_19 (by decide) ?_
    refine ru_istore_n d_Mo_rank_20 rfl (by decide) ?_
    refine ru_aload_n d_Mo_rank_21 rfl rfl ?_
    refine ru_getI d_Mo_rank_22 lf_Mo_39 (ly hL 398 9 0) rfl ?_
    rw [rx_u_same]
    refine ru_if_ne (tgt := 59) d_Mo_rank_25 (by decide) (fun h25 => ?_) (fun h25 => absurd h25 (by decide))
    refine ru_iload_n d_Mo_rank_59 rfl rfl ?_
    refine ru_iret d_Mo_rank_60 rfl ?_
    exact ⟨rfl, rfl⟩
  · skip
    replace h6 := bI_ne0.mp h6
    exact absurd h6 hk
def beatM (S : Nat → Int32) (Q R : Nat → Int64) (z : Nat → Int32) (n r : Nat) : Prop := exB (fun q => aheadM R q r ∧ coversM S Q R (z q) (z r) q r) n
theorem sp_Mo_never {n K : Nat} {z : Nat → Int32} (hL : LAY nx ct mr) (hn : mi 398 7 = nI n) (hn2 : n ≤ 60) (hK : K < 2 ^ 31) (hz : ∀ k, k < n → ml 404 (12 * k + 6) = (z k).toInt64 ∧ isArea (z k)) : rx_Calls y_Mo_never M_Mo_never 2 0 0 [.ref 398, .int (nI K)] (nx, ct, mi, ml, mr) (fun v τ => v = some (.int (oR (nthF (beatM (mi 402) (ml 403) (ml 404) z n) n 0 K))) ∧ τ = (nx, ct, rx_u mi 398 0 0, ml, mr)) := by
  refine rx_enter (by decide) rfl rfl (Nat.le_of_ble_eq_true rfl) ?_
  have hn' : rx_u mi 398 0 0 398 7 = nI n := by rw [rx_u_k _ _ (by decide)]; exact hn
  have hS : rx_u mi 398 0 0 402 = mi 402 := rx_u_r _ _ (by decide)
  generalize hm : rx_u mi 398 0 0 = m1 at hn' hS ⊢
  have inner : ∀ (post : rx_End) (r c : Nat), r < n → (∀ g : Int32, g = bI (beatM (mi 402) (ml 403) (ml 404) z n r) → rx_W M_Mo_never 2 0 0 74 [(0, .ref 398), (1, .int (nI K)), (2, .int (nI c)), (3, .int (nI r)), (4, .int g)] [] (nx, ct, m1, ml, mr) post) → ∀ f i, i ≤ n → f = n - i → rx_W M_Mo_never 2 0 0 27 [(0, .ref 398), (1, .int (nI K)), (2, .int (nI c)), (3, .int (nI r)), (4, .int (bI (exB (fun q => aheadM (ml 404) q r ∧ coversM (mi 402) (ml 403) (ml 404) (z q) (z r) q r) i))), (5, .int (nI i))] [] (nx, ct, m1, ml, mr) post := by
    intro post r c hr hk f
    induction f with
    | zero =>
      intro i hi hf
      have hi2 : i = n := by omega
      subst hi2
      refine ru_iload d_Mo_never_27 rfl ?_
      refine ru_aload_n d_Mo_never_29 rfl rfl ?_
      refine ru_getI d_Mo_never_30 lf_Mo_189 (ly hL 398 9 0) rfl ?_
      refine ru_eqi hn' ?_
      refine ru_icmp_ge (tgt := 74) d_Mo_never_33 (by decide) (fun h33 => ?_) (fun h33 => absurd (nI_le (by omega) (by omega)) h33)
      replace h33 := nm_le (a := i) (b := i) (by omega) (by omega) h33
      exact ru_to (hk _ rfl) ⟨rfl, rfl, rfl, rfl, rfl, trivial⟩
    | succ f ih =>
      intro i hi hf
      have e := exB_s (fun q => aheadM (ml 404) q r ∧ coversM (mi 402) (ml 403) (ml 404) (z q) (z r) q r) i
      have ih' := ih (i + 1) (by omega) (by omega)
      refine ru_iload d_Mo_never_27 rfl ?_
      refine ru_aload_n d_Mo_never_29 rfl rfl ?_
      refine ru_getI d_Mo_never_30 lf_Mo_189 (ly hL 398 9 0) rfl ?_
      refine ru_eqi hn' ?_
      refine ru_icmp_ge (tgt := 74) d_Mo_never_33 (by decide) (fun h33 => absurd h33 (nI_ge (by omega) (by omega))) (fun h33 => ?_)
      replace h33 := nm_nle (a := n) (b := i) (by omega) (by omega) h33
      refine ru_iload d_Mo_never_36 rfl ?_
      refine ru_if_ne (tgt := 61) d_Mo_never_38 (by decide) (fun h38 => ?_) (fun h38 => ?_)
      · skip
        replace h38 := bI_ne0.mp h38
        refine ru_iconst (v := 1) d_Mo_never_61 (by decide) ?_
        refine ru_goto (tgt := 66) d_Mo_never_62 (by decide) ?_
        refine ru_istore d_Mo_never_66 (by decide) ?_
        refine ru_iinc (v := nI (i + 1)) d_Mo_never_68 rfl (nm_inc _ 1) (by decide) ?_
        refine ru_goto (tgt := 27) d_Mo_never_71 (by decide) ?_
        first | rw [bI_t (e.mpr (Or.inl h38))] at ih' | rw [bI_t (e.mpr (Or.inr ⟨h48, h58⟩))] at ih' | rw [bI_f (fun q => (e.mp q).elim h38 (fun x => h48 x.1))] at ih' | rw [bI_f (fun q => (e.mp q).elim h38 (fun x => h58 x.2))] at ih'
        exact ru_to ih' ⟨rfl, rfl, rfl, rfl, rfl, rfl, trivial⟩
      · skip
        replace h38 := bI_eq0.mp h38
        refine ru_aload_n d_Mo_never_41 rfl rfl ?_
        refine ru_iload d_Mo_never_42 rfl ?_
        refine ru_iload_n d_Mo_never_44 rfl rfl ?_
        refine ru_callV (mc := 0) (ms := 0) d_Mo_never_45 lm_Mo_197 (sp_Mo_isAhead hL (by omega) (by omega)) (rx_recv_is (ly hL 398 9 0) kx_Mo) (by decide) rfl (Nat.le_of_ble_eq_true rfl) ?_
        intro v τ h
        obtain ⟨rfl, rfl⟩ := h
        refine ru_if_eq (tgt := 65) d_Mo_never_48 (by decide) (fun h48 => ?_) (fun h48 => ?_)
        · skip
          replace h48 := bI_eq0.mp h48
          refine ru_iconst (v := 0) d_Mo_never_65 (by decide) ?_
          refine ru_istore d_Mo_never_66 (by decide) ?_
          refine ru_iinc (v := nI (i + 1)) d_Mo_never_68 rfl (nm_inc _ 1) (by decide) ?_
          refine ru_goto (tgt := 27) d_Mo_never_71 (by decide) ?_
          first | rw [bI_t (e.mpr (Or.inl h38))] at ih' | rw [bI_t (e.mpr (Or.inr ⟨h48, h58⟩))] at ih' | rw [bI_f (fun q => (e.mp q).elim h38 (fun x => h48 x.1))] at ih' | rw [bI_f (fun q => (e.mp q).elim h38 (fun x => h58 x.2))] at ih'
          exact ru_to ih' ⟨rfl, rfl, rfl, rfl, rfl, rfl, trivial⟩
        · skip
          replace h48 := bI_ne0.mp h48
          refine ru_aload_n d_Mo_never_51 rfl rfl ?_
          refine ru_iload d_Mo_never_52 rfl ?_
          refine ru_iload_n d_Mo_never_54 rfl rfl ?_
          refine ru_callV (mc := 0) (ms := 0) d_Mo_never_55 lm_Mo_209 (sp_Mo_covers hL (by omega) (by omega) (hz i (by omega)).1 (hz r hr).1 (hz i (by omega)).2 (hz r hr).2) (rx_recv_is (ly hL 398 9 0) kx_Mo) (by decide) rfl (Nat.le_of_ble_eq_true rfl) ?_
          rw [hS]
          intro v τ h
          obtain ⟨rfl, rfl⟩ := h
          refine ru_if_eq (tgt := 65) d_Mo_never_58 (by decide) (fun h58 => ?_) (fun h58 => ?_)
          · skip
            replace h58 := bI_eq0.mp h58
            refine ru_iconst (v := 0) d_Mo_never_65 (by decide) ?_
            refine ru_istore d_Mo_never_66 (by decide) ?_
            refine ru_iinc (v := nI (i + 1)) d_Mo_never_68 rfl (nm_inc _ 1) (by decide) ?_
            refine ru_goto (tgt := 27) d_Mo_never_71 (by decide) ?_
            first | rw [bI_t (e.mpr (Or.inl h38))] at ih' | rw [bI_t (e.mpr (Or.inr ⟨h48, h58⟩))] at ih' | rw [bI_f (fun q => (e.mp q).elim h38 (fun x => h48 x.1))] at ih' | rw [bI_f (fun q => (e.mp q).elim h38 (fun x => h58 x.2))] at ih'
            exact ru_to ih' ⟨rfl, rfl, rfl, rfl, rfl, rfl, trivial⟩
          · skip
            replace h58 := bI_ne0.mp h58
            refine ru_iconst (v := 1) d_Mo_never_61 (by decide) ?_
            refine ru_goto (tgt := 66) d_Mo_never_62 (by decide) ?_
            refine ru_istore d_Mo_never_66 (by decide) ?_
            refine ru_iinc (v := nI (i + 1)) d_Mo_never_68 rfl (nm_inc _ 1) (by decide) ?_
            refine ru_goto (tgt := 27) d_Mo_never_71 (by decide) ?_
            first | rw [bI_t (e.mpr (Or.inl h38))] at ih' | rw [bI_t (e.mpr (Or.inr ⟨h48, h58⟩))] at ih' | rw [bI_f (fun q => (e.mp q).elim h38 (fun x => h48 x.1))] at ih' | rw [bI_f (fun q => (e.mp q).elim h38 (fun x => h58 x.2))] at ih'
            exact ru_to ih' ⟨rfl, rfl, rfl, rfl, rfl, rfl, trivial⟩
  have outer : ∀ f r c, r ≤ n → f = n - r → c < 2 ^ 31 → rx_W M_Mo_never 2 0 0 9 [(0, .ref 398), (1, .int (nI K)), (2, .int (nI c)), (3, .int (nI r))] [] (nx, ct, m1, ml, mr) (pR (fun v τ => v = some (.int (oR (nthF (beatM (mi 402) (ml 403) (ml 404) z n) f r c))) ∧ τ = (nx, ct, m1, ml, mr))) := by
    intro f
    induction f with
    | zero =>
      intro r c hr hf hc
      refine ru_iload_n d_Mo_never_9 rfl rfl ?_
      refine ru_aload_n d_Mo_never_10 rfl rfl ?_
      refine ru_getI d_Mo_never_11 lf_Mo_189 (ly hL 398 9 0) rfl ?_
      refine ru_eqi hn' ?_
      refine ru_icmp_ge (tgt := 97) d_Mo_never_14 (by decide) (fun h14 => ?_) (fun h14 => absurd (nI_le (by omega) (by omega)) h14)
      replace h14 := nm_le (a := n) (b := r) (by omega) (by omega) h14
      refine ru_iconst (v := (-1)) d_Mo_never_97 (by decide) ?_
      refine ru_iret d_Mo_never_98 rfl ?_
      exact ⟨rfl, rfl⟩
    | succ f ih =>
      intro r c hr hf hc
      unfold nthF
      refine ru_iload_n d_Mo_never_9 rfl rfl ?_
      refine ru_aload_n d_Mo_never_10 rfl rfl ?_
      refine ru_getI d_Mo_never_11 lf_Mo_189 (ly hL 398 9 0) rfl ?_
      refine ru_eqi hn' ?_
      refine ru_icmp_ge (tgt := 97) d_Mo_never_14 (by decide) (fun h14 => absurd h14 (nI_ge (by omega) (by omega))) (fun h14 => ?_)
      replace h14 := nm_nle (a := n) (b := r) (by omega) (by omega) h14
      refine ru_iload_n d_Mo_never_17 rfl rfl ?_
      refine ru_if_lt (tgt := 97) d_Mo_never_18 (by decide) (fun h18 => absurd h18 (nI_pos hK)) (fun h18 => ?_)
      replace h18 := nm_nlt (a := K) (b := 0) (by omega) (by omega) h18
      refine ru_iconst (v := 0) d_Mo_never_21 (by decide) ?_
      refine ru_istore d_Mo_never_22 (by decide) ?_
      refine ru_iconst (v := 0) d_Mo_never_24 (by decide) ?_
      refine ru_istore d_Mo_never_25 (by decide) ?_
      refine ru_to (inner _ r c (by omega) ?_ n 0 (by omega) rfl) ⟨rfl, rfl, rfl, rfl, by rw [bI_f (exB_0 _)]; rfl, rfl, trivial⟩
      intro g hg
      subst hg
      refine ru_iload d_Mo_never_74 rfl ?_
      refine ru_if_ne (tgt := 82) d_Mo_never_76 (by decide) (fun h76 => ?_) (fun h76 => ?_)
      · skip
        replace h76 := bI_ne0.mp h76
        refine ru_iload_n d_Mo_never_82 rfl rfl ?_
        refine ru_if_ne (tgt := 88) d_Mo_never_83 (by decide) (fun h83 => ?_) (fun h83 => ?_)
        · skip
          replace h83 := nm_ne (a := c) (b := 0) (by omega) (by omega) h83
          refine ru_iinc (v := nI (c - 1)) d_Mo_never_88 rfl (nm_dec h83) (by decide) ?_
          refine ru_iinc (v := nI (r + 1)) d_Mo_never_91 rfl (nm_inc _ 1) (by decide) ?_
          refine ru_goto (tgt := 9) d_Mo_never_94 (by decide) ?_
          first | rw [if_neg h76] | rw [if_pos h76, if_neg h83]
          exact ru_to (ih (r + 1) _ (by omega) (by omega) (by omega)) ⟨rfl, rfl, rfl, rfl, trivial⟩
        · skip
          replace h83 := nm_eq (a := c) (b := 0) (by omega) (by omega) h83
          refine ru_iload_n d_Mo_never_86 rfl rfl ?_
          refine ru_iret d_Mo_never_87 rfl ?_
          rw [if_pos h76, if_pos h83]
          exact ⟨rfl, rfl⟩
      · skip
        replace h76 := bI_eq0.mp h76
        refine ru_goto (tgt := 91) d_Mo_never_79 (by decide) ?_
        refine ru_iinc (v := nI (r + 1)) d_Mo_never_91 rfl (nm_inc _ 1) (by decide) ?_
        refine ru_goto (tgt := 9) d_Mo_never_94 (by decide) ?_
        first | rw [if_neg h76] | rw [if_pos h76, if_neg h83]
        exact ru_to (ih (r + 1) _ (by omega) (by omega) (by omega)) ⟨rfl, rfl, rfl, rfl, trivial⟩
  refine ru_aload_n d_Mo_never_0 rfl rfl ?_
  refine ru_iconst (v := 0) d_Mo_never_1 (by decide) ?_
  refine ru_putI d_Mo_never_2 lf_Mo_39 (ly hL 398 9 0) rfl (fun q hq => by cases hq; exact Or.inl rfl) ⟨rfl, rfl⟩ ?_
  rw [hm]
  refine ru_iload_n d_Mo_never_5 rfl rfl ?_
  refine ru_istore_n d_Mo_never_6 rfl (by decide) ?_
  refine ru_iconst (v := 0) d_Mo_never_7 (by decide) ?_
  refine ru_istore_n d_Mo_never_8 rfl (by decide) ?_
  exact ru_to (outer n 0 K (by omega) rfl hK) ⟨rfl, rfl, rfl, rfl, trivial⟩
theorem sp_Mo_never0 {n : Nat} {k : Int32} (hL : LAY nx ct mr) (hn : mi 398 7 = nI n) (hk : k < 0) : rx_Calls y_Mo_never M_Mo_never 2 0 0 [.ref 398, .int k] (nx, ct, mi, ml, mr) (fun v τ => v = some (.int (-1)) ∧ τ = (nx, ct, rx_u mi 398 0 0, ml, mr)) := by
  refine rx_enter (by decide) rfl rfl (Nat.le_of_ble_eq_true rfl) ?_
  refine ru_aload_n d_Mo_never_0 rfl rfl ?_
  refine ru_iconst (v := 0) d_Mo_never_1 (by decide) ?_
  refine ru_putI d_Mo_never_2 lf_Mo_39 (ly hL 398 9 0) rfl (fun q hq => by cases hq; exact Or.inl rfl) ⟨rfl, rfl⟩ ?_
  refine ru_iload_n d_Mo_never_5 rfl rfl ?_
  refine ru_istore_n d_Mo_never_6 rfl (by decide) ?_
  refine ru_iconst (v := 0) d_Mo_never_7 (by decide) ?_
  refine ru_istore_n d_Mo_never_8 rfl (by decide) ?_
  refine ru_iload_n d_Mo_never_9 rfl rfl ?_
  refine ru_aload_n d_Mo_never_10 rfl rfl ?_
  refine ru_getI d_Mo_never_11 lf_Mo_189 (ly hL 398 9 0) rfl ?_
  rw [rx_u_k _ _ (by decide)]
  refine ru_icmp_ge (tgt := 97) d_Mo_never_14 (by decide) (fun h14 => ?_) (fun h14 => ?_)
  · skip
    refine ru_iconst (v := (-1)) d_Mo_never_97 (by decide) ?_
    refine ru_iret d_Mo_never_98 rfl ?_
    exact ⟨rfl, rfl⟩
  · skip
    refine ru_iload_n d_Mo_never_17 rfl rfl ?_
    refine ru_if_lt (tgt := 97) d_Mo_never_18 (by decide) (fun h18 => ?_) (fun h18 => absurd hk h18)
    refine ru_iconst (v := (-1)) d_Mo_never_97 (by decide) ?_
    refine ru_iret d_Mo_never_98 rfl ?_
    exact ⟨rfl, rfl⟩
theorem sp_Mo_clash0 {n : Nat} {k w : Int32} (hL : LAY nx ct mr) (hn : mi 398 7 = nI n) (hw : ¬ (w = 0 ∨ w = 1)) : rx_Calls y_Mo_clash M_Mo_clash 3 0 0 [.ref 398, .int k, .int w] (nx, ct, mi, ml, mr) (fun v τ => v = some (.int 0) ∧ τ = (nx, ct, rx_u mi 398 0 1, ml, mr)) := by
  refine rx_enter (by decide) rfl rfl (Nat.le_of_ble_eq_true rfl) ?_
  refine ru_aload_n d_Mo_clash_0 rfl rfl ?_
  refine ru_iload_n d_Mo_clash_1 rfl rfl ?_
  refine ru_if_eq (tgt := 10) d_Mo_clash_2 (by decide) (fun h2 => ?_) (fun h2 => ?_)
  · skip
    exfalso; grind
  · skip
    refine ru_iload_n d_Mo_clash_5 rfl rfl ?_
    refine ru_iconst (v := 1) d_Mo_clash_6 (by decide) ?_
    refine ru_icmp_ne (tgt := 14) d_Mo_clash_7 (by decide) (fun h7 => ?_) (fun h7 => ?_)
    · skip
      refine ru_iconst (v := 1) d_Mo_clash_14 (by decide) ?_
      refine ru_putI d_Mo_clash_15 lf_Mo_39 (ly hL 398 9 0) rfl (fun q hq => by cases hq; exact Or.inl rfl) ⟨rfl, rfl⟩ ?_
      refine ru_iload_n d_Mo_clash_18 rfl rfl ?_
      refine ru_istore_n d_Mo_clash_19 rfl (by decide) ?_
      refine ru_iconst (v := 0) d_Mo_clash_20 (by decide) ?_
      refine ru_istore d_Mo_clash_21 (by decide) ?_
      refine ru_iload d_Mo_clash_23 rfl ?_
      refine ru_aload_n d_Mo_clash_25 rfl rfl ?_
      refine ru_getI d_Mo_clash_26 lf_Mo_189 (ly hL 398 9 0) rfl ?_
      rw [rx_u_k _ _ (by decide)]
      refine ru_icmp_ge (tgt := 103) d_Mo_clash_29 (by decide) (fun h29 => ?_) (fun h29 => ?_)
      · skip
        refine ru_aload_n d_Mo_clash_103 rfl rfl ?_
        refine ru_getI d_Mo_clash_104 lf_Mo_39 (ly hL 398 9 0) rfl ?_
        rw [rx_u_same]
        refine ru_if_ne (tgt := 114) d_Mo_clash_107 (by decide) (fun h107 => ?_) (fun h107 => absurd h107 (by decide))
        refine ru_iconst (v := 0) d_Mo_clash_114 (by decide) ?_
        refine ru_iret d_Mo_clash_115 rfl ?_
        exact ⟨rfl, rfl⟩
      · skip
        refine ru_iload_n d_Mo_clash_32 rfl rfl ?_
        refine ru_if_lt (tgt := 103) d_Mo_clash_33 (by decide) (fun h33 => ?_) (fun h33 => ?_)
        · skip
          refine ru_aload_n d_Mo_clash_103 rfl rfl ?_
          refine ru_getI d_Mo_clash_104 lf_Mo_39 (ly hL 398 9 0) rfl ?_
          rw [rx_u_same]
          refine ru_if_ne (tgt := 114) d_Mo_clash_107 (by decide) (fun h107 => ?_) (fun h107 => absurd h107 (by decide))
          refine ru_iconst (v := 0) d_Mo_clash_114 (by decide) ?_
          refine ru_iret d_Mo_clash_115 rfl ?_
          exact ⟨rfl, rfl⟩
        · skip
          refine ru_aload_n d_Mo_clash_36 rfl rfl ?_
          refine ru_getI d_Mo_clash_37 lf_Mo_39 (ly hL 398 9 0) rfl ?_
          rw [rx_u_same]
          refine ru_if_ne (tgt := 103) d_Mo_clash_40 (by decide) (fun h40 => ?_) (fun h40 => absurd h40 (by decide))
          refine ru_aload_n d_Mo_clash_103 rfl rfl ?_
          refine ru_getI d_Mo_clash_104 lf_Mo_39 (ly hL 398 9 0) rfl ?_
          rw [rx_u_same]
          refine ru_if_ne (tgt := 114) d_Mo_clash_107 (by decide) (fun h107 => ?_) (fun h107 => absurd h107 (by decide))
          refine ru_iconst (v := 0) d_Mo_clash_114 (by decide) ?_
          refine ru_iret d_Mo_clash_115 rfl ?_
          exact ⟨rfl, rfl⟩
    · skip
      exfalso; grind
theorem sp_Mo_clashN {n w : Nat} {k : Int32} (hL : LAY nx ct mr) (hn : mi 398 7 = nI n) (hk : k < 0) (hw : w < 2) : rx_Calls y_Mo_clash M_Mo_clash 3 0 0 [.ref 398, .int k, .int (nI w)] (nx, ct, mi, ml, mr) (fun v τ => v = some (.int (-1)) ∧ τ = (nx, ct, rx_u mi 398 0 0, ml, mr)) := by
  refine rx_enter (by decide) rfl rfl (Nat.le_of_ble_eq_true rfl) ?_
  refine ru_aload_n d_Mo_clash_0 rfl rfl ?_
  refine ru_iload_n d_Mo_clash_1 rfl rfl ?_
  refine ru_if_eq (tgt := 10) d_Mo_clash_2 (by decide) (fun h2 => ?_) (fun h2 => ?_)
  · skip
    replace h2 := nm_eq (a := w) (b := 0) (by omega) (by omega) h2
    refine ru_iconst (v := 0) d_Mo_clash_10 (by decide) ?_
    refine ru_goto (tgt := 15) d_Mo_clash_11 (by decide) ?_
    refine ru_putI d_Mo_clash_15 lf_Mo_39 (ly hL 398 9 0) rfl (fun q hq => by cases hq; exact Or.inl rfl) ⟨rfl, rfl⟩ ?_
    refine ru_iload_n d_Mo_clash_18 rfl rfl ?_
    refine ru_istore_n d_Mo_clash_19 rfl (by decide) ?_
    refine ru_iconst (v := 0) d_Mo_clash_20 (by decide) ?_
    refine ru_istore d_Mo_clash_21 (by decide) ?_
    refine ru_iload d_Mo_clash_23 rfl ?_
    refine ru_aload_n d_Mo_clash_25 rfl rfl ?_
    refine ru_getI d_Mo_clash_26 lf_Mo_189 (ly hL 398 9 0) rfl ?_
    rw [rx_u_k _ _ (by decide)]
    refine ru_icmp_ge (tgt := 103) d_Mo_clash_29 (by decide) (fun h29 => ?_) (fun h29 => ?_)
    · skip
      refine ru_aload_n d_Mo_clash_103 rfl rfl ?_
      refine ru_getI d_Mo_clash_104 lf_Mo_39 (ly hL 398 9 0) rfl ?_
      rw [rx_u_same]
      refine ru_if_ne (tgt := 114) d_Mo_clash_107 (by decide) (fun h107 => absurd h107 (by decide)) (fun h107 => ?_)
      refine ru_iconst (v := (-1)) d_Mo_clash_110 (by decide) ?_
      refine ru_goto (tgt := 115) d_Mo_clash_111 (by decide) ?_
      refine ru_iret d_Mo_clash_115 rfl ?_
      exact ⟨rfl, rfl⟩
    · skip
      refine ru_iload_n d_Mo_clash_32 rfl rfl ?_
      refine ru_if_lt (tgt := 103) d_Mo_clash_33 (by decide) (fun h33 => ?_) (fun h33 => absurd hk h33)
      refine ru_aload_n d_Mo_clash_103 rfl rfl ?_
      refine ru_getI d_Mo_clash_104 lf_Mo_39 (ly hL 398 9 0) rfl ?_
      rw [rx_u_same]
      refine ru_if_ne (tgt := 114) d_Mo_clash_107 (by decide) (fun h107 => absurd h107 (by decide)) (fun h107 => ?_)
      refine ru_iconst (v := (-1)) d_Mo_clash_110 (by decide) ?_
      refine ru_goto (tgt := 115) d_Mo_clash_111 (by decide) ?_
      refine ru_iret d_Mo_clash_115 rfl ?_
      exact ⟨rfl, rfl⟩
  · skip
    replace h2 := nm_ne (a := w) (b := 0) (by omega) (by omega) h2
    refine ru_iload_n d_Mo_clash_5 rfl rfl ?_
    refine ru_iconst (v := 1) d_Mo_clash_6 (by decide) ?_
    refine ru_icmp_ne (tgt := 14) d_Mo_clash_7 (by decide) (fun h7 => ?_) (fun h7 => ?_)
    · skip
      replace h7 := nm_ne (a := w) (b := 1) (by omega) (by omega) h7
      exfalso; omega
    · skip
      replace h7 := nm_eq (a := w) (b := 1) (by omega) (by omega) h7
      refine ru_iconst (v := 0) d_Mo_clash_10 (by decide) ?_
      refine ru_goto (tgt := 15) d_Mo_clash_11 (by decide) ?_
      refine ru_putI d_Mo_clash_15 lf_Mo_39 (ly hL 398 9 0) rfl (fun q hq => by cases hq; exact Or.inl rfl) ⟨rfl, rfl⟩ ?_
      refine ru_iload_n d_Mo_clash_18 rfl rfl ?_
      refine ru_istore_n d_Mo_clash_19 rfl (by decide) ?_
      refine ru_iconst (v := 0) d_Mo_clash_20 (by decide) ?_
      refine ru_istore d_Mo_clash_21 (by decide) ?_
      refine ru_iload d_Mo_clash_23 rfl ?_
      refine ru_aload_n d_Mo_clash_25 rfl rfl ?_
      refine ru_getI d_Mo_clash_26 lf_Mo_189 (ly hL 398 9 0) rfl ?_
      rw [rx_u_k _ _ (by decide)]
      refine ru_icmp_ge (tgt := 103) d_Mo_clash_29 (by decide) (fun h29 => ?_) (fun h29 => ?_)
      · skip
        refine ru_aload_n d_Mo_clash_103 rfl rfl ?_
        refine ru_getI d_Mo_clash_104 lf_Mo_39 (ly hL 398 9 0) rfl ?_
        rw [rx_u_same]
        refine ru_if_ne (tgt := 114) d_Mo_clash_107 (by decide) (fun h107 => absurd h107 (by decide)) (fun h107 => ?_)
        refine ru_iconst (v := (-1)) d_Mo_clash_110 (by decide) ?_
        refine ru_goto (tgt := 115) d_Mo_clash_111 (by decide) ?_
        refine ru_iret d_Mo_clash_115 rfl ?_
        exact ⟨rfl, rfl⟩
      · skip
        refine ru_iload_n d_Mo_clash_32 rfl rfl ?_
        refine ru_if_lt (tgt := 103) d_Mo_clash_33 (by decide) (fun h33 => ?_) (fun h33 => absurd hk h33)
        refine ru_aload_n d_Mo_clash_103 rfl rfl ?_
        refine ru_getI d_Mo_clash_104 lf_Mo_39 (ly hL 398 9 0) rfl ?_
        rw [rx_u_same]
        refine ru_if_ne (tgt := 114) d_Mo_clash_107 (by decide) (fun h107 => absurd h107 (by decide)) (fun h107 => ?_)
        refine ru_iconst (v := (-1)) d_Mo_clash_110 (by decide) ?_
        refine ru_goto (tgt := 115) d_Mo_clash_111 (by decide) ?_
        refine ru_iret d_Mo_clash_115 rfl ?_
        exact ⟨rfl, rfl⟩
theorem sp_Mo_clash {n K w : Nat} {z : Nat → Int32} (hL : LAY nx ct mr) (hn : mi 398 7 = nI n) (hn2 : n ≤ 60) (hK : K < 2 ^ 31) (hw : w < 2) (hz : ∀ k, k < n → ml 404 (12 * k + 6) = (z k).toInt64 ∧ isArea (z k)) : rx_Calls y_Mo_clash M_Mo_clash 3 0 0 [.ref 398, .int (nI K), .int (nI w)] (nx, ct, mi, ml, mr) (fun v τ => v = some (.int (oP w (nthA (fun a b => clashM (mi 402) (ml 403) (ml 404) (z a) (z b) a b) n n 0 K))) ∧ τ = (nx, ct, rx_u mi 398 0 0, ml, mr)) := by
  refine rx_enter (by decide) rfl rfl (Nat.le_of_ble_eq_true rfl) ?_
  have hn' : rx_u mi 398 0 0 398 7 = nI n := by rw [rx_u_k _ _ (by decide)]; exact hn
  have hS : rx_u mi 398 0 0 402 = mi 402 := rx_u_r _ _ (by decide)
  have h0 : rx_u mi 398 0 0 398 0 = 0 := rx_u_same _ _ _ _
  generalize hm : rx_u mi 398 0 0 = m1 at hn' hS h0 ⊢
  have inner : ∀ (post : Option Value → rx_S → Prop) (a : Nat), a < n → ∀ f i c, i ≤ n → a < i → f = n - i → c < 2 ^ 31 → (∀ c', c' < 2 ^ 31 → nthB (fun b => clashM (mi 402) (ml 403) (ml 404) (z a) (z b) a b) f i c = .inr c' → rx_W M_Mo_clash 3 0 0 97 [(0, .ref 398), (1, .int (nI K)), (2, .int (nI w)), (3, .int (nI c')), (4, .int (nI a))] [] (nx, ct, m1, ml, mr) (pR post)) →
      (∀ b, nthB (fun b => clashM (mi 402) (ml 403) (ml 404) (z a) (z b) a b) f i c = .inl b → post (some (.int (oP w (some (a, b))))) (nx, ct, m1, ml, mr)) → rx_W M_Mo_clash 3 0 0 49 [(0, .ref 398), (1, .int (nI K)), (2, .int (nI w)), (3, .int (nI c)), (4, .int (nI a)), (5, .int (nI i))] [] (nx, ct, m1, ml, mr) (pR post) := by
    intro post a ha f
    induction f with
    | zero =>
      intro i c hi hai hf hc h1 h2
      refine ru_iload d_Mo_clash_49 rfl ?_
      refine ru_aload_n d_Mo_clash_51 rfl rfl ?_
      refine ru_getI d_Mo_clash_52 lf_Mo_189 (ly hL 398 9 0) rfl ?_
      refine ru_eqi hn' ?_
      refine ru_icmp_ge (tgt := 97) d_Mo_clash_55 (by decide) (fun h55 => ?_) (fun h55 => absurd (nI_le (by omega) (by omega)) h55)
      replace h55 := nm_le (a := n) (b := i) (by omega) (by omega) h55
      exact ru_to (h1 c hc rfl) ⟨rfl, rfl, rfl, rfl, rfl, trivial⟩
    | succ f ih =>
      intro i c hi hai hf hc h1 h2
      unfold nthB at h1 h2
      refine ru_iload d_Mo_clash_49 rfl ?_
      refine ru_aload_n d_Mo_clash_51 rfl rfl ?_
      refine ru_getI d_Mo_clash_52 lf_Mo_189 (ly hL 398 9 0) rfl ?_
      refine ru_eqi hn' ?_
      refine ru_icmp_ge (tgt := 97) d_Mo_clash_55 (by decide) (fun h55 => absurd h55 (nI_ge (by omega) (by omega))) (fun h55 => ?_)
      replace h55 := nm_nle (a := n) (b := i) (by omega) (by omega) h55
      refine ru_aload_n d_Mo_clash_58 rfl rfl ?_
      refine ru_iload d_Mo_clash_59 rfl ?_
      refine ru_iload d_Mo_clash_61 rfl ?_
      refine ru_callV (mc := 0) (ms := 0) d_Mo_clash_63 lm_Mo_212 (sp_Mo_isClash hL (by omega) (by omega) (hz a (by omega)).1 (hz i (by omega)).1 (hz a (by omega)).2 (hz i (by omega)).2) (rx_recv_is (ly hL 398 9 0) kx_Mo) (by decide) rfl (Nat.le_of_ble_eq_true rfl) ?_
      rw [hS]
      intro v τ h
      obtain ⟨rfl, rfl⟩ := h
      refine ru_if_ne (tgt := 72) d_Mo_clash_66 (by decide) (fun h66 => ?_) (fun h66 => ?_)
      · skip
        replace h66 := bI_ne0.mp h66
        refine ru_iload_n d_Mo_clash_72 rfl rfl ?_
        refine ru_if_ne (tgt := 88) d_Mo_clash_73 (by decide) (fun h73 => ?_) (fun h73 => ?_)
        · skip
          replace h73 := nm_ne (a := c) (b := 0) (by omega) (by omega) h73
          refine ru_iinc (v := nI (c - 1)) d_Mo_clash_88 rfl (nm_dec h73) (by decide) ?_
          refine ru_iinc (v := nI (i + 1)) d_Mo_clash_91 rfl (nm_inc _ 1) (by decide) ?_
          refine ru_goto (tgt := 49) d_Mo_clash_94 (by decide) ?_
          first | rw [if_neg h66] at h1 h2 | rw [if_pos h66, if_neg h73] at h1 h2
          exact ru_to (ih (i + 1) _ (by omega) (by omega) (by omega) (by omega) h1 h2) ⟨rfl, rfl, rfl, rfl, rfl, rfl, trivial⟩
        · skip
          replace h73 := nm_eq (a := c) (b := 0) (by omega) (by omega) h73
          refine ru_iload_n d_Mo_clash_76 rfl rfl ?_
          refine ru_if_ne (tgt := 85) d_Mo_clash_77 (by decide) (fun h77 => ?_) (fun h77 => ?_)
          · skip
            replace h77 := nm_ne (a := w) (b := 0) (by omega) (by omega) h77
            refine ru_iload d_Mo_clash_85 rfl ?_
            refine ru_iret d_Mo_clash_87 rfl ?_
            rw [if_pos h66, if_pos h73] at h2
            have q := h2 i rfl
            simp only [oP] at q
            first | (rw [if_pos h77] at q; exact q) | (rw [if_neg h77] at q; exact q)
          · skip
            replace h77 := nm_eq (a := w) (b := 0) (by omega) (by omega) h77
            refine ru_iload d_Mo_clash_80 rfl ?_
            refine ru_goto (tgt := 87) d_Mo_clash_82 (by decide) ?_
            refine ru_iret d_Mo_clash_87 rfl ?_
            rw [if_pos h66, if_pos h73] at h2
            have q := h2 i rfl
            simp only [oP] at q
            first | (rw [if_pos h77] at q; exact q) | (rw [if_neg h77] at q; exact q)
      · skip
        replace h66 := bI_eq0.mp h66
        refine ru_goto (tgt := 91) d_Mo_clash_69 (by decide) ?_
        refine ru_iinc (v := nI (i + 1)) d_Mo_clash_91 rfl (nm_inc _ 1) (by decide) ?_
        refine ru_goto (tgt := 49) d_Mo_clash_94 (by decide) ?_
        first | rw [if_neg h66] at h1 h2 | rw [if_pos h66, if_neg h73] at h1 h2
        exact ru_to (ih (i + 1) _ (by omega) (by omega) (by omega) (by omega) h1 h2) ⟨rfl, rfl, rfl, rfl, rfl, rfl, trivial⟩
  have outer : ∀ f a c, a ≤ n → f = n - a → c < 2 ^ 31 → rx_W M_Mo_clash 3 0 0 23 [(0, .ref 398), (1, .int (nI K)), (2, .int (nI w)), (3, .int (nI c)), (4, .int (nI a))] [] (nx, ct, m1, ml, mr) (pR (fun v τ => v = some (.int (oP w (nthA (fun a b => clashM (mi 402) (ml 403) (ml 404) (z a) (z b) a b) n f a c))) ∧ τ = (nx, ct, m1, ml, mr))) := by
    intro f
    induction f with
    | zero =>
      intro a c ha hf hc
      refine ru_iload d_Mo_clash_23 rfl ?_
      refine ru_aload_n d_Mo_clash_25 rfl rfl ?_
      refine ru_getI d_Mo_clash_26 lf_Mo_189 (ly hL 398 9 0) rfl ?_
      refine ru_eqi hn' ?_
      refine ru_icmp_ge (tgt := 103) d_Mo_clash_29 (by decide) (fun h29 => ?_) (fun h29 => absurd (nI_le (by omega) (by omega)) h29)
      replace h29 := nm_le (a := n) (b := a) (by omega) (by omega) h29
      refine ru_aload_n d_Mo_clash_103 rfl rfl ?_
      refine ru_getI d_Mo_clash_104 lf_Mo_39 (ly hL 398 9 0) rfl ?_
      refine ru_eqi h0 ?_
      refine ru_if_ne (tgt := 114) d_Mo_clash_107 (by decide) (fun h107 => absurd h107 (by decide)) (fun h107 => ?_)
      refine ru_iconst (v := (-1)) d_Mo_clash_110 (by decide) ?_
      refine ru_goto (tgt := 115) d_Mo_clash_111 (by decide) ?_
      refine ru_iret d_Mo_clash_115 rfl ?_
      exact ⟨rfl, rfl⟩
    | succ f ih =>
      intro a c ha hf hc
      unfold nthA
      refine ru_iload d_Mo_clash_23 rfl ?_
      refine ru_aload_n d_Mo_clash_25 rfl rfl ?_
      refine ru_getI d_Mo_clash_26 lf_Mo_189 (ly hL 398 9 0) rfl ?_
      refine ru_eqi hn' ?_
      refine ru_icmp_ge (tgt := 103) d_Mo_clash_29 (by decide) (fun h29 => absurd h29 (nI_ge (by omega) (by omega))) (fun h29 => ?_)
      replace h29 := nm_nle (a := n) (b := a) (by omega) (by omega) h29
      refine ru_iload_n d_Mo_clash_32 rfl rfl ?_
      refine ru_if_lt (tgt := 103) d_Mo_clash_33 (by decide) (fun h33 => absurd h33 (nI_pos hK)) (fun h33 => ?_)
      replace h33 := nm_nlt (a := K) (b := 0) (by omega) (by omega) h33
      refine ru_aload_n d_Mo_clash_36 rfl rfl ?_
      refine ru_getI d_Mo_clash_37 lf_Mo_39 (ly hL 398 9 0) rfl ?_
      refine ru_eqi h0 ?_
      refine ru_if_ne (tgt := 103) d_Mo_clash_40 (by decide) (fun h40 => absurd h40 (by decide)) (fun h40 => ?_)
      refine ru_iload d_Mo_clash_43 rfl ?_
      refine ru_iconst (v := 1) d_Mo_clash_45 (by decide) ?_
      refine ru_iadd d_Mo_clash_46 ?_
      refine ru_eqi (nm_add a 1 : _ = nI (a + 1)) ?_
      refine ru_istore d_Mo_clash_47 (by decide) ?_
      refine ru_to (inner _ a (by omega) (n - (a + 1)) (a + 1) c (by omega) (by omega) rfl hc ?_ ?_) ⟨rfl, rfl, rfl, rfl, rfl, rfl, trivial⟩
      · intro c' hc' e
        rw [e]
        refine ru_iinc (v := nI (a + 1)) d_Mo_clash_97 rfl (nm_inc _ 1) (by decide) ?_
        refine ru_goto (tgt := 23) d_Mo_clash_100 (by decide) ?_
        exact ru_to (ih (a + 1) c' (by omega) (by omega) hc') ⟨rfl, rfl, rfl, rfl, rfl, trivial⟩
      · intro b e
        rw [e]
        exact ⟨rfl, rfl⟩
  refine ru_aload_n d_Mo_clash_0 rfl rfl ?_
  refine ru_iload_n d_Mo_clash_1 rfl rfl ?_
  refine ru_if_eq (tgt := 10) d_Mo_clash_2 (by decide) (fun h2 => ?_) (fun h2 => ?_)
  · skip
    replace h2 := nm_eq (a := w) (b := 0) (by omega) (by omega) h2
    refine ru_iconst (v := 0) d_Mo_clash_10 (by decide) ?_
    refine ru_goto (tgt := 15) d_Mo_clash_11 (by decide) ?_
    refine ru_putI d_Mo_clash_15 lf_Mo_39 (ly hL 398 9 0) rfl (fun q hq => by cases hq; exact Or.inl rfl) ⟨rfl, rfl⟩ ?_
    rw [hm]
    refine ru_iload_n d_Mo_clash_18 rfl rfl ?_
    refine ru_istore_n d_Mo_clash_19 rfl (by decide) ?_
    refine ru_iconst (v := 0) d_Mo_clash_20 (by decide) ?_
    refine ru_istore d_Mo_clash_21 (by decide) ?_
    exact ru_to (outer n 0 K (by omega) rfl hK) ⟨rfl, rfl, rfl, rfl, rfl, trivial⟩
  · skip
    replace h2 := nm_ne (a := w) (b := 0) (by omega) (by omega) h2
    refine ru_iload_n d_Mo_clash_5 rfl rfl ?_
    refine ru_iconst (v := 1) d_Mo_clash_6 (by decide) ?_
    refine ru_icmp_ne (tgt := 14) d_Mo_clash_7 (by decide) (fun h7 => ?_) (fun h7 => ?_)
    · skip
      replace h7 := nm_ne (a := w) (b := 1) (by omega) (by omega) h7
      exfalso; omega
    · skip
      replace h7 := nm_eq (a := w) (b := 1) (by omega) (by omega) h7
      refine ru_iconst (v := 0) d_Mo_clash_10 (by decide) ?_
      refine ru_goto (tgt := 15) d_Mo_clash_11 (by decide) ?_
      refine ru_putI d_Mo_clash_15 lf_Mo_39 (ly hL 398 9 0) rfl (fun q hq => by cases hq; exact Or.inl rfl) ⟨rfl, rfl⟩ ?_
      rw [hm]
      refine ru_iload_n d_Mo_clash_18 rfl rfl ?_
      refine ru_istore_n d_Mo_clash_19 rfl (by decide) ?_
      refine ru_iconst (v := 0) d_Mo_clash_20 (by decide) ?_
      refine ru_istore d_Mo_clash_21 (by decide) ?_
      exact ru_to (outer n 0 K (by omega) rfl hK) ⟨rfl, rfl, rfl, rfl, rfl, trivial⟩
end
/-- which kinds there are, as bits; how many bits there are -/
def seenF (κ : Nat → Nat) : Nat → Nat → Nat → Nat
  | 0, _, s => s
  | f + 1, i, s => seenF κ f (i + 1) (s ||| 2 ^ κ i)
def popF : Nat → Nat → Nat
  | 0, _ => 0
  | f + 1, s => s % 2 + popF f (s / 2)
theorem seenF_lt (κ : Nat → Nat) : ∀ f i s, (∀ j, i ≤ j → j < i + f → κ j < 13) → s < 8192 → seenF κ f i s < 8192
  | 0, _, _, _, h => h
  | f + 1, i, s, hk, h => seenF_lt κ f (i + 1) _ (fun j a b => hk j (by omega) (by omega)) (Nat.or_lt_two_pow (n := 13) h (Nat.pow_lt_pow_right (by decide) (hk i (by omega) (by omega))))
theorem seenF_congr {κ κ' : Nat → Nat} : ∀ f i s, (∀ j, i ≤ j → j < i + f → κ j = κ' j) → seenF κ f i s = seenF κ' f i s
  | 0, _, _, _ => rfl
  | f + 1, i, s, hk => by
    unfold seenF
    rw [hk i (by omega) (by omega)]
    exact seenF_congr f (i + 1) _ (fun j a b => hk j (by omega) (by omega))
theorem nm_or (a b : Nat) : nI a ||| nI b = nI (a ||| b) := by
  apply Int32.toBitVec_inj.mp
  show BitVec.ofNat 32 a ||| BitVec.ofNat 32 b = BitVec.ofNat 32 (a ||| b)
  exact (BitVec.ofNat_or).symm
theorem nm_bit : ∀ κ, κ < 13 → (1 : Int32) <<< (nI κ &&& 31) = nI (2 ^ κ) := by decide
theorem nm_half' : ∀ a, a < 128 → ∀ b, b < 64 → nI (64 * a + b) >>> ((1 : Int32) &&& 31) = nI ((64 * a + b) / 2) ∧ nI (64 * a + b) &&& 1 = nI ((64 * a + b) % 2) := by decide +kernel
theorem nm_half (s : Nat) (h : s < 8192) : nI s >>> ((1 : Int32) &&& 31) = nI (s / 2) ∧ nI s &&& 1 = nI (s % 2) := by
  have := nm_half' (s / 64) (by omega) (s % 64) (by omega)
  rwa [Nat.div_add_mod] at this
theorem popF_0 : ∀ f, popF f 0 = 0
  | 0 => rfl
  | f + 1 => by unfold popF; rw [Nat.zero_mod, Nat.zero_div, popF_0 f]
section
variable {nx : Nat} {ct : Nat → Nat × Nat} {mi : Nat → Nat → Int32} {ml : Nat → Nat → Int64} {mr : Nat → Nat → Option Nat}
theorem sp_Mo_kinds {n : Nat} {κ : Nat → Nat} (hL : LAY nx ct mr) (hn : mi 398 7 = nI n) (hn2 : n ≤ 60) (hκ : ∀ k, k < n → ml 404 (12 * k) = (nI (κ k)).toInt64 ∧ κ k < 13) : rx_Calls y_Mo_kinds M_Mo_kinds 0 0 0 [.ref 398] (nx, ct, mi, ml, mr) (fun v τ => v = some (.int (nI (popF 13 (seenF κ n 0 0)))) ∧ τ = (nx, ct, rx_u mi 398 0 0, ml, mr)) := by
  refine rx_enter (by decide) rfl rfl (Nat.le_of_ble_eq_true rfl) ?_
  have hn' : rx_u mi 398 0 0 398 7 = nI n := by rw [rx_u_k _ _ (by decide)]; exact hn
  generalize hm : rx_u mi 398 0 0 = m1 at hn' ⊢
  have pop : ∀ (post : Option Value → rx_S → Prop) f s c, s < 2 ^ f → s < 8192 → post (some (.int (nI (c + popF f s)))) (nx, ct, m1, ml, mr) → rx_W M_Mo_kinds 0 0 0 40 [(1, .int (nI s)), (2, .int (nI c))] [] (nx, ct, m1, ml, mr) (pR post) := by
    intro post f
    induction f with
    | zero =>
      intro s c h1 h2 hp
      have e : s = 0 := by omega
      subst e
      refine ru_iload_n d_Mo_kinds_40 rfl rfl ?_
      refine ru_if_eq (tgt := 57) d_Mo_kinds_41 (by decide) (fun h41 => ?_) (fun h41 => absurd h41 (by decide))
      refine ru_iload_n d_Mo_kinds_57 rfl rfl ?_
      refine ru_iret d_Mo_kinds_58 rfl ?_
      exact hp
    | succ f ih =>
      intro s c h1 h2 hp
      have e := nm_half s h2
      refine ru_iload_n d_Mo_kinds_40 rfl rfl ?_
      refine ru_if_eq (tgt := 57) d_Mo_kinds_41 (by decide) (fun h41 => ?_) (fun h41 => ?_)
      · skip
        replace h41 := nm_eq (a := s) (b := 0) (by omega) (by omega) h41
        refine ru_iload_n d_Mo_kinds_57 rfl rfl ?_
        refine ru_iret d_Mo_kinds_58 rfl ?_
        subst h41
        rw [popF_0] at hp
        exact hp
      · skip
        replace h41 := nm_ne (a := s) (b := 0) (by omega) (by omega) h41
        refine ru_iload_n d_Mo_kinds_44 rfl rfl ?_
        refine ru_iload_n d_Mo_kinds_45 rfl rfl ?_
        refine ru_iconst (v := 1) d_Mo_kinds_46 (by decide) ?_
        refine ru_iand d_Mo_kinds_47 ?_
        refine ru_eqi e.2 ?_
        refine ru_iadd d_Mo_kinds_48 ?_
        refine ru_eqi (nm_add c (s%2) : _ = nI (c + (s%2))) ?_
        refine ru_istore_n d_Mo_kinds_49 rfl (by decide) ?_
        refine ru_iload_n d_Mo_kinds_50 rfl rfl ?_
        refine ru_iconst (v := 1) d_Mo_kinds_51 (by decide) ?_
        refine ru_ishr d_Mo_kinds_52 ?_
        refine ru_eqi e.1 ?_
        refine ru_istore_n d_Mo_kinds_53 rfl (by decide) ?_
        refine ru_goto (tgt := 40) d_Mo_kinds_54 (by decide) ?_
        refine ru_to (ih (s / 2) (c + s % 2) (by rw [Nat.pow_succ] at h1; omega) (by omega) ?_) ⟨rfl, rfl, trivial⟩
        rw [Nat.add_assoc]
        exact hp
  have loop : ∀ f i s, i ≤ n → f = n - i → s < 8192 → rx_W M_Mo_kinds 0 0 0 9 [(0, .ref 398), (1, .int (nI s)), (2, .int (nI i))] [] (nx, ct, m1, ml, mr) (pR (fun v τ => v = some (.int (nI (popF 13 (seenF κ f i s)))) ∧ τ = (nx, ct, m1, ml, mr))) := by
    intro f
    induction f with
    | zero =>
      intro i s hi hf hs
      refine ru_iload_n d_Mo_kinds_9 rfl rfl ?_
      refine ru_aload_n d_Mo_kinds_10 rfl rfl ?_
      refine ru_getI d_Mo_kinds_11 lf_Mo_189 (ly hL 398 9 0) rfl ?_
      refine ru_eqi hn' ?_
      refine ru_icmp_ge (tgt := 38) d_Mo_kinds_14 (by decide) (fun h14 => ?_) (fun h14 => absurd (nI_le (by omega) (by omega)) h14)
      replace h14 := nm_le (a := n) (b := i) (by omega) (by omega) h14
      refine ru_iconst (v := 0) d_Mo_kinds_38 (by decide) ?_
      refine ru_istore_n d_Mo_kinds_39 rfl (by decide) ?_
      refine ru_to (pop _ 13 s 0 hs hs ?_) ⟨rfl, rfl, trivial⟩
      rw [Nat.zero_add]
      exact ⟨rfl, rfl⟩
    | succ f ih =>
      intro i s hi hf hs
      have hk := hκ i (by omega)
      unfold seenF
      refine ru_iload_n d_Mo_kinds_9 rfl rfl ?_
      refine ru_aload_n d_Mo_kinds_10 rfl rfl ?_
      refine ru_getI d_Mo_kinds_11 lf_Mo_189 (ly hL 398 9 0) rfl ?_
      refine ru_eqi hn' ?_
      refine ru_icmp_ge (tgt := 38) d_Mo_kinds_14 (by decide) (fun h14 => absurd h14 (nI_ge (by omega) (by omega))) (fun h14 => ?_)
      replace h14 := nm_nle (a := n) (b := i) (by omega) (by omega) h14
      refine ru_iload_n d_Mo_kinds_17 rfl rfl ?_
      refine ru_iconst (v := 1) d_Mo_kinds_18 (by decide) ?_
      refine ru_aload_n d_Mo_kinds_19 rfl rfl ?_
      refine ru_getR d_Mo_kinds_20 lf_Mo_27 (ly hL 398 9 0) rfl (lr hL 398 8 404) ?_
      refine ru_bipush (v := 12) d_Mo_kinds_23 (by decide) ?_
      refine ru_iload_n d_Mo_kinds_25 rfl rfl ?_
      refine ru_imul d_Mo_kinds_26 ?_
      refine ru_eqi (nm_mul 12 i : _ = nI (12 * i)) ?_
      refine ru_laldN (j := (12 * i)) d_Mo_kinds_27 (ly hL 404 104 1440) (by omega) (by decide) ?_
      refine ru_eql hk.1 ?_
      refine ru_l2i d_Mo_kinds_28 ?_
      refine ru_eqi (ll_32 _) ?_
      refine ru_ishl d_Mo_kinds_29 ?_
      refine ru_eqi (nm_bit _ hk.2) ?_
      refine ru_ior d_Mo_kinds_30 ?_
      refine ru_eqi (nm_or _ _) ?_
      refine ru_istore_n d_Mo_kinds_31 rfl (by decide) ?_
      refine ru_iinc (v := nI (i + 1)) d_Mo_kinds_32 rfl (nm_inc _ 1) (by decide) ?_
      refine ru_goto (tgt := 9) d_Mo_kinds_35 (by decide) ?_
      exact ru_to (ih (i + 1) _ (by omega) (by omega) (Nat.or_lt_two_pow (n := 13) hs (Nat.pow_lt_pow_right (by decide) hk.2))) ⟨rfl, rfl, rfl, trivial⟩
  refine ru_aload_n d_Mo_kinds_0 rfl rfl ?_
  refine ru_iconst (v := 0) d_Mo_kinds_1 (by decide) ?_
  refine ru_putI d_Mo_kinds_2 lf_Mo_39 (ly hL 398 9 0) rfl (fun q hq => by cases hq; exact Or.inl rfl) ⟨rfl, rfl⟩ ?_
  rw [hm]
  refine ru_iconst (v := 0) d_Mo_kinds_5 (by decide) ?_
  refine ru_istore_n d_Mo_kinds_6 rfl (by decide) ?_
  refine ru_iconst (v := 0) d_Mo_kinds_7 (by decide) ?_
  refine ru_istore_n d_Mo_kinds_8 rfl (by decide) ?_
  exact ru_to (loop n 0 0 (by omega) rfl (by decide)) ⟨rfl, rfl, rfl, trivial⟩
end
