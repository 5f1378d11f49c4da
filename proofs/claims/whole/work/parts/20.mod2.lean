/-! The reference: rules weighed against one another -/
theorem d_Mo_isLike_0 : decode M_Mo_isLike.2.1 0 = .ok (.aload_n 0, 1) := by decide +kernel
theorem d_Mo_isLike_1 : decode M_Mo_isLike.2.1 1 = .ok (.getfield 27, 3) := by decide +kernel
theorem d_Mo_isLike_4 : decode M_Mo_isLike.2.1 4 = .ok (.bipush 12, 2) := by decide +kernel
theorem d_Mo_isLike_6 : decode M_Mo_isLike.2.1 6 = .ok (.iload_n 1, 1) := by decide +kernel
theorem d_Mo_isLike_7 : decode M_Mo_isLike.2.1 7 = .ok (.imul, 1) := by decide +kernel
theorem d_Mo_isLike_8 : decode M_Mo_isLike.2.1 8 = .ok (.iload_n 2, 1) := by decide +kernel
theorem d_Mo_isLike_9 : decode M_Mo_isLike.2.1 9 = .ok (.iadd, 1) := by decide +kernel
theorem d_Mo_isLike_10 : decode M_Mo_isLike.2.1 10 = .ok (.laload, 1) := by decide +kernel
theorem d_Mo_isLike_11 : decode M_Mo_isLike.2.1 11 = .ok (.lconst 0, 1) := by decide +kernel
theorem d_Mo_isLike_12 : decode M_Mo_isLike.2.1 12 = .ok (.lcmp, 1) := by decide +kernel
theorem d_Mo_isLike_13 : decode M_Mo_isLike.2.1 13 = .ok (.ifCond .lt 61, 3) := by decide +kernel
theorem d_Mo_isLike_16 : decode M_Mo_isLike.2.1 16 = .ok (.aload_n 0, 1) := by decide +kernel
theorem d_Mo_isLike_17 : decode M_Mo_isLike.2.1 17 = .ok (.getfield 27, 3) := by decide +kernel
theorem d_Mo_isLike_20 : decode M_Mo_isLike.2.1 20 = .ok (.bipush 12, 2) := by decide +kernel
theorem d_Mo_isLike_22 : decode M_Mo_isLike.2.1 22 = .ok (.iload_n 1, 1) := by decide +kernel
theorem d_Mo_isLike_23 : decode M_Mo_isLike.2.1 23 = .ok (.imul, 1) := by decide +kernel
theorem d_Mo_isLike_24 : decode M_Mo_isLike.2.1 24 = .ok (.iload_n 2, 1) := by decide +kernel
theorem d_Mo_isLike_25 : decode M_Mo_isLike.2.1 25 = .ok (.iadd, 1) := by decide +kernel
theorem d_Mo_isLike_26 : decode M_Mo_isLike.2.1 26 = .ok (.laload, 1) := by decide +kernel
theorem d_Mo_isLike_27 : decode M_Mo_isLike.2.1 27 = .ok (.aload_n 0, 1) := by decide +kernel
theorem d_Mo_isLike_28 : decode M_Mo_isLike.2.1 28 = .ok (.getfield 27, 3) := by decide +kernel
theorem d_Mo_isLike_31 : decode M_Mo_isLike.2.1 31 = .ok (.bipush 12, 2) := by decide +kernel
theorem d_Mo_isLike_33 : decode M_Mo_isLike.2.1 33 = .ok (.iload_n 3, 1) := by decide +kernel
theorem d_Mo_isLike_34 : decode M_Mo_isLike.2.1 34 = .ok (.imul, 1) := by decide +kernel
theorem d_Mo_isLike_35 : decode M_Mo_isLike.2.1 35 = .ok (.iload 4, 2) := by decide +kernel
theorem d_Mo_isLike_37 : decode M_Mo_isLike.2.1 37 = .ok (.iadd, 1) := by decide +kernel
theorem d_Mo_isLike_38 : decode M_Mo_isLike.2.1 38 = .ok (.laload, 1) := by decide +kernel
theorem d_Mo_isLike_39 : decode M_Mo_isLike.2.1 39 = .ok (.lcmp, 1) := by decide +kernel
theorem d_Mo_isLike_40 : decode M_Mo_isLike.2.1 40 = .ok (.ifCond .ne 38, 3) := by decide +kernel
theorem d_Mo_isLike_43 : decode M_Mo_isLike.2.1 43 = .ok (.aload_n 0, 1) := by decide +kernel
theorem d_Mo_isLike_44 : decode M_Mo_isLike.2.1 44 = .ok (.getfield 27, 3) := by decide +kernel
theorem d_Mo_isLike_47 : decode M_Mo_isLike.2.1 47 = .ok (.bipush 12, 2) := by decide +kernel
theorem d_Mo_isLike_49 : decode M_Mo_isLike.2.1 49 = .ok (.iload_n 1, 1) := by decide +kernel
theorem d_Mo_isLike_50 : decode M_Mo_isLike.2.1 50 = .ok (.imul, 1) := by decide +kernel
theorem d_Mo_isLike_51 : decode M_Mo_isLike.2.1 51 = .ok (.iload_n 2, 1) := by decide +kernel
theorem d_Mo_isLike_52 : decode M_Mo_isLike.2.1 52 = .ok (.iadd, 1) := by decide +kernel
theorem d_Mo_isLike_53 : decode M_Mo_isLike.2.1 53 = .ok (.iconst 1, 1) := by decide +kernel
theorem d_Mo_isLike_54 : decode M_Mo_isLike.2.1 54 = .ok (.iadd, 1) := by decide +kernel
theorem d_Mo_isLike_55 : decode M_Mo_isLike.2.1 55 = .ok (.laload, 1) := by decide +kernel
theorem d_Mo_isLike_56 : decode M_Mo_isLike.2.1 56 = .ok (.aload_n 0, 1) := by decide +kernel
theorem d_Mo_isLike_57 : decode M_Mo_isLike.2.1 57 = .ok (.getfield 27, 3) := by decide +kernel
theorem d_Mo_isLike_60 : decode M_Mo_isLike.2.1 60 = .ok (.bipush 12, 2) := by decide +kernel
theorem d_Mo_isLike_62 : decode M_Mo_isLike.2.1 62 = .ok (.iload_n 3, 1) := by decide +kernel
theorem d_Mo_isLike_63 : decode M_Mo_isLike.2.1 63 = .ok (.imul, 1) := by decide +kernel
theorem d_Mo_isLike_64 : decode M_Mo_isLike.2.1 64 = .ok (.iload 4, 2) := by decide +kernel
theorem d_Mo_isLike_66 : decode M_Mo_isLike.2.1 66 = .ok (.iadd, 1) := by decide +kernel
theorem d_Mo_isLike_67 : decode M_Mo_isLike.2.1 67 = .ok (.iconst 1, 1) := by decide +kernel
theorem d_Mo_isLike_68 : decode M_Mo_isLike.2.1 68 = .ok (.iadd, 1) := by decide +kernel
theorem d_Mo_isLike_69 : decode M_Mo_isLike.2.1 69 = .ok (.laload, 1) := by decide +kernel
theorem d_Mo_isLike_70 : decode M_Mo_isLike.2.1 70 = .ok (.lcmp, 1) := by decide +kernel
theorem d_Mo_isLike_71 : decode M_Mo_isLike.2.1 71 = .ok (.ifCond .ne 7, 3) := by decide +kernel
theorem d_Mo_isLike_74 : decode M_Mo_isLike.2.1 74 = .ok (.iconst 1, 1) := by decide +kernel
theorem d_Mo_isLike_75 : decode M_Mo_isLike.2.1 75 = .ok (.goto 4, 3) := by decide +kernel
theorem d_Mo_isLike_78 : decode M_Mo_isLike.2.1 78 = .ok (.iconst 0, 1) := by decide +kernel
theorem d_Mo_isLike_79 : decode M_Mo_isLike.2.1 79 = .ok (.ireturn, 1) := by decide +kernel
theorem d_Mo_holds_0 : decode M_Mo_holds.2.1 0 = .ok (.lload_n 1, 1) := by decide +kernel
theorem d_Mo_holds_1 : decode M_Mo_holds.2.1 1 = .ok (.lconst 0, 1) := by decide +kernel
theorem d_Mo_holds_2 : decode M_Mo_holds.2.1 2 = .ok (.lcmp, 1) := by decide +kernel
theorem d_Mo_holds_3 : decode M_Mo_holds.2.1 3 = .ok (.ifCond .lt 9, 3) := by decide +kernel
theorem d_Mo_holds_6 : decode M_Mo_holds.2.1 6 = .ok (.lload_n 1, 1) := by decide +kernel
theorem d_Mo_holds_7 : decode M_Mo_holds.2.1 7 = .ok (.lload_n 3, 1) := by decide +kernel
theorem d_Mo_holds_8 : decode M_Mo_holds.2.1 8 = .ok (.lcmp, 1) := by decide +kernel
theorem d_Mo_holds_9 : decode M_Mo_holds.2.1 9 = .ok (.ifCond .ne 5, 3) := by decide +kernel
theorem d_Mo_holds_12 : decode M_Mo_holds.2.1 12 = .ok (.iconst 1, 1) := by decide +kernel
theorem d_Mo_holds_13 : decode M_Mo_holds.2.1 13 = .ok (.ireturn, 1) := by decide +kernel
theorem d_Mo_holds_14 : decode M_Mo_holds.2.1 14 = .ok (.lload_n 3, 1) := by decide +kernel
theorem d_Mo_holds_15 : decode M_Mo_holds.2.1 15 = .ok (.lconst 0, 1) := by decide +kernel
theorem d_Mo_holds_16 : decode M_Mo_holds.2.1 16 = .ok (.lcmp, 1) := by decide +kernel
theorem d_Mo_holds_17 : decode M_Mo_holds.2.1 17 = .ok (.ifCond .lt 23, 3) := by decide +kernel
theorem d_Mo_holds_20 : decode M_Mo_holds.2.1 20 = .ok (.aload_n 0, 1) := by decide +kernel
theorem d_Mo_holds_21 : decode M_Mo_holds.2.1 21 = .ok (.getfield 19, 3) := by decide +kernel
theorem d_Mo_holds_24 : decode M_Mo_holds.2.1 24 = .ok (.lload_n 1, 1) := by decide +kernel
theorem d_Mo_holds_25 : decode M_Mo_holds.2.1 25 = .ok (.l2i, 1) := by decide +kernel
theorem d_Mo_holds_26 : decode M_Mo_holds.2.1 26 = .ok (.baload, 1) := by decide +kernel
theorem d_Mo_holds_27 : decode M_Mo_holds.2.1 27 = .ok (.ifCond .eq 13, 3) := by decide +kernel
theorem d_Mo_holds_30 : decode M_Mo_holds.2.1 30 = .ok (.aload_n 0, 1) := by decide +kernel
theorem d_Mo_holds_31 : decode M_Mo_holds.2.1 31 = .ok (.getfield 19, 3) := by decide +kernel
theorem d_Mo_holds_34 : decode M_Mo_holds.2.1 34 = .ok (.lload_n 3, 1) := by decide +kernel
theorem d_Mo_holds_35 : decode M_Mo_holds.2.1 35 = .ok (.l2i, 1) := by decide +kernel
theorem d_Mo_holds_36 : decode M_Mo_holds.2.1 36 = .ok (.baload, 1) := by decide +kernel
theorem d_Mo_holds_37 : decode M_Mo_holds.2.1 37 = .ok (.ifCond .ne 5, 3) := by decide +kernel
theorem d_Mo_holds_40 : decode M_Mo_holds.2.1 40 = .ok (.iconst 0, 1) := by decide +kernel
theorem d_Mo_holds_41 : decode M_Mo_holds.2.1 41 = .ok (.ireturn, 1) := by decide +kernel
theorem d_Mo_holds_42 : decode M_Mo_holds.2.1 42 = .ok (.iconst 4, 1) := by decide +kernel
theorem d_Mo_holds_43 : decode M_Mo_holds.2.1 43 = .ok (.lload_n 1, 1) := by decide +kernel
theorem d_Mo_holds_44 : decode M_Mo_holds.2.1 44 = .ok (.l2i, 1) := by decide +kernel
theorem d_Mo_holds_45 : decode M_Mo_holds.2.1 45 = .ok (.imul, 1) := by decide +kernel
theorem d_Mo_holds_46 : decode M_Mo_holds.2.1 46 = .ok (.istore 5, 2) := by decide +kernel
theorem d_Mo_holds_48 : decode M_Mo_holds.2.1 48 = .ok (.iconst 4, 1) := by decide +kernel
theorem d_Mo_holds_49 : decode M_Mo_holds.2.1 49 = .ok (.lload_n 3, 1) := by decide +kernel
theorem d_Mo_holds_50 : decode M_Mo_holds.2.1 50 = .ok (.l2i, 1) := by decide +kernel
theorem d_Mo_holds_51 : decode M_Mo_holds.2.1 51 = .ok (.imul, 1) := by decide +kernel
theorem d_Mo_holds_52 : decode M_Mo_holds.2.1 52 = .ok (.istore 6, 2) := by decide +kernel
theorem d_Mo_holds_54 : decode M_Mo_holds.2.1 54 = .ok (.aload_n 0, 1) := by decide +kernel
theorem d_Mo_holds_55 : decode M_Mo_holds.2.1 55 = .ok (.getfield 23, 3) := by decide +kernel
theorem d_Mo_holds_58 : decode M_Mo_holds.2.1 58 = .ok (.iload 5, 2) := by decide +kernel
theorem d_Mo_holds_60 : decode M_Mo_holds.2.1 60 = .ok (.laload, 1) := by decide +kernel
theorem d_Mo_holds_61 : decode M_Mo_holds.2.1 61 = .ok (.aload_n 0, 1) := by decide +kernel
theorem d_Mo_holds_62 : decode M_Mo_holds.2.1 62 = .ok (.getfield 23, 3) := by decide +kernel
theorem d_Mo_holds_65 : decode M_Mo_holds.2.1 65 = .ok (.iload 6, 2) := by decide +kernel
theorem d_Mo_holds_67 : decode M_Mo_holds.2.1 67 = .ok (.laload, 1) := by decide +kernel
theorem d_Mo_holds_68 : decode M_Mo_holds.2.1 68 = .ok (.lcmp, 1) := by decide +kernel
theorem d_Mo_holds_69 : decode M_Mo_holds.2.1 69 = .ok (.ifCond .gt 73, 3) := by decide +kernel
theorem d_Mo_holds_72 : decode M_Mo_holds.2.1 72 = .ok (.aload_n 0, 1) := by decide +kernel
theorem d_Mo_holds_73 : decode M_Mo_holds.2.1 73 = .ok (.getfield 23, 3) := by decide +kernel
theorem d_Mo_holds_76 : decode M_Mo_holds.2.1 76 = .ok (.iload 5, 2) := by decide +kernel
theorem d_Mo_holds_78 : decode M_Mo_holds.2.1 78 = .ok (.iconst 1, 1) := by decide +kernel
theorem d_Mo_holds_79 : decode M_Mo_holds.2.1 79 = .ok (.iadd, 1) := by decide +kernel
theorem d_Mo_holds_80 : decode M_Mo_holds.2.1 80 = .ok (.laload, 1) := by decide +kernel
theorem d_Mo_holds_81 : decode M_Mo_holds.2.1 81 = .ok (.aload_n 0, 1) := by decide +kernel
theorem d_Mo_holds_82 : decode M_Mo_holds.2.1 82 = .ok (.getfield 23, 3) := by decide +kernel
theorem d_Mo_holds_85 : decode M_Mo_holds.2.1 85 = .ok (.iload 6, 2) := by decide +kernel
theorem d_Mo_holds_87 : decode M_Mo_holds.2.1 87 = .ok (.iconst 1, 1) := by decide +kernel
theorem d_Mo_holds_88 : decode M_Mo_holds.2.1 88 = .ok (.iadd, 1) := by decide +kernel
theorem d_Mo_holds_89 : decode M_Mo_holds.2.1 89 = .ok (.laload, 1) := by decide +kernel
theorem d_Mo_holds_90 : decode M_Mo_holds.2.1 90 = .ok (.lcmp, 1) := by decide +kernel
theorem d_Mo_holds_91 : decode M_Mo_holds.2.1 91 = .ok (.ifCond .gt 51, 3) := by decide +kernel
theorem d_Mo_holds_94 : decode M_Mo_holds.2.1 94 = .ok (.aload_n 0, 1) := by decide +kernel
theorem d_Mo_holds_95 : decode M_Mo_holds.2.1 95 = .ok (.getfield 23, 3) := by decide +kernel
theorem d_Mo_holds_98 : decode M_Mo_holds.2.1 98 = .ok (.iload 5, 2) := by decide +kernel
theorem d_Mo_holds_100 : decode M_Mo_holds.2.1 100 = .ok (.iconst 2, 1) := by decide +kernel
theorem d_Mo_holds_101 : decode M_Mo_holds.2.1 101 = .ok (.iadd, 1) := by decide +kernel
theorem d_Mo_holds_102 : decode M_Mo_holds.2.1 102 = .ok (.laload, 1) := by decide +kernel
theorem d_Mo_holds_103 : decode M_Mo_holds.2.1 103 = .ok (.aload_n 0, 1) := by decide +kernel
theorem d_Mo_holds_104 : decode M_Mo_holds.2.1 104 = .ok (.getfield 23, 3) := by decide +kernel
theorem d_Mo_holds_107 : decode M_Mo_holds.2.1 107 = .ok (.iload 6, 2) := by decide +kernel
theorem d_Mo_holds_109 : decode M_Mo_holds.2.1 109 = .ok (.iconst 2, 1) := by decide +kernel
theorem d_Mo_holds_110 : decode M_Mo_holds.2.1 110 = .ok (.iadd, 1) := by decide +kernel
theorem d_Mo_holds_111 : decode M_Mo_holds.2.1 111 = .ok (.laload, 1) := by decide +kernel
theorem d_Mo_holds_112 : decode M_Mo_holds.2.1 112 = .ok (.lcmp, 1) := by decide +kernel
theorem d_Mo_holds_113 : decode M_Mo_holds.2.1 113 = .ok (.ifCond .lt 29, 3) := by decide +kernel
theorem d_Mo_holds_116 : decode M_Mo_holds.2.1 116 = .ok (.aload_n 0, 1) := by decide +kernel
theorem d_Mo_holds_117 : decode M_Mo_holds.2.1 117 = .ok (.getfield 23, 3) := by decide +kernel
theorem d_Mo_holds_120 : decode M_Mo_holds.2.1 120 = .ok (.iload 5, 2) := by decide +kernel
theorem d_Mo_holds_122 : decode M_Mo_holds.2.1 122 = .ok (.iconst 3, 1) := by decide +kernel
theorem d_Mo_holds_123 : decode M_Mo_holds.2.1 123 = .ok (.iadd, 1) := by decide +kernel
theorem d_Mo_holds_124 : decode M_Mo_holds.2.1 124 = .ok (.laload, 1) := by decide +kernel
theorem d_Mo_holds_125 : decode M_Mo_holds.2.1 125 = .ok (.aload_n 0, 1) := by decide +kernel
theorem d_Mo_holds_126 : decode M_Mo_holds.2.1 126 = .ok (.getfield 23, 3) := by decide +kernel
theorem d_Mo_holds_129 : decode M_Mo_holds.2.1 129 = .ok (.iload 6, 2) := by decide +kernel
theorem d_Mo_holds_131 : decode M_Mo_holds.2.1 131 = .ok (.iconst 3, 1) := by decide +kernel
theorem d_Mo_holds_132 : decode M_Mo_holds.2.1 132 = .ok (.iadd, 1) := by decide +kernel
theorem d_Mo_holds_133 : decode M_Mo_holds.2.1 133 = .ok (.laload, 1) := by decide +kernel
theorem d_Mo_holds_134 : decode M_Mo_holds.2.1 134 = .ok (.lcmp, 1) := by decide +kernel
theorem d_Mo_holds_135 : decode M_Mo_holds.2.1 135 = .ok (.ifCond .lt 7, 3) := by decide +kernel
theorem d_Mo_holds_138 : decode M_Mo_holds.2.1 138 = .ok (.iconst 1, 1) := by decide +kernel
theorem d_Mo_holds_139 : decode M_Mo_holds.2.1 139 = .ok (.goto 4, 3) := by decide +kernel
theorem d_Mo_holds_142 : decode M_Mo_holds.2.1 142 = .ok (.iconst 0, 1) := by decide +kernel
theorem d_Mo_holds_143 : decode M_Mo_holds.2.1 143 = .ok (.ireturn, 1) := by decide +kernel
theorem d_Mo_covers_0 : decode M_Mo_covers.2.1 0 = .ok (.aload_n 0, 1) := by decide +kernel
theorem d_Mo_covers_1 : decode M_Mo_covers.2.1 1 = .ok (.getfield 27, 3) := by decide +kernel
theorem d_Mo_covers_4 : decode M_Mo_covers.2.1 4 = .ok (.bipush 12, 2) := by decide +kernel
theorem d_Mo_covers_6 : decode M_Mo_covers.2.1 6 = .ok (.iload_n 1, 1) := by decide +kernel
theorem d_Mo_covers_7 : decode M_Mo_covers.2.1 7 = .ok (.imul, 1) := by decide +kernel
theorem d_Mo_covers_8 : decode M_Mo_covers.2.1 8 = .ok (.laload, 1) := by decide +kernel
theorem d_Mo_covers_9 : decode M_Mo_covers.2.1 9 = .ok (.lstore_n 3, 1) := by decide +kernel
theorem d_Mo_covers_10 : decode M_Mo_covers.2.1 10 = .ok (.aload_n 0, 1) := by decide +kernel
theorem d_Mo_covers_11 : decode M_Mo_covers.2.1 11 = .ok (.getfield 27, 3) := by decide +kernel
theorem d_Mo_covers_14 : decode M_Mo_covers.2.1 14 = .ok (.bipush 12, 2) := by decide +kernel
theorem d_Mo_covers_16 : decode M_Mo_covers.2.1 16 = .ok (.iload_n 2, 1) := by decide +kernel
theorem d_Mo_covers_17 : decode M_Mo_covers.2.1 17 = .ok (.imul, 1) := by decide +kernel
theorem d_Mo_covers_18 : decode M_Mo_covers.2.1 18 = .ok (.laload, 1) := by decide +kernel
theorem d_Mo_covers_19 : decode M_Mo_covers.2.1 19 = .ok (.lstore 5, 2) := by decide +kernel
theorem d_Mo_covers_21 : decode M_Mo_covers.2.1 21 = .ok (.lload_n 3, 1) := by decide +kernel
theorem d_Mo_covers_22 : decode M_Mo_covers.2.1 22 = .ok (.lload 5, 2) := by decide +kernel
theorem d_Mo_covers_24 : decode M_Mo_covers.2.1 24 = .ok (.lcmp, 1) := by decide +kernel
theorem d_Mo_covers_25 : decode M_Mo_covers.2.1 25 = .ok (.ifCond .eq 20, 3) := by decide +kernel
theorem d_Mo_covers_28 : decode M_Mo_covers.2.1 28 = .ok (.lload_n 3, 1) := by decide +kernel
theorem d_Mo_covers_29 : decode M_Mo_covers.2.1 29 = .ok (.ldc2_w 195, 3) := by decide +kernel
theorem d_Mo_covers_32 : decode M_Mo_covers.2.1 32 = .ok (.lcmp, 1) := by decide +kernel
theorem d_Mo_covers_33 : decode M_Mo_covers.2.1 33 = .ok (.ifCond .ne 10, 3) := by decide +kernel
theorem d_Mo_covers_36 : decode M_Mo_covers.2.1 36 = .ok (.lload 5, 2) := by decide +kernel
theorem d_Mo_covers_38 : decode M_Mo_covers.2.1 38 = .ok (.lconst 0, 1) := by decide +kernel
theorem d_Mo_covers_39 : decode M_Mo_covers.2.1 39 = .ok (.lcmp, 1) := by decide +kernel
theorem d_Mo_covers_40 : decode M_Mo_covers.2.1 40 = .ok (.ifCond .eq 5, 3) := by decide +kernel
theorem d_Mo_covers_43 : decode M_Mo_covers.2.1 43 = .ok (.iconst 0, 1) := by decide +kernel
theorem d_Mo_covers_44 : decode M_Mo_covers.2.1 44 = .ok (.ireturn, 1) := by decide +kernel
theorem d_Mo_covers_45 : decode M_Mo_covers.2.1 45 = .ok (.aload_n 0, 1) := by decide +kernel
theorem d_Mo_covers_46 : decode M_Mo_covers.2.1 46 = .ok (.iload_n 1, 1) := by decide +kernel
theorem d_Mo_covers_47 : decode M_Mo_covers.2.1 47 = .ok (.iconst 1, 1) := by decide +kernel
theorem d_Mo_covers_48 : decode M_Mo_covers.2.1 48 = .ok (.iload_n 2, 1) := by decide +kernel
theorem d_Mo_covers_49 : decode M_Mo_covers.2.1 49 = .ok (.iconst 1, 1) := by decide +kernel
theorem d_Mo_covers_50 : decode M_Mo_covers.2.1 50 = .ok (.invokevirtual 201, 3) := by decide +kernel
theorem d_Mo_covers_53 : decode M_Mo_covers.2.1 53 = .ok (.istore 7, 2) := by decide +kernel
theorem d_Mo_covers_55 : decode M_Mo_covers.2.1 55 = .ok (.lload_n 3, 1) := by decide +kernel
theorem d_Mo_covers_56 : decode M_Mo_covers.2.1 56 = .ok (.lconst 0, 1) := by decide +kernel
theorem d_Mo_covers_57 : decode M_Mo_covers.2.1 57 = .ok (.lcmp, 1) := by decide +kernel
theorem d_Mo_covers_58 : decode M_Mo_covers.2.1 58 = .ok (.ifCond .eq 11, 3) := by decide +kernel
theorem d_Mo_covers_61 : decode M_Mo_covers.2.1 61 = .ok (.lload_n 3, 1) := by decide +kernel
theorem d_Mo_covers_62 : decode M_Mo_covers.2.1 62 = .ok (.ldc2_w 195, 3) := by decide +kernel
theorem d_Mo_covers_65 : decode M_Mo_covers.2.1 65 = .ok (.lcmp, 1) := by decide +kernel
theorem d_Mo_covers_66 : decode M_Mo_covers.2.1 66 = .ok (.ifCond .ne 48, 3) := by decide +kernel
theorem d_Mo_covers_69 : decode M_Mo_covers.2.1 69 = .ok (.iload 7, 2) := by decide +kernel
theorem d_Mo_covers_71 : decode M_Mo_covers.2.1 71 = .ok (.ifCond .eq 14, 3) := by decide +kernel
theorem d_Mo_covers_74 : decode M_Mo_covers.2.1 74 = .ok (.aload_n 0, 1) := by decide +kernel
theorem d_Mo_covers_75 : decode M_Mo_covers.2.1 75 = .ok (.iload_n 1, 1) := by decide +kernel
theorem d_Mo_covers_76 : decode M_Mo_covers.2.1 76 = .ok (.iconst 3, 1) := by decide +kernel
theorem d_Mo_covers_77 : decode M_Mo_covers.2.1 77 = .ok (.iload_n 2, 1) := by decide +kernel
theorem d_Mo_covers_78 : decode M_Mo_covers.2.1 78 = .ok (.iconst 3, 1) := by decide +kernel
theorem d_Mo_covers_79 : decode M_Mo_covers.2.1 79 = .ok (.invokevirtual 201, 3) := by decide +kernel
theorem d_Mo_covers_82 : decode M_Mo_covers.2.1 82 = .ok (.ifCond .ne 25, 3) := by decide +kernel
theorem d_Mo_covers_85 : decode M_Mo_covers.2.1 85 = .ok (.aload_n 0, 1) := by decide +kernel
theorem d_Mo_covers_86 : decode M_Mo_covers.2.1 86 = .ok (.iload_n 1, 1) := by decide +kernel
theorem d_Mo_covers_87 : decode M_Mo_covers.2.1 87 = .ok (.iconst 1, 1) := by decide +kernel
theorem d_Mo_covers_88 : decode M_Mo_covers.2.1 88 = .ok (.iload_n 2, 1) := by decide +kernel
theorem d_Mo_covers_89 : decode M_Mo_covers.2.1 89 = .ok (.iconst 3, 1) := by decide +kernel
theorem d_Mo_covers_90 : decode M_Mo_covers.2.1 90 = .ok (.invokevirtual 201, 3) := by decide +kernel
theorem d_Mo_covers_93 : decode M_Mo_covers.2.1 93 = .ok (.ifCond .eq 18, 3) := by decide +kernel
theorem d_Mo_covers_96 : decode M_Mo_covers.2.1 96 = .ok (.aload_n 0, 1) := by decide +kernel
theorem d_Mo_covers_97 : decode M_Mo_covers.2.1 97 = .ok (.iload_n 1, 1) := by decide +kernel
theorem d_Mo_covers_98 : decode M_Mo_covers.2.1 98 = .ok (.iconst 3, 1) := by decide +kernel
theorem d_Mo_covers_99 : decode M_Mo_covers.2.1 99 = .ok (.iload_n 2, 1) := by decide +kernel
theorem d_Mo_covers_100 : decode M_Mo_covers.2.1 100 = .ok (.iconst 1, 1) := by decide +kernel
theorem d_Mo_covers_101 : decode M_Mo_covers.2.1 101 = .ok (.invokevirtual 201, 3) := by decide +kernel
theorem d_Mo_covers_104 : decode M_Mo_covers.2.1 104 = .ok (.ifCond .eq 7, 3) := by decide +kernel
theorem d_Mo_covers_107 : decode M_Mo_covers.2.1 107 = .ok (.iconst 1, 1) := by decide +kernel
theorem d_Mo_covers_108 : decode M_Mo_covers.2.1 108 = .ok (.goto 4, 3) := by decide +kernel
theorem d_Mo_covers_111 : decode M_Mo_covers.2.1 111 = .ok (.iconst 0, 1) := by decide +kernel
theorem d_Mo_covers_112 : decode M_Mo_covers.2.1 112 = .ok (.istore 7, 2) := by decide +kernel
theorem d_Mo_covers_114 : decode M_Mo_covers.2.1 114 = .ok (.aload_n 0, 1) := by decide +kernel
theorem d_Mo_covers_115 : decode M_Mo_covers.2.1 115 = .ok (.getfield 27, 3) := by decide +kernel
theorem d_Mo_covers_118 : decode M_Mo_covers.2.1 118 = .ok (.bipush 12, 2) := by decide +kernel
theorem d_Mo_covers_120 : decode M_Mo_covers.2.1 120 = .ok (.iload_n 1, 1) := by decide +kernel
theorem d_Mo_covers_121 : decode M_Mo_covers.2.1 121 = .ok (.imul, 1) := by decide +kernel
theorem d_Mo_covers_122 : decode M_Mo_covers.2.1 122 = .ok (.iconst 5, 1) := by decide +kernel
theorem d_Mo_covers_123 : decode M_Mo_covers.2.1 123 = .ok (.iadd, 1) := by decide +kernel
theorem d_Mo_covers_124 : decode M_Mo_covers.2.1 124 = .ok (.laload, 1) := by decide +kernel
theorem d_Mo_covers_125 : decode M_Mo_covers.2.1 125 = .ok (.lstore 8, 2) := by decide +kernel
theorem d_Mo_covers_127 : decode M_Mo_covers.2.1 127 = .ok (.iload 7, 2) := by decide +kernel
theorem d_Mo_covers_129 : decode M_Mo_covers.2.1 129 = .ok (.ifCond .eq 62, 3) := by decide +kernel
theorem d_Mo_covers_132 : decode M_Mo_covers.2.1 132 = .ok (.lload 8, 2) := by decide +kernel
theorem d_Mo_covers_134 : decode M_Mo_covers.2.1 134 = .ok (.lconst 0, 1) := by decide +kernel
theorem d_Mo_covers_135 : decode M_Mo_covers.2.1 135 = .ok (.lcmp, 1) := by decide +kernel
theorem d_Mo_covers_136 : decode M_Mo_covers.2.1 136 = .ok (.ifCond .eq 20, 3) := by decide +kernel
theorem d_Mo_covers_139 : decode M_Mo_covers.2.1 139 = .ok (.lload 8, 2) := by decide +kernel
theorem d_Mo_covers_141 : decode M_Mo_covers.2.1 141 = .ok (.aload_n 0, 1) := by decide +kernel
theorem d_Mo_covers_142 : decode M_Mo_covers.2.1 142 = .ok (.getfield 27, 3) := by decide +kernel
theorem d_Mo_covers_145 : decode M_Mo_covers.2.1 145 = .ok (.bipush 12, 2) := by decide +kernel
theorem d_Mo_covers_147 : decode M_Mo_covers.2.1 147 = .ok (.iload_n 2, 1) := by decide +kernel
theorem d_Mo_covers_148 : decode M_Mo_covers.2.1 148 = .ok (.imul, 1) := by decide +kernel
theorem d_Mo_covers_149 : decode M_Mo_covers.2.1 149 = .ok (.iconst 5, 1) := by decide +kernel
theorem d_Mo_covers_150 : decode M_Mo_covers.2.1 150 = .ok (.iadd, 1) := by decide +kernel
theorem d_Mo_covers_151 : decode M_Mo_covers.2.1 151 = .ok (.laload, 1) := by decide +kernel
theorem d_Mo_covers_152 : decode M_Mo_covers.2.1 152 = .ok (.lcmp, 1) := by decide +kernel
theorem d_Mo_covers_153 : decode M_Mo_covers.2.1 153 = .ok (.ifCond .ne 38, 3) := by decide +kernel
theorem d_Mo_covers_156 : decode M_Mo_covers.2.1 156 = .ok (.aload_n 0, 1) := by decide +kernel
theorem d_Mo_covers_157 : decode M_Mo_covers.2.1 157 = .ok (.aload_n 0, 1) := by decide +kernel
theorem d_Mo_covers_158 : decode M_Mo_covers.2.1 158 = .ok (.getfield 27, 3) := by decide +kernel
theorem d_Mo_covers_161 : decode M_Mo_covers.2.1 161 = .ok (.bipush 12, 2) := by decide +kernel
theorem d_Mo_covers_163 : decode M_Mo_covers.2.1 163 = .ok (.iload_n 1, 1) := by decide +kernel
theorem d_Mo_covers_164 : decode M_Mo_covers.2.1 164 = .ok (.imul, 1) := by decide +kernel
theorem d_Mo_covers_165 : decode M_Mo_covers.2.1 165 = .ok (.bipush 6, 2) := by decide +kernel
theorem d_Mo_covers_167 : decode M_Mo_covers.2.1 167 = .ok (.iadd, 1) := by decide +kernel
theorem d_Mo_covers_168 : decode M_Mo_covers.2.1 168 = .ok (.laload, 1) := by decide +kernel
theorem d_Mo_covers_169 : decode M_Mo_covers.2.1 169 = .ok (.aload_n 0, 1) := by decide +kernel
theorem d_Mo_covers_170 : decode M_Mo_covers.2.1 170 = .ok (.getfield 27, 3) := by decide +kernel
theorem d_Mo_covers_173 : decode M_Mo_covers.2.1 173 = .ok (.bipush 12, 2) := by decide +kernel
theorem d_Mo_covers_175 : decode M_Mo_covers.2.1 175 = .ok (.iload_n 2, 1) := by decide +kernel
theorem d_Mo_covers_176 : decode M_Mo_covers.2.1 176 = .ok (.imul, 1) := by decide +kernel
theorem d_Mo_covers_177 : decode M_Mo_covers.2.1 177 = .ok (.bipush 6, 2) := by decide +kernel
theorem d_Mo_covers_179 : decode M_Mo_covers.2.1 179 = .ok (.iadd, 1) := by decide +kernel
theorem d_Mo_covers_180 : decode M_Mo_covers.2.1 180 = .ok (.laload, 1) := by decide +kernel
theorem d_Mo_covers_181 : decode M_Mo_covers.2.1 181 = .ok (.invokevirtual 205, 3) := by decide +kernel
theorem d_Mo_covers_184 : decode M_Mo_covers.2.1 184 = .ok (.ifCond .eq 7, 3) := by decide +kernel
theorem d_Mo_covers_187 : decode M_Mo_covers.2.1 187 = .ok (.iconst 1, 1) := by decide +kernel
theorem d_Mo_covers_188 : decode M_Mo_covers.2.1 188 = .ok (.goto 4, 3) := by decide +kernel
theorem d_Mo_covers_191 : decode M_Mo_covers.2.1 191 = .ok (.iconst 0, 1) := by decide +kernel
theorem d_Mo_covers_192 : decode M_Mo_covers.2.1 192 = .ok (.ireturn, 1) := by decide +kernel
theorem d_Mo_isClash_0 : decode M_Mo_isClash.2.1 0 = .ok (.aload_n 0, 1) := by decide +kernel
theorem d_Mo_isClash_1 : decode M_Mo_isClash.2.1 1 = .ok (.getfield 27, 3) := by decide +kernel
theorem d_Mo_isClash_4 : decode M_Mo_isClash.2.1 4 = .ok (.bipush 12, 2) := by decide +kernel
theorem d_Mo_isClash_6 : decode M_Mo_isClash.2.1 6 = .ok (.iload_n 1, 1) := by decide +kernel
theorem d_Mo_isClash_7 : decode M_Mo_isClash.2.1 7 = .ok (.imul, 1) := by decide +kernel
theorem d_Mo_isClash_8 : decode M_Mo_isClash.2.1 8 = .ok (.laload, 1) := by decide +kernel
theorem d_Mo_isClash_9 : decode M_Mo_isClash.2.1 9 = .ok (.ldc2_w 195, 3) := by decide +kernel
theorem d_Mo_isClash_12 : decode M_Mo_isClash.2.1 12 = .ok (.lcmp, 1) := by decide +kernel
theorem d_Mo_isClash_13 : decode M_Mo_isClash.2.1 13 = .ok (.ifCond .eq 21, 3) := by decide +kernel
theorem d_Mo_isClash_16 : decode M_Mo_isClash.2.1 16 = .ok (.aload_n 0, 1) := by decide +kernel
theorem d_Mo_isClash_17 : decode M_Mo_isClash.2.1 17 = .ok (.iload_n 1, 1) := by decide +kernel
theorem d_Mo_isClash_18 : decode M_Mo_isClash.2.1 18 = .ok (.iload_n 2, 1) := by decide +kernel
theorem d_Mo_isClash_19 : decode M_Mo_isClash.2.1 19 = .ok (.invokevirtual 209, 3) := by decide +kernel
theorem d_Mo_isClash_22 : decode M_Mo_isClash.2.1 22 = .ok (.ifCond .eq 12, 3) := by decide +kernel
theorem d_Mo_isClash_25 : decode M_Mo_isClash.2.1 25 = .ok (.aload_n 0, 1) := by decide +kernel
theorem d_Mo_isClash_26 : decode M_Mo_isClash.2.1 26 = .ok (.iload_n 2, 1) := by decide +kernel
theorem d_Mo_isClash_27 : decode M_Mo_isClash.2.1 27 = .ok (.iload_n 1, 1) := by decide +kernel
theorem d_Mo_isClash_28 : decode M_Mo_isClash.2.1 28 = .ok (.invokevirtual 209, 3) := by decide +kernel
theorem d_Mo_isClash_31 : decode M_Mo_isClash.2.1 31 = .ok (.ifCond .ne 5, 3) := by decide +kernel
theorem d_Mo_isClash_34 : decode M_Mo_isClash.2.1 34 = .ok (.iconst 0, 1) := by decide +kernel
theorem d_Mo_isClash_35 : decode M_Mo_isClash.2.1 35 = .ok (.ireturn, 1) := by decide +kernel
theorem d_Mo_isClash_36 : decode M_Mo_isClash.2.1 36 = .ok (.aload_n 0, 1) := by decide +kernel
theorem d_Mo_isClash_37 : decode M_Mo_isClash.2.1 37 = .ok (.getfield 27, 3) := by decide +kernel
theorem d_Mo_isClash_40 : decode M_Mo_isClash.2.1 40 = .ok (.bipush 12, 2) := by decide +kernel
theorem d_Mo_isClash_42 : decode M_Mo_isClash.2.1 42 = .ok (.iload_n 1, 1) := by decide +kernel
theorem d_Mo_isClash_43 : decode M_Mo_isClash.2.1 43 = .ok (.imul, 1) := by decide +kernel
theorem d_Mo_isClash_44 : decode M_Mo_isClash.2.1 44 = .ok (.bipush 8, 2) := by decide +kernel
theorem d_Mo_isClash_46 : decode M_Mo_isClash.2.1 46 = .ok (.iadd, 1) := by decide +kernel
theorem d_Mo_isClash_47 : decode M_Mo_isClash.2.1 47 = .ok (.laload, 1) := by decide +kernel
theorem d_Mo_isClash_48 : decode M_Mo_isClash.2.1 48 = .ok (.lstore_n 3, 1) := by decide +kernel
theorem d_Mo_isClash_49 : decode M_Mo_isClash.2.1 49 = .ok (.aload_n 0, 1) := by decide +kernel
theorem d_Mo_isClash_50 : decode M_Mo_isClash.2.1 50 = .ok (.getfield 27, 3) := by decide +kernel
theorem d_Mo_isClash_53 : decode M_Mo_isClash.2.1 53 = .ok (.bipush 12, 2) := by decide +kernel
theorem d_Mo_isClash_55 : decode M_Mo_isClash.2.1 55 = .ok (.iload_n 1, 1) := by decide +kernel
theorem d_Mo_isClash_56 : decode M_Mo_isClash.2.1 56 = .ok (.imul, 1) := by decide +kernel
theorem d_Mo_isClash_57 : decode M_Mo_isClash.2.1 57 = .ok (.bipush 9, 2) := by decide +kernel
theorem d_Mo_isClash_59 : decode M_Mo_isClash.2.1 59 = .ok (.iadd, 1) := by decide +kernel
theorem d_Mo_isClash_60 : decode M_Mo_isClash.2.1 60 = .ok (.laload, 1) := by decide +kernel
theorem d_Mo_isClash_61 : decode M_Mo_isClash.2.1 61 = .ok (.lstore 5, 2) := by decide +kernel
theorem d_Mo_isClash_63 : decode M_Mo_isClash.2.1 63 = .ok (.aload_n 0, 1) := by decide +kernel
theorem d_Mo_isClash_64 : decode M_Mo_isClash.2.1 64 = .ok (.getfield 27, 3) := by decide +kernel
theorem d_Mo_isClash_67 : decode M_Mo_isClash.2.1 67 = .ok (.bipush 12, 2) := by decide +kernel
theorem d_Mo_isClash_69 : decode M_Mo_isClash.2.1 69 = .ok (.iload_n 2, 1) := by decide +kernel
theorem d_Mo_isClash_70 : decode M_Mo_isClash.2.1 70 = .ok (.imul, 1) := by decide +kernel
theorem d_Mo_isClash_71 : decode M_Mo_isClash.2.1 71 = .ok (.bipush 8, 2) := by decide +kernel
theorem d_Mo_isClash_73 : decode M_Mo_isClash.2.1 73 = .ok (.iadd, 1) := by decide +kernel
theorem d_Mo_isClash_74 : decode M_Mo_isClash.2.1 74 = .ok (.laload, 1) := by decide +kernel
theorem d_Mo_isClash_75 : decode M_Mo_isClash.2.1 75 = .ok (.lstore 7, 2) := by decide +kernel
theorem d_Mo_isClash_77 : decode M_Mo_isClash.2.1 77 = .ok (.aload_n 0, 1) := by decide +kernel
theorem d_Mo_isClash_78 : decode M_Mo_isClash.2.1 78 = .ok (.getfield 27, 3) := by decide +kernel
theorem d_Mo_isClash_81 : decode M_Mo_isClash.2.1 81 = .ok (.bipush 12, 2) := by decide +kernel
theorem d_Mo_isClash_83 : decode M_Mo_isClash.2.1 83 = .ok (.iload_n 2, 1) := by decide +kernel
theorem d_Mo_isClash_84 : decode M_Mo_isClash.2.1 84 = .ok (.imul, 1) := by decide +kernel
theorem d_Mo_isClash_85 : decode M_Mo_isClash.2.1 85 = .ok (.bipush 9, 2) := by decide +kernel
theorem d_Mo_isClash_87 : decode M_Mo_isClash.2.1 87 = .ok (.iadd, 1) := by decide +kernel
theorem d_Mo_isClash_88 : decode M_Mo_isClash.2.1 88 = .ok (.laload, 1) := by decide +kernel
theorem d_Mo_isClash_89 : decode M_Mo_isClash.2.1 89 = .ok (.lstore 9, 2) := by decide +kernel
theorem d_Mo_isClash_91 : decode M_Mo_isClash.2.1 91 = .ok (.lload 5, 2) := by decide +kernel
theorem d_Mo_isClash_93 : decode M_Mo_isClash.2.1 93 = .ok (.lconst 0, 1) := by decide +kernel
theorem d_Mo_isClash_94 : decode M_Mo_isClash.2.1 94 = .ok (.lcmp, 1) := by decide +kernel
theorem d_Mo_isClash_95 : decode M_Mo_isClash.2.1 95 = .ok (.ifCond .lt 18, 3) := by decide +kernel
theorem d_Mo_isClash_98 : decode M_Mo_isClash.2.1 98 = .ok (.lload 7, 2) := by decide +kernel
theorem d_Mo_isClash_100 : decode M_Mo_isClash.2.1 100 = .ok (.lconst 0, 1) := by decide +kernel
theorem d_Mo_isClash_101 : decode M_Mo_isClash.2.1 101 = .ok (.lcmp, 1) := by decide +kernel
theorem d_Mo_isClash_102 : decode M_Mo_isClash.2.1 102 = .ok (.ifCond .lt 11, 3) := by decide +kernel
theorem d_Mo_isClash_105 : decode M_Mo_isClash.2.1 105 = .ok (.lload 5, 2) := by decide +kernel
theorem d_Mo_isClash_107 : decode M_Mo_isClash.2.1 107 = .ok (.lload 7, 2) := by decide +kernel
theorem d_Mo_isClash_109 : decode M_Mo_isClash.2.1 109 = .ok (.lcmp, 1) := by decide +kernel
theorem d_Mo_isClash_110 : decode M_Mo_isClash.2.1 110 = .ok (.ifCond .lt 23, 3) := by decide +kernel
theorem d_Mo_isClash_113 : decode M_Mo_isClash.2.1 113 = .ok (.lload 9, 2) := by decide +kernel
theorem d_Mo_isClash_115 : decode M_Mo_isClash.2.1 115 = .ok (.lconst 0, 1) := by decide +kernel
theorem d_Mo_isClash_116 : decode M_Mo_isClash.2.1 116 = .ok (.lcmp, 1) := by decide +kernel
theorem d_Mo_isClash_117 : decode M_Mo_isClash.2.1 117 = .ok (.ifCond .lt 20, 3) := by decide +kernel
theorem d_Mo_isClash_120 : decode M_Mo_isClash.2.1 120 = .ok (.lload_n 3, 1) := by decide +kernel
theorem d_Mo_isClash_121 : decode M_Mo_isClash.2.1 121 = .ok (.lconst 0, 1) := by decide +kernel
theorem d_Mo_isClash_122 : decode M_Mo_isClash.2.1 122 = .ok (.lcmp, 1) := by decide +kernel
theorem d_Mo_isClash_123 : decode M_Mo_isClash.2.1 123 = .ok (.ifCond .lt 14, 3) := by decide +kernel
theorem d_Mo_isClash_126 : decode M_Mo_isClash.2.1 126 = .ok (.lload 9, 2) := by decide +kernel
theorem d_Mo_isClash_128 : decode M_Mo_isClash.2.1 128 = .ok (.lload_n 3, 1) := by decide +kernel
theorem d_Mo_isClash_129 : decode M_Mo_isClash.2.1 129 = .ok (.lcmp, 1) := by decide +kernel
theorem d_Mo_isClash_130 : decode M_Mo_isClash.2.1 130 = .ok (.ifCond .ge 7, 3) := by decide +kernel
theorem d_Mo_isClash_133 : decode M_Mo_isClash.2.1 133 = .ok (.iconst 1, 1) := by decide +kernel
theorem d_Mo_isClash_134 : decode M_Mo_isClash.2.1 134 = .ok (.goto 4, 3) := by decide +kernel
theorem d_Mo_isClash_137 : decode M_Mo_isClash.2.1 137 = .ok (.iconst 0, 1) := by decide +kernel
theorem d_Mo_isClash_138 : decode M_Mo_isClash.2.1 138 = .ok (.ireturn, 1) := by decide +kernel
theorem d_Mo_rule_0 : decode M_Mo_rule.2.1 0 = .ok (.aload_n 0, 1) := by decide +kernel
theorem d_Mo_rule_1 : decode M_Mo_rule.2.1 1 = .ok (.aload_n 0, 1) := by decide +kernel
theorem d_Mo_rule_2 : decode M_Mo_rule.2.1 2 = .ok (.iload_n 1, 1) := by decide +kernel
theorem d_Mo_rule_3 : decode M_Mo_rule.2.1 3 = .ok (.invokevirtual 192, 3) := by decide +kernel
theorem d_Mo_rule_6 : decode M_Mo_rule.2.1 6 = .ok (.ifCond .eq 17, 3) := by decide +kernel
theorem d_Mo_rule_9 : decode M_Mo_rule.2.1 9 = .ok (.iload_n 2, 1) := by decide +kernel
theorem d_Mo_rule_10 : decode M_Mo_rule.2.1 10 = .ok (.ifCond .lt 13, 3) := by decide +kernel
theorem d_Mo_rule_13 : decode M_Mo_rule.2.1 13 = .ok (.iload_n 2, 1) := by decide +kernel
theorem d_Mo_rule_14 : decode M_Mo_rule.2.1 14 = .ok (.bipush 8, 2) := by decide +kernel
theorem d_Mo_rule_16 : decode M_Mo_rule.2.1 16 = .ok (.if_icmp .ge 7, 3) := by decide +kernel
theorem d_Mo_rule_19 : decode M_Mo_rule.2.1 19 = .ok (.iconst 0, 1) := by decide +kernel
theorem d_Mo_rule_20 : decode M_Mo_rule.2.1 20 = .ok (.goto 4, 3) := by decide +kernel
theorem d_Mo_rule_23 : decode M_Mo_rule.2.1 23 = .ok (.iconst 1, 1) := by decide +kernel
theorem d_Mo_rule_24 : decode M_Mo_rule.2.1 24 = .ok (.putfield 39, 3) := by decide +kernel
theorem d_Mo_rule_27 : decode M_Mo_rule.2.1 27 = .ok (.aload_n 0, 1) := by decide +kernel
theorem d_Mo_rule_28 : decode M_Mo_rule.2.1 28 = .ok (.getfield 39, 3) := by decide +kernel
theorem d_Mo_rule_31 : decode M_Mo_rule.2.1 31 = .ok (.ifCond .ne 18, 3) := by decide +kernel
theorem d_Mo_rule_34 : decode M_Mo_rule.2.1 34 = .ok (.aload_n 0, 1) := by decide +kernel
theorem d_Mo_rule_35 : decode M_Mo_rule.2.1 35 = .ok (.getfield 27, 3) := by decide +kernel
theorem d_Mo_rule_38 : decode M_Mo_rule.2.1 38 = .ok (.bipush 12, 2) := by decide +kernel
theorem d_Mo_rule_40 : decode M_Mo_rule.2.1 40 = .ok (.iload_n 1, 1) := by decide +kernel
theorem d_Mo_rule_41 : decode M_Mo_rule.2.1 41 = .ok (.imul, 1) := by decide +kernel
theorem d_Mo_rule_42 : decode M_Mo_rule.2.1 42 = .ok (.iload_n 2, 1) := by decide +kernel
theorem d_Mo_rule_43 : decode M_Mo_rule.2.1 43 = .ok (.iadd, 1) := by decide +kernel
theorem d_Mo_rule_44 : decode M_Mo_rule.2.1 44 = .ok (.laload, 1) := by decide +kernel
theorem d_Mo_rule_45 : decode M_Mo_rule.2.1 45 = .ok (.l2i, 1) := by decide +kernel
theorem d_Mo_rule_46 : decode M_Mo_rule.2.1 46 = .ok (.goto 4, 3) := by decide +kernel
theorem d_Mo_rule_49 : decode M_Mo_rule.2.1 49 = .ok (.iconst 0, 1) := by decide +kernel
theorem d_Mo_rule_50 : decode M_Mo_rule.2.1 50 = .ok (.ireturn, 1) := by decide +kernel
theorem d_Mo_value_II_0 : decode M_Mo_value_II.2.1 0 = .ok (.aload_n 0, 1) := by decide +kernel
theorem d_Mo_value_II_1 : decode M_Mo_value_II.2.1 1 = .ok (.aload_n 0, 1) := by decide +kernel
theorem d_Mo_value_II_2 : decode M_Mo_value_II.2.1 2 = .ok (.iload_n 1, 1) := by decide +kernel
theorem d_Mo_value_II_3 : decode M_Mo_value_II.2.1 3 = .ok (.invokevirtual 192, 3) := by decide +kernel
theorem d_Mo_value_II_6 : decode M_Mo_value_II.2.1 6 = .ok (.ifCond .eq 16, 3) := by decide +kernel
theorem d_Mo_value_II_9 : decode M_Mo_value_II.2.1 9 = .ok (.iload_n 2, 1) := by decide +kernel
theorem d_Mo_value_II_10 : decode M_Mo_value_II.2.1 10 = .ok (.ifCond .lt 12, 3) := by decide +kernel
theorem d_Mo_value_II_13 : decode M_Mo_value_II.2.1 13 = .ok (.iload_n 2, 1) := by decide +kernel
theorem d_Mo_value_II_14 : decode M_Mo_value_II.2.1 14 = .ok (.iconst 2, 1) := by decide +kernel
theorem d_Mo_value_II_15 : decode M_Mo_value_II.2.1 15 = .ok (.if_icmp .ge 7, 3) := by decide +kernel
theorem d_Mo_value_II_18 : decode M_Mo_value_II.2.1 18 = .ok (.iconst 0, 1) := by decide +kernel
theorem d_Mo_value_II_19 : decode M_Mo_value_II.2.1 19 = .ok (.goto 4, 3) := by decide +kernel
theorem d_Mo_value_II_22 : decode M_Mo_value_II.2.1 22 = .ok (.iconst 1, 1) := by decide +kernel
theorem d_Mo_value_II_23 : decode M_Mo_value_II.2.1 23 = .ok (.putfield 39, 3) := by decide +kernel
theorem d_Mo_value_II_26 : decode M_Mo_value_II.2.1 26 = .ok (.aload_n 0, 1) := by decide +kernel
theorem d_Mo_value_II_27 : decode M_Mo_value_II.2.1 27 = .ok (.getfield 39, 3) := by decide +kernel
theorem d_Mo_value_II_30 : decode M_Mo_value_II.2.1 30 = .ok (.ifCond .ne 20, 3) := by decide +kernel
theorem d_Mo_value_II_33 : decode M_Mo_value_II.2.1 33 = .ok (.aload_n 0, 1) := by decide +kernel
theorem d_Mo_value_II_34 : decode M_Mo_value_II.2.1 34 = .ok (.getfield 27, 3) := by decide +kernel
theorem d_Mo_value_II_37 : decode M_Mo_value_II.2.1 37 = .ok (.bipush 12, 2) := by decide +kernel
theorem d_Mo_value_II_39 : decode M_Mo_value_II.2.1 39 = .ok (.iload_n 1, 1) := by decide +kernel
theorem d_Mo_value_II_40 : decode M_Mo_value_II.2.1 40 = .ok (.imul, 1) := by decide +kernel
theorem d_Mo_value_II_41 : decode M_Mo_value_II.2.1 41 = .ok (.bipush 8, 2) := by decide +kernel
theorem d_Mo_value_II_43 : decode M_Mo_value_II.2.1 43 = .ok (.iadd, 1) := by decide +kernel
theorem d_Mo_value_II_44 : decode M_Mo_value_II.2.1 44 = .ok (.iload_n 2, 1) := by decide +kernel
theorem d_Mo_value_II_45 : decode M_Mo_value_II.2.1 45 = .ok (.iadd, 1) := by decide +kernel
theorem d_Mo_value_II_46 : decode M_Mo_value_II.2.1 46 = .ok (.laload, 1) := by decide +kernel
theorem d_Mo_value_II_47 : decode M_Mo_value_II.2.1 47 = .ok (.goto 4, 3) := by decide +kernel
theorem d_Mo_value_II_50 : decode M_Mo_value_II.2.1 50 = .ok (.lconst 0, 1) := by decide +kernel
theorem d_Mo_value_II_51 : decode M_Mo_value_II.2.1 51 = .ok (.lreturn, 1) := by decide +kernel
theorem d_Mo_line_0 : decode M_Mo_line.2.1 0 = .ok (.aload_n 0, 1) := by decide +kernel
theorem d_Mo_line_1 : decode M_Mo_line.2.1 1 = .ok (.aload_n 0, 1) := by decide +kernel
theorem d_Mo_line_2 : decode M_Mo_line.2.1 2 = .ok (.iload_n 1, 1) := by decide +kernel
theorem d_Mo_line_3 : decode M_Mo_line.2.1 3 = .ok (.invokevirtual 192, 3) := by decide +kernel
theorem d_Mo_line_6 : decode M_Mo_line.2.1 6 = .ok (.ifCond .eq 7, 3) := by decide +kernel
theorem d_Mo_line_9 : decode M_Mo_line.2.1 9 = .ok (.iconst 0, 1) := by decide +kernel
theorem d_Mo_line_10 : decode M_Mo_line.2.1 10 = .ok (.goto 4, 3) := by decide +kernel
theorem d_Mo_line_13 : decode M_Mo_line.2.1 13 = .ok (.iconst 1, 1) := by decide +kernel
theorem d_Mo_line_14 : decode M_Mo_line.2.1 14 = .ok (.putfield 39, 3) := by decide +kernel
theorem d_Mo_line_17 : decode M_Mo_line.2.1 17 = .ok (.aload_n 0, 1) := by decide +kernel
theorem d_Mo_line_18 : decode M_Mo_line.2.1 18 = .ok (.getfield 39, 3) := by decide +kernel
theorem d_Mo_line_21 : decode M_Mo_line.2.1 21 = .ok (.ifCond .ne 19, 3) := by decide +kernel
theorem d_Mo_line_24 : decode M_Mo_line.2.1 24 = .ok (.aload_n 0, 1) := by decide +kernel
theorem d_Mo_line_25 : decode M_Mo_line.2.1 25 = .ok (.getfield 27, 3) := by decide +kernel
theorem d_Mo_line_28 : decode M_Mo_line.2.1 28 = .ok (.bipush 12, 2) := by decide +kernel
theorem d_Mo_line_30 : decode M_Mo_line.2.1 30 = .ok (.iload_n 1, 1) := by decide +kernel
theorem d_Mo_line_31 : decode M_Mo_line.2.1 31 = .ok (.imul, 1) := by decide +kernel
theorem d_Mo_line_32 : decode M_Mo_line.2.1 32 = .ok (.bipush 10, 2) := by decide +kernel
theorem d_Mo_line_34 : decode M_Mo_line.2.1 34 = .ok (.iadd, 1) := by decide +kernel
theorem d_Mo_line_35 : decode M_Mo_line.2.1 35 = .ok (.laload, 1) := by decide +kernel
theorem d_Mo_line_36 : decode M_Mo_line.2.1 36 = .ok (.l2i, 1) := by decide +kernel
theorem d_Mo_line_37 : decode M_Mo_line.2.1 37 = .ok (.goto 4, 3) := by decide +kernel
theorem d_Mo_line_40 : decode M_Mo_line.2.1 40 = .ok (.iconst 0, 1) := by decide +kernel
theorem d_Mo_line_41 : decode M_Mo_line.2.1 41 = .ok (.ireturn, 1) := by decide +kernel
def aheadM (R : Nat → Int64) (a b : Nat) : Prop := (R (12 * a) = 12 ∧ ¬ R (12 * b) = 12) ∨ ((R (12 * a) = 12 ↔ R (12 * b) = 12) ∧ ((¬ R (12 * a + 7) - R (12 * b + 7) = 0 ∧ 0 < R (12 * a + 7) - R (12 * b + 7)) ∨ (R (12 * a + 7) - R (12 * b + 7) = 0 ∧ b < a)))
def likeM (R : Nat → Int64) (p q : Nat) : Prop := R p < 0 ∨ (R p = R q ∧ R (p + 1) = R (q + 1))
def holdsM (S : Nat → Int32) (Q : Nat → Int64) (za zb : Int32) : Prop := za.toInt64 < 0 ∨ za.toInt64 = zb.toInt64 ∨ (¬ zb.toInt64 < 0 ∧ ¬ S za.toNatClampNeg = 0 ∧ ¬ S zb.toNatClampNeg = 0 ∧ Q (4 * za.toNatClampNeg) ≤ Q (4 * zb.toNatClampNeg) ∧ Q (4 * za.toNatClampNeg + 1) ≤ Q (4 * zb.toNatClampNeg + 1) ∧ Q (4 * zb.toNatClampNeg + 2) ≤ Q (4 * za.toNatClampNeg + 2) ∧ Q (4 * zb.toNatClampNeg + 3) ≤ Q (4 * za.toNatClampNeg + 3))
def thingsM (R : Nat → Int64) (a b : Nat) : Prop := ((R (12 * a) = 0 ∨ R (12 * a) = 12) ∧ ((likeM R (12 * a + 1) (12 * b + 1) ∧ likeM R (12 * a + 3) (12 * b + 3)) ∨ (likeM R (12 * a + 1) (12 * b + 3) ∧ likeM R (12 * a + 3) (12 * b + 1)))) ∨ (¬ (R (12 * a) = 0 ∨ R (12 * a) = 12) ∧ likeM R (12 * a + 1) (12 * b + 1))
def coversM (S : Nat → Int32) (Q R : Nat → Int64) (za zb : Int32) (a b : Nat) : Prop := (R (12 * a) = R (12 * b) ∨ (R (12 * a) = 12 ∧ R (12 * b) = 0)) ∧ thingsM R a b ∧ (R (12 * a + 5) = 0 ∨ R (12 * a + 5) = R (12 * b + 5)) ∧ holdsM S Q za zb
def clashM (S : Nat → Int32) (Q R : Nat → Int64) (za zb : Int32) (a b : Nat) : Prop := ¬ R (12 * a) = 12 ∧ coversM S Q R za zb a b ∧ coversM S Q R zb za b a ∧ ((¬ R (12 * a + 9) < 0 ∧ ¬ R (12 * b + 8) < 0 ∧ R (12 * a + 9) < R (12 * b + 8)) ∨ (¬ R (12 * b + 9) < 0 ∧ ¬ R (12 * a + 8) < 0 ∧ R (12 * b + 9) < R (12 * a + 8)))
/-- an area's number, or none -/
def isArea (z : Int32) : Prop := z = -1 ∨ ∃ x, x < 16 ∧ z = nI x
theorem isArea.pos {z : Int32} (h : isArea z) (hz : ¬ z.toInt64 < 0) : ∃ x, x < 16 ∧ z = nI x := by
  rcases h with h | h
  · subst h
    exact absurd (by decide) hz
  · exact h
theorem ll_32 (x : Int32) : x.toInt64.toInt32 = x := by simp
section
variable {nx : Nat} {ct : Nat → Nat × Nat} {mi : Nat → Nat → Int32} {ml : Nat → Nat → Int64} {mr : Nat → Nat → Option Nat}
theorem sp_Mo_isRuleN {n k : Nat} (hL : LAY nx ct mr) (hn : mi 398 7 = nI n) (hn2 : n ≤ 60) (hk : k < 2 ^ 31) : rx_Calls y_Mo_isRule M_Mo_isRule 0 0 0 [.ref 398, .int (nI k)] (nx, ct, mi, ml, mr) (fun v τ => v = some (.int (bI (k < n))) ∧ τ = (nx, ct, mi, ml, mr)) := by
  have h := sp_Mo_isRule (ml := ml) hL (nI k) hn hn2
  rw [nI_toInt hk, show (0 ≤ (k : Int) ∧ (k : Int) < (n : Int)) = (k < n) from propext ⟨fun q => by omega, fun q => by omega⟩] at h
  exact h
theorem sp_Mo_isAhead {a b : Nat} (hL : LAY nx ct mr) (ha : a < 60) (hb : b < 60) : rx_Calls y_Mo_isAhead M_Mo_isAhead 0 0 0 [.ref 398, .int (nI a), .int (nI b)] (nx, ct, mi, ml, mr) (fun v τ => v = some (.int (bI (aheadM (ml 404) a b))) ∧ τ = (nx, ct, mi, ml, mr)) := by
  refine rx_enter (by decide) rfl rfl (Nat.le_of_ble_eq_true rfl) ?_
  unfold aheadM
  refine ru_aload_n d_Mo_isAhead_0 rfl rfl ?_
  refine ru_getR d_Mo_isAhead_1 lf_Mo_27 (ly hL 398 9 0) rfl (lr hL 398 8 404) ?_
  refine ru_bipush (v := 12) d_Mo_isAhead_4 (by decide) ?_
  refine ru_iload_n d_Mo_isAhead_6 rfl rfl ?_
  refine ru_imul d_Mo_isAhead_7 ?_
  refine ru_eqi (nm_mul 12 a : _ = nI (12 * a)) ?_
  refine ru_laldN (j := (12 * a)) d_Mo_isAhead_8 (ly hL 404 104 1440) (by omega) (by decide) ?_
  refine ru_ldc2 d_Mo_isAhead_9 lc_Mo_195 ?_
  refine ru_lcmp d_Mo_isAhead_12 ?_
  refine ru_if_ne (tgt := 20) d_Mo_isAhead_13 (by decide) (fun h13 => ?_) (fun h13 => ?_)
  · skip
    replace h13 := fun q => h13 ((lg_cmp_eq _ _).mpr q)
    refine ru_iconst (v := 0) d_Mo_isAhead_20 (by decide) ?_
    refine ru_istore_n d_Mo_isAhead_21 rfl (by decide) ?_
    refine ru_aload_n d_Mo_isAhead_22 rfl rfl ?_
    refine ru_getR d_Mo_isAhead_23 lf_Mo_27 (ly hL 398 9 0) rfl (lr hL 398 8 404) ?_
    refine ru_bipush (v := 12) d_Mo_isAhead_26 (by decide) ?_
    refine ru_iload_n d_Mo_isAhead_28 rfl rfl ?_
    refine ru_imul d_Mo_isAhead_29 ?_
    refine ru_eqi (nm_mul 12 b : _ = nI (12 * b)) ?_
    refine ru_laldN (j := (12 * b)) d_Mo_isAhead_30 (ly hL 404 104 1440) (by omega) (by decide) ?_
    refine ru_ldc2 d_Mo_isAhead_31 lc_Mo_195 ?_
    refine ru_lcmp d_Mo_isAhead_34 ?_
    refine ru_if_ne (tgt := 42) d_Mo_isAhead_35 (by decide) (fun h35 => ?_) (fun h35 => ?_)
    · skip
      replace h35 := fun q => h35 ((lg_cmp_eq _ _).mpr q)
      refine ru_iconst (v := 0) d_Mo_isAhead_42 (by decide) ?_
      refine ru_istore d_Mo_isAhead_43 (by decide) ?_
      refine ru_iload_n d_Mo_isAhead_45 rfl rfl ?_
      refine ru_iload d_Mo_isAhead_46 rfl ?_
      refine ru_icmp_eq (tgt := 53) d_Mo_isAhead_48 (by decide) (fun h48 => ?_) (fun h48 => absurd h48 (by decide))
      refine ru_aload_n d_Mo_isAhead_53 rfl rfl ?_
      refine ru_getR d_Mo_isAhead_54 lf_Mo_27 (ly hL 398 9 0) rfl (lr hL 398 8 404) ?_
      refine ru_bipush (v := 12) d_Mo_isAhead_57 (by decide) ?_
      refine ru_iload_n d_Mo_isAhead_59 rfl rfl ?_
      refine ru_imul d_Mo_isAhead_60 ?_
      refine ru_eqi (nm_mul 12 a : _ = nI (12 * a)) ?_
      refine ru_bipush (v := 7) d_Mo_isAhead_61 (by decide) ?_
      refine ru_iadd d_Mo_isAhead_63 ?_
      refine ru_eqi (nm_add (12 * a) 7 : _ = nI ((12 * a) + 7)) ?_
      refine ru_laldN (j := ((12 * a) + 7)) d_Mo_isAhead_64 (ly hL 404 104 1440) (by omega) (by decide) ?_
      refine ru_aload_n d_Mo_isAhead_65 rfl rfl ?_
      refine ru_getR d_Mo_isAhead_66 lf_Mo_27 (ly hL 398 9 0) rfl (lr hL 398 8 404) ?_
      refine ru_bipush (v := 12) d_Mo_isAhead_69 (by decide) ?_
      refine ru_iload_n d_Mo_isAhead_71 rfl rfl ?_
      refine ru_imul d_Mo_isAhead_72 ?_
      refine ru_eqi (nm_mul 12 b : _ = nI (12 * b)) ?_
      refine ru_bipush (v := 7) d_Mo_isAhead_73 (by decide) ?_
      refine ru_iadd d_Mo_isAhead_75 ?_
      refine ru_eqi (nm_add (12 * b) 7 : _ = nI ((12 * b) + 7)) ?_
      refine ru_laldN (j := ((12 * b) + 7)) d_Mo_isAhead_76 (ly hL 404 104 1440) (by omega) (by decide) ?_
      refine ru_lsub d_Mo_isAhead_77 ?_
      refine ru_lstore d_Mo_isAhead_78 (by decide) ?_
      refine ru_lload d_Mo_isAhead_80 rfl ?_
      refine ru_lconst (v := 0) d_Mo_isAhead_82 (by decide) ?_
      refine ru_lcmp d_Mo_isAhead_83 ?_
      refine ru_if_eq (tgt := 102) d_Mo_isAhead_84 (by decide) (fun h84 => ?_) (fun h84 => ?_)
      · skip
        replace h84 := (lg_cmp_eq _ _).mp h84
        refine ru_iload_n d_Mo_isAhead_102 rfl rfl ?_
        refine ru_iload_n d_Mo_isAhead_103 rfl rfl ?_
        refine ru_icmp_le (tgt := 111) d_Mo_isAhead_104 (by decide) (fun h104 => ?_) (fun h104 => ?_)
        · skip
          replace h104 := nm_le (a := a) (b := b) (by omega) (by omega) h104
          refine ru_iconst (v := 0) d_Mo_isAhead_111 (by decide) ?_
          refine ru_zret (ty := .boolean) d_Mo_isAhead_112 rfl rfl ?_
          first | exact ⟨by rw [bI_t (by grind)], rfl⟩ | exact ⟨by rw [bI_f (by grind)], rfl⟩
        · skip
          replace h104 := nm_nle (a := a) (b := b) (by omega) (by omega) h104
          refine ru_iconst (v := 1) d_Mo_isAhead_107 (by decide) ?_
          refine ru_goto (tgt := 112) d_Mo_isAhead_108 (by decide) ?_
          refine ru_zret (ty := .boolean) d_Mo_isAhead_112 rfl rfl ?_
          first | exact ⟨by rw [bI_t (by grind)], rfl⟩ | exact ⟨by rw [bI_f (by grind)], rfl⟩
      · skip
        replace h84 := fun q => h84 ((lg_cmp_eq _ _).mpr q)
        refine ru_lload d_Mo_isAhead_87 rfl ?_
        refine ru_lconst (v := 0) d_Mo_isAhead_89 (by decide) ?_
        refine ru_lcmp d_Mo_isAhead_90 ?_
        refine ru_if_le (tgt := 98) d_Mo_isAhead_91 (by decide) (fun h91 => ?_) (fun h91 => ?_)
        · skip
          replace h91 := (lg_cmp_le _ _).mp h91
          refine ru_iconst (v := 0) d_Mo_isAhead_98 (by decide) ?_
          refine ru_goto (tgt := 112) d_Mo_isAhead_99 (by decide) ?_
          refine ru_zret (ty := .boolean) d_Mo_isAhead_112 rfl rfl ?_
          first | exact ⟨by rw [bI_t (by grind)], rfl⟩ | exact ⟨by rw [bI_f (by grind)], rfl⟩
        · skip
          replace h91 := fun q => h91 ((lg_cmp_le _ _).mpr q)
          refine ru_iconst (v := 1) d_Mo_isAhead_94 (by decide) ?_
          refine ru_goto (tgt := 112) d_Mo_isAhead_95 (by decide) ?_
          refine ru_zret (ty := .boolean) d_Mo_isAhead_112 rfl rfl ?_
          first | exact ⟨by rw [bI_t (by grind)], rfl⟩ | exact ⟨by rw [bI_f (by grind)], rfl⟩
    · skip
      replace h35 := (lg_cmp_eq _ _).mp h35
      refine ru_iconst (v := 1) d_Mo_isAhead_38 (by decide) ?_
      refine ru_goto (tgt := 43) d_Mo_isAhead_39 (by decide) ?_
      refine ru_istore d_Mo_isAhead_43 (by decide) ?_
      refine ru_iload_n d_Mo_isAhead_45 rfl rfl ?_
      refine ru_iload d_Mo_isAhead_46 rfl ?_
      refine ru_icmp_eq (tgt := 53) d_Mo_isAhead_48 (by decide) (fun h48 => absurd h48 (by decide)) (fun h48 => ?_)
      refine ru_iload_n d_Mo_isAhead_51 rfl rfl ?_
      refine ru_zret (ty := .boolean) d_Mo_isAhead_52 rfl rfl ?_
      first | exact ⟨by rw [bI_t (by grind)], rfl⟩ | exact ⟨by rw [bI_f (by grind)], rfl⟩
  · skip
    replace h13 := (lg_cmp_eq _ _).mp h13
    refine ru_iconst (v := 1) d_Mo_isAhead_16 (by decide) ?_
    refine ru_goto (tgt := 21) d_Mo_isAhead_17 (by decide) ?_
    refine ru_istore_n d_Mo_isAhead_21 rfl (by decide) ?_
    refine ru_aload_n d_Mo_isAhead_22 rfl rfl ?_
    refine ru_getR d_Mo_isAhead_23 lf_Mo_27 (ly hL 398 9 0) rfl (lr hL 398 8 404) ?_
    refine ru_bipush (v := 12) d_Mo_isAhead_26 (by decide) ?_
    refine ru_iload_n d_Mo_isAhead_28 rfl rfl ?_
    refine ru_imul d_Mo_isAhead_29 ?_
    refine ru_eqi (nm_mul 12 b : _ = nI (12 * b)) ?_
    refine ru_laldN (j := (12 * b)) d_Mo_isAhead_30 (ly hL 404 104 1440) (by omega) (by decide) ?_
    refine ru_ldc2 d_Mo_isAhead_31 lc_Mo_195 ?_
    refine ru_lcmp d_Mo_isAhead_34 ?_
    refine ru_if_ne (tgt := 42) d_Mo_isAhead_35 (by decide) (fun h35 => ?_) (fun h35 => ?_)
    · skip
      replace h35 := fun q => h35 ((lg_cmp_eq _ _).mpr q)
      refine ru_iconst (v := 0) d_Mo_isAhead_42 (by decide) ?_
      refine ru_istore d_Mo_isAhead_43 (by decide) ?_
      refine ru_iload_n d_Mo_isAhead_45 rfl rfl ?_
      refine ru_iload d_Mo_isAhead_46 rfl ?_
      refine ru_icmp_eq (tgt := 53) d_Mo_isAhead_48 (by decide) (fun h48 => absurd h48 (by decide)) (fun h48 => ?_)
      refine ru_iload_n d_Mo_isAhead_51 rfl rfl ?_
      refine ru_zret (ty := .boolean) d_Mo_isAhead_52 rfl rfl ?_
      first | exact ⟨by rw [bI_t (by grind)], rfl⟩ | exact ⟨by rw [bI_f (by grind)], rfl⟩
    · skip
      replace h35 := (lg_cmp_eq _ _).mp h35
      refine ru_iconst (v := 1) d_Mo_isAhead_38 (by decide) ?_
      refine ru_goto (tgt := 43) d_Mo_isAhead_39 (by decide) ?_
      refine ru_istore d_Mo_isAhead_43 (by decide) ?_
      refine ru_iload_n d_Mo_isAhead_45 rfl rfl ?_
      refine ru_iload d_Mo_isAhead_46 rfl ?_
      refine ru_icmp_eq (tgt := 53) d_Mo_isAhead_48 (by decide) (fun h48 => ?_) (fun h48 => absurd h48 (by decide))
      refine ru_aload_n d_Mo_isAhead_53 rfl rfl ?_
      refine ru_getR d_Mo_isAhead_54 lf_Mo_27 (ly hL 398 9 0) rfl (lr hL 398 8 404) ?_
      refine ru_bipush (v := 12) d_Mo_isAhead_57 (by decide) ?_
      refine ru_iload_n d_Mo_isAhead_59 rfl rfl ?_
      refine ru_imul d_Mo_isAhead_60 ?_
      refine ru_eqi (nm_mul 12 a : _ = nI (12 * a)) ?_
      refine ru_bipush (v := 7) d_Mo_isAhead_61 (by decide) ?_
      refine ru_iadd d_Mo_isAhead_63 ?_
      refine ru_eqi (nm_add (12 * a) 7 : _ = nI ((12 * a) + 7)) ?_
      refine ru_laldN (j := ((12 * a) + 7)) d_Mo_isAhead_64 (ly hL 404 104 1440) (by omega) (by decide) ?_
      refine ru_aload_n d_Mo_isAhead_65 rfl rfl ?_
      refine ru_getR d_Mo_isAhead_66 lf_Mo_27 (ly hL 398 9 0) rfl (lr hL 398 8 404) ?_
      refine ru_bipush (v := 12) d_Mo_isAhead_69 (by decide) ?_
      refine ru_iload_n d_Mo_isAhead_71 rfl rfl ?_
      refine ru_imul d_Mo_isAhead_72 ?_
      refine ru_eqi (nm_mul 12 b : _ = nI (12 * b)) ?_
      refine ru_bipush (v := 7) d_Mo_isAhead_73 (by decide) ?_
      refine ru_iadd d_Mo_isAhead_75 ?_
      refine ru_eqi (nm_add (12 * b) 7 : _ = nI ((12 * b) + 7)) ?_
      refine ru_laldN (j := ((12 * b) + 7)) d_Mo_isAhead_76 (ly hL 404 104 1440) (by omega) (by decide) ?_
      refine ru_lsub d_Mo_isAhead_77 ?_
      refine ru_lstore d_Mo_isAhead_78 (by decide) ?_
      refine ru_lload d_Mo_isAhead_80 rfl ?_
      refine ru_lconst (v := 0) d_Mo_isAhead_82 (by decide) ?_
      refine ru_lcmp d_Mo_isAhead_83 ?_
      refine ru_if_eq (tgt := 102) d_Mo_isAhead_84 (by decide) (fun h84 => ?_) (fun h84 => ?_)
      · skip
        replace h84 := (lg_cmp_eq _ _).mp h84
        refine ru_iload_n d_Mo_isAhead_102 rfl rfl ?_
        refine ru_iload_n d_Mo_isAhead_103 rfl rfl ?_
        refine ru_icmp_le (tgt := 111) d_Mo_isAhead_104 (by decide) (fun h104 => ?_) (fun h104 => ?_)
        · skip
          replace h104 := nm_le (a := a) (b := b) (by omega) (by omega) h104
          refine ru_iconst (v := 0) d_Mo_isAhead_111 (by decide) ?_
          refine ru_zret (ty := .boolean) d_Mo_isAhead_112 rfl rfl ?_
          first | exact ⟨by rw [bI_t (by grind)], rfl⟩ | exact ⟨by rw [bI_f (by grind)], rfl⟩
        · skip
          replace h104 := nm_nle (a := a) (b := b) (by omega) (by omega) h104
          refine ru_iconst (v := 1) d_Mo_isAhead_107 (by decide) ?_
          refine ru_goto (tgt := 112) d_Mo_isAhead_108 (by decide) ?_
          refine ru_zret (ty := .boolean) d_Mo_isAhead_112 rfl rfl ?_
          first | exact ⟨by rw [bI_t (by grind)], rfl⟩ | exact ⟨by rw [bI_f (by grind)], rfl⟩
      · skip
        replace h84 := fun q => h84 ((lg_cmp_eq _ _).mpr q)
        refine ru_lload d_Mo_isAhead_87 rfl ?_
        refine ru_lconst (v := 0) d_Mo_isAhead_89 (by decide) ?_
        refine ru_lcmp d_Mo_isAhead_90 ?_
        refine ru_if_le (tgt := 98) d_Mo_isAhead_91 (by decide) (fun h91 => ?_) (fun h91 => ?_)
        · skip
          replace h91 := (lg_cmp_le _ _).mp h91
          refine ru_iconst (v := 0) d_Mo_isAhead_98 (by decide) ?_
          refine ru_goto (tgt := 112) d_Mo_isAhead_99 (by decide) ?_
          refine ru_zret (ty := .boolean) d_Mo_isAhead_112 rfl rfl ?_
          first | exact ⟨by rw [bI_t (by grind)], rfl⟩ | exact ⟨by rw [bI_f (by grind)], rfl⟩
        · skip
          replace h91 := fun q => h91 ((lg_cmp_le _ _).mpr q)
          refine ru_iconst (v := 1) d_Mo_isAhead_94 (by decide) ?_
          refine ru_goto (tgt := 112) d_Mo_isAhead_95 (by decide) ?_
          refine ru_zret (ty := .boolean) d_Mo_isAhead_112 rfl rfl ?_
          first | exact ⟨by rw [bI_t (by grind)], rfl⟩ | exact ⟨by rw [bI_f (by grind)], rfl⟩
theorem sp_Mo_isLike {a b p q : Nat} (hL : LAY nx ct mr) (ha : a < 60) (hb : b < 60) (hp : p < 11) (hq : q < 11) : rx_Calls y_Mo_isLike M_Mo_isLike 0 0 0 [.ref 398, .int (nI a), .int (nI p), .int (nI b), .int (nI q)] (nx, ct, mi, ml, mr) (fun v τ => v = some (.int (bI (likeM (ml 404) (12 * a + p) (12 * b + q)))) ∧ τ = (nx, ct, mi, ml, mr)) := by
  refine rx_enter (by decide) rfl rfl (Nat.le_of_ble_eq_true rfl) ?_
  unfold likeM
  refine ru_aload_n d_Mo_isLike_0 rfl rfl ?_
  refine ru_getR d_Mo_isLike_1 lf_Mo_27 (ly hL 398 9 0) rfl (lr hL 398 8 404) ?_
  refine ru_bipush (v := 12) d_Mo_isLike_4 (by decide) ?_
  refine ru_iload_n d_Mo_isLike_6 rfl rfl ?_
  refine ru_imul d_Mo_isLike_7 ?_
  refine ru_eqi (nm_mul 12 a : _ = nI (12 * a)) ?_
  refine ru_iload_n d_Mo_isLike_8 rfl rfl ?_
  refine ru_iadd d_Mo_isLike_9 ?_
  refine ru_eqi (nm_add (12 * a) p : _ = nI ((12 * a) + p)) ?_
  refine ru_laldN (j := ((12 * a) + p)) d_Mo_isLike_10 (ly hL 404 104 1440) (by omega) (by decide) ?_
  refine ru_lconst (v := 0) d_Mo_isLike_11 (by decide) ?_
  refine ru_lcmp d_Mo_isLike_12 ?_
  refine ru_if_lt (tgt := 74) d_Mo_isLike_13 (by decide) (fun h13 => ?_) (fun h13 => ?_)
  · skip
    replace h13 := (lg_cmp_lt _ _).mp h13
    refine ru_iconst (v := 1) d_Mo_isLike_74 (by decide) ?_
    refine ru_goto (tgt := 79) d_Mo_isLike_75 (by decide) ?_
    refine ru_zret (ty := .boolean) d_Mo_isLike_79 rfl rfl ?_
    first | exact ⟨by rw [bI_t (by grind)], rfl⟩ | exact ⟨by rw [bI_f (by grind)], rfl⟩
  · skip
    replace h13 := fun q => h13 ((lg_cmp_lt _ _).mpr q)
    refine ru_aload_n d_Mo_isLike_16 rfl rfl ?_
    refine ru_getR d_Mo_isLike_17 lf_Mo_27 (ly hL 398 9 0) rfl (lr hL 398 8 404) ?_
    refine ru_bipush (v := 12) d_Mo_isLike_20 (by decide) ?_
    refine ru_iload_n d_Mo_isLike_22 rfl rfl ?_
    refine ru_imul d_Mo_isLike_23 ?_
    refine ru_eqi (nm_mul 12 a : _ = nI (12 * a)) ?_
    refine ru_iload_n d_Mo_isLike_24 rfl rfl ?_
    refine ru_iadd d_Mo_isLike_25 ?_
    refine ru_eqi (nm_add (12 * a) p : _ = nI ((12 * a) + p)) ?_
    refine ru_laldN (j := ((12 * a) + p)) d_Mo_isLike_26 (ly hL 404 104 1440) (by omega) (by decide) ?_
    refine ru_aload_n d_Mo_isLike_27 rfl rfl ?_
    refine ru_getR d_Mo_isLike_28 lf_Mo_27 (ly hL 398 9 0) rfl (lr hL 398 8 404) ?_
    refine ru_bipush (v := 12) d_Mo_isLike_31 (by decide) ?_
    refine ru_iload_n d_Mo_isLike_33 rfl rfl ?_
    refine ru_imul d_Mo_isLike_34 ?_
    refine ru_eqi (nm_mul 12 b : _ = nI (12 * b)) ?_
    refine ru_iload d_Mo_isLike_35 rfl ?_
    refine ru_iadd d_Mo_isLike_37 ?_
    refine ru_eqi (nm_add (12 * b) q : _ = nI ((12 * b) + q)) ?_
    refine ru_laldN (j := ((12 * b) + q)) d_Mo_isLike_38 (ly hL 404 104 1440) (by omega) (by decide) ?_
    refine ru_lcmp d_Mo_isLike_39 ?_
    refine ru_if_ne (tgt := 78) d_Mo_isLike_40 (by decide) (fun h40 => ?_) (fun h40 => ?_)
    · skip
      replace h40 := fun q => h40 ((lg_cmp_eq _ _).mpr q)
      refine ru_iconst (v := 0) d_Mo_isLike_78 (by decide) ?_
      refine ru_zret (ty := .boolean) d_Mo_isLike_79 rfl rfl ?_
      first | exact ⟨by rw [bI_t (by grind)], rfl⟩ | exact ⟨by rw [bI_f (by grind)], rfl⟩
    · skip
      replace h40 := (lg_cmp_eq _ _).mp h40
      refine ru_aload_n d_Mo_isLike_43 rfl rfl ?_
      refine ru_getR d_Mo_isLike_44 lf_Mo_27 (ly hL 398 9 0) rfl (lr hL 398 8 404) ?_
      refine ru_bipush (v := 12) d_Mo_isLike_47 (by decide) ?_
      refine ru_iload_n d_Mo_isLike_49 rfl rfl ?_
      refine ru_imul d_Mo_isLike_50 ?_
      refine ru_eqi (nm_mul 12 a : _ = nI (12 * a)) ?_
      refine ru_iload_n d_Mo_isLike_51 rfl rfl ?_
      refine ru_iadd d_Mo_isLike_52 ?_
      refine ru_eqi (nm_add (12 * a) p : _ = nI ((12 * a) + p)) ?_
      refine ru_iconst (v := 1) d_Mo_isLike_53 (by decide) ?_
      refine ru_iadd d_Mo_isLike_54 ?_
      refine ru_eqi (nm_add ((12 * a) + p) 1 : _ = nI (((12 * a) + p) + 1)) ?_
      refine ru_laldN (j := (((12 * a) + p) + 1)) d_Mo_isLike_55 (ly hL 404 104 1440) (by omega) (by decide) ?_
      refine ru_aload_n d_Mo_isLike_56 rfl rfl ?_
      refine ru_getR d_Mo_isLike_57 lf_Mo_27 (ly hL 398 9 0) rfl (lr hL 398 8 404) ?_
      refine ru_bipush (v := 12) d_Mo_isLike_60 (by decide) ?_
      refine ru_iload_n d_Mo_isLike_62 rfl rfl ?_
      refine ru_imul d_Mo_isLike_63 ?_
      refine ru_eqi (nm_mul 12 b : _ = nI (12 * b)) ?_
      refine ru_iload d_Mo_isLike_64 rfl ?_
      refine ru_iadd d_Mo_isLike_66 ?_
      refine ru_eqi (nm_add (12 * b) q : _ = nI ((12 * b) + q)) ?_
      refine ru_iconst (v := 1) d_Mo_isLike_67 (by decide) ?_
      refine ru_iadd d_Mo_isLike_68 ?_
      refine ru_eqi (nm_add ((12 * b) + q) 1 : _ = nI (((12 * b) + q) + 1)) ?_
      refine ru_laldN (j := (((12 * b) + q) + 1)) d_Mo_isLike_69 (ly hL 404 104 1440) (by omega) (by decide) ?_
      refine ru_lcmp d_Mo_isLike_70 ?_
      refine ru_if_ne (tgt := 78) d_Mo_isLike_71 (by decide) (fun h71 => ?_) (fun h71 => ?_)
      · skip
        replace h71 := fun q => h71 ((lg_cmp_eq _ _).mpr q)
        refine ru_iconst (v := 0) d_Mo_isLike_78 (by decide) ?_
        refine ru_zret (ty := .boolean) d_Mo_isLike_79 rfl rfl ?_
        first | exact ⟨by rw [bI_t (by grind)], rfl⟩ | exact ⟨by rw [bI_f (by grind)], rfl⟩
      · skip
        replace h71 := (lg_cmp_eq _ _).mp h71
        refine ru_iconst (v := 1) d_Mo_isLike_74 (by decide) ?_
        refine ru_goto (tgt := 79) d_Mo_isLike_75 (by decide) ?_
        refine ru_zret (ty := .boolean) d_Mo_isLike_79 rfl rfl ?_
        first | exact ⟨by rw [bI_t (by grind)], rfl⟩ | exact ⟨by rw [bI_f (by grind)], rfl⟩
theorem sp_Mo_holds {za zb : Int32} (hL : LAY nx ct mr) (ha : isArea za) (hb : isArea zb) : rx_Calls y_Mo_holds M_Mo_holds 0 0 0 [.ref 398, .long za.toInt64, .long zb.toInt64] (nx, ct, mi, ml, mr) (fun v τ => v = some (.int (bI (holdsM (mi 402) (ml 403) za zb))) ∧ τ = (nx, ct, mi, ml, mr)) := by
  refine rx_enter (by decide) rfl rfl (Nat.le_of_ble_eq_true rfl) ?_
  unfold holdsM
  refine ru_lload_n d_Mo_holds_0 rfl rfl ?_
  refine ru_lconst (v := 0) d_Mo_holds_1 (by decide) ?_
  refine ru_lcmp d_Mo_holds_2 ?_
  refine ru_if_lt (tgt := 12) d_Mo_holds_3 (by decide) (fun h3 => ?_) (fun h3 => ?_)
  · skip
    replace h3 := (lg_cmp_lt _ _).mp h3
    refine ru_iconst (v := 1) d_Mo_holds_12 (by decide) ?_
    refine ru_zret (ty := .boolean) d_Mo_holds_13 rfl rfl ?_
    first | exact ⟨by rw [bI_t (by grind)], rfl⟩ | exact ⟨by rw [bI_f (by grind)], rfl⟩
  · skip
    replace h3 := fun q => h3 ((lg_cmp_lt _ _).mpr q)
    refine ru_lload_n d_Mo_holds_6 rfl rfl ?_
    refine ru_lload_n d_Mo_holds_7 rfl rfl ?_
    refine ru_lcmp d_Mo_holds_8 ?_
    refine ru_if_ne (tgt := 14) d_Mo_holds_9 (by decide) (fun h9 => ?_) (fun h9 => ?_)
    · skip
      replace h9 := fun q => h9 ((lg_cmp_eq _ _).mpr q)
      refine ru_lload_n d_Mo_holds_14 rfl rfl ?_
      refine ru_lconst (v := 0) d_Mo_holds_15 (by decide) ?_
      refine ru_lcmp d_Mo_holds_16 ?_
      refine ru_if_lt (tgt := 40) d_Mo_holds_17 (by decide) (fun h17 => ?_) (fun h17 => ?_)
      · skip
        replace h17 := (lg_cmp_lt _ _).mp h17
        refine ru_iconst (v := 0) d_Mo_holds_40 (by decide) ?_
        refine ru_zret (ty := .boolean) d_Mo_holds_41 rfl rfl ?_
        first | exact ⟨by rw [bI_t (by grind)], rfl⟩ | exact ⟨by rw [bI_f (by grind)], rfl⟩
      · skip
        replace h17 := fun q => h17 ((lg_cmp_lt _ _).mpr q)
        refine ru_aload_n d_Mo_holds_20 rfl rfl ?_
        refine ru_getR d_Mo_holds_21 lf_Mo_19 (ly hL 398 9 0) rfl (lr hL 398 5 402) ?_
        refine ru_lload_n d_Mo_holds_24 rfl rfl ?_
        refine ru_l2i d_Mo_holds_25 ?_
        refine ru_eqi (ll_32 _) ?_
        obtain ⟨x, hx, rfl⟩ := ha.pos h3
        rw [nI_clamp (show x < 2 ^ 31 by omega)]
        refine ru_eqi rfl ?_
        refine ru_zaldN (j := x) d_Mo_holds_26 (ly hL 402 102 16) (by omega) (by decide) ?_
        refine ru_if_eq (tgt := 40) d_Mo_holds_27 (by decide) (fun h27 => ?_) (fun h27 => ?_)
        · skip
          refine ru_iconst (v := 0) d_Mo_holds_40 (by decide) ?_
          refine ru_zret (ty := .boolean) d_Mo_holds_41 rfl rfl ?_
          first | exact ⟨by rw [bI_t (by grind)], rfl⟩ | exact ⟨by rw [bI_f (by grind)], rfl⟩
        · skip
          refine ru_aload_n d_Mo_holds_30 rfl rfl ?_
          refine ru_getR d_Mo_holds_31 lf_Mo_19 (ly hL 398 9 0) rfl (lr hL 398 5 402) ?_
          refine ru_lload_n d_Mo_holds_34 rfl rfl ?_
          refine ru_l2i d_Mo_holds_35 ?_
          refine ru_eqi (ll_32 _) ?_
          obtain ⟨y, hy, rfl⟩ := hb.pos h17
          rw [nI_clamp (show y < 2 ^ 31 by omega)]
          refine ru_eqi rfl ?_
          refine ru_zaldN (j := y) d_Mo_holds_36 (ly hL 402 102 16) (by omega) (by decide) ?_
          refine ru_if_ne (tgt := 42) d_Mo_holds_37 (by decide) (fun h37 => ?_) (fun h37 => ?_)
          · skip
            refine ru_iconst (v := 4) d_Mo_holds_42 (by decide) ?_
            refine ru_lload_n d_Mo_holds_43 rfl rfl ?_
            refine ru_l2i d_Mo_holds_44 ?_
            refine ru_eqi (ll_32 _) ?_
            refine ru_imul d_Mo_holds_45 ?_
            refine ru_eqi (nm_mul 4 x : _ = nI (4 * x)) ?_
            refine ru_istore d_Mo_holds_46 (by decide) ?_
            refine ru_iconst (v := 4) d_Mo_holds_48 (by decide) ?_
            refine ru_lload_n d_Mo_holds_49 rfl rfl ?_
            refine ru_l2i d_Mo_holds_50 ?_
            refine ru_eqi (ll_32 _) ?_
            refine ru_imul d_Mo_holds_51 ?_
            refine ru_eqi (nm_mul 4 y : _ = nI (4 * y)) ?_
            refine ru_istore d_Mo_holds_52 (by decide) ?_
            refine ru_aload_n d_Mo_holds_54 rfl rfl ?_
            refine ru_getR d_Mo_holds_55 lf_Mo_23 (ly hL 398 9 0) rfl (lr hL 398 6 403) ?_
            refine ru_iload d_Mo_holds_58 rfl ?_
            refine ru_laldN (j := (4 * x)) d_Mo_holds_60 (ly hL 403 104 64) (by omega) (by decide) ?_
            refine ru_aload_n d_Mo_holds_61 rfl rfl ?_
            refine ru_getR d_Mo_holds_62 lf_Mo_23 (ly hL 398 9 0) rfl (lr hL 398 6 403) ?_
            refine ru_iload d_Mo_holds_65 rfl ?_
            refine ru_laldN (j := (4 * y)) d_Mo_holds_67 (ly hL 403 104 64) (by omega) (by decide) ?_
            refine ru_lcmp d_Mo_holds_68 ?_
            refine ru_if_gt (tgt := 142) d_Mo_holds_69 (by decide) (fun h69 => ?_) (fun h69 => ?_)
            · skip
              replace h69 := (lg_cmp_gt _ _).mp h69
              refine ru_iconst (v := 0) d_Mo_holds_142 (by decide) ?_
              refine ru_zret (ty := .boolean) d_Mo_holds_143 rfl rfl ?_
              first | exact ⟨by rw [bI_t (by grind)], rfl⟩ | exact ⟨by rw [bI_f (by grind)], rfl⟩
            · skip
              replace h69 := fun q => h69 ((lg_cmp_gt _ _).mpr q)
              refine ru_aload_n d_Mo_holds_72 rfl rfl ?_
              refine ru_getR d_Mo_holds_73 lf_Mo_23 (ly hL 398 9 0) rfl (lr hL 398 6 403) ?_
              refine ru_iload d_Mo_holds_76 rfl ?_
              refine ru_iconst (v := 1) d_Mo_holds_78 (by decide) ?_
              refine ru_iadd d_Mo_holds_79 ?_
              refine ru_eqi (nm_add (4 * x) 1 : _ = nI ((4 * x) + 1)) ?_
              refine ru_laldN (j := ((4 * x) + 1)) d_Mo_holds_80 (ly hL 403 104 64) (by omega) (by decide) ?_
              refine ru_aload_n d_Mo_holds_81 rfl rfl ?_
              refine ru_getR d_Mo_holds_82 lf_Mo_23 (ly hL 398 9 0) rfl (lr hL 398 6 403) ?_
              refine ru_iload d_Mo_holds_85 rfl ?_
              refine ru_iconst (v := 1) d_Mo_holds_87 (by decide) ?_
              refine ru_iadd d_Mo_holds_88 ?_
              refine ru_eqi (nm_add (4 * y) 1 : _ = nI ((4 * y) + 1)) ?_
              refine ru_laldN (j := ((4 * y) + 1)) d_Mo_holds_89 (ly hL 403 104 64) (by omega) (by decide) ?_
              refine ru_lcmp d_Mo_holds_90 ?_
              refine ru_if_gt (tgt := 142) d_Mo_holds_91 (by decide) (fun h91 => ?_) (fun h91 => ?_)
              · skip
                replace h91 := (lg_cmp_gt _ _).mp h91
                refine ru_iconst (v := 0) d_Mo_holds_142 (by decide) ?_
                refine ru_zret (ty := .boolean) d_Mo_holds_143 rfl rfl ?_
                first | exact ⟨by rw [bI_t (by grind)], rfl⟩ | exact ⟨by rw [bI_f (by grind)], rfl⟩
              · skip
                replace h91 := fun q => h91 ((lg_cmp_gt _ _).mpr q)
                refine ru_aload_n d_Mo_holds_94 rfl rfl ?_
                refine ru_getR d_Mo_holds_95 lf_Mo_23 (ly hL 398 9 0) rfl (lr hL 398 6 403) ?_
                refine ru_iload d_Mo_holds_98 rfl ?_
                refine ru_iconst (v := 2) d_Mo_holds_100 (by decide) ?_
                refine ru_iadd d_Mo_holds_101 ?_
                refine ru_eqi (nm_add (4 * x) 2 : _ = nI ((4 * x) + 2)) ?_
                refine ru_laldN (j := ((4 * x) + 2)) d_Mo_holds_102 (ly hL 403 104 64) (by omega) (by decide) ?_
                refine ru_aload_n d_Mo_holds_103 rfl rfl ?_
                refine ru_getR d_Mo_holds_104 lf_Mo_23 (ly hL 398 9 0) rfl (lr hL 398 6 403) ?_
                refine ru_iload d_Mo_holds_107 rfl ?_
                refine ru_iconst (v := 2) d_Mo_holds_109 (by decide) ?_
                refine ru_iadd d_Mo_holds_110 ?_
                refine ru_eqi (nm_add (4 * y) 2 : _ = nI ((4 * y) + 2)) ?_
                refine ru_laldN (j := ((4 * y) + 2)) d_Mo_holds_111 (ly hL 403 104 64) (by omega) (by decide) ?_
                refine ru_lcmp d_Mo_holds_112 ?_
                refine ru_if_lt (tgt := 142) d_Mo_holds_113 (by decide) (fun h113 => ?_) (fun h113 => ?_)
                · skip
                  replace h113 := (lg_cmp_lt _ _).mp h113
                  refine ru_iconst (v := 0) d_Mo_holds_142 (by decide) ?_
                  refine ru_zret (ty := .boolean) d_Mo_holds_143 rfl rfl ?_
                  first | exact ⟨by rw [bI_t (by grind)], rfl⟩ | exact ⟨by rw [bI_f (by grind)], rfl⟩
                · skip
                  replace h113 := fun q => h113 ((lg_cmp_lt _ _).mpr q)
                  refine ru_aload_n d_Mo_holds_116 rfl rfl ?_
                  refine ru_getR d_Mo_holds_117 lf_Mo_23 (ly hL 398 9 0) rfl (lr hL 398 6 403) ?_
                  refine ru_iload d_Mo_holds_120 rfl ?_
                  refine ru_iconst (v := 3) d_Mo_holds_122 (by decide) ?_
                  refine ru_iadd d_Mo_holds_123 ?_
                  refine ru_eqi (nm_add (4 * x) 3 : _ = nI ((4 * x) + 3)) ?_
                  refine ru_laldN (j := ((4 * x) + 3)) d_Mo_holds_124 (ly hL 403 104 64) (by omega) (by decide) ?_
                  refine ru_aload_n d_Mo_holds_125 rfl rfl ?_
                  refine ru_getR d_Mo_holds_126 lf_Mo_23 (ly hL 398 9 0) rfl (lr hL 398 6 403) ?_
                  refine ru_iload d_Mo_holds_129 rfl ?_
                  refine ru_iconst (v := 3) d_Mo_holds_131 (by decide) ?_
                  refine ru_iadd d_Mo_holds_132 ?_
                  refine ru_eqi (nm_add (4 * y) 3 : _ = nI ((4 * y) + 3)) ?_
                  refine ru_laldN (j := ((4 * y) + 3)) d_Mo_holds_133 (ly hL 403 104 64) (by omega) (by decide) ?_
                  refine ru_lcmp d_Mo_holds_134 ?_
                  refine ru_if_lt (tgt := 142) d_Mo_holds_135 (by decide) (fun h135 => ?_) (fun h135 => ?_)
                  · skip
                    replace h135 := (lg_cmp_lt _ _).mp h135
                    refine ru_iconst (v := 0) d_Mo_holds_142 (by decide) ?_
                    refine ru_zret (ty := .boolean) d_Mo_holds_143 rfl rfl ?_
                    first | exact ⟨by rw [bI_t (by grind)], rfl⟩ | exact ⟨by rw [bI_f (by grind)], rfl⟩
                  · skip
                    replace h135 := fun q => h135 ((lg_cmp_lt _ _).mpr q)
                    refine ru_iconst (v := 1) d_Mo_holds_138 (by decide) ?_
                    refine ru_goto (tgt := 143) d_Mo_holds_139 (by decide) ?_
                    refine ru_zret (ty := .boolean) d_Mo_holds_143 rfl rfl ?_
                    first | exact ⟨by rw [bI_t (by grind)], rfl⟩ | exact ⟨by rw [bI_f (by grind)], rfl⟩
          · skip
            refine ru_iconst (v := 0) d_Mo_holds_40 (by decide) ?_
            refine ru_zret (ty := .boolean) d_Mo_holds_41 rfl rfl ?_
            first | exact ⟨by rw [bI_t (by grind)], rfl⟩ | exact ⟨by rw [bI_f (by grind)], rfl⟩
    · skip
      replace h9 := (lg_cmp_eq _ _).mp h9
      refine ru_iconst (v := 1) d_Mo_holds_12 (by decide) ?_
      refine ru_zret (ty := .boolean) d_Mo_holds_13 rfl rfl ?_
      first | exact ⟨by rw [bI_t (by grind)], rfl⟩ | exact ⟨by rw [bI_f (by grind)], rfl⟩
theorem sp_Mo_covers {za zb : Int32} {a b : Nat} (hL : LAY nx ct mr) (ha : a < 60) (hb : b < 60) (hza : ml 404 (12 * a + 6) = za.toInt64) (hzb : ml 404 (12 * b + 6) = zb.toInt64) (hA : isArea za) (hB : isArea zb) : rx_Calls y_Mo_covers M_Mo_covers 1 0 0 [.ref 398, .int (nI a), .int (nI b)] (nx, ct, mi, ml, mr) (fun v τ => v = some (.int (bI (coversM (mi 402) (ml 403) (ml 404) za zb a b))) ∧ τ = (nx, ct, mi, ml, mr)) := by
  refine rx_enter (by decide) rfl rfl (Nat.le_of_ble_eq_true rfl) ?_
  unfold coversM
  have fin : ∀ g : Int32, g = bI (thingsM (ml 404) a b) → (ml 404 (12 * a) = ml 404 (12 * b) ∨ (ml 404 (12 * a) = 12 ∧ ml 404 (12 * b) = 0)) → rx_W M_Mo_covers 1 0 0 114 [(0, .ref 398), (1, .int (nI a)), (2, .int (nI b)), (7, .int g)] [] (nx, ct, mi, ml, mr) (pR (fun v τ => v = some (.int (bI ((ml 404 (12 * a) = ml 404 (12 * b) ∨ (ml 404 (12 * a) = 12 ∧ ml 404 (12 * b) = 0)) ∧ thingsM (ml 404) a b ∧ (ml 404 (12 * a + 5) = 0 ∨ ml 404 (12 * a + 5) = ml 404 (12 * b + 5)) ∧ holdsM (mi 402) (ml 403) za zb))) ∧ τ = (nx, ct, mi, ml, mr))) := by
    intro g hg hk
    subst hg
    refine ru_aload_n d_Mo_covers_114 rfl rfl ?_
    refine ru_getR d_Mo_covers_115 lf_Mo_27 (ly hL 398 9 0) rfl (lr hL 398 8 404) ?_
    refine ru_bipush (v := 12) d_Mo_covers_118 (by decide) ?_
    refine ru_iload_n d_Mo_covers_120 rfl rfl ?_
    refine ru_imul d_Mo_covers_121 ?_
    refine ru_eqi (nm_mul 12 a : _ = nI (12 * a)) ?_
    refine ru_iconst (v := 5) d_Mo_covers_122 (by decide) ?_
    refine ru_iadd d_Mo_covers_123 ?_
    refine ru_eqi (nm_add (12 * a) 5 : _ = nI ((12 * a) + 5)) ?_
    refine ru_laldN (j := ((12 * a) + 5)) d_Mo_covers_124 (ly hL 404 104 1440) (by omega) (by decide) ?_
    refine ru_lstore d_Mo_covers_125 (by decide) ?_
    refine ru_iload d_Mo_covers_127 rfl ?_
    refine ru_if_eq (tgt := 191) d_Mo_covers_129 (by decide) (fun h129 => ?_) (fun h129 => ?_)
    · skip
      replace h129 := bI_eq0.mp h129
      refine ru_iconst (v := 0) d_Mo_covers_191 (by decide) ?_
      refine ru_zret (ty := .boolean) d_Mo_covers_192 rfl rfl ?_
      first | exact ⟨by rw [bI_t (by grind)], rfl⟩ | exact ⟨by rw [bI_f (by grind)], rfl⟩
    · skip
      replace h129 := bI_ne0.mp h129
      refine ru_lload d_Mo_covers_132 rfl ?_
      refine ru_lconst (v := 0) d_Mo_covers_134 (by decide) ?_
      refine ru_lcmp d_Mo_covers_135 ?_
      refine ru_if_eq (tgt := 156) d_Mo_covers_136 (by decide) (fun h136 => ?_) (fun h136 => ?_)
      · skip
        replace h136 := (lg_cmp_eq _ _).mp h136
        refine ru_aload_n d_Mo_covers_156 rfl rfl ?_
        refine ru_aload_n d_Mo_covers_157 rfl rfl ?_
        refine ru_getR d_Mo_covers_158 lf_Mo_27 (ly hL 398 9 0) rfl (lr hL 398 8 404) ?_
        refine ru_bipush (v := 12) d_Mo_covers_161 (by decide) ?_
        refine ru_iload_n d_Mo_covers_163 rfl rfl ?_
        refine ru_imul d_Mo_covers_164 ?_
        refine ru_eqi (nm_mul 12 a : _ = nI (12 * a)) ?_
        refine ru_bipush (v := 6) d_Mo_covers_165 (by decide) ?_
        refine ru_iadd d_Mo_covers_167 ?_
        refine ru_eqi (nm_add (12 * a) 6 : _ = nI ((12 * a) + 6)) ?_
        refine ru_laldN (j := ((12 * a) + 6)) d_Mo_covers_168 (ly hL 404 104 1440) (by omega) (by decide) ?_
        refine ru_eql hza ?_
        refine ru_aload_n d_Mo_covers_169 rfl rfl ?_
        refine ru_getR d_Mo_covers_170 lf_Mo_27 (ly hL 398 9 0) rfl (lr hL 398 8 404) ?_
        refine ru_bipush (v := 12) d_Mo_covers_173 (by decide) ?_
        refine ru_iload_n d_Mo_covers_175 rfl rfl ?_
        refine ru_imul d_Mo_covers_176 ?_
        refine ru_eqi (nm_mul 12 b : _ = nI (12 * b)) ?_
        refine ru_bipush (v := 6) d_Mo_covers_177 (by decide) ?_
        refine ru_iadd d_Mo_covers_179 ?_
        refine ru_eqi (nm_add (12 * b) 6 : _ = nI ((12 * b) + 6)) ?_
        refine ru_laldN (j := ((12 * b) + 6)) d_Mo_covers_180 (ly hL 404 104 1440) (by omega) (by decide) ?_
        refine ru_eql hzb ?_
        refine ru_callV (mc := 0) (ms := 0) d_Mo_covers_181 lm_Mo_205 (sp_Mo_holds hL hA hB) (rx_recv_is (ly hL 398 9 0) kx_Mo) (by decide) rfl (by decide) ?_
        intro v τ h
        obtain ⟨rfl, rfl⟩ := h
        refine ru_if_eq (tgt := 191) d_Mo_covers_184 (by decide) (fun h184 => ?_) (fun h184 => ?_)
        · skip
          replace h184 := bI_eq0.mp h184
          refine ru_iconst (v := 0) d_Mo_covers_191 (by decide) ?_
          refine ru_zret (ty := .boolean) d_Mo_covers_192 rfl rfl ?_
          first | exact ⟨by rw [bI_t (by grind)], rfl⟩ | exact ⟨by rw [bI_f (by grind)], rfl⟩
        · skip
          replace h184 := bI_ne0.mp h184
          refine ru_iconst (v := 1) d_Mo_covers_187 (by decide) ?_
          refine ru_goto (tgt := 192) d_Mo_covers_188 (by decide) ?_
          refine ru_zret (ty := .boolean) d_Mo_covers_192 rfl rfl ?_
          first | exact ⟨by rw [bI_t (by grind)], rfl⟩ | exact ⟨by rw [bI_f (by grind)], rfl⟩
      · skip
        replace h136 := fun q => h136 ((lg_cmp_eq _ _).mpr q)
        refine ru_lload d_Mo_covers_139 rfl ?_
        refine ru_aload_n d_Mo_covers_141 rfl rfl ?_
        refine ru_getR d_Mo_covers_142 lf_Mo_27 (ly hL 398 9 0) rfl (lr hL 398 8 404) ?_
        refine ru_bipush (v := 12) d_Mo_covers_145 (by decide) ?_
        refine ru_iload_n d_Mo_covers_147 rfl rfl ?_
        refine ru_imul d_Mo_covers_148 ?_
        refine ru_eqi (nm_mul 12 b : _ = nI (12 * b)) ?_
        refine ru_iconst (v := 5) d_Mo_covers_149 (by decide) ?_
        refine ru_iadd d_Mo_covers_150 ?_
        refine ru_eqi (nm_add (12 * b) 5 : _ = nI ((12 * b) + 5)) ?_
        refine ru_laldN (j := ((12 * b) + 5)) d_Mo_covers_151 (ly hL 404 104 1440) (by omega) (by decide) ?_
        refine ru_lcmp d_Mo_covers_152 ?_
        refine ru_if_ne (tgt := 191) d_Mo_covers_153 (by decide) (fun h153 => ?_) (fun h153 => ?_)
        · skip
          replace h153 := fun q => h153 ((lg_cmp_eq _ _).mpr q)
          refine ru_iconst (v := 0) d_Mo_covers_191 (by decide) ?_
          refine ru_zret (ty := .boolean) d_Mo_covers_192 rfl rfl ?_
          first | exact ⟨by rw [bI_t (by grind)], rfl⟩ | exact ⟨by rw [bI_f (by grind)], rfl⟩
        · skip
          replace h153 := (lg_cmp_eq _ _).mp h153
          refine ru_aload_n d_Mo_covers_156 rfl rfl ?_
          refine ru_aload_n d_Mo_covers_157 rfl rfl ?_
          refine ru_getR d_Mo_covers_158 lf_Mo_27 (ly hL 398 9 0) rfl (lr hL 398 8 404) ?_
          refine ru_bipush (v := 12) d_Mo_covers_161 (by decide) ?_
          refine ru_iload_n d_Mo_covers_163 rfl rfl ?_
          refine ru_imul d_Mo_covers_164 ?_
          refine ru_eqi (nm_mul 12 a : _ = nI (12 * a)) ?_
          refine ru_bipush (v := 6) d_Mo_covers_165 (by decide) ?_
          refine ru_iadd d_Mo_covers_167 ?_
          refine ru_eqi (nm_add (12 * a) 6 : _ = nI ((12 * a) + 6)) ?_
          refine ru_laldN (j := ((12 * a) + 6)) d_Mo_covers_168 (ly hL 404 104 1440) (by omega) (by decide) ?_
          refine ru_eql hza ?_
          refine ru_aload_n d_Mo_covers_169 rfl rfl ?_
          refine ru_getR d_Mo_covers_170 lf_Mo_27 (ly hL 398 9 0) rfl (lr hL 398 8 404) ?_
          refine ru_bipush (v := 12) d_Mo_covers_173 (by decide) ?_
          refine ru_iload_n d_Mo_covers_175 rfl rfl ?_
          refine ru_imul d_Mo_covers_176 ?_
          refine ru_eqi (nm_mul 12 b : _ = nI (12 * b)) ?_
          refine ru_bipush (v := 6) d_Mo_covers_177 (by decide) ?_
          refine ru_iadd d_Mo_covers_179 ?_
          refine ru_eqi (nm_add (12 * b) 6 : _ = nI ((12 * b) + 6)) ?_
          refine ru_laldN (j := ((12 * b) + 6)) d_Mo_covers_180 (ly hL 404 104 1440) (by omega) (by decide) ?_
          refine ru_eql hzb ?_
          refine ru_callV (mc := 0) (ms := 0) d_Mo_covers_181 lm_Mo_205 (sp_Mo_holds hL hA hB) (rx_recv_is (ly hL 398 9 0) kx_Mo) (by decide) rfl (by decide) ?_
          intro v τ h
          obtain ⟨rfl, rfl⟩ := h
          refine ru_if_eq (tgt := 191) d_Mo_covers_184 (by decide) (fun h184 => ?_) (fun h184 => ?_)
          · skip
            replace h184 := bI_eq0.mp h184
            refine ru_iconst (v := 0) d_Mo_covers_191 (by decide) ?_
            refine ru_zret (ty := .boolean) d_Mo_covers_192 rfl rfl ?_
            first | exact ⟨by rw [bI_t (by grind)], rfl⟩ | exact ⟨by rw [bI_f (by grind)], rfl⟩
          · skip
            replace h184 := bI_ne0.mp h184
            refine ru_iconst (v := 1) d_Mo_covers_187 (by decide) ?_
            refine ru_goto (tgt := 192) d_Mo_covers_188 (by decide) ?_
            refine ru_zret (ty := .boolean) d_Mo_covers_192 rfl rfl ?_
            first | exact ⟨by rw [bI_t (by grind)], rfl⟩ | exact ⟨by rw [bI_f (by grind)], rfl⟩
  refine ru_aload_n d_Mo_covers_0 rfl rfl ?_
  refine ru_getR d_Mo_covers_1 lf_Mo_27 (ly hL 398 9 0) rfl (lr hL 398 8 404) ?_
  refine ru_bipush (v := 12) d_Mo_covers_4 (by decide) ?_
  refine ru_iload_n d_Mo_covers_6 rfl rfl ?_
  refine ru_imul d_Mo_covers_7 ?_
  refine ru_eqi (nm_mul 12 a : _ = nI (12 * a)) ?_
  refine ru_laldN (j := (12 * a)) d_Mo_covers_8 (ly hL 404 104 1440) (by omega) (by decide) ?_
  refine ru_lstore_n d_Mo_covers_9 rfl (by decide) ?_
  refine ru_aload_n d_Mo_covers_10 rfl rfl ?_
  refine ru_getR d_Mo_covers_11 lf_Mo_27 (ly hL 398 9 0) rfl (lr hL 398 8 404) ?_
  refine ru_bipush (v := 12) d_Mo_covers_14 (by decide) ?_
  refine ru_iload_n d_Mo_covers_16 rfl rfl ?_
  refine ru_imul d_Mo_covers_17 ?_
  refine ru_eqi (nm_mul 12 b : _ = nI (12 * b)) ?_
  refine ru_laldN (j := (12 * b)) d_Mo_covers_18 (ly hL 404 104 1440) (by omega) (by decide) ?_
  refine ru_lstore d_Mo_covers_19 (by decide) ?_
  refine ru_lload_n d_Mo_covers_21 rfl rfl ?_
  refine ru_lload d_Mo_covers_22 rfl ?_
  refine ru_lcmp d_Mo_covers_24 ?_
  refine ru_if_eq (tgt := 45) d_Mo_covers_25 (by decide) (fun h25 => ?_) (fun h25 => ?_)
  · skip
    replace h25 := (lg_cmp_eq _ _).mp h25
    refine ru_aload_n d_Mo_covers_45 rfl rfl ?_
    refine ru_iload_n d_Mo_covers_46 rfl rfl ?_
    refine ru_iconst (v := 1) d_Mo_covers_47 (by decide) ?_
    refine ru_iload_n d_Mo_covers_48 rfl rfl ?_
    refine ru_iconst (v := 1) d_Mo_covers_49 (by decide) ?_
    refine ru_callV (mc := 0) (ms := 0) d_Mo_covers_50 lm_Mo_201 (sp_Mo_isLike hL ha hb (by decide) (by decide)) (rx_recv_is (ly hL 398 9 0) kx_Mo) (by decide) rfl (by decide) ?_
    intro v τ h
    obtain ⟨rfl, rfl⟩ := h
    refine ru_istore d_Mo_covers_53 (by decide) ?_
    refine ru_lload_n d_Mo_covers_55 rfl rfl ?_
    refine ru_lconst (v := 0) d_Mo_covers_56 (by decide) ?_
    refine ru_lcmp d_Mo_covers_57 ?_
    refine ru_if_eq (tgt := 69) d_Mo_covers_58 (by decide) (fun h58 => ?_) (fun h58 => ?_)
    · skip
      replace h58 := (lg_cmp_eq _ _).mp h58
      refine ru_iload d_Mo_covers_69 rfl ?_
      refine ru_if_eq (tgt := 85) d_Mo_covers_71 (by decide) (fun h71 => ?_) (fun h71 => ?_)
      · skip
        replace h71 := bI_eq0.mp h71
        refine ru_aload_n d_Mo_covers_85 rfl rfl ?_
        refine ru_iload_n d_Mo_covers_86 rfl rfl ?_
        refine ru_iconst (v := 1) d_Mo_covers_87 (by decide) ?_
        refine ru_iload_n d_Mo_covers_88 rfl rfl ?_
        refine ru_iconst (v := 3) d_Mo_covers_89 (by decide) ?_
        refine ru_callV (mc := 0) (ms := 0) d_Mo_covers_90 lm_Mo_201 (sp_Mo_isLike hL ha hb (by decide) (by decide)) (rx_recv_is (ly hL 398 9 0) kx_Mo) (by decide) rfl (by decide) ?_
        intro v τ h
        obtain ⟨rfl, rfl⟩ := h
        refine ru_if_eq (tgt := 111) d_Mo_covers_93 (by decide) (fun h93 => ?_) (fun h93 => ?_)
        · skip
          replace h93 := bI_eq0.mp h93
          refine ru_iconst (v := 0) d_Mo_covers_111 (by decide) ?_
          refine ru_istore d_Mo_covers_112 (by decide) ?_
          refine ru_to (fin _ ?_ (by grind)) ⟨rfl, rfl, rfl, rfl, trivial⟩
          unfold thingsM
          first | (rw [bI_t (by grind)]; done) | (rw [bI_f (by grind)]; done) | exact bI_congr (by grind)
        · skip
          replace h93 := bI_ne0.mp h93
          refine ru_aload_n d_Mo_covers_96 rfl rfl ?_
          refine ru_iload_n d_Mo_covers_97 rfl rfl ?_
          refine ru_iconst (v := 3) d_Mo_covers_98 (by decide) ?_
          refine ru_iload_n d_Mo_covers_99 rfl rfl ?_
          refine ru_iconst (v := 1) d_Mo_covers_100 (by decide) ?_
          refine ru_callV (mc := 0) (ms := 0) d_Mo_covers_101 lm_Mo_201 (sp_Mo_isLike hL ha hb (by decide) (by decide)) (rx_recv_is (ly hL 398 9 0) kx_Mo) (by decide) rfl (by decide) ?_
          intro v τ h
          obtain ⟨rfl, rfl⟩ := h
          refine ru_if_eq (tgt := 111) d_Mo_covers_104 (by decide) (fun h104 => ?_) (fun h104 => ?_)
          · skip
            replace h104 := bI_eq0.mp h104
            refine ru_iconst (v := 0) d_Mo_covers_111 (by decide) ?_
            refine ru_istore d_Mo_covers_112 (by decide) ?_
            refine ru_to (fin _ ?_ (by grind)) ⟨rfl, rfl, rfl, rfl, trivial⟩
            unfold thingsM
            first | (rw [bI_t (by grind)]; done) | (rw [bI_f (by grind)]; done) | exact bI_congr (by grind)
          · skip
            replace h104 := bI_ne0.mp h104
            refine ru_iconst (v := 1) d_Mo_covers_107 (by decide) ?_
            refine ru_goto (tgt := 112) d_Mo_covers_108 (by decide) ?_
            refine ru_istore d_Mo_covers_112 (by decide) ?_
            refine ru_to (fin _ ?_ (by grind)) ⟨rfl, rfl, rfl, rfl, trivial⟩
            unfold thingsM
            first | (rw [bI_t (by grind)]; done) | (rw [bI_f (by grind)]; done) | exact bI_congr (by grind)
      · skip
        replace h71 := bI_ne0.mp h71
        refine ru_aload_n d_Mo_covers_74 rfl rfl ?_
        refine ru_iload_n d_Mo_covers_75 rfl rfl ?_
        refine ru_iconst (v := 3) d_Mo_covers_76 (by decide) ?_
        refine ru_iload_n d_Mo_covers_77 rfl rfl ?_
        refine ru_iconst (v := 3) d_Mo_covers_78 (by decide) ?_
        refine ru_callV (mc := 0) (ms := 0) d_Mo_covers_79 lm_Mo_201 (sp_Mo_isLike hL ha hb (by decide) (by decide)) (rx_recv_is (ly hL 398 9 0) kx_Mo) (by decide) rfl (by decide) ?_
        intro v τ h
        obtain ⟨rfl, rfl⟩ := h
        refine ru_if_ne (tgt := 107) d_Mo_covers_82 (by decide) (fun h82 => ?_) (fun h82 => ?_)
        · skip
          replace h82 := bI_ne0.mp h82
          refine ru_iconst (v := 1) d_Mo_covers_107 (by decide) ?_
          refine ru_goto (tgt := 112) d_Mo_covers_108 (by decide) ?_
          refine ru_istore d_Mo_covers_112 (by decide) ?_
          refine ru_to (fin _ ?_ (by grind)) ⟨rfl, rfl, rfl, rfl, trivial⟩
          unfold thingsM
          first | (rw [bI_t (by grind)]; done) | (rw [bI_f (by grind)]; done) | exact bI_congr (by grind)
        · skip
          replace h82 := bI_eq0.mp h82
          refine ru_aload_n d_Mo_covers_85 rfl rfl ?_
          refine ru_iload_n d_Mo_covers_86 rfl rfl ?_
          refine ru_iconst (v := 1) d_Mo_covers_87 (by decide) ?_
          refine ru_iload_n d_Mo_covers_88 rfl rfl ?_
          refine ru_iconst (v := 3) d_Mo_covers_89 (by decide) ?_
          refine ru_callV (mc := 0) (ms := 0) d_Mo_covers_90 lm_Mo_201 (sp_Mo_isLike hL ha hb (by decide) (by decide)) (rx_recv_is (ly hL 398 9 0) kx_Mo) (by decide) rfl (by decide) ?_
          intro v τ h
          obtain ⟨rfl, rfl⟩ := h
          refine ru_if_eq (tgt := 111) d_Mo_covers_93 (by decide) (fun h93 => ?_) (fun h93 => ?_)
          · skip
            replace h93 := bI_eq0.mp h93
            refine ru_iconst (v := 0) d_Mo_covers_111 (by decide) ?_
            refine ru_istore d_Mo_covers_112 (by decide) ?_
            refine ru_to (fin _ ?_ (by grind)) ⟨rfl, rfl, rfl, rfl, trivial⟩
            unfold thingsM
            first | (rw [bI_t (by grind)]; done) | (rw [bI_f (by grind)]; done) | exact bI_congr (by grind)
          · skip
            replace h93 := bI_ne0.mp h93
            refine ru_aload_n d_Mo_covers_96 rfl rfl ?_
            refine ru_iload_n d_Mo_covers_97 rfl rfl ?_
            refine ru_iconst (v := 3) d_Mo_covers_98 (by decide) ?_
            refine ru_iload_n d_Mo_covers_99 rfl rfl ?_
            refine ru_iconst (v := 1) d_Mo_covers_100 (by decide) ?_
            refine ru_callV (mc := 0) (ms := 0) d_Mo_covers_101 lm_Mo_201 (sp_Mo_isLike hL ha hb (by decide) (by decide)) (rx_recv_is (ly hL 398 9 0) kx_Mo) (by decide) rfl (by decide) ?_
            intro v τ h
            obtain ⟨rfl, rfl⟩ := h
            refine ru_if_eq (tgt := 111) d_Mo_covers_104 (by decide) (fun h104 => ?_) (fun h104 => ?_)
            · skip
              replace h104 := bI_eq0.mp h104
              refine ru_iconst (v := 0) d_Mo_covers_111 (by decide) ?_
              refine ru_istore d_Mo_covers_112 (by decide) ?_
              refine ru_to (fin _ ?_ (by grind)) ⟨rfl, rfl, rfl, rfl, trivial⟩
              unfold thingsM
              first | (rw [bI_t (by grind)]; done) | (rw [bI_f (by grind)]; done) | exact bI_congr (by grind)
            · skip
              replace h104 := bI_ne0.mp h104
              refine ru_iconst (v := 1) d_Mo_covers_107 (by decide) ?_
              refine ru_goto (tgt := 112) d_Mo_covers_108 (by decide) ?_
              refine ru_istore d_Mo_covers_112 (by decide) ?_
              refine ru_to (fin _ ?_ (by grind)) ⟨rfl, rfl, rfl, rfl, trivial⟩
              unfold thingsM
              first | (rw [bI_t (by grind)]; done) | (rw [bI_f (by grind)]; done) | exact bI_congr (by grind)
    · skip
      replace h58 := fun q => h58 ((lg_cmp_eq _ _).mpr q)
      refine ru_lload_n d_Mo_covers_61 rfl rfl ?_
      refine ru_ldc2 d_Mo_covers_62 lc_Mo_195 ?_
      refine ru_lcmp d_Mo_covers_65 ?_
      refine ru_if_ne (tgt := 114) d_Mo_covers_66 (by decide) (fun h66 => ?_) (fun h66 => ?_)
      · skip
        replace h66 := fun q => h66 ((lg_cmp_eq _ _).mpr q)
        refine ru_to (fin _ ?_ (by grind)) ⟨rfl, rfl, rfl, rfl, trivial⟩
        unfold thingsM
        first | (rw [bI_t (by grind)]; done) | (rw [bI_f (by grind)]; done) | exact bI_congr (by grind)
      · skip
        replace h66 := (lg_cmp_eq _ _).mp h66
        refine ru_iload d_Mo_covers_69 rfl ?_
        refine ru_if_eq (tgt := 85) d_Mo_covers_71 (by decide) (fun h71 => ?_) (fun h71 => ?_)
        · skip
          replace h71 := bI_eq0.mp h71
          refine ru_aload_n d_Mo_covers_85 rfl rfl ?_
          refine ru_iload_n d_Mo_covers_86 rfl rfl ?_
          refine ru_iconst (v := 1) d_Mo_covers_87 (by decide) ?_
          refine ru_iload_n d_Mo_covers_88 rfl rfl ?_
          refine ru_iconst (v := 3) d_Mo_covers_89 (by decide) ?_
          refine ru_callV (mc := 0) (ms := 0) d_Mo_covers_90 lm_Mo_201 (sp_Mo_isLike hL ha hb (by decide) (by decide)) (rx_recv_is (ly hL 398 9 0) kx_Mo) (by decide) rfl (by decide) ?_
          intro v τ h
          obtain ⟨rfl, rfl⟩ := h
          refine ru_if_eq (tgt := 111) d_Mo_covers_93 (by decide) (fun h93 => ?_) (fun h93 => ?_)
          · skip
            replace h93 := bI_eq0.mp h93
            refine ru_iconst (v := 0) d_Mo_covers_111 (by decide) ?_
            refine ru_istore d_Mo_covers_112 (by decide) ?_
            refine ru_to (fin _ ?_ (by grind)) ⟨rfl, rfl, rfl, rfl, trivial⟩
            unfold thingsM
            first | (rw [bI_t (by grind)]; done) | (rw [bI_f (by grind)]; done) | exact bI_congr (by grind)
          · skip
            replace h93 := bI_ne0.mp h93
            refine ru_aload_n d_Mo_covers_96 rfl rfl ?_
            refine ru_iload_n d_Mo_covers_97 rfl rfl ?_
            refine ru_iconst (v := 3) d_Mo_covers_98 (by decide) ?_
            refine ru_iload_n d_Mo_covers_99 rfl rfl ?_
            refine ru_iconst (v := 1) d_Mo_covers_100 (by decide) ?_
            refine ru_callV (mc := 0) (ms := 0) d_Mo_covers_101 lm_Mo_201 (sp_Mo_isLike hL ha hb (by decide) (by decide)) (rx_recv_is (ly hL 398 9 0) kx_Mo) (by decide) rfl (by decide) ?_
            intro v τ h
            obtain ⟨rfl, rfl⟩ := h
            refine ru_if_eq (tgt := 111) d_Mo_covers_104 (by decide) (fun h104 => ?_) (fun h104 => ?_)
            · skip
              replace h104 := bI_eq0.mp h104
              refine ru_iconst (v := 0) d_Mo_covers_111 (by decide) ?_
              refine ru_istore d_Mo_covers_112 (by decide) ?_
              refine ru_to (fin _ ?_ (by grind)) ⟨rfl, rfl, rfl, rfl, trivial⟩
              unfold thingsM
              first | (rw [bI_t (by grind)]; done) | (rw [bI_f (by grind)]; done) | exact bI_congr (by grind)
            · skip
              replace h104 := bI_ne0.mp h104
              refine ru_iconst (v := 1) d_Mo_covers_107 (by decide) ?_
              refine ru_goto (tgt := 112) d_Mo_covers_108 (by decide) ?_
              refine ru_istore d_Mo_covers_112 (by decide) ?_
              refine ru_to (fin _ ?_ (by grind)) ⟨rfl, rfl, rfl, rfl, trivial⟩
              unfold thingsM
              first | (rw [bI_t (by grind)]; done) | (rw [bI_f (by grind)]; done) | exact bI_congr (by grind)
        · skip
          replace h71 := bI_ne0.mp h71
          refine ru_aload_n d_Mo_covers_74 rfl rfl ?_
          refine ru_iload_n d_Mo_covers_75 rfl rfl ?_
          refine ru_iconst (v := 3) d_Mo_covers_76 (by decide) ?_
          refine ru_iload_n d_Mo_covers_77 rfl rfl ?_
          refine ru_iconst (v := 3) d_Mo_covers_78 (by decide) ?_
          refine ru_callV (mc := 0) (ms := 0) d_Mo_covers_79 lm_Mo_201 (sp_Mo_isLike hL ha hb (by decide) (by decide)) (rx_recv_is (ly hL 398 9 0) kx_Mo) (by decide) rfl (by decide) ?_
          intro v τ h
          obtain ⟨rfl, rfl⟩ := h
          refine ru_if_ne (tgt := 107) d_Mo_covers_82 (by decide) (fun h82 => ?_) (fun h82 => ?_)
          · skip
            replace h82 := bI_ne0.mp h82
            refine ru_iconst (v := 1) d_Mo_covers_107 (by decide) ?_
            refine ru_goto (tgt := 112) d_Mo_covers_108 (by decide) ?_
            refine ru_istore d_Mo_covers_112 (by decide) ?_
            refine ru_to (fin _ ?_ (by grind)) ⟨rfl, rfl, rfl, rfl, trivial⟩
            unfold thingsM
            first | (rw [bI_t (by grind)]; done) | (rw [bI_f (by grind)]; done) | exact bI_congr (by grind)
          · skip
            replace h82 := bI_eq0.mp h82
            refine ru_aload_n d_Mo_covers_85 rfl rfl ?_
            refine ru_iload_n d_Mo_covers_86 rfl rfl ?_
            refine ru_iconst (v := 1) d_Mo_covers_87 (by decide) ?_
            refine ru_iload_n d_Mo_covers_88 rfl rfl ?_
            refine ru_iconst (v := 3) d_Mo_covers_89 (by decide) ?_
            refine ru_callV (mc := 0) (ms := 0) d_Mo_covers_90 lm_Mo_201 (sp_Mo_isLike hL ha hb (by decide) (by decide)) (rx_recv_is (ly hL 398 9 0) kx_Mo) (by decide) rfl (by decide) ?_
            intro v τ h
            obtain ⟨rfl, rfl⟩ := h
            refine ru_if_eq (tgt := 111) d_Mo_covers_93 (by decide) (fun h93 => ?_) (fun h93 => ?_)
            · skip
              replace h93 := bI_eq0.mp h93
              refine ru_iconst (v := 0) d_Mo_covers_111 (by decide) ?_
              refine ru_istore d_Mo_covers_112 (by decide) ?_
              refine ru_to (fin _ ?_ (by grind)) ⟨rfl, rfl, rfl, rfl, trivial⟩
              unfold thingsM
              first | (rw [bI_t (by grind)]; done) | (rw [bI_f (by grind)]; done) | exact bI_congr (by grind)
            · skip
              replace h93 := bI_ne0.mp h93
              refine ru_aload_n d_Mo_covers_96 rfl rfl ?_
              refine ru_iload_n d_Mo_covers_97 rfl rfl ?_
              refine ru_iconst (v := 3) d_Mo_covers_98 (by decide) ?_
              refine ru_iload_n d_Mo_covers_99 rfl rfl ?_
              refine ru_iconst (v := 1) d_Mo_covers_100 (by decide) ?_
              refine ru_callV (mc := 0) (ms := 0) d_Mo_covers_101 lm_Mo_201 (sp_Mo_isLike hL ha hb (by decide) (by decide)) (rx_recv_is (ly hL 398 9 0) kx_Mo) (by decide) rfl (by decide) ?_
              intro v τ h
              obtain ⟨rfl, rfl⟩ := h
              refine ru_if_eq (tgt := 111) d_Mo_covers_104 (by decide) (fun h104 => ?_) (fun h104 => ?_)
              · skip
                replace h104 := bI_eq0.mp h104
                refine ru_iconst (v := 0) d_Mo_covers_111 (by decide) ?_
                refine ru_istore d_Mo_covers_112 (by decide) ?_
                refine ru_to (fin _ ?_ (by grind)) ⟨rfl, rfl, rfl, rfl, trivial⟩
                unfold thingsM
                first | (rw [bI_t (by grind)]; done) | (rw [bI_f (by grind)]; done) | exact bI_congr (by grind)
              · skip
                replace h104 := bI_ne0.mp h104
                refine ru_iconst (v := 1) d_Mo_covers_107 (by decide) ?_
                refine ru_goto (tgt := 112) d_Mo_covers_108 (by decide) ?_
                refine ru_istore d_Mo_covers_112 (by decide) ?_
                refine ru_to (fin _ ?_ (by grind)) ⟨rfl, rfl, rfl, rfl, trivial⟩
                unfold thingsM
                first | (rw [bI_t (by grind)]; done) | (rw [bI_f (by grind)]; done) | exact bI_congr (by grind)
  · skip
    replace h25 := fun q => h25 ((lg_cmp_eq _ _).mpr q)
    refine ru_lload_n d_Mo_covers_28 rfl rfl ?_
    refine ru_ldc2 d_Mo_covers_29 lc_Mo_195 ?_
    refine ru_lcmp d_Mo_covers_32 ?_
    refine ru_if_ne (tgt := 43) d_Mo_covers_33 (by decide) (fun h33 => ?_) (fun h33 => ?_)
    · skip
      replace h33 := fun q => h33 ((lg_cmp_eq _ _).mpr q)
      refine ru_iconst (v := 0) d_Mo_covers_43 (by decide) ?_
      refine ru_zret (ty := .boolean) d_Mo_covers_44 rfl rfl ?_
      first | exact ⟨by rw [bI_t (by grind)], rfl⟩ | exact ⟨by rw [bI_f (by grind)], rfl⟩
    · skip
      replace h33 := (lg_cmp_eq _ _).mp h33
      refine ru_lload d_Mo_covers_36 rfl ?_
      refine ru_lconst (v := 0) d_Mo_covers_38 (by decide) ?_
      refine ru_lcmp d_Mo_covers_39 ?_
      refine ru_if_eq (tgt := 45) d_Mo_covers_40 (by decide) (fun h40 => ?_) (fun h40 => ?_)
      · skip
        replace h40 := (lg_cmp_eq _ _).mp h40
        refine ru_aload_n d_Mo_covers_45 rfl rfl ?_
        refine ru_iload_n d_Mo_covers_46 rfl rfl ?_
        refine ru_iconst (v := 1) d_Mo_covers_47 (by decide) ?_
        refine ru_iload_n d_Mo_covers_48 rfl rfl ?_
        refine ru_iconst (v := 1) d_Mo_covers_49 (by decide) ?_
        refine ru_callV (mc := 0) (ms := 0) d_Mo_covers_50 lm_Mo_201 (sp_Mo_isLike hL ha hb (by decide) (by decide)) (rx_recv_is (ly hL 398 9 0) kx_Mo) (by decide) rfl (by decide) ?_
        intro v τ h
        obtain ⟨rfl, rfl⟩ := h
        refine ru_istore d_Mo_covers_53 (by decide) ?_
        refine ru_lload_n d_Mo_covers_55 rfl rfl ?_
        refine ru_lconst (v := 0) d_Mo_covers_56 (by decide) ?_
        refine ru_lcmp d_Mo_covers_57 ?_
        refine ru_if_eq (tgt := 69) d_Mo_covers_58 (by decide) (fun h58 => ?_) (fun h58 => ?_)
        · skip
          replace h58 := (lg_cmp_eq _ _).mp h58
          refine ru_iload d_Mo_covers_69 rfl ?_
          refine ru_if_eq (tgt := 85) d_Mo_covers_71 (by decide) (fun h71 => ?_) (fun h71 => ?_)
          · skip
            replace h71 := bI_eq0.mp h71
            refine ru_aload_n d_Mo_covers_85 rfl rfl ?_
            refine ru_iload_n d_Mo_covers_86 rfl rfl ?_
            refine ru_iconst (v := 1) d_Mo_covers_87 (by decide) ?_
            refine ru_iload_n d_Mo_covers_88 rfl rfl ?_
            refine ru_iconst (v := 3) d_Mo_covers_89 (by decide) ?_
            refine ru_callV (mc := 0) (ms := 0) d_Mo_covers_90 lm_Mo_201 (sp_Mo_isLike hL ha hb (by decide) (by decide)) (rx_recv_is (ly hL 398 9 0) kx_Mo) (by decide) rfl (by decide) ?_
            intro v τ h
            obtain ⟨rfl, rfl⟩ := h
            refine ru_if_eq (tgt := 111) d_Mo_covers_93 (by decide) (fun h93 => ?_) (fun h93 => ?_)
            · skip
              replace h93 := bI_eq0.mp h93
              refine ru_iconst (v := 0) d_Mo_covers_111 (by decide) ?_
              refine ru_istore d_Mo_covers_112 (by decide) ?_
              refine ru_to (fin _ ?_ (by grind)) ⟨rfl, rfl, rfl, rfl, trivial⟩
              unfold thingsM
              first | (rw [bI_t (by grind)]; done) | (rw [bI_f (by grind)]; done) | exact bI_congr (by grind)
            · skip
              replace h93 := bI_ne0.mp h93
              refine ru_aload_n d_Mo_covers_96 rfl rfl ?_
              refine ru_iload_n d_Mo_covers_97 rfl rfl ?_
              refine ru_iconst (v := 3) d_Mo_covers_98 (by decide) ?_
              refine ru_iload_n d_Mo_covers_99 rfl rfl ?_
              refine ru_iconst (v := 1) d_Mo_covers_100 (by decide) ?_
              refine ru_callV (mc := 0) (ms := 0) d_Mo_covers_101 lm_Mo_201 (sp_Mo_isLike hL ha hb (by decide) (by decide)) (rx_recv_is (ly hL 398 9 0) kx_Mo) (by decide) rfl (by decide) ?_
              intro v τ h
              obtain ⟨rfl, rfl⟩ := h
              refine ru_if_eq (tgt := 111) d_Mo_covers_104 (by decide) (fun h104 => ?_) (fun h104 => ?_)
              · skip
                replace h104 := bI_eq0.mp h104
                refine ru_iconst (v := 0) d_Mo_covers_111 (by decide) ?_
                refine ru_istore d_Mo_covers_112 (by decide) ?_
                refine ru_to (fin _ ?_ (by grind)) ⟨rfl, rfl, rfl, rfl, trivial⟩
                unfold thingsM
                first | (rw [bI_t (by grind)]; done) | (rw [bI_f (by grind)]; done) | exact bI_congr (by grind)
              · skip
                replace h104 := bI_ne0.mp h104
                refine ru_iconst (v := 1) d_Mo_covers_107 (by decide) ?_
                refine ru_goto (tgt := 112) d_Mo_covers_108 (by decide) ?_
                refine ru_istore d_Mo_covers_112 (by decide) ?_
                refine ru_to (fin _ ?_ (by grind)) ⟨rfl, rfl, rfl, rfl, trivial⟩
                unfold thingsM
                first | (rw [bI_t (by grind)]; done) | (rw [bI_f (by grind)]; done) | exact bI_congr (by grind)
          · skip
            replace h71 := bI_ne0.mp h71
            refine ru_aload_n d_Mo_covers_74 rfl rfl ?_
            refine ru_iload_n d_Mo_covers_75 rfl rfl ?_
            refine ru_iconst (v := 3) d_Mo_covers_76 (by decide) ?_
            refine ru_iload_n d_Mo_covers_77 rfl rfl ?_
            refine ru_iconst (v := 3) d_Mo_covers_78 (by decide) ?_
            refine ru_callV (mc := 0) (ms := 0) d_Mo_covers_79 lm_Mo_201 (sp_Mo_isLike hL ha hb (by decide) (by decide)) (rx_recv_is (ly hL 398 9 0) kx_Mo) (by decide) rfl (by decide) ?_
            intro v τ h
            obtain ⟨rfl, rfl⟩ := h
            refine ru_if_ne (tgt := 107) d_Mo_covers_82 (by decide) (fun h82 => ?_) (fun h82 => ?_)
            · skip
              replace h82 := bI_ne0.mp h82
              refine ru_iconst (v := 1) d_Mo_covers_107 (by decide) ?_
              refine ru_goto (tgt := 112) d_Mo_covers_108 (by decide) ?_
              refine ru_istore d_Mo_covers_112 (by decide) ?_
              refine ru_to (fin _ ?_ (by grind)) ⟨rfl, rfl, rfl, rfl, trivial⟩
              unfold thingsM
              first | (rw [bI_t (by grind)]; done) | (rw [bI_f (by grind)]; done) | exact bI_congr (by grind)
            · skip
              replace h82 := bI_eq0.mp h82
              refine ru_aload_n d_Mo_covers_85 rfl rfl ?_
              refine ru_iload_n d_Mo_covers_86 rfl rfl ?_
              refine ru_iconst (v := 1) d_Mo_covers_87 (by decide) ?_
              refine ru_iload_n d_Mo_covers_88 rfl rfl ?_
              refine ru_iconst (v := 3) d_Mo_covers_89 (by decide) ?_
              refine ru_callV (mc := 0) (ms := 0) d_Mo_covers_90 lm_Mo_201 (sp_Mo_isLike hL ha hb (by decide) (by decide)) (rx_recv_is (ly hL 398 9 0) kx_Mo) (by decide) rfl (by decide) ?_
              intro v τ h
              obtain ⟨rfl, rfl⟩ := h
              refine ru_if_eq (tgt := 111) d_Mo_covers_93 (by decide) (fun h93 => ?_) (fun h93 => ?_)
              · skip
                replace h93 := bI_eq0.mp h93
                refine ru_iconst (v := 0) d_Mo_covers_111 (by decide) ?_
                refine ru_istore d_Mo_covers_112 (by decide) ?_
                refine ru_to (fin _ ?_ (by grind)) ⟨rfl, rfl, rfl, rfl, trivial⟩
                unfold thingsM
                first | (rw [bI_t (by grind)]; done) | (rw [bI_f (by grind)]; done) | exact bI_congr (by grind)
              · skip
                replace h93 := bI_ne0.mp h93
                refine ru_aload_n d_Mo_covers_96 rfl rfl ?_
                refine ru_iload_n d_Mo_covers_97 rfl rfl ?_
                refine ru_iconst (v := 3) d_Mo_covers_98 (by decide) ?_
                refine ru_iload_n d_Mo_covers_99 rfl rfl ?_
                refine ru_iconst (v := 1) d_Mo_covers_100 (by decide) ?_
                refine ru_callV (mc := 0) (ms := 0) d_Mo_covers_101 lm_Mo_201 (sp_Mo_isLike hL ha hb (by decide) (by decide)) (rx_recv_is (ly hL 398 9 0) kx_Mo) (by decide) rfl (by decide) ?_
                intro v τ h
                obtain ⟨rfl, rfl⟩ := h
                refine ru_if_eq (tgt := 111) d_Mo_covers_104 (by decide) (fun h104 => ?_) (fun h104 => ?_)
                · skip
                  replace h104 := bI_eq0.mp h104
                  refine ru_iconst (v := 0) d_Mo_covers_111 (by decide) ?_
                  refine ru_istore d_Mo_covers_112 (by decide) ?_
                  refine ru_to (fin _ ?_ (by grind)) ⟨rfl, rfl, rfl, rfl, trivial⟩
                  unfold thingsM
                  first | (rw [bI_t (by grind)]; done) | (rw [bI_f (by grind)]; done) | exact bI_congr (by grind)
                · skip
                  replace h104 := bI_ne0.mp h104
                  refine ru_iconst (v := 1) d_Mo_covers_107 (by decide) ?_
                  refine ru_goto (tgt := 112) d_Mo_covers_108 (by decide) ?_
                  refine ru_istore d_Mo_covers_112 (by decide) ?_
                  refine ru_to (fin _ ?_ (by grind)) ⟨rfl, rfl, rfl, rfl, trivial⟩
                  unfold thingsM
                  first | (rw [bI_t (by grind)]; done) | (rw [bI_f (by grind)]; done) | exact bI_congr (by grind)
        · skip
          replace h58 := fun q => h58 ((lg_cmp_eq _ _).mpr q)
          refine ru_lload_n d_Mo_covers_61 rfl rfl ?_
          refine ru_ldc2 d_Mo_covers_62 lc_Mo_195 ?_
          refine ru_lcmp d_Mo_covers_65 ?_
          refine ru_if_ne (tgt := 114) d_Mo_covers_66 (by decide) (fun h66 => ?_) (fun h66 => ?_)
          · skip
            replace h66 := fun q => h66 ((lg_cmp_eq _ _).mpr q)
            refine ru_to (fin _ ?_ (by grind)) ⟨rfl, rfl, rfl, rfl, trivial⟩
            unfold thingsM
            first | (rw [bI_t (by grind)]; done) | (rw [bI_f (by grind)]; done) | exact bI_congr (by grind)
          · skip
            replace h66 := (lg_cmp_eq _ _).mp h66
            refine ru_iload d_Mo_covers_69 rfl ?_
            refine ru_if_eq (tgt := 85) d_Mo_covers_71 (by decide) (fun h71 => ?_) (fun h71 => ?_)
            · skip
              replace h71 := bI_eq0.mp h71
              refine ru_aload_n d_Mo_covers_85 rfl rfl ?_
              refine ru_iload_n d_Mo_covers_86 rfl rfl ?_
              refine ru_iconst (v := 1) d_Mo_covers_87 (by decide) ?_
              refine ru_iload_n d_Mo_covers_88 rfl rfl ?_
              refine ru_iconst (v := 3) d_Mo_covers_89 (by decide) ?_
              refine ru_callV (mc := 0) (ms := 0) d_Mo_covers_90 lm_Mo_201 (sp_Mo_isLike hL ha hb (by decide) (by decide)) (rx_recv_is (ly hL 398 9 0) kx_Mo) (by decide) rfl (by decide) ?_
              intro v τ h
              obtain ⟨rfl, rfl⟩ := h
              refine ru_if_eq (tgt := 111) d_Mo_covers_93 (by decide) (fun h93 => ?_) (fun h93 => ?_)
              · skip
                replace h93 := bI_eq0.mp h93
                refine ru_iconst (v := 0) d_Mo_covers_111 (by decide) ?_
                refine ru_istore d_Mo_covers_112 (by decide) ?_
                refine ru_to (fin _ ?_ (by grind)) ⟨rfl, rfl, rfl, rfl, trivial⟩
                unfold thingsM
                first | (rw [bI_t (by grind)]; done) | (rw [bI_f (by grind)]; done) | exact bI_congr (by grind)
              · skip
                replace h93 := bI_ne0.mp h93
                refine ru_aload_n d_Mo_covers_96 rfl rfl ?_
                refine ru_iload_n d_Mo_covers_97 rfl rfl ?_
                refine ru_iconst (v := 3) d_Mo_covers_98 (by decide) ?_
                refine ru_iload_n d_Mo_covers_99 rfl rfl ?_
                refine ru_iconst (v := 1) d_Mo_covers_100 (by decide) ?_
                refine ru_callV (mc := 0) (ms := 0) d_Mo_covers_101 lm_Mo_201 (sp_Mo_isLike hL ha hb (by decide) (by decide)) (rx_recv_is (ly hL 398 9 0) kx_Mo) (by decide) rfl (by decide) ?_
                intro v τ h
                obtain ⟨rfl, rfl⟩ := h
                refine ru_if_eq (tgt := 111) d_Mo_covers_104 (by decide) (fun h104 => ?_) (fun h104 => ?_)
                · skip
                  replace h104 := bI_eq0.mp h104
                  refine ru_iconst (v := 0) d_Mo_covers_111 (by decide) ?_
                  refine ru_istore d_Mo_covers_112 (by decide) ?_
                  refine ru_to (fin _ ?_ (by grind)) ⟨rfl, rfl, rfl, rfl, trivial⟩
                  unfold thingsM
                  first | (rw [bI_t (by grind)]; done) | (rw [bI_f (by grind)]; done) | exact bI_congr (by grind)
                · skip
                  replace h104 := bI_ne0.mp h104
                  refine ru_iconst (v := 1) d_Mo_covers_107 (by decide) ?_
                  refine ru_goto (tgt := 112) d_Mo_covers_108 (by decide) ?_
                  refine ru_istore d_Mo_covers_112 (by decide) ?_
                  refine ru_to (fin _ ?_ (by grind)) ⟨rfl, rfl, rfl, rfl, trivial⟩
                  unfold thingsM
                  first | (rw [bI_t (by grind)]; done) | (rw [bI_f (by grind)]; done) | exact bI_congr (by grind)
            · skip
              replace h71 := bI_ne0.mp h71
              refine ru_aload_n d_Mo_covers_74 rfl rfl ?_
              refine ru_iload_n d_Mo_covers_75 rfl rfl ?_
              refine ru_iconst (v := 3) d_Mo_covers_76 (by decide) ?_
              refine ru_iload_n d_Mo_covers_77 rfl rfl ?_
              refine ru_iconst (v := 3) d_Mo_covers_78 (by decide) ?_
              refine ru_callV (mc := 0) (ms := 0) d_Mo_covers_79 lm_Mo_201 (sp_Mo_isLike hL ha hb (by decide) (by decide)) (rx_recv_is (ly hL 398 9 0) kx_Mo) (by decide) rfl (by decide) ?_
              intro v τ h
              obtain ⟨rfl, rfl⟩ := h
              refine ru_if_ne (tgt := 107) d_Mo_covers_82 (by decide) (fun h82 => ?_) (fun h82 => ?_)
              · skip
                replace h82 := bI_ne0.mp h82
                refine ru_iconst (v := 1) d_Mo_covers_107 (by decide) ?_
                refine ru_goto (tgt := 112) d_Mo_covers_108 (by decide) ?_
                refine ru_istore d_Mo_covers_112 (by decide) ?_
                refine ru_to (fin _ ?_ (by grind)) ⟨rfl, rfl, rfl, rfl, trivial⟩
                unfold thingsM
                first | (rw [bI_t (by grind)]; done) | (rw [bI_f (by grind)]; done) | exact bI_congr (by grind)
              · skip
                replace h82 := bI_eq0.mp h82
                refine ru_aload_n d_Mo_covers_85 rfl rfl ?_
                refine ru_iload_n d_Mo_covers_86 rfl rfl ?_
                refine ru_iconst (v := 1) d_Mo_covers_87 (by decide) ?_
                refine ru_iload_n d_Mo_covers_88 rfl rfl ?_
                refine ru_iconst (v := 3) d_Mo_covers_89 (by decide) ?_
                refine ru_callV (mc := 0) (ms := 0) d_Mo_covers_90 lm_Mo_201 (sp_Mo_isLike hL ha hb (by decide) (by decide)) (rx_recv_is (ly hL 398 9 0) kx_Mo) (by decide) rfl (by decide) ?_
                intro v τ h
                obtain ⟨rfl, rfl⟩ := h
                refine ru_if_eq (tgt := 111) d_Mo_covers_93 (by decide) (fun h93 => ?_) (fun h93 => ?_)
                · skip
                  replace h93 := bI_eq0.mp h93
                  refine ru_iconst (v := 0) d_Mo_covers_111 (by decide) ?_
                  refine ru_istore d_Mo_covers_112 (by decide) ?_
                  refine ru_to (fin _ ?_ (by grind)) ⟨rfl, rfl, rfl, rfl, trivial⟩
                  unfold thingsM
                  first | (rw [bI_t (by grind)]; done) | (rw [bI_f (by grind)]; done) | exact bI_congr (by grind)
                · skip
                  replace h93 := bI_ne0.mp h93
                  refine ru_aload_n d_Mo_covers_96 rfl rfl ?_
                  refine ru_iload_n d_Mo_covers_97 rfl rfl ?_
                  refine ru_iconst (v := 3) d_Mo_covers_98 (by decide) ?_
                  refine ru_iload_n d_Mo_covers_99 rfl rfl ?_
                  refine ru_iconst (v := 1) d_Mo_covers_100 (by decide) ?_
                  refine ru_callV (mc := 0) (ms := 0) d_Mo_covers_101 lm_Mo_201 (sp_Mo_isLike hL ha hb (by decide) (by decide)) (rx_recv_is (ly hL 398 9 0) kx_Mo) (by decide) rfl (by decide) ?_
                  intro v τ h
                  obtain ⟨rfl, rfl⟩ := h
                  refine ru_if_eq (tgt := 111) d_Mo_covers_104 (by decide) (fun h104 => ?_) (fun h104 => ?_)
                  · skip
                    replace h104 := bI_eq0.mp h104
                    refine ru_iconst (v := 0) d_Mo_covers_111 (by decide) ?_
                    refine ru_istore d_Mo_covers_112 (by decide) ?_
                    refine ru_to (fin _ ?_ (by grind)) ⟨rfl, rfl, rfl, rfl, trivial⟩
                    unfold thingsM
                    first | (rw [bI_t (by grind)]; done) | (rw [bI_f (by grind)]; done) | exact bI_congr (by grind)
                  · skip
                    replace h104 := bI_ne0.mp h104
                    refine ru_iconst (v := 1) d_Mo_covers_107 (by decide) ?_
                    refine ru_goto (tgt := 112) d_Mo_covers_108 (by decide) ?_
                    refine ru_istore d_Mo_covers_112 (by decide) ?_
                    refine ru_to (fin _ ?_ (by grind)) ⟨rfl, rfl, rfl, rfl, trivial⟩
                    unfold thingsM
                    first | (rw [bI_t (by grind)]; done) | (rw [bI_f (by grind)]; done) | exact bI_congr (by grind)
      · skip
        replace h40 := fun q => h40 ((lg_cmp_eq _ _).mpr q)
        refine ru_iconst (v := 0) d_Mo_covers_43 (by decide) ?_
        refine ru_zret (ty := .boolean) d_Mo_covers_44 rfl rfl ?_
        first | exact ⟨by rw [bI_t (by grind)], rfl⟩ | exact ⟨by rw [bI_f (by grind)], rfl⟩
theorem sp_Mo_isClash {za zb : Int32} {a b : Nat} (hL : LAY nx ct mr) (ha : a < 60) (hb : b < 60) (hza : ml 404 (12 * a + 6) = za.toInt64) (hzb : ml 404 (12 * b + 6) = zb.toInt64) (hA : isArea za) (hB : isArea zb) : rx_Calls y_Mo_isClash M_Mo_isClash 2 0 0 [.ref 398, .int (nI a), .int (nI b)] (nx, ct, mi, ml, mr) (fun v τ => v = some (.int (bI (clashM (mi 402) (ml 403) (ml 404) za zb a b))) ∧ τ = (nx, ct, mi, ml, mr)) := by
  refine rx_enter (by decide) rfl rfl (Nat.le_of_ble_eq_true rfl) ?_
  unfold clashM
  refine ru_aload_n d_Mo_isClash_0 rfl rfl ?_
  refine ru_getR d_Mo_isClash_1 lf_Mo_27 (ly hL 398 9 0) rfl (lr hL 398 8 404) ?_
  refine ru_bipush (v := 12) d_Mo_isClash_4 (by decide) ?_
  refine ru_iload_n d_Mo_isClash_6 rfl rfl ?_
  refine ru_imul d_Mo_isClash_7 ?_
  refine ru_eqi (nm_mul 12 a : _ = nI (12 * a)) ?_
  refine ru_laldN (j := (12 * a)) d_Mo_isClash_8 (ly hL 404 104 1440) (by omega) (by decide) ?_
  refine ru_ldc2 d_Mo_isClash_9 lc_Mo_195 ?_
  refine ru_lcmp d_Mo_isClash_12 ?_
  refine ru_if_eq (tgt := 34) d_Mo_isClash_13 (by decide) (fun h13 => ?_) (fun h13 => ?_)
  · skip
    replace h13 := (lg_cmp_eq _ _).mp h13
    refine ru_iconst (v := 0) d_Mo_isClash_34 (by decide) ?_
    refine ru_zret (ty := .boolean) d_Mo_isClash_35 rfl rfl ?_
    first | exact ⟨by rw [bI_t (by grind)], rfl⟩ | exact ⟨by rw [bI_f (by grind)], rfl⟩
  · skip
    replace h13 := fun q => h13 ((lg_cmp_eq _ _).mpr q)
    refine ru_aload_n d_Mo_isClash_16 rfl rfl ?_
    refine ru_iload_n d_Mo_isClash_17 rfl rfl ?_
    refine ru_iload_n d_Mo_isClash_18 rfl rfl ?_
    refine ru_callV (mc := 0) (ms := 0) d_Mo_isClash_19 lm_Mo_209 (sp_Mo_covers hL ha hb hza hzb hA hB) (rx_recv_is (ly hL 398 9 0) kx_Mo) (by decide) rfl (by decide) ?_
    intro v τ h
    obtain ⟨rfl, rfl⟩ := h
    refine ru_if_eq (tgt := 34) d_Mo_isClash_22 (by decide) (fun h22 => ?_) (fun h22 => ?_)
    · skip
      replace h22 := bI_eq0.mp h22
      refine ru_iconst (v := 0) d_Mo_isClash_34 (by decide) ?_
      refine ru_zret (ty := .boolean) d_Mo_isClash_35 rfl rfl ?_
      first | exact ⟨by rw [bI_t (by grind)], rfl⟩ | exact ⟨by rw [bI_f (by grind)], rfl⟩
    · skip
      replace h22 := bI_ne0.mp h22
      refine ru_aload_n d_Mo_isClash_25 rfl rfl ?_
      refine ru_iload_n d_Mo_isClash_26 rfl rfl ?_
      refine ru_iload_n d_Mo_isClash_27 rfl rfl ?_
      refine ru_callV (mc := 0) (ms := 0) d_Mo_isClash_28 lm_Mo_209 (sp_Mo_covers hL hb ha hzb hza hB hA) (rx_recv_is (ly hL 398 9 0) kx_Mo) (by decide) rfl (by decide) ?_
      intro v τ h
      obtain ⟨rfl, rfl⟩ := h
      refine ru_if_ne (tgt := 36) d_Mo_isClash_31 (by decide) (fun h31 => ?_) (fun h31 => ?_)
      · skip
        replace h31 := bI_ne0.mp h31
        refine ru_aload_n d_Mo_isClash_36 rfl rfl ?_
        refine ru_getR d_Mo_isClash_37 lf_Mo_27 (ly hL 398 9 0) rfl (lr hL 398 8 404) ?_
        refine ru_bipush (v := 12) d_Mo_isClash_40 (by decide) ?_
        refine ru_iload_n d_Mo_isClash_42 rfl rfl ?_
        refine ru_imul d_Mo_isClash_43 ?_
        refine ru_eqi (nm_mul 12 a : _ = nI (12 * a)) ?_
        refine ru_bipush (v := 8) d_Mo_isClash_44 (by decide) ?_
        refine ru_iadd d_Mo_isClash_46 ?_
        refine ru_eqi (nm_add (12 * a) 8 : _ = nI ((12 * a) + 8)) ?_
        refine ru_laldN (j := ((12 * a) + 8)) d_Mo_isClash_47 (ly hL 404 104 1440) (by omega) (by decide) ?_
        refine ru_lstore_n d_Mo_isClash_48 rfl (by decide) ?_
        refine ru_aload_n d_Mo_isClash_49 rfl rfl ?_
        refine ru_getR d_Mo_isClash_50 lf_Mo_27 (ly hL 398 9 0) rfl (lr hL 398 8 404) ?_
        refine ru_bipush (v := 12) d_Mo_isClash_53 (by decide) ?_
        refine ru_iload_n d_Mo_isClash_55 rfl rfl ?_
        refine ru_imul d_Mo_isClash_56 ?_
        refine ru_eqi (nm_mul 12 a : _ = nI (12 * a)) ?_
        refine ru_bipush (v := 9) d_Mo_isClash_57 (by decide) ?_
        refine ru_iadd d_Mo_isClash_59 ?_
        refine ru_eqi (nm_add (12 * a) 9 : _ = nI ((12 * a) + 9)) ?_
        refine ru_laldN (j := ((12 * a) + 9)) d_Mo_isClash_60 (ly hL 404 104 1440) (by omega) (by decide) ?_
        refine ru_lstore d_Mo_isClash_61 (by decide) ?_
        refine ru_aload_n d_Mo_isClash_63 rfl rfl ?_
        refine ru_getR d_Mo_isClash_64 lf_Mo_27 (ly hL 398 9 0) rfl (lr hL 398 8 404) ?_
        refine ru_bipush (v := 12) d_Mo_isClash_67 (by decide) ?_
        refine ru_iload_n d_Mo_isClash_69 rfl rfl ?_
        refine ru_imul d_Mo_isClash_70 ?_
        refine ru_eqi (nm_mul 12 b : _ = nI (12 * b)) ?_
        refine ru_bipush (v := 8) d_Mo_isClash_71 (by decide) ?_
        refine ru_iadd d_Mo_isClash_73 ?_
        refine ru_eqi (nm_add (12 * b) 8 : _ = nI ((12 * b) + 8)) ?_
        refine ru_laldN (j := ((12 * b) + 8)) d_Mo_isClash_74 (ly hL 404 104 1440) (by omega) (by decide) ?_
        refine ru_lstore d_Mo_isClash_75 (by decide) ?_
        refine ru_aload_n d_Mo_isClash_77 rfl rfl ?_
        refine ru_getR d_Mo_isClash_78 lf_Mo_27 (ly hL 398 9 0) rfl (lr hL 398 8 404) ?_
        refine ru_bipush (v := 12) d_Mo_isClash_81 (by decide) ?_
        refine ru_iload_n d_Mo_isClash_83 rfl rfl ?_
        refine ru_imul d_Mo_isClash_84 ?_
        refine ru_eqi (nm_mul 12 b : _ = nI (12 * b)) ?_
        refine ru_bipush (v := 9) d_Mo_isClash_85 (by decide) ?_
        refine ru_iadd d_Mo_isClash_87 ?_
        refine ru_eqi (nm_add (12 * b) 9 : _ = nI ((12 * b) + 9)) ?_
        refine ru_laldN (j := ((12 * b) + 9)) d_Mo_isClash_88 (ly hL 404 104 1440) (by omega) (by decide) ?_
        refine ru_lstore d_Mo_isClash_89 (by decide) ?_
        refine ru_lload d_Mo_isClash_91 rfl ?_
        refine ru_lconst (v := 0) d_Mo_isClash_93 (by decide) ?_
        refine ru_lcmp d_Mo_isClash_94 ?_
        refine ru_if_lt (tgt := 113) d_Mo_isClash_95 (by decide) (fun h95 => ?_) (fun h95 => ?_)
        · skip
          replace h95 := (lg_cmp_lt _ _).mp h95
          refine ru_lload d_Mo_isClash_113 rfl ?_
          refine ru_lconst (v := 0) d_Mo_isClash_115 (by decide) ?_
          refine ru_lcmp d_Mo_isClash_116 ?_
          refine ru_if_lt (tgt := 137) d_Mo_isClash_117 (by decide) (fun h117 => ?_) (fun h117 => ?_)
          · skip
            replace h117 := (lg_cmp_lt _ _).mp h117
            refine ru_iconst (v := 0) d_Mo_isClash_137 (by decide) ?_
            refine ru_zret (ty := .boolean) d_Mo_isClash_138 rfl rfl ?_
            first | exact ⟨by rw [bI_t (by grind)], rfl⟩ | exact ⟨by rw [bI_f (by grind)], rfl⟩
          · skip
            replace h117 := fun q => h117 ((lg_cmp_lt _ _).mpr q)
            refine ru_lload_n d_Mo_isClash_120 rfl rfl ?_
            refine ru_lconst (v := 0) d_Mo_isClash_121 (by decide) ?_
            refine ru_lcmp d_Mo_isClash_122 ?_
            refine ru_if_lt (tgt := 137) d_Mo_isClash_123 (by decide) (fun h123 => ?_) (fun h123 => ?_)
            · skip
              replace h123 := (lg_cmp_lt _ _).mp h123
              refine ru_iconst (v := 0) d_Mo_isClash_137 (by decide) ?_
              refine ru_zret (ty := .boolean) d_Mo_isClash_138 rfl rfl ?_
              first | exact ⟨by rw [bI_t (by grind)], rfl⟩ | exact ⟨by rw [bI_f (by grind)], rfl⟩
            · skip
              replace h123 := fun q => h123 ((lg_cmp_lt _ _).mpr q)
              refine ru_lload d_Mo_isClash_126 rfl ?_
              refine ru_lload_n d_Mo_isClash_128 rfl rfl ?_
              refine ru_lcmp d_Mo_isClash_129 ?_
              refine ru_if_ge (tgt := 137) d_Mo_isClash_130 (by decide) (fun h130 => ?_) (fun h130 => ?_)
              · skip
                replace h130 := (lg_cmp_ge _ _).mp h130
                refine ru_iconst (v := 0) d_Mo_isClash_137 (by decide) ?_
                refine ru_zret (ty := .boolean) d_Mo_isClash_138 rfl rfl ?_
                first | exact ⟨by rw [bI_t (by grind)], rfl⟩ | exact ⟨by rw [bI_f (by grind)], rfl⟩
              · skip
                replace h130 := fun q => h130 ((lg_cmp_ge _ _).mpr q)
                refine ru_iconst (v := 1) d_Mo_isClash_133 (by decide) ?_
                refine ru_goto (tgt := 138) d_Mo_isClash_134 (by decide) ?_
                refine ru_zret (ty := .boolean) d_Mo_isClash_138 rfl rfl ?_
                first | exact ⟨by rw [bI_t (by grind)], rfl⟩ | exact ⟨by rw [bI_f (by grind)], rfl⟩
        · skip
          replace h95 := fun q => h95 ((lg_cmp_lt _ _).mpr q)
          refine ru_lload d_Mo_isClash_98 rfl ?_
          refine ru_lconst (v := 0) d_Mo_isClash_100 (by decide) ?_
          refine ru_lcmp d_Mo_isClash_101 ?_
          refine ru_if_lt (tgt := 113) d_Mo_isClash_102 (by decide) (fun h102 => ?_) (fun h102 => ?_)
          · skip
            replace h102 := (lg_cmp_lt _ _).mp h102
            refine ru_lload d_Mo_isClash_113 rfl ?_
            refine ru_lconst (v := 0) d_Mo_isClash_115 (by decide) ?_
            refine ru_lcmp d_Mo_isClash_116 ?_
            refine ru_if_lt (tgt := 137) d_Mo_isClash_117 (by decide) (fun h117 => ?_) (fun h117 => ?_)
            · skip
              replace h117 := (lg_cmp_lt _ _).mp h117
              refine ru_iconst (v := 0) d_Mo_isClash_137 (by decide) ?_
              refine ru_zret (ty := .boolean) d_Mo_isClash_138 rfl rfl ?_
              first | exact ⟨by rw [bI_t (by grind)], rfl⟩ | exact ⟨by rw [bI_f (by grind)], rfl⟩
            · skip
              replace h117 := fun q => h117 ((lg_cmp_lt _ _).mpr q)
              refine ru_lload_n d_Mo_isClash_120 rfl rfl ?_
              refine ru_lconst (v := 0) d_Mo_isClash_121 (by decide) ?_
              refine ru_lcmp d_Mo_isClash_122 ?_
              refine ru_if_lt (tgt := 137) d_Mo_isClash_123 (by decide) (fun h123 => ?_) (fun h123 => ?_)
              · skip
                replace h123 := (lg_cmp_lt _ _).mp h123
                refine ru_iconst (v := 0) d_Mo_isClash_137 (by decide) ?_
                refine ru_zret (ty := .boolean) d_Mo_isClash_138 rfl rfl ?_
                first | exact ⟨by rw [bI_t (by grind)], rfl⟩ | exact ⟨by rw [bI_f (by grind)], rfl⟩
              · skip
                replace h123 := fun q => h123 ((lg_cmp_lt _ _).mpr q)
                refine ru_lload d_Mo_isClash_126 rfl ?_
                refine ru_lload_n d_Mo_isClash_128 rfl rfl ?_
                refine ru_lcmp d_Mo_isClash_129 ?_
                refine ru_if_ge (tgt := 137) d_Mo_isClash_130 (by decide) (fun h130 => ?_) (fun h130 => ?_)
                · skip
                  replace h130 := (lg_cmp_ge _ _).mp h130
                  refine ru_iconst (v := 0) d_Mo_isClash_137 (by decide) ?_
                  refine ru_zret (ty := .boolean) d_Mo_isClash_138 rfl rfl ?_
                  first | exact ⟨by rw [bI_t (by grind)], rfl⟩ | exact ⟨by rw [bI_f (by grind)], rfl⟩
                · skip
                  replace h130 := fun q => h130 ((lg_cmp_ge _ _).mpr q)
                  refine ru_iconst (v := 1) d_Mo_isClash_133 (by decide) ?_
                  refine ru_goto (tgt := 138) d_Mo_isClash_134 (by decide) ?_
                  refine ru_zret (ty := .boolean) d_Mo_isClash_138 rfl rfl ?_
                  first | exact ⟨by rw [bI_t (by grind)], rfl⟩ | exact ⟨by rw [bI_f (by grind)], rfl⟩
          · skip
            replace h102 := fun q => h102 ((lg_cmp_lt _ _).mpr q)
            refine ru_lload d_Mo_isClash_105 rfl ?_
            refine ru_lload d_Mo_isClash_107 rfl ?_
            refine ru_lcmp d_Mo_isClash_109 ?_
            refine ru_if_lt (tgt := 133) d_Mo_isClash_110 (by decide) (fun h110 => ?_) (fun h110 => ?_)
            · skip
              replace h110 := (lg_cmp_lt _ _).mp h110
              refine ru_iconst (v := 1) d_Mo_isClash_133 (by decide) ?_
              refine ru_goto (tgt := 138) d_Mo_isClash_134 (by decide) ?_
              refine ru_zret (ty := .boolean) d_Mo_isClash_138 rfl rfl ?_
              first | exact ⟨by rw [bI_t (by grind)], rfl⟩ | exact ⟨by rw [bI_f (by grind)], rfl⟩
            · skip
              replace h110 := fun q => h110 ((lg_cmp_lt _ _).mpr q)
              refine ru_lload d_Mo_isClash_113 rfl ?_
              refine ru_lconst (v := 0) d_Mo_isClash_115 (by decide) ?_
              refine ru_lcmp d_Mo_isClash_116 ?_
              refine ru_if_lt (tgt := 137) d_Mo_isClash_117 (by decide) (fun h117 => ?_) (fun h117 => ?_)
              · skip
                replace h117 := (lg_cmp_lt _ _).mp h117
                refine ru_iconst (v := 0) d_Mo_isClash_137 (by decide) ?_
                refine ru_zret (ty := .boolean) d_Mo_isClash_138 rfl rfl ?_
                first | exact ⟨by rw [bI_t (by grind)], rfl⟩ | exact ⟨by rw [bI_f (by grind)], rfl⟩
              · skip
                replace h117 := fun q => h117 ((lg_cmp_lt _ _).mpr q)
                refine ru_lload_n d_Mo_isClash_120 rfl rfl ?_
                refine ru_lconst (v := 0) d_Mo_isClash_121 (by decide) ?_
                refine ru_lcmp d_Mo_isClash_122 ?_
                refine ru_if_lt (tgt := 137) d_Mo_isClash_123 (by decide) (fun h123 => ?_) (fun h123 => ?_)
                · skip
                  replace h123 := (lg_cmp_lt _ _).mp h123
                  refine ru_iconst (v := 0) d_Mo_isClash_137 (by decide) ?_
                  refine ru_zret (ty := .boolean) d_Mo_isClash_138 rfl rfl ?_
                  first | exact ⟨by rw [bI_t (by grind)], rfl⟩ | exact ⟨by rw [bI_f (by grind)], rfl⟩
                · skip
                  replace h123 := fun q => h123 ((lg_cmp_lt _ _).mpr q)
                  refine ru_lload d_Mo_isClash_126 rfl ?_
                  refine ru_lload_n d_Mo_isClash_128 rfl rfl ?_
                  refine ru_lcmp d_Mo_isClash_129 ?_
                  refine ru_if_ge (tgt := 137) d_Mo_isClash_130 (by decide) (fun h130 => ?_) (fun h130 => ?_)
                  · skip
                    replace h130 := (lg_cmp_ge _ _).mp h130
                    refine ru_iconst (v := 0) d_Mo_isClash_137 (by decide) ?_
                    refine ru_zret (ty := .boolean) d_Mo_isClash_138 rfl rfl ?_
                    first | exact ⟨by rw [bI_t (by grind)], rfl⟩ | exact ⟨by rw [bI_f (by grind)], rfl⟩
                  · skip
                    replace h130 := fun q => h130 ((lg_cmp_ge _ _).mpr q)
                    refine ru_iconst (v := 1) d_Mo_isClash_133 (by decide) ?_
                    refine ru_goto (tgt := 138) d_Mo_isClash_134 (by decide) ?_
                    refine ru_zret (ty := .boolean) d_Mo_isClash_138 rfl rfl ?_
                    first | exact ⟨by rw [bI_t (by grind)], rfl⟩ | exact ⟨by rw [bI_f (by grind)], rfl⟩
      · skip
        replace h31 := bI_eq0.mp h31
        refine ru_iconst (v := 0) d_Mo_isClash_34 (by decide) ?_
        refine ru_zret (ty := .boolean) d_Mo_isClash_35 rfl rfl ?_
        first | exact ⟨by rw [bI_t (by grind)], rfl⟩ | exact ⟨by rw [bI_f (by grind)], rfl⟩
theorem sp_Mo_rule {n k w : Nat} (hL : LAY nx ct mr) (hn : mi 398 7 = nI n) (hn2 : n ≤ 60) (hk : k < n) (hw : w < 8) : rx_Calls y_Mo_rule M_Mo_rule 1 0 0 [.ref 398, .int (nI k), .int (nI w)] (nx, ct, mi, ml, mr) (fun v τ => v = some (.int (ml 404 (12 * k + w)).toInt32) ∧ τ = (nx, ct, rx_u mi 398 0 0, ml, mr)) := by
  refine rx_enter (by decide) rfl rfl (Nat.le_of_ble_eq_true rfl) ?_
  refine ru_aload_n d_Mo_rule_0 rfl rfl ?_
  refine ru_aload_n d_Mo_rule_1 rfl rfl ?_
  refine ru_iload_n d_Mo_rule_2 rfl rfl ?_
  refine ru_callV (mc := 0) (ms := 0) d_Mo_rule_3 lm_Mo_192 (sp_Mo_isRuleN hL hn hn2 (by omega)) (rx_recv_is (ly hL 398 9 0) kx_Mo) (by decide) rfl (by decide) ?_
  intro v τ h
  obtain ⟨rfl, rfl⟩ := h
  refine ru_if_eq (tgt := 23) d_Mo_rule_6 (by decide) (fun h6 => ?_) (fun h6 => ?_)
  · skip
    replace h6 := bI_eq0.mp h6
    refine ru_iconst (v := 1) d_Mo_rule_23 (by decide) ?_
    refine ru_putI d_Mo_rule_24 lf_Mo_39 (ly hL 398 9 0) rfl (fun q hq => by cases hq; exact Or.inl rfl) ⟨rfl, rfl⟩ ?_
    refine ru_aload_n d_Mo_rule_27 rfl rfl ?_
    refine ru_getI d_Mo_rule_28 lf_Mo_39 (ly hL 398 9 0) rfl ?_
    rw [rx_u_same]
    refine ru_if_ne (tgt := 49) d_Mo_rule_31 (by decide) (fun h31 => ?_) (fun h31 => absurd h31 (by decide))
    refine ru_iconst (v := 0) d_Mo_rule_49 (by decide) ?_
    refine ru_iret d_Mo_rule_50 rfl ?_
    first | (exfalso; omega) | exact ⟨rfl, rfl⟩
  · skip
    replace h6 := bI_ne0.mp h6
    refine ru_iload_n d_Mo_rule_9 rfl rfl ?_
    refine ru_if_lt (tgt := 23) d_Mo_rule_10 (by decide) (fun h10 => ?_) (fun h10 => ?_)
    · skip
      replace h10 := nm_lt (a := w) (b := 0) (by omega) (by omega) h10
      refine ru_iconst (v := 1) d_Mo_rule_23 (by decide) ?_
      refine ru_putI d_Mo_rule_24 lf_Mo_39 (ly hL 398 9 0) rfl (fun q hq => by cases hq; exact Or.inl rfl) ⟨rfl, rfl⟩ ?_
      refine ru_aload_n d_Mo_rule_27 rfl rfl ?_
      refine ru_getI d_Mo_rule_28 lf_Mo_39 (ly hL 398 9 0) rfl ?_
      rw [rx_u_same]
      refine ru_if_ne (tgt := 49) d_Mo_rule_31 (by decide) (fun h31 => ?_) (fun h31 => absurd h31 (by decide))
      refine ru_iconst (v := 0) d_Mo_rule_49 (by decide) ?_
      refine ru_iret d_Mo_rule_50 rfl ?_
      first | (exfalso; omega) | exact ⟨rfl, rfl⟩
    · skip
      replace h10 := nm_nlt (a := w) (b := 0) (by omega) (by omega) h10
      refine ru_iload_n d_Mo_rule_13 rfl rfl ?_
      refine ru_bipush (v := 8) d_Mo_rule_14 (by decide) ?_
      refine ru_icmp_ge (tgt := 23) d_Mo_rule_16 (by decide) (fun h16 => ?_) (fun h16 => ?_)
      · skip
        replace h16 := nm_le (a := 8) (b := w) (by omega) (by omega) h16
        refine ru_iconst (v := 1) d_Mo_rule_23 (by decide) ?_
        refine ru_putI d_Mo_rule_24 lf_Mo_39 (ly hL 398 9 0) rfl (fun q hq => by cases hq; exact Or.inl rfl) ⟨rfl, rfl⟩ ?_
        refine ru_aload_n d_Mo_rule_27 rfl rfl ?_
        refine ru_getI d_Mo_rule_28 lf_Mo_39 (ly hL 398 9 0) rfl ?_
        rw [rx_u_same]
        refine ru_if_ne (tgt := 49) d_Mo_rule_31 (by decide) (fun h31 => ?_) (fun h31 => absurd h31 (by decide))
        refine ru_iconst (v := 0) d_Mo_rule_49 (by decide) ?_
        refine ru_iret d_Mo_rule_50 rfl ?_
        first | (exfalso; omega) | exact ⟨rfl, rfl⟩
      · skip
        replace h16 := nm_nle (a := 8) (b := w) (by omega) (by omega) h16
        refine ru_iconst (v := 0) d_Mo_rule_19 (by decide) ?_
        refine ru_goto (tgt := 24) d_Mo_rule_20 (by decide) ?_
        refine ru_putI d_Mo_rule_24 lf_Mo_39 (ly hL 398 9 0) rfl (fun q hq => by cases hq; exact Or.inl rfl) ⟨rfl, rfl⟩ ?_
        refine ru_aload_n d_Mo_rule_27 rfl rfl ?_
        refine ru_getI d_Mo_rule_28 lf_Mo_39 (ly hL 398 9 0) rfl ?_
        rw [rx_u_same]
        refine ru_if_ne (tgt := 49) d_Mo_rule_31 (by decide) (fun h31 => absurd h31 (by decide)) (fun h31 => ?_)
        refine ru_aload_n d_Mo_rule_34 rfl rfl ?_
        refine ru_getR d_Mo_rule_35 lf_Mo_27 (ly hL 398 9 0) rfl (lr hL 398 8 404) ?_
        refine ru_bipush (v := 12) d_Mo_rule_38 (by decide) ?_
        refine ru_iload_n d_Mo_rule_40 rfl rfl ?_
        refine ru_imul d_Mo_rule_41 ?_
        refine ru_eqi (nm_mul 12 k : _ = nI (12 * k)) ?_
        refine ru_iload_n d_Mo_rule_42 rfl rfl ?_
        refine ru_iadd d_Mo_rule_43 ?_
        refine ru_eqi (nm_add (12 * k) w : _ = nI ((12 * k) + w)) ?_
        refine ru_laldN (j := ((12 * k) + w)) d_Mo_rule_44 (ly hL 404 104 1440) (by omega) (by decide) ?_
        refine ru_l2i d_Mo_rule_45 ?_
        refine ru_goto (tgt := 50) d_Mo_rule_46 (by decide) ?_
        refine ru_iret d_Mo_rule_50 rfl ?_
        first | (exfalso; omega) | exact ⟨rfl, rfl⟩
theorem sp_Mo_rule0 {n : Nat} {k w : Int32} (hL : LAY nx ct mr) (hn : mi 398 7 = nI n) (hn2 : n ≤ 60) (hk : ¬ ((0 ≤ k.toInt ∧ k.toInt < n) ∧ 0 ≤ w.toInt ∧ w.toInt < 8)) : rx_Calls y_Mo_rule M_Mo_rule 1 0 0 [.ref 398, .int k, .int w] (nx, ct, mi, ml, mr) (fun v τ => v = some (.int 0) ∧ τ = (nx, ct, rx_u mi 398 0 1, ml, mr)) := by
  refine rx_enter (by decide) rfl rfl (Nat.le_of_ble_eq_true rfl) ?_
  refine ru_aload_n d_Mo_rule_0 rfl rfl ?_
  refine ru_aload_n d_Mo_rule_1 rfl rfl ?_
  refine ru_iload_n d_Mo_rule_2 rfl rfl ?_
  refine ru_callV (mc := 0) (ms := 0) d_Mo_rule_3 lm_Mo_192 (sp_Mo_isRule hL k hn hn2) (rx_recv_is (ly hL 398 9 0) kx_Mo) (by decide) rfl (by decide) ?_
  intro v τ h
  obtain ⟨rfl, rfl⟩ := h
  refine ru_if_eq (tgt := 23) d_Mo_rule_6 (by decide) (fun h6 => ?_) (fun h6 => ?_)
  · skip
    replace h6 := bI_eq0.mp h6
    refine ru_iconst (v := 1) d_Mo_rule_23 (by decide) ?_
    refine ru_putI d_Mo_rule_24 lf_Mo_39 (ly hL 398 9 0) rfl (fun q hq => by cases hq; exact Or.inl rfl) ⟨rfl, rfl⟩ ?_
    refine ru_aload_n d_Mo_rule_27 rfl rfl ?_
    refine ru_getI d_Mo_rule_28 lf_Mo_39 (ly hL 398 9 0) rfl ?_
    rw [rx_u_same]
    refine ru_if_ne (tgt := 49) d_Mo_rule_31 (by decide) (fun h31 => ?_) (fun h31 => absurd h31 (by decide))
    refine ru_iconst (v := 0) d_Mo_rule_49 (by decide) ?_
    refine ru_iret d_Mo_rule_50 rfl ?_
    exact ⟨rfl, rfl⟩
  · skip
    replace h6 := bI_ne0.mp h6
    refine ru_iload_n d_Mo_rule_9 rfl rfl ?_
    refine ru_if_lt (tgt := 23) d_Mo_rule_10 (by decide) (fun h10 => ?_) (fun h10 => ?_)
    · skip
      refine ru_iconst (v := 1) d_Mo_rule_23 (by decide) ?_
      refine ru_putI d_Mo_rule_24 lf_Mo_39 (ly hL 398 9 0) rfl (fun q hq => by cases hq; exact Or.inl rfl) ⟨rfl, rfl⟩ ?_
      refine ru_aload_n d_Mo_rule_27 rfl rfl ?_
      refine ru_getI d_Mo_rule_28 lf_Mo_39 (ly hL 398 9 0) rfl ?_
      rw [rx_u_same]
      refine ru_if_ne (tgt := 49) d_Mo_rule_31 (by decide) (fun h31 => ?_) (fun h31 => absurd h31 (by decide))
      refine ru_iconst (v := 0) d_Mo_rule_49 (by decide) ?_
      refine ru_iret d_Mo_rule_50 rfl ?_
      exact ⟨rfl, rfl⟩
    · skip
      refine ru_iload_n d_Mo_rule_13 rfl rfl ?_
      refine ru_bipush (v := 8) d_Mo_rule_14 (by decide) ?_
      refine ru_icmp_ge (tgt := 23) d_Mo_rule_16 (by decide) (fun h16 => ?_) (fun h16 => ?_)
      · skip
        refine ru_iconst (v := 1) d_Mo_rule_23 (by decide) ?_
        refine ru_putI d_Mo_rule_24 lf_Mo_39 (ly hL 398 9 0) rfl (fun q hq => by cases hq; exact Or.inl rfl) ⟨rfl, rfl⟩ ?_
        refine ru_aload_n d_Mo_rule_27 rfl rfl ?_
        refine ru_getI d_Mo_rule_28 lf_Mo_39 (ly hL 398 9 0) rfl ?_
        rw [rx_u_same]
        refine ru_if_ne (tgt := 49) d_Mo_rule_31 (by decide) (fun h31 => ?_) (fun h31 => absurd h31 (by decide))
        refine ru_iconst (v := 0) d_Mo_rule_49 (by decide) ?_
        refine ru_iret d_Mo_rule_50 rfl ?_
        exact ⟨rfl, rfl⟩
      · skip
        exfalso; ((try simp only [isLet, isDig, isLD, isTC, il, ie, iq, i_m1, i_0, i_1, i_2, i_7, i_8, i_10, i_15, i_32, i_46, i_48, i_57, i_59, i_97, i_122] at *); omega)
theorem sp_Mo_value {n k w : Nat} (hL : LAY nx ct mr) (hn : mi 398 7 = nI n) (hn2 : n ≤ 60) (hk : k < n) (hw : w < 2) : rx_Calls y_Mo_value_II M_Mo_value_II 1 0 0 [.ref 398, .int (nI k), .int (nI w)] (nx, ct, mi, ml, mr) (fun v τ => v = some (.long (ml 404 (12 * k + 8 + w))) ∧ τ = (nx, ct, rx_u mi 398 0 0, ml, mr)) := by
  refine rx_enter (by decide) rfl rfl (Nat.le_of_ble_eq_true rfl) ?_
  refine ru_aload_n d_Mo_value_II_0 rfl rfl ?_
  refine ru_aload_n d_Mo_value_II_1 rfl rfl ?_
  refine ru_iload_n d_Mo_value_II_2 rfl rfl ?_
  refine ru_callV (mc := 0) (ms := 0) d_Mo_value_II_3 lm_Mo_192 (sp_Mo_isRuleN hL hn hn2 (by omega)) (rx_recv_is (ly hL 398 9 0) kx_Mo) (by decide) rfl (by decide) ?_
  intro v τ h
  obtain ⟨rfl, rfl⟩ := h
  refine ru_if_eq (tgt := 22) d_Mo_value_II_6 (by decide) (fun h6 => ?_) (fun h6 => ?_)
  · skip
    replace h6 := bI_eq0.mp h6
    refine ru_iconst (v := 1) d_Mo_value_II_22 (by decide) ?_
    refine ru_putI d_Mo_value_II_23 lf_Mo_39 (ly hL 398 9 0) rfl (fun q hq => by cases hq; exact Or.inl rfl) ⟨rfl, rfl⟩ ?_
    refine ru_aload_n d_Mo_value_II_26 rfl rfl ?_
    refine ru_getI d_Mo_value_II_27 lf_Mo_39 (ly hL 398 9 0) rfl ?_
    rw [rx_u_same]
    refine ru_if_ne (tgt := 50) d_Mo_value_II_30 (by decide) (fun h30 => ?_) (fun h30 => absurd h30 (by decide))
    refine ru_lconst (v := 0) d_Mo_value_II_50 (by decide) ?_
    refine ru_lret d_Mo_value_II_51 rfl ?_
    first | (exfalso; omega) | exact ⟨rfl, rfl⟩
  · skip
    replace h6 := bI_ne0.mp h6
    refine ru_iload_n d_Mo_value_II_9 rfl rfl ?_
    refine ru_if_lt (tgt := 22) d_Mo_value_II_10 (by decide) (fun h10 => ?_) (fun h10 => ?_)
    · skip
      replace h10 := nm_lt (a := w) (b := 0) (by omega) (by omega) h10
      refine ru_iconst (v := 1) d_Mo_value_II_22 (by decide) ?_
      refine ru_putI d_Mo_value_II_23 lf_Mo_39 (ly hL 398 9 0) rfl (fun q hq => by cases hq; exact Or.inl rfl) ⟨rfl, rfl⟩ ?_
      refine ru_aload_n d_Mo_value_II_26 rfl rfl ?_
      refine ru_getI d_Mo_value_II_27 lf_Mo_39 (ly hL 398 9 0) rfl ?_
      rw [rx_u_same]
      refine ru_if_ne (tgt := 50) d_Mo_value_II_30 (by decide) (fun h30 => ?_) (fun h30 => absurd h30 (by decide))
      refine ru_lconst (v := 0) d_Mo_value_II_50 (by decide) ?_
      refine ru_lret d_Mo_value_II_51 rfl ?_
      first | (exfalso; omega) | exact ⟨rfl, rfl⟩
    · skip
      replace h10 := nm_nlt (a := w) (b := 0) (by omega) (by omega) h10
      refine ru_iload_n d_Mo_value_II_13 rfl rfl ?_
      refine ru_iconst (v := 2) d_Mo_value_II_14 (by decide) ?_
      refine ru_icmp_ge (tgt := 22) d_Mo_value_II_15 (by decide) (fun h15 => ?_) (fun h15 => ?_)
      · skip
        replace h15 := nm_le (a := 2) (b := w) (by omega) (by omega) h15
        refine ru_iconst (v := 1) d_Mo_value_II_22 (by decide) ?_
        refine ru_putI d_Mo_value_II_23 lf_Mo_39 (ly hL 398 9 0) rfl (fun q hq => by cases hq; exact Or.inl rfl) ⟨rfl, rfl⟩ ?_
        refine ru_aload_n d_Mo_value_II_26 rfl rfl ?_
        refine ru_getI d_Mo_value_II_27 lf_Mo_39 (ly hL 398 9 0) rfl ?_
        rw [rx_u_same]
        refine ru_if_ne (tgt := 50) d_Mo_value_II_30 (by decide) (fun h30 => ?_) (fun h30 => absurd h30 (by decide))
        refine ru_lconst (v := 0) d_Mo_value_II_50 (by decide) ?_
        refine ru_lret d_Mo_value_II_51 rfl ?_
        first | (exfalso; omega) | exact ⟨rfl, rfl⟩
      · skip
        replace h15 := nm_nle (a := 2) (b := w) (by omega) (by omega) h15
        refine ru_iconst (v := 0) d_Mo_value_II_18 (by decide) ?_
        refine ru_goto (tgt := 23) d_Mo_value_II_19 (by decide) ?_
        refine ru_putI d_Mo_value_II_23 lf_Mo_39 (ly hL 398 9 0) rfl (fun q hq => by cases hq; exact Or.inl rfl) ⟨rfl, rfl⟩ ?_
        refine ru_aload_n d_Mo_value_II_26 rfl rfl ?_
        refine ru_getI d_Mo_value_II_27 lf_Mo_39 (ly hL 398 9 0) rfl ?_
        rw [rx_u_same]
        refine ru_if_ne (tgt := 50) d_Mo_value_II_30 (by decide) (fun h30 => absurd h30 (by decide)) (fun h30 => ?_)
        refine ru_aload_n d_Mo_value_II_33 rfl rfl ?_
        refine ru_getR d_Mo_value_II_34 lf_Mo_27 (ly hL 398 9 0) rfl (lr hL 398 8 404) ?_
        refine ru_bipush (v := 12) d_Mo_value_II_37 (by decide) ?_
        refine ru_iload_n d_Mo_value_II_39 rfl rfl ?_
        refine ru_imul d_Mo_value_II_40 ?_
        refine ru_eqi (nm_mul 12 k : _ = nI (12 * k)) ?_
        refine ru_bipush (v := 8) d_Mo_value_II_41 (by decide) ?_
        refine ru_iadd d_Mo_value_II_43 ?_
        refine ru_eqi (nm_add (12 * k) 8 : _ = nI ((12 * k) + 8)) ?_
        refine ru_iload_n d_Mo_value_II_44 rfl rfl ?_
        refine ru_iadd d_Mo_value_II_45 ?_
        refine ru_eqi (nm_add ((12 * k) + 8) w : _ = nI (((12 * k) + 8) + w)) ?_
        refine ru_laldN (j := (((12 * k) + 8) + w)) d_Mo_value_II_46 (ly hL 404 104 1440) (by omega) (by decide) ?_
        refine ru_goto (tgt := 51) d_Mo_value_II_47 (by decide) ?_
        refine ru_lret d_Mo_value_II_51 rfl ?_
        first | (exfalso; omega) | exact ⟨rfl, rfl⟩
theorem sp_Mo_value0 {n : Nat} {k w : Int32} (hL : LAY nx ct mr) (hn : mi 398 7 = nI n) (hn2 : n ≤ 60) (hk : ¬ ((0 ≤ k.toInt ∧ k.toInt < n) ∧ 0 ≤ w.toInt ∧ w.toInt < 2)) : rx_Calls y_Mo_value_II M_Mo_value_II 1 0 0 [.ref 398, .int k, .int w] (nx, ct, mi, ml, mr) (fun v τ => v = some (.long 0) ∧ τ = (nx, ct, rx_u mi 398 0 1, ml, mr)) := by
  refine rx_enter (by decide) rfl rfl (Nat.le_of_ble_eq_true rfl) ?_
  refine ru_aload_n d_Mo_value_II_0 rfl rfl ?_
  refine ru_aload_n d_Mo_value_II_1 rfl rfl ?_
  refine ru_iload_n d_Mo_value_II_2 rfl rfl ?_
  refine ru_callV (mc := 0) (ms := 0) d_Mo_value_II_3 lm_Mo_192 (sp_Mo_isRule hL k hn hn2) (rx_recv_is (ly hL 398 9 0) kx_Mo) (by decide) rfl (by decide) ?_
  intro v τ h
  obtain ⟨rfl, rfl⟩ := h
  refine ru_if_eq (tgt := 22) d_Mo_value_II_6 (by decide) (fun h6 => ?_) (fun h6 => ?_)
  · skip
    replace h6 := bI_eq0.mp h6
    refine ru_iconst (v := 1) d_Mo_value_II_22 (by decide) ?_
    refine ru_putI d_Mo_value_II_23 lf_Mo_39 (ly hL 398 9 0) rfl (fun q hq => by cases hq; exact Or.inl rfl) ⟨rfl, rfl⟩ ?_
    refine ru_aload_n d_Mo_value_II_26 rfl rfl ?_
    refine ru_getI d_Mo_value_II_27 lf_Mo_39 (ly hL 398 9 0) rfl ?_
    rw [rx_u_same]
    refine ru_if_ne (tgt := 50) d_Mo_value_II_30 (by decide) (fun h30 => ?_) (fun h30 => absurd h30 (by decide))
    refine ru_lconst (v := 0) d_Mo_value_II_50 (by decide) ?_
    refine ru_lret d_Mo_value_II_51 rfl ?_
    exact ⟨rfl, rfl⟩
  · skip
    replace h6 := bI_ne0.mp h6
    refine ru_iload_n d_Mo_value_II_9 rfl rfl ?_
    refine ru_if_lt (tgt := 22) d_Mo_value_II_10 (by decide) (fun h10 => ?_) (fun h10 => ?_)
    · skip
      refine ru_iconst (v := 1) d_Mo_value_II_22 (by decide) ?_
      refine ru_putI d_Mo_value_II_23 lf_Mo_39 (ly hL 398 9 0) rfl (fun q hq => by cases hq; exact Or.inl rfl) ⟨rfl, rfl⟩ ?_
      refine ru_aload_n d_Mo_value_II_26 rfl rfl ?_
      refine ru_getI d_Mo_value_II_27 lf_Mo_39 (ly hL 398 9 0) rfl ?_
      rw [rx_u_same]
      refine ru_if_ne (tgt := 50) d_Mo_value_II_30 (by decide) (fun h30 => ?_) (fun h30 => absurd h30 (by decide))
      refine ru_lconst (v := 0) d_Mo_value_II_50 (by decide) ?_
      refine ru_lret d_Mo_value_II_51 rfl ?_
      exact ⟨rfl, rfl⟩
    · skip
      refine ru_iload_n d_Mo_value_II_13 rfl rfl ?_
      refine ru_iconst (v := 2) d_Mo_value_II_14 (by decide) ?_
      refine ru_icmp_ge (tgt := 22) d_Mo_value_II_15 (by decide) (fun h15 => ?_) (fun h15 => ?_)
      · skip
        refine ru_iconst (v := 1) d_Mo_value_II_22 (by decide) ?_
        refine ru_putI d_Mo_value_II_23 lf_Mo_39 (ly hL 398 9 0) rfl (fun q hq => by cases hq; exact Or.inl rfl) ⟨rfl, rfl⟩ ?_
        refine ru_aload_n d_Mo_value_II_26 rfl rfl ?_
        refine ru_getI d_Mo_value_II_27 lf_Mo_39 (ly hL 398 9 0) rfl ?_
        rw [rx_u_same]
        refine ru_if_ne (tgt := 50) d_Mo_value_II_30 (by decide) (fun h30 => ?_) (fun h30 => absurd h30 (by decide))
        refine ru_lconst (v := 0) d_Mo_value_II_50 (by decide) ?_
        refine ru_lret d_Mo_value_II_51 rfl ?_
        exact ⟨rfl, rfl⟩
      · skip
        exfalso; ((try simp only [isLet, isDig, isLD, isTC, il, ie, iq, i_m1, i_0, i_1, i_2, i_7, i_8, i_10, i_15, i_32, i_46, i_48, i_57, i_59, i_97, i_122] at *); omega)
theorem sp_Mo_line {n k : Nat} (hL : LAY nx ct mr) (hn : mi 398 7 = nI n) (hn2 : n ≤ 60) (hk : k < n) : rx_Calls y_Mo_line M_Mo_line 1 0 0 [.ref 398, .int (nI k)] (nx, ct, mi, ml, mr) (fun v τ => v = some (.int (ml 404 (12 * k + 10)).toInt32) ∧ τ = (nx, ct, rx_u mi 398 0 0, ml, mr)) := by
  refine rx_enter (by decide) rfl rfl (Nat.le_of_ble_eq_true rfl) ?_
  refine ru_aload_n d_Mo_line_0 rfl rfl ?_
  refine ru_aload_n d_Mo_line_1 rfl rfl ?_
  refine ru_iload_n d_Mo_line_2 rfl rfl ?_
  refine ru_callV (mc := 0) (ms := 0) d_Mo_line_3 lm_Mo_192 (sp_Mo_isRuleN hL hn hn2 (by omega)) (rx_recv_is (ly hL 398 9 0) kx_Mo) (by decide) rfl (by decide) ?_
  intro v τ h
  obtain ⟨rfl, rfl⟩ := h
  refine ru_if_eq (tgt := 13) d_Mo_line_6 (by decide) (fun h6 => ?_) (fun h6 => ?_)
  · skip
    replace h6 := bI_eq0.mp h6
    refine ru_iconst (v := 1) d_Mo_line_13 (by decide) ?_
    refine ru_putI d_Mo_line_14 lf_Mo_39 (ly hL 398 9 0) rfl (fun q hq => by cases hq; exact Or.inl rfl) ⟨rfl, rfl⟩ ?_
    refine ru_aload_n d_Mo_line_17 rfl rfl ?_
    refine ru_getI d_Mo_line_18 lf_Mo_39 (ly hL 398 9 0) rfl ?_
    rw [rx_u_same]
    refine ru_if_ne (tgt := 40) d_Mo_line_21 (by decide) (fun h21 => ?_) (fun h21 => absurd h21 (by decide))
    refine ru_iconst (v := 0) d_Mo_line_40 (by decide) ?_
    refine ru_iret d_Mo_line_41 rfl ?_
    first | (exfalso; omega) | exact ⟨rfl, rfl⟩
  · skip
    replace h6 := bI_ne0.mp h6
    refine ru_iconst (v := 0) d_Mo_line_9 (by decide) ?_
    refine ru_goto (tgt := 14) d_Mo_line_10 (by decide) ?_
    refine ru_putI d_Mo_line_14 lf_Mo_39 (ly hL 398 9 0) rfl (fun q hq => by cases hq; exact Or.inl rfl) ⟨rfl, rfl⟩ ?_
    refine ru_aload_n d_Mo_line_17 rfl rfl ?_
    refine ru_getI d_Mo_line_18 lf_Mo_39 (ly hL 398 9 0) rfl ?_
    rw [rx_u_same]
    refine ru_if_ne (tgt := 40) d_Mo_line_21 (by decide) (fun h21 => absurd h21 (by decide)) (fun h21 => ?_)
    refine ru_aload_n d_Mo_line_24 rfl rfl ?_
    refine ru_getR d_Mo_line_25 lf_Mo_27 (ly hL 398 9 0) rfl (lr hL 398 8 404) ?_
    refine ru_bipush (v := 12) d_Mo_line_28 (by decide) ?_
    refine ru_iload_n d_Mo_line_30 rfl rfl ?_
    refine ru_imul d_Mo_line_31 ?_
    refine ru_eqi (nm_mul 12 k : _ = nI (12 * k)) ?_
    refine ru_bipush (v := 10) d_Mo_line_32 (by decide) ?_
    refine ru_iadd d_Mo_line_34 ?_
    refine ru_eqi (nm_add (12 * k) 10 : _ = nI ((12 * k) + 10)) ?_
    refine ru_laldN (j := ((12 * k) + 10)) d_Mo_line_35 (ly hL 404 104 1440) (by omega) (by decide) ?_
    refine ru_l2i d_Mo_line_36 ?_
    refine ru_goto (tgt := 41) d_Mo_line_37 (by decide) ?_
    refine ru_iret d_Mo_line_41 rfl ?_
    first | (exfalso; omega) | exact ⟨rfl, rfl⟩
theorem sp_Mo_line0 {n : Nat} {k : Int32} (hL : LAY nx ct mr) (hn : mi 398 7 = nI n) (hn2 : n ≤ 60) (hk : ¬ (0 ≤ k.toInt ∧ k.toInt < n)) : rx_Calls y_Mo_line M_Mo_line 1 0 0 [.ref 398, .int k] (nx, ct, mi, ml, mr) (fun v τ => v = some (.int 0) ∧ τ = (nx, ct, rx_u mi 398 0 1, ml, mr)) := by
  refine rx_enter (by decide) rfl rfl (Nat.le_of_ble_eq_true rfl) ?_
  refine ru_aload_n d_Mo_line_0 rfl rfl ?_
  refine ru_aload_n d_Mo_line_1 rfl rfl ?_
  refine ru_iload_n d_Mo_line_2 rfl rfl ?_
  refine ru_callV (mc := 0) (ms := 0) d_Mo_line_3 lm_Mo_192 (sp_Mo_isRule hL k hn hn2) (rx_recv_is (ly hL 398 9 0) kx_Mo) (by decide) rfl (by decide) ?_
  intro v τ h
  obtain ⟨rfl, rfl⟩ := h
  refine ru_if_eq (tgt := 13) d_Mo_line_6 (by decide) (fun h6 => ?_) (fun h6 => ?_)
  · skip
    replace h6 := bI_eq0.mp h6
    refine ru_iconst (v := 1) d_Mo_line_13 (by decide) ?_
    refine ru_putI d_Mo_line_14 lf_Mo_39 (ly hL 398 9 0) rfl (fun q hq => by cases hq; exact Or.inl rfl) ⟨rfl, rfl⟩ ?_
    refine ru_aload_n d_Mo_line_17 rfl rfl ?_
    refine ru_getI d_Mo_line_18 lf_Mo_39 (ly hL 398 9 0) rfl ?_
    rw [rx_u_same]
    refine ru_if_ne (tgt := 40) d_Mo_line_21 (by decide) (fun h21 => ?_) (fun h21 => absurd h21 (by decide))
    refine ru_iconst (v := 0) d_Mo_line_40 (by decide) ?_
    refine ru_iret d_Mo_line_41 rfl ?_
    exact ⟨rfl, rfl⟩
  · skip
    replace h6 := bI_ne0.mp h6
    exact absurd h6 hk
end
