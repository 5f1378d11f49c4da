/-! The reference reads: names, small numbers, the end of a sentence -/
theorem d_Mo_isSemicolon_0 : decode M_Mo_isSemicolon.2.1 0 = .ok (.aload_n 0, 1) := by decide +kernel
theorem d_Mo_isSemicolon_1 : decode M_Mo_isSemicolon.2.1 1 = .ok (.invokevirtual 62, 3) := by decide +kernel
theorem d_Mo_isSemicolon_4 : decode M_Mo_isSemicolon.2.1 4 = .ok (.iconst 1, 1) := by decide +kernel
theorem d_Mo_isSemicolon_5 : decode M_Mo_isSemicolon.2.1 5 = .ok (.if_icmp .ne 26, 3) := by decide +kernel
theorem d_Mo_isSemicolon_8 : decode M_Mo_isSemicolon.2.1 8 = .ok (.aload_n 0, 1) := by decide +kernel
theorem d_Mo_isSemicolon_9 : decode M_Mo_isSemicolon.2.1 9 = .ok (.getfield 7, 3) := by decide +kernel
theorem d_Mo_isSemicolon_12 : decode M_Mo_isSemicolon.2.1 12 = .ok (.aload_n 0, 1) := by decide +kernel
theorem d_Mo_isSemicolon_13 : decode M_Mo_isSemicolon.2.1 13 = .ok (.getfield 30, 3) := by decide +kernel
theorem d_Mo_isSemicolon_16 : decode M_Mo_isSemicolon.2.1 16 = .ok (.aload_n 0, 1) := by decide +kernel
theorem d_Mo_isSemicolon_17 : decode M_Mo_isSemicolon.2.1 17 = .ok (.getfield 59, 3) := by decide +kernel
theorem d_Mo_isSemicolon_20 : decode M_Mo_isSemicolon.2.1 20 = .ok (.iaload, 1) := by decide +kernel
theorem d_Mo_isSemicolon_21 : decode M_Mo_isSemicolon.2.1 21 = .ok (.iaload, 1) := by decide +kernel
theorem d_Mo_isSemicolon_22 : decode M_Mo_isSemicolon.2.1 22 = .ok (.bipush 59, 2) := by decide +kernel
theorem d_Mo_isSemicolon_24 : decode M_Mo_isSemicolon.2.1 24 = .ok (.if_icmp .ne 7, 3) := by decide +kernel
theorem d_Mo_isSemicolon_27 : decode M_Mo_isSemicolon.2.1 27 = .ok (.iconst 1, 1) := by decide +kernel
theorem d_Mo_isSemicolon_28 : decode M_Mo_isSemicolon.2.1 28 = .ok (.goto 4, 3) := by decide +kernel
theorem d_Mo_isSemicolon_31 : decode M_Mo_isSemicolon.2.1 31 = .ok (.iconst 0, 1) := by decide +kernel
theorem d_Mo_isSemicolon_32 : decode M_Mo_isSemicolon.2.1 32 = .ok (.ireturn, 1) := by decide +kernel
theorem d_Mo_named_0 : decode M_Mo_named.2.1 0 = .ok (.aload_n 0, 1) := by decide +kernel
theorem d_Mo_named_1 : decode M_Mo_named.2.1 1 = .ok (.invokevirtual 75, 3) := by decide +kernel
theorem d_Mo_named_4 : decode M_Mo_named.2.1 4 = .ok (.ifCond .ne 5, 3) := by decide +kernel
theorem d_Mo_named_7 : decode M_Mo_named.2.1 7 = .ok (.iconst 0, 1) := by decide +kernel
theorem d_Mo_named_8 : decode M_Mo_named.2.1 8 = .ok (.ireturn, 1) := by decide +kernel
theorem d_Mo_named_9 : decode M_Mo_named.2.1 9 = .ok (.bipush 16, 2) := by decide +kernel
theorem d_Mo_named_11 : decode M_Mo_named.2.1 11 = .ok (.iload_n 1, 1) := by decide +kernel
theorem d_Mo_named_12 : decode M_Mo_named.2.1 12 = .ok (.imul, 1) := by decide +kernel
theorem d_Mo_named_13 : decode M_Mo_named.2.1 13 = .ok (.istore_n 2, 1) := by decide +kernel
theorem d_Mo_named_14 : decode M_Mo_named.2.1 14 = .ok (.iload_n 2, 1) := by decide +kernel
theorem d_Mo_named_15 : decode M_Mo_named.2.1 15 = .ok (.bipush 16, 2) := by decide +kernel
theorem d_Mo_named_17 : decode M_Mo_named.2.1 17 = .ok (.iload_n 1, 1) := by decide +kernel
theorem d_Mo_named_18 : decode M_Mo_named.2.1 18 = .ok (.imul, 1) := by decide +kernel
theorem d_Mo_named_19 : decode M_Mo_named.2.1 19 = .ok (.bipush 16, 2) := by decide +kernel
theorem d_Mo_named_21 : decode M_Mo_named.2.1 21 = .ok (.iadd, 1) := by decide +kernel
theorem d_Mo_named_22 : decode M_Mo_named.2.1 22 = .ok (.if_icmp .ge 120, 3) := by decide +kernel
theorem d_Mo_named_25 : decode M_Mo_named.2.1 25 = .ok (.aload_n 0, 1) := by decide +kernel
theorem d_Mo_named_26 : decode M_Mo_named.2.1 26 = .ok (.getfield 13, 3) := by decide +kernel
theorem d_Mo_named_29 : decode M_Mo_named.2.1 29 = .ok (.iload_n 2, 1) := by decide +kernel
theorem d_Mo_named_30 : decode M_Mo_named.2.1 30 = .ok (.iaload, 1) := by decide +kernel
theorem d_Mo_named_31 : decode M_Mo_named.2.1 31 = .ok (.ifCond .le 20, 3) := by decide +kernel
theorem d_Mo_named_34 : decode M_Mo_named.2.1 34 = .ok (.aload_n 0, 1) := by decide +kernel
theorem d_Mo_named_35 : decode M_Mo_named.2.1 35 = .ok (.getfield 13, 3) := by decide +kernel
theorem d_Mo_named_38 : decode M_Mo_named.2.1 38 = .ok (.iload_n 2, 1) := by decide +kernel
theorem d_Mo_named_39 : decode M_Mo_named.2.1 39 = .ok (.iaload, 1) := by decide +kernel
theorem d_Mo_named_40 : decode M_Mo_named.2.1 40 = .ok (.aload_n 0, 1) := by decide +kernel
theorem d_Mo_named_41 : decode M_Mo_named.2.1 41 = .ok (.invokevirtual 62, 3) := by decide +kernel
theorem d_Mo_named_44 : decode M_Mo_named.2.1 44 = .ok (.if_icmp .ne 7, 3) := by decide +kernel
theorem d_Mo_named_47 : decode M_Mo_named.2.1 47 = .ok (.iconst 1, 1) := by decide +kernel
theorem d_Mo_named_48 : decode M_Mo_named.2.1 48 = .ok (.goto 4, 3) := by decide +kernel
theorem d_Mo_named_51 : decode M_Mo_named.2.1 51 = .ok (.iconst 0, 1) := by decide +kernel
theorem d_Mo_named_52 : decode M_Mo_named.2.1 52 = .ok (.istore_n 3, 1) := by decide +kernel
theorem d_Mo_named_53 : decode M_Mo_named.2.1 53 = .ok (.iconst 0, 1) := by decide +kernel
theorem d_Mo_named_54 : decode M_Mo_named.2.1 54 = .ok (.istore 4, 2) := by decide +kernel
theorem d_Mo_named_56 : decode M_Mo_named.2.1 56 = .ok (.iload 4, 2) := by decide +kernel
theorem d_Mo_named_58 : decode M_Mo_named.2.1 58 = .ok (.aload_n 0, 1) := by decide +kernel
theorem d_Mo_named_59 : decode M_Mo_named.2.1 59 = .ok (.getfield 13, 3) := by decide +kernel
theorem d_Mo_named_62 : decode M_Mo_named.2.1 62 = .ok (.iload_n 2, 1) := by decide +kernel
theorem d_Mo_named_63 : decode M_Mo_named.2.1 63 = .ok (.iaload, 1) := by decide +kernel
theorem d_Mo_named_64 : decode M_Mo_named.2.1 64 = .ok (.if_icmp .ge 51, 3) := by decide +kernel
theorem d_Mo_named_67 : decode M_Mo_named.2.1 67 = .ok (.iload_n 3, 1) := by decide +kernel
theorem d_Mo_named_68 : decode M_Mo_named.2.1 68 = .ok (.ifCond .eq 47, 3) := by decide +kernel
theorem d_Mo_named_71 : decode M_Mo_named.2.1 71 = .ok (.aload_n 0, 1) := by decide +kernel
theorem d_Mo_named_72 : decode M_Mo_named.2.1 72 = .ok (.getfield 16, 3) := by decide +kernel
theorem d_Mo_named_75 : decode M_Mo_named.2.1 75 = .ok (.bipush 8, 2) := by decide +kernel
theorem d_Mo_named_77 : decode M_Mo_named.2.1 77 = .ok (.iload_n 2, 1) := by decide +kernel
theorem d_Mo_named_78 : decode M_Mo_named.2.1 78 = .ok (.imul, 1) := by decide +kernel
theorem d_Mo_named_79 : decode M_Mo_named.2.1 79 = .ok (.iload 4, 2) := by decide +kernel
theorem d_Mo_named_81 : decode M_Mo_named.2.1 81 = .ok (.iadd, 1) := by decide +kernel
theorem d_Mo_named_82 : decode M_Mo_named.2.1 82 = .ok (.iaload, 1) := by decide +kernel
theorem d_Mo_named_83 : decode M_Mo_named.2.1 83 = .ok (.aload_n 0, 1) := by decide +kernel
theorem d_Mo_named_84 : decode M_Mo_named.2.1 84 = .ok (.getfield 7, 3) := by decide +kernel
theorem d_Mo_named_87 : decode M_Mo_named.2.1 87 = .ok (.aload_n 0, 1) := by decide +kernel
theorem d_Mo_named_88 : decode M_Mo_named.2.1 88 = .ok (.getfield 30, 3) := by decide +kernel
theorem d_Mo_named_91 : decode M_Mo_named.2.1 91 = .ok (.aload_n 0, 1) := by decide +kernel
theorem d_Mo_named_92 : decode M_Mo_named.2.1 92 = .ok (.getfield 59, 3) := by decide +kernel
theorem d_Mo_named_95 : decode M_Mo_named.2.1 95 = .ok (.iaload, 1) := by decide +kernel
theorem d_Mo_named_96 : decode M_Mo_named.2.1 96 = .ok (.iload 4, 2) := by decide +kernel
theorem d_Mo_named_98 : decode M_Mo_named.2.1 98 = .ok (.iadd, 1) := by decide +kernel
theorem d_Mo_named_99 : decode M_Mo_named.2.1 99 = .ok (.iaload, 1) := by decide +kernel
theorem d_Mo_named_100 : decode M_Mo_named.2.1 100 = .ok (.if_icmp .ne 7, 3) := by decide +kernel
theorem d_Mo_named_103 : decode M_Mo_named.2.1 103 = .ok (.iconst 1, 1) := by decide +kernel
theorem d_Mo_named_104 : decode M_Mo_named.2.1 104 = .ok (.goto 4, 3) := by decide +kernel
theorem d_Mo_named_107 : decode M_Mo_named.2.1 107 = .ok (.iconst 0, 1) := by decide +kernel
theorem d_Mo_named_108 : decode M_Mo_named.2.1 108 = .ok (.istore_n 3, 1) := by decide +kernel
theorem d_Mo_named_109 : decode M_Mo_named.2.1 109 = .ok (.iinc 4 1, 3) := by decide +kernel
theorem d_Mo_named_112 : decode M_Mo_named.2.1 112 = .ok (.goto (-56), 3) := by decide +kernel
theorem d_Mo_named_115 : decode M_Mo_named.2.1 115 = .ok (.iload_n 3, 1) := by decide +kernel
theorem d_Mo_named_116 : decode M_Mo_named.2.1 116 = .ok (.ifCond .eq 20, 3) := by decide +kernel
theorem d_Mo_named_119 : decode M_Mo_named.2.1 119 = .ok (.aload_n 0, 1) := by decide +kernel
theorem d_Mo_named_120 : decode M_Mo_named.2.1 120 = .ok (.dup, 1) := by decide +kernel
theorem d_Mo_named_121 : decode M_Mo_named.2.1 121 = .ok (.getfield 59, 3) := by decide +kernel
theorem d_Mo_named_124 : decode M_Mo_named.2.1 124 = .ok (.iconst 1, 1) := by decide +kernel
theorem d_Mo_named_125 : decode M_Mo_named.2.1 125 = .ok (.iadd, 1) := by decide +kernel
theorem d_Mo_named_126 : decode M_Mo_named.2.1 126 = .ok (.putfield 59, 3) := by decide +kernel
theorem d_Mo_named_129 : decode M_Mo_named.2.1 129 = .ok (.iload_n 2, 1) := by decide +kernel
theorem d_Mo_named_130 : decode M_Mo_named.2.1 130 = .ok (.bipush 16, 2) := by decide +kernel
theorem d_Mo_named_132 : decode M_Mo_named.2.1 132 = .ok (.iload_n 1, 1) := by decide +kernel
theorem d_Mo_named_133 : decode M_Mo_named.2.1 133 = .ok (.imul, 1) := by decide +kernel
theorem d_Mo_named_134 : decode M_Mo_named.2.1 134 = .ok (.isub, 1) := by decide +kernel
theorem d_Mo_named_135 : decode M_Mo_named.2.1 135 = .ok (.ireturn, 1) := by decide +kernel
theorem d_Mo_named_136 : decode M_Mo_named.2.1 136 = .ok (.iinc 2 1, 3) := by decide +kernel
theorem d_Mo_named_139 : decode M_Mo_named.2.1 139 = .ok (.goto (-125), 3) := by decide +kernel
theorem d_Mo_named_142 : decode M_Mo_named.2.1 142 = .ok (.aload_n 0, 1) := by decide +kernel
theorem d_Mo_named_143 : decode M_Mo_named.2.1 143 = .ok (.aload_n 0, 1) := by decide +kernel
theorem d_Mo_named_144 : decode M_Mo_named.2.1 144 = .ok (.getfield 59, 3) := by decide +kernel
theorem d_Mo_named_147 : decode M_Mo_named.2.1 147 = .ok (.invokevirtual 87, 3) := by decide +kernel
theorem d_Mo_named_150 : decode M_Mo_named.2.1 150 = .ok (.iconst 0, 1) := by decide +kernel
theorem d_Mo_named_151 : decode M_Mo_named.2.1 151 = .ok (.ireturn, 1) := by decide +kernel
theorem d_Mo_small_0 : decode M_Mo_small.2.1 0 = .ok (.iconst 0, 1) := by decide +kernel
theorem d_Mo_small_1 : decode M_Mo_small.2.1 1 = .ok (.istore_n 3, 1) := by decide +kernel
theorem d_Mo_small_2 : decode M_Mo_small.2.1 2 = .ok (.aload_n 0, 1) := by decide +kernel
theorem d_Mo_small_3 : decode M_Mo_small.2.1 3 = .ok (.invokevirtual 75, 3) := by decide +kernel
theorem d_Mo_small_6 : decode M_Mo_small.2.1 6 = .ok (.ifCond .eq 22, 3) := by decide +kernel
theorem d_Mo_small_9 : decode M_Mo_small.2.1 9 = .ok (.aload_n 0, 1) := by decide +kernel
theorem d_Mo_small_10 : decode M_Mo_small.2.1 10 = .ok (.invokevirtual 62, 3) := by decide +kernel
theorem d_Mo_small_13 : decode M_Mo_small.2.1 13 = .ok (.ifCond .le 15, 3) := by decide +kernel
theorem d_Mo_small_16 : decode M_Mo_small.2.1 16 = .ok (.aload_n 0, 1) := by decide +kernel
theorem d_Mo_small_17 : decode M_Mo_small.2.1 17 = .ok (.invokevirtual 62, 3) := by decide +kernel
theorem d_Mo_small_20 : decode M_Mo_small.2.1 20 = .ok (.iconst 3, 1) := by decide +kernel
theorem d_Mo_small_21 : decode M_Mo_small.2.1 21 = .ok (.if_icmp .ge 7, 3) := by decide +kernel
theorem d_Mo_small_24 : decode M_Mo_small.2.1 24 = .ok (.iconst 1, 1) := by decide +kernel
theorem d_Mo_small_25 : decode M_Mo_small.2.1 25 = .ok (.goto 4, 3) := by decide +kernel
theorem d_Mo_small_28 : decode M_Mo_small.2.1 28 = .ok (.iconst 0, 1) := by decide +kernel
theorem d_Mo_small_29 : decode M_Mo_small.2.1 29 = .ok (.istore 4, 2) := by decide +kernel
theorem d_Mo_small_31 : decode M_Mo_small.2.1 31 = .ok (.iconst 0, 1) := by decide +kernel
theorem d_Mo_small_32 : decode M_Mo_small.2.1 32 = .ok (.istore 5, 2) := by decide +kernel
theorem d_Mo_small_34 : decode M_Mo_small.2.1 34 = .ok (.iload 5, 2) := by decide +kernel
theorem d_Mo_small_36 : decode M_Mo_small.2.1 36 = .ok (.aload_n 0, 1) := by decide +kernel
theorem d_Mo_small_37 : decode M_Mo_small.2.1 37 = .ok (.invokevirtual 62, 3) := by decide +kernel
theorem d_Mo_small_40 : decode M_Mo_small.2.1 40 = .ok (.if_icmp .ge 62, 3) := by decide +kernel
theorem d_Mo_small_43 : decode M_Mo_small.2.1 43 = .ok (.iload 4, 2) := by decide +kernel
theorem d_Mo_small_45 : decode M_Mo_small.2.1 45 = .ok (.ifCond .eq 57, 3) := by decide +kernel
theorem d_Mo_small_48 : decode M_Mo_small.2.1 48 = .ok (.aload_n 0, 1) := by decide +kernel
theorem d_Mo_small_49 : decode M_Mo_small.2.1 49 = .ok (.getfield 7, 3) := by decide +kernel
theorem d_Mo_small_52 : decode M_Mo_small.2.1 52 = .ok (.aload_n 0, 1) := by decide +kernel
theorem d_Mo_small_53 : decode M_Mo_small.2.1 53 = .ok (.getfield 30, 3) := by decide +kernel
theorem d_Mo_small_56 : decode M_Mo_small.2.1 56 = .ok (.aload_n 0, 1) := by decide +kernel
theorem d_Mo_small_57 : decode M_Mo_small.2.1 57 = .ok (.getfield 59, 3) := by decide +kernel
theorem d_Mo_small_60 : decode M_Mo_small.2.1 60 = .ok (.iaload, 1) := by decide +kernel
theorem d_Mo_small_61 : decode M_Mo_small.2.1 61 = .ok (.iload 5, 2) := by decide +kernel
theorem d_Mo_small_63 : decode M_Mo_small.2.1 63 = .ok (.iadd, 1) := by decide +kernel
theorem d_Mo_small_64 : decode M_Mo_small.2.1 64 = .ok (.iaload, 1) := by decide +kernel
theorem d_Mo_small_65 : decode M_Mo_small.2.1 65 = .ok (.invokestatic 47, 3) := by decide +kernel
theorem d_Mo_small_68 : decode M_Mo_small.2.1 68 = .ok (.istore 4, 2) := by decide +kernel
theorem d_Mo_small_70 : decode M_Mo_small.2.1 70 = .ok (.bipush 10, 2) := by decide +kernel
theorem d_Mo_small_72 : decode M_Mo_small.2.1 72 = .ok (.iload_n 3, 1) := by decide +kernel
theorem d_Mo_small_73 : decode M_Mo_small.2.1 73 = .ok (.imul, 1) := by decide +kernel
theorem d_Mo_small_74 : decode M_Mo_small.2.1 74 = .ok (.aload_n 0, 1) := by decide +kernel
theorem d_Mo_small_75 : decode M_Mo_small.2.1 75 = .ok (.getfield 7, 3) := by decide +kernel
theorem d_Mo_small_78 : decode M_Mo_small.2.1 78 = .ok (.aload_n 0, 1) := by decide +kernel
theorem d_Mo_small_79 : decode M_Mo_small.2.1 79 = .ok (.getfield 30, 3) := by decide +kernel
theorem d_Mo_small_82 : decode M_Mo_small.2.1 82 = .ok (.aload_n 0, 1) := by decide +kernel
theorem d_Mo_small_83 : decode M_Mo_small.2.1 83 = .ok (.getfield 59, 3) := by decide +kernel
theorem d_Mo_small_86 : decode M_Mo_small.2.1 86 = .ok (.iaload, 1) := by decide +kernel
theorem d_Mo_small_87 : decode M_Mo_small.2.1 87 = .ok (.iload 5, 2) := by decide +kernel
theorem d_Mo_small_89 : decode M_Mo_small.2.1 89 = .ok (.iadd, 1) := by decide +kernel
theorem d_Mo_small_90 : decode M_Mo_small.2.1 90 = .ok (.iaload, 1) := by decide +kernel
theorem d_Mo_small_91 : decode M_Mo_small.2.1 91 = .ok (.iadd, 1) := by decide +kernel
theorem d_Mo_small_92 : decode M_Mo_small.2.1 92 = .ok (.bipush 48, 2) := by decide +kernel
theorem d_Mo_small_94 : decode M_Mo_small.2.1 94 = .ok (.isub, 1) := by decide +kernel
theorem d_Mo_small_95 : decode M_Mo_small.2.1 95 = .ok (.istore_n 3, 1) := by decide +kernel
theorem d_Mo_small_96 : decode M_Mo_small.2.1 96 = .ok (.iinc 5 1, 3) := by decide +kernel
theorem d_Mo_small_99 : decode M_Mo_small.2.1 99 = .ok (.goto (-65), 3) := by decide +kernel
theorem d_Mo_small_102 : decode M_Mo_small.2.1 102 = .ok (.iload 4, 2) := by decide +kernel
theorem d_Mo_small_104 : decode M_Mo_small.2.1 104 = .ok (.ifCond .eq 13, 3) := by decide +kernel
theorem d_Mo_small_107 : decode M_Mo_small.2.1 107 = .ok (.iload_n 3, 1) := by decide +kernel
theorem d_Mo_small_108 : decode M_Mo_small.2.1 108 = .ok (.iload_n 1, 1) := by decide +kernel
theorem d_Mo_small_109 : decode M_Mo_small.2.1 109 = .ok (.if_icmp .lt 8, 3) := by decide +kernel
theorem d_Mo_small_112 : decode M_Mo_small.2.1 112 = .ok (.iload_n 3, 1) := by decide +kernel
theorem d_Mo_small_113 : decode M_Mo_small.2.1 113 = .ok (.iload_n 2, 1) := by decide +kernel
theorem d_Mo_small_114 : decode M_Mo_small.2.1 114 = .ok (.if_icmp .le 11, 3) := by decide +kernel
theorem d_Mo_small_117 : decode M_Mo_small.2.1 117 = .ok (.aload_n 0, 1) := by decide +kernel
theorem d_Mo_small_118 : decode M_Mo_small.2.1 118 = .ok (.aload_n 0, 1) := by decide +kernel
theorem d_Mo_small_119 : decode M_Mo_small.2.1 119 = .ok (.getfield 59, 3) := by decide +kernel
theorem d_Mo_small_122 : decode M_Mo_small.2.1 122 = .ok (.invokevirtual 87, 3) := by decide +kernel
theorem d_Mo_small_125 : decode M_Mo_small.2.1 125 = .ok (.aload_n 0, 1) := by decide +kernel
theorem d_Mo_small_126 : decode M_Mo_small.2.1 126 = .ok (.dup, 1) := by decide +kernel
theorem d_Mo_small_127 : decode M_Mo_small.2.1 127 = .ok (.getfield 59, 3) := by decide +kernel
theorem d_Mo_small_130 : decode M_Mo_small.2.1 130 = .ok (.iconst 1, 1) := by decide +kernel
theorem d_Mo_small_131 : decode M_Mo_small.2.1 131 = .ok (.iadd, 1) := by decide +kernel
theorem d_Mo_small_132 : decode M_Mo_small.2.1 132 = .ok (.putfield 59, 3) := by decide +kernel
theorem d_Mo_small_135 : decode M_Mo_small.2.1 135 = .ok (.iload_n 3, 1) := by decide +kernel
theorem d_Mo_small_136 : decode M_Mo_small.2.1 136 = .ok (.ireturn, 1) := by decide +kernel
section
variable {nx : Nat} {ct : Nat → Nat × Nat} {m0 : Nat → Nat → Int32} {ml : Nat → Nat → Int64} {mr : Nat → Nat → Option Nat} {n m : Nat} {t : Nat → Int32}
theorem PMs.in_ {j : Nat} (h : PMs n m t m0) (hj : 0 < tlen n t j) : j < m := Nat.lt_of_not_le fun z => by
  unfold tlen at hj
  rw [tk_end h.2.2.2.2.2.2.2 j z] at hj
  omega
theorem tlen_le {j : Nat} : (tk n t j).1 + tlen n t j = (tk n t j).2 ∧ (tk n t j).2 ≤ n := by
  have := tk_le (n := n) (t := t) j
  unfold tlen
  omega
theorem sq_named {N : nmS} {a j : Nat} (hL : LAY nx ct mr) (h : PMs n m t m0) (hN : NmM N m0) (ha : a < 3) (hj : j < 4000) : rx_Calls y_Mo_named M_Mo_named 1 0 0 [.ref 398, .int (nI a)] (nx, ct, mS m0 (nI j) (-1), ml, mr) (fun v τ => v = some (.int (nI ((fnd N n t j a).getD 0))) ∧ τ = (nx, ct, (match fnd N n t j a with | some _ => mS m0 (nI (j + 1)) (-1) | none => mS m0 (nI j) (nI j)), ml, mr)) := by
  refine rx_enter (by decide) rfl rfl (Nat.le_of_ble_eq_true rfl) ?_
  have hlen := sp_Mo_length (ml := ml) hL (h.mS (nI j) (-1)) mS_w hj
  have hle := tlen_le (n := n) (t := t) (j := j)
  have hn := h.2.2.1
  have ht := h.2.1
  generalize hp : (fun (v : Option Value) (τ : rx_S) => v = some (.int (nI ((fnd N n t j a).getD 0))) ∧ τ = (nx, ct, (match fnd N n t j a with | some _ => mS m0 (nI (j + 1)) (-1) | none => mS m0 (nI j) (nI j)), ml, mr)) = post
  have zero : ∀ k i f, k < 48 → i ≤ N.1 k → f = N.1 k - i → ¬ nmd N n t j k → (∀ g : Int32, g = bI (nmd N n t j k) → rx_W M_Mo_named 1 0 0 115 [(0, .ref 398), (1, .int (nI a)), (2, .int (nI k)), (3, .int g)] [] (nx, ct, mS m0 (nI j) (-1), ml, mr) (pR post)) → rx_W M_Mo_named 1 0 0 56 [(0, .ref 398), (1, .int (nI a)), (2, .int (nI k)), (3, .int 0), (4, .int (nI i))] [] (nx, ct, mS m0 (nI j) (-1), ml, mr) (pR post) := by
    intro k i f hk hi hf hz K
    obtain ⟨n1, n2, n3⟩ := hN k hk
    have n1' : mS m0 (nI j) (-1) 400 k = nI (N.1 k) := by rw [mS_r]; exact n1
    refine ru_iload d_Mo_named_56 rfl ?_
    refine ru_aload_n d_Mo_named_58 rfl rfl ?_
    refine ru_getR d_Mo_named_59 lf_Mo_13 (ly hL 398 9 0) rfl (lr hL 398 3 400) ?_
    refine ru_iload_n d_Mo_named_62 rfl rfl ?_
    refine ru_ialdN (j := k) d_Mo_named_63 (ly hL 400 100 48) (by omega) (by decide) ?_
    refine ru_eqi n1' ?_
    refine ru_icmp_ge (tgt := 115) d_Mo_named_64 (by decide) (fun h64 => ?_) (fun h64 => ?_)
    · skip
      replace h64 := nm_le (a := (N.1 k)) (b := i) (by omega) (by omega) h64
      exact ru_to (K _ (bI_f hz).symm) ⟨rfl, rfl, rfl, rfl, trivial⟩
    · skip
      replace h64 := nm_nle (a := (N.1 k)) (b := i) (by omega) (by omega) h64
      refine ru_iload_n d_Mo_named_67 rfl rfl ?_
      refine ru_if_eq (tgt := 115) d_Mo_named_68 (by decide) (fun h68 => ?_) (fun h68 => absurd h68 (by decide))
      exact ru_to (K _ (bI_f hz).symm) ⟨rfl, rfl, rfl, rfl, trivial⟩
  have inner : ∀ k, k < 48 → (0 < N.1 k ∧ N.1 k = tlen n t j) → (∀ g : Int32, g = bI (nmd N n t j k) → rx_W M_Mo_named 1 0 0 115 [(0, .ref 398), (1, .int (nI a)), (2, .int (nI k)), (3, .int g)] [] (nx, ct, mS m0 (nI j) (-1), ml, mr) (pR post)) → ∀ f i, i ≤ N.1 k → f = N.1 k - i → (∀ x, x < i → N.2 k x = t ((tk n t j).1 + x)) → rx_W M_Mo_named 1 0 0 56 [(0, .ref 398), (1, .int (nI a)), (2, .int (nI k)), (3, .int 1), (4, .int (nI i))] [] (nx, ct, mS m0 (nI j) (-1), ml, mr) (pR post) := by
    intro k hk hw K f
    obtain ⟨n1, n2, n3⟩ := hN k hk
    have n1' : mS m0 (nI j) (-1) 400 k = nI (N.1 k) := by rw [mS_r]; exact n1
    have hjm : j < m := h.in_ (by omega)
    have hmn := h.2.2.2.2.2.1
    have a7 := h.2.2.2.2.2.2.1 j hjm
    have a7' : mS m0 (nI j) (-1) 405 j = nI (tk n t j).1 := by rw [mS_r]; exact a7.1
    induction f with
    | zero =>
      intro i hi hf hx
      refine ru_iload d_Mo_named_56 rfl ?_
      refine ru_aload_n d_Mo_named_58 rfl rfl ?_
      refine ru_getR d_Mo_named_59 lf_Mo_13 (ly hL 398 9 0) rfl (lr hL 398 3 400) ?_
      refine ru_iload_n d_Mo_named_62 rfl rfl ?_
      refine ru_ialdN (j := k) d_Mo_named_63 (ly hL 400 100 48) (by omega) (by decide) ?_
      refine ru_eqi n1' ?_
      refine ru_icmp_ge (tgt := 115) d_Mo_named_64 (by decide) (fun h64 => ?_) (fun h64 => absurd (nI_le (by omega) (by omega)) h64)
      replace h64 := nm_le (a := (N.1 k)) (b := i) (by omega) (by omega) h64
      exact ru_to (K _ (bI_t ⟨hw, fun x hx2 => hx x (by omega)⟩).symm) ⟨rfl, rfl, rfl, rfl, trivial⟩
    | succ f ih =>
      intro i hi hf hx
      refine ru_iload d_Mo_named_56 rfl ?_
      refine ru_aload_n d_Mo_named_58 rfl rfl ?_
      refine ru_getR d_Mo_named_59 lf_Mo_13 (ly hL 398 9 0) rfl (lr hL 398 3 400) ?_
      refine ru_iload_n d_Mo_named_62 rfl rfl ?_
      refine ru_ialdN (j := k) d_Mo_named_63 (ly hL 400 100 48) (by omega) (by decide) ?_
      refine ru_eqi n1' ?_
      refine ru_icmp_ge (tgt := 115) d_Mo_named_64 (by decide) (fun h64 => absurd h64 (nI_ge (by omega) (by omega))) (fun h64 => ?_)
      replace h64 := nm_nle (a := (N.1 k)) (b := i) (by omega) (by omega) h64
      refine ru_iload_n d_Mo_named_67 rfl rfl ?_
      refine ru_if_eq (tgt := 115) d_Mo_named_68 (by decide) (fun h68 => absurd h68 (by decide)) (fun h68 => ?_)
      refine ru_aload_n d_Mo_named_71 rfl rfl ?_
      refine ru_getR d_Mo_named_72 lf_Mo_16 (ly hL 398 9 0) rfl (lr hL 398 4 401) ?_
      refine ru_bipush (v := 8) d_Mo_named_75 (by decide) ?_
      refine ru_iload_n d_Mo_named_77 rfl rfl ?_
      refine ru_imul d_Mo_named_78 ?_
      refine ru_eqi (nm_mul 8 k : _ = nI (8 * k)) ?_
      refine ru_iload d_Mo_named_79 rfl ?_
      refine ru_iadd d_Mo_named_81 ?_
      refine ru_eqi (nm_add (8 * k) i : _ = nI ((8 * k) + i)) ?_
      refine ru_ialdN (j := ((8 * k) + i)) d_Mo_named_82 (ly hL 401 100 384) (by omega) (by decide) ?_
      refine ru_eqi (show _ = N.2 k i by rw [mS_r]; exact n3 i (by omega)) ?_
      refine ru_aload_n d_Mo_named_83 rfl rfl ?_
      refine ru_getR d_Mo_named_84 lf_Mo_7 (ly hL 398 9 0) rfl (lr hL 398 1 399) ?_
      refine ru_aload_n d_Mo_named_87 rfl rfl ?_
      refine ru_getR d_Mo_named_88 lf_Mo_30 (ly hL 398 9 0) rfl (lr hL 398 10 405) ?_
      refine ru_aload_n d_Mo_named_91 rfl rfl ?_
      refine ru_getI d_Mo_named_92 lf_Mo_59 (ly hL 398 9 0) rfl ?_
      refine ru_eqi mS_w ?_
      refine ru_ialdN (j := j) d_Mo_named_95 (ly hL 405 100 3001) (by omega) (by decide) ?_
      refine ru_eqi a7' ?_
      refine ru_iload d_Mo_named_96 rfl ?_
      refine ru_iadd d_Mo_named_98 ?_
      refine ru_eqi (nm_add (tk n t j).1 i : _ = nI ((tk n t j).1 + i)) ?_
      refine ru_ialdN (j := ((tk n t j).1 + i)) d_Mo_named_99 (ly hL 399 100 3000) (by omega) (by decide) ?_
      refine ru_eqi (show _ = t ((tk n t j).1 + i) by rw [mS_r, ht]) ?_
      refine ru_icmp_ne (tgt := 107) d_Mo_named_100 (by decide) (fun h100 => ?_) (fun h100 => ?_)
      · skip
        refine ru_iconst (v := 0) d_Mo_named_107 (by decide) ?_
        refine ru_istore_n d_Mo_named_108 rfl (by decide) ?_
        refine ru_iinc (v := nI (i + 1)) d_Mo_named_109 rfl (nm_inc _ 1) (by decide) ?_
        refine ru_goto (tgt := 56) d_Mo_named_112 (by decide) ?_
        first | exact ru_to (ih (i + 1) (by omega) (by omega) (fun x hx2 => by by_cases e : x = i; (subst e; exact h100); exact hx x (by omega))) ⟨rfl, rfl, rfl, rfl, rfl, trivial⟩ | exact ru_to (zero k (i + 1) _ hk (by omega) rfl (fun z => h100 (z.2 i (by omega))) K) ⟨rfl, rfl, rfl, rfl, rfl, trivial⟩
      · skip
        refine ru_iconst (v := 1) d_Mo_named_103 (by decide) ?_
        refine ru_goto (tgt := 108) d_Mo_named_104 (by decide) ?_
        refine ru_istore_n d_Mo_named_108 rfl (by decide) ?_
        refine ru_iinc (v := nI (i + 1)) d_Mo_named_109 rfl (nm_inc _ 1) (by decide) ?_
        refine ru_goto (tgt := 56) d_Mo_named_112 (by decide) ?_
        first | exact ru_to (ih (i + 1) (by omega) (by omega) (fun x hx2 => by by_cases e : x = i; (subst e; exact h100); exact hx x (by omega))) ⟨rfl, rfl, rfl, rfl, rfl, trivial⟩ | exact ru_to (zero k (i + 1) _ hk (by omega) rfl (fun z => h100 (z.2 i (by omega))) K) ⟨rfl, rfl, rfl, rfl, rfl, trivial⟩
  have outer : ∀ f x, x ≤ 16 → f = 16 - x → (fnd N n t j a = nthF (fun x => nmd N n t j (16 * a + x)) f x 0) → rx_W M_Mo_named 1 0 0 14 [(0, .ref 398), (1, .int (nI a)), (2, .int (nI (16 * a + x)))] [] (nx, ct, mS m0 (nI j) (-1), ml, mr) (pR post) := by
    intro f
    induction f with
    | zero =>
      intro x hx hf e
      have e' : fnd N n t j a = none := e
      refine ru_iload_n d_Mo_named_14 rfl rfl ?_
      refine ru_bipush (v := 16) d_Mo_named_15 (by decide) ?_
      refine ru_iload_n d_Mo_named_17 rfl rfl ?_
      refine ru_imul d_Mo_named_18 ?_
      refine ru_eqi (nm_mul 16 a : _ = nI (16 * a)) ?_
      refine ru_bipush (v := 16) d_Mo_named_19 (by decide) ?_
      refine ru_iadd d_Mo_named_21 ?_
      refine ru_eqi (nm_add (16 * a) 16 : _ = nI ((16 * a) + 16)) ?_
      refine ru_icmp_ge (tgt := 142) d_Mo_named_22 (by decide) (fun h22 => ?_) (fun h22 => absurd (nI_le (by omega) (by omega)) h22)
      replace h22 := nm_le (a := ((16 * a) + 16)) (b := (16*a+x)) (by omega) (by omega) h22
      refine ru_aload_n d_Mo_named_142 rfl rfl ?_
      refine ru_aload_n d_Mo_named_143 rfl rfl ?_
      refine ru_getI d_Mo_named_144 lf_Mo_59 (ly hL 398 9 0) rfl ?_
      refine ru_eqi mS_w ?_
      refine ru_callV (mc := 0) (ms := 0) d_Mo_named_147 lm_Mo_87 (sq_fail hL _) (rx_recv_is (ly hL 398 9 0) kx_Mo) (by decide) rfl (Nat.le_of_ble_eq_true rfl) ?_
      intro v τ h
      obtain ⟨rfl, rfl⟩ := h
      refine ru_iconst (v := 0) d_Mo_named_150 (by decide) ?_
      refine ru_iret d_Mo_named_151 rfl ?_
      rw [← hp, e']
      exact ⟨rfl, rfl⟩
    | succ f ih =>
      intro x hx hf e
      have hk : 16 * a + x < 48 := by omega
      obtain ⟨n1, n2, n3⟩ := hN (16 * a + x) hk
      have n1' : mS m0 (nI j) (-1) 400 (16 * a + x) = nI (N.1 (16 * a + x)) := by rw [mS_r]; exact n1
      unfold nthF at e
      have fin : ∀ g : Int32, g = bI (nmd N n t j (16 * a + x)) → rx_W M_Mo_named 1 0 0 115 [(0, .ref 398), (1, .int (nI a)), (2, .int (nI (16 * a + x))), (3, .int g)] [] (nx, ct, mS m0 (nI j) (-1), ml, mr) (pR post) := by
        intro g hg
        subst hg
        refine ru_iload_n d_Mo_named_115 rfl rfl ?_
        refine ru_if_eq (tgt := 136) d_Mo_named_116 (by decide) (fun h116 => ?_) (fun h116 => ?_)
        · skip
          replace h116 := bI_eq0.mp h116
          refine ru_iinc (v := nI ((16*a+x) + 1)) d_Mo_named_136 rfl (nm_inc _ 1) (by decide) ?_
          refine ru_goto (tgt := 14) d_Mo_named_139 (by decide) ?_
          rw [if_neg h116] at e
          exact ru_to (ih (x + 1) (by omega) (by omega) e) ⟨rfl, rfl, rfl, trivial⟩
        · skip
          replace h116 := bI_ne0.mp h116
          refine ru_aload_n d_Mo_named_119 rfl rfl ?_
          refine ru_dup d_Mo_named_120 rfl ?_
          refine ru_getI d_Mo_named_121 lf_Mo_59 (ly hL 398 9 0) rfl ?_
          refine ru_eqi mS_w ?_
          refine ru_iconst (v := 1) d_Mo_named_124 (by decide) ?_
          refine ru_iadd d_Mo_named_125 ?_
          refine ru_eqi (nm_add j 1 : _ = nI (j + 1)) ?_
          refine ru_putI d_Mo_named_126 lf_Mo_59 (ly hL 398 9 0) rfl (fun q hq => by cases hq; exact Or.inl rfl) ⟨rfl, rfl⟩ ?_
          refine ru_iload_n d_Mo_named_129 rfl rfl ?_
          refine ru_bipush (v := 16) d_Mo_named_130 (by decide) ?_
          refine ru_iload_n d_Mo_named_132 rfl rfl ?_
          refine ru_imul d_Mo_named_133 ?_
          refine ru_eqi (nm_mul 16 a : _ = nI (16 * a)) ?_
          refine ru_isub d_Mo_named_134 ?_
          refine ru_eqi (nm_sub (a := (16*a+x)) (b := (16 * a)) (by omega) : _ = nI ((16*a+x) - (16 * a))) ?_
          refine ru_iret d_Mo_named_135 rfl ?_
          rw [if_pos h116, if_pos rfl] at e
          rw [← hp, mS_sw, e, Nat.add_sub_cancel_left]
          exact ⟨rfl, rfl⟩
      refine ru_iload_n d_Mo_named_14 rfl rfl ?_
      refine ru_bipush (v := 16) d_Mo_named_15 (by decide) ?_
      refine ru_iload_n d_Mo_named_17 rfl rfl ?_
      refine ru_imul d_Mo_named_18 ?_
      refine ru_eqi (nm_mul 16 a : _ = nI (16 * a)) ?_
      refine ru_bipush (v := 16) d_Mo_named_19 (by decide) ?_
      refine ru_iadd d_Mo_named_21 ?_
      refine ru_eqi (nm_add (16 * a) 16 : _ = nI ((16 * a) + 16)) ?_
      refine ru_icmp_ge (tgt := 142) d_Mo_named_22 (by decide) (fun h22 => absurd h22 (nI_ge (by omega) (by omega))) (fun h22 => ?_)
      replace h22 := nm_nle (a := ((16 * a) + 16)) (b := (16*a+x)) (by omega) (by omega) h22
      refine ru_aload_n d_Mo_named_25 rfl rfl ?_
      refine ru_getR d_Mo_named_26 lf_Mo_13 (ly hL 398 9 0) rfl (lr hL 398 3 400) ?_
      refine ru_iload_n d_Mo_named_29 rfl rfl ?_
      refine ru_ialdN (j := (16*a+x)) d_Mo_named_30 (ly hL 400 100 48) (by omega) (by decide) ?_
      refine ru_eqi n1' ?_
      refine ru_if_le (tgt := 51) d_Mo_named_31 (by decide) (fun h31 => ?_) (fun h31 => ?_)
      · skip
        replace h31 := nm_le (a := (N.1 (16*a+x))) (b := 0) (by omega) (by omega) h31
        refine ru_iconst (v := 0) d_Mo_named_51 (by decide) ?_
        refine ru_istore_n d_Mo_named_52 rfl (by decide) ?_
        refine ru_iconst (v := 0) d_Mo_named_53 (by decide) ?_
        refine ru_istore d_Mo_named_54 (by decide) ?_
        first | exact ru_to (inner _ hk ⟨by omega, by omega⟩ fin _ 0 (by omega) rfl (fun x hx => by omega)) ⟨rfl, rfl, rfl, rfl, rfl, trivial⟩ | exact ru_to (zero _ 0 _ hk (by omega) rfl (fun z => by have := z.1; omega) fin) ⟨rfl, rfl, rfl, rfl, rfl, trivial⟩
      · skip
        replace h31 := nm_nle (a := (N.1 (16*a+x))) (b := 0) (by omega) (by omega) h31
        refine ru_aload_n d_Mo_named_34 rfl rfl ?_
        refine ru_getR d_Mo_named_35 lf_Mo_13 (ly hL 398 9 0) rfl (lr hL 398 3 400) ?_
        refine ru_iload_n d_Mo_named_38 rfl rfl ?_
        refine ru_ialdN (j := (16*a+x)) d_Mo_named_39 (ly hL 400 100 48) (by omega) (by decide) ?_
        refine ru_eqi n1' ?_
        refine ru_aload_n d_Mo_named_40 rfl rfl ?_
        refine ru_callV (mc := 0) (ms := 0) d_Mo_named_41 lm_Mo_62 hlen (rx_recv_is (ly hL 398 9 0) kx_Mo) (by decide) rfl (Nat.le_of_ble_eq_true rfl) ?_
        intro v τ h
        obtain ⟨rfl, rfl⟩ := h
        refine ru_icmp_ne (tgt := 51) d_Mo_named_44 (by decide) (fun h44 => ?_) (fun h44 => ?_)
        · skip
          replace h44 := nm_ne (a := (N.1 (16*a+x))) (b := (tlen n t j)) (by omega) (by omega) h44
          refine ru_iconst (v := 0) d_Mo_named_51 (by decide) ?_
          refine ru_istore_n d_Mo_named_52 rfl (by decide) ?_
          refine ru_iconst (v := 0) d_Mo_named_53 (by decide) ?_
          refine ru_istore d_Mo_named_54 (by decide) ?_
          first | exact ru_to (inner _ hk ⟨by omega, by omega⟩ fin _ 0 (by omega) rfl (fun x hx => by omega)) ⟨rfl, rfl, rfl, rfl, rfl, trivial⟩ | exact ru_to (zero _ 0 _ hk (by omega) rfl (fun z => by have := z.1; omega) fin) ⟨rfl, rfl, rfl, rfl, rfl, trivial⟩
        · skip
          replace h44 := nm_eq (a := (N.1 (16*a+x))) (b := (tlen n t j)) (by omega) (by omega) h44
          refine ru_iconst (v := 1) d_Mo_named_47 (by decide) ?_
          refine ru_goto (tgt := 52) d_Mo_named_48 (by decide) ?_
          refine ru_istore_n d_Mo_named_52 rfl (by decide) ?_
          refine ru_iconst (v := 0) d_Mo_named_53 (by decide) ?_
          refine ru_istore d_Mo_named_54 (by decide) ?_
          first | exact ru_to (inner _ hk ⟨by omega, by omega⟩ fin _ 0 (by omega) rfl (fun x hx => by omega)) ⟨rfl, rfl, rfl, rfl, rfl, trivial⟩ | exact ru_to (zero _ 0 _ hk (by omega) rfl (fun z => by have := z.1; omega) fin) ⟨rfl, rfl, rfl, rfl, rfl, trivial⟩
  refine ru_aload_n d_Mo_named_0 rfl rfl ?_
  refine ru_callV (mc := 0) (ms := 0) d_Mo_named_1 lm_Mo_75 (sq_good hL) (rx_recv_is (ly hL 398 9 0) kx_Mo) (by decide) rfl (Nat.le_of_ble_eq_true rfl) ?_
  intro v τ h
  obtain ⟨rfl, rfl⟩ := h
  refine ru_if_ne (tgt := 9) d_Mo_named_4 (by decide) (fun h4 => ?_) (fun h4 => absurd h4 (bI_ne0.mpr rfl))
  refine ru_bipush (v := 16) d_Mo_named_9 (by decide) ?_
  refine ru_iload_n d_Mo_named_11 rfl rfl ?_
  refine ru_imul d_Mo_named_12 ?_
  refine ru_eqi (nm_mul 16 a : _ = nI (16 * a)) ?_
  refine ru_istore_n d_Mo_named_13 rfl (by decide) ?_
  exact ru_to (outer 16 0 (by omega) rfl rfl) ⟨rfl, rfl, rfl, trivial⟩
theorem sq_named0 {a w g : Int32} (hL : LAY nx ct mr) (hg : ¬ g = -1) : rx_Calls y_Mo_named M_Mo_named 1 0 0 [.ref 398, .int a] (nx, ct, mS m0 w g, ml, mr) (fun v τ => v = some (.int 0) ∧ τ = (nx, ct, mS m0 w g, ml, mr)) := by
  refine rx_enter (by decide) rfl rfl (Nat.le_of_ble_eq_true rfl) ?_
  refine ru_aload_n d_Mo_named_0 rfl rfl ?_
  refine ru_callV (mc := 0) (ms := 0) d_Mo_named_1 lm_Mo_75 (sq_good hL) (rx_recv_is (ly hL 398 9 0) kx_Mo) (by decide) rfl (Nat.le_of_ble_eq_true rfl) ?_
  intro v τ h
  obtain ⟨rfl, rfl⟩ := h
  refine ru_if_ne (tgt := 9) d_Mo_named_4 (by decide) (fun h4 => absurd (bI_f hg) h4) (fun h4 => ?_)
  refine ru_iconst (v := 0) d_Mo_named_7 (by decide) ?_
  refine ru_iret d_Mo_named_8 rfl ?_
  exact ⟨rfl, rfl⟩
theorem isW_semi {j : Nat} : isW n t j 16 ↔ tlen n t j = 1 ∧ t (tk n t j).1 = 59 := by
  unfold isW wIs tlen
  constructor
  · rintro ⟨a, b⟩
    exact ⟨a, b 0 (by decide)⟩
  · rintro ⟨a, b⟩
    refine ⟨a, fun i hi => ?_⟩
    have e : i = 0 := by
      have : (rx_tx 16).length = 1 := by decide
      omega
    subst e
    exact b
theorem sq_isSemicolon {j : Nat} (hL : LAY nx ct mr) (h : PMs n m t m0) (hj : j < 4000) (g : Int32) : rx_Calls y_Mo_isSemicolon M_Mo_isSemicolon 1 0 0 [.ref 398] (nx, ct, mS m0 (nI j) g, ml, mr) (fun v τ => v = some (.int (bI (isW n t j 16))) ∧ τ = (nx, ct, mS m0 (nI j) g, ml, mr)) := by
  refine rx_enter (by decide) rfl rfl (Nat.le_of_ble_eq_true rfl) ?_
  have hlen := sp_Mo_length (ml := ml) hL (h.mS (nI j) g) mS_w hj
  have hle := tlen_le (n := n) (t := t) (j := j)
  have hn := h.2.2.1
  have ht : mS m0 (nI j) g 399 = t := by rw [mS_r]; exact h.2.1
  have hmn := h.2.2.2.2.2.1
  have hb : 0 < tlen n t j → j < m ∧ mS m0 (nI j) g 405 j = nI (tk n t j).1 := fun q => ⟨h.in_ q, by rw [mS_r]; exact (h.2.2.2.2.2.2.1 j (h.in_ q)).1⟩
  have hs := isW_semi (n := n) (t := t) (j := j)
  refine ru_aload_n d_Mo_isSemicolon_0 rfl rfl ?_
  refine ru_callV (mc := 0) (ms := 0) d_Mo_isSemicolon_1 lm_Mo_62 hlen (rx_recv_is (ly hL 398 9 0) kx_Mo) (by decide) rfl (Nat.le_of_ble_eq_true rfl) ?_
  intro v τ h
  obtain ⟨rfl, rfl⟩ := h
  refine ru_iconst (v := 1) d_Mo_isSemicolon_4 (by decide) ?_
  refine ru_icmp_ne (tgt := 31) d_Mo_isSemicolon_5 (by decide) (fun h5 => ?_) (fun h5 => ?_)
  · skip
    replace h5 := nm_ne (a := (tlen n t j)) (b := 1) (by omega) (by omega) h5
    refine ru_iconst (v := 0) d_Mo_isSemicolon_31 (by decide) ?_
    refine ru_zret (ty := .boolean) d_Mo_isSemicolon_32 rfl rfl ?_
    first | (rw [bI_t (hs.mpr ⟨h5, h24⟩)]; exact ⟨rfl, rfl⟩) | (rw [bI_f (fun q => h24 (hs.mp q).2)]; exact ⟨rfl, rfl⟩) | (rw [bI_f (fun q => h5 (hs.mp q).1)]; exact ⟨rfl, rfl⟩)
  · skip
    replace h5 := nm_eq (a := (tlen n t j)) (b := 1) (by omega) (by omega) h5
    refine ru_aload_n d_Mo_isSemicolon_8 rfl rfl ?_
    refine ru_getR d_Mo_isSemicolon_9 lf_Mo_7 (ly hL 398 9 0) rfl (lr hL 398 1 399) ?_
    refine ru_aload_n d_Mo_isSemicolon_12 rfl rfl ?_
    refine ru_getR d_Mo_isSemicolon_13 lf_Mo_30 (ly hL 398 9 0) rfl (lr hL 398 10 405) ?_
    refine ru_aload_n d_Mo_isSemicolon_16 rfl rfl ?_
    refine ru_getI d_Mo_isSemicolon_17 lf_Mo_59 (ly hL 398 9 0) rfl ?_
    refine ru_eqi mS_w ?_
    refine ru_ialdN (j := j) d_Mo_isSemicolon_20 (ly hL 405 100 3001) (by have := (hb (by omega)).1; omega) (by decide) ?_
    refine ru_eqi (hb (by omega)).2 ?_
    refine ru_ialdN (j := (tk n t j).1) d_Mo_isSemicolon_21 (ly hL 399 100 3000) (by omega) (by decide) ?_
    rw [ht]
    refine ru_bipush (v := 59) d_Mo_isSemicolon_22 (by decide) ?_
    refine ru_icmp_ne (tgt := 31) d_Mo_isSemicolon_24 (by decide) (fun h24 => ?_) (fun h24 => ?_)
    · skip
      refine ru_iconst (v := 0) d_Mo_isSemicolon_31 (by decide) ?_
      refine ru_zret (ty := .boolean) d_Mo_isSemicolon_32 rfl rfl ?_
      first | (rw [bI_t (hs.mpr ⟨h5, h24⟩)]; exact ⟨rfl, rfl⟩) | (rw [bI_f (fun q => h24 (hs.mp q).2)]; exact ⟨rfl, rfl⟩) | (rw [bI_f (fun q => h5 (hs.mp q).1)]; exact ⟨rfl, rfl⟩)
    · skip
      refine ru_iconst (v := 1) d_Mo_isSemicolon_27 (by decide) ?_
      refine ru_goto (tgt := 32) d_Mo_isSemicolon_28 (by decide) ?_
      refine ru_zret (ty := .boolean) d_Mo_isSemicolon_32 rfl rfl ?_
      first | (rw [bI_t (hs.mpr ⟨h5, h24⟩)]; exact ⟨rfl, rfl⟩) | (rw [bI_f (fun q => h24 (hs.mp q).2)]; exact ⟨rfl, rfl⟩) | (rw [bI_f (fun q => h5 (hs.mp q).1)]; exact ⟨rfl, rfl⟩)
theorem dvF_acc : ∀ f k v, (∀ i, i < f → isDig (t (k + i))) → dvF t f k v < (v + 1) * 10 ^ f
  | 0, k, v, _ => by
    show v < (v + 1) * 1
    omega
  | f + 1, k, v, h => by
    have h0 := h 0 (by omega)
    unfold isDig at h0
    have ih := dvF_acc f (k + 1) (10 * v + ((t k).toInt - 48).toNat) (fun i hi => by rw [Nat.add_assoc, Nat.add_comm 1 i]; exact h (i + 1) (by omega))
    refine Nat.lt_of_lt_of_le ih ?_
    rw [Nat.pow_succ, Nat.mul_comm (10 ^ f) 10, ← Nat.mul_assoc]
    exact Nat.mul_le_mul_right _ (by rw [Nat.add_zero] at h0; omega)
theorem nm_dig {v : Nat} {c : Int32} (hc : isDig c) : nI (10 * v) + c - 48 = nI (10 * v + (c.toInt - 48).toNat) := by
  obtain ⟨d, hd, e⟩ := nI_of (x := c) (by rw [il, i_0]; unfold isDig at hc; omega)
  have h1 : c.toInt = d := by rw [e, nI_toInt hd]
  unfold isDig at hc
  rw [e, nm_add, show (48 : Int32) = nI 48 from rfl, nm_sub (by omega), nI_toInt hd]
  congr 1
  omega
theorem sq_small {j lo hi : Nat} (hL : LAY nx ct mr) (h : PMs n m t m0) (hj : j < 4000) (hlo : lo < 1000) (hhi : hi < 1000) : rx_Calls y_Mo_small M_Mo_small 1 0 0 [.ref 398, .int (nI lo), .int (nI hi)] (nx, ct, mS m0 (nI j) (-1), ml, mr) (fun v τ => ∃ x : Int32, v = some (.int x) ∧ match smallR n t j lo hi with | some y => x = nI y ∧ τ = (nx, ct, mS m0 (nI (j + 1)) (-1), ml, mr) | none => τ = (nx, ct, mS m0 (nI (j + 1)) (nI j), ml, mr)) := by
  refine rx_enter (by decide) rfl rfl (Nat.le_of_ble_eq_true rfl) ?_
  generalize hp : (fun (v : Option Value) (τ : rx_S) => ∃ x : Int32, v = some (.int x) ∧ match smallR n t j lo hi with | some y => x = nI y ∧ τ = (nx, ct, mS m0 (nI (j + 1)) (-1), ml, mr) | none => τ = (nx, ct, mS m0 (nI (j + 1)) (nI j), ml, mr)) = post
  have hlen := sp_Mo_length (ml := ml) hL (h.mS (nI j) (-1)) mS_w hj
  have hle := tlen_le (n := n) (t := t) (j := j)
  have hn := h.2.2.1
  have ht : mS m0 (nI j) (-1) 399 = t := by rw [mS_r]; exact h.2.1
  have hmn := h.2.2.2.2.2.1
  have hb : 0 < tlen n t j → j < m ∧ mS m0 (nI j) (-1) 405 j = nI (tk n t j).1 := fun q => ⟨h.in_ q, by rw [mS_r]; exact (h.2.2.2.2.2.2.1 j (h.in_ q)).1⟩
  -- it is none
  have bad : ∀ x g : Int32, g = 0 → smallR n t j lo hi = none → rx_W M_Mo_small 1 0 0 102 [(0, .ref 398), (1, .int (nI lo)), (2, .int (nI hi)), (3, .int x), (4, .int g)] [] (nx, ct, mS m0 (nI j) (-1), ml, mr) (pR post) := by
    intro x g hg e
    subst hg
    refine ru_iload d_Mo_small_102 rfl ?_
    refine ru_if_eq (tgt := 117) d_Mo_small_104 (by decide) (fun h104 => ?_) (fun h104 => absurd h104 (by decide))
    refine ru_aload_n d_Mo_small_117 rfl rfl ?_
    refine ru_aload_n d_Mo_small_118 rfl rfl ?_
    refine ru_getI d_Mo_small_119 lf_Mo_59 (ly hL 398 9 0) rfl ?_
    refine ru_eqi mS_w ?_
    refine ru_callV (mc := 0) (ms := 0) d_Mo_small_122 lm_Mo_87 (sq_fail hL _) (rx_recv_is (ly hL 398 9 0) kx_Mo) (by decide) rfl (Nat.le_of_ble_eq_true rfl) ?_
    intro v τ h
    obtain ⟨rfl, rfl⟩ := h
    refine ru_aload_n d_Mo_small_125 rfl rfl ?_
    refine ru_dup d_Mo_small_126 rfl ?_
    refine ru_getI d_Mo_small_127 lf_Mo_59 (ly hL 398 9 0) rfl ?_
    refine ru_eqi mS_w ?_
    refine ru_iconst (v := 1) d_Mo_small_130 (by decide) ?_
    refine ru_iadd d_Mo_small_131 ?_
    refine ru_eqi (nm_add j 1 : _ = nI (j + 1)) ?_
    refine ru_putI d_Mo_small_132 lf_Mo_59 (ly hL 398 9 0) rfl (fun q hq => by cases hq; exact Or.inl rfl) ⟨rfl, rfl⟩ ?_
    refine ru_iload_n d_Mo_small_135 rfl rfl ?_
    refine ru_iret d_Mo_small_136 rfl ?_
    rw [← hp, mS_sw, e]
    exact ⟨_, rfl, rfl⟩
  have badL : ∀ x g : Int32, ∀ i, i < 4 → g = 0 → smallR n t j lo hi = none → rx_W M_Mo_small 1 0 0 34 [(0, .ref 398), (1, .int (nI lo)), (2, .int (nI hi)), (3, .int x), (4, .int g), (5, .int (nI i))] [] (nx, ct, mS m0 (nI j) (-1), ml, mr) (pR post) := by
    intro x g i hii hg e
    subst hg
    refine ru_iload d_Mo_small_34 rfl ?_
    refine ru_aload_n d_Mo_small_36 rfl rfl ?_
    refine ru_callV (mc := 0) (ms := 0) d_Mo_small_37 lm_Mo_62 hlen (rx_recv_is (ly hL 398 9 0) kx_Mo) (by decide) rfl (Nat.le_of_ble_eq_true rfl) ?_
    intro v τ h
    obtain ⟨rfl, rfl⟩ := h
    refine ru_icmp_ge (tgt := 102) d_Mo_small_40 (by decide) (fun h40 => ?_) (fun h40 => ?_)
    · skip
      replace h40 := nm_le (a := (tlen n t j)) (b := i) (by omega) (by omega) h40
      exact ru_to (bad x 0 rfl e) ⟨rfl, rfl, rfl, rfl, rfl, trivial⟩
    · skip
      replace h40 := nm_nle (a := (tlen n t j)) (b := i) (by omega) (by omega) h40
      refine ru_iload d_Mo_small_43 rfl ?_
      refine ru_if_eq (tgt := 102) d_Mo_small_45 (by decide) (fun h45 => ?_) (fun h45 => absurd h45 (by decide))
      exact ru_to (bad x 0 rfl e) ⟨rfl, rfl, rfl, rfl, rfl, trivial⟩
  have loop : (1 ≤ tlen n t j ∧ tlen n t j ≤ 2) → ∀ f i v, i ≤ tlen n t j → f = tlen n t j - i → v < 10 ^ i → (∀ x, x < i → isDig (t ((tk n t j).1 + x))) → dvF t (tlen n t j) (tk n t j).1 0 = dvF t f ((tk n t j).1 + i) v → rx_W M_Mo_small 1 0 0 34 [(0, .ref 398), (1, .int (nI lo)), (2, .int (nI hi)), (3, .int (nI v)), (4, .int 1), (5, .int (nI i))] [] (nx, ct, mS m0 (nI j) (-1), ml, mr) (pR post) := by
    intro hl2 f
    have hb' := hb (by omega)
    induction f with
    | zero =>
      intro i v hii hf hv hd e
      have hi2 : i = tlen n t j := by omega
      have hv2 : v < 100 := Nat.lt_of_lt_of_le hv (show 10 ^ i ≤ 10 ^ 2 from Nat.pow_le_pow_right (by decide) (by omega))
      have es : snm n t j = some v := by
        unfold snm
        rw [cnd_t ⟨hl2, fun x hx => hd x (by omega)⟩, e]
        rfl
      refine ru_iload d_Mo_small_34 rfl ?_
      refine ru_aload_n d_Mo_small_36 rfl rfl ?_
      refine ru_callV (mc := 0) (ms := 0) d_Mo_small_37 lm_Mo_62 hlen (rx_recv_is (ly hL 398 9 0) kx_Mo) (by decide) rfl (Nat.le_of_ble_eq_true rfl) ?_
      intro v τ h
      obtain ⟨rfl, rfl⟩ := h
      refine ru_icmp_ge (tgt := 102) d_Mo_small_40 (by decide) (fun h40 => ?_) (fun h40 => absurd (nI_le (by omega) (by omega)) h40)
      replace h40 := nm_le (a := (tlen n t j)) (b := i) (by omega) (by omega) h40
      refine ru_iload d_Mo_small_102 rfl ?_
      refine ru_if_eq (tgt := 117) d_Mo_small_104 (by decide) (fun h104 => absurd h104 (by decide)) (fun h104 => ?_)
      refine ru_iload_n d_Mo_small_107 rfl rfl ?_
      refine ru_iload_n d_Mo_small_108 rfl rfl ?_
      refine ru_icmp_lt (tgt := 117) d_Mo_small_109 (by decide) (fun h109 => ?_) (fun h109 => ?_)
      · skip
        replace h109 := nm_lt (a := v) (b := lo) (by omega) (by omega) h109
        refine ru_aload_n d_Mo_small_117 rfl rfl ?_
        refine ru_aload_n d_Mo_small_118 rfl rfl ?_
        refine ru_getI d_Mo_small_119 lf_Mo_59 (ly hL 398 9 0) rfl ?_
        refine ru_eqi mS_w ?_
        refine ru_callV (mc := 0) (ms := 0) d_Mo_small_122 lm_Mo_87 (sq_fail hL _) (rx_recv_is (ly hL 398 9 0) kx_Mo) (by decide) rfl (Nat.le_of_ble_eq_true rfl) ?_
        intro v τ h
        obtain ⟨rfl, rfl⟩ := h
        refine ru_aload_n d_Mo_small_125 rfl rfl ?_
        refine ru_dup d_Mo_small_126 rfl ?_
        refine ru_getI d_Mo_small_127 lf_Mo_59 (ly hL 398 9 0) rfl ?_
        refine ru_eqi mS_w ?_
        refine ru_iconst (v := 1) d_Mo_small_130 (by decide) ?_
        refine ru_iadd d_Mo_small_131 ?_
        refine ru_eqi (nm_add j 1 : _ = nI (j + 1)) ?_
        refine ru_putI d_Mo_small_132 lf_Mo_59 (ly hL 398 9 0) rfl (fun q hq => by cases hq; exact Or.inl rfl) ⟨rfl, rfl⟩ ?_
        refine ru_iload_n d_Mo_small_135 rfl rfl ?_
        refine ru_iret d_Mo_small_136 rfl ?_
        rw [← hp, mS_sw]
        first | (have q : smallR n t j lo hi = some v := (by unfold smallR; rw [es]; exact if_pos ⟨by omega, by omega⟩); rw [q]; exact ⟨_, rfl, rfl, rfl⟩) | (have q : smallR n t j lo hi = none := (by unfold smallR; rw [es]; exact if_neg (by omega)); rw [q]; exact ⟨_, rfl, rfl⟩)
      · skip
        replace h109 := nm_nlt (a := v) (b := lo) (by omega) (by omega) h109
        refine ru_iload_n d_Mo_small_112 rfl rfl ?_
        refine ru_iload_n d_Mo_small_113 rfl rfl ?_
        refine ru_icmp_le (tgt := 125) d_Mo_small_114 (by decide) (fun h114 => ?_) (fun h114 => ?_)
        · skip
          replace h114 := nm_le (a := v) (b := hi) (by omega) (by omega) h114
          refine ru_aload_n d_Mo_small_125 rfl rfl ?_
          refine ru_dup d_Mo_small_126 rfl ?_
          refine ru_getI d_Mo_small_127 lf_Mo_59 (ly hL 398 9 0) rfl ?_
          refine ru_eqi mS_w ?_
          refine ru_iconst (v := 1) d_Mo_small_130 (by decide) ?_
          refine ru_iadd d_Mo_small_131 ?_
          refine ru_eqi (nm_add j 1 : _ = nI (j + 1)) ?_
          refine ru_putI d_Mo_small_132 lf_Mo_59 (ly hL 398 9 0) rfl (fun q hq => by cases hq; exact Or.inl rfl) ⟨rfl, rfl⟩ ?_
          refine ru_iload_n d_Mo_small_135 rfl rfl ?_
          refine ru_iret d_Mo_small_136 rfl ?_
          rw [← hp, mS_sw]
          first | (have q : smallR n t j lo hi = some v := (by unfold smallR; rw [es]; exact if_pos ⟨by omega, by omega⟩); rw [q]; exact ⟨_, rfl, rfl, rfl⟩) | (have q : smallR n t j lo hi = none := (by unfold smallR; rw [es]; exact if_neg (by omega)); rw [q]; exact ⟨_, rfl, rfl⟩)
        · skip
          replace h114 := nm_nle (a := v) (b := hi) (by omega) (by omega) h114
          refine ru_aload_n d_Mo_small_117 rfl rfl ?_
          refine ru_aload_n d_Mo_small_118 rfl rfl ?_
          refine ru_getI d_Mo_small_119 lf_Mo_59 (ly hL 398 9 0) rfl ?_
          refine ru_eqi mS_w ?_
          refine ru_callV (mc := 0) (ms := 0) d_Mo_small_122 lm_Mo_87 (sq_fail hL _) (rx_recv_is (ly hL 398 9 0) kx_Mo) (by decide) rfl (Nat.le_of_ble_eq_true rfl) ?_
          intro v τ h
          obtain ⟨rfl, rfl⟩ := h
          refine ru_aload_n d_Mo_small_125 rfl rfl ?_
          refine ru_dup d_Mo_small_126 rfl ?_
          refine ru_getI d_Mo_small_127 lf_Mo_59 (ly hL 398 9 0) rfl ?_
          refine ru_eqi mS_w ?_
          refine ru_iconst (v := 1) d_Mo_small_130 (by decide) ?_
          refine ru_iadd d_Mo_small_131 ?_
          refine ru_eqi (nm_add j 1 : _ = nI (j + 1)) ?_
          refine ru_putI d_Mo_small_132 lf_Mo_59 (ly hL 398 9 0) rfl (fun q hq => by cases hq; exact Or.inl rfl) ⟨rfl, rfl⟩ ?_
          refine ru_iload_n d_Mo_small_135 rfl rfl ?_
          refine ru_iret d_Mo_small_136 rfl ?_
          rw [← hp, mS_sw]
          first | (have q : smallR n t j lo hi = some v := (by unfold smallR; rw [es]; exact if_pos ⟨by omega, by omega⟩); rw [q]; exact ⟨_, rfl, rfl, rfl⟩) | (have q : smallR n t j lo hi = none := (by unfold smallR; rw [es]; exact if_neg (by omega)); rw [q]; exact ⟨_, rfl, rfl⟩)
    | succ f ih =>
      intro i v hii hf hv hd e
      refine ru_iload d_Mo_small_34 rfl ?_
      refine ru_aload_n d_Mo_small_36 rfl rfl ?_
      refine ru_callV (mc := 0) (ms := 0) d_Mo_small_37 lm_Mo_62 hlen (rx_recv_is (ly hL 398 9 0) kx_Mo) (by decide) rfl (Nat.le_of_ble_eq_true rfl) ?_
      intro v τ h
      obtain ⟨rfl, rfl⟩ := h
      refine ru_icmp_ge (tgt := 102) d_Mo_small_40 (by decide) (fun h40 => absurd h40 (nI_ge (by omega) (by omega))) (fun h40 => ?_)
      replace h40 := nm_nle (a := (tlen n t j)) (b := i) (by omega) (by omega) h40
      refine ru_iload d_Mo_small_43 rfl ?_
      refine ru_if_eq (tgt := 102) d_Mo_small_45 (by decide) (fun h45 => absurd h45 (by decide)) (fun h45 => ?_)
      refine ru_aload_n d_Mo_small_48 rfl rfl ?_
      refine ru_getR d_Mo_small_49 lf_Mo_7 (ly hL 398 9 0) rfl (lr hL 398 1 399) ?_
      refine ru_aload_n d_Mo_small_52 rfl rfl ?_
      refine ru_getR d_Mo_small_53 lf_Mo_30 (ly hL 398 9 0) rfl (lr hL 398 10 405) ?_
      refine ru_aload_n d_Mo_small_56 rfl rfl ?_
      refine ru_getI d_Mo_small_57 lf_Mo_59 (ly hL 398 9 0) rfl ?_
      refine ru_eqi mS_w ?_
      refine ru_ialdN (j := j) d_Mo_small_60 (ly hL 405 100 3001) (by omega) (by decide) ?_
      refine ru_eqi hb'.2 ?_
      refine ru_iload d_Mo_small_61 rfl ?_
      refine ru_iadd d_Mo_small_63 ?_
      refine ru_eqi (nm_add (tk n t j).1 i : _ = nI ((tk n t j).1 + i)) ?_
      refine ru_ialdN (j := ((tk n t j).1 + i)) d_Mo_small_64 (ly hL 399 100 3000) (by omega) (by decide) ?_
      rw [ht]
      refine ru_callS (mc := 0) (ms := 0) d_Mo_small_65 lm_Mo_47 (sp_Mo_isDigit _ _) (by decide) rfl (Nat.le_of_ble_eq_true rfl) ?_
      intro v τ h
      obtain ⟨rfl, rfl⟩ := h
      refine ru_istore d_Mo_small_68 (by decide) ?_
      refine ru_bipush (v := 10) d_Mo_small_70 (by decide) ?_
      refine ru_iload_n d_Mo_small_72 rfl rfl ?_
      refine ru_imul d_Mo_small_73 ?_
      refine ru_eqi (nm_mul 10 v : _ = nI (10 * v)) ?_
      refine ru_aload_n d_Mo_small_74 rfl rfl ?_
      refine ru_getR d_Mo_small_75 lf_Mo_7 (ly hL 398 9 0) rfl (lr hL 398 1 399) ?_
      refine ru_aload_n d_Mo_small_78 rfl rfl ?_
      refine ru_getR d_Mo_small_79 lf_Mo_30 (ly hL 398 9 0) rfl (lr hL 398 10 405) ?_
      refine ru_aload_n d_Mo_small_82 rfl rfl ?_
      refine ru_getI d_Mo_small_83 lf_Mo_59 (ly hL 398 9 0) rfl ?_
      refine ru_eqi mS_w ?_
      refine ru_ialdN (j := j) d_Mo_small_86 (ly hL 405 100 3001) (by omega) (by decide) ?_
      refine ru_eqi hb'.2 ?_
      refine ru_iload d_Mo_small_87 rfl ?_
      refine ru_iadd d_Mo_small_89 ?_
      refine ru_eqi (nm_add (tk n t j).1 i : _ = nI ((tk n t j).1 + i)) ?_
      refine ru_ialdN (j := ((tk n t j).1 + i)) d_Mo_small_90 (ly hL 399 100 3000) (by omega) (by decide) ?_
      rw [ht]
      refine ru_iadd d_Mo_small_91 ?_
      refine ru_bipush (v := 48) d_Mo_small_92 (by decide) ?_
      refine ru_isub d_Mo_small_94 ?_
      skip
      refine ru_istore_n d_Mo_small_95 rfl (by decide) ?_
      refine ru_iinc (v := nI (i + 1)) d_Mo_small_96 rfl (nm_inc _ 1) (by decide) ?_
      refine ru_goto (tgt := 34) d_Mo_small_99 (by decide) ?_
      by_cases hc : isDig (t ((tk n t j).1 + i))
      · rw [bI_t hc]
        have hc2 := hc
        unfold isDig at hc2
        refine ru_to (ih (i + 1) (10 * v + ((t ((tk n t j).1 + i)).toInt - 48).toNat) (by omega) (by omega) (by rw [Nat.pow_succ]; omega) (fun x hx => by by_cases ex : x = i; (subst ex; exact hc); exact hd x (by omega)) (by rw [e]; rfl)) ⟨rfl, rfl, rfl, by rw [← nm_dig hc]; rfl, rfl, rfl, trivial⟩
      · rw [bI_f hc]
        refine ru_to (badL _ 0 (i + 1) (by omega) rfl ?_) ⟨rfl, rfl, rfl, rfl, rfl, rfl, trivial⟩
        unfold smallR snm
        rw [cnd_f (fun z => hc (z.2 i (by omega)))]
  refine ru_iconst (v := 0) d_Mo_small_0 (by decide) ?_
  refine ru_istore_n d_Mo_small_1 rfl (by decide) ?_
  refine ru_aload_n d_Mo_small_2 rfl rfl ?_
  refine ru_callV (mc := 0) (ms := 0) d_Mo_small_3 lm_Mo_75 (sq_good hL) (rx_recv_is (ly hL 398 9 0) kx_Mo) (by decide) rfl (Nat.le_of_ble_eq_true rfl) ?_
  intro v τ h
  obtain ⟨rfl, rfl⟩ := h
  refine ru_if_eq (tgt := 28) d_Mo_small_6 (by decide) (fun h6 => absurd h6 (bI_ne0.mpr rfl)) (fun h6 => ?_)
  refine ru_aload_n d_Mo_small_9 rfl rfl ?_
  refine ru_callV (mc := 0) (ms := 0) d_Mo_small_10 lm_Mo_62 hlen (rx_recv_is (ly hL 398 9 0) kx_Mo) (by decide) rfl (Nat.le_of_ble_eq_true rfl) ?_
  intro v τ h
  obtain ⟨rfl, rfl⟩ := h
  refine ru_if_le (tgt := 28) d_Mo_small_13 (by decide) (fun h13 => ?_) (fun h13 => ?_)
  · skip
    replace h13 := nm_le (a := (tlen n t j)) (b := 0) (by omega) (by omega) h13
    refine ru_iconst (v := 0) d_Mo_small_28 (by decide) ?_
    refine ru_istore d_Mo_small_29 (by decide) ?_
    refine ru_iconst (v := 0) d_Mo_small_31 (by decide) ?_
    refine ru_istore d_Mo_small_32 (by decide) ?_
    first | exact ru_to (loop ⟨by omega, by omega⟩ _ 0 0 (by omega) rfl (by decide) (fun x hx => by omega) rfl) ⟨rfl, rfl, rfl, rfl, rfl, rfl, trivial⟩ | exact ru_to (badL 0 0 0 (by omega) rfl (by unfold smallR snm; rw [cnd_f (fun z => by have := z.1; omega)])) ⟨rfl, rfl, rfl, rfl, rfl, rfl, trivial⟩
  · skip
    replace h13 := nm_nle (a := (tlen n t j)) (b := 0) (by omega) (by omega) h13
    refine ru_aload_n d_Mo_small_16 rfl rfl ?_
    refine ru_callV (mc := 0) (ms := 0) d_Mo_small_17 lm_Mo_62 hlen (rx_recv_is (ly hL 398 9 0) kx_Mo) (by decide) rfl (Nat.le_of_ble_eq_true rfl) ?_
    intro v τ h
    obtain ⟨rfl, rfl⟩ := h
    refine ru_iconst (v := 3) d_Mo_small_20 (by decide) ?_
    refine ru_icmp_ge (tgt := 28) d_Mo_small_21 (by decide) (fun h21 => ?_) (fun h21 => ?_)
    · skip
      replace h21 := nm_le (a := 3) (b := (tlen n t j)) (by omega) (by omega) h21
      refine ru_iconst (v := 0) d_Mo_small_28 (by decide) ?_
      refine ru_istore d_Mo_small_29 (by decide) ?_
      refine ru_iconst (v := 0) d_Mo_small_31 (by decide) ?_
      refine ru_istore d_Mo_small_32 (by decide) ?_
      first | exact ru_to (loop ⟨by omega, by omega⟩ _ 0 0 (by omega) rfl (by decide) (fun x hx => by omega) rfl) ⟨rfl, rfl, rfl, rfl, rfl, rfl, trivial⟩ | exact ru_to (badL 0 0 0 (by omega) rfl (by unfold smallR snm; rw [cnd_f (fun z => by have := z.1; omega)])) ⟨rfl, rfl, rfl, rfl, rfl, rfl, trivial⟩
    · skip
      replace h21 := nm_nle (a := 3) (b := (tlen n t j)) (by omega) (by omega) h21
      refine ru_iconst (v := 1) d_Mo_small_24 (by decide) ?_
      refine ru_goto (tgt := 29) d_Mo_small_25 (by decide) ?_
      refine ru_istore d_Mo_small_29 (by decide) ?_
      refine ru_iconst (v := 0) d_Mo_small_31 (by decide) ?_
      refine ru_istore d_Mo_small_32 (by decide) ?_
      first | exact ru_to (loop ⟨by omega, by omega⟩ _ 0 0 (by omega) rfl (by decide) (fun x hx => by omega) rfl) ⟨rfl, rfl, rfl, rfl, rfl, rfl, trivial⟩ | exact ru_to (badL 0 0 0 (by omega) rfl (by unfold smallR snm; rw [cnd_f (fun z => by have := z.1; omega)])) ⟨rfl, rfl, rfl, rfl, rfl, rfl, trivial⟩
theorem sq_small0 {w g a b : Int32} {j : Nat} (hL : LAY nx ct mr) (h : PMs n m t m0) (hj : j < 4000) (hg : ¬ g = -1) : rx_Calls y_Mo_small M_Mo_small 1 0 0 [.ref 398, .int a, .int b] (nx, ct, mS m0 (nI j) g, ml, mr) (fun v τ => ∃ x : Int32, v = some (.int x) ∧ τ = (nx, ct, mS m0 (nI (j + 1)) g, ml, mr)) := by
  refine rx_enter (by decide) rfl rfl (Nat.le_of_ble_eq_true rfl) ?_
  have hlen := sp_Mo_length (ml := ml) hL (h.mS (nI j) g) mS_w hj
  have hle := tlen_le (n := n) (t := t) (j := j)
  have hn := h.2.2.1
  refine ru_iconst (v := 0) d_Mo_small_0 (by decide) ?_
  refine ru_istore_n d_Mo_small_1 rfl (by decide) ?_
  refine ru_aload_n d_Mo_small_2 rfl rfl ?_
  refine ru_callV (mc := 0) (ms := 0) d_Mo_small_3 lm_Mo_75 (sq_good hL) (rx_recv_is (ly hL 398 9 0) kx_Mo) (by decide) rfl (Nat.le_of_ble_eq_true rfl) ?_
  intro v τ h
  obtain ⟨rfl, rfl⟩ := h
  refine ru_if_eq (tgt := 28) d_Mo_small_6 (by decide) (fun h6 => ?_) (fun h6 => absurd (bI_f hg) h6)
  refine ru_iconst (v := 0) d_Mo_small_28 (by decide) ?_
  refine ru_istore d_Mo_small_29 (by decide) ?_
  refine ru_iconst (v := 0) d_Mo_small_31 (by decide) ?_
  refine ru_istore d_Mo_small_32 (by decide) ?_
  refine ru_iload d_Mo_small_34 rfl ?_
  refine ru_aload_n d_Mo_small_36 rfl rfl ?_
  refine ru_callV (mc := 0) (ms := 0) d_Mo_small_37 lm_Mo_62 hlen (rx_recv_is (ly hL 398 9 0) kx_Mo) (by decide) rfl (Nat.le_of_ble_eq_true rfl) ?_
  intro v τ h
  obtain ⟨rfl, rfl⟩ := h
  refine ru_icmp_ge (tgt := 102) d_Mo_small_40 (by decide) (fun h40 => ?_) (fun h40 => ?_)
  · skip
    replace h40 := nm_le (a := (tlen n t j)) (b := 0) (by omega) (by omega) h40
    refine ru_iload d_Mo_small_102 rfl ?_
    refine ru_if_eq (tgt := 117) d_Mo_small_104 (by decide) (fun h104 => ?_) (fun h104 => absurd h104 (by decide))
    refine ru_aload_n d_Mo_small_117 rfl rfl ?_
    refine ru_aload_n d_Mo_small_118 rfl rfl ?_
    refine ru_getI d_Mo_small_119 lf_Mo_59 (ly hL 398 9 0) rfl ?_
    refine ru_eqi mS_w ?_
    refine ru_callV (mc := 0) (ms := 0) d_Mo_small_122 lm_Mo_87 (sq_fail hL _) (rx_recv_is (ly hL 398 9 0) kx_Mo) (by decide) rfl (Nat.le_of_ble_eq_true rfl) ?_
    rw [if_neg hg]
    intro v τ h
    obtain ⟨rfl, rfl⟩ := h
    refine ru_aload_n d_Mo_small_125 rfl rfl ?_
    refine ru_dup d_Mo_small_126 rfl ?_
    refine ru_getI d_Mo_small_127 lf_Mo_59 (ly hL 398 9 0) rfl ?_
    refine ru_eqi mS_w ?_
    refine ru_iconst (v := 1) d_Mo_small_130 (by decide) ?_
    refine ru_iadd d_Mo_small_131 ?_
    refine ru_eqi (nm_add j 1 : _ = nI (j + 1)) ?_
    refine ru_putI d_Mo_small_132 lf_Mo_59 (ly hL 398 9 0) rfl (fun q hq => by cases hq; exact Or.inl rfl) ⟨rfl, rfl⟩ ?_
    refine ru_iload_n d_Mo_small_135 rfl rfl ?_
    refine ru_iret d_Mo_small_136 rfl ?_
    rw [mS_sw]
    exact ⟨_, rfl, rfl⟩
  · skip
    replace h40 := nm_nle (a := (tlen n t j)) (b := 0) (by omega) (by omega) h40
    refine ru_iload d_Mo_small_43 rfl ?_
    refine ru_if_eq (tgt := 102) d_Mo_small_45 (by decide) (fun h45 => ?_) (fun h45 => absurd h45 (by decide))
    refine ru_iload d_Mo_small_102 rfl ?_
    refine ru_if_eq (tgt := 117) d_Mo_small_104 (by decide) (fun h104 => ?_) (fun h104 => absurd h104 (by decide))
    refine ru_aload_n d_Mo_small_117 rfl rfl ?_
    refine ru_aload_n d_Mo_small_118 rfl rfl ?_
    refine ru_getI d_Mo_small_119 lf_Mo_59 (ly hL 398 9 0) rfl ?_
    refine ru_eqi mS_w ?_
    refine ru_callV (mc := 0) (ms := 0) d_Mo_small_122 lm_Mo_87 (sq_fail hL _) (rx_recv_is (ly hL 398 9 0) kx_Mo) (by decide) rfl (Nat.le_of_ble_eq_true rfl) ?_
    rw [if_neg hg]
    intro v τ h
    obtain ⟨rfl, rfl⟩ := h
    refine ru_aload_n d_Mo_small_125 rfl rfl ?_
    refine ru_dup d_Mo_small_126 rfl ?_
    refine ru_getI d_Mo_small_127 lf_Mo_59 (ly hL 398 9 0) rfl ?_
    refine ru_eqi mS_w ?_
    refine ru_iconst (v := 1) d_Mo_small_130 (by decide) ?_
    refine ru_iadd d_Mo_small_131 ?_
    refine ru_eqi (nm_add j 1 : _ = nI (j + 1)) ?_
    refine ru_putI d_Mo_small_132 lf_Mo_59 (ly hL 398 9 0) rfl (fun q hq => by cases hq; exact Or.inl rfl) ⟨rfl, rfl⟩ ?_
    refine ru_iload_n d_Mo_small_135 rfl rfl ?_
    refine ru_iret d_Mo_small_136 rfl ?_
    rw [mS_sw]
    exact ⟨_, rfl, rfl⟩
end
