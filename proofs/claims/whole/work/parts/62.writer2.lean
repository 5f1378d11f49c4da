/-! The class writes: rules -/
theorem d_Wr_writeArea_0 : decode M_Wr_writeArea.2.1 0 = .ok (.iload_n 1, 1) := by decide +kernel
theorem d_Wr_writeArea_1 : decode M_Wr_writeArea.2.1 1 = .ok (.iconst (-1), 1) := by decide +kernel
theorem d_Wr_writeArea_2 : decode M_Wr_writeArea.2.1 2 = .ok (.if_icmp .eq 22, 3) := by decide +kernel
theorem d_Wr_writeArea_5 : decode M_Wr_writeArea.2.1 5 = .ok (.aload_n 0, 1) := by decide +kernel
theorem d_Wr_writeArea_6 : decode M_Wr_writeArea.2.1 6 = .ok (.getfield 12, 3) := by decide +kernel
theorem d_Wr_writeArea_9 : decode M_Wr_writeArea.2.1 9 = .ok (.ldc 141, 2) := by decide +kernel
theorem d_Wr_writeArea_11 : decode M_Wr_writeArea.2.1 11 = .ok (.invokevirtual 52, 3) := by decide +kernel
theorem d_Wr_writeArea_14 : decode M_Wr_writeArea.2.1 14 = .ok (.pop, 1) := by decide +kernel
theorem d_Wr_writeArea_15 : decode M_Wr_writeArea.2.1 15 = .ok (.aload_n 0, 1) := by decide +kernel
theorem d_Wr_writeArea_16 : decode M_Wr_writeArea.2.1 16 = .ok (.iconst 2, 1) := by decide +kernel
theorem d_Wr_writeArea_17 : decode M_Wr_writeArea.2.1 17 = .ok (.iload_n 1, 1) := by decide +kernel
theorem d_Wr_writeArea_18 : decode M_Wr_writeArea.2.1 18 = .ok (.invokestatic 143, 3) := by decide +kernel
theorem d_Wr_writeArea_21 : decode M_Wr_writeArea.2.1 21 = .ok (.invokevirtual 114, 3) := by decide +kernel
theorem d_Wr_writeArea_24 : decode M_Wr_writeArea.2.1 24 = .ok (.return_, 1) := by decide +kernel
theorem d_Wr_writeLayer_0 : decode M_Wr_writeLayer.2.1 0 = .ok (.iload_n 1, 1) := by decide +kernel
theorem d_Wr_writeLayer_1 : decode M_Wr_writeLayer.2.1 1 = .ok (.iconst 1, 1) := by decide +kernel
theorem d_Wr_writeLayer_2 : decode M_Wr_writeLayer.2.1 2 = .ok (.if_icmp .ne 16, 3) := by decide +kernel
theorem d_Wr_writeLayer_5 : decode M_Wr_writeLayer.2.1 5 = .ok (.aload_n 0, 1) := by decide +kernel
theorem d_Wr_writeLayer_6 : decode M_Wr_writeLayer.2.1 6 = .ok (.getfield 12, 3) := by decide +kernel
theorem d_Wr_writeLayer_9 : decode M_Wr_writeLayer.2.1 9 = .ok (.ldc 130, 2) := by decide +kernel
theorem d_Wr_writeLayer_11 : decode M_Wr_writeLayer.2.1 11 = .ok (.invokevirtual 52, 3) := by decide +kernel
theorem d_Wr_writeLayer_14 : decode M_Wr_writeLayer.2.1 14 = .ok (.pop, 1) := by decide +kernel
theorem d_Wr_writeLayer_15 : decode M_Wr_writeLayer.2.1 15 = .ok (.goto 60, 3) := by decide +kernel
theorem d_Wr_writeLayer_18 : decode M_Wr_writeLayer.2.1 18 = .ok (.iload_n 1, 1) := by decide +kernel
theorem d_Wr_writeLayer_19 : decode M_Wr_writeLayer.2.1 19 = .ok (.iconst 2, 1) := by decide +kernel
theorem d_Wr_writeLayer_20 : decode M_Wr_writeLayer.2.1 20 = .ok (.if_icmp .ne 16, 3) := by decide +kernel
theorem d_Wr_writeLayer_23 : decode M_Wr_writeLayer.2.1 23 = .ok (.aload_n 0, 1) := by decide +kernel
theorem d_Wr_writeLayer_24 : decode M_Wr_writeLayer.2.1 24 = .ok (.getfield 12, 3) := by decide +kernel
theorem d_Wr_writeLayer_27 : decode M_Wr_writeLayer.2.1 27 = .ok (.ldc 132, 2) := by decide +kernel
theorem d_Wr_writeLayer_29 : decode M_Wr_writeLayer.2.1 29 = .ok (.invokevirtual 52, 3) := by decide +kernel
theorem d_Wr_writeLayer_32 : decode M_Wr_writeLayer.2.1 32 = .ok (.pop, 1) := by decide +kernel
theorem d_Wr_writeLayer_33 : decode M_Wr_writeLayer.2.1 33 = .ok (.goto 42, 3) := by decide +kernel
theorem d_Wr_writeLayer_36 : decode M_Wr_writeLayer.2.1 36 = .ok (.iload_n 1, 1) := by decide +kernel
theorem d_Wr_writeLayer_37 : decode M_Wr_writeLayer.2.1 37 = .ok (.iconst 3, 1) := by decide +kernel
theorem d_Wr_writeLayer_38 : decode M_Wr_writeLayer.2.1 38 = .ok (.if_icmp .ne 16, 3) := by decide +kernel
theorem d_Wr_writeLayer_41 : decode M_Wr_writeLayer.2.1 41 = .ok (.aload_n 0, 1) := by decide +kernel
theorem d_Wr_writeLayer_42 : decode M_Wr_writeLayer.2.1 42 = .ok (.getfield 12, 3) := by decide +kernel
theorem d_Wr_writeLayer_45 : decode M_Wr_writeLayer.2.1 45 = .ok (.ldc 134, 2) := by decide +kernel
theorem d_Wr_writeLayer_47 : decode M_Wr_writeLayer.2.1 47 = .ok (.invokevirtual 52, 3) := by decide +kernel
theorem d_Wr_writeLayer_50 : decode M_Wr_writeLayer.2.1 50 = .ok (.pop, 1) := by decide +kernel
theorem d_Wr_writeLayer_51 : decode M_Wr_writeLayer.2.1 51 = .ok (.goto 24, 3) := by decide +kernel
theorem d_Wr_writeLayer_54 : decode M_Wr_writeLayer.2.1 54 = .ok (.iload_n 1, 1) := by decide +kernel
theorem d_Wr_writeLayer_55 : decode M_Wr_writeLayer.2.1 55 = .ok (.iconst 3, 1) := by decide +kernel
theorem d_Wr_writeLayer_56 : decode M_Wr_writeLayer.2.1 56 = .ok (.if_icmp .le 19, 3) := by decide +kernel
theorem d_Wr_writeLayer_59 : decode M_Wr_writeLayer.2.1 59 = .ok (.aload_n 0, 1) := by decide +kernel
theorem d_Wr_writeLayer_60 : decode M_Wr_writeLayer.2.1 60 = .ok (.getfield 12, 3) := by decide +kernel
theorem d_Wr_writeLayer_63 : decode M_Wr_writeLayer.2.1 63 = .ok (.ldc 136, 2) := by decide +kernel
theorem d_Wr_writeLayer_65 : decode M_Wr_writeLayer.2.1 65 = .ok (.invokevirtual 52, 3) := by decide +kernel
theorem d_Wr_writeLayer_68 : decode M_Wr_writeLayer.2.1 68 = .ok (.iload_n 1, 1) := by decide +kernel
theorem d_Wr_writeLayer_69 : decode M_Wr_writeLayer.2.1 69 = .ok (.iconst 3, 1) := by decide +kernel
theorem d_Wr_writeLayer_70 : decode M_Wr_writeLayer.2.1 70 = .ok (.isub, 1) := by decide +kernel
theorem d_Wr_writeLayer_71 : decode M_Wr_writeLayer.2.1 71 = .ok (.invokevirtual 138, 3) := by decide +kernel
theorem d_Wr_writeLayer_74 : decode M_Wr_writeLayer.2.1 74 = .ok (.pop, 1) := by decide +kernel
theorem d_Wr_writeLayer_75 : decode M_Wr_writeLayer.2.1 75 = .ok (.return_, 1) := by decide +kernel
theorem d_Wr_writeRank_0 : decode M_Wr_writeRank.2.1 0 = .ok (.iload_n 1, 1) := by decide +kernel
theorem d_Wr_writeRank_1 : decode M_Wr_writeRank.2.1 1 = .ok (.ifCond .eq 17, 3) := by decide +kernel
theorem d_Wr_writeRank_4 : decode M_Wr_writeRank.2.1 4 = .ok (.aload_n 0, 1) := by decide +kernel
theorem d_Wr_writeRank_5 : decode M_Wr_writeRank.2.1 5 = .ok (.getfield 12, 3) := by decide +kernel
theorem d_Wr_writeRank_8 : decode M_Wr_writeRank.2.1 8 = .ok (.ldc 147, 2) := by decide +kernel
theorem d_Wr_writeRank_10 : decode M_Wr_writeRank.2.1 10 = .ok (.invokevirtual 52, 3) := by decide +kernel
theorem d_Wr_writeRank_13 : decode M_Wr_writeRank.2.1 13 = .ok (.iload_n 1, 1) := by decide +kernel
theorem d_Wr_writeRank_14 : decode M_Wr_writeRank.2.1 14 = .ok (.invokevirtual 138, 3) := by decide +kernel
theorem d_Wr_writeRank_17 : decode M_Wr_writeRank.2.1 17 = .ok (.pop, 1) := by decide +kernel
theorem d_Wr_writeRank_18 : decode M_Wr_writeRank.2.1 18 = .ok (.return_, 1) := by decide +kernel
theorem d_Wr_writeSpan_0 : decode M_Wr_writeSpan.2.1 0 = .ok (.aload_n 1, 1) := by decide +kernel
theorem d_Wr_writeSpan_1 : decode M_Wr_writeSpan.2.1 1 = .ok (.getfield 149, 3) := by decide +kernel
theorem d_Wr_writeSpan_4 : decode M_Wr_writeSpan.2.1 4 = .ok (.ldc2_w 153, 3) := by decide +kernel
theorem d_Wr_writeSpan_7 : decode M_Wr_writeSpan.2.1 7 = .ok (.lcmp, 1) := by decide +kernel
theorem d_Wr_writeSpan_8 : decode M_Wr_writeSpan.2.1 8 = .ok (.ifCond .ne 16, 3) := by decide +kernel
theorem d_Wr_writeSpan_11 : decode M_Wr_writeSpan.2.1 11 = .ok (.aload_n 0, 1) := by decide +kernel
theorem d_Wr_writeSpan_12 : decode M_Wr_writeSpan.2.1 12 = .ok (.getfield 12, 3) := by decide +kernel
theorem d_Wr_writeSpan_15 : decode M_Wr_writeSpan.2.1 15 = .ok (.ldc 155, 2) := by decide +kernel
theorem d_Wr_writeSpan_17 : decode M_Wr_writeSpan.2.1 17 = .ok (.invokevirtual 52, 3) := by decide +kernel
theorem d_Wr_writeSpan_20 : decode M_Wr_writeSpan.2.1 20 = .ok (.pop, 1) := by decide +kernel
theorem d_Wr_writeSpan_21 : decode M_Wr_writeSpan.2.1 21 = .ok (.goto 24, 3) := by decide +kernel
theorem d_Wr_writeSpan_24 : decode M_Wr_writeSpan.2.1 24 = .ok (.aload_n 1, 1) := by decide +kernel
theorem d_Wr_writeSpan_25 : decode M_Wr_writeSpan.2.1 25 = .ok (.getfield 157, 3) := by decide +kernel
theorem d_Wr_writeSpan_28 : decode M_Wr_writeSpan.2.1 28 = .ok (.ldc2_w 153, 3) := by decide +kernel
theorem d_Wr_writeSpan_31 : decode M_Wr_writeSpan.2.1 31 = .ok (.lcmp, 1) := by decide +kernel
theorem d_Wr_writeSpan_32 : decode M_Wr_writeSpan.2.1 32 = .ok (.ifCond .ne 13, 3) := by decide +kernel
theorem d_Wr_writeSpan_35 : decode M_Wr_writeSpan.2.1 35 = .ok (.aload_n 0, 1) := by decide +kernel
theorem d_Wr_writeSpan_36 : decode M_Wr_writeSpan.2.1 36 = .ok (.getfield 12, 3) := by decide +kernel
theorem d_Wr_writeSpan_39 : decode M_Wr_writeSpan.2.1 39 = .ok (.ldc 160, 2) := by decide +kernel
theorem d_Wr_writeSpan_41 : decode M_Wr_writeSpan.2.1 41 = .ok (.invokevirtual 52, 3) := by decide +kernel
theorem d_Wr_writeSpan_44 : decode M_Wr_writeSpan.2.1 44 = .ok (.pop, 1) := by decide +kernel
theorem d_Wr_writeSpan_45 : decode M_Wr_writeSpan.2.1 45 = .ok (.aload_n 0, 1) := by decide +kernel
theorem d_Wr_writeSpan_46 : decode M_Wr_writeSpan.2.1 46 = .ok (.aload_n 1, 1) := by decide +kernel
theorem d_Wr_writeSpan_47 : decode M_Wr_writeSpan.2.1 47 = .ok (.getfield 157, 3) := by decide +kernel
theorem d_Wr_writeSpan_50 : decode M_Wr_writeSpan.2.1 50 = .ok (.ldc2_w 153, 3) := by decide +kernel
theorem d_Wr_writeSpan_53 : decode M_Wr_writeSpan.2.1 53 = .ok (.lcmp, 1) := by decide +kernel
theorem d_Wr_writeSpan_54 : decode M_Wr_writeSpan.2.1 54 = .ok (.ifCond .ne 10, 3) := by decide +kernel
theorem d_Wr_writeSpan_57 : decode M_Wr_writeSpan.2.1 57 = .ok (.aload_n 1, 1) := by decide +kernel
theorem d_Wr_writeSpan_58 : decode M_Wr_writeSpan.2.1 58 = .ok (.getfield 149, 3) := by decide +kernel
theorem d_Wr_writeSpan_61 : decode M_Wr_writeSpan.2.1 61 = .ok (.goto 7, 3) := by decide +kernel
theorem d_Wr_writeSpan_64 : decode M_Wr_writeSpan.2.1 64 = .ok (.aload_n 1, 1) := by decide +kernel
theorem d_Wr_writeSpan_65 : decode M_Wr_writeSpan.2.1 65 = .ok (.getfield 157, 3) := by decide +kernel
theorem d_Wr_writeSpan_68 : decode M_Wr_writeSpan.2.1 68 = .ok (.invokevirtual 162, 3) := by decide +kernel
theorem d_Wr_writeSpan_71 : decode M_Wr_writeSpan.2.1 71 = .ok (.aload_n 1, 1) := by decide +kernel
theorem d_Wr_writeSpan_72 : decode M_Wr_writeSpan.2.1 72 = .ok (.getfield 157, 3) := by decide +kernel
theorem d_Wr_writeSpan_75 : decode M_Wr_writeSpan.2.1 75 = .ok (.ldc2_w 153, 3) := by decide +kernel
theorem d_Wr_writeSpan_78 : decode M_Wr_writeSpan.2.1 78 = .ok (.lcmp, 1) := by decide +kernel
theorem d_Wr_writeSpan_79 : decode M_Wr_writeSpan.2.1 79 = .ok (.ifCond .eq 44, 3) := by decide +kernel
theorem d_Wr_writeSpan_82 : decode M_Wr_writeSpan.2.1 82 = .ok (.aload_n 1, 1) := by decide +kernel
theorem d_Wr_writeSpan_83 : decode M_Wr_writeSpan.2.1 83 = .ok (.getfield 149, 3) := by decide +kernel
theorem d_Wr_writeSpan_86 : decode M_Wr_writeSpan.2.1 86 = .ok (.ldc2_w 153, 3) := by decide +kernel
theorem d_Wr_writeSpan_89 : decode M_Wr_writeSpan.2.1 89 = .ok (.lcmp, 1) := by decide +kernel
theorem d_Wr_writeSpan_90 : decode M_Wr_writeSpan.2.1 90 = .ok (.ifCond .eq 33, 3) := by decide +kernel
theorem d_Wr_writeSpan_93 : decode M_Wr_writeSpan.2.1 93 = .ok (.aload_n 1, 1) := by decide +kernel
theorem d_Wr_writeSpan_94 : decode M_Wr_writeSpan.2.1 94 = .ok (.getfield 157, 3) := by decide +kernel
theorem d_Wr_writeSpan_97 : decode M_Wr_writeSpan.2.1 97 = .ok (.aload_n 1, 1) := by decide +kernel
theorem d_Wr_writeSpan_98 : decode M_Wr_writeSpan.2.1 98 = .ok (.getfield 149, 3) := by decide +kernel
theorem d_Wr_writeSpan_101 : decode M_Wr_writeSpan.2.1 101 = .ok (.lcmp, 1) := by decide +kernel
theorem d_Wr_writeSpan_102 : decode M_Wr_writeSpan.2.1 102 = .ok (.ifCond .eq 21, 3) := by decide +kernel
theorem d_Wr_writeSpan_105 : decode M_Wr_writeSpan.2.1 105 = .ok (.aload_n 0, 1) := by decide +kernel
theorem d_Wr_writeSpan_106 : decode M_Wr_writeSpan.2.1 106 = .ok (.getfield 12, 3) := by decide +kernel
theorem d_Wr_writeSpan_109 : decode M_Wr_writeSpan.2.1 109 = .ok (.ldc 166, 2) := by decide +kernel
theorem d_Wr_writeSpan_111 : decode M_Wr_writeSpan.2.1 111 = .ok (.invokevirtual 52, 3) := by decide +kernel
theorem d_Wr_writeSpan_114 : decode M_Wr_writeSpan.2.1 114 = .ok (.pop, 1) := by decide +kernel
theorem d_Wr_writeSpan_115 : decode M_Wr_writeSpan.2.1 115 = .ok (.aload_n 0, 1) := by decide +kernel
theorem d_Wr_writeSpan_116 : decode M_Wr_writeSpan.2.1 116 = .ok (.aload_n 1, 1) := by decide +kernel
theorem d_Wr_writeSpan_117 : decode M_Wr_writeSpan.2.1 117 = .ok (.getfield 149, 3) := by decide +kernel
theorem d_Wr_writeSpan_120 : decode M_Wr_writeSpan.2.1 120 = .ok (.invokevirtual 162, 3) := by decide +kernel
theorem d_Wr_writeSpan_123 : decode M_Wr_writeSpan.2.1 123 = .ok (.aload_n 1, 1) := by decide +kernel
theorem d_Wr_writeSpan_124 : decode M_Wr_writeSpan.2.1 124 = .ok (.getfield 40, 3) := by decide +kernel
theorem d_Wr_writeSpan_127 : decode M_Wr_writeSpan.2.1 127 = .ok (.getfield 168, 3) := by decide +kernel
theorem d_Wr_writeSpan_130 : decode M_Wr_writeSpan.2.1 130 = .ok (.ifCond .ne 13, 3) := by decide +kernel
theorem d_Wr_writeSpan_133 : decode M_Wr_writeSpan.2.1 133 = .ok (.aload_n 0, 1) := by decide +kernel
theorem d_Wr_writeSpan_134 : decode M_Wr_writeSpan.2.1 134 = .ok (.getfield 12, 3) := by decide +kernel
theorem d_Wr_writeSpan_137 : decode M_Wr_writeSpan.2.1 137 = .ok (.ldc 172, 2) := by decide +kernel
theorem d_Wr_writeSpan_139 : decode M_Wr_writeSpan.2.1 139 = .ok (.invokevirtual 52, 3) := by decide +kernel
theorem d_Wr_writeSpan_142 : decode M_Wr_writeSpan.2.1 142 = .ok (.pop, 1) := by decide +kernel
theorem d_Wr_writeSpan_143 : decode M_Wr_writeSpan.2.1 143 = .ok (.return_, 1) := by decide +kernel
theorem d_Wr_writeThing_0 : decode M_Wr_writeThing.2.1 0 = .ok (.iload_n 1, 1) := by decide +kernel
theorem d_Wr_writeThing_1 : decode M_Wr_writeThing.2.1 1 = .ok (.iconst (-1), 1) := by decide +kernel
theorem d_Wr_writeThing_2 : decode M_Wr_writeThing.2.1 2 = .ok (.if_icmp .ne 14, 3) := by decide +kernel
theorem d_Wr_writeThing_5 : decode M_Wr_writeThing.2.1 5 = .ok (.aload_n 0, 1) := by decide +kernel
theorem d_Wr_writeThing_6 : decode M_Wr_writeThing.2.1 6 = .ok (.getfield 12, 3) := by decide +kernel
theorem d_Wr_writeThing_9 : decode M_Wr_writeThing.2.1 9 = .ok (.ldc 104, 2) := by decide +kernel
theorem d_Wr_writeThing_11 : decode M_Wr_writeThing.2.1 11 = .ok (.invokevirtual 52, 3) := by decide +kernel
theorem d_Wr_writeThing_14 : decode M_Wr_writeThing.2.1 14 = .ok (.pop, 1) := by decide +kernel
theorem d_Wr_writeThing_15 : decode M_Wr_writeThing.2.1 15 = .ok (.return_, 1) := by decide +kernel
theorem d_Wr_writeThing_16 : decode M_Wr_writeThing.2.1 16 = .ok (.aload_n 0, 1) := by decide +kernel
theorem d_Wr_writeThing_17 : decode M_Wr_writeThing.2.1 17 = .ok (.getfield 12, 3) := by decide +kernel
theorem d_Wr_writeThing_20 : decode M_Wr_writeThing.2.1 20 = .ok (.iload_n 1, 1) := by decide +kernel
theorem d_Wr_writeThing_21 : decode M_Wr_writeThing.2.1 21 = .ok (.invokestatic 106, 3) := by decide +kernel
theorem d_Wr_writeThing_24 : decode M_Wr_writeThing.2.1 24 = .ok (.ifCond .ne 8, 3) := by decide +kernel
theorem d_Wr_writeThing_27 : decode M_Wr_writeThing.2.1 27 = .ok (.ldc 110, 2) := by decide +kernel
theorem d_Wr_writeThing_29 : decode M_Wr_writeThing.2.1 29 = .ok (.goto 5, 3) := by decide +kernel
theorem d_Wr_writeThing_32 : decode M_Wr_writeThing.2.1 32 = .ok (.ldc 112, 2) := by decide +kernel
theorem d_Wr_writeThing_34 : decode M_Wr_writeThing.2.1 34 = .ok (.invokevirtual 52, 3) := by decide +kernel
theorem d_Wr_writeThing_37 : decode M_Wr_writeThing.2.1 37 = .ok (.pop, 1) := by decide +kernel
theorem d_Wr_writeThing_38 : decode M_Wr_writeThing.2.1 38 = .ok (.aload_n 0, 1) := by decide +kernel
theorem d_Wr_writeThing_39 : decode M_Wr_writeThing.2.1 39 = .ok (.iload_n 1, 1) := by decide +kernel
theorem d_Wr_writeThing_40 : decode M_Wr_writeThing.2.1 40 = .ok (.invokevirtual 114, 3) := by decide +kernel
theorem d_Wr_writeThing_43 : decode M_Wr_writeThing.2.1 43 = .ok (.return_, 1) := by decide +kernel
theorem tx_w : rx_tx 26 = 32 :: rx_tx 0 ∧ rx_tx 27 = 32 :: rx_tx 1 ∧ rx_tx 28 = 32 :: rx_tx 2 ∧ rx_tx 29 = 32 :: rx_tx 3 ∧ rx_tx 30 = 32 :: rx_tx 4 ∧ rx_tx 31 = 32 :: rx_tx 5 := ⟨rfl, rfl, rfl, rfl, rfl, rfl⟩
theorem tx_on : rx_tx 32 = (32 :: rx_tx 6) ++ 32 :: rx_tx 8 ∧ rx_tx 33 = (32 :: rx_tx 6) ++ 32 :: rx_tx 9 ∧ rx_tx 34 = (32 :: rx_tx 6) ++ 32 :: rx_tx 10 ∧ rx_tx 35 = (32 :: rx_tx 6) ++ ((32 :: rx_tx 7) ++ [32]) := ⟨rfl, rfl, rfl, rfl⟩
theorem tx_v : rx_tx 36 = 32 :: rx_tx 11 ∧ rx_tx 37 = (32 :: rx_tx 12) ++ [32] ∧ rx_tx 38 = 32 :: rx_tx 13 ∧ rx_tx 39 = 32 :: rx_tx 14 ∧ rx_tx 40 = 32 :: rx_tx 15 ∧ rx_tx 41 = 32 :: rx_tx 56 ∧ rx_tx 42 = [32, 59, 10] := ⟨rfl, rfl, rfl, rfl, rfl, rfl, rfl⟩
theorem len_app (x y : List Int32) : x.length ≤ (x ++ y).length := by rw [List.length_append]; omega
section
variable {nx c0 : Nat} {ct : Nat → Nat × Nat} {mi : Nat → Nat → Int32} {ml : Nat → Nat → Int64} {mr : Nat → Nat → Option Nat} {l : List Int32} {vb r : Nat} {N : nmS} {q : ruS}
theorem w_thing {o : Option Nat} (hO : NmOK N) (ho : ∀ s, o = some s → s < 32) (hL : LAY nx ct mr) (h : SbI nx ct mi mr vb l (cp c0 l.length)) (hN : NmC N mi) (hm3 : cp c0 (l ++ wTh N o).length ≤ 200000) : WC c0 y_Wr_writeThing M_Wr_writeThing 7 [.ref 271, .int (oR o)] none nx ct mi ml mr l (wTh N o) := by
  unfold WC
  refine rx_enter (by decide) rfl rfl (Nat.le_of_ble_eq_true rfl) ?_
  cases o with
  | none =>
    rw [show wTh N none = rx_tx 28 from rfl] at hm3 ⊢
    refine ru_iload_n d_Wr_writeThing_0 rfl rfl ?_
    refine ru_iconst (v := (-1)) d_Wr_writeThing_1 (by decide) ?_
    refine ru_icmp_ne (tgt := 16) d_Wr_writeThing_2 (by decide) (fun h2 => absurd rfl h2) (fun h2 => ?_)
    refine ru_aload_n d_Wr_writeThing_5 rfl rfl ?_
    refine ru_getR d_Wr_writeThing_6 lf_Wr_12 (ly hL 271 8 0) rfl (lr hL 271 0 272) ?_
    refine ru_ldcS (tx := " any") (r := 58) d_Wr_writeThing_9 (List.mem_of_getElem? (i := 28) rfl) ?_
    refine ru_appV d_Wr_writeThing_11 lm_Wr_52 (w_S (s := 28) hL h (by decide) (by decide) hm3) (rx_recv_is (ly hL 272 10 0) kx_SB) (by decide) rfl (Nat.le_of_ble_eq_true rfl) (Nat.le_refl _) ?_
    intro nx1 ct1 m1 l1 r1 vb1 f1 hL1 s1
    refine ru_pop d_Wr_writeThing_14 rfl ?_
    refine ru_vret d_Wr_writeThing_15 rfl ?_
    exact ⟨rfl, _, _, _, _, _, vb1, rfl, f1, hL1, s1⟩
  | some s =>
    have hs := ho s rfl
    have kd : (if nI s = -1 then -1 else nI s / 16) = nI (s / 16) := by rw [if_neg (nI_m1 (by omega))]; exact nm_div (b := 16) (by omega) (by decide)
    by_cases q : s < 16
    · rw [show wTh N (some s) = rx_tx 29 ++ 32 :: nameL N s by show (32 :: rx_tx (if s < 16 then 3 else 4)) ++ _ = _; rw [if_pos q]; rfl, ← List.append_assoc] at hm3 ⊢
      refine ru_iload_n d_Wr_writeThing_0 rfl rfl ?_
      refine ru_iconst (v := (-1)) d_Wr_writeThing_1 (by decide) ?_
      refine ru_icmp_ne (tgt := 16) d_Wr_writeThing_2 (by decide) (fun h2 => ?_) (fun h2 => absurd h2 (nI_m1 (by omega)))
      refine ru_aload_n d_Wr_writeThing_16 rfl rfl ?_
      refine ru_getR d_Wr_writeThing_17 lf_Wr_12 (ly hL 271 8 0) rfl (lr hL 271 0 272) ?_
      refine ru_iload_n d_Wr_writeThing_20 rfl rfl ?_
      refine ru_mcs (Nat.zero_add _).symm (Nat.zero_add _).symm ?_
      refine ru_callS (mc := _) (ms := _) d_Wr_writeThing_21 lm_Wr_106 (sp_kindOf _ _) (by decide) rfl (Nat.le_of_ble_eq_true rfl) ?_
      rintro v τ ⟨rfl, rfl⟩
      refine ru_eqi kd ?_
      refine ru_if_ne (tgt := 32) d_Wr_writeThing_24 (by decide) (fun h24 => ?_) (fun h24 => ?_)
      · skip
        replace h24 := nm_ne (a := (s / 16)) (b := 0) (by omega) (by omega) h24
        exfalso; omega
      · skip
        replace h24 := nm_eq (a := (s / 16)) (b := 0) (by omega) (by omega) h24
        refine ru_ldcS (tx := " class") (r := 59) d_Wr_writeThing_27 (List.mem_of_getElem? (i := 29) rfl) ?_
        refine ru_goto (tgt := 34) d_Wr_writeThing_29 (by decide) ?_
        refine ru_appV d_Wr_writeThing_34 lm_Wr_52 (w_S (s := 29) hL h (by decide) (by decide) (Nat.le_trans (cp_mono (len_app _ _)) hm3)) (rx_recv_is (ly hL 272 10 0) kx_SB) (by decide) rfl (Nat.le_of_ble_eq_true rfl) (len_app _ _) ?_
        intro nx1 ct1 m1 l1 r1 vb1 f1 hL1 s1
        refine ru_pop d_Wr_writeThing_37 rfl ?_
        refine ru_aload_n d_Wr_writeThing_38 rfl rfl ?_
        refine ru_iload_n d_Wr_writeThing_39 rfl rfl ?_
        refine ru_appV d_Wr_writeThing_40 lm_Wr_114 (w_name hO (by omega) hL1 s1 (hN.fr f1) hm3) (rx_recv_is (ly hL1 271 8 0) kx_Wr) (by decide) rfl (Nat.le_of_ble_eq_true rfl) (Nat.le_refl _) ?_
        intro nx2 ct2 m2 l2 r2 vb2 f2 hL2 s2
        refine ru_vret d_Wr_writeThing_43 rfl ?_
        exact ⟨rfl, _, _, _, _, _, vb2, rfl, f1.trans f2, hL2, s2⟩
    · rw [show wTh N (some s) = rx_tx 30 ++ 32 :: nameL N s by show (32 :: rx_tx (if s < 16 then 3 else 4)) ++ _ = _; rw [if_neg q]; rfl, ← List.append_assoc] at hm3 ⊢
      refine ru_iload_n d_Wr_writeThing_0 rfl rfl ?_
      refine ru_iconst (v := (-1)) d_Wr_writeThing_1 (by decide) ?_
      refine ru_icmp_ne (tgt := 16) d_Wr_writeThing_2 (by decide) (fun h2 => ?_) (fun h2 => absurd h2 (nI_m1 (by omega)))
      refine ru_aload_n d_Wr_writeThing_16 rfl rfl ?_
      refine ru_getR d_Wr_writeThing_17 lf_Wr_12 (ly hL 271 8 0) rfl (lr hL 271 0 272) ?_
      refine ru_iload_n d_Wr_writeThing_20 rfl rfl ?_
      refine ru_mcs (Nat.zero_add _).symm (Nat.zero_add _).symm ?_
      refine ru_callS (mc := _) (ms := _) d_Wr_writeThing_21 lm_Wr_106 (sp_kindOf _ _) (by decide) rfl (Nat.le_of_ble_eq_true rfl) ?_
      rintro v τ ⟨rfl, rfl⟩
      refine ru_eqi kd ?_
      refine ru_if_ne (tgt := 32) d_Wr_writeThing_24 (by decide) (fun h24 => ?_) (fun h24 => ?_)
      · skip
        replace h24 := nm_ne (a := (s / 16)) (b := 0) (by omega) (by omega) h24
        refine ru_ldcS (tx := " net") (r := 60) d_Wr_writeThing_32 (List.mem_of_getElem? (i := 30) rfl) ?_
        refine ru_appV d_Wr_writeThing_34 lm_Wr_52 (w_S (s := 30) hL h (by decide) (by decide) (Nat.le_trans (cp_mono (len_app _ _)) hm3)) (rx_recv_is (ly hL 272 10 0) kx_SB) (by decide) rfl (Nat.le_of_ble_eq_true rfl) (len_app _ _) ?_
        intro nx1 ct1 m1 l1 r1 vb1 f1 hL1 s1
        refine ru_pop d_Wr_writeThing_37 rfl ?_
        refine ru_aload_n d_Wr_writeThing_38 rfl rfl ?_
        refine ru_iload_n d_Wr_writeThing_39 rfl rfl ?_
        refine ru_appV d_Wr_writeThing_40 lm_Wr_114 (w_name hO (by omega) hL1 s1 (hN.fr f1) hm3) (rx_recv_is (ly hL1 271 8 0) kx_Wr) (by decide) rfl (Nat.le_of_ble_eq_true rfl) (Nat.le_refl _) ?_
        intro nx2 ct2 m2 l2 r2 vb2 f2 hL2 s2
        refine ru_vret d_Wr_writeThing_43 rfl ?_
        exact ⟨rfl, _, _, _, _, _, vb2, rfl, f1.trans f2, hL2, s2⟩
      · skip
        replace h24 := nm_eq (a := (s / 16)) (b := 0) (by omega) (by omega) h24
        exfalso; omega
theorem w_layer {a : Nat} (ha : a ≤ 35) (hL : LAY nx ct mr) (h : SbI nx ct mi mr vb l (cp c0 l.length)) (hm3 : cp c0 (l ++ wLay a).length ≤ 200000) : WC c0 y_Wr_writeLayer M_Wr_writeLayer 6 [.ref 271, .int (nI a)] none nx ct mi ml mr l (wLay a) := by
  unfold WC
  refine rx_enter (by decide) rfl rfl (Nat.le_of_ble_eq_true rfl) ?_
  by_cases a0 : a = 0
  · subst a0
    rw [show wLay 0 = [] from rfl, List.append_nil] at hm3 ⊢
    refine ru_iload_n d_Wr_writeLayer_0 rfl rfl ?_
    refine ru_iconst (v := 1) d_Wr_writeLayer_1 (by decide) ?_
    refine ru_icmp_ne (tgt := 18) d_Wr_writeLayer_2 (by decide) (fun h2 => ?_) (fun h2 => absurd h2 (by decide))
    refine ru_iload_n d_Wr_writeLayer_18 rfl rfl ?_
    refine ru_iconst (v := 2) d_Wr_writeLayer_19 (by decide) ?_
    refine ru_icmp_ne (tgt := 36) d_Wr_writeLayer_20 (by decide) (fun h20 => ?_) (fun h20 => absurd h20 (by decide))
    refine ru_iload_n d_Wr_writeLayer_36 rfl rfl ?_
    refine ru_iconst (v := 3) d_Wr_writeLayer_37 (by decide) ?_
    refine ru_icmp_ne (tgt := 54) d_Wr_writeLayer_38 (by decide) (fun h38 => ?_) (fun h38 => absurd h38 (by decide))
    refine ru_iload_n d_Wr_writeLayer_54 rfl rfl ?_
    refine ru_iconst (v := 3) d_Wr_writeLayer_55 (by decide) ?_
    refine ru_icmp_le (tgt := 75) d_Wr_writeLayer_56 (by decide) (fun h56 => ?_) (fun h56 => absurd h56 (by decide))
    refine ru_vret d_Wr_writeLayer_75 rfl ?_
    exact ⟨rfl, _, _, _, _, _, vb, rfl, frW.refl, hL, h⟩
  · by_cases a1 : a = 1
    · subst a1
      rw [show wLay 1 = rx_tx 32 from rfl] at hm3 ⊢
      refine ru_iload_n d_Wr_writeLayer_0 rfl rfl ?_
      refine ru_iconst (v := 1) d_Wr_writeLayer_1 (by decide) ?_
      refine ru_icmp_ne (tgt := 18) d_Wr_writeLayer_2 (by decide) (fun h2 => absurd h2 (by decide)) (fun h2 => ?_)
      refine ru_aload_n d_Wr_writeLayer_5 rfl rfl ?_
      refine ru_getR d_Wr_writeLayer_6 lf_Wr_12 (ly hL 271 8 0) rfl (lr hL 271 0 272) ?_
      refine ru_ldcS (tx := " on top") (r := 62) d_Wr_writeLayer_9 (List.mem_of_getElem? (i := 32) rfl) ?_
      refine ru_appV d_Wr_writeLayer_11 lm_Wr_52 (w_S (s := 32) hL h (by decide) (by decide) hm3) (rx_recv_is (ly hL 272 10 0) kx_SB) (by decide) rfl (Nat.le_of_ble_eq_true rfl) (Nat.le_refl _) ?_
      intro nx1 ct1 m1 l1 r1 vb1 f1 hL1 s1
      refine ru_pop d_Wr_writeLayer_14 rfl ?_
      refine ru_goto (tgt := 75) d_Wr_writeLayer_15 (by decide) ?_
      refine ru_vret d_Wr_writeLayer_75 rfl ?_
      exact ⟨rfl, _, _, _, _, _, vb1, rfl, f1, hL1, s1⟩
    · by_cases a2 : a = 2
      · subst a2
        rw [show wLay 2 = rx_tx 33 from rfl] at hm3 ⊢
        refine ru_iload_n d_Wr_writeLayer_0 rfl rfl ?_
        refine ru_iconst (v := 1) d_Wr_writeLayer_1 (by decide) ?_
        refine ru_icmp_ne (tgt := 18) d_Wr_writeLayer_2 (by decide) (fun h2 => ?_) (fun h2 => absurd h2 (by decide))
        refine ru_iload_n d_Wr_writeLayer_18 rfl rfl ?_
        refine ru_iconst (v := 2) d_Wr_writeLayer_19 (by decide) ?_
        refine ru_icmp_ne (tgt := 36) d_Wr_writeLayer_20 (by decide) (fun h20 => absurd h20 (by decide)) (fun h20 => ?_)
        refine ru_aload_n d_Wr_writeLayer_23 rfl rfl ?_
        refine ru_getR d_Wr_writeLayer_24 lf_Wr_12 (ly hL 271 8 0) rfl (lr hL 271 0 272) ?_
        refine ru_ldcS (tx := " on bottom") (r := 63) d_Wr_writeLayer_27 (List.mem_of_getElem? (i := 33) rfl) ?_
        refine ru_appV d_Wr_writeLayer_29 lm_Wr_52 (w_S (s := 33) hL h (by decide) (by decide) hm3) (rx_recv_is (ly hL 272 10 0) kx_SB) (by decide) rfl (Nat.le_of_ble_eq_true rfl) (Nat.le_refl _) ?_
        intro nx1 ct1 m1 l1 r1 vb1 f1 hL1 s1
        refine ru_pop d_Wr_writeLayer_32 rfl ?_
        refine ru_goto (tgt := 75) d_Wr_writeLayer_33 (by decide) ?_
        refine ru_vret d_Wr_writeLayer_75 rfl ?_
        exact ⟨rfl, _, _, _, _, _, vb1, rfl, f1, hL1, s1⟩
      · by_cases a3 : a = 3
        · subst a3
          rw [show wLay 3 = rx_tx 34 from rfl] at hm3 ⊢
          refine ru_iload_n d_Wr_writeLayer_0 rfl rfl ?_
          refine ru_iconst (v := 1) d_Wr_writeLayer_1 (by decide) ?_
          refine ru_icmp_ne (tgt := 18) d_Wr_writeLayer_2 (by decide) (fun h2 => ?_) (fun h2 => absurd h2 (by decide))
          refine ru_iload_n d_Wr_writeLayer_18 rfl rfl ?_
          refine ru_iconst (v := 2) d_Wr_writeLayer_19 (by decide) ?_
          refine ru_icmp_ne (tgt := 36) d_Wr_writeLayer_20 (by decide) (fun h20 => ?_) (fun h20 => absurd h20 (by decide))
          refine ru_iload_n d_Wr_writeLayer_36 rfl rfl ?_
          refine ru_iconst (v := 3) d_Wr_writeLayer_37 (by decide) ?_
          refine ru_icmp_ne (tgt := 54) d_Wr_writeLayer_38 (by decide) (fun h38 => absurd h38 (by decide)) (fun h38 => ?_)
          refine ru_aload_n d_Wr_writeLayer_41 rfl rfl ?_
          refine ru_getR d_Wr_writeLayer_42 lf_Wr_12 (ly hL 271 8 0) rfl (lr hL 271 0 272) ?_
          refine ru_ldcS (tx := " on inner") (r := 64) d_Wr_writeLayer_45 (List.mem_of_getElem? (i := 34) rfl) ?_
          refine ru_appV d_Wr_writeLayer_47 lm_Wr_52 (w_S (s := 34) hL h (by decide) (by decide) hm3) (rx_recv_is (ly hL 272 10 0) kx_SB) (by decide) rfl (Nat.le_of_ble_eq_true rfl) (Nat.le_refl _) ?_
          intro nx1 ct1 m1 l1 r1 vb1 f1 hL1 s1
          refine ru_pop d_Wr_writeLayer_50 rfl ?_
          refine ru_goto (tgt := 75) d_Wr_writeLayer_51 (by decide) ?_
          refine ru_vret d_Wr_writeLayer_75 rfl ?_
          exact ⟨rfl, _, _, _, _, _, vb1, rfl, f1, hL1, s1⟩
        · have ew : wLay a = rx_tx 35 ++ dec (a - 3) := by
            unfold wLay
            rw [if_neg a0, if_neg a1, if_neg a2, if_neg a3, tx_on.2.2.2, List.append_assoc, List.append_assoc]
            rfl
          rw [ew, ← List.append_assoc] at hm3 ⊢
          refine ru_iload_n d_Wr_writeLayer_0 rfl rfl ?_
          refine ru_iconst (v := 1) d_Wr_writeLayer_1 (by decide) ?_
          refine ru_icmp_ne (tgt := 18) d_Wr_writeLayer_2 (by decide) (fun h2 => ?_) (fun h2 => ?_)
          · skip
            replace h2 := nm_ne (a := a) (b := 1) (by omega) (by omega) h2
            refine ru_iload_n d_Wr_writeLayer_18 rfl rfl ?_
            refine ru_iconst (v := 2) d_Wr_writeLayer_19 (by decide) ?_
            refine ru_icmp_ne (tgt := 36) d_Wr_writeLayer_20 (by decide) (fun h20 => ?_) (fun h20 => ?_)
            · skip
              replace h20 := nm_ne (a := a) (b := 2) (by omega) (by omega) h20
              refine ru_iload_n d_Wr_writeLayer_36 rfl rfl ?_
              refine ru_iconst (v := 3) d_Wr_writeLayer_37 (by decide) ?_
              refine ru_icmp_ne (tgt := 54) d_Wr_writeLayer_38 (by decide) (fun h38 => ?_) (fun h38 => ?_)
              · skip
                replace h38 := nm_ne (a := a) (b := 3) (by omega) (by omega) h38
                refine ru_iload_n d_Wr_writeLayer_54 rfl rfl ?_
                refine ru_iconst (v := 3) d_Wr_writeLayer_55 (by decide) ?_
                refine ru_icmp_le (tgt := 75) d_Wr_writeLayer_56 (by decide) (fun h56 => absurd (nm_le (a := a) (b := 3) (by omega) (by omega) h56) (by omega)) (fun h56 => ?_)
                replace h56 := nm_nle (a := a) (b := 3) (by omega) (by omega) h56
                refine ru_aload_n d_Wr_writeLayer_59 rfl rfl ?_
                refine ru_getR d_Wr_writeLayer_60 lf_Wr_12 (ly hL 271 8 0) rfl (lr hL 271 0 272) ?_
                refine ru_ldcS (tx := " on layer ") (r := 65) d_Wr_writeLayer_63 (List.mem_of_getElem? (i := 35) rfl) ?_
                refine ru_appV d_Wr_writeLayer_65 lm_Wr_52 (w_S (s := 35) hL h (by decide) (by decide) (Nat.le_trans (cp_mono (len_app _ _)) hm3)) (rx_recv_is (ly hL 272 10 0) kx_SB) (by decide) rfl (Nat.le_of_ble_eq_true rfl) (len_app _ _) ?_
                intro nx1 ct1 m1 l1 r1 vb1 f1 hL1 s1
                refine ru_iload_n d_Wr_writeLayer_68 rfl rfl ?_
                refine ru_iconst (v := 3) d_Wr_writeLayer_69 (by decide) ?_
                refine ru_isub d_Wr_writeLayer_70 ?_
                refine ru_eqi (nm_sub (a := a) (b := 3) (by omega) : _ = nI (a - 3)) ?_
                refine ru_appV d_Wr_writeLayer_71 lm_Wr_138 (w_I hL1 s1 (by omega) (by omega) hm3) (rx_recv_is (ly hL1 272 10 0) kx_SB) (by decide) rfl (Nat.le_of_ble_eq_true rfl) (Nat.le_refl _) ?_
                intro nx2 ct2 m2 l2 r2 vb2 f2 hL2 s2
                refine ru_pop d_Wr_writeLayer_74 rfl ?_
                refine ru_vret d_Wr_writeLayer_75 rfl ?_
                exact ⟨rfl, _, _, _, _, _, vb2, rfl, f1.trans f2, hL2, s2⟩
              · skip
                replace h38 := nm_eq (a := a) (b := 3) (by omega) (by omega) h38
                exfalso; omega
            · skip
              replace h20 := nm_eq (a := a) (b := 2) (by omega) (by omega) h20
              exfalso; omega
          · skip
            replace h2 := nm_eq (a := a) (b := 1) (by omega) (by omega) h2
            exfalso; omega
theorem w_area {a : Option Nat} (hO : NmOK N) (ha : ∀ x, a = some x → x < 16) (hL : LAY nx ct mr) (h : SbI nx ct mi mr vb l (cp c0 l.length)) (hN : NmC N mi) (hm3 : cp c0 (l ++ wAre N a).length ≤ 200000) : WC c0 y_Wr_writeArea M_Wr_writeArea 7 [.ref 271, .int (oR a)] none nx ct mi ml mr l (wAre N a) := by
  unfold WC
  refine rx_enter (by decide) rfl rfl (Nat.le_of_ble_eq_true rfl) ?_
  cases a with
  | none =>
    rw [show wAre N none = [] from rfl, List.append_nil] at hm3 ⊢
    refine ru_iload_n d_Wr_writeArea_0 rfl rfl ?_
    refine ru_iconst (v := (-1)) d_Wr_writeArea_1 (by decide) ?_
    refine ru_icmp_eq (tgt := 24) d_Wr_writeArea_2 (by decide) (fun h2 => ?_) (fun h2 => absurd rfl h2)
    refine ru_vret d_Wr_writeArea_24 rfl ?_
    exact ⟨rfl, _, _, _, _, _, vb, rfl, frW.refl, hL, h⟩
  | some x =>
    have hx := ha x rfl
    rw [show wAre N (some x) = rx_tx 36 ++ 32 :: nameL N (32 + x) from rfl, ← List.append_assoc] at hm3 ⊢
    refine ru_iload_n d_Wr_writeArea_0 rfl rfl ?_
    refine ru_iconst (v := (-1)) d_Wr_writeArea_1 (by decide) ?_
    refine ru_icmp_eq (tgt := 24) d_Wr_writeArea_2 (by decide) (fun h2 => absurd h2 (nI_m1 (by omega))) (fun h2 => ?_)
    refine ru_aload_n d_Wr_writeArea_5 rfl rfl ?_
    refine ru_getR d_Wr_writeArea_6 lf_Wr_12 (ly hL 271 8 0) rfl (lr hL 271 0 272) ?_
    refine ru_ldcS (tx := " in") (r := 66) d_Wr_writeArea_9 (List.mem_of_getElem? (i := 36) rfl) ?_
    refine ru_appV d_Wr_writeArea_11 lm_Wr_52 (w_S (s := 36) hL h (by decide) (by decide) (Nat.le_trans (cp_mono (len_app _ _)) hm3)) (rx_recv_is (ly hL 272 10 0) kx_SB) (by decide) rfl (Nat.le_of_ble_eq_true rfl) (len_app _ _) ?_
    intro nx1 ct1 m1 l1 r1 vb1 f1 hL1 s1
    refine ru_pop d_Wr_writeArea_14 rfl ?_
    refine ru_aload_n d_Wr_writeArea_15 rfl rfl ?_
    refine ru_iconst (v := 2) d_Wr_writeArea_16 (by decide) ?_
    refine ru_iload_n d_Wr_writeArea_17 rfl rfl ?_
    refine ru_mcs (Nat.zero_add _).symm (Nat.zero_add _).symm ?_
    refine ru_callS (mc := _) (ms := _) d_Wr_writeArea_18 lm_Wr_143 (sp_slotOf _ _ _) (by decide) rfl (Nat.le_of_ble_eq_true rfl) ?_
    rintro v τ ⟨rfl, rfl⟩
    refine ru_eqi (show _ = nI (32 + x) by rw [← nI_add]; rfl) ?_
    refine ru_appV d_Wr_writeArea_21 lm_Wr_114 (w_name hO (by omega) hL1 s1 (hN.fr f1) hm3) (rx_recv_is (ly hL1 271 8 0) kx_Wr) (by decide) rfl (Nat.le_of_ble_eq_true rfl) (Nat.le_refl _) ?_
    intro nx2 ct2 m2 l2 r2 vb2 f2 hL2 s2
    refine ru_vret d_Wr_writeArea_24 rfl ?_
    exact ⟨rfl, _, _, _, _, _, vb2, rfl, f1.trans f2, hL2, s2⟩
theorem w_rank {a : Nat} (ha : a ≤ 99) (hL : LAY nx ct mr) (h : SbI nx ct mi mr vb l (cp c0 l.length)) (hm3 : cp c0 (l ++ wRnk a).length ≤ 200000) : WC c0 y_Wr_writeRank M_Wr_writeRank 6 [.ref 271, .int (nI a)] none nx ct mi ml mr l (wRnk a) := by
  unfold WC
  refine rx_enter (by decide) rfl rfl (Nat.le_of_ble_eq_true rfl) ?_
  by_cases a0 : a = 0
  · subst a0
    rw [show wRnk 0 = [] from rfl, List.append_nil] at hm3 ⊢
    refine ru_iload_n d_Wr_writeRank_0 rfl rfl ?_
    refine ru_if_eq (tgt := 18) d_Wr_writeRank_1 (by decide) (fun h1 => ?_) (fun h1 => absurd h1 (by decide))
    refine ru_vret d_Wr_writeRank_18 rfl ?_
    exact ⟨rfl, _, _, _, _, _, vb, rfl, frW.refl, hL, h⟩
  · have ew : wRnk a = rx_tx 37 ++ dec a := by
      unfold wRnk
      rw [if_neg a0, tx_v.2.1, List.append_assoc]
      rfl
    rw [ew, ← List.append_assoc] at hm3 ⊢
    refine ru_iload_n d_Wr_writeRank_0 rfl rfl ?_
    refine ru_if_eq (tgt := 18) d_Wr_writeRank_1 (by decide) (fun h1 => absurd (nm_eq (a := a) (b := 0) (by omega) (by omega) h1) a0) (fun h1 => ?_)
    replace h1 := nm_ne (a := a) (b := 0) (by omega) (by omega) h1
    refine ru_aload_n d_Wr_writeRank_4 rfl rfl ?_
    refine ru_getR d_Wr_writeRank_5 lf_Wr_12 (ly hL 271 8 0) rfl (lr hL 271 0 272) ?_
    refine ru_ldcS (tx := " rank ") (r := 67) d_Wr_writeRank_8 (List.mem_of_getElem? (i := 37) rfl) ?_
    refine ru_appV d_Wr_writeRank_10 lm_Wr_52 (w_S (s := 37) hL h (by decide) (by decide) (Nat.le_trans (cp_mono (len_app _ _)) hm3)) (rx_recv_is (ly hL 272 10 0) kx_SB) (by decide) rfl (Nat.le_of_ble_eq_true rfl) (len_app _ _) ?_
    intro nx1 ct1 m1 l1 r1 vb1 f1 hL1 s1
    refine ru_iload_n d_Wr_writeRank_13 rfl rfl ?_
    refine ru_appV d_Wr_writeRank_14 lm_Wr_138 (w_I hL1 s1 (by omega) (by omega) hm3) (rx_recv_is (ly hL1 272 10 0) kx_SB) (by decide) rfl (Nat.le_of_ble_eq_true rfl) (Nat.le_refl _) ?_
    intro nx2 ct2 m2 l2 r2 vb2 f2 hL2 s2
    refine ru_pop d_Wr_writeRank_17 rfl ?_
    refine ru_vret d_Wr_writeRank_18 rfl ?_
    exact ⟨rfl, _, _, _, _, _, vb2, rfl, f1.trans f2, hL2, s2⟩
theorem w_unit {κ : Nat} (h13 : κ < 13) (hr : isRu r) (hL : LAY nx ct mr) (h : SbI nx ct mi mr vb l (cp c0 l.length)) (hk : mr r 0 = some (1 + κ)) (hm3 : cp c0 (l ++ wUn κ).length ≤ 200000) : rx_W M_Wr_writeSpan 7 (cp c0 (l ++ wUn κ).length - cp c0 l.length) (2 * (cp c0 (l ++ wUn κ).length - cp c0 l.length)) 123 [(0, .ref 271), (1, .ref r)] [] (nx, ct, mi, ml, mr) (pR (sbP none nx ct mi ml mr (l ++ wUn κ) (cp c0 (l ++ wUn κ).length))) := by
  by_cases c : κ = 5 ∨ κ = 9
  · rw [show wUn κ = [] from if_pos c, List.append_nil] at hm3 ⊢
    refine ru_aload_n d_Wr_writeSpan_123 rfl rfl ?_
    refine ru_getR d_Wr_writeSpan_124 lf_Wr_40 (ly_ru hL hr) rfl hk ?_
    refine ru_getO (v := .int (rx_kc κ)) d_Wr_writeSpan_127 (rx_in (tm_6 (List.mem_of_getElem? (i := 184) rfl)) rfl) (fun ev U h => (h.2.1 κ h13).2.2) ?_
    refine ru_eqi (kc_bI h13) ?_
    refine ru_if_ne (tgt := 143) d_Wr_writeSpan_130 (by decide) (fun h130 => ?_) (fun h130 => absurd h130 (bI_ne0.mpr c))
    refine ru_vret d_Wr_writeSpan_143 rfl ?_
    exact ⟨rfl, _, _, _, _, _, vb, rfl, frW.refl, hL, h⟩
  · rw [show wUn κ = rx_tx 41 from if_neg c] at hm3 ⊢
    refine ru_aload_n d_Wr_writeSpan_123 rfl rfl ?_
    refine ru_getR d_Wr_writeSpan_124 lf_Wr_40 (ly_ru hL hr) rfl hk ?_
    refine ru_getO (v := .int (rx_kc κ)) d_Wr_writeSpan_127 (rx_in (tm_6 (List.mem_of_getElem? (i := 184) rfl)) rfl) (fun ev U h => (h.2.1 κ h13).2.2) ?_
    refine ru_eqi (kc_bI h13) ?_
    refine ru_if_ne (tgt := 143) d_Wr_writeSpan_130 (by decide) (fun h130 => absurd (bI_f c) h130) (fun h130 => ?_)
    refine ru_aload_n d_Wr_writeSpan_133 rfl rfl ?_
    refine ru_getR d_Wr_writeSpan_134 lf_Wr_12 (ly hL 271 8 0) rfl (lr hL 271 0 272) ?_
    refine ru_ldcS (tx := " nm") (r := 71) d_Wr_writeSpan_137 (List.mem_of_getElem? (i := 41) rfl) ?_
    refine ru_appV d_Wr_writeSpan_139 lm_Wr_52 (w_S (s := 41) hL h (by decide) (by decide) hm3) (rx_recv_is (ly hL 272 10 0) kx_SB) (by decide) rfl (Nat.le_of_ble_eq_true rfl) (Nat.le_refl _) ?_
    intro nx1 ct1 m1 l1 r1 vb1 f1 hL1 s1
    refine ru_pop d_Wr_writeSpan_142 rfl ?_
    refine ru_vret d_Wr_writeSpan_143 rfl ?_
    exact ⟨rfl, _, _, _, _, _, vb1, rfl, f1, hL1, s1⟩
theorem of_m1 {a : Nat} (h : a ≤ 1000000000000) : ¬ Int64.ofNat a = -1 := fun z => by
  have := (oL_m1 (a := some a) (fun x hx => by cases hx; omega)).mp z
  cases this
theorem w_span {κ : Nat} {e : Option Nat × Option Nat} (he : endsOK e) (h13 : κ < 13) (hr : isRu r) (hL : LAY nx ct mr) (h : SbI nx ct mi mr vb l (cp c0 l.length)) (hk : mr r 0 = some (1 + κ)) (h6 : ml r 6 = oL e.1) (h7 : ml r 7 = oL e.2) (hm3 : cp c0 (l ++ (wEnd e ++ wUn κ)).length ≤ 200000) : WC c0 y_Wr_writeSpan M_Wr_writeSpan 7 [.ref 271, .ref r] none nx ct mi ml mr l (wEnd e ++ wUn κ) := by
  unfold WC
  refine rx_enter (by decide) rfl rfl (Nat.le_of_ble_eq_true rfl) ?_
  have r9 : r < 409 ∧ r ≠ 272 ∧ r ≠ 273 := by unfold isRu at hr; omega
  obtain ⟨e1, e2⟩ := e
  cases e1 with
  | none =>
    cases e2 with
    | none => exact absurd he id
    | some b =>
      have hb : b ≤ 1000000000000 := he
      have nb := of_m1 hb
      rw [show wEnd (none, some b) ++ wUn κ = rx_tx 39 ++ ((32 :: dec b) ++ wUn κ) by rw [tx_v.2.2.2.1, ← List.append_assoc]; rfl, ← List.append_assoc, ← List.append_assoc] at hm3 ⊢
      refine ru_aload_n d_Wr_writeSpan_0 rfl rfl ?_
      refine ru_getL d_Wr_writeSpan_1 lf_Wr_149 (ly_ru hL hr) rfl ?_
      refine ru_eql h7 ?_
      refine ru_ldc2 d_Wr_writeSpan_4 lc_Wr_153 ?_
      refine ru_lcmp d_Wr_writeSpan_7 ?_
      refine ru_if_ne (tgt := 24) d_Wr_writeSpan_8 (by decide) (fun h8 => ?_) (fun h8 => absurd ((lg_cmp_eq _ _).mp h8) nb)
      replace h8 := fun q => h8 ((lg_cmp_eq _ _).mpr q)
      refine ru_aload_n d_Wr_writeSpan_24 rfl rfl ?_
      refine ru_getL d_Wr_writeSpan_25 lf_Wr_157 (ly_ru hL hr) rfl ?_
      refine ru_eql h6 ?_
      refine ru_ldc2 d_Wr_writeSpan_28 lc_Wr_153 ?_
      refine ru_lcmp d_Wr_writeSpan_31 ?_
      refine ru_if_ne (tgt := 45) d_Wr_writeSpan_32 (by decide) (fun h32 => absurd ((lg_cmp_eq _ _).mpr rfl) h32) (fun h32 => ?_)
      replace h32 := (lg_cmp_eq _ _).mp h32
      refine ru_aload_n d_Wr_writeSpan_35 rfl rfl ?_
      refine ru_getR d_Wr_writeSpan_36 lf_Wr_12 (ly hL 271 8 0) rfl (lr hL 271 0 272) ?_
      refine ru_ldcS (tx := " most") (r := 69) d_Wr_writeSpan_39 (List.mem_of_getElem? (i := 39) rfl) ?_
      refine ru_appV d_Wr_writeSpan_41 lm_Wr_52 (w_S (s := 39) hL h (by decide) (by decide) (Nat.le_trans (cp_mono (Nat.le_trans (len_app _ _) (len_app _ _))) hm3)) (rx_recv_is (ly hL 272 10 0) kx_SB) (by decide) rfl (Nat.le_of_ble_eq_true rfl) (Nat.le_trans (len_app _ _) (len_app _ _)) ?_
      intro nx1 ct1 m1 l1 r1 vb1 f1 hL1 s1
      obtain ⟨i1, i2, i3⟩ := (f1.2 r r9.1).2 r9.2.1 r9.2.2
      refine ru_pop d_Wr_writeSpan_44 rfl ?_
      skip
      have g6 : l1 r 6 = -1 := by rw [i2]; exact h6
      have g7 : l1 r 7 = Int64.ofNat b := by rw [i2]; exact h7
      refine ru_aload_n d_Wr_writeSpan_45 rfl rfl ?_
      refine ru_aload_n d_Wr_writeSpan_46 rfl rfl ?_
      refine ru_getL d_Wr_writeSpan_47 lf_Wr_157 (ly_ru hL1 hr) rfl ?_
      refine ru_eql g6 ?_
      refine ru_ldc2 d_Wr_writeSpan_50 lc_Wr_153 ?_
      refine ru_lcmp d_Wr_writeSpan_53 ?_
      refine ru_if_ne (tgt := 64) d_Wr_writeSpan_54 (by decide) (fun h54 => absurd ((lg_cmp_eq _ _).mpr rfl) h54) (fun h54 => ?_)
      replace h54 := (lg_cmp_eq _ _).mp h54
      refine ru_aload_n d_Wr_writeSpan_57 rfl rfl ?_
      refine ru_getL d_Wr_writeSpan_58 lf_Wr_149 (ly_ru hL1 hr) rfl ?_
      refine ru_eql g7 ?_
      refine ru_goto (tgt := 68) d_Wr_writeSpan_61 (by decide) ?_
      refine ru_appV d_Wr_writeSpan_68 lm_Wr_162 (w_num hb hL1 s1 (Nat.le_trans (cp_mono (len_app _ _)) hm3)) (rx_recv_is (ly hL1 271 8 0) kx_Wr) (by decide) rfl (Nat.le_of_ble_eq_true rfl) (len_app _ _) ?_
      intro nx2 ct2 m2 l2 r2 vb2 f2 hL2 s2
      obtain ⟨j1, j2, j3⟩ := (f2.2 r r9.1).2 r9.2.1 r9.2.2
      skip
      have k6 : l2 r 6 = -1 := by rw [j2]; exact g6
      refine ru_aload_n d_Wr_writeSpan_71 rfl rfl ?_
      refine ru_getL d_Wr_writeSpan_72 lf_Wr_157 (ly_ru hL2 hr) rfl ?_
      refine ru_eql k6 ?_
      refine ru_ldc2 d_Wr_writeSpan_75 lc_Wr_153 ?_
      refine ru_lcmp d_Wr_writeSpan_78 ?_
      refine ru_if_eq (tgt := 123) d_Wr_writeSpan_79 (by decide) (fun h79 => ?_) (fun h79 => absurd ((lg_cmp_eq _ _).mpr rfl) h79)
      replace h79 := (lg_cmp_eq _ _).mp h79
      exact ru_to (ru_post (fun v τ z => sbP.of (f1.trans f2) z) (w_unit h13 hr hL2 s2 (by rw [j3, i3]; exact hk) hm3)) ⟨rfl, rfl, trivial⟩
  | some a =>
    cases e2 with
    | none =>
      have ha : a ≤ 1000000000000 := he
      have na := of_m1 ha
      rw [show wEnd (some a, none) ++ wUn κ = rx_tx 38 ++ ((32 :: dec a) ++ wUn κ) by rw [tx_v.2.2.1, ← List.append_assoc]; rfl, ← List.append_assoc, ← List.append_assoc] at hm3 ⊢
      refine ru_aload_n d_Wr_writeSpan_0 rfl rfl ?_
      refine ru_getL d_Wr_writeSpan_1 lf_Wr_149 (ly_ru hL hr) rfl ?_
      refine ru_eql h7 ?_
      refine ru_ldc2 d_Wr_writeSpan_4 lc_Wr_153 ?_
      refine ru_lcmp d_Wr_writeSpan_7 ?_
      refine ru_if_ne (tgt := 24) d_Wr_writeSpan_8 (by decide) (fun h8 => absurd ((lg_cmp_eq _ _).mpr rfl) h8) (fun h8 => ?_)
      replace h8 := (lg_cmp_eq _ _).mp h8
      refine ru_aload_n d_Wr_writeSpan_11 rfl rfl ?_
      refine ru_getR d_Wr_writeSpan_12 lf_Wr_12 (ly hL 271 8 0) rfl (lr hL 271 0 272) ?_
      refine ru_ldcS (tx := " least") (r := 68) d_Wr_writeSpan_15 (List.mem_of_getElem? (i := 38) rfl) ?_
      refine ru_appV d_Wr_writeSpan_17 lm_Wr_52 (w_S (s := 38) hL h (by decide) (by decide) (Nat.le_trans (cp_mono (Nat.le_trans (len_app _ _) (len_app _ _))) hm3)) (rx_recv_is (ly hL 272 10 0) kx_SB) (by decide) rfl (Nat.le_of_ble_eq_true rfl) (Nat.le_trans (len_app _ _) (len_app _ _)) ?_
      intro nx1 ct1 m1 l1 r1 vb1 f1 hL1 s1
      obtain ⟨i1, i2, i3⟩ := (f1.2 r r9.1).2 r9.2.1 r9.2.2
      refine ru_pop d_Wr_writeSpan_20 rfl ?_
      refine ru_goto (tgt := 45) d_Wr_writeSpan_21 (by decide) ?_
      skip
      have g6 : l1 r 6 = Int64.ofNat a := by rw [i2]; exact h6
      have g7 : l1 r 7 = -1 := by rw [i2]; exact h7
      refine ru_aload_n d_Wr_writeSpan_45 rfl rfl ?_
      refine ru_aload_n d_Wr_writeSpan_46 rfl rfl ?_
      refine ru_getL d_Wr_writeSpan_47 lf_Wr_157 (ly_ru hL1 hr) rfl ?_
      refine ru_eql g6 ?_
      refine ru_ldc2 d_Wr_writeSpan_50 lc_Wr_153 ?_
      refine ru_lcmp d_Wr_writeSpan_53 ?_
      refine ru_if_ne (tgt := 64) d_Wr_writeSpan_54 (by decide) (fun h54 => ?_) (fun h54 => absurd ((lg_cmp_eq _ _).mp h54) na)
      replace h54 := fun q => h54 ((lg_cmp_eq _ _).mpr q)
      refine ru_aload_n d_Wr_writeSpan_64 rfl rfl ?_
      refine ru_getL d_Wr_writeSpan_65 lf_Wr_157 (ly_ru hL1 hr) rfl ?_
      refine ru_eql g6 ?_
      refine ru_appV d_Wr_writeSpan_68 lm_Wr_162 (w_num ha hL1 s1 (Nat.le_trans (cp_mono (len_app _ _)) hm3)) (rx_recv_is (ly hL1 271 8 0) kx_Wr) (by decide) rfl (Nat.le_of_ble_eq_true rfl) (len_app _ _) ?_
      intro nx2 ct2 m2 l2 r2 vb2 f2 hL2 s2
      obtain ⟨j1, j2, j3⟩ := (f2.2 r r9.1).2 r9.2.1 r9.2.2
      skip
      have k6 : l2 r 6 = Int64.ofNat a := by rw [j2]; exact g6
      have k7 : l2 r 7 = -1 := by rw [j2]; exact g7
      refine ru_aload_n d_Wr_writeSpan_71 rfl rfl ?_
      refine ru_getL d_Wr_writeSpan_72 lf_Wr_157 (ly_ru hL2 hr) rfl ?_
      refine ru_eql k6 ?_
      refine ru_ldc2 d_Wr_writeSpan_75 lc_Wr_153 ?_
      refine ru_lcmp d_Wr_writeSpan_78 ?_
      refine ru_if_eq (tgt := 123) d_Wr_writeSpan_79 (by decide) (fun h79 => absurd ((lg_cmp_eq _ _).mp h79) na) (fun h79 => ?_)
      replace h79 := fun q => h79 ((lg_cmp_eq _ _).mpr q)
      refine ru_aload_n d_Wr_writeSpan_82 rfl rfl ?_
      refine ru_getL d_Wr_writeSpan_83 lf_Wr_149 (ly_ru hL2 hr) rfl ?_
      refine ru_eql k7 ?_
      refine ru_ldc2 d_Wr_writeSpan_86 lc_Wr_153 ?_
      refine ru_lcmp d_Wr_writeSpan_89 ?_
      refine ru_if_eq (tgt := 123) d_Wr_writeSpan_90 (by decide) (fun h90 => ?_) (fun h90 => absurd ((lg_cmp_eq _ _).mpr rfl) h90)
      replace h90 := (lg_cmp_eq _ _).mp h90
      exact ru_to (ru_post (fun v τ z => sbP.of (f1.trans f2) z) (w_unit h13 hr hL2 s2 (by rw [j3, i3]; exact hk) hm3)) ⟨rfl, rfl, trivial⟩
    | some b =>
      have hab : a ≤ b ∧ b ≤ 1000000000000 := he
      have ha : a ≤ 1000000000000 := by omega
      have na := of_m1 ha
      have nb := of_m1 hab.2
      have ew : l ++ (wEnd (some a, some b) ++ wUn κ) = (l ++ 32 :: dec a) ++ ((if a < b then rx_tx 40 ++ 32 :: dec b else []) ++ wUn κ) := by
        show l ++ (((32 :: dec a) ++ (if a < b then rx_tx 40 ++ 32 :: dec b else [])) ++ wUn κ) = _
        simp only [List.append_assoc]
      rw [ew] at hm3 ⊢
      refine ru_aload_n d_Wr_writeSpan_0 rfl rfl ?_
      refine ru_getL d_Wr_writeSpan_1 lf_Wr_149 (ly_ru hL hr) rfl ?_
      refine ru_eql h7 ?_
      refine ru_ldc2 d_Wr_writeSpan_4 lc_Wr_153 ?_
      refine ru_lcmp d_Wr_writeSpan_7 ?_
      refine ru_if_ne (tgt := 24) d_Wr_writeSpan_8 (by decide) (fun h8 => ?_) (fun h8 => absurd ((lg_cmp_eq _ _).mp h8) nb)
      replace h8 := fun q => h8 ((lg_cmp_eq _ _).mpr q)
      refine ru_aload_n d_Wr_writeSpan_24 rfl rfl ?_
      refine ru_getL d_Wr_writeSpan_25 lf_Wr_157 (ly_ru hL hr) rfl ?_
      refine ru_eql h6 ?_
      refine ru_ldc2 d_Wr_writeSpan_28 lc_Wr_153 ?_
      refine ru_lcmp d_Wr_writeSpan_31 ?_
      refine ru_if_ne (tgt := 45) d_Wr_writeSpan_32 (by decide) (fun h32 => ?_) (fun h32 => absurd ((lg_cmp_eq _ _).mp h32) na)
      replace h32 := fun q => h32 ((lg_cmp_eq _ _).mpr q)
      refine ru_aload_n d_Wr_writeSpan_45 rfl rfl ?_
      refine ru_aload_n d_Wr_writeSpan_46 rfl rfl ?_
      refine ru_getL d_Wr_writeSpan_47 lf_Wr_157 (ly_ru hL hr) rfl ?_
      refine ru_eql h6 ?_
      refine ru_ldc2 d_Wr_writeSpan_50 lc_Wr_153 ?_
      refine ru_lcmp d_Wr_writeSpan_53 ?_
      refine ru_if_ne (tgt := 64) d_Wr_writeSpan_54 (by decide) (fun h54 => ?_) (fun h54 => absurd ((lg_cmp_eq _ _).mp h54) na)
      replace h54 := fun q => h54 ((lg_cmp_eq _ _).mpr q)
      refine ru_aload_n d_Wr_writeSpan_64 rfl rfl ?_
      refine ru_getL d_Wr_writeSpan_65 lf_Wr_157 (ly_ru hL hr) rfl ?_
      refine ru_eql h6 ?_
      refine ru_appV d_Wr_writeSpan_68 lm_Wr_162 (w_num ha hL h (Nat.le_trans (cp_mono (len_app _ _)) hm3)) (rx_recv_is (ly hL 271 8 0) kx_Wr) (by decide) rfl (Nat.le_of_ble_eq_true rfl) (len_app _ _) ?_
      intro nx1 ct1 m1 l1 r1 vb1 f1 hL1 s1
      obtain ⟨i1, i2, i3⟩ := (f1.2 r r9.1).2 r9.2.1 r9.2.2
      skip
      have g6 : l1 r 6 = Int64.ofNat a := by rw [i2]; exact h6
      have g7 : l1 r 7 = Int64.ofNat b := by rw [i2]; exact h7
      by_cases q : a < b
      · have ex : (l ++ 32 :: dec a) ++ ((rx_tx 40 ++ 32 :: dec b) ++ wUn κ) = ((l ++ 32 :: dec a) ++ rx_tx 40 ++ 32 :: dec b) ++ wUn κ := by simp only [List.append_assoc]
        rw [if_pos q, ex] at hm3 ⊢
        refine ru_aload_n d_Wr_writeSpan_71 rfl rfl ?_
        refine ru_getL d_Wr_writeSpan_72 lf_Wr_157 (ly_ru hL1 hr) rfl ?_
        refine ru_eql g6 ?_
        refine ru_ldc2 d_Wr_writeSpan_75 lc_Wr_153 ?_
        refine ru_lcmp d_Wr_writeSpan_78 ?_
        refine ru_if_eq (tgt := 123) d_Wr_writeSpan_79 (by decide) (fun h79 => absurd ((lg_cmp_eq _ _).mp h79) na) (fun h79 => ?_)
        replace h79 := fun q => h79 ((lg_cmp_eq _ _).mpr q)
        refine ru_aload_n d_Wr_writeSpan_82 rfl rfl ?_
        refine ru_getL d_Wr_writeSpan_83 lf_Wr_149 (ly_ru hL1 hr) rfl ?_
        refine ru_eql g7 ?_
        refine ru_ldc2 d_Wr_writeSpan_86 lc_Wr_153 ?_
        refine ru_lcmp d_Wr_writeSpan_89 ?_
        refine ru_if_eq (tgt := 123) d_Wr_writeSpan_90 (by decide) (fun h90 => absurd ((lg_cmp_eq _ _).mp h90) nb) (fun h90 => ?_)
        replace h90 := fun q => h90 ((lg_cmp_eq _ _).mpr q)
        refine ru_aload_n d_Wr_writeSpan_93 rfl rfl ?_
        refine ru_getL d_Wr_writeSpan_94 lf_Wr_157 (ly_ru hL1 hr) rfl ?_
        refine ru_eql g6 ?_
        refine ru_aload_n d_Wr_writeSpan_97 rfl rfl ?_
        refine ru_getL d_Wr_writeSpan_98 lf_Wr_149 (ly_ru hL1 hr) rfl ?_
        refine ru_eql g7 ?_
        refine ru_lcmp d_Wr_writeSpan_101 ?_
        refine ru_if_eq (tgt := 123) d_Wr_writeSpan_102 (by decide) (fun h102 => absurd (nl_eq (a := a) (b := b) (by omega) (by omega) ((lg_cmp_eq _ _).mp h102)) (by omega)) (fun h102 => ?_)
        replace h102 := fun q => h102 ((lg_cmp_eq _ _).mpr q)
        replace h102 := nl_ne (a := a) (b := b) (by omega) (by omega) h102
        refine ru_aload_n d_Wr_writeSpan_105 rfl rfl ?_
        refine ru_getR d_Wr_writeSpan_106 lf_Wr_12 (ly hL1 271 8 0) rfl (lr hL1 271 0 272) ?_
        refine ru_ldcS (tx := " to") (r := 70) d_Wr_writeSpan_109 (List.mem_of_getElem? (i := 40) rfl) ?_
        refine ru_appV d_Wr_writeSpan_111 lm_Wr_52 (w_S (s := 40) hL1 s1 (by decide) (by decide) (Nat.le_trans (cp_mono (Nat.le_trans (len_app _ _) (len_app _ _))) hm3)) (rx_recv_is (ly hL1 272 10 0) kx_SB) (by decide) rfl (Nat.le_of_ble_eq_true rfl) (Nat.le_trans (len_app _ _) (len_app _ _)) ?_
        intro nx2 ct2 m2 l2 r2 vb2 f2 hL2 s2
        obtain ⟨j1, j2, j3⟩ := (f2.2 r r9.1).2 r9.2.1 r9.2.2
        refine ru_pop d_Wr_writeSpan_114 rfl ?_
        skip
        have k7 : l2 r 7 = Int64.ofNat b := by rw [j2]; exact g7
        refine ru_aload_n d_Wr_writeSpan_115 rfl rfl ?_
        refine ru_aload_n d_Wr_writeSpan_116 rfl rfl ?_
        refine ru_getL d_Wr_writeSpan_117 lf_Wr_149 (ly_ru hL2 hr) rfl ?_
        refine ru_eql k7 ?_
        refine ru_appV d_Wr_writeSpan_120 lm_Wr_162 (w_num hab.2 hL2 s2 (Nat.le_trans (cp_mono (len_app _ _)) hm3)) (rx_recv_is (ly hL2 271 8 0) kx_Wr) (by decide) rfl (Nat.le_of_ble_eq_true rfl) (len_app _ _) ?_
        intro nx3 ct3 m3 l3 r3 vb3 f3 hL3 s3
        obtain ⟨k1, k2, k3⟩ := (f3.2 r r9.1).2 r9.2.1 r9.2.2
        exact ru_to (ru_post (fun v τ z => sbP.of ((f1.trans f2).trans f3) z) (w_unit h13 hr hL3 s3 (by rw [k3, j3, i3]; exact hk) hm3)) ⟨rfl, rfl, trivial⟩
      · rw [if_neg q, List.nil_append] at hm3 ⊢
        have eab : a = b := by omega
        subst eab
        refine ru_aload_n d_Wr_writeSpan_71 rfl rfl ?_
        refine ru_getL d_Wr_writeSpan_72 lf_Wr_157 (ly_ru hL1 hr) rfl ?_
        refine ru_eql g6 ?_
        refine ru_ldc2 d_Wr_writeSpan_75 lc_Wr_153 ?_
        refine ru_lcmp d_Wr_writeSpan_78 ?_
        refine ru_if_eq (tgt := 123) d_Wr_writeSpan_79 (by decide) (fun h79 => absurd ((lg_cmp_eq _ _).mp h79) na) (fun h79 => ?_)
        replace h79 := fun q => h79 ((lg_cmp_eq _ _).mpr q)
        refine ru_aload_n d_Wr_writeSpan_82 rfl rfl ?_
        refine ru_getL d_Wr_writeSpan_83 lf_Wr_149 (ly_ru hL1 hr) rfl ?_
        refine ru_eql g7 ?_
        refine ru_ldc2 d_Wr_writeSpan_86 lc_Wr_153 ?_
        refine ru_lcmp d_Wr_writeSpan_89 ?_
        refine ru_if_eq (tgt := 123) d_Wr_writeSpan_90 (by decide) (fun h90 => absurd ((lg_cmp_eq _ _).mp h90) na) (fun h90 => ?_)
        replace h90 := fun q => h90 ((lg_cmp_eq _ _).mpr q)
        refine ru_aload_n d_Wr_writeSpan_93 rfl rfl ?_
        refine ru_getL d_Wr_writeSpan_94 lf_Wr_157 (ly_ru hL1 hr) rfl ?_
        refine ru_eql g6 ?_
        refine ru_aload_n d_Wr_writeSpan_97 rfl rfl ?_
        refine ru_getL d_Wr_writeSpan_98 lf_Wr_149 (ly_ru hL1 hr) rfl ?_
        refine ru_eql g7 ?_
        refine ru_lcmp d_Wr_writeSpan_101 ?_
        refine ru_if_eq (tgt := 123) d_Wr_writeSpan_102 (by decide) (fun h102 => ?_) (fun h102 => absurd ((lg_cmp_eq _ _).mpr rfl) h102)
        replace h102 := (lg_cmp_eq _ _).mp h102
        replace h102 := nl_eq (a := a) (b := a) (by omega) (by omega) h102
        exact ru_to (ru_post (fun v τ z => sbP.of f1 z) (w_unit h13 hr hL1 s1 (by rw [i3]; exact hk) hm3)) ⟨rfl, rfl, trivial⟩
end
