/-! The reference reads values -/
theorem d_Mo_bare_0 : decode M_Mo_bare.2.1 0 = .ok (.aload_n 0, 1) := by decide +kernel
theorem d_Mo_bare_1 : decode M_Mo_bare.2.1 1 = .ok (.invokevirtual 139, 3) := by decide +kernel
theorem d_Mo_bare_4 : decode M_Mo_bare.2.1 4 = .ok (.ifCond .eq 33, 3) := by decide +kernel
theorem d_Mo_bare_7 : decode M_Mo_bare.2.1 7 = .ok (.aload_n 0, 1) := by decide +kernel
theorem d_Mo_bare_8 : decode M_Mo_bare.2.1 8 = .ok (.invokevirtual 75, 3) := by decide +kernel
theorem d_Mo_bare_11 : decode M_Mo_bare.2.1 11 = .ok (.ifCond .eq 26, 3) := by decide +kernel
theorem d_Mo_bare_14 : decode M_Mo_bare.2.1 14 = .ok (.lload_n 1, 1) := by decide +kernel
theorem d_Mo_bare_15 : decode M_Mo_bare.2.1 15 = .ok (.ldc2_w 127, 3) := by decide +kernel
theorem d_Mo_bare_18 : decode M_Mo_bare.2.1 18 = .ok (.lrem, 1) := by decide +kernel
theorem d_Mo_bare_19 : decode M_Mo_bare.2.1 19 = .ok (.lconst 0, 1) := by decide +kernel
theorem d_Mo_bare_20 : decode M_Mo_bare.2.1 20 = .ok (.lcmp, 1) := by decide +kernel
theorem d_Mo_bare_21 : decode M_Mo_bare.2.1 21 = .ok (.ifCond .ne 11, 3) := by decide +kernel
theorem d_Mo_bare_24 : decode M_Mo_bare.2.1 24 = .ok (.lload_n 1, 1) := by decide +kernel
theorem d_Mo_bare_25 : decode M_Mo_bare.2.1 25 = .ok (.ldc2_w 133, 3) := by decide +kernel
theorem d_Mo_bare_28 : decode M_Mo_bare.2.1 28 = .ok (.lcmp, 1) := by decide +kernel
theorem d_Mo_bare_29 : decode M_Mo_bare.2.1 29 = .ok (.ifCond .le 8, 3) := by decide +kernel
theorem d_Mo_bare_32 : decode M_Mo_bare.2.1 32 = .ok (.aload_n 0, 1) := by decide +kernel
theorem d_Mo_bare_33 : decode M_Mo_bare.2.1 33 = .ok (.iload_n 3, 1) := by decide +kernel
theorem d_Mo_bare_34 : decode M_Mo_bare.2.1 34 = .ok (.invokevirtual 87, 3) := by decide +kernel
theorem d_Mo_bare_37 : decode M_Mo_bare.2.1 37 = .ok (.return_, 1) := by decide +kernel
theorem d_Mo_number_0 : decode M_Mo_number.2.1 0 = .ok (.aload_n 0, 1) := by decide +kernel
theorem d_Mo_number_1 : decode M_Mo_number.2.1 1 = .ok (.invokevirtual 75, 3) := by decide +kernel
theorem d_Mo_number_4 : decode M_Mo_number.2.1 4 = .ok (.ifCond .eq 18, 3) := by decide +kernel
theorem d_Mo_number_7 : decode M_Mo_number.2.1 7 = .ok (.aload_n 0, 1) := by decide +kernel
theorem d_Mo_number_8 : decode M_Mo_number.2.1 8 = .ok (.invokevirtual 122, 3) := by decide +kernel
theorem d_Mo_number_11 : decode M_Mo_number.2.1 11 = .ok (.ifCond .ne 11, 3) := by decide +kernel
theorem d_Mo_number_14 : decode M_Mo_number.2.1 14 = .ok (.aload_n 0, 1) := by decide +kernel
theorem d_Mo_number_15 : decode M_Mo_number.2.1 15 = .ok (.aload_n 0, 1) := by decide +kernel
theorem d_Mo_number_16 : decode M_Mo_number.2.1 16 = .ok (.getfield 59, 3) := by decide +kernel
theorem d_Mo_number_19 : decode M_Mo_number.2.1 19 = .ok (.invokevirtual 87, 3) := by decide +kernel
theorem d_Mo_number_22 : decode M_Mo_number.2.1 22 = .ok (.return_, 1) := by decide +kernel
theorem d_Mo_unitOf_0 : decode M_Mo_unitOf.2.1 0 = .ok (.aload_n 0, 1) := by decide +kernel
theorem d_Mo_unitOf_1 : decode M_Mo_unitOf.2.1 1 = .ok (.invokevirtual 79, 3) := by decide +kernel
theorem d_Mo_unitOf_4 : decode M_Mo_unitOf.2.1 4 = .ok (.lstore_n 1, 1) := by decide +kernel
theorem d_Mo_unitOf_5 : decode M_Mo_unitOf.2.1 5 = .ok (.lload_n 1, 1) := by decide +kernel
theorem d_Mo_unitOf_6 : decode M_Mo_unitOf.2.1 6 = .ok (.bipush 14, 2) := by decide +kernel
theorem d_Mo_unitOf_8 : decode M_Mo_unitOf.2.1 8 = .ok (.bipush 13, 2) := by decide +kernel
theorem d_Mo_unitOf_10 : decode M_Mo_unitOf.2.1 10 = .ok (.iconst 0, 1) := by decide +kernel
theorem d_Mo_unitOf_11 : decode M_Mo_unitOf.2.1 11 = .ok (.iconst 0, 1) := by decide +kernel
theorem d_Mo_unitOf_12 : decode M_Mo_unitOf.2.1 12 = .ok (.iconst 0, 1) := by decide +kernel
theorem d_Mo_unitOf_13 : decode M_Mo_unitOf.2.1 13 = .ok (.iconst 0, 1) := by decide +kernel
theorem d_Mo_unitOf_14 : decode M_Mo_unitOf.2.1 14 = .ok (.iconst 0, 1) := by decide +kernel
theorem d_Mo_unitOf_15 : decode M_Mo_unitOf.2.1 15 = .ok (.invokestatic 68, 3) := by decide +kernel
theorem d_Mo_unitOf_18 : decode M_Mo_unitOf.2.1 18 = .ok (.lcmp, 1) := by decide +kernel
theorem d_Mo_unitOf_19 : decode M_Mo_unitOf.2.1 19 = .ok (.ifCond .ne 7, 3) := by decide +kernel
theorem d_Mo_unitOf_22 : decode M_Mo_unitOf.2.1 22 = .ok (.lconst 1, 1) := by decide +kernel
theorem d_Mo_unitOf_23 : decode M_Mo_unitOf.2.1 23 = .ok (.goto 98, 3) := by decide +kernel
theorem d_Mo_unitOf_26 : decode M_Mo_unitOf.2.1 26 = .ok (.lload_n 1, 1) := by decide +kernel
theorem d_Mo_unitOf_27 : decode M_Mo_unitOf.2.1 27 = .ok (.bipush 21, 2) := by decide +kernel
theorem d_Mo_unitOf_29 : decode M_Mo_unitOf.2.1 29 = .ok (.bipush 13, 2) := by decide +kernel
theorem d_Mo_unitOf_31 : decode M_Mo_unitOf.2.1 31 = .ok (.iconst 0, 1) := by decide +kernel
theorem d_Mo_unitOf_32 : decode M_Mo_unitOf.2.1 32 = .ok (.iconst 0, 1) := by decide +kernel
theorem d_Mo_unitOf_33 : decode M_Mo_unitOf.2.1 33 = .ok (.iconst 0, 1) := by decide +kernel
theorem d_Mo_unitOf_34 : decode M_Mo_unitOf.2.1 34 = .ok (.iconst 0, 1) := by decide +kernel
theorem d_Mo_unitOf_35 : decode M_Mo_unitOf.2.1 35 = .ok (.iconst 0, 1) := by decide +kernel
theorem d_Mo_unitOf_36 : decode M_Mo_unitOf.2.1 36 = .ok (.invokestatic 68, 3) := by decide +kernel
theorem d_Mo_unitOf_39 : decode M_Mo_unitOf.2.1 39 = .ok (.lcmp, 1) := by decide +kernel
theorem d_Mo_unitOf_40 : decode M_Mo_unitOf.2.1 40 = .ok (.ifCond .ne 9, 3) := by decide +kernel
theorem d_Mo_unitOf_43 : decode M_Mo_unitOf.2.1 43 = .ok (.ldc2_w 125, 3) := by decide +kernel
theorem d_Mo_unitOf_46 : decode M_Mo_unitOf.2.1 46 = .ok (.goto 75, 3) := by decide +kernel
theorem d_Mo_unitOf_49 : decode M_Mo_unitOf.2.1 49 = .ok (.lload_n 1, 1) := by decide +kernel
theorem d_Mo_unitOf_50 : decode M_Mo_unitOf.2.1 50 = .ok (.bipush 13, 2) := by decide +kernel
theorem d_Mo_unitOf_52 : decode M_Mo_unitOf.2.1 52 = .ok (.bipush 13, 2) := by decide +kernel
theorem d_Mo_unitOf_54 : decode M_Mo_unitOf.2.1 54 = .ok (.iconst 0, 1) := by decide +kernel
theorem d_Mo_unitOf_55 : decode M_Mo_unitOf.2.1 55 = .ok (.iconst 0, 1) := by decide +kernel
theorem d_Mo_unitOf_56 : decode M_Mo_unitOf.2.1 56 = .ok (.iconst 0, 1) := by decide +kernel
theorem d_Mo_unitOf_57 : decode M_Mo_unitOf.2.1 57 = .ok (.iconst 0, 1) := by decide +kernel
theorem d_Mo_unitOf_58 : decode M_Mo_unitOf.2.1 58 = .ok (.iconst 0, 1) := by decide +kernel
theorem d_Mo_unitOf_59 : decode M_Mo_unitOf.2.1 59 = .ok (.invokestatic 68, 3) := by decide +kernel
theorem d_Mo_unitOf_62 : decode M_Mo_unitOf.2.1 62 = .ok (.lcmp, 1) := by decide +kernel
theorem d_Mo_unitOf_63 : decode M_Mo_unitOf.2.1 63 = .ok (.ifCond .ne 9, 3) := by decide +kernel
theorem d_Mo_unitOf_66 : decode M_Mo_unitOf.2.1 66 = .ok (.ldc2_w 127, 3) := by decide +kernel
theorem d_Mo_unitOf_69 : decode M_Mo_unitOf.2.1 69 = .ok (.goto 52, 3) := by decide +kernel
theorem d_Mo_unitOf_72 : decode M_Mo_unitOf.2.1 72 = .ok (.lload_n 1, 1) := by decide +kernel
theorem d_Mo_unitOf_73 : decode M_Mo_unitOf.2.1 73 = .ok (.bipush 13, 2) := by decide +kernel
theorem d_Mo_unitOf_75 : decode M_Mo_unitOf.2.1 75 = .ok (.bipush 9, 2) := by decide +kernel
theorem d_Mo_unitOf_77 : decode M_Mo_unitOf.2.1 77 = .ok (.bipush 12, 2) := by decide +kernel
theorem d_Mo_unitOf_79 : decode M_Mo_unitOf.2.1 79 = .ok (.iconst 0, 1) := by decide +kernel
theorem d_Mo_unitOf_80 : decode M_Mo_unitOf.2.1 80 = .ok (.iconst 0, 1) := by decide +kernel
theorem d_Mo_unitOf_81 : decode M_Mo_unitOf.2.1 81 = .ok (.iconst 0, 1) := by decide +kernel
theorem d_Mo_unitOf_82 : decode M_Mo_unitOf.2.1 82 = .ok (.iconst 0, 1) := by decide +kernel
theorem d_Mo_unitOf_83 : decode M_Mo_unitOf.2.1 83 = .ok (.invokestatic 68, 3) := by decide +kernel
theorem d_Mo_unitOf_86 : decode M_Mo_unitOf.2.1 86 = .ok (.lcmp, 1) := by decide +kernel
theorem d_Mo_unitOf_87 : decode M_Mo_unitOf.2.1 87 = .ok (.ifCond .ne 9, 3) := by decide +kernel
theorem d_Mo_unitOf_90 : decode M_Mo_unitOf.2.1 90 = .ok (.ldc2_w 129, 3) := by decide +kernel
theorem d_Mo_unitOf_93 : decode M_Mo_unitOf.2.1 93 = .ok (.goto 28, 3) := by decide +kernel
theorem d_Mo_unitOf_96 : decode M_Mo_unitOf.2.1 96 = .ok (.lload_n 1, 1) := by decide +kernel
theorem d_Mo_unitOf_97 : decode M_Mo_unitOf.2.1 97 = .ok (.bipush 9, 2) := by decide +kernel
theorem d_Mo_unitOf_99 : decode M_Mo_unitOf.2.1 99 = .ok (.bipush 14, 2) := by decide +kernel
theorem d_Mo_unitOf_101 : decode M_Mo_unitOf.2.1 101 = .ok (.iconst 3, 1) := by decide +kernel
theorem d_Mo_unitOf_102 : decode M_Mo_unitOf.2.1 102 = .ok (.bipush 8, 2) := by decide +kernel
theorem d_Mo_unitOf_104 : decode M_Mo_unitOf.2.1 104 = .ok (.iconst 0, 1) := by decide +kernel
theorem d_Mo_unitOf_105 : decode M_Mo_unitOf.2.1 105 = .ok (.iconst 0, 1) := by decide +kernel
theorem d_Mo_unitOf_106 : decode M_Mo_unitOf.2.1 106 = .ok (.iconst 0, 1) := by decide +kernel
theorem d_Mo_unitOf_107 : decode M_Mo_unitOf.2.1 107 = .ok (.invokestatic 68, 3) := by decide +kernel
theorem d_Mo_unitOf_110 : decode M_Mo_unitOf.2.1 110 = .ok (.lcmp, 1) := by decide +kernel
theorem d_Mo_unitOf_111 : decode M_Mo_unitOf.2.1 111 = .ok (.ifCond .ne 9, 3) := by decide +kernel
theorem d_Mo_unitOf_114 : decode M_Mo_unitOf.2.1 114 = .ok (.ldc2_w 131, 3) := by decide +kernel
theorem d_Mo_unitOf_117 : decode M_Mo_unitOf.2.1 117 = .ok (.goto 4, 3) := by decide +kernel
theorem d_Mo_unitOf_120 : decode M_Mo_unitOf.2.1 120 = .ok (.lconst 0, 1) := by decide +kernel
theorem d_Mo_unitOf_121 : decode M_Mo_unitOf.2.1 121 = .ok (.lstore_n 3, 1) := by decide +kernel
theorem d_Mo_unitOf_122 : decode M_Mo_unitOf.2.1 122 = .ok (.aload_n 0, 1) := by decide +kernel
theorem d_Mo_unitOf_123 : decode M_Mo_unitOf.2.1 123 = .ok (.invokevirtual 75, 3) := by decide +kernel
theorem d_Mo_unitOf_126 : decode M_Mo_unitOf.2.1 126 = .ok (.ifCond .eq 17, 3) := by decide +kernel
theorem d_Mo_unitOf_129 : decode M_Mo_unitOf.2.1 129 = .ok (.lload_n 3, 1) := by decide +kernel
theorem d_Mo_unitOf_130 : decode M_Mo_unitOf.2.1 130 = .ok (.lconst 0, 1) := by decide +kernel
theorem d_Mo_unitOf_131 : decode M_Mo_unitOf.2.1 131 = .ok (.lcmp, 1) := by decide +kernel
theorem d_Mo_unitOf_132 : decode M_Mo_unitOf.2.1 132 = .ok (.ifCond .ne 11, 3) := by decide +kernel
theorem d_Mo_unitOf_135 : decode M_Mo_unitOf.2.1 135 = .ok (.aload_n 0, 1) := by decide +kernel
theorem d_Mo_unitOf_136 : decode M_Mo_unitOf.2.1 136 = .ok (.aload_n 0, 1) := by decide +kernel
theorem d_Mo_unitOf_137 : decode M_Mo_unitOf.2.1 137 = .ok (.getfield 59, 3) := by decide +kernel
theorem d_Mo_unitOf_140 : decode M_Mo_unitOf.2.1 140 = .ok (.invokevirtual 87, 3) := by decide +kernel
theorem d_Mo_unitOf_143 : decode M_Mo_unitOf.2.1 143 = .ok (.aload_n 0, 1) := by decide +kernel
theorem d_Mo_unitOf_144 : decode M_Mo_unitOf.2.1 144 = .ok (.dup, 1) := by decide +kernel
theorem d_Mo_unitOf_145 : decode M_Mo_unitOf.2.1 145 = .ok (.getfield 59, 3) := by decide +kernel
theorem d_Mo_unitOf_148 : decode M_Mo_unitOf.2.1 148 = .ok (.iconst 1, 1) := by decide +kernel
theorem d_Mo_unitOf_149 : decode M_Mo_unitOf.2.1 149 = .ok (.iadd, 1) := by decide +kernel
theorem d_Mo_unitOf_150 : decode M_Mo_unitOf.2.1 150 = .ok (.putfield 59, 3) := by decide +kernel
theorem d_Mo_unitOf_153 : decode M_Mo_unitOf.2.1 153 = .ok (.lload_n 3, 1) := by decide +kernel
theorem d_Mo_unitOf_154 : decode M_Mo_unitOf.2.1 154 = .ok (.lreturn, 1) := by decide +kernel
theorem d_Mo_whole_0 : decode M_Mo_whole.2.1 0 = .ok (.lload_n 1, 1) := by decide +kernel
theorem d_Mo_whole_1 : decode M_Mo_whole.2.1 1 = .ok (.ldc2_w 127, 3) := by decide +kernel
theorem d_Mo_whole_4 : decode M_Mo_whole.2.1 4 = .ok (.ldiv, 1) := by decide +kernel
theorem d_Mo_whole_5 : decode M_Mo_whole.2.1 5 = .ok (.lstore 6, 2) := by decide +kernel
theorem d_Mo_whole_7 : decode M_Mo_whole.2.1 7 = .ok (.lload_n 1, 1) := by decide +kernel
theorem d_Mo_whole_8 : decode M_Mo_whole.2.1 8 = .ok (.ldc2_w 127, 3) := by decide +kernel
theorem d_Mo_whole_11 : decode M_Mo_whole.2.1 11 = .ok (.lrem, 1) := by decide +kernel
theorem d_Mo_whole_12 : decode M_Mo_whole.2.1 12 = .ok (.lload_n 3, 1) := by decide +kernel
theorem d_Mo_whole_13 : decode M_Mo_whole.2.1 13 = .ok (.lmul, 1) := by decide +kernel
theorem d_Mo_whole_14 : decode M_Mo_whole.2.1 14 = .ok (.lstore 8, 2) := by decide +kernel
theorem d_Mo_whole_16 : decode M_Mo_whole.2.1 16 = .ok (.lload 6, 2) := by decide +kernel
theorem d_Mo_whole_18 : decode M_Mo_whole.2.1 18 = .ok (.ldc2_w 133, 3) := by decide +kernel
theorem d_Mo_whole_21 : decode M_Mo_whole.2.1 21 = .ok (.lload_n 3, 1) := by decide +kernel
theorem d_Mo_whole_22 : decode M_Mo_whole.2.1 22 = .ok (.ldiv, 1) := by decide +kernel
theorem d_Mo_whole_23 : decode M_Mo_whole.2.1 23 = .ok (.lcmp, 1) := by decide +kernel
theorem d_Mo_whole_24 : decode M_Mo_whole.2.1 24 = .ok (.ifCond .gt 18, 3) := by decide +kernel
theorem d_Mo_whole_27 : decode M_Mo_whole.2.1 27 = .ok (.lload 8, 2) := by decide +kernel
theorem d_Mo_whole_29 : decode M_Mo_whole.2.1 29 = .ok (.ldc2_w 127, 3) := by decide +kernel
theorem d_Mo_whole_32 : decode M_Mo_whole.2.1 32 = .ok (.lrem, 1) := by decide +kernel
theorem d_Mo_whole_33 : decode M_Mo_whole.2.1 33 = .ok (.lconst 0, 1) := by decide +kernel
theorem d_Mo_whole_34 : decode M_Mo_whole.2.1 34 = .ok (.lcmp, 1) := by decide +kernel
theorem d_Mo_whole_35 : decode M_Mo_whole.2.1 35 = .ok (.ifCond .ne 7, 3) := by decide +kernel
theorem d_Mo_whole_38 : decode M_Mo_whole.2.1 38 = .ok (.iconst 1, 1) := by decide +kernel
theorem d_Mo_whole_39 : decode M_Mo_whole.2.1 39 = .ok (.goto 4, 3) := by decide +kernel
theorem d_Mo_whole_42 : decode M_Mo_whole.2.1 42 = .ok (.iconst 0, 1) := by decide +kernel
theorem d_Mo_whole_43 : decode M_Mo_whole.2.1 43 = .ok (.istore 10, 2) := by decide +kernel
theorem d_Mo_whole_45 : decode M_Mo_whole.2.1 45 = .ok (.iload 10, 2) := by decide +kernel
theorem d_Mo_whole_47 : decode M_Mo_whole.2.1 47 = .ok (.ifCond .eq 17, 3) := by decide +kernel
theorem d_Mo_whole_50 : decode M_Mo_whole.2.1 50 = .ok (.lload 6, 2) := by decide +kernel
theorem d_Mo_whole_52 : decode M_Mo_whole.2.1 52 = .ok (.lload_n 3, 1) := by decide +kernel
theorem d_Mo_whole_53 : decode M_Mo_whole.2.1 53 = .ok (.lmul, 1) := by decide +kernel
theorem d_Mo_whole_54 : decode M_Mo_whole.2.1 54 = .ok (.lload 8, 2) := by decide +kernel
theorem d_Mo_whole_56 : decode M_Mo_whole.2.1 56 = .ok (.ldc2_w 127, 3) := by decide +kernel
theorem d_Mo_whole_59 : decode M_Mo_whole.2.1 59 = .ok (.ldiv, 1) := by decide +kernel
theorem d_Mo_whole_60 : decode M_Mo_whole.2.1 60 = .ok (.ladd, 1) := by decide +kernel
theorem d_Mo_whole_61 : decode M_Mo_whole.2.1 61 = .ok (.goto 4, 3) := by decide +kernel
theorem d_Mo_whole_64 : decode M_Mo_whole.2.1 64 = .ok (.lconst 0, 1) := by decide +kernel
theorem d_Mo_whole_65 : decode M_Mo_whole.2.1 65 = .ok (.lstore 11, 2) := by decide +kernel
theorem d_Mo_whole_67 : decode M_Mo_whole.2.1 67 = .ok (.iload 10, 2) := by decide +kernel
theorem d_Mo_whole_69 : decode M_Mo_whole.2.1 69 = .ok (.ifCond .eq 12, 3) := by decide +kernel
theorem d_Mo_whole_72 : decode M_Mo_whole.2.1 72 = .ok (.lload 11, 2) := by decide +kernel
theorem d_Mo_whole_74 : decode M_Mo_whole.2.1 74 = .ok (.ldc2_w 133, 3) := by decide +kernel
theorem d_Mo_whole_77 : decode M_Mo_whole.2.1 77 = .ok (.lcmp, 1) := by decide +kernel
theorem d_Mo_whole_78 : decode M_Mo_whole.2.1 78 = .ok (.ifCond .le 9, 3) := by decide +kernel
theorem d_Mo_whole_81 : decode M_Mo_whole.2.1 81 = .ok (.aload_n 0, 1) := by decide +kernel
theorem d_Mo_whole_82 : decode M_Mo_whole.2.1 82 = .ok (.iload 5, 2) := by decide +kernel
theorem d_Mo_whole_84 : decode M_Mo_whole.2.1 84 = .ok (.invokevirtual 87, 3) := by decide +kernel
theorem d_Mo_whole_87 : decode M_Mo_whole.2.1 87 = .ok (.lload 11, 2) := by decide +kernel
theorem d_Mo_whole_89 : decode M_Mo_whole.2.1 89 = .ok (.lreturn, 1) := by decide +kernel
theorem amt_lt {n : Nat} {t : Nat → Int32} {j : Nat} {A : Nat × Nat} (h : amt n t j = some A) : A.1 < 1000000000 ∧ A.2 < 1000000 := by
  unfold amt at h
  dsimp only at h
  have hle := tk_le (n := n) (t := t) j
  generalize (tk n t j).1 = b at h hle
  generalize (tk n t j).2 = e at h hle
  have hp := de_le e t (e - b) b (by omega)
  have hdg := de_dig (e := e) (t := t) (e - b) b rfl (by omega)
  generalize de e t (e - b) b = p at h hp hdg
  have hW : ¬ (p - b < 1 ∨ 9 < p - b) → dvF t (p - b) b 0 < 1000000000 := fun hq => by
    have h1 := dvF_acc (t := t) (p - b) b 0 (fun i hi => hdg (b + i) (by omega) (by omega))
    have h2 : (10 : Nat) ^ (p - b) ≤ 10 ^ 9 := Nat.pow_le_pow_right (by decide) (by omega)
    omega
  by_cases h1 : p - b < 1 ∨ 9 < p - b
  · rw [if_pos h1] at h; cases h
  · rw [if_neg h1] at h
    have hW := hW h1
    by_cases h2 : p = e
    · rw [if_pos h2] at h
      cases h
      exact ⟨hW, by show 0 < 1000000; decide⟩
    · rw [if_neg h2] at h
      split at h
      · next h3 =>
        cases h
        refine ⟨hW, ?_⟩
        show _ * _ < _
        have hdg2 := de_dig (e := e) (t := t) (e - (p + 1)) (p + 1) rfl (by omega)
        rw [h3.2.1] at hdg2
        have h4 := dvF_acc (t := t) (e - (p + 1)) (p + 1) 0 (fun i hi => hdg2 (p + 1 + i) (by omega) (by omega))
        rw [Nat.zero_add, Nat.one_mul] at h4
        have h5 : dvF t (e - (p + 1)) (p + 1) 0 * 10 ^ (6 - (e - (p + 1))) < 10 ^ (e - (p + 1)) * 10 ^ (6 - (e - (p + 1))) := Nat.mul_lt_mul_of_pos_right h4 (Nat.pow_pos (by decide))
        rw [← Nat.pow_add, show e - (p + 1) + (6 - (e - (p + 1))) = 6 by omega, e_mil] at h5
        exact h5
      · cases h
theorem pNum_lt {n : Nat} {t : Nat → Int32} {c : Prop} {j : Nat} {A : Nat × Nat} (h : pNum n t c j = some A) : (A.1 < 1000000000 ∧ A.2 < 1000000) ∧ (c → A.2 = 0 ∧ A.1 ≤ 1000000) := by
  unfold pNum at h
  cases e : amt n t j with
  | none => rw [e] at h; cases h
  | some B =>
    rw [e] at h
    dsimp only at h
    by_cases hc : c ∧ cvt B 1 1000000 = none
    · rw [cnd_t hc] at h; cases h
    · rw [cnd_f hc] at h
      cases h
      have hb := amt_lt e
      refine ⟨hb, fun z => ?_⟩
      have : ¬ cvt A 1 1000000 = none := fun q => hc ⟨z, q⟩
      unfold cvt at this
      split at this
      · next q => omega
      · exact absurd rfl this
section
variable {nx : Nat} {ct : Nat → Nat × Nat} {m0 : Nat → Nat → Int32} {ml : Nat → Nat → Int64} {mr : Nat → Nat → Option Nat} {n m : Nat} {t : Nat → Int32}
theorem sq_tookNumber0 {w g : Int32} (hL : LAY nx ct mr) (hg : ¬ g = -1) : rx_Calls y_Mo_tookNumber M_Mo_tookNumber 1 0 0 [.ref 398] (nx, ct, mS m0 w g, ml, mr) (fun v τ => v = some (.int 0) ∧ τ = (nx, ct, mS m0 w g, ml, mr)) := by
  refine rx_enter (by decide) rfl rfl (Nat.le_of_ble_eq_true rfl) ?_
  refine ru_aload_n d_Mo_tookNumber_0 rfl rfl ?_
  refine ru_callV (mc := 0) (ms := 0) d_Mo_tookNumber_1 lm_Mo_75 (sq_good hL) (rx_recv_is (ly hL 398 9 0) kx_Mo) (by decide) rfl (Nat.le_of_ble_eq_true rfl) ?_
  intro v τ h
  obtain ⟨rfl, rfl⟩ := h
  refine ru_if_eq (tgt := 18) d_Mo_tookNumber_4 (by decide) (fun h4 => ?_) (fun h4 => absurd (bI_f hg) h4)
  refine ru_iconst (v := 0) d_Mo_tookNumber_18 (by decide) ?_
  refine ru_zret (ty := .boolean) d_Mo_tookNumber_19 rfl rfl ?_
  exact ⟨rfl, rfl⟩
def nuP (n : Nat) (t : Nat → Int32) (j : Nat) (nx : Nat) (ct : Nat → Nat × Nat) (m0 : Nat → Nat → Int32) (ml : Nat → Nat → Int64) (mr : Nat → Nat → Option Nat) : Option Value → rx_S → Prop := fun v τ => v = none ∧ match amt n t j with
  | some A => τ = (nx, ct, mS m0 (nI (j + 1)) (-1), rx_u ml 398 17 (Int64.ofNat (A.1 * 1000000 + A.2)), mr)
  | none => τ = (nx, ct, mS m0 (nI j) (nI j), ml, mr)
theorem sq_number {j : Nat} (hL : LAY nx ct mr) (h : PMs n m t m0) (hj : j < 4000) : rx_Calls y_Mo_number M_Mo_number 2 0 0 [.ref 398] (nx, ct, mS m0 (nI j) (-1), ml, mr) (nuP n t j nx ct m0 ml mr) := by
  refine rx_enter (by decide) rfl rfl (Nat.le_of_ble_eq_true rfl) ?_
  have hT := sq_tookNumber (ml := ml) hL h hj
  unfold nuP
  unfold tnP at hT
  cases e : amt n t j with
  | some A =>
    rw [e] at hT
    refine ru_aload_n d_Mo_number_0 rfl rfl ?_
    refine ru_callV (mc := 0) (ms := 0) d_Mo_number_1 lm_Mo_75 (sq_good hL) (rx_recv_is (ly hL 398 9 0) kx_Mo) (by decide) rfl (Nat.le_of_ble_eq_true rfl) ?_
    intro v τ h
    obtain ⟨rfl, rfl⟩ := h
    refine ru_if_eq (tgt := 22) d_Mo_number_4 (by decide) (fun h4 => absurd h4 (bI_ne0.mpr rfl)) (fun h4 => ?_)
    refine ru_aload_n d_Mo_number_7 rfl rfl ?_
    refine ru_callV (mc := 0) (ms := 0) d_Mo_number_8 lm_Mo_122 hT (rx_recv_is (ly hL 398 9 0) kx_Mo) (by decide) rfl (Nat.le_of_ble_eq_true rfl) ?_
    rintro v τ ⟨rfl, rfl⟩
    refine ru_if_ne (tgt := 22) d_Mo_number_11 (by decide) (fun h11 => ?_) (fun h11 => absurd h11 (by decide))
    refine ru_vret d_Mo_number_22 rfl ?_
    exact ⟨rfl, rfl⟩
  | none =>
    rw [e] at hT
    refine ru_aload_n d_Mo_number_0 rfl rfl ?_
    refine ru_callV (mc := 0) (ms := 0) d_Mo_number_1 lm_Mo_75 (sq_good hL) (rx_recv_is (ly hL 398 9 0) kx_Mo) (by decide) rfl (Nat.le_of_ble_eq_true rfl) ?_
    intro v τ h
    obtain ⟨rfl, rfl⟩ := h
    refine ru_if_eq (tgt := 22) d_Mo_number_4 (by decide) (fun h4 => absurd h4 (bI_ne0.mpr rfl)) (fun h4 => ?_)
    refine ru_aload_n d_Mo_number_7 rfl rfl ?_
    refine ru_callV (mc := 0) (ms := 0) d_Mo_number_8 lm_Mo_122 hT (rx_recv_is (ly hL 398 9 0) kx_Mo) (by decide) rfl (Nat.le_of_ble_eq_true rfl) ?_
    rintro v τ ⟨rfl, rfl⟩
    refine ru_if_ne (tgt := 22) d_Mo_number_11 (by decide) (fun h11 => absurd h11 (by decide)) (fun h11 => ?_)
    refine ru_aload_n d_Mo_number_14 rfl rfl ?_
    refine ru_aload_n d_Mo_number_15 rfl rfl ?_
    refine ru_getI d_Mo_number_16 lf_Mo_59 (ly hL 398 9 0) rfl ?_
    refine ru_eqi mS_w ?_
    refine ru_callV (mc := 0) (ms := 0) d_Mo_number_19 lm_Mo_87 (sq_fail hL _) (rx_recv_is (ly hL 398 9 0) kx_Mo) (by decide) rfl (Nat.le_of_ble_eq_true rfl) ?_
    intro v τ h
    obtain ⟨rfl, rfl⟩ := h
    refine ru_vret d_Mo_number_22 rfl ?_
    exact ⟨rfl, rfl⟩
theorem sq_number0 {w g : Int32} (hL : LAY nx ct mr) (hg : ¬ g = -1) : rx_Calls y_Mo_number M_Mo_number 2 0 0 [.ref 398] (nx, ct, mS m0 w g, ml, mr) (fun v τ => v = none ∧ τ = (nx, ct, mS m0 w g, ml, mr)) := by
  refine rx_enter (by decide) rfl rfl (Nat.le_of_ble_eq_true rfl) ?_
  refine ru_aload_n d_Mo_number_0 rfl rfl ?_
  refine ru_callV (mc := 0) (ms := 0) d_Mo_number_1 lm_Mo_75 (sq_good hL) (rx_recv_is (ly hL 398 9 0) kx_Mo) (by decide) rfl (Nat.le_of_ble_eq_true rfl) ?_
  intro v τ h
  obtain ⟨rfl, rfl⟩ := h
  refine ru_if_eq (tgt := 22) d_Mo_number_4 (by decide) (fun h4 => ?_) (fun h4 => absurd (bI_f hg) h4)
  refine ru_vret d_Mo_number_22 rfl ?_
  exact ⟨rfl, rfl⟩
theorem sq_isBare {w g : Int32} {A κ : Nat} (hL : LAY nx ct mr) (hA : m0 398 14 = nI A) (hA2 : A + 12 ≤ 1440) (hk : ml 404 A = Int64.ofNat κ) (hk2 : κ < 13) : rx_Calls y_Mo_isBare M_Mo_isBare 0 0 0 [.ref 398] (nx, ct, mS m0 w g, ml, mr) (fun v τ => v = some (.int (bI (κ = 5 ∨ κ = 9))) ∧ τ = (nx, ct, mS m0 w g, ml, mr)) := by
  refine rx_enter (by decide) rfl rfl (Nat.le_of_ble_eq_true rfl) ?_
  have hA' : mS m0 w g 398 14 = nI A := by rw [mS_k]; exact hA
  refine ru_aload_n d_Mo_isBare_0 rfl rfl ?_
  refine ru_getR d_Mo_isBare_1 lf_Mo_27 (ly hL 398 9 0) rfl (lr hL 398 8 404) ?_
  refine ru_aload_n d_Mo_isBare_4 rfl rfl ?_
  refine ru_getI d_Mo_isBare_5 lf_Mo_101 (ly hL 398 9 0) rfl ?_
  refine ru_eqi hA' ?_
  refine ru_laldN (j := A) d_Mo_isBare_8 (ly hL 404 104 1440) (by omega) (by decide) ?_
  refine ru_eql hk ?_
  refine ru_ldc2 d_Mo_isBare_9 lc_Mo_135 ?_
  refine ru_lcmp d_Mo_isBare_12 ?_
  refine ru_if_eq (tgt := 32) d_Mo_isBare_13 (by decide) (fun h13 => ?_) (fun h13 => ?_)
  · skip
    replace h13 := (lg_cmp_eq _ _).mp h13
    replace h13 := nl_eq (a := κ) (b := 5) (by omega) (by omega) h13
    refine ru_iconst (v := 1) d_Mo_isBare_32 (by decide) ?_
    refine ru_goto (tgt := 37) d_Mo_isBare_33 (by decide) ?_
    refine ru_zret (ty := .boolean) d_Mo_isBare_37 rfl rfl ?_
    first | (rw [bI_t (by omega)]; exact ⟨rfl, rfl⟩) | (rw [bI_f (by omega)]; exact ⟨rfl, rfl⟩)
  · skip
    replace h13 := fun q => h13 ((lg_cmp_eq _ _).mpr q)
    replace h13 := nl_ne (a := κ) (b := 5) (by omega) (by omega) h13
    refine ru_aload_n d_Mo_isBare_16 rfl rfl ?_
    refine ru_getR d_Mo_isBare_17 lf_Mo_27 (ly hL 398 9 0) rfl (lr hL 398 8 404) ?_
    refine ru_aload_n d_Mo_isBare_20 rfl rfl ?_
    refine ru_getI d_Mo_isBare_21 lf_Mo_101 (ly hL 398 9 0) rfl ?_
    refine ru_eqi hA' ?_
    refine ru_laldN (j := A) d_Mo_isBare_24 (ly hL 404 104 1440) (by omega) (by decide) ?_
    refine ru_eql hk ?_
    refine ru_ldc2 d_Mo_isBare_25 lc_Mo_137 ?_
    refine ru_lcmp d_Mo_isBare_28 ?_
    refine ru_if_ne (tgt := 36) d_Mo_isBare_29 (by decide) (fun h29 => ?_) (fun h29 => ?_)
    · skip
      replace h29 := fun q => h29 ((lg_cmp_eq _ _).mpr q)
      replace h29 := nl_ne (a := κ) (b := 9) (by omega) (by omega) h29
      refine ru_iconst (v := 0) d_Mo_isBare_36 (by decide) ?_
      refine ru_zret (ty := .boolean) d_Mo_isBare_37 rfl rfl ?_
      first | (rw [bI_t (by omega)]; exact ⟨rfl, rfl⟩) | (rw [bI_f (by omega)]; exact ⟨rfl, rfl⟩)
    · skip
      replace h29 := (lg_cmp_eq _ _).mp h29
      replace h29 := nl_eq (a := κ) (b := 9) (by omega) (by omega) h29
      refine ru_iconst (v := 1) d_Mo_isBare_32 (by decide) ?_
      refine ru_goto (tgt := 37) d_Mo_isBare_33 (by decide) ?_
      refine ru_zret (ty := .boolean) d_Mo_isBare_37 rfl rfl ?_
      first | (rw [bI_t (by omega)]; exact ⟨rfl, rfl⟩) | (rw [bI_f (by omega)]; exact ⟨rfl, rfl⟩)
theorem sq_bare {w k : Int32} {A κ x : Nat} (hL : LAY nx ct mr) (hA : m0 398 14 = nI A) (hA2 : A + 12 ≤ 1440) (hk : ml 404 A = Int64.ofNat κ) (hk2 : κ < 13) (hx : x < 10000000000000000) : rx_Calls y_Mo_bare M_Mo_bare 1 0 0 [.ref 398, .long (Int64.ofNat x), .int k] (nx, ct, mS m0 w (-1), ml, mr) (fun v τ => v = none ∧ τ = (nx, ct, mS m0 w (cnd ((κ = 5 ∨ κ = 9) ∧ (¬ x % 1000000 = 0 ∨ 1000000000000 < x)) k (-1)), ml, mr)) := by
  refine rx_enter (by decide) rfl rfl (Nat.le_of_ble_eq_true rfl) ?_
  refine ru_aload_n d_Mo_bare_0 rfl rfl ?_
  refine ru_callV (mc := 0) (ms := 0) d_Mo_bare_1 lm_Mo_139 (sq_isBare hL hA hA2 hk hk2) (rx_recv_is (ly hL 398 9 0) kx_Mo) (by decide) rfl (Nat.le_of_ble_eq_true rfl) ?_
  intro v τ h
  obtain ⟨rfl, rfl⟩ := h
  refine ru_if_eq (tgt := 37) d_Mo_bare_4 (by decide) (fun h4 => ?_) (fun h4 => ?_)
  · skip
    replace h4 := bI_eq0.mp h4
    refine ru_vret d_Mo_bare_37 rfl ?_
    first | (rw [cnd_f (by omega)]; exact ⟨rfl, rfl⟩) | (rw [cnd_t (by omega)]; exact ⟨rfl, rfl⟩)
  · skip
    replace h4 := bI_ne0.mp h4
    refine ru_aload_n d_Mo_bare_7 rfl rfl ?_
    refine ru_callV (mc := 0) (ms := 0) d_Mo_bare_8 lm_Mo_75 (sq_good hL) (rx_recv_is (ly hL 398 9 0) kx_Mo) (by decide) rfl (Nat.le_of_ble_eq_true rfl) ?_
    intro v τ h
    obtain ⟨rfl, rfl⟩ := h
    refine ru_if_eq (tgt := 37) d_Mo_bare_11 (by decide) (fun h11 => absurd h11 (bI_ne0.mpr rfl)) (fun h11 => ?_)
    refine ru_lload_n d_Mo_bare_14 rfl rfl ?_
    refine ru_ldc2 d_Mo_bare_15 lc_Mo_127 ?_
    refine ru_lrem d_Mo_bare_18 (by decide) ?_
    refine ru_eql (nl_rem (a := x) (b := 1000000) (by omega) (by omega) (by omega) : _ = Int64.ofNat (x % 1000000)) ?_
    refine ru_lconst (v := 0) d_Mo_bare_19 (by decide) ?_
    refine ru_lcmp d_Mo_bare_20 ?_
    refine ru_if_ne (tgt := 32) d_Mo_bare_21 (by decide) (fun h21 => ?_) (fun h21 => ?_)
    · skip
      replace h21 := fun q => h21 ((lg_cmp_eq _ _).mpr q)
      replace h21 := nl_ne (a := (x % 1000000)) (b := 0) (by omega) (by omega) h21
      refine ru_aload_n d_Mo_bare_32 rfl rfl ?_
      refine ru_iload_n d_Mo_bare_33 rfl rfl ?_
      refine ru_callV (mc := 0) (ms := 0) d_Mo_bare_34 lm_Mo_87 (sq_fail hL _) (rx_recv_is (ly hL 398 9 0) kx_Mo) (by decide) rfl (Nat.le_of_ble_eq_true rfl) ?_
      intro v τ h
      obtain ⟨rfl, rfl⟩ := h
      refine ru_vret d_Mo_bare_37 rfl ?_
      first | (rw [cnd_f (by omega)]; exact ⟨rfl, rfl⟩) | (rw [cnd_t (by omega)]; exact ⟨rfl, rfl⟩)
    · skip
      replace h21 := (lg_cmp_eq _ _).mp h21
      replace h21 := nl_eq (a := (x % 1000000)) (b := 0) (by omega) (by omega) h21
      refine ru_lload_n d_Mo_bare_24 rfl rfl ?_
      refine ru_ldc2 d_Mo_bare_25 lc_Mo_133 ?_
      refine ru_lcmp d_Mo_bare_28 ?_
      refine ru_if_le (tgt := 37) d_Mo_bare_29 (by decide) (fun h29 => ?_) (fun h29 => ?_)
      · skip
        replace h29 := (lg_cmp_le _ _).mp h29
        replace h29 := nl_le (a := x) (b := 1000000000000) (by omega) (by omega) h29
        refine ru_vret d_Mo_bare_37 rfl ?_
        first | (rw [cnd_f (by omega)]; exact ⟨rfl, rfl⟩) | (rw [cnd_t (by omega)]; exact ⟨rfl, rfl⟩)
      · skip
        replace h29 := fun q => h29 ((lg_cmp_le _ _).mpr q)
        replace h29 := nl_nle (a := x) (b := 1000000000000) (by omega) (by omega) h29
        refine ru_aload_n d_Mo_bare_32 rfl rfl ?_
        refine ru_iload_n d_Mo_bare_33 rfl rfl ?_
        refine ru_callV (mc := 0) (ms := 0) d_Mo_bare_34 lm_Mo_87 (sq_fail hL _) (rx_recv_is (ly hL 398 9 0) kx_Mo) (by decide) rfl (Nat.le_of_ble_eq_true rfl) ?_
        intro v τ h
        obtain ⟨rfl, rfl⟩ := h
        refine ru_vret d_Mo_bare_37 rfl ?_
        first | (rw [cnd_f (by omega)]; exact ⟨rfl, rfl⟩) | (rw [cnd_t (by omega)]; exact ⟨rfl, rfl⟩)
theorem sq_bare0 {w g k : Int32} {x : Int64} {A κ : Nat} (hL : LAY nx ct mr) (hA : m0 398 14 = nI A) (hA2 : A + 12 ≤ 1440) (hk : ml 404 A = Int64.ofNat κ) (hk2 : κ < 13) (hg : ¬ g = -1) : rx_Calls y_Mo_bare M_Mo_bare 1 0 0 [.ref 398, .long x, .int k] (nx, ct, mS m0 w g, ml, mr) (fun v τ => v = none ∧ τ = (nx, ct, mS m0 w g, ml, mr)) := by
  refine rx_enter (by decide) rfl rfl (Nat.le_of_ble_eq_true rfl) ?_
  refine ru_aload_n d_Mo_bare_0 rfl rfl ?_
  refine ru_callV (mc := 0) (ms := 0) d_Mo_bare_1 lm_Mo_139 (sq_isBare hL hA hA2 hk hk2) (rx_recv_is (ly hL 398 9 0) kx_Mo) (by decide) rfl (Nat.le_of_ble_eq_true rfl) ?_
  intro v τ h
  obtain ⟨rfl, rfl⟩ := h
  refine ru_if_eq (tgt := 37) d_Mo_bare_4 (by decide) (fun h4 => ?_) (fun h4 => ?_)
  · skip
    replace h4 := bI_eq0.mp h4
    refine ru_vret d_Mo_bare_37 rfl ?_
    exact ⟨rfl, rfl⟩
  · skip
    replace h4 := bI_ne0.mp h4
    refine ru_aload_n d_Mo_bare_7 rfl rfl ?_
    refine ru_callV (mc := 0) (ms := 0) d_Mo_bare_8 lm_Mo_75 (sq_good hL) (rx_recv_is (ly hL 398 9 0) kx_Mo) (by decide) rfl (Nat.le_of_ble_eq_true rfl) ?_
    intro v τ h
    obtain ⟨rfl, rfl⟩ := h
    refine ru_if_eq (tgt := 37) d_Mo_bare_11 (by decide) (fun h11 => ?_) (fun h11 => absurd (bI_f hg) h11)
    refine ru_vret d_Mo_bare_37 rfl ?_
    exact ⟨rfl, rfl⟩
theorem unt_eq {j : Nat} : unt n t j = cnd (isW n t j 56) (some 0) (cnd (isW n t j 57) (some 1) (cnd (isW n t j 58) (some 2) (cnd (isW n t j 59) (some 3) (cnd (isW n t j 60) (some 4) none)))) := by
  unfold unt
  simp only [nthF, if_pos]
  rfl
theorem wv_56 : wOK 56 (wordV 14 13 0 0 0 0 0) := by unfold wOK; decide
theorem wv_57 : wOK 57 (wordV 21 13 0 0 0 0 0) := by unfold wOK; decide
theorem wv_58 : wOK 58 (wordV 13 13 0 0 0 0 0) := by unfold wOK; decide
theorem wv_59 : wOK 59 (wordV 13 9 12 0 0 0 0) := by unfold wOK; decide
theorem wv_60 : wOK 60 (wordV 9 14 3 8 0 0 0) := by unfold wOK; decide
def uoP (n : Nat) (t : Nat → Int32) (j : Nat) (nx : Nat) (ct : Nat → Nat × Nat) (m0 : Nat → Nat → Int32) (ml : Nat → Nat → Int64) (mr : Nat → Nat → Option Nat) : Option Value → rx_S → Prop := fun v τ => match unt n t j with
  | some u => v = some (.long (Int64.ofNat (unN u))) ∧ τ = (nx, ct, mS m0 (nI (j + 1)) (-1), ml, mr)
  | none => v = some (.long 0) ∧ τ = (nx, ct, mS m0 (nI (j + 1)) (nI j), ml, mr)
theorem sq_unitOf {j : Nat} (hL : LAY nx ct mr) (h : PMs n m t m0) (hj : j < 4000) : rx_Calls y_Mo_unitOf M_Mo_unitOf 2 0 0 [.ref 398] (nx, ct, mS m0 (nI j) (-1), ml, mr) (uoP n t j nx ct m0 ml mr) := by
  refine rx_enter (by decide) rfl rfl (Nat.le_of_ble_eq_true rfl) ?_
  unfold uoP
  have fin : ∀ o : Option Nat, (∀ u, o = some u → u < 5) → unt n t j = o → rx_W M_Mo_unitOf 2 0 0 122 [(0, .ref 398), (3, .long (Int64.ofNat (match o with | some u => unN u | none => 0)))] [] (nx, ct, mS m0 (nI j) (-1), ml, mr) (pR (fun v τ => match unt n t j with
      | some u => v = some (.long (Int64.ofNat (unN u))) ∧ τ = (nx, ct, mS m0 (nI (j + 1)) (-1), ml, mr)
      | none => v = some (.long 0) ∧ τ = (nx, ct, mS m0 (nI (j + 1)) (nI j), ml, mr))) := by
    intro o ho e
    rw [e]
    have hu : ∀ u, u < 5 → 0 < unN u ∧ unN u ≤ 25400000 := by decide
    cases o with
    | none =>
      refine ru_aload_n d_Mo_unitOf_122 rfl rfl ?_
      refine ru_callV (mc := 0) (ms := 0) d_Mo_unitOf_123 lm_Mo_75 (sq_good hL) (rx_recv_is (ly hL 398 9 0) kx_Mo) (by decide) rfl (Nat.le_of_ble_eq_true rfl) ?_
      intro v τ h
      obtain ⟨rfl, rfl⟩ := h
      refine ru_if_eq (tgt := 143) d_Mo_unitOf_126 (by decide) (fun h126 => absurd h126 (bI_ne0.mpr rfl)) (fun h126 => ?_)
      refine ru_lload_n d_Mo_unitOf_129 rfl rfl ?_
      refine ru_lconst (v := 0) d_Mo_unitOf_130 (by decide) ?_
      refine ru_lcmp d_Mo_unitOf_131 ?_
      refine ru_if_ne (tgt := 143) d_Mo_unitOf_132 (by decide) (fun h132 => absurd h132 (by decide)) (fun h132 => ?_)
      refine ru_aload_n d_Mo_unitOf_135 rfl rfl ?_
      refine ru_aload_n d_Mo_unitOf_136 rfl rfl ?_
      refine ru_getI d_Mo_unitOf_137 lf_Mo_59 (ly hL 398 9 0) rfl ?_
      refine ru_eqi mS_w ?_
      refine ru_callV (mc := 0) (ms := 0) d_Mo_unitOf_140 lm_Mo_87 (sq_fail hL _) (rx_recv_is (ly hL 398 9 0) kx_Mo) (by decide) rfl (Nat.le_of_ble_eq_true rfl) ?_
      intro v τ h
      obtain ⟨rfl, rfl⟩ := h
      refine ru_aload_n d_Mo_unitOf_143 rfl rfl ?_
      refine ru_dup d_Mo_unitOf_144 rfl ?_
      refine ru_getI d_Mo_unitOf_145 lf_Mo_59 (ly hL 398 9 0) rfl ?_
      refine ru_eqi mS_w ?_
      refine ru_iconst (v := 1) d_Mo_unitOf_148 (by decide) ?_
      refine ru_iadd d_Mo_unitOf_149 ?_
      refine ru_eqi (nm_add j 1 : _ = nI (j + 1)) ?_
      refine ru_putI d_Mo_unitOf_150 lf_Mo_59 (ly hL 398 9 0) rfl (fun q hq => by cases hq; exact Or.inl rfl) ⟨rfl, rfl⟩ ?_
      refine ru_lload_n d_Mo_unitOf_153 rfl rfl ?_
      refine ru_lret d_Mo_unitOf_154 rfl ?_
      rw [mS_sw]
      exact ⟨rfl, rfl⟩
    | some u =>
      have hu1 := hu u (ho u rfl)
      dsimp only
      generalize unN u = x at hu1
      refine ru_aload_n d_Mo_unitOf_122 rfl rfl ?_
      refine ru_callV (mc := 0) (ms := 0) d_Mo_unitOf_123 lm_Mo_75 (sq_good hL) (rx_recv_is (ly hL 398 9 0) kx_Mo) (by decide) rfl (Nat.le_of_ble_eq_true rfl) ?_
      intro v τ h
      obtain ⟨rfl, rfl⟩ := h
      refine ru_if_eq (tgt := 143) d_Mo_unitOf_126 (by decide) (fun h126 => absurd h126 (bI_ne0.mpr rfl)) (fun h126 => ?_)
      refine ru_lload_n d_Mo_unitOf_129 rfl rfl ?_
      refine ru_lconst (v := 0) d_Mo_unitOf_130 (by decide) ?_
      refine ru_lcmp d_Mo_unitOf_131 ?_
      refine ru_if_ne (tgt := 143) d_Mo_unitOf_132 (by decide) (fun h132 => ?_) (fun h132 => ?_)
      · skip
        replace h132 := fun q => h132 ((lg_cmp_eq _ _).mpr q)
        replace h132 := nl_ne (a := x) (b := 0) (by omega) (by omega) h132
        refine ru_aload_n d_Mo_unitOf_143 rfl rfl ?_
        refine ru_dup d_Mo_unitOf_144 rfl ?_
        refine ru_getI d_Mo_unitOf_145 lf_Mo_59 (ly hL 398 9 0) rfl ?_
        refine ru_eqi mS_w ?_
        refine ru_iconst (v := 1) d_Mo_unitOf_148 (by decide) ?_
        refine ru_iadd d_Mo_unitOf_149 ?_
        refine ru_eqi (nm_add j 1 : _ = nI (j + 1)) ?_
        refine ru_putI d_Mo_unitOf_150 lf_Mo_59 (ly hL 398 9 0) rfl (fun q hq => by cases hq; exact Or.inl rfl) ⟨rfl, rfl⟩ ?_
        refine ru_lload_n d_Mo_unitOf_153 rfl rfl ?_
        refine ru_lret d_Mo_unitOf_154 rfl ?_
        rw [mS_sw]
        exact ⟨rfl, rfl⟩
      · skip
        replace h132 := (lg_cmp_eq _ _).mp h132
        replace h132 := nl_eq (a := x) (b := 0) (by omega) (by omega) h132
        exfalso; omega
  have eu := unt_eq (n := n) (t := t) (j := j)
  refine ru_aload_n d_Mo_unitOf_0 rfl rfl ?_
  refine ru_callV (mc := 0) (ms := 0) d_Mo_unitOf_1 lm_Mo_79 (sp_Mo_spelt hL (h.mS _ _) mS_w hj) (rx_recv_is (ly hL 398 9 0) kx_Mo) (by decide) rfl (Nat.le_of_ble_eq_true rfl) ?_
  intro v τ h
  obtain ⟨rfl, rfl⟩ := h
  refine ru_lstore_n d_Mo_unitOf_4 rfl (by decide) ?_
  refine ru_lload_n d_Mo_unitOf_5 rfl rfl ?_
  refine ru_bipush (v := 14) d_Mo_unitOf_6 (by decide) ?_
  refine ru_bipush (v := 13) d_Mo_unitOf_8 (by decide) ?_
  refine ru_iconst (v := 0) d_Mo_unitOf_10 (by decide) ?_
  refine ru_iconst (v := 0) d_Mo_unitOf_11 (by decide) ?_
  refine ru_iconst (v := 0) d_Mo_unitOf_12 (by decide) ?_
  refine ru_iconst (v := 0) d_Mo_unitOf_13 (by decide) ?_
  refine ru_iconst (v := 0) d_Mo_unitOf_14 (by decide) ?_
  refine ru_callS (mc := 0) (ms := 0) d_Mo_unitOf_15 lm_Mo_68 (sp_Mo_word 14 13 0 0 0 0 0 _) (by decide) rfl (Nat.le_of_ble_eq_true rfl) ?_
  intro v τ h
  obtain ⟨rfl, rfl⟩ := h
  refine ru_lcmp d_Mo_unitOf_18 ?_
  refine ru_if_ne (tgt := 26) d_Mo_unitOf_19 (by decide) (fun h19 => ?_) (fun h19 => ?_)
  · skip
    replace h19 := fun q => h19 ((lg_cmp_eq _ _).mpr q)
    rw [cnd_f (fun z => h19 (wv_56.iff.mpr z))] at eu
    refine ru_lload_n d_Mo_unitOf_26 rfl rfl ?_
    refine ru_bipush (v := 21) d_Mo_unitOf_27 (by decide) ?_
    refine ru_bipush (v := 13) d_Mo_unitOf_29 (by decide) ?_
    refine ru_iconst (v := 0) d_Mo_unitOf_31 (by decide) ?_
    refine ru_iconst (v := 0) d_Mo_unitOf_32 (by decide) ?_
    refine ru_iconst (v := 0) d_Mo_unitOf_33 (by decide) ?_
    refine ru_iconst (v := 0) d_Mo_unitOf_34 (by decide) ?_
    refine ru_iconst (v := 0) d_Mo_unitOf_35 (by decide) ?_
    refine ru_callS (mc := 0) (ms := 0) d_Mo_unitOf_36 lm_Mo_68 (sp_Mo_word 21 13 0 0 0 0 0 _) (by decide) rfl (Nat.le_of_ble_eq_true rfl) ?_
    intro v τ h
    obtain ⟨rfl, rfl⟩ := h
    refine ru_lcmp d_Mo_unitOf_39 ?_
    refine ru_if_ne (tgt := 49) d_Mo_unitOf_40 (by decide) (fun h40 => ?_) (fun h40 => ?_)
    · skip
      replace h40 := fun q => h40 ((lg_cmp_eq _ _).mpr q)
      rw [cnd_f (fun z => h40 (wv_57.iff.mpr z))] at eu
      refine ru_lload_n d_Mo_unitOf_49 rfl rfl ?_
      refine ru_bipush (v := 13) d_Mo_unitOf_50 (by decide) ?_
      refine ru_bipush (v := 13) d_Mo_unitOf_52 (by decide) ?_
      refine ru_iconst (v := 0) d_Mo_unitOf_54 (by decide) ?_
      refine ru_iconst (v := 0) d_Mo_unitOf_55 (by decide) ?_
      refine ru_iconst (v := 0) d_Mo_unitOf_56 (by decide) ?_
      refine ru_iconst (v := 0) d_Mo_unitOf_57 (by decide) ?_
      refine ru_iconst (v := 0) d_Mo_unitOf_58 (by decide) ?_
      refine ru_callS (mc := 0) (ms := 0) d_Mo_unitOf_59 lm_Mo_68 (sp_Mo_word 13 13 0 0 0 0 0 _) (by decide) rfl (Nat.le_of_ble_eq_true rfl) ?_
      intro v τ h
      obtain ⟨rfl, rfl⟩ := h
      refine ru_lcmp d_Mo_unitOf_62 ?_
      refine ru_if_ne (tgt := 72) d_Mo_unitOf_63 (by decide) (fun h63 => ?_) (fun h63 => ?_)
      · skip
        replace h63 := fun q => h63 ((lg_cmp_eq _ _).mpr q)
        rw [cnd_f (fun z => h63 (wv_58.iff.mpr z))] at eu
        refine ru_lload_n d_Mo_unitOf_72 rfl rfl ?_
        refine ru_bipush (v := 13) d_Mo_unitOf_73 (by decide) ?_
        refine ru_bipush (v := 9) d_Mo_unitOf_75 (by decide) ?_
        refine ru_bipush (v := 12) d_Mo_unitOf_77 (by decide) ?_
        refine ru_iconst (v := 0) d_Mo_unitOf_79 (by decide) ?_
        refine ru_iconst (v := 0) d_Mo_unitOf_80 (by decide) ?_
        refine ru_iconst (v := 0) d_Mo_unitOf_81 (by decide) ?_
        refine ru_iconst (v := 0) d_Mo_unitOf_82 (by decide) ?_
        refine ru_callS (mc := 0) (ms := 0) d_Mo_unitOf_83 lm_Mo_68 (sp_Mo_word 13 9 12 0 0 0 0 _) (by decide) rfl (Nat.le_of_ble_eq_true rfl) ?_
        intro v τ h
        obtain ⟨rfl, rfl⟩ := h
        refine ru_lcmp d_Mo_unitOf_86 ?_
        refine ru_if_ne (tgt := 96) d_Mo_unitOf_87 (by decide) (fun h87 => ?_) (fun h87 => ?_)
        · skip
          replace h87 := fun q => h87 ((lg_cmp_eq _ _).mpr q)
          rw [cnd_f (fun z => h87 (wv_59.iff.mpr z))] at eu
          refine ru_lload_n d_Mo_unitOf_96 rfl rfl ?_
          refine ru_bipush (v := 9) d_Mo_unitOf_97 (by decide) ?_
          refine ru_bipush (v := 14) d_Mo_unitOf_99 (by decide) ?_
          refine ru_iconst (v := 3) d_Mo_unitOf_101 (by decide) ?_
          refine ru_bipush (v := 8) d_Mo_unitOf_102 (by decide) ?_
          refine ru_iconst (v := 0) d_Mo_unitOf_104 (by decide) ?_
          refine ru_iconst (v := 0) d_Mo_unitOf_105 (by decide) ?_
          refine ru_iconst (v := 0) d_Mo_unitOf_106 (by decide) ?_
          refine ru_callS (mc := 0) (ms := 0) d_Mo_unitOf_107 lm_Mo_68 (sp_Mo_word 9 14 3 8 0 0 0 _) (by decide) rfl (Nat.le_of_ble_eq_true rfl) ?_
          intro v τ h
          obtain ⟨rfl, rfl⟩ := h
          refine ru_lcmp d_Mo_unitOf_110 ?_
          refine ru_if_ne (tgt := 120) d_Mo_unitOf_111 (by decide) (fun h111 => ?_) (fun h111 => ?_)
          · skip
            replace h111 := fun q => h111 ((lg_cmp_eq _ _).mpr q)
            rw [cnd_f (fun z => h111 (wv_60.iff.mpr z))] at eu
            refine ru_lconst (v := 0) d_Mo_unitOf_120 (by decide) ?_
            refine ru_lstore_n d_Mo_unitOf_121 rfl (by decide) ?_
            exact ru_to (fin _ (by intro u hu; cases hu <;> decide) eu) ⟨rfl, rfl, trivial⟩
          · skip
            replace h111 := (lg_cmp_eq _ _).mp h111
            rw [cnd_t (wv_60.iff.mp h111)] at eu
            refine ru_ldc2 d_Mo_unitOf_114 lc_Mo_131 ?_
            refine ru_goto (tgt := 121) d_Mo_unitOf_117 (by decide) ?_
            refine ru_lstore_n d_Mo_unitOf_121 rfl (by decide) ?_
            exact ru_to (fin _ (by intro u hu; cases hu <;> decide) eu) ⟨rfl, rfl, trivial⟩
        · skip
          replace h87 := (lg_cmp_eq _ _).mp h87
          rw [cnd_t (wv_59.iff.mp h87)] at eu
          refine ru_ldc2 d_Mo_unitOf_90 lc_Mo_129 ?_
          refine ru_goto (tgt := 121) d_Mo_unitOf_93 (by decide) ?_
          refine ru_lstore_n d_Mo_unitOf_121 rfl (by decide) ?_
          exact ru_to (fin _ (by intro u hu; cases hu <;> decide) eu) ⟨rfl, rfl, trivial⟩
      · skip
        replace h63 := (lg_cmp_eq _ _).mp h63
        rw [cnd_t (wv_58.iff.mp h63)] at eu
        refine ru_ldc2 d_Mo_unitOf_66 lc_Mo_127 ?_
        refine ru_goto (tgt := 121) d_Mo_unitOf_69 (by decide) ?_
        refine ru_lstore_n d_Mo_unitOf_121 rfl (by decide) ?_
        exact ru_to (fin _ (by intro u hu; cases hu <;> decide) eu) ⟨rfl, rfl, trivial⟩
    · skip
      replace h40 := (lg_cmp_eq _ _).mp h40
      rw [cnd_t (wv_57.iff.mp h40)] at eu
      refine ru_ldc2 d_Mo_unitOf_43 lc_Mo_125 ?_
      refine ru_goto (tgt := 121) d_Mo_unitOf_46 (by decide) ?_
      refine ru_lstore_n d_Mo_unitOf_121 rfl (by decide) ?_
      exact ru_to (fin _ (by intro u hu; cases hu <;> decide) eu) ⟨rfl, rfl, trivial⟩
  · skip
    replace h19 := (lg_cmp_eq _ _).mp h19
    rw [cnd_t (wv_56.iff.mp h19)] at eu
    refine ru_lconst (v := 1) d_Mo_unitOf_22 (by decide) ?_
    refine ru_goto (tgt := 121) d_Mo_unitOf_23 (by decide) ?_
    refine ru_lstore_n d_Mo_unitOf_121 rfl (by decide) ?_
    exact ru_to (fin _ (by intro u hu; cases hu <;> decide) eu) ⟨rfl, rfl, trivial⟩
def whP (A : Nat × Nat) (u : Nat) (w k : Int32) (nx : Nat) (ct : Nat → Nat × Nat) (m0 : Nat → Nat → Int32) (ml : Nat → Nat → Int64) (mr : Nat → Nat → Option Nat) : Option Value → rx_S → Prop := fun v τ => match cvt A u 1000000000000 with
  | some r => v = some (.long (Int64.ofNat r)) ∧ τ = (nx, ct, mS m0 w (-1), ml, mr)
  | none => (∃ x : Int64, v = some (.long x)) ∧ τ = (nx, ct, mS m0 w k, ml, mr)
theorem sq_whole {w k : Int32} {A : Nat × Nat} {u : Nat} (hL : LAY nx ct mr) (hA : A.1 < 1000000000 ∧ A.2 < 1000000) (hu : 0 < u ∧ u ≤ 25400000) : rx_Calls y_Mo_whole M_Mo_whole 1 0 0 [.ref 398, .long (Int64.ofNat (A.1 * 1000000 + A.2)), .long (Int64.ofNat u), .int k] (nx, ct, mS m0 w (-1), ml, mr) (whP A u w k nx ct m0 ml mr) := by
  refine rx_enter (by decide) rfl rfl (Nat.le_of_ble_eq_true rfl) ?_
  obtain ⟨a, b⟩ := A
  dsimp only at hA
  have b1 : a * u ≤ 1000000000 * 25400000 := Nat.mul_le_mul (by omega) hu.2
  have b2 : b * u ≤ 1000000 * 25400000 := Nat.mul_le_mul (by omega) hu.2
  have b3 : 1000000000000 / u ≤ 1000000000000 := Nat.div_le_self _ _
  have hle : a ≤ 1000000000000 / u ↔ a * u ≤ 1000000000000 := Nat.le_div_iff_mul_le hu.1
  have e1 : (a * 1000000 + b) / 1000000 = a := by omega
  have e2 : (a * 1000000 + b) % 1000000 = b := by omega
  have yes : b * u % 1000000 = 0 → a * u + b * u / 1000000 ≤ 1000000000000 → cvt (a, b) u 1000000000000 = some (a * u + b * u / 1000000) := fun h1 h2 => if_pos ⟨h1, h2⟩
  have no : ¬ (b * u % 1000000 = 0 ∧ a * u + b * u / 1000000 ≤ 1000000000000) → cvt (a, b) u 1000000000000 = none := fun h1 => if_neg h1
  unfold whP
  refine ru_lload_n d_Mo_whole_0 rfl rfl ?_
  refine ru_ldc2 d_Mo_whole_1 lc_Mo_127 ?_
  refine ru_ldiv d_Mo_whole_4 (by decide) ?_
  refine ru_eql (nl_div (a := (a*1000000+b)) (b := 1000000) (by omega) (by omega) (by omega) : _ = Int64.ofNat ((a*1000000+b) / 1000000)) ?_
  refine ru_eql (congrArg Int64.ofNat e1) ?_
  refine ru_lstore d_Mo_whole_5 (by decide) ?_
  refine ru_lload_n d_Mo_whole_7 rfl rfl ?_
  refine ru_ldc2 d_Mo_whole_8 lc_Mo_127 ?_
  refine ru_lrem d_Mo_whole_11 (by decide) ?_
  refine ru_eql (nl_rem (a := (a*1000000+b)) (b := 1000000) (by omega) (by omega) (by omega) : _ = Int64.ofNat ((a*1000000+b) % 1000000)) ?_
  refine ru_eql (congrArg Int64.ofNat e2) ?_
  refine ru_lload_n d_Mo_whole_12 rfl rfl ?_
  refine ru_lmul d_Mo_whole_13 ?_
  refine ru_eql (nl_mul b u : _ = Int64.ofNat (b * u)) ?_
  refine ru_lstore d_Mo_whole_14 (by decide) ?_
  refine ru_lload d_Mo_whole_16 rfl ?_
  refine ru_ldc2 d_Mo_whole_18 lc_Mo_133 ?_
  refine ru_lload_n d_Mo_whole_21 rfl rfl ?_
  refine ru_ldiv d_Mo_whole_22 (nl_ne0 (a := u) (by omega) (by omega)) ?_
  refine ru_eql (nl_div (a := 1000000000000) (b := u) (by omega) (by omega) (by omega) : _ = Int64.ofNat (1000000000000 / u)) ?_
  refine ru_lcmp d_Mo_whole_23 ?_
  refine ru_if_gt (tgt := 42) d_Mo_whole_24 (by decide) (fun h24 => ?_) (fun h24 => ?_)
  · skip
    replace h24 := (lg_cmp_gt _ _).mp h24
    replace h24 := nl_lt (a := (1000000000000 / u)) (b := a) (by omega) (by omega) h24
    refine ru_iconst (v := 0) d_Mo_whole_42 (by decide) ?_
    refine ru_istore d_Mo_whole_43 (by decide) ?_
    refine ru_iload d_Mo_whole_45 rfl ?_
    refine ru_if_eq (tgt := 64) d_Mo_whole_47 (by decide) (fun h47 => ?_) (fun h47 => absurd h47 (by decide))
    refine ru_lconst (v := 0) d_Mo_whole_64 (by decide) ?_
    refine ru_lstore d_Mo_whole_65 (by decide) ?_
    refine ru_iload d_Mo_whole_67 rfl ?_
    refine ru_if_eq (tgt := 81) d_Mo_whole_69 (by decide) (fun h69 => ?_) (fun h69 => absurd h69 (by decide))
    refine ru_aload_n d_Mo_whole_81 rfl rfl ?_
    refine ru_iload d_Mo_whole_82 rfl ?_
    refine ru_callV (mc := 0) (ms := 0) d_Mo_whole_84 lm_Mo_87 (sq_fail hL _) (rx_recv_is (ly hL 398 9 0) kx_Mo) (by decide) rfl (Nat.le_of_ble_eq_true rfl) ?_
    intro v τ h
    obtain ⟨rfl, rfl⟩ := h
    refine ru_lload d_Mo_whole_87 rfl ?_
    refine ru_lret d_Mo_whole_89 rfl ?_
    first | (rw [yes (by omega) (by omega)]; exact ⟨rfl, rfl⟩) | (rw [no (by omega)]; exact ⟨⟨_, rfl⟩, rfl⟩)
  · skip
    replace h24 := fun q => h24 ((lg_cmp_gt _ _).mpr q)
    replace h24 := nl_nlt (a := (1000000000000 / u)) (b := a) (by omega) (by omega) h24
    refine ru_lload d_Mo_whole_27 rfl ?_
    refine ru_ldc2 d_Mo_whole_29 lc_Mo_127 ?_
    refine ru_lrem d_Mo_whole_32 (by decide) ?_
    refine ru_eql (nl_rem (a := (b * u)) (b := 1000000) (by omega) (by omega) (by omega) : _ = Int64.ofNat ((b * u) % 1000000)) ?_
    refine ru_lconst (v := 0) d_Mo_whole_33 (by decide) ?_
    refine ru_lcmp d_Mo_whole_34 ?_
    refine ru_if_ne (tgt := 42) d_Mo_whole_35 (by decide) (fun h35 => ?_) (fun h35 => ?_)
    · skip
      replace h35 := fun q => h35 ((lg_cmp_eq _ _).mpr q)
      replace h35 := nl_ne (a := ((b * u) % 1000000)) (b := 0) (by omega) (by omega) h35
      refine ru_iconst (v := 0) d_Mo_whole_42 (by decide) ?_
      refine ru_istore d_Mo_whole_43 (by decide) ?_
      refine ru_iload d_Mo_whole_45 rfl ?_
      refine ru_if_eq (tgt := 64) d_Mo_whole_47 (by decide) (fun h47 => ?_) (fun h47 => absurd h47 (by decide))
      refine ru_lconst (v := 0) d_Mo_whole_64 (by decide) ?_
      refine ru_lstore d_Mo_whole_65 (by decide) ?_
      refine ru_iload d_Mo_whole_67 rfl ?_
      refine ru_if_eq (tgt := 81) d_Mo_whole_69 (by decide) (fun h69 => ?_) (fun h69 => absurd h69 (by decide))
      refine ru_aload_n d_Mo_whole_81 rfl rfl ?_
      refine ru_iload d_Mo_whole_82 rfl ?_
      refine ru_callV (mc := 0) (ms := 0) d_Mo_whole_84 lm_Mo_87 (sq_fail hL _) (rx_recv_is (ly hL 398 9 0) kx_Mo) (by decide) rfl (Nat.le_of_ble_eq_true rfl) ?_
      intro v τ h
      obtain ⟨rfl, rfl⟩ := h
      refine ru_lload d_Mo_whole_87 rfl ?_
      refine ru_lret d_Mo_whole_89 rfl ?_
      first | (rw [yes (by omega) (by omega)]; exact ⟨rfl, rfl⟩) | (rw [no (by omega)]; exact ⟨⟨_, rfl⟩, rfl⟩)
    · skip
      replace h35 := (lg_cmp_eq _ _).mp h35
      replace h35 := nl_eq (a := ((b * u) % 1000000)) (b := 0) (by omega) (by omega) h35
      refine ru_iconst (v := 1) d_Mo_whole_38 (by decide) ?_
      refine ru_goto (tgt := 43) d_Mo_whole_39 (by decide) ?_
      refine ru_istore d_Mo_whole_43 (by decide) ?_
      refine ru_iload d_Mo_whole_45 rfl ?_
      refine ru_if_eq (tgt := 64) d_Mo_whole_47 (by decide) (fun h47 => absurd h47 (by decide)) (fun h47 => ?_)
      refine ru_lload d_Mo_whole_50 rfl ?_
      refine ru_lload_n d_Mo_whole_52 rfl rfl ?_
      refine ru_lmul d_Mo_whole_53 ?_
      refine ru_eql (nl_mul a u : _ = Int64.ofNat (a * u)) ?_
      refine ru_lload d_Mo_whole_54 rfl ?_
      refine ru_ldc2 d_Mo_whole_56 lc_Mo_127 ?_
      refine ru_ldiv d_Mo_whole_59 (by decide) ?_
      refine ru_eql (nl_div (a := (b * u)) (b := 1000000) (by omega) (by omega) (by omega) : _ = Int64.ofNat ((b * u) / 1000000)) ?_
      refine ru_ladd d_Mo_whole_60 ?_
      refine ru_eql (nl_add (a * u) ((b * u) / 1000000) : _ = Int64.ofNat ((a * u) + ((b * u) / 1000000))) ?_
      refine ru_goto (tgt := 65) d_Mo_whole_61 (by decide) ?_
      refine ru_lstore d_Mo_whole_65 (by decide) ?_
      refine ru_iload d_Mo_whole_67 rfl ?_
      refine ru_if_eq (tgt := 81) d_Mo_whole_69 (by decide) (fun h69 => absurd h69 (by decide)) (fun h69 => ?_)
      refine ru_lload d_Mo_whole_72 rfl ?_
      refine ru_ldc2 d_Mo_whole_74 lc_Mo_133 ?_
      refine ru_lcmp d_Mo_whole_77 ?_
      refine ru_if_le (tgt := 87) d_Mo_whole_78 (by decide) (fun h78 => ?_) (fun h78 => ?_)
      · skip
        replace h78 := (lg_cmp_le _ _).mp h78
        replace h78 := nl_le (a := ((a * u) + ((b * u) / 1000000))) (b := 1000000000000) (by omega) (by omega) h78
        refine ru_lload d_Mo_whole_87 rfl ?_
        refine ru_lret d_Mo_whole_89 rfl ?_
        first | (rw [yes (by omega) (by omega)]; exact ⟨rfl, rfl⟩) | (rw [no (by omega)]; exact ⟨⟨_, rfl⟩, rfl⟩)
      · skip
        replace h78 := fun q => h78 ((lg_cmp_le _ _).mpr q)
        replace h78 := nl_nle (a := ((a * u) + ((b * u) / 1000000))) (b := 1000000000000) (by omega) (by omega) h78
        refine ru_aload_n d_Mo_whole_81 rfl rfl ?_
        refine ru_iload d_Mo_whole_82 rfl ?_
        refine ru_callV (mc := 0) (ms := 0) d_Mo_whole_84 lm_Mo_87 (sq_fail hL _) (rx_recv_is (ly hL 398 9 0) kx_Mo) (by decide) rfl (Nat.le_of_ble_eq_true rfl) ?_
        intro v τ h
        obtain ⟨rfl, rfl⟩ := h
        refine ru_lload d_Mo_whole_87 rfl ?_
        refine ru_lret d_Mo_whole_89 rfl ?_
        first | (rw [yes (by omega) (by omega)]; exact ⟨rfl, rfl⟩) | (rw [no (by omega)]; exact ⟨⟨_, rfl⟩, rfl⟩)
end
