/-! The reference: name, shape; a word spelt -/
theorem d_Mo_name_0 : decode M_Mo_name.2.1 0 = .ok (.aload_n 0, 1) := by decide +kernel
theorem d_Mo_name_1 : decode M_Mo_name.2.1 1 = .ok (.iload_n 1, 1) := by decide +kernel
theorem d_Mo_name_2 : decode M_Mo_name.2.1 2 = .ok (.ifCond .lt 18, 3) := by decide +kernel
theorem d_Mo_name_5 : decode M_Mo_name.2.1 5 = .ok (.iload_n 1, 1) := by decide +kernel
theorem d_Mo_name_6 : decode M_Mo_name.2.1 6 = .ok (.iconst 2, 1) := by decide +kernel
theorem d_Mo_name_7 : decode M_Mo_name.2.1 7 = .ok (.if_icmp .gt 13, 3) := by decide +kernel
theorem d_Mo_name_10 : decode M_Mo_name.2.1 10 = .ok (.iload_n 2, 1) := by decide +kernel
theorem d_Mo_name_11 : decode M_Mo_name.2.1 11 = .ok (.ifCond .lt 9, 3) := by decide +kernel
theorem d_Mo_name_14 : decode M_Mo_name.2.1 14 = .ok (.iload_n 2, 1) := by decide +kernel
theorem d_Mo_name_15 : decode M_Mo_name.2.1 15 = .ok (.bipush 15, 2) := by decide +kernel
theorem d_Mo_name_17 : decode M_Mo_name.2.1 17 = .ok (.if_icmp .le 7, 3) := by decide +kernel
theorem d_Mo_name_20 : decode M_Mo_name.2.1 20 = .ok (.iconst 1, 1) := by decide +kernel
theorem d_Mo_name_21 : decode M_Mo_name.2.1 21 = .ok (.goto 4, 3) := by decide +kernel
theorem d_Mo_name_24 : decode M_Mo_name.2.1 24 = .ok (.iconst 0, 1) := by decide +kernel
theorem d_Mo_name_25 : decode M_Mo_name.2.1 25 = .ok (.putfield 39, 3) := by decide +kernel
theorem d_Mo_name_28 : decode M_Mo_name.2.1 28 = .ok (.aload_n 0, 1) := by decide +kernel
theorem d_Mo_name_29 : decode M_Mo_name.2.1 29 = .ok (.getfield 39, 3) := by decide +kernel
theorem d_Mo_name_32 : decode M_Mo_name.2.1 32 = .ok (.ifCond .eq 5, 3) := by decide +kernel
theorem d_Mo_name_35 : decode M_Mo_name.2.1 35 = .ok (.iconst 0, 1) := by decide +kernel
theorem d_Mo_name_36 : decode M_Mo_name.2.1 36 = .ok (.ireturn, 1) := by decide +kernel
theorem d_Mo_name_37 : decode M_Mo_name.2.1 37 = .ok (.bipush 16, 2) := by decide +kernel
theorem d_Mo_name_39 : decode M_Mo_name.2.1 39 = .ok (.iload_n 1, 1) := by decide +kernel
theorem d_Mo_name_40 : decode M_Mo_name.2.1 40 = .ok (.imul, 1) := by decide +kernel
theorem d_Mo_name_41 : decode M_Mo_name.2.1 41 = .ok (.iload_n 2, 1) := by decide +kernel
theorem d_Mo_name_42 : decode M_Mo_name.2.1 42 = .ok (.iadd, 1) := by decide +kernel
theorem d_Mo_name_43 : decode M_Mo_name.2.1 43 = .ok (.istore 4, 2) := by decide +kernel
theorem d_Mo_name_45 : decode M_Mo_name.2.1 45 = .ok (.iload_n 3, 1) := by decide +kernel
theorem d_Mo_name_46 : decode M_Mo_name.2.1 46 = .ok (.invokestatic 43, 3) := by decide +kernel
theorem d_Mo_name_49 : decode M_Mo_name.2.1 49 = .ok (.ifCond .ne 10, 3) := by decide +kernel
theorem d_Mo_name_52 : decode M_Mo_name.2.1 52 = .ok (.iload_n 3, 1) := by decide +kernel
theorem d_Mo_name_53 : decode M_Mo_name.2.1 53 = .ok (.invokestatic 47, 3) := by decide +kernel
theorem d_Mo_name_56 : decode M_Mo_name.2.1 56 = .ok (.ifCond .eq 15, 3) := by decide +kernel
theorem d_Mo_name_59 : decode M_Mo_name.2.1 59 = .ok (.aload_n 0, 1) := by decide +kernel
theorem d_Mo_name_60 : decode M_Mo_name.2.1 60 = .ok (.getfield 13, 3) := by decide +kernel
theorem d_Mo_name_63 : decode M_Mo_name.2.1 63 = .ok (.iload 4, 2) := by decide +kernel
theorem d_Mo_name_65 : decode M_Mo_name.2.1 65 = .ok (.iaload, 1) := by decide +kernel
theorem d_Mo_name_66 : decode M_Mo_name.2.1 66 = .ok (.bipush 8, 2) := by decide +kernel
theorem d_Mo_name_68 : decode M_Mo_name.2.1 68 = .ok (.if_icmp .ne 5, 3) := by decide +kernel
theorem d_Mo_name_71 : decode M_Mo_name.2.1 71 = .ok (.iconst 0, 1) := by decide +kernel
theorem d_Mo_name_72 : decode M_Mo_name.2.1 72 = .ok (.ireturn, 1) := by decide +kernel
theorem d_Mo_name_73 : decode M_Mo_name.2.1 73 = .ok (.aload_n 0, 1) := by decide +kernel
theorem d_Mo_name_74 : decode M_Mo_name.2.1 74 = .ok (.getfield 16, 3) := by decide +kernel
theorem d_Mo_name_77 : decode M_Mo_name.2.1 77 = .ok (.bipush 8, 2) := by decide +kernel
theorem d_Mo_name_79 : decode M_Mo_name.2.1 79 = .ok (.iload 4, 2) := by decide +kernel
theorem d_Mo_name_81 : decode M_Mo_name.2.1 81 = .ok (.imul, 1) := by decide +kernel
theorem d_Mo_name_82 : decode M_Mo_name.2.1 82 = .ok (.aload_n 0, 1) := by decide +kernel
theorem d_Mo_name_83 : decode M_Mo_name.2.1 83 = .ok (.getfield 13, 3) := by decide +kernel
theorem d_Mo_name_86 : decode M_Mo_name.2.1 86 = .ok (.iload 4, 2) := by decide +kernel
theorem d_Mo_name_88 : decode M_Mo_name.2.1 88 = .ok (.iaload, 1) := by decide +kernel
theorem d_Mo_name_89 : decode M_Mo_name.2.1 89 = .ok (.iadd, 1) := by decide +kernel
theorem d_Mo_name_90 : decode M_Mo_name.2.1 90 = .ok (.iload_n 3, 1) := by decide +kernel
theorem d_Mo_name_91 : decode M_Mo_name.2.1 91 = .ok (.iastore, 1) := by decide +kernel
theorem d_Mo_name_92 : decode M_Mo_name.2.1 92 = .ok (.aload_n 0, 1) := by decide +kernel
theorem d_Mo_name_93 : decode M_Mo_name.2.1 93 = .ok (.getfield 13, 3) := by decide +kernel
theorem d_Mo_name_96 : decode M_Mo_name.2.1 96 = .ok (.iload 4, 2) := by decide +kernel
theorem d_Mo_name_98 : decode M_Mo_name.2.1 98 = .ok (.dup2, 1) := by decide +kernel
theorem d_Mo_name_99 : decode M_Mo_name.2.1 99 = .ok (.iaload, 1) := by decide +kernel
theorem d_Mo_name_100 : decode M_Mo_name.2.1 100 = .ok (.iconst 1, 1) := by decide +kernel
theorem d_Mo_name_101 : decode M_Mo_name.2.1 101 = .ok (.iadd, 1) := by decide +kernel
theorem d_Mo_name_102 : decode M_Mo_name.2.1 102 = .ok (.iastore, 1) := by decide +kernel
theorem d_Mo_name_103 : decode M_Mo_name.2.1 103 = .ok (.iconst 1, 1) := by decide +kernel
theorem d_Mo_name_104 : decode M_Mo_name.2.1 104 = .ok (.ireturn, 1) := by decide +kernel
theorem d_Mo_shape_0 : decode M_Mo_shape.2.1 0 = .ok (.aload_n 0, 1) := by decide +kernel
theorem d_Mo_shape_1 : decode M_Mo_shape.2.1 1 = .ok (.iload_n 1, 1) := by decide +kernel
theorem d_Mo_shape_2 : decode M_Mo_shape.2.1 2 = .ok (.ifCond .lt 9, 3) := by decide +kernel
theorem d_Mo_shape_5 : decode M_Mo_shape.2.1 5 = .ok (.iload_n 1, 1) := by decide +kernel
theorem d_Mo_shape_6 : decode M_Mo_shape.2.1 6 = .ok (.bipush 15, 2) := by decide +kernel
theorem d_Mo_shape_8 : decode M_Mo_shape.2.1 8 = .ok (.if_icmp .le 7, 3) := by decide +kernel
theorem d_Mo_shape_11 : decode M_Mo_shape.2.1 11 = .ok (.iconst 1, 1) := by decide +kernel
theorem d_Mo_shape_12 : decode M_Mo_shape.2.1 12 = .ok (.goto 4, 3) := by decide +kernel
theorem d_Mo_shape_15 : decode M_Mo_shape.2.1 15 = .ok (.iconst 0, 1) := by decide +kernel
theorem d_Mo_shape_16 : decode M_Mo_shape.2.1 16 = .ok (.putfield 39, 3) := by decide +kernel
theorem d_Mo_shape_19 : decode M_Mo_shape.2.1 19 = .ok (.aload_n 0, 1) := by decide +kernel
theorem d_Mo_shape_20 : decode M_Mo_shape.2.1 20 = .ok (.getfield 39, 3) := by decide +kernel
theorem d_Mo_shape_23 : decode M_Mo_shape.2.1 23 = .ok (.ifCond .ne 18, 3) := by decide +kernel
theorem d_Mo_shape_26 : decode M_Mo_shape.2.1 26 = .ok (.lload_n 2, 1) := by decide +kernel
theorem d_Mo_shape_27 : decode M_Mo_shape.2.1 27 = .ok (.lload 6, 2) := by decide +kernel
theorem d_Mo_shape_29 : decode M_Mo_shape.2.1 29 = .ok (.lcmp, 1) := by decide +kernel
theorem d_Mo_shape_30 : decode M_Mo_shape.2.1 30 = .ok (.ifCond .gt 11, 3) := by decide +kernel
theorem d_Mo_shape_33 : decode M_Mo_shape.2.1 33 = .ok (.lload 4, 2) := by decide +kernel
theorem d_Mo_shape_35 : decode M_Mo_shape.2.1 35 = .ok (.lload 8, 2) := by decide +kernel
theorem d_Mo_shape_37 : decode M_Mo_shape.2.1 37 = .ok (.lcmp, 1) := by decide +kernel
theorem d_Mo_shape_38 : decode M_Mo_shape.2.1 38 = .ok (.ifCond .le 5, 3) := by decide +kernel
theorem d_Mo_shape_41 : decode M_Mo_shape.2.1 41 = .ok (.iconst 0, 1) := by decide +kernel
theorem d_Mo_shape_42 : decode M_Mo_shape.2.1 42 = .ok (.ireturn, 1) := by decide +kernel
theorem d_Mo_shape_43 : decode M_Mo_shape.2.1 43 = .ok (.aload_n 0, 1) := by decide +kernel
theorem d_Mo_shape_44 : decode M_Mo_shape.2.1 44 = .ok (.getfield 19, 3) := by decide +kernel
theorem d_Mo_shape_47 : decode M_Mo_shape.2.1 47 = .ok (.iload_n 1, 1) := by decide +kernel
theorem d_Mo_shape_48 : decode M_Mo_shape.2.1 48 = .ok (.iconst 1, 1) := by decide +kernel
theorem d_Mo_shape_49 : decode M_Mo_shape.2.1 49 = .ok (.bastore, 1) := by decide +kernel
theorem d_Mo_shape_50 : decode M_Mo_shape.2.1 50 = .ok (.aload_n 0, 1) := by decide +kernel
theorem d_Mo_shape_51 : decode M_Mo_shape.2.1 51 = .ok (.getfield 23, 3) := by decide +kernel
theorem d_Mo_shape_54 : decode M_Mo_shape.2.1 54 = .ok (.iconst 4, 1) := by decide +kernel
theorem d_Mo_shape_55 : decode M_Mo_shape.2.1 55 = .ok (.iload_n 1, 1) := by decide +kernel
theorem d_Mo_shape_56 : decode M_Mo_shape.2.1 56 = .ok (.imul, 1) := by decide +kernel
theorem d_Mo_shape_57 : decode M_Mo_shape.2.1 57 = .ok (.lload_n 2, 1) := by decide +kernel
theorem d_Mo_shape_58 : decode M_Mo_shape.2.1 58 = .ok (.lastore, 1) := by decide +kernel
theorem d_Mo_shape_59 : decode M_Mo_shape.2.1 59 = .ok (.aload_n 0, 1) := by decide +kernel
theorem d_Mo_shape_60 : decode M_Mo_shape.2.1 60 = .ok (.getfield 23, 3) := by decide +kernel
theorem d_Mo_shape_63 : decode M_Mo_shape.2.1 63 = .ok (.iconst 4, 1) := by decide +kernel
theorem d_Mo_shape_64 : decode M_Mo_shape.2.1 64 = .ok (.iload_n 1, 1) := by decide +kernel
theorem d_Mo_shape_65 : decode M_Mo_shape.2.1 65 = .ok (.imul, 1) := by decide +kernel
theorem d_Mo_shape_66 : decode M_Mo_shape.2.1 66 = .ok (.iconst 1, 1) := by decide +kernel
theorem d_Mo_shape_67 : decode M_Mo_shape.2.1 67 = .ok (.iadd, 1) := by decide +kernel
theorem d_Mo_shape_68 : decode M_Mo_shape.2.1 68 = .ok (.lload 4, 2) := by decide +kernel
theorem d_Mo_shape_70 : decode M_Mo_shape.2.1 70 = .ok (.lastore, 1) := by decide +kernel
theorem d_Mo_shape_71 : decode M_Mo_shape.2.1 71 = .ok (.aload_n 0, 1) := by decide +kernel
theorem d_Mo_shape_72 : decode M_Mo_shape.2.1 72 = .ok (.getfield 23, 3) := by decide +kernel
theorem d_Mo_shape_75 : decode M_Mo_shape.2.1 75 = .ok (.iconst 4, 1) := by decide +kernel
theorem d_Mo_shape_76 : decode M_Mo_shape.2.1 76 = .ok (.iload_n 1, 1) := by decide +kernel
theorem d_Mo_shape_77 : decode M_Mo_shape.2.1 77 = .ok (.imul, 1) := by decide +kernel
theorem d_Mo_shape_78 : decode M_Mo_shape.2.1 78 = .ok (.iconst 2, 1) := by decide +kernel
theorem d_Mo_shape_79 : decode M_Mo_shape.2.1 79 = .ok (.iadd, 1) := by decide +kernel
theorem d_Mo_shape_80 : decode M_Mo_shape.2.1 80 = .ok (.lload 6, 2) := by decide +kernel
theorem d_Mo_shape_82 : decode M_Mo_shape.2.1 82 = .ok (.lastore, 1) := by decide +kernel
theorem d_Mo_shape_83 : decode M_Mo_shape.2.1 83 = .ok (.aload_n 0, 1) := by decide +kernel
theorem d_Mo_shape_84 : decode M_Mo_shape.2.1 84 = .ok (.getfield 23, 3) := by decide +kernel
theorem d_Mo_shape_87 : decode M_Mo_shape.2.1 87 = .ok (.iconst 4, 1) := by decide +kernel
theorem d_Mo_shape_88 : decode M_Mo_shape.2.1 88 = .ok (.iload_n 1, 1) := by decide +kernel
theorem d_Mo_shape_89 : decode M_Mo_shape.2.1 89 = .ok (.imul, 1) := by decide +kernel
theorem d_Mo_shape_90 : decode M_Mo_shape.2.1 90 = .ok (.iconst 3, 1) := by decide +kernel
theorem d_Mo_shape_91 : decode M_Mo_shape.2.1 91 = .ok (.iadd, 1) := by decide +kernel
theorem d_Mo_shape_92 : decode M_Mo_shape.2.1 92 = .ok (.lload 8, 2) := by decide +kernel
theorem d_Mo_shape_94 : decode M_Mo_shape.2.1 94 = .ok (.lastore, 1) := by decide +kernel
theorem d_Mo_shape_95 : decode M_Mo_shape.2.1 95 = .ok (.iconst 1, 1) := by decide +kernel
theorem d_Mo_shape_96 : decode M_Mo_shape.2.1 96 = .ok (.ireturn, 1) := by decide +kernel
section
variable {nx : Nat} {ct : Nat → Nat × Nat} {mi : Nat → Nat → Int32} {ml : Nat → Nat → Int64} {mr : Nat → Nat → Option Nat}
theorem sp_Mo_name {a b L : Nat} {u : Int32} (hL : LAY nx ct mr) (ha : a < 3) (hb : b < 16) (hl : mi 400 (16 * a + b) = nI L) (hl2 : L ≤ 8) : rx_Calls y_Mo_name M_Mo_name 1 0 0 [.ref 398, .int (nI a), .int (nI b), .int u] (nx, ct, mi, ml, mr) (fun v τ => v = some (.int (bI (isLD u ∧ L < 8))) ∧ τ = (nx, ct, @ite _ (isLD u ∧ L < 8) (Classical.propDecidable _) (rx_u (rx_u (rx_u mi 398 0 0) 401 (8 * (16 * a + b) + L) u) 400 (16 * a + b) (nI (L + 1))) (rx_u mi 398 0 0), ml, mr)) := by
  refine rx_enter (by decide) rfl rfl (Nat.le_of_ble_eq_true rfl) ?_
  refine ru_aload_n d_Mo_name_0 rfl rfl ?_
  refine ru_iload_n d_Mo_name_1 rfl rfl ?_
  refine ru_if_lt (tgt := 20) d_Mo_name_2 (by decide) (fun h2 => ?_) (fun h2 => ?_)
  · skip
    replace h2 := nm_lt (a := a) (b := 0) (by omega) (by omega) h2
    exfalso; omega
  · skip
    replace h2 := nm_nlt (a := a) (b := 0) (by omega) (by omega) h2
    refine ru_iload_n d_Mo_name_5 rfl rfl ?_
    refine ru_iconst (v := 2) d_Mo_name_6 (by decide) ?_
    refine ru_icmp_gt (tgt := 20) d_Mo_name_7 (by decide) (fun h7 => ?_) (fun h7 => ?_)
    · skip
      replace h7 := nm_lt (a := 2) (b := a) (by omega) (by omega) h7
      exfalso; omega
    · skip
      replace h7 := nm_nlt (a := 2) (b := a) (by omega) (by omega) h7
      refine ru_iload_n d_Mo_name_10 rfl rfl ?_
      refine ru_if_lt (tgt := 20) d_Mo_name_11 (by decide) (fun h11 => ?_) (fun h11 => ?_)
      · skip
        replace h11 := nm_lt (a := b) (b := 0) (by omega) (by omega) h11
        exfalso; omega
      · skip
        replace h11 := nm_nlt (a := b) (b := 0) (by omega) (by omega) h11
        refine ru_iload_n d_Mo_name_14 rfl rfl ?_
        refine ru_bipush (v := 15) d_Mo_name_15 (by decide) ?_
        refine ru_icmp_le (tgt := 24) d_Mo_name_17 (by decide) (fun h17 => ?_) (fun h17 => ?_)
        · skip
          replace h17 := nm_le (a := b) (b := 15) (by omega) (by omega) h17
          refine ru_iconst (v := 0) d_Mo_name_24 (by decide) ?_
          refine ru_putI d_Mo_name_25 lf_Mo_39 (ly hL 398 9 0) rfl (fun q hq => by cases hq; exact Or.inl rfl) ⟨rfl, rfl⟩ ?_
          refine ru_aload_n d_Mo_name_28 rfl rfl ?_
          refine ru_getI d_Mo_name_29 lf_Mo_39 (ly hL 398 9 0) rfl ?_
          rw [rx_u_same]
          refine ru_if_eq (tgt := 37) d_Mo_name_32 (by decide) (fun h32 => ?_) (fun h32 => absurd h32 (by decide))
          refine ru_bipush (v := 16) d_Mo_name_37 (by decide) ?_
          refine ru_iload_n d_Mo_name_39 rfl rfl ?_
          refine ru_imul d_Mo_name_40 ?_
          refine ru_eqi (nm_mul 16 a : _ = nI (16 * a)) ?_
          refine ru_iload_n d_Mo_name_41 rfl rfl ?_
          refine ru_iadd d_Mo_name_42 ?_
          refine ru_eqi (nm_add (16 * a) b : _ = nI ((16 * a) + b)) ?_
          refine ru_istore d_Mo_name_43 (by decide) ?_
          refine ru_iload_n d_Mo_name_45 rfl rfl ?_
          refine ru_callS (mc := 0) (ms := 0) d_Mo_name_46 lm_Mo_43 (sp_Mo_isLetter u _) (by decide) rfl (Nat.le_of_ble_eq_true rfl) ?_
          intro v τ h
          obtain ⟨rfl, rfl⟩ := h
          refine ru_if_ne (tgt := 59) d_Mo_name_49 (by decide) (fun h49 => ?_) (fun h49 => ?_)
          · skip
            replace h49 := bI_ne0.mp h49
            refine ru_aload_n d_Mo_name_59 rfl rfl ?_
            refine ru_getR d_Mo_name_60 lf_Mo_13 (ly hL 398 9 0) rfl (lr hL 398 3 400) ?_
            refine ru_iload d_Mo_name_63 rfl ?_
            refine ru_ialdN (j := ((16 * a) + b)) d_Mo_name_65 (ly hL 400 100 48) (by omega) (by decide) ?_
            rw [rx_u_r _ _ (by decide)]
            refine ru_eqi hl ?_
            refine ru_bipush (v := 8) d_Mo_name_66 (by decide) ?_
            refine ru_icmp_ne (tgt := 73) d_Mo_name_68 (by decide) (fun h68 => ?_) (fun h68 => ?_)
            · skip
              replace h68 := nm_ne (a := L) (b := 8) (by omega) (by omega) h68
              refine ru_aload_n d_Mo_name_73 rfl rfl ?_
              refine ru_getR d_Mo_name_74 lf_Mo_16 (ly hL 398 9 0) rfl (lr hL 398 4 401) ?_
              refine ru_bipush (v := 8) d_Mo_name_77 (by decide) ?_
              refine ru_iload d_Mo_name_79 rfl ?_
              refine ru_imul d_Mo_name_81 ?_
              refine ru_eqi (nm_mul 8 ((16 * a) + b) : _ = nI (8 * ((16 * a) + b))) ?_
              refine ru_aload_n d_Mo_name_82 rfl rfl ?_
              refine ru_getR d_Mo_name_83 lf_Mo_13 (ly hL 398 9 0) rfl (lr hL 398 3 400) ?_
              refine ru_iload d_Mo_name_86 rfl ?_
              refine ru_ialdN (j := ((16 * a) + b)) d_Mo_name_88 (ly hL 400 100 48) (by omega) (by decide) ?_
              rw [rx_u_r _ _ (by decide)]
              refine ru_eqi hl ?_
              refine ru_iadd d_Mo_name_89 ?_
              refine ru_eqi (nm_add (8 * ((16 * a) + b)) L : _ = nI ((8 * ((16 * a) + b)) + L)) ?_
              refine ru_iload_n d_Mo_name_90 rfl rfl ?_
              refine ru_iastN (j := ((8 * ((16 * a) + b)) + L)) d_Mo_name_91 (ly hL 401 100 384) (by omega) (by decide) ?_
              refine ru_aload_n d_Mo_name_92 rfl rfl ?_
              refine ru_getR d_Mo_name_93 lf_Mo_13 (ly hL 398 9 0) rfl (lr hL 398 3 400) ?_
              refine ru_iload d_Mo_name_96 rfl ?_
              refine ru_dup2 d_Mo_name_98 rfl rfl ?_
              refine ru_ialdN (j := ((16 * a) + b)) d_Mo_name_99 (ly hL 400 100 48) (by omega) (by decide) ?_
              rw [rx_u_r _ _ (by decide), rx_u_r _ _ (by decide)]
              refine ru_eqi hl ?_
              refine ru_iconst (v := 1) d_Mo_name_100 (by decide) ?_
              refine ru_iadd d_Mo_name_101 ?_
              refine ru_eqi (nm_add L 1 : _ = nI (L + 1)) ?_
              refine ru_iastN (j := ((16 * a) + b)) d_Mo_name_102 (ly hL 400 100 48) (by omega) (by decide) ?_
              refine ru_iconst (v := 1) d_Mo_name_103 (by decide) ?_
              refine ru_zret (ty := .boolean) d_Mo_name_104 rfl rfl ?_
              first | (have q : isLD u ∧ L < 8 := ⟨by ((try simp only [isLet, isDig, isLD, isTC, il, ie, iq, i_m1, i_0, i_1, i_2, i_7, i_8, i_10, i_15, i_32, i_46, i_48, i_57, i_59, i_97, i_122] at *); omega), by omega⟩; rw [bI_t q, if_pos q]; exact ⟨rfl, rfl⟩) | (have q : ¬ (isLD u ∧ L < 8) := (by ((try simp only [isLet, isDig, isLD, isTC, il, ie, iq, i_m1, i_0, i_1, i_2, i_7, i_8, i_10, i_15, i_32, i_46, i_48, i_57, i_59, i_97, i_122] at *); omega)); rw [bI_f q, if_neg q]; exact ⟨rfl, rfl⟩)
            · skip
              replace h68 := nm_eq (a := L) (b := 8) (by omega) (by omega) h68
              refine ru_iconst (v := 0) d_Mo_name_71 (by decide) ?_
              refine ru_zret (ty := .boolean) d_Mo_name_72 rfl rfl ?_
              first | (have q : isLD u ∧ L < 8 := ⟨by ((try simp only [isLet, isDig, isLD, isTC, il, ie, iq, i_m1, i_0, i_1, i_2, i_7, i_8, i_10, i_15, i_32, i_46, i_48, i_57, i_59, i_97, i_122] at *); omega), by omega⟩; rw [bI_t q, if_pos q]; exact ⟨rfl, rfl⟩) | (have q : ¬ (isLD u ∧ L < 8) := (by ((try simp only [isLet, isDig, isLD, isTC, il, ie, iq, i_m1, i_0, i_1, i_2, i_7, i_8, i_10, i_15, i_32, i_46, i_48, i_57, i_59, i_97, i_122] at *); omega)); rw [bI_f q, if_neg q]; exact ⟨rfl, rfl⟩)
          · skip
            replace h49 := bI_eq0.mp h49
            refine ru_iload_n d_Mo_name_52 rfl rfl ?_
            refine ru_callS (mc := 0) (ms := 0) d_Mo_name_53 lm_Mo_47 (sp_Mo_isDigit u _) (by decide) rfl (Nat.le_of_ble_eq_true rfl) ?_
            intro v τ h
            obtain ⟨rfl, rfl⟩ := h
            refine ru_if_eq (tgt := 71) d_Mo_name_56 (by decide) (fun h56 => ?_) (fun h56 => ?_)
            · skip
              replace h56 := bI_eq0.mp h56
              refine ru_iconst (v := 0) d_Mo_name_71 (by decide) ?_
              refine ru_zret (ty := .boolean) d_Mo_name_72 rfl rfl ?_
              first | (have q : isLD u ∧ L < 8 := ⟨by ((try simp only [isLet, isDig, isLD, isTC, il, ie, iq, i_m1, i_0, i_1, i_2, i_7, i_8, i_10, i_15, i_32, i_46, i_48, i_57, i_59, i_97, i_122] at *); omega), by omega⟩; rw [bI_t q, if_pos q]; exact ⟨rfl, rfl⟩) | (have q : ¬ (isLD u ∧ L < 8) := (by ((try simp only [isLet, isDig, isLD, isTC, il, ie, iq, i_m1, i_0, i_1, i_2, i_7, i_8, i_10, i_15, i_32, i_46, i_48, i_57, i_59, i_97, i_122] at *); omega)); rw [bI_f q, if_neg q]; exact ⟨rfl, rfl⟩)
            · skip
              replace h56 := bI_ne0.mp h56
              refine ru_aload_n d_Mo_name_59 rfl rfl ?_
              refine ru_getR d_Mo_name_60 lf_Mo_13 (ly hL 398 9 0) rfl (lr hL 398 3 400) ?_
              refine ru_iload d_Mo_name_63 rfl ?_
              refine ru_ialdN (j := ((16 * a) + b)) d_Mo_name_65 (ly hL 400 100 48) (by omega) (by decide) ?_
              rw [rx_u_r _ _ (by decide)]
              refine ru_eqi hl ?_
              refine ru_bipush (v := 8) d_Mo_name_66 (by decide) ?_
              refine ru_icmp_ne (tgt := 73) d_Mo_name_68 (by decide) (fun h68 => ?_) (fun h68 => ?_)
              · skip
                replace h68 := nm_ne (a := L) (b := 8) (by omega) (by omega) h68
                refine ru_aload_n d_Mo_name_73 rfl rfl ?_
                refine ru_getR d_Mo_name_74 lf_Mo_16 (ly hL 398 9 0) rfl (lr hL 398 4 401) ?_
                refine ru_bipush (v := 8) d_Mo_name_77 (by decide) ?_
                refine ru_iload d_Mo_name_79 rfl ?_
                refine ru_imul d_Mo_name_81 ?_
                refine ru_eqi (nm_mul 8 ((16 * a) + b) : _ = nI (8 * ((16 * a) + b))) ?_
                refine ru_aload_n d_Mo_name_82 rfl rfl ?_
                refine ru_getR d_Mo_name_83 lf_Mo_13 (ly hL 398 9 0) rfl (lr hL 398 3 400) ?_
                refine ru_iload d_Mo_name_86 rfl ?_
                refine ru_ialdN (j := ((16 * a) + b)) d_Mo_name_88 (ly hL 400 100 48) (by omega) (by decide) ?_
                rw [rx_u_r _ _ (by decide)]
                refine ru_eqi hl ?_
                refine ru_iadd d_Mo_name_89 ?_
                refine ru_eqi (nm_add (8 * ((16 * a) + b)) L : _ = nI ((8 * ((16 * a) + b)) + L)) ?_
                refine ru_iload_n d_Mo_name_90 rfl rfl ?_
                refine ru_iastN (j := ((8 * ((16 * a) + b)) + L)) d_Mo_name_91 (ly hL 401 100 384) (by omega) (by decide) ?_
                refine ru_aload_n d_Mo_name_92 rfl rfl ?_
                refine ru_getR d_Mo_name_93 lf_Mo_13 (ly hL 398 9 0) rfl (lr hL 398 3 400) ?_
                refine ru_iload d_Mo_name_96 rfl ?_
                refine ru_dup2 d_Mo_name_98 rfl rfl ?_
                refine ru_ialdN (j := ((16 * a) + b)) d_Mo_name_99 (ly hL 400 100 48) (by omega) (by decide) ?_
                rw [rx_u_r _ _ (by decide), rx_u_r _ _ (by decide)]
                refine ru_eqi hl ?_
                refine ru_iconst (v := 1) d_Mo_name_100 (by decide) ?_
                refine ru_iadd d_Mo_name_101 ?_
                refine ru_eqi (nm_add L 1 : _ = nI (L + 1)) ?_
                refine ru_iastN (j := ((16 * a) + b)) d_Mo_name_102 (ly hL 400 100 48) (by omega) (by decide) ?_
                refine ru_iconst (v := 1) d_Mo_name_103 (by decide) ?_
                refine ru_zret (ty := .boolean) d_Mo_name_104 rfl rfl ?_
                first | (have q : isLD u ∧ L < 8 := ⟨by ((try simp only [isLet, isDig, isLD, isTC, il, ie, iq, i_m1, i_0, i_1, i_2, i_7, i_8, i_10, i_15, i_32, i_46, i_48, i_57, i_59, i_97, i_122] at *); omega), by omega⟩; rw [bI_t q, if_pos q]; exact ⟨rfl, rfl⟩) | (have q : ¬ (isLD u ∧ L < 8) := (by ((try simp only [isLet, isDig, isLD, isTC, il, ie, iq, i_m1, i_0, i_1, i_2, i_7, i_8, i_10, i_15, i_32, i_46, i_48, i_57, i_59, i_97, i_122] at *); omega)); rw [bI_f q, if_neg q]; exact ⟨rfl, rfl⟩)
              · skip
                replace h68 := nm_eq (a := L) (b := 8) (by omega) (by omega) h68
                refine ru_iconst (v := 0) d_Mo_name_71 (by decide) ?_
                refine ru_zret (ty := .boolean) d_Mo_name_72 rfl rfl ?_
                first | (have q : isLD u ∧ L < 8 := ⟨by ((try simp only [isLet, isDig, isLD, isTC, il, ie, iq, i_m1, i_0, i_1, i_2, i_7, i_8, i_10, i_15, i_32, i_46, i_48, i_57, i_59, i_97, i_122] at *); omega), by omega⟩; rw [bI_t q, if_pos q]; exact ⟨rfl, rfl⟩) | (have q : ¬ (isLD u ∧ L < 8) := (by ((try simp only [isLet, isDig, isLD, isTC, il, ie, iq, i_m1, i_0, i_1, i_2, i_7, i_8, i_10, i_15, i_32, i_46, i_48, i_57, i_59, i_97, i_122] at *); omega)); rw [bI_f q, if_neg q]; exact ⟨rfl, rfl⟩)
        · skip
          replace h17 := nm_nle (a := b) (b := 15) (by omega) (by omega) h17
          exfalso; omega
theorem sp_Mo_name0 {a b u : Int32} (hL : LAY nx ct mr) (h : ¬ ((0 ≤ a.toInt ∧ a.toInt < 3) ∧ 0 ≤ b.toInt ∧ b.toInt < 16)) : rx_Calls y_Mo_name M_Mo_name 1 0 0 [.ref 398, .int a, .int b, .int u] (nx, ct, mi, ml, mr) (fun v τ => v = some (.int 0) ∧ τ = (nx, ct, rx_u mi 398 0 1, ml, mr)) := by
  refine rx_enter (by decide) rfl rfl (Nat.le_of_ble_eq_true rfl) ?_
  refine ru_aload_n d_Mo_name_0 rfl rfl ?_
  refine ru_iload_n d_Mo_name_1 rfl rfl ?_
  refine ru_if_lt (tgt := 20) d_Mo_name_2 (by decide) (fun h2 => ?_) (fun h2 => ?_)
  · skip
    refine ru_iconst (v := 1) d_Mo_name_20 (by decide) ?_
    refine ru_goto (tgt := 25) d_Mo_name_21 (by decide) ?_
    refine ru_putI d_Mo_name_25 lf_Mo_39 (ly hL 398 9 0) rfl (fun q hq => by cases hq; exact Or.inl rfl) ⟨rfl, rfl⟩ ?_
    refine ru_aload_n d_Mo_name_28 rfl rfl ?_
    refine ru_getI d_Mo_name_29 lf_Mo_39 (ly hL 398 9 0) rfl ?_
    rw [rx_u_same]
    refine ru_if_eq (tgt := 37) d_Mo_name_32 (by decide) (fun h32 => absurd h32 (by decide)) (fun h32 => ?_)
    refine ru_iconst (v := 0) d_Mo_name_35 (by decide) ?_
    refine ru_zret (ty := .boolean) d_Mo_name_36 rfl rfl ?_
    exact ⟨rfl, rfl⟩
  · skip
    refine ru_iload_n d_Mo_name_5 rfl rfl ?_
    refine ru_iconst (v := 2) d_Mo_name_6 (by decide) ?_
    refine ru_icmp_gt (tgt := 20) d_Mo_name_7 (by decide) (fun h7 => ?_) (fun h7 => ?_)
    · skip
      refine ru_iconst (v := 1) d_Mo_name_20 (by decide) ?_
      refine ru_goto (tgt := 25) d_Mo_name_21 (by decide) ?_
      refine ru_putI d_Mo_name_25 lf_Mo_39 (ly hL 398 9 0) rfl (fun q hq => by cases hq; exact Or.inl rfl) ⟨rfl, rfl⟩ ?_
      refine ru_aload_n d_Mo_name_28 rfl rfl ?_
      refine ru_getI d_Mo_name_29 lf_Mo_39 (ly hL 398 9 0) rfl ?_
      rw [rx_u_same]
      refine ru_if_eq (tgt := 37) d_Mo_name_32 (by decide) (fun h32 => absurd h32 (by decide)) (fun h32 => ?_)
      refine ru_iconst (v := 0) d_Mo_name_35 (by decide) ?_
      refine ru_zret (ty := .boolean) d_Mo_name_36 rfl rfl ?_
      exact ⟨rfl, rfl⟩
    · skip
      refine ru_iload_n d_Mo_name_10 rfl rfl ?_
      refine ru_if_lt (tgt := 20) d_Mo_name_11 (by decide) (fun h11 => ?_) (fun h11 => ?_)
      · skip
        refine ru_iconst (v := 1) d_Mo_name_20 (by decide) ?_
        refine ru_goto (tgt := 25) d_Mo_name_21 (by decide) ?_
        refine ru_putI d_Mo_name_25 lf_Mo_39 (ly hL 398 9 0) rfl (fun q hq => by cases hq; exact Or.inl rfl) ⟨rfl, rfl⟩ ?_
        refine ru_aload_n d_Mo_name_28 rfl rfl ?_
        refine ru_getI d_Mo_name_29 lf_Mo_39 (ly hL 398 9 0) rfl ?_
        rw [rx_u_same]
        refine ru_if_eq (tgt := 37) d_Mo_name_32 (by decide) (fun h32 => absurd h32 (by decide)) (fun h32 => ?_)
        refine ru_iconst (v := 0) d_Mo_name_35 (by decide) ?_
        refine ru_zret (ty := .boolean) d_Mo_name_36 rfl rfl ?_
        exact ⟨rfl, rfl⟩
      · skip
        refine ru_iload_n d_Mo_name_14 rfl rfl ?_
        refine ru_bipush (v := 15) d_Mo_name_15 (by decide) ?_
        refine ru_icmp_le (tgt := 24) d_Mo_name_17 (by decide) (fun h17 => ?_) (fun h17 => ?_)
        · skip
          exfalso; ((try simp only [isLet, isDig, isLD, isTC, il, ie, iq, i_m1, i_0, i_1, i_2, i_7, i_8, i_10, i_15, i_32, i_46, i_48, i_57, i_59, i_97, i_122] at *); omega)
        · skip
          refine ru_iconst (v := 1) d_Mo_name_20 (by decide) ?_
          refine ru_goto (tgt := 25) d_Mo_name_21 (by decide) ?_
          refine ru_putI d_Mo_name_25 lf_Mo_39 (ly hL 398 9 0) rfl (fun q hq => by cases hq; exact Or.inl rfl) ⟨rfl, rfl⟩ ?_
          refine ru_aload_n d_Mo_name_28 rfl rfl ?_
          refine ru_getI d_Mo_name_29 lf_Mo_39 (ly hL 398 9 0) rfl ?_
          rw [rx_u_same]
          refine ru_if_eq (tgt := 37) d_Mo_name_32 (by decide) (fun h32 => absurd h32 (by decide)) (fun h32 => ?_)
          refine ru_iconst (v := 0) d_Mo_name_35 (by decide) ?_
          refine ru_zret (ty := .boolean) d_Mo_name_36 rfl rfl ?_
          exact ⟨rfl, rfl⟩
theorem sp_Mo_shape {a : Nat} {x0 y0 x1 y1 : Int64} (hL : LAY nx ct mr) (ha : a < 16) : rx_Calls y_Mo_shape M_Mo_shape 0 0 0 [.ref 398, .int (nI a), .long x0, .long y0, .long x1, .long y1] (nx, ct, mi, ml, mr) (fun v τ => v = some (.int (bI (x0 ≤ x1 ∧ y0 ≤ y1))) ∧ τ = (nx, ct, @ite _ (x0 ≤ x1 ∧ y0 ≤ y1) (Classical.propDecidable _) (rx_u (rx_u mi 398 0 0) 402 a 1) (rx_u mi 398 0 0), @ite _ (x0 ≤ x1 ∧ y0 ≤ y1) (Classical.propDecidable _) (rx_u (rx_u (rx_u (rx_u ml 403 (4 * a) x0) 403 (4 * a + 1) y0) 403 (4 * a + 2) x1) 403 (4 * a + 3) y1) ml, mr)) := by
  refine rx_enter (by decide) rfl rfl (Nat.le_of_ble_eq_true rfl) ?_
  refine ru_aload_n d_Mo_shape_0 rfl rfl ?_
  refine ru_iload_n d_Mo_shape_1 rfl rfl ?_
  refine ru_if_lt (tgt := 11) d_Mo_shape_2 (by decide) (fun h2 => ?_) (fun h2 => ?_)
  · skip
    replace h2 := nm_lt (a := a) (b := 0) (by omega) (by omega) h2
    exfalso; omega
  · skip
    replace h2 := nm_nlt (a := a) (b := 0) (by omega) (by omega) h2
    refine ru_iload_n d_Mo_shape_5 rfl rfl ?_
    refine ru_bipush (v := 15) d_Mo_shape_6 (by decide) ?_
    refine ru_icmp_le (tgt := 15) d_Mo_shape_8 (by decide) (fun h8 => ?_) (fun h8 => ?_)
    · skip
      replace h8 := nm_le (a := a) (b := 15) (by omega) (by omega) h8
      refine ru_iconst (v := 0) d_Mo_shape_15 (by decide) ?_
      refine ru_putI d_Mo_shape_16 lf_Mo_39 (ly hL 398 9 0) rfl (fun q hq => by cases hq; exact Or.inl rfl) ⟨rfl, rfl⟩ ?_
      refine ru_aload_n d_Mo_shape_19 rfl rfl ?_
      refine ru_getI d_Mo_shape_20 lf_Mo_39 (ly hL 398 9 0) rfl ?_
      rw [rx_u_same]
      refine ru_if_ne (tgt := 41) d_Mo_shape_23 (by decide) (fun h23 => absurd h23 (by decide)) (fun h23 => ?_)
      refine ru_lload_n d_Mo_shape_26 rfl rfl ?_
      refine ru_lload d_Mo_shape_27 rfl ?_
      refine ru_lcmp d_Mo_shape_29 ?_
      refine ru_if_gt (tgt := 41) d_Mo_shape_30 (by decide) (fun h30 => ?_) (fun h30 => ?_)
      · skip
        replace h30 := (lg_cmp_gt _ _).mp h30
        refine ru_iconst (v := 0) d_Mo_shape_41 (by decide) ?_
        refine ru_zret (ty := .boolean) d_Mo_shape_42 rfl rfl ?_
        first | (have q : x0 ≤ x1 ∧ y0 ≤ y1 := ⟨Int64.not_lt.mp h30, h38⟩; rw [bI_t q, if_pos q, if_pos q]; exact ⟨rfl, rfl⟩) | (have q : ¬ (x0 ≤ x1 ∧ y0 ≤ y1) := (fun q => h38 q.2); rw [bI_f q, if_neg q, if_neg q]; exact ⟨rfl, rfl⟩) | (have q : ¬ (x0 ≤ x1 ∧ y0 ≤ y1) := (fun q => Int64.not_lt.mpr q.1 h30); rw [bI_f q, if_neg q, if_neg q]; exact ⟨rfl, rfl⟩)
      · skip
        replace h30 := fun q => h30 ((lg_cmp_gt _ _).mpr q)
        refine ru_lload d_Mo_shape_33 rfl ?_
        refine ru_lload d_Mo_shape_35 rfl ?_
        refine ru_lcmp d_Mo_shape_37 ?_
        refine ru_if_le (tgt := 43) d_Mo_shape_38 (by decide) (fun h38 => ?_) (fun h38 => ?_)
        · skip
          replace h38 := (lg_cmp_le _ _).mp h38
          refine ru_aload_n d_Mo_shape_43 rfl rfl ?_
          refine ru_getR d_Mo_shape_44 lf_Mo_19 (ly hL 398 9 0) rfl (lr hL 398 5 402) ?_
          refine ru_iload_n d_Mo_shape_47 rfl rfl ?_
          refine ru_iconst (v := 1) d_Mo_shape_48 (by decide) ?_
          refine ru_zastN (j := a) d_Mo_shape_49 (ly hL 402 102 16) (by omega) (by decide) ?_
          refine ru_aload_n d_Mo_shape_50 rfl rfl ?_
          refine ru_getR d_Mo_shape_51 lf_Mo_23 (ly hL 398 9 0) rfl (lr hL 398 6 403) ?_
          refine ru_iconst (v := 4) d_Mo_shape_54 (by decide) ?_
          refine ru_iload_n d_Mo_shape_55 rfl rfl ?_
          refine ru_imul d_Mo_shape_56 ?_
          refine ru_eqi (nm_mul 4 a : _ = nI (4 * a)) ?_
          refine ru_lload_n d_Mo_shape_57 rfl rfl ?_
          refine ru_lastN (j := (4 * a)) d_Mo_shape_58 (ly hL 403 104 64) (by omega) (by decide) ?_
          refine ru_aload_n d_Mo_shape_59 rfl rfl ?_
          refine ru_getR d_Mo_shape_60 lf_Mo_23 (ly hL 398 9 0) rfl (lr hL 398 6 403) ?_
          refine ru_iconst (v := 4) d_Mo_shape_63 (by decide) ?_
          refine ru_iload_n d_Mo_shape_64 rfl rfl ?_
          refine ru_imul d_Mo_shape_65 ?_
          refine ru_eqi (nm_mul 4 a : _ = nI (4 * a)) ?_
          refine ru_iconst (v := 1) d_Mo_shape_66 (by decide) ?_
          refine ru_iadd d_Mo_shape_67 ?_
          refine ru_eqi (nm_add (4 * a) 1 : _ = nI ((4 * a) + 1)) ?_
          refine ru_lload d_Mo_shape_68 rfl ?_
          refine ru_lastN (j := ((4 * a) + 1)) d_Mo_shape_70 (ly hL 403 104 64) (by omega) (by decide) ?_
          refine ru_aload_n d_Mo_shape_71 rfl rfl ?_
          refine ru_getR d_Mo_shape_72 lf_Mo_23 (ly hL 398 9 0) rfl (lr hL 398 6 403) ?_
          refine ru_iconst (v := 4) d_Mo_shape_75 (by decide) ?_
          refine ru_iload_n d_Mo_shape_76 rfl rfl ?_
          refine ru_imul d_Mo_shape_77 ?_
          refine ru_eqi (nm_mul 4 a : _ = nI (4 * a)) ?_
          refine ru_iconst (v := 2) d_Mo_shape_78 (by decide) ?_
          refine ru_iadd d_Mo_shape_79 ?_
          refine ru_eqi (nm_add (4 * a) 2 : _ = nI ((4 * a) + 2)) ?_
          refine ru_lload d_Mo_shape_80 rfl ?_
          refine ru_lastN (j := ((4 * a) + 2)) d_Mo_shape_82 (ly hL 403 104 64) (by omega) (by decide) ?_
          refine ru_aload_n d_Mo_shape_83 rfl rfl ?_
          refine ru_getR d_Mo_shape_84 lf_Mo_23 (ly hL 398 9 0) rfl (lr hL 398 6 403) ?_
          refine ru_iconst (v := 4) d_Mo_shape_87 (by decide) ?_
          refine ru_iload_n d_Mo_shape_88 rfl rfl ?_
          refine ru_imul d_Mo_shape_89 ?_
          refine ru_eqi (nm_mul 4 a : _ = nI (4 * a)) ?_
          refine ru_iconst (v := 3) d_Mo_shape_90 (by decide) ?_
          refine ru_iadd d_Mo_shape_91 ?_
          refine ru_eqi (nm_add (4 * a) 3 : _ = nI ((4 * a) + 3)) ?_
          refine ru_lload d_Mo_shape_92 rfl ?_
          refine ru_lastN (j := ((4 * a) + 3)) d_Mo_shape_94 (ly hL 403 104 64) (by omega) (by decide) ?_
          refine ru_iconst (v := 1) d_Mo_shape_95 (by decide) ?_
          refine ru_zret (ty := .boolean) d_Mo_shape_96 rfl rfl ?_
          first | (have q : x0 ≤ x1 ∧ y0 ≤ y1 := ⟨Int64.not_lt.mp h30, h38⟩; rw [bI_t q, if_pos q, if_pos q]; exact ⟨rfl, rfl⟩) | (have q : ¬ (x0 ≤ x1 ∧ y0 ≤ y1) := (fun q => h38 q.2); rw [bI_f q, if_neg q, if_neg q]; exact ⟨rfl, rfl⟩) | (have q : ¬ (x0 ≤ x1 ∧ y0 ≤ y1) := (fun q => Int64.not_lt.mpr q.1 h30); rw [bI_f q, if_neg q, if_neg q]; exact ⟨rfl, rfl⟩)
        · skip
          replace h38 := fun q => h38 ((lg_cmp_le _ _).mpr q)
          refine ru_iconst (v := 0) d_Mo_shape_41 (by decide) ?_
          refine ru_zret (ty := .boolean) d_Mo_shape_42 rfl rfl ?_
          first | (have q : x0 ≤ x1 ∧ y0 ≤ y1 := ⟨Int64.not_lt.mp h30, h38⟩; rw [bI_t q, if_pos q, if_pos q]; exact ⟨rfl, rfl⟩) | (have q : ¬ (x0 ≤ x1 ∧ y0 ≤ y1) := (fun q => h38 q.2); rw [bI_f q, if_neg q, if_neg q]; exact ⟨rfl, rfl⟩) | (have q : ¬ (x0 ≤ x1 ∧ y0 ≤ y1) := (fun q => Int64.not_lt.mpr q.1 h30); rw [bI_f q, if_neg q, if_neg q]; exact ⟨rfl, rfl⟩)
    · skip
      replace h8 := nm_nle (a := a) (b := 15) (by omega) (by omega) h8
      exfalso; omega
theorem sp_Mo_shape0 {a : Int32} {x0 y0 x1 y1 : Int64} (hL : LAY nx ct mr) (h : ¬ (0 ≤ a.toInt ∧ a.toInt < 16)) : rx_Calls y_Mo_shape M_Mo_shape 0 0 0 [.ref 398, .int a, .long x0, .long y0, .long x1, .long y1] (nx, ct, mi, ml, mr) (fun v τ => v = some (.int 0) ∧ τ = (nx, ct, rx_u mi 398 0 1, ml, mr)) := by
  refine rx_enter (by decide) rfl rfl (Nat.le_of_ble_eq_true rfl) ?_
  refine ru_aload_n d_Mo_shape_0 rfl rfl ?_
  refine ru_iload_n d_Mo_shape_1 rfl rfl ?_
  refine ru_if_lt (tgt := 11) d_Mo_shape_2 (by decide) (fun h2 => ?_) (fun h2 => ?_)
  · skip
    refine ru_iconst (v := 1) d_Mo_shape_11 (by decide) ?_
    refine ru_goto (tgt := 16) d_Mo_shape_12 (by decide) ?_
    refine ru_putI d_Mo_shape_16 lf_Mo_39 (ly hL 398 9 0) rfl (fun q hq => by cases hq; exact Or.inl rfl) ⟨rfl, rfl⟩ ?_
    refine ru_aload_n d_Mo_shape_19 rfl rfl ?_
    refine ru_getI d_Mo_shape_20 lf_Mo_39 (ly hL 398 9 0) rfl ?_
    rw [rx_u_same]
    refine ru_if_ne (tgt := 41) d_Mo_shape_23 (by decide) (fun h23 => ?_) (fun h23 => absurd h23 (by decide))
    refine ru_iconst (v := 0) d_Mo_shape_41 (by decide) ?_
    refine ru_zret (ty := .boolean) d_Mo_shape_42 rfl rfl ?_
    exact ⟨rfl, rfl⟩
  · skip
    refine ru_iload_n d_Mo_shape_5 rfl rfl ?_
    refine ru_bipush (v := 15) d_Mo_shape_6 (by decide) ?_
    refine ru_icmp_le (tgt := 15) d_Mo_shape_8 (by decide) (fun h8 => ?_) (fun h8 => ?_)
    · skip
      exfalso; ((try simp only [isLet, isDig, isLD, isTC, il, ie, iq, i_m1, i_0, i_1, i_2, i_7, i_8, i_10, i_15, i_32, i_46, i_48, i_57, i_59, i_97, i_122] at *); omega)
    · skip
      refine ru_iconst (v := 1) d_Mo_shape_11 (by decide) ?_
      refine ru_goto (tgt := 16) d_Mo_shape_12 (by decide) ?_
      refine ru_putI d_Mo_shape_16 lf_Mo_39 (ly hL 398 9 0) rfl (fun q hq => by cases hq; exact Or.inl rfl) ⟨rfl, rfl⟩ ?_
      refine ru_aload_n d_Mo_shape_19 rfl rfl ?_
      refine ru_getI d_Mo_shape_20 lf_Mo_39 (ly hL 398 9 0) rfl ?_
      rw [rx_u_same]
      refine ru_if_ne (tgt := 41) d_Mo_shape_23 (by decide) (fun h23 => ?_) (fun h23 => absurd h23 (by decide))
      refine ru_iconst (v := 0) d_Mo_shape_41 (by decide) ?_
      refine ru_zret (ty := .boolean) d_Mo_shape_42 rfl rfl ?_
      exact ⟨rfl, rfl⟩
end
