/-! The library's texts; a word held against a text; bits counted -/
theorem d_In_bitCount_0 : decode M_In_bitCount.2.1 0 = .ok (.iload_n 0, 1) := by decide +kernel
theorem d_In_bitCount_1 : decode M_In_bitCount.2.1 1 = .ok (.iload_n 0, 1) := by decide +kernel
theorem d_In_bitCount_2 : decode M_In_bitCount.2.1 2 = .ok (.iconst 1, 1) := by decide +kernel
theorem d_In_bitCount_3 : decode M_In_bitCount.2.1 3 = .ok (.iushr, 1) := by decide +kernel
theorem d_In_bitCount_4 : decode M_In_bitCount.2.1 4 = .ok (.ldc_w 265, 3) := by decide +kernel
theorem d_In_bitCount_7 : decode M_In_bitCount.2.1 7 = .ok (.iand, 1) := by decide +kernel
theorem d_In_bitCount_8 : decode M_In_bitCount.2.1 8 = .ok (.isub, 1) := by decide +kernel
theorem d_In_bitCount_9 : decode M_In_bitCount.2.1 9 = .ok (.istore_n 0, 1) := by decide +kernel
theorem d_In_bitCount_10 : decode M_In_bitCount.2.1 10 = .ok (.iload_n 0, 1) := by decide +kernel
theorem d_In_bitCount_11 : decode M_In_bitCount.2.1 11 = .ok (.ldc_w 266, 3) := by decide +kernel
theorem d_In_bitCount_14 : decode M_In_bitCount.2.1 14 = .ok (.iand, 1) := by decide +kernel
theorem d_In_bitCount_15 : decode M_In_bitCount.2.1 15 = .ok (.iload_n 0, 1) := by decide +kernel
theorem d_In_bitCount_16 : decode M_In_bitCount.2.1 16 = .ok (.iconst 2, 1) := by decide +kernel
theorem d_In_bitCount_17 : decode M_In_bitCount.2.1 17 = .ok (.iushr, 1) := by decide +kernel
theorem d_In_bitCount_18 : decode M_In_bitCount.2.1 18 = .ok (.ldc_w 266, 3) := by decide +kernel
theorem d_In_bitCount_21 : decode M_In_bitCount.2.1 21 = .ok (.iand, 1) := by decide +kernel
theorem d_In_bitCount_22 : decode M_In_bitCount.2.1 22 = .ok (.iadd, 1) := by decide +kernel
theorem d_In_bitCount_23 : decode M_In_bitCount.2.1 23 = .ok (.istore_n 0, 1) := by decide +kernel
theorem d_In_bitCount_24 : decode M_In_bitCount.2.1 24 = .ok (.iload_n 0, 1) := by decide +kernel
theorem d_In_bitCount_25 : decode M_In_bitCount.2.1 25 = .ok (.iload_n 0, 1) := by decide +kernel
theorem d_In_bitCount_26 : decode M_In_bitCount.2.1 26 = .ok (.iconst 4, 1) := by decide +kernel
theorem d_In_bitCount_27 : decode M_In_bitCount.2.1 27 = .ok (.iushr, 1) := by decide +kernel
theorem d_In_bitCount_28 : decode M_In_bitCount.2.1 28 = .ok (.iadd, 1) := by decide +kernel
theorem d_In_bitCount_29 : decode M_In_bitCount.2.1 29 = .ok (.ldc_w 267, 3) := by decide +kernel
theorem d_In_bitCount_32 : decode M_In_bitCount.2.1 32 = .ok (.iand, 1) := by decide +kernel
theorem d_In_bitCount_33 : decode M_In_bitCount.2.1 33 = .ok (.istore_n 0, 1) := by decide +kernel
theorem d_In_bitCount_34 : decode M_In_bitCount.2.1 34 = .ok (.iload_n 0, 1) := by decide +kernel
theorem d_In_bitCount_35 : decode M_In_bitCount.2.1 35 = .ok (.iload_n 0, 1) := by decide +kernel
theorem d_In_bitCount_36 : decode M_In_bitCount.2.1 36 = .ok (.bipush 8, 2) := by decide +kernel
theorem d_In_bitCount_38 : decode M_In_bitCount.2.1 38 = .ok (.iushr, 1) := by decide +kernel
theorem d_In_bitCount_39 : decode M_In_bitCount.2.1 39 = .ok (.iadd, 1) := by decide +kernel
theorem d_In_bitCount_40 : decode M_In_bitCount.2.1 40 = .ok (.istore_n 0, 1) := by decide +kernel
theorem d_In_bitCount_41 : decode M_In_bitCount.2.1 41 = .ok (.iload_n 0, 1) := by decide +kernel
theorem d_In_bitCount_42 : decode M_In_bitCount.2.1 42 = .ok (.iload_n 0, 1) := by decide +kernel
theorem d_In_bitCount_43 : decode M_In_bitCount.2.1 43 = .ok (.bipush 16, 2) := by decide +kernel
theorem d_In_bitCount_45 : decode M_In_bitCount.2.1 45 = .ok (.iushr, 1) := by decide +kernel
theorem d_In_bitCount_46 : decode M_In_bitCount.2.1 46 = .ok (.iadd, 1) := by decide +kernel
theorem d_In_bitCount_47 : decode M_In_bitCount.2.1 47 = .ok (.istore_n 0, 1) := by decide +kernel
theorem d_In_bitCount_48 : decode M_In_bitCount.2.1 48 = .ok (.iload_n 0, 1) := by decide +kernel
theorem d_In_bitCount_49 : decode M_In_bitCount.2.1 49 = .ok (.bipush 63, 2) := by decide +kernel
theorem d_In_bitCount_51 : decode M_In_bitCount.2.1 51 = .ok (.iand, 1) := by decide +kernel
theorem d_In_bitCount_52 : decode M_In_bitCount.2.1 52 = .ok (.ireturn, 1) := by decide +kernel
theorem d_Pr_checkIndex_0 : decode M_Pr_checkIndex.2.1 0 = .ok (.iload_n 0, 1) := by decide +kernel
theorem d_Pr_checkIndex_1 : decode M_Pr_checkIndex.2.1 1 = .ok (.ifCond .lt 8, 3) := by decide +kernel
theorem d_Pr_checkIndex_4 : decode M_Pr_checkIndex.2.1 4 = .ok (.iload_n 0, 1) := by decide +kernel
theorem d_Pr_checkIndex_5 : decode M_Pr_checkIndex.2.1 5 = .ok (.iload_n 1, 1) := by decide +kernel
theorem d_Pr_checkIndex_6 : decode M_Pr_checkIndex.2.1 6 = .ok (.if_icmp .lt 10, 3) := by decide +kernel
theorem d_Pr_checkIndex_9 : decode M_Pr_checkIndex.2.1 9 = .ok (.aload_n 2, 1) := by decide +kernel
theorem d_Pr_checkIndex_10 : decode M_Pr_checkIndex.2.1 10 = .ok (.iload_n 0, 1) := by decide +kernel
theorem d_Pr_checkIndex_11 : decode M_Pr_checkIndex.2.1 11 = .ok (.iload_n 1, 1) := by decide +kernel
theorem d_Pr_checkIndex_12 : decode M_Pr_checkIndex.2.1 12 = .ok (.invokestatic 95, 3) := by decide +kernel
theorem d_Pr_checkIndex_15 : decode M_Pr_checkIndex.2.1 15 = .ok (.athrow, 1) := by decide +kernel
theorem d_Pr_checkIndex_16 : decode M_Pr_checkIndex.2.1 16 = .ok (.iload_n 0, 1) := by decide +kernel
theorem d_Pr_checkIndex_17 : decode M_Pr_checkIndex.2.1 17 = .ok (.ireturn, 1) := by decide +kernel
theorem d_RT_kinds_0 : decode M_RT_kinds.2.1 0 = .ok (.iconst 0, 1) := by decide +kernel
theorem d_RT_kinds_1 : decode M_RT_kinds.2.1 1 = .ok (.istore_n 1, 1) := by decide +kernel
theorem d_RT_kinds_2 : decode M_RT_kinds.2.1 2 = .ok (.iconst 0, 1) := by decide +kernel
theorem d_RT_kinds_3 : decode M_RT_kinds.2.1 3 = .ok (.istore_n 2, 1) := by decide +kernel
theorem d_RT_kinds_4 : decode M_RT_kinds.2.1 4 = .ok (.iload_n 2, 1) := by decide +kernel
theorem d_RT_kinds_5 : decode M_RT_kinds.2.1 5 = .ok (.aload_n 0, 1) := by decide +kernel
theorem d_RT_kinds_6 : decode M_RT_kinds.2.1 6 = .ok (.getfield 51, 3) := by decide +kernel
theorem d_RT_kinds_9 : decode M_RT_kinds.2.1 9 = .ok (.getfield 147, 3) := by decide +kernel
theorem d_RT_kinds_12 : decode M_RT_kinds.2.1 12 = .ok (.if_icmp .ge 29, 3) := by decide +kernel
theorem d_RT_kinds_15 : decode M_RT_kinds.2.1 15 = .ok (.iload_n 1, 1) := by decide +kernel
theorem d_RT_kinds_16 : decode M_RT_kinds.2.1 16 = .ok (.iconst 1, 1) := by decide +kernel
theorem d_RT_kinds_17 : decode M_RT_kinds.2.1 17 = .ok (.aload_n 0, 1) := by decide +kernel
theorem d_RT_kinds_18 : decode M_RT_kinds.2.1 18 = .ok (.getfield 51, 3) := by decide +kernel
theorem d_RT_kinds_21 : decode M_RT_kinds.2.1 21 = .ok (.getfield 89, 3) := by decide +kernel
theorem d_RT_kinds_24 : decode M_RT_kinds.2.1 24 = .ok (.iload_n 2, 1) := by decide +kernel
theorem d_RT_kinds_25 : decode M_RT_kinds.2.1 25 = .ok (.aaload, 1) := by decide +kernel
theorem d_RT_kinds_26 : decode M_RT_kinds.2.1 26 = .ok (.getfield 93, 3) := by decide +kernel
theorem d_RT_kinds_29 : decode M_RT_kinds.2.1 29 = .ok (.getfield 99, 3) := by decide +kernel
theorem d_RT_kinds_32 : decode M_RT_kinds.2.1 32 = .ok (.ishl, 1) := by decide +kernel
theorem d_RT_kinds_33 : decode M_RT_kinds.2.1 33 = .ok (.ior, 1) := by decide +kernel
theorem d_RT_kinds_34 : decode M_RT_kinds.2.1 34 = .ok (.istore_n 1, 1) := by decide +kernel
theorem d_RT_kinds_35 : decode M_RT_kinds.2.1 35 = .ok (.iinc 2 1, 3) := by decide +kernel
theorem d_RT_kinds_38 : decode M_RT_kinds.2.1 38 = .ok (.goto (-34), 3) := by decide +kernel
theorem d_RT_kinds_41 : decode M_RT_kinds.2.1 41 = .ok (.iload_n 1, 1) := by decide +kernel
theorem d_RT_kinds_42 : decode M_RT_kinds.2.1 42 = .ok (.invokestatic 163, 3) := by decide +kernel
theorem d_RT_kinds_45 : decode M_RT_kinds.2.1 45 = .ok (.ireturn, 1) := by decide +kernel
theorem d_S1_charAt_0 : decode M_S1_charAt.2.1 0 = .ok (.iload_n 1, 1) := by decide +kernel
theorem d_S1_charAt_1 : decode M_S1_charAt.2.1 1 = .ok (.aload_n 0, 1) := by decide +kernel
theorem d_S1_charAt_2 : decode M_S1_charAt.2.1 2 = .ok (.arraylength, 1) := by decide +kernel
theorem d_S1_charAt_3 : decode M_S1_charAt.2.1 3 = .ok (.invokestatic 9, 3) := by decide +kernel
theorem d_S1_charAt_6 : decode M_S1_charAt.2.1 6 = .ok (.aload_n 0, 1) := by decide +kernel
theorem d_S1_charAt_7 : decode M_S1_charAt.2.1 7 = .ok (.iload_n 1, 1) := by decide +kernel
theorem d_S1_charAt_8 : decode M_S1_charAt.2.1 8 = .ok (.baload, 1) := by decide +kernel
theorem d_S1_charAt_9 : decode M_S1_charAt.2.1 9 = .ok (.sipush 255, 3) := by decide +kernel
theorem d_S1_charAt_12 : decode M_S1_charAt.2.1 12 = .ok (.iand, 1) := by decide +kernel
theorem d_S1_charAt_13 : decode M_S1_charAt.2.1 13 = .ok (.i2c, 1) := by decide +kernel
theorem d_S1_charAt_14 : decode M_S1_charAt.2.1 14 = .ok (.ireturn, 1) := by decide +kernel
theorem d_St_charAt_0 : decode M_St_charAt.2.1 0 = .ok (.aload_n 0, 1) := by decide +kernel
theorem d_St_charAt_1 : decode M_St_charAt.2.1 1 = .ok (.invokevirtual 492, 3) := by decide +kernel
theorem d_St_charAt_4 : decode M_St_charAt.2.1 4 = .ok (.ifCond .eq 12, 3) := by decide +kernel
theorem d_St_charAt_7 : decode M_St_charAt.2.1 7 = .ok (.aload_n 0, 1) := by decide +kernel
theorem d_St_charAt_8 : decode M_St_charAt.2.1 8 = .ok (.getfield 9, 3) := by decide +kernel
theorem d_St_charAt_11 : decode M_St_charAt.2.1 11 = .ok (.iload_n 1, 1) := by decide +kernel
theorem d_St_charAt_12 : decode M_St_charAt.2.1 12 = .ok (.invokestatic 495, 3) := by decide +kernel
theorem d_St_charAt_15 : decode M_St_charAt.2.1 15 = .ok (.ireturn, 1) := by decide +kernel
theorem d_St_charAt_16 : decode M_St_charAt.2.1 16 = .ok (.aload_n 0, 1) := by decide +kernel
theorem d_St_charAt_17 : decode M_St_charAt.2.1 17 = .ok (.getfield 9, 3) := by decide +kernel
theorem d_St_charAt_20 : decode M_St_charAt.2.1 20 = .ok (.iload_n 1, 1) := by decide +kernel
theorem d_St_charAt_21 : decode M_St_charAt.2.1 21 = .ok (.invokestatic 498, 3) := by decide +kernel
theorem d_St_charAt_24 : decode M_St_charAt.2.1 24 = .ok (.ireturn, 1) := by decide +kernel
theorem d_St_checkIndex_0 : decode M_St_checkIndex.2.1 0 = .ok (.iload_n 0, 1) := by decide +kernel
theorem d_St_checkIndex_1 : decode M_St_checkIndex.2.1 1 = .ok (.iload_n 1, 1) := by decide +kernel
theorem d_St_checkIndex_2 : decode M_St_checkIndex.2.1 2 = .ok (.getstatic 1053, 3) := by decide +kernel
theorem d_St_checkIndex_5 : decode M_St_checkIndex.2.1 5 = .ok (.invokestatic 1059, 3) := by decide +kernel
theorem d_St_checkIndex_8 : decode M_St_checkIndex.2.1 8 = .ok (.pop, 1) := by decide +kernel
theorem d_St_checkIndex_9 : decode M_St_checkIndex.2.1 9 = .ok (.return_, 1) := by decide +kernel
theorem d_St_coder_0 : decode M_St_coder.2.1 0 = .ok (.getstatic 38, 3) := by decide +kernel
theorem d_St_coder_3 : decode M_St_coder.2.1 3 = .ok (.ifCond .eq 10, 3) := by decide +kernel
theorem d_St_coder_6 : decode M_St_coder.2.1 6 = .ok (.aload_n 0, 1) := by decide +kernel
theorem d_St_coder_7 : decode M_St_coder.2.1 7 = .ok (.getfield 15, 3) := by decide +kernel
theorem d_St_coder_10 : decode M_St_coder.2.1 10 = .ok (.goto 4, 3) := by decide +kernel
theorem d_St_coder_13 : decode M_St_coder.2.1 13 = .ok (.iconst 1, 1) := by decide +kernel
theorem d_St_coder_14 : decode M_St_coder.2.1 14 = .ok (.ireturn, 1) := by decide +kernel
theorem d_St_isLatin1_0 : decode M_St_isLatin1.2.1 0 = .ok (.getstatic 38, 3) := by decide +kernel
theorem d_St_isLatin1_3 : decode M_St_isLatin1.2.1 3 = .ok (.ifCond .eq 14, 3) := by decide +kernel
theorem d_St_isLatin1_6 : decode M_St_isLatin1.2.1 6 = .ok (.aload_n 0, 1) := by decide +kernel
theorem d_St_isLatin1_7 : decode M_St_isLatin1.2.1 7 = .ok (.getfield 15, 3) := by decide +kernel
theorem d_St_isLatin1_10 : decode M_St_isLatin1.2.1 10 = .ok (.ifCond .ne 7, 3) := by decide +kernel
theorem d_St_isLatin1_13 : decode M_St_isLatin1.2.1 13 = .ok (.iconst 1, 1) := by decide +kernel
theorem d_St_isLatin1_14 : decode M_St_isLatin1.2.1 14 = .ok (.goto 4, 3) := by decide +kernel
theorem d_St_isLatin1_17 : decode M_St_isLatin1.2.1 17 = .ok (.iconst 0, 1) := by decide +kernel
theorem d_St_isLatin1_18 : decode M_St_isLatin1.2.1 18 = .ok (.ireturn, 1) := by decide +kernel
theorem d_St_length_0 : decode M_St_length.2.1 0 = .ok (.aload_n 0, 1) := by decide +kernel
theorem d_St_length_1 : decode M_St_length.2.1 1 = .ok (.getfield 9, 3) := by decide +kernel
theorem d_St_length_4 : decode M_St_length.2.1 4 = .ok (.arraylength, 1) := by decide +kernel
theorem d_St_length_5 : decode M_St_length.2.1 5 = .ok (.aload_n 0, 1) := by decide +kernel
theorem d_St_length_6 : decode M_St_length.2.1 6 = .ok (.invokevirtual 335, 3) := by decide +kernel
theorem d_St_length_9 : decode M_St_length.2.1 9 = .ok (.ishr, 1) := by decide +kernel
theorem d_St_length_10 : decode M_St_length.2.1 10 = .ok (.ireturn, 1) := by decide +kernel
theorem d_Wo_is_0 : decode M_Wo_is.2.1 0 = .ok (.aload_n 1, 1) := by decide +kernel
theorem d_Wo_is_1 : decode M_Wo_is.2.1 1 = .ok (.invokevirtual 38, 3) := by decide +kernel
theorem d_Wo_is_4 : decode M_Wo_is.2.1 4 = .ok (.aload_n 0, 1) := by decide +kernel
theorem d_Wo_is_5 : decode M_Wo_is.2.1 5 = .ok (.getfield 23, 3) := by decide +kernel
theorem d_Wo_is_8 : decode M_Wo_is.2.1 8 = .ok (.aload_n 0, 1) := by decide +kernel
theorem d_Wo_is_9 : decode M_Wo_is.2.1 9 = .ok (.getfield 35, 3) := by decide +kernel
theorem d_Wo_is_12 : decode M_Wo_is.2.1 12 = .ok (.isub, 1) := by decide +kernel
theorem d_Wo_is_13 : decode M_Wo_is.2.1 13 = .ok (.if_icmp .eq 5, 3) := by decide +kernel
theorem d_Wo_is_16 : decode M_Wo_is.2.1 16 = .ok (.iconst 0, 1) := by decide +kernel
theorem d_Wo_is_17 : decode M_Wo_is.2.1 17 = .ok (.ireturn, 1) := by decide +kernel
theorem d_Wo_is_18 : decode M_Wo_is.2.1 18 = .ok (.iconst 0, 1) := by decide +kernel
theorem d_Wo_is_19 : decode M_Wo_is.2.1 19 = .ok (.istore_n 2, 1) := by decide +kernel
theorem d_Wo_is_20 : decode M_Wo_is.2.1 20 = .ok (.iload_n 2, 1) := by decide +kernel
theorem d_Wo_is_21 : decode M_Wo_is.2.1 21 = .ok (.aload_n 1, 1) := by decide +kernel
theorem d_Wo_is_22 : decode M_Wo_is.2.1 22 = .ok (.invokevirtual 38, 3) := by decide +kernel
theorem d_Wo_is_25 : decode M_Wo_is.2.1 25 = .ok (.if_icmp .ge 30, 3) := by decide +kernel
theorem d_Wo_is_28 : decode M_Wo_is.2.1 28 = .ok (.aload_n 1, 1) := by decide +kernel
theorem d_Wo_is_29 : decode M_Wo_is.2.1 29 = .ok (.iload_n 2, 1) := by decide +kernel
theorem d_Wo_is_30 : decode M_Wo_is.2.1 30 = .ok (.invokevirtual 43, 3) := by decide +kernel
theorem d_Wo_is_33 : decode M_Wo_is.2.1 33 = .ok (.aload_n 0, 1) := by decide +kernel
theorem d_Wo_is_34 : decode M_Wo_is.2.1 34 = .ok (.getfield 9, 3) := by decide +kernel
theorem d_Wo_is_37 : decode M_Wo_is.2.1 37 = .ok (.aload_n 0, 1) := by decide +kernel
theorem d_Wo_is_38 : decode M_Wo_is.2.1 38 = .ok (.getfield 35, 3) := by decide +kernel
theorem d_Wo_is_41 : decode M_Wo_is.2.1 41 = .ok (.iload_n 2, 1) := by decide +kernel
theorem d_Wo_is_42 : decode M_Wo_is.2.1 42 = .ok (.iadd, 1) := by decide +kernel
theorem d_Wo_is_43 : decode M_Wo_is.2.1 43 = .ok (.caload, 1) := by decide +kernel
theorem d_Wo_is_44 : decode M_Wo_is.2.1 44 = .ok (.if_icmp .eq 5, 3) := by decide +kernel
theorem d_Wo_is_47 : decode M_Wo_is.2.1 47 = .ok (.iconst 0, 1) := by decide +kernel
theorem d_Wo_is_48 : decode M_Wo_is.2.1 48 = .ok (.ireturn, 1) := by decide +kernel
theorem d_Wo_is_49 : decode M_Wo_is.2.1 49 = .ok (.iinc 2 1, 3) := by decide +kernel
theorem d_Wo_is_52 : decode M_Wo_is.2.1 52 = .ok (.goto (-32), 3) := by decide +kernel
theorem d_Wo_is_55 : decode M_Wo_is.2.1 55 = .ok (.iconst 1, 1) := by decide +kernel
theorem d_Wo_is_56 : decode M_Wo_is.2.1 56 = .ok (.ireturn, 1) := by decide +kernel
section
variable {σ : rx_S} {nx : Nat} {ct : Nat → Nat × Nat} {mi : Nat → Nat → Int32} {ml : Nat → Nat → Int64} {mr : Nat → Nat → Option Nat} {n j s : Nat} {t : Nat → Int32}
theorem tx_all : ∀ s, s < 61 → ∀ i, i < rx_sl s → 0 ≤ (rx_sb s i).toInt ∧ (rx_sb s i).toInt < 128 := by decide +kernel
theorem tx_len2 : ∀ s, s < 61 → rx_sl s < 64 := by decide +kernel
theorem ch_all : ∀ k, k < 128 → (nI k &&& 255) = nI k ∧ ((nI k).toUInt32 % 65536).toInt32 = nI k ∧ (nI k).toInt8.toInt32 = nI k := by decide +kernel
theorem ch_nar {x : Int32} (h : 0 ≤ x.toInt ∧ x.toInt < 128) : (x &&& 255) = x ∧ (x.toUInt32 % 65536).toInt32 = x ∧ x.toInt8.toInt32 = x := by
  obtain ⟨k, hk, e⟩ := nI_of (x := x) (by rw [il, i_0]; omega)
  have h2 : k < 128 := by
    have : x.toInt = k := by rw [e, nI_toInt hk]
    omega
  rw [e]
  exact ch_all k h2
theorem ch_narC {x : Int32} (h : 0 ≤ x.toInt ∧ x.toInt < 128) : narrow .char (.int x) = .int x := by
  show Value.int _ = _
  congr 1
  exact (ch_nar h).2.1
theorem sh_0 (x : Int32) : x >>> ((0 : Int32) &&& 31) = x := by
  rw [show ((0 : Int32) &&& 31) = 0 from rfl]
  simp
theorem sl_0 (x : Int32) : x <<< ((0 : Int32) &&& 31) = x := by
  rw [show ((0 : Int32) &&& 31) = 0 from rfl]
  simp
theorem jl_coder (hs : s < 61) : rx_Calls y_St_coder M_St_coder 0 0 0 [.ref (30 + s)] σ (fun v τ => v = some (.int 0) ∧ τ = σ) := by
  refine rx_enter (by decide) rfl rfl (Nat.le_of_ble_eq_true rfl) ?_
  refine ru_gets d_St_coder_0 (Or.inl (rx_in (tm_2 (List.mem_of_getElem? (i := 126) rfl)) rfl)) (List.mem_of_getElem? (i := 4) rfl) ?_
  refine ru_if_eq (tgt := 13) d_St_coder_3 (by decide) (fun h3 => absurd h3 (by decide)) (fun h3 => ?_)
  refine ru_aload_n d_St_coder_6 rfl rfl ?_
  refine ru_getO (v := .int (nI 0)) d_St_coder_7 (rx_in (tm_4 (List.mem_of_getElem? (i := 217) rfl)) rfl) (fun ev U h => (h.2.2.2.1 s hs).2.1) ?_
  refine ru_goto (tgt := 14) d_St_coder_10 (by decide) ?_
  refine ru_zret (ty := .byte) d_St_coder_14 rfl rfl ?_
  exact ⟨rfl, rfl⟩
theorem jl_isLatin1 (hs : s < 61) : rx_Calls y_St_isLatin1 M_St_isLatin1 0 0 0 [.ref (30 + s)] σ (fun v τ => v = some (.int 1) ∧ τ = σ) := by
  refine rx_enter (by decide) rfl rfl (Nat.le_of_ble_eq_true rfl) ?_
  refine ru_gets d_St_isLatin1_0 (Or.inl (rx_in (tm_2 (List.mem_of_getElem? (i := 126) rfl)) rfl)) (List.mem_of_getElem? (i := 4) rfl) ?_
  refine ru_if_eq (tgt := 17) d_St_isLatin1_3 (by decide) (fun h3 => absurd h3 (by decide)) (fun h3 => ?_)
  refine ru_aload_n d_St_isLatin1_6 rfl rfl ?_
  refine ru_getO (v := .int (nI 0)) d_St_isLatin1_7 (rx_in (tm_4 (List.mem_of_getElem? (i := 217) rfl)) rfl) (fun ev U h => (h.2.2.2.1 s hs).2.1) ?_
  refine ru_if_ne (tgt := 17) d_St_isLatin1_10 (by decide) (fun h10 => absurd h10 (by decide)) (fun h10 => ?_)
  refine ru_iconst (v := 1) d_St_isLatin1_13 (by decide) ?_
  refine ru_goto (tgt := 18) d_St_isLatin1_14 (by decide) ?_
  refine ru_zret (ty := .boolean) d_St_isLatin1_18 rfl rfl ?_
  exact ⟨rfl, rfl⟩
theorem jl_length (hs : s < 61) : rx_Calls y_St_length M_St_length 1 0 0 [.ref (30 + s)] σ (fun v τ => v = some (.int (nI (rx_sl s))) ∧ τ = σ) := by
  refine rx_enter (by decide) rfl rfl (Nat.le_of_ble_eq_true rfl) ?_
  refine ru_aload_n d_St_length_0 rfl rfl ?_
  refine ru_getO (v := .ref ((100 + s))) d_St_length_1 (rx_in (tm_4 (List.mem_of_getElem? (i := 216) rfl)) rfl) (fun ev U h => (h.2.2.2.1 s hs).2.2.1) ?_
  refine ru_tlen d_St_length_4 (fun ev U h => (h.2.2.2.1 s hs).2.2.2) ?_
  refine ru_aload_n d_St_length_5 rfl rfl ?_
  refine ru_callV (mc := 0) (ms := 0) d_St_length_6 lm_St_335 (jl_coder hs) (rx_recv_tx hs) (by decide) rfl (Nat.le_of_ble_eq_true rfl) ?_
  intro v τ h
  obtain ⟨rfl, rfl⟩ := h
  refine ru_ishr d_St_length_9 ?_
  refine ru_eqi (show nI (rx_sl s) >>> ((0 : Int32) &&& 31) = nI (rx_sl s) from ?_) ?_; exact sh_0 _
  refine ru_iret d_St_length_10 rfl ?_
  exact ⟨rfl, rfl⟩
theorem jl_prCheck {i m : Nat} {f : Value} (hi : i < m) (hm : m < 2 ^ 31) (hf : f = .null ∨ f = .ref 23) : rx_Calls y_Pr_checkIndex M_Pr_checkIndex 0 0 0 [.int (nI i), .int (nI m), f] σ (fun v τ => v = some (.int (nI i)) ∧ τ = σ) := by
  rcases hf with rfl | rfl
  · refine rx_enter (by decide) rfl rfl (Nat.le_of_ble_eq_true rfl) ?_
    refine ru_iload_n d_Pr_checkIndex_0 rfl rfl ?_
    refine ru_if_lt (tgt := 9) d_Pr_checkIndex_1 (by decide) (fun h1 => absurd h1 (nI_pos (by omega))) (fun h1 => ?_)
    replace h1 := nm_nlt (a := i) (b := 0) (by omega) (by omega) h1
    refine ru_iload_n d_Pr_checkIndex_4 rfl rfl ?_
    refine ru_iload_n d_Pr_checkIndex_5 rfl rfl ?_
    refine ru_icmp_lt (tgt := 16) d_Pr_checkIndex_6 (by decide) (fun h6 => ?_) (fun h6 => absurd (by rw [il, nI_toInt (by omega), nI_toInt hm]; omega) h6)
    replace h6 := nm_lt (a := i) (b := m) (by omega) (by omega) h6
    refine ru_iload_n d_Pr_checkIndex_16 rfl rfl ?_
    refine ru_iret d_Pr_checkIndex_17 rfl ?_
    exact ⟨rfl, rfl⟩
  · refine rx_enter (by decide) rfl rfl (Nat.le_of_ble_eq_true rfl) ?_
    refine ru_iload_n d_Pr_checkIndex_0 rfl rfl ?_
    refine ru_if_lt (tgt := 9) d_Pr_checkIndex_1 (by decide) (fun h1 => absurd h1 (nI_pos (by omega))) (fun h1 => ?_)
    replace h1 := nm_nlt (a := i) (b := 0) (by omega) (by omega) h1
    refine ru_iload_n d_Pr_checkIndex_4 rfl rfl ?_
    refine ru_iload_n d_Pr_checkIndex_5 rfl rfl ?_
    refine ru_icmp_lt (tgt := 16) d_Pr_checkIndex_6 (by decide) (fun h6 => ?_) (fun h6 => absurd (by rw [il, nI_toInt (by omega), nI_toInt hm]; omega) h6)
    replace h6 := nm_lt (a := i) (b := m) (by omega) (by omega) h6
    refine ru_iload_n d_Pr_checkIndex_16 rfl rfl ?_
    refine ru_iret d_Pr_checkIndex_17 rfl ?_
    exact ⟨rfl, rfl⟩
theorem jl_check {i m : Nat} (hi : i < m) (hm : m < 2 ^ 31) : rx_Calls y_St_checkIndex M_St_checkIndex 1 0 0 [.int (nI i), .int (nI m)] σ (fun v τ => v = none ∧ τ = σ) := by
  refine rx_enter (by decide) rfl rfl (Nat.le_of_ble_eq_true rfl) ?_
  refine ru_iload_n d_St_checkIndex_0 rfl rfl ?_
  refine ru_iload_n d_St_checkIndex_1 rfl rfl ?_
  refine ru_getsF d_St_checkIndex_2 (rx_in (tm_2 (List.mem_of_getElem? (i := 141) rfl)) rfl) ?_ ?_
  · skip
    refine ru_callS (mc := 0) (ms := 0) d_St_checkIndex_5 lm_St_1059 (jl_prCheck hi hm (by first | exact Or.inl rfl | exact Or.inr rfl)) (by decide) rfl (Nat.le_of_ble_eq_true rfl) ?_
    intro v τ h
    obtain ⟨rfl, rfl⟩ := h
    refine ru_pop d_St_checkIndex_8 rfl ?_
    refine ru_vret d_St_checkIndex_9 rfl ?_
    exact ⟨rfl, rfl⟩
  · skip
    refine ru_callS (mc := 0) (ms := 0) d_St_checkIndex_5 lm_St_1059 (jl_prCheck hi hm (by first | exact Or.inl rfl | exact Or.inr rfl)) (by decide) rfl (Nat.le_of_ble_eq_true rfl) ?_
    intro v τ h
    obtain ⟨rfl, rfl⟩ := h
    refine ru_pop d_St_checkIndex_8 rfl ?_
    refine ru_vret d_St_checkIndex_9 rfl ?_
    exact ⟨rfl, rfl⟩
theorem jl_charAt1 {i : Nat} (hs : s < 61) (hi : i < rx_sl s) : rx_Calls y_S1_charAt M_S1_charAt 2 0 0 [.ref (100 + s), .int (nI i)] σ (fun v τ => v = some (.int (rx_sb s i)) ∧ τ = σ) := by
  refine rx_enter (by decide) rfl rfl (Nat.le_of_ble_eq_true rfl) ?_
  have l := tx_len2 s hs
  have z := tx_all s hs i hi
  refine ru_iload_n d_S1_charAt_0 rfl rfl ?_
  refine ru_aload_n d_S1_charAt_1 rfl rfl ?_
  refine ru_tlen d_S1_charAt_2 (fun ev U h => (h.2.2.2.1 s hs).2.2.2) ?_
  refine ru_callS (mc := 0) (ms := 0) d_S1_charAt_3 lm_S1_9 (jl_check hi (by omega)) (by decide) rfl (Nat.le_of_ble_eq_true rfl) ?_
  intro v τ h
  obtain ⟨rfl, rfl⟩ := h
  refine ru_aload_n d_S1_charAt_6 rfl rfl ?_
  refine ru_iload_n d_S1_charAt_7 rfl rfl ?_
  refine ru_tb (i := i) d_S1_charAt_8 (fun ev U h => (h.2.2.2.1 s hs).2.2.2) (by omega) (by omega) ?_
  refine ru_sipush (v := 255) d_S1_charAt_9 (by decide) ?_
  refine ru_iand d_S1_charAt_12 ?_
  refine ru_eqi (ch_nar z).1 ?_
  refine ru_i2c d_S1_charAt_13 ?_
  refine ru_eqi (ch_nar z).2.1 ?_
  refine ru_zret (ty := .char) d_S1_charAt_14 rfl (ch_narC z) ?_
  exact ⟨rfl, rfl⟩
theorem jl_charAt {i : Nat} (hs : s < 61) (hi : i < rx_sl s) : rx_Calls y_St_charAt M_St_charAt 3 0 0 [.ref (30 + s), .int (nI i)] σ (fun v τ => v = some (.int (rx_sb s i)) ∧ τ = σ) := by
  refine rx_enter (by decide) rfl rfl (Nat.le_of_ble_eq_true rfl) ?_
  have z := tx_all s hs i hi
  refine ru_aload_n d_St_charAt_0 rfl rfl ?_
  refine ru_callV (mc := 0) (ms := 0) d_St_charAt_1 lm_St_492 (jl_isLatin1 hs) (rx_recv_tx hs) (by decide) rfl (Nat.le_of_ble_eq_true rfl) ?_
  rintro v τ ⟨rfl, rfl⟩
  refine ru_if_eq (tgt := 16) d_St_charAt_4 (by decide) (fun h4 => absurd h4 (by decide)) (fun h4 => ?_)
  refine ru_aload_n d_St_charAt_7 rfl rfl ?_
  refine ru_getO (v := .ref ((100 + s))) d_St_charAt_8 (rx_in (tm_4 (List.mem_of_getElem? (i := 216) rfl)) rfl) (fun ev U h => (h.2.2.2.1 s hs).2.2.1) ?_
  refine ru_iload_n d_St_charAt_11 rfl rfl ?_
  refine ru_callS (mc := 0) (ms := 0) d_St_charAt_12 lm_St_495 (jl_charAt1 hs hi) (by decide) rfl (Nat.le_of_ble_eq_true rfl) ?_
  intro v τ h
  obtain ⟨rfl, rfl⟩ := h
  refine ru_zret (ty := .char) d_St_charAt_15 rfl (ch_narC z) ?_
  exact ⟨rfl, rfl⟩
theorem cl_is (hL : LAY nx ct mr) (h : TxC n t mi) (hs : s < 61) : rx_Calls y_Wo_is M_Wo_is 4 0 0 [.ref 266, .ref (30 + s)] (nx, ct, tkM mi n t j, ml, mr) (fun v τ => v = some (.int (bI (isW n t j s))) ∧ τ = (nx, ct, tkM mi n t j, ml, mr)) := by
  refine rx_enter (by decide) rfl rfl (Nat.le_of_ble_eq_true rfl) ?_
  have l := tk_le (n := n) (t := t) j
  have l2 := h.2.2
  have l3 := tx_len2 s hs
  have ht := (h.tk (j := j)).2.1
  have loop : ∀ f i, i ≤ rx_sl s → (tk n t j).2 - (tk n t j).1 = rx_sl s → f = rx_sl s - i → (∀ x, x < i → t ((tk n t j).1 + x) = rx_sb s x) → rx_W M_Wo_is 4 0 0 20 [(0, .ref 266), (1, .ref (30 + s)), (2, .int (nI i))] [] (nx, ct, tkM mi n t j, ml, mr) (pR (fun v τ => v = some (.int (bI (isW n t j s))) ∧ τ = (nx, ct, tkM mi n t j, ml, mr))) := by
    intro f
    induction f with
    | zero =>
      intro i hi hq hf hx
      rw [bI_t (show isW n t j s from ⟨hq, fun x a => hx x (by have : x < rx_sl s := a; omega)⟩)]
      refine ru_iload_n d_Wo_is_20 rfl rfl ?_
      refine ru_aload_n d_Wo_is_21 rfl rfl ?_
      refine ru_callV (mc := 0) (ms := 0) d_Wo_is_22 lm_Wo_38 (jl_length hs) (rx_recv_tx hs) (by decide) rfl (Nat.le_of_ble_eq_true rfl) ?_
      rintro v τ ⟨rfl, rfl⟩
      refine ru_icmp_ge (tgt := 55) d_Wo_is_25 (by decide) (fun h25 => ?_) (fun h25 => absurd (nI_le (by omega) (by omega)) h25)
      replace h25 := nm_le (a := (rx_sl s)) (b := i) (by omega) (by omega) h25
      refine ru_iconst (v := 1) d_Wo_is_55 (by decide) ?_
      refine ru_zret (ty := .boolean) d_Wo_is_56 rfl rfl ?_
      exact ⟨rfl, rfl⟩
    | succ f ih =>
      intro i hi hq hf hx
      refine ru_iload_n d_Wo_is_20 rfl rfl ?_
      refine ru_aload_n d_Wo_is_21 rfl rfl ?_
      refine ru_callV (mc := 0) (ms := 0) d_Wo_is_22 lm_Wo_38 (jl_length hs) (rx_recv_tx hs) (by decide) rfl (Nat.le_of_ble_eq_true rfl) ?_
      rintro v τ ⟨rfl, rfl⟩
      refine ru_icmp_ge (tgt := 55) d_Wo_is_25 (by decide) (fun h25 => absurd h25 (nI_ge (by omega) (by omega))) (fun h25 => ?_)
      replace h25 := nm_nle (a := (rx_sl s)) (b := i) (by omega) (by omega) h25
      refine ru_aload_n d_Wo_is_28 rfl rfl ?_
      refine ru_iload_n d_Wo_is_29 rfl rfl ?_
      refine ru_callV (mc := 0) (ms := 0) d_Wo_is_30 lm_Wo_43 (jl_charAt hs (by omega)) (rx_recv_tx hs) (by decide) rfl (Nat.le_of_ble_eq_true rfl) ?_
      intro v τ h
      obtain ⟨rfl, rfl⟩ := h
      refine ru_aload_n d_Wo_is_33 rfl rfl ?_
      refine ru_getR d_Wo_is_34 lf_Wo_9 (ly hL 266 7 0) rfl (lr hL 266 0 267) ?_
      refine ru_aload_n d_Wo_is_37 rfl rfl ?_
      refine ru_getI d_Wo_is_38 lf_Wo_35 (ly hL 266 7 0) rfl ?_
      refine ru_eqi tkM_2 ?_
      refine ru_iload_n d_Wo_is_41 rfl rfl ?_
      refine ru_iadd d_Wo_is_42 ?_
      refine ru_eqi (nm_add (tk n t j).1 i : _ = nI ((tk n t j).1 + i)) ?_
      refine ru_caldN (j := ((tk n t j).1 + i)) d_Wo_is_43 (ly hL 267 101 3000) (by omega) (by decide) ?_
      rw [ht]
      refine ru_icmp_eq (tgt := 49) d_Wo_is_44 (by decide) (fun h44 => ?_) (fun h44 => ?_)
      · skip
        refine ru_iinc (v := nI (i + 1)) d_Wo_is_49 rfl (nm_inc _ 1) (by decide) ?_
        refine ru_goto (tgt := 20) d_Wo_is_52 (by decide) ?_
        exact ru_to (ih (i + 1) (by omega) hq (by omega) (fun x a => if z : x = i then z ▸ h44.symm else hx x (by omega))) ⟨rfl, rfl, rfl, trivial⟩
      · skip
        refine ru_iconst (v := 0) d_Wo_is_47 (by decide) ?_
        refine ru_zret (ty := .boolean) d_Wo_is_48 rfl rfl ?_
        rw [bI_f (fun z => h44 (z.2 i (show i < rx_sl s by omega)).symm)]
        exact ⟨rfl, rfl⟩
  refine ru_aload_n d_Wo_is_0 rfl rfl ?_
  refine ru_callV (mc := 0) (ms := 0) d_Wo_is_1 lm_Wo_38 (jl_length hs) (rx_recv_tx hs) (by decide) rfl (Nat.le_of_ble_eq_true rfl) ?_
  rintro v τ ⟨rfl, rfl⟩
  refine ru_aload_n d_Wo_is_4 rfl rfl ?_
  refine ru_getI d_Wo_is_5 lf_Wo_23 (ly hL 266 7 0) rfl ?_
  refine ru_eqi tkM_3 ?_
  refine ru_aload_n d_Wo_is_8 rfl rfl ?_
  refine ru_getI d_Wo_is_9 lf_Wo_35 (ly hL 266 7 0) rfl ?_
  refine ru_eqi tkM_2 ?_
  refine ru_isub d_Wo_is_12 ?_
  refine ru_eqi (nm_sub (a := (tk n t j).2) (b := (tk n t j).1) (by omega) : _ = nI ((tk n t j).2 - (tk n t j).1)) ?_
  refine ru_icmp_eq (tgt := 18) d_Wo_is_13 (by decide) (fun h13 => ?_) (fun h13 => ?_)
  · skip
    replace h13 := nm_eq (a := (rx_sl s)) (b := ((tk n t j).2 - (tk n t j).1)) (by omega) (by omega) h13
    refine ru_iconst (v := 0) d_Wo_is_18 (by decide) ?_
    refine ru_istore_n d_Wo_is_19 rfl (by decide) ?_
    exact ru_to (loop (rx_sl s) 0 (by omega) h13.symm rfl (fun x a => by omega)) ⟨rfl, rfl, rfl, trivial⟩
  · skip
    replace h13 := nm_ne (a := (rx_sl s)) (b := ((tk n t j).2 - (tk n t j).1)) (by omega) (by omega) h13
    refine ru_iconst (v := 0) d_Wo_is_16 (by decide) ?_
    refine ru_zret (ty := .boolean) d_Wo_is_17 rfl rfl ?_
    rw [bI_f (fun z => h13 z.1.symm)]
    exact ⟨rfl, rfl⟩
def us (x : Int32) (k : Int32) : Int32 := (x.toUInt32 >>> (k.toUInt32 &&& Int32.toUInt32 31)).toInt32
def bc1 (x : Int32) : Int32 := x - (us x 1 &&& 1431655765)
def bc2 (x : Int32) : Int32 := (x &&& 858993459) + (us x 2 &&& 858993459)
def bc3 (x : Int32) : Int32 := (x + us x 4) &&& 252645135
def bc4 (x : Int32) : Int32 := x + us x 8
def bc5 (x : Int32) : Int32 := x + us x 16
theorem bc_all : ∀ a, a < 128 → ∀ b, b < 64 → (bc5 (bc4 (bc3 (bc2 (bc1 (nI (64 * a + b)))))) &&& 63) = nI (popF 13 (64 * a + b)) := by decide +kernel
theorem jl_bitCount {x : Nat} (hx : x < 8192) : rx_Calls y_In_bitCount M_In_bitCount 0 0 0 [.int (nI x)] σ (fun v τ => v = some (.int (nI (popF 13 x))) ∧ τ = σ) := by
  refine rx_enter (by decide) rfl rfl (Nat.le_of_ble_eq_true rfl) ?_
  have z := bc_all (x / 64) (by omega) (x % 64) (by omega)
  rw [show 64 * (x / 64) + x % 64 = x by omega] at z
  refine ru_iload_n d_In_bitCount_0 rfl rfl ?_
  refine ru_iload_n d_In_bitCount_1 rfl rfl ?_
  refine ru_iconst (v := 1) d_In_bitCount_2 (by decide) ?_
  refine ru_iushr d_In_bitCount_3 ?_
  refine ru_ldcw d_In_bitCount_4 lc_In_265 ?_
  refine ru_iand d_In_bitCount_7 ?_
  refine ru_isub d_In_bitCount_8 ?_
  refine ru_istore_n d_In_bitCount_9 rfl (by decide) ?_
  refine ru_iload_n d_In_bitCount_10 rfl rfl ?_
  refine ru_ldcw d_In_bitCount_11 lc_In_266 ?_
  refine ru_iand d_In_bitCount_14 ?_
  refine ru_iload_n d_In_bitCount_15 rfl rfl ?_
  refine ru_iconst (v := 2) d_In_bitCount_16 (by decide) ?_
  refine ru_iushr d_In_bitCount_17 ?_
  refine ru_ldcw d_In_bitCount_18 lc_In_266 ?_
  refine ru_iand d_In_bitCount_21 ?_
  refine ru_iadd d_In_bitCount_22 ?_
  refine ru_istore_n d_In_bitCount_23 rfl (by decide) ?_
  refine ru_iload_n d_In_bitCount_24 rfl rfl ?_
  refine ru_iload_n d_In_bitCount_25 rfl rfl ?_
  refine ru_iconst (v := 4) d_In_bitCount_26 (by decide) ?_
  refine ru_iushr d_In_bitCount_27 ?_
  refine ru_iadd d_In_bitCount_28 ?_
  refine ru_ldcw d_In_bitCount_29 lc_In_267 ?_
  refine ru_iand d_In_bitCount_32 ?_
  refine ru_istore_n d_In_bitCount_33 rfl (by decide) ?_
  refine ru_iload_n d_In_bitCount_34 rfl rfl ?_
  refine ru_iload_n d_In_bitCount_35 rfl rfl ?_
  refine ru_bipush (v := 8) d_In_bitCount_36 (by decide) ?_
  refine ru_iushr d_In_bitCount_38 ?_
  refine ru_iadd d_In_bitCount_39 ?_
  refine ru_istore_n d_In_bitCount_40 rfl (by decide) ?_
  refine ru_iload_n d_In_bitCount_41 rfl rfl ?_
  refine ru_iload_n d_In_bitCount_42 rfl rfl ?_
  refine ru_bipush (v := 16) d_In_bitCount_43 (by decide) ?_
  refine ru_iushr d_In_bitCount_45 ?_
  refine ru_iadd d_In_bitCount_46 ?_
  refine ru_istore_n d_In_bitCount_47 rfl (by decide) ?_
  refine ru_iload_n d_In_bitCount_48 rfl rfl ?_
  refine ru_bipush (v := 63) d_In_bitCount_49 (by decide) ?_
  refine ru_iand d_In_bitCount_51 ?_
  refine ru_iret d_In_bitCount_52 rfl ?_
  rw [← z]
  exact ⟨rfl, rfl⟩
end
section
variable {nx : Nat} {ct : Nat → Nat × Nat} {mi : Nat → Nat → Int32} {ml : Nat → Nat → Int64} {mr : Nat → Nat → Option Nat} {b : Nat} {L : List ruS}
def kL (L : List ruS) (i : Nat) : Nat := ((L[i]?).map (fun q => q.1)).getD 0
theorem kL_eq {i : Nat} {q : ruS} (h : L[i]? = some q) : kL L i = q.1 := by unfold kL; rw [h]; rfl
theorem sp_kinds (hL : LAY nx ct mr) (hr : mr 256 5 = some b) (hb : isLst b) (hl : LsI mi ml mr b L) : rx_Calls y_RT_kinds M_RT_kinds 1 0 0 [.ref 256] (nx, ct, mi, ml, mr) (fun v τ => v = some (.int (nI (popF 13 (seenF (kL L) L.length 0 0)))) ∧ τ = (nx, ct, mi, ml, mr)) := by
  refine rx_enter (by decide) rfl rfl (Nat.le_of_ble_eq_true rfl) ?_
  have l2 := hl.2.1
  have loop : ∀ f i x, i ≤ L.length → f = L.length - i → x < 8192 → rx_W M_RT_kinds 1 0 0 4 [(0, .ref 256), (1, .int (nI x)), (2, .int (nI i))] [] (nx, ct, mi, ml, mr) (pR (fun v τ => v = some (.int (nI (popF 13 (seenF (kL L) f i x)))) ∧ τ = (nx, ct, mi, ml, mr))) := by
    intro f
    induction f with
    | zero =>
      intro i x hi hf hx
      refine ru_iload_n d_RT_kinds_4 rfl rfl ?_
      refine ru_aload_n d_RT_kinds_5 rfl rfl ?_
      refine ru_getR d_RT_kinds_6 lf_RT_51 (ly hL 256 0 0) rfl hr ?_
      refine ru_getI d_RT_kinds_9 lf_RT_147 (ly_b hL hb) rfl ?_
      refine ru_eqi hl.1 ?_
      refine ru_icmp_ge (tgt := 41) d_RT_kinds_12 (by decide) (fun h12 => ?_) (fun h12 => absurd (nI_le (by omega) (by omega)) h12)
      replace h12 := nm_le (a := L.length) (b := i) (by omega) (by omega) h12
      refine ru_iload_n d_RT_kinds_41 rfl rfl ?_
      refine ru_callS (mc := 0) (ms := 0) d_RT_kinds_42 lm_RT_163 (jl_bitCount hx) (by decide) rfl (Nat.le_of_ble_eq_true rfl) ?_
      intro v τ h
      obtain ⟨rfl, rfl⟩ := h
      refine ru_iret d_RT_kinds_45 rfl ?_
      exact ⟨rfl, rfl⟩
    | succ f ih =>
      intro i x hi hf hx
      obtain ⟨q, hq⟩ := getL (L := L) (i := i) (by omega)
      have c := hl.2.2 i q hq
      have k13 : q.1 < 13 := c.2.1
      unfold seenF
      rw [kL_eq hq]
      refine ru_iload_n d_RT_kinds_4 rfl rfl ?_
      refine ru_aload_n d_RT_kinds_5 rfl rfl ?_
      refine ru_getR d_RT_kinds_6 lf_RT_51 (ly hL 256 0 0) rfl hr ?_
      refine ru_getI d_RT_kinds_9 lf_RT_147 (ly_b hL hb) rfl ?_
      refine ru_eqi hl.1 ?_
      refine ru_icmp_ge (tgt := 41) d_RT_kinds_12 (by decide) (fun h12 => absurd h12 (nI_ge (by omega) (by omega))) (fun h12 => ?_)
      replace h12 := nm_nle (a := L.length) (b := i) (by omega) (by omega) h12
      refine ru_iload_n d_RT_kinds_15 rfl rfl ?_
      refine ru_iconst (v := 1) d_RT_kinds_16 (by decide) ?_
      refine ru_aload_n d_RT_kinds_17 rfl rfl ?_
      refine ru_getR d_RT_kinds_18 lf_RT_51 (ly hL 256 0 0) rfl hr ?_
      refine ru_getR d_RT_kinds_21 lf_RT_89 (ly_b hL hb) rfl (lr_b hL hb) ?_
      refine ru_iload_n d_RT_kinds_24 rfl rfl ?_
      refine ru_aldq (Cn := "RuleText$Rule") d_RT_kinds_25 (ly_bi hL hb) (by decide) (fun _ => rfl) (al_in (by omega)) (al_mr hL hb (by omega)) ?_
      refine ru_getR d_RT_kinds_26 lf_RT_93 (ly_ru hL (isRu_b hb (show i < 60 by omega))) rfl c.1.1 ?_
      refine ru_getO (v := .int (nI q.1)) d_RT_kinds_29 (rx_in (tm_6 (List.mem_of_getElem? (i := 182) rfl)) rfl) (fun ev U h => (h.2.1 q.1 k13).1) ?_
      refine ru_ishl d_RT_kinds_32 ?_
      refine ru_eqi (nm_bit _ k13) ?_
      refine ru_ior d_RT_kinds_33 ?_
      refine ru_eqi (nm_or _ _) ?_
      refine ru_istore_n d_RT_kinds_34 rfl (by decide) ?_
      refine ru_iinc (v := nI (i + 1)) d_RT_kinds_35 rfl (nm_inc _ 1) (by decide) ?_
      refine ru_goto (tgt := 4) d_RT_kinds_38 (by decide) ?_
      exact ru_to (ih (i + 1) _ (by omega) (by omega) (Nat.or_lt_two_pow (n := 13) hx (Nat.pow_lt_pow_right (by decide) k13))) ⟨rfl, rfl, rfl, trivial⟩
  refine ru_iconst (v := 0) d_RT_kinds_0 (by decide) ?_
  refine ru_istore_n d_RT_kinds_1 rfl (by decide) ?_
  refine ru_iconst (v := 0) d_RT_kinds_2 (by decide) ?_
  refine ru_istore_n d_RT_kinds_3 rfl (by decide) ?_
  exact ru_to (loop L.length 0 0 (by omega) rfl (by decide)) ⟨rfl, rfl, rfl, trivial⟩
end
