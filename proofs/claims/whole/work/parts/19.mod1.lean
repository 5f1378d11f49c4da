/-! The reference: its small methods -/
theorem nm_add (a b : Nat) : nI a + nI b = nI (a + b) := nI_add a b
theorem nm_mul (a b : Nat) : nI a * nI b = nI (a * b) := (Int32.ofNat_mul a b).symm
theorem nm_inc (a k : Nat) : nI a + Int32.ofInt k = nI (a + k) := nm_add a k
theorem nm_sub {a b : Nat} (h : b ≤ a) : nI a - nI b = nI (a - b) := by
  have : nI a = nI (a - b) + nI b := by rw [nm_add, Nat.sub_add_cancel h]
  rw [this, Int32.add_sub_cancel]
theorem nm_lt {a b : Nat} (ha : a < 2 ^ 31) (hb : b < 2 ^ 31) (h : nI a < nI b) : a < b := by
  rw [il, nI_toInt ha, nI_toInt hb] at h; omega
theorem nm_nlt {a b : Nat} (ha : a < 2 ^ 31) (hb : b < 2 ^ 31) (h : ¬ nI a < nI b) : b ≤ a := by
  rw [il, nI_toInt ha, nI_toInt hb] at h; omega
theorem nm_le {a b : Nat} (ha : a < 2 ^ 31) (hb : b < 2 ^ 31) (h : nI a ≤ nI b) : a ≤ b := by
  rw [ie, nI_toInt ha, nI_toInt hb] at h; omega
theorem nm_nle {a b : Nat} (ha : a < 2 ^ 31) (hb : b < 2 ^ 31) (h : ¬ nI a ≤ nI b) : b < a := by
  rw [ie, nI_toInt ha, nI_toInt hb] at h; omega
theorem nm_eq {a b : Nat} (ha : a < 2 ^ 31) (hb : b < 2 ^ 31) (h : nI a = nI b) : a = b := by
  rw [iq, nI_toInt ha, nI_toInt hb] at h; omega
theorem nm_ne {a b : Nat} (ha : a < 2 ^ 31) (hb : b < 2 ^ 31) (h : ¬ nI a = nI b) : ¬ a = b := fun q => h (by rw [q])
def isLet (u : Int32) : Prop := 97 ≤ u.toInt ∧ u.toInt ≤ 122
def isDig (u : Int32) : Prop := 48 ≤ u.toInt ∧ u.toInt ≤ 57
def isWS (u : Int32) : Prop := isLet u ∨ isDig u ∨ u.toInt = 46
theorem d_Mo_isLetter_0 : decode M_Mo_isLetter.2.1 0 = .ok (.iload_n 0, 1) := by decide +kernel
theorem d_Mo_isLetter_1 : decode M_Mo_isLetter.2.1 1 = .ok (.bipush 97, 2) := by decide +kernel
theorem d_Mo_isLetter_3 : decode M_Mo_isLetter.2.1 3 = .ok (.if_icmp .lt 13, 3) := by decide +kernel
theorem d_Mo_isLetter_6 : decode M_Mo_isLetter.2.1 6 = .ok (.iload_n 0, 1) := by decide +kernel
theorem d_Mo_isLetter_7 : decode M_Mo_isLetter.2.1 7 = .ok (.bipush 122, 2) := by decide +kernel
theorem d_Mo_isLetter_9 : decode M_Mo_isLetter.2.1 9 = .ok (.if_icmp .gt 7, 3) := by decide +kernel
theorem d_Mo_isLetter_12 : decode M_Mo_isLetter.2.1 12 = .ok (.iconst 1, 1) := by decide +kernel
theorem d_Mo_isLetter_13 : decode M_Mo_isLetter.2.1 13 = .ok (.goto 4, 3) := by decide +kernel
theorem d_Mo_isLetter_16 : decode M_Mo_isLetter.2.1 16 = .ok (.iconst 0, 1) := by decide +kernel
theorem d_Mo_isLetter_17 : decode M_Mo_isLetter.2.1 17 = .ok (.ireturn, 1) := by decide +kernel
theorem d_Mo_isDigit_0 : decode M_Mo_isDigit.2.1 0 = .ok (.iload_n 0, 1) := by decide +kernel
theorem d_Mo_isDigit_1 : decode M_Mo_isDigit.2.1 1 = .ok (.bipush 48, 2) := by decide +kernel
theorem d_Mo_isDigit_3 : decode M_Mo_isDigit.2.1 3 = .ok (.if_icmp .lt 13, 3) := by decide +kernel
theorem d_Mo_isDigit_6 : decode M_Mo_isDigit.2.1 6 = .ok (.iload_n 0, 1) := by decide +kernel
theorem d_Mo_isDigit_7 : decode M_Mo_isDigit.2.1 7 = .ok (.bipush 57, 2) := by decide +kernel
theorem d_Mo_isDigit_9 : decode M_Mo_isDigit.2.1 9 = .ok (.if_icmp .gt 7, 3) := by decide +kernel
theorem d_Mo_isDigit_12 : decode M_Mo_isDigit.2.1 12 = .ok (.iconst 1, 1) := by decide +kernel
theorem d_Mo_isDigit_13 : decode M_Mo_isDigit.2.1 13 = .ok (.goto 4, 3) := by decide +kernel
theorem d_Mo_isDigit_16 : decode M_Mo_isDigit.2.1 16 = .ok (.iconst 0, 1) := by decide +kernel
theorem d_Mo_isDigit_17 : decode M_Mo_isDigit.2.1 17 = .ok (.ireturn, 1) := by decide +kernel
theorem d_Mo_isWordSign_0 : decode M_Mo_isWordSign.2.1 0 = .ok (.iload_n 0, 1) := by decide +kernel
theorem d_Mo_isWordSign_1 : decode M_Mo_isWordSign.2.1 1 = .ok (.invokestatic 43, 3) := by decide +kernel
theorem d_Mo_isWordSign_4 : decode M_Mo_isWordSign.2.1 4 = .ok (.ifCond .ne 16, 3) := by decide +kernel
theorem d_Mo_isWordSign_7 : decode M_Mo_isWordSign.2.1 7 = .ok (.iload_n 0, 1) := by decide +kernel
theorem d_Mo_isWordSign_8 : decode M_Mo_isWordSign.2.1 8 = .ok (.invokestatic 47, 3) := by decide +kernel
theorem d_Mo_isWordSign_11 : decode M_Mo_isWordSign.2.1 11 = .ok (.ifCond .ne 9, 3) := by decide +kernel
theorem d_Mo_isWordSign_14 : decode M_Mo_isWordSign.2.1 14 = .ok (.iload_n 0, 1) := by decide +kernel
theorem d_Mo_isWordSign_15 : decode M_Mo_isWordSign.2.1 15 = .ok (.bipush 46, 2) := by decide +kernel
theorem d_Mo_isWordSign_17 : decode M_Mo_isWordSign.2.1 17 = .ok (.if_icmp .ne 7, 3) := by decide +kernel
theorem d_Mo_isWordSign_20 : decode M_Mo_isWordSign.2.1 20 = .ok (.iconst 1, 1) := by decide +kernel
theorem d_Mo_isWordSign_21 : decode M_Mo_isWordSign.2.1 21 = .ok (.goto 4, 3) := by decide +kernel
theorem d_Mo_isWordSign_24 : decode M_Mo_isWordSign.2.1 24 = .ok (.iconst 0, 1) := by decide +kernel
theorem d_Mo_isWordSign_25 : decode M_Mo_isWordSign.2.1 25 = .ok (.ireturn, 1) := by decide +kernel
theorem d_Mo_good_0 : decode M_Mo_good.2.1 0 = .ok (.aload_n 0, 1) := by decide +kernel
theorem d_Mo_good_1 : decode M_Mo_good.2.1 1 = .ok (.getfield 72, 3) := by decide +kernel
theorem d_Mo_good_4 : decode M_Mo_good.2.1 4 = .ok (.iconst (-1), 1) := by decide +kernel
theorem d_Mo_good_5 : decode M_Mo_good.2.1 5 = .ok (.if_icmp .ne 7, 3) := by decide +kernel
theorem d_Mo_good_8 : decode M_Mo_good.2.1 8 = .ok (.iconst 1, 1) := by decide +kernel
theorem d_Mo_good_9 : decode M_Mo_good.2.1 9 = .ok (.goto 4, 3) := by decide +kernel
theorem d_Mo_good_12 : decode M_Mo_good.2.1 12 = .ok (.iconst 0, 1) := by decide +kernel
theorem d_Mo_good_13 : decode M_Mo_good.2.1 13 = .ok (.ireturn, 1) := by decide +kernel
theorem d_Mo_fail_0 : decode M_Mo_fail.2.1 0 = .ok (.aload_n 0, 1) := by decide +kernel
theorem d_Mo_fail_1 : decode M_Mo_fail.2.1 1 = .ok (.getfield 72, 3) := by decide +kernel
theorem d_Mo_fail_4 : decode M_Mo_fail.2.1 4 = .ok (.iconst (-1), 1) := by decide +kernel
theorem d_Mo_fail_5 : decode M_Mo_fail.2.1 5 = .ok (.if_icmp .ne 8, 3) := by decide +kernel
theorem d_Mo_fail_8 : decode M_Mo_fail.2.1 8 = .ok (.aload_n 0, 1) := by decide +kernel
theorem d_Mo_fail_9 : decode M_Mo_fail.2.1 9 = .ok (.iload_n 1, 1) := by decide +kernel
theorem d_Mo_fail_10 : decode M_Mo_fail.2.1 10 = .ok (.putfield 72, 3) := by decide +kernel
theorem d_Mo_fail_13 : decode M_Mo_fail.2.1 13 = .ok (.return_, 1) := by decide +kernel
theorem d_Mo_length_0 : decode M_Mo_length.2.1 0 = .ok (.aload_n 0, 1) := by decide +kernel
theorem d_Mo_length_1 : decode M_Mo_length.2.1 1 = .ok (.getfield 59, 3) := by decide +kernel
theorem d_Mo_length_4 : decode M_Mo_length.2.1 4 = .ok (.aload_n 0, 1) := by decide +kernel
theorem d_Mo_length_5 : decode M_Mo_length.2.1 5 = .ok (.getfield 53, 3) := by decide +kernel
theorem d_Mo_length_8 : decode M_Mo_length.2.1 8 = .ok (.if_icmp .ge 25, 3) := by decide +kernel
theorem d_Mo_length_11 : decode M_Mo_length.2.1 11 = .ok (.aload_n 0, 1) := by decide +kernel
theorem d_Mo_length_12 : decode M_Mo_length.2.1 12 = .ok (.getfield 33, 3) := by decide +kernel
theorem d_Mo_length_15 : decode M_Mo_length.2.1 15 = .ok (.aload_n 0, 1) := by decide +kernel
theorem d_Mo_length_16 : decode M_Mo_length.2.1 16 = .ok (.getfield 59, 3) := by decide +kernel
theorem d_Mo_length_19 : decode M_Mo_length.2.1 19 = .ok (.iaload, 1) := by decide +kernel
theorem d_Mo_length_20 : decode M_Mo_length.2.1 20 = .ok (.aload_n 0, 1) := by decide +kernel
theorem d_Mo_length_21 : decode M_Mo_length.2.1 21 = .ok (.getfield 30, 3) := by decide +kernel
theorem d_Mo_length_24 : decode M_Mo_length.2.1 24 = .ok (.aload_n 0, 1) := by decide +kernel
theorem d_Mo_length_25 : decode M_Mo_length.2.1 25 = .ok (.getfield 59, 3) := by decide +kernel
theorem d_Mo_length_28 : decode M_Mo_length.2.1 28 = .ok (.iaload, 1) := by decide +kernel
theorem d_Mo_length_29 : decode M_Mo_length.2.1 29 = .ok (.isub, 1) := by decide +kernel
theorem d_Mo_length_30 : decode M_Mo_length.2.1 30 = .ok (.goto 4, 3) := by decide +kernel
theorem d_Mo_length_33 : decode M_Mo_length.2.1 33 = .ok (.iconst 0, 1) := by decide +kernel
theorem d_Mo_length_34 : decode M_Mo_length.2.1 34 = .ok (.ireturn, 1) := by decide +kernel
theorem d_Mo_isRule_0 : decode M_Mo_isRule.2.1 0 = .ok (.iload_n 1, 1) := by decide +kernel
theorem d_Mo_isRule_1 : decode M_Mo_isRule.2.1 1 = .ok (.ifCond .lt 15, 3) := by decide +kernel
theorem d_Mo_isRule_4 : decode M_Mo_isRule.2.1 4 = .ok (.iload_n 1, 1) := by decide +kernel
theorem d_Mo_isRule_5 : decode M_Mo_isRule.2.1 5 = .ok (.aload_n 0, 1) := by decide +kernel
theorem d_Mo_isRule_6 : decode M_Mo_isRule.2.1 6 = .ok (.getfield 189, 3) := by decide +kernel
theorem d_Mo_isRule_9 : decode M_Mo_isRule.2.1 9 = .ok (.if_icmp .ge 7, 3) := by decide +kernel
theorem d_Mo_isRule_12 : decode M_Mo_isRule.2.1 12 = .ok (.iconst 1, 1) := by decide +kernel
theorem d_Mo_isRule_13 : decode M_Mo_isRule.2.1 13 = .ok (.goto 4, 3) := by decide +kernel
theorem d_Mo_isRule_16 : decode M_Mo_isRule.2.1 16 = .ok (.iconst 0, 1) := by decide +kernel
theorem d_Mo_isRule_17 : decode M_Mo_isRule.2.1 17 = .ok (.ireturn, 1) := by decide +kernel
theorem d_Mo_isBare_0 : decode M_Mo_isBare.2.1 0 = .ok (.aload_n 0, 1) := by decide +kernel
theorem d_Mo_isBare_1 : decode M_Mo_isBare.2.1 1 = .ok (.getfield 27, 3) := by decide +kernel
theorem d_Mo_isBare_4 : decode M_Mo_isBare.2.1 4 = .ok (.aload_n 0, 1) := by decide +kernel
theorem d_Mo_isBare_5 : decode M_Mo_isBare.2.1 5 = .ok (.getfield 101, 3) := by decide +kernel
theorem d_Mo_isBare_8 : decode M_Mo_isBare.2.1 8 = .ok (.laload, 1) := by decide +kernel
theorem d_Mo_isBare_9 : decode M_Mo_isBare.2.1 9 = .ok (.ldc2_w 135, 3) := by decide +kernel
theorem d_Mo_isBare_12 : decode M_Mo_isBare.2.1 12 = .ok (.lcmp, 1) := by decide +kernel
theorem d_Mo_isBare_13 : decode M_Mo_isBare.2.1 13 = .ok (.ifCond .eq 19, 3) := by decide +kernel
theorem d_Mo_isBare_16 : decode M_Mo_isBare.2.1 16 = .ok (.aload_n 0, 1) := by decide +kernel
theorem d_Mo_isBare_17 : decode M_Mo_isBare.2.1 17 = .ok (.getfield 27, 3) := by decide +kernel
theorem d_Mo_isBare_20 : decode M_Mo_isBare.2.1 20 = .ok (.aload_n 0, 1) := by decide +kernel
theorem d_Mo_isBare_21 : decode M_Mo_isBare.2.1 21 = .ok (.getfield 101, 3) := by decide +kernel
theorem d_Mo_isBare_24 : decode M_Mo_isBare.2.1 24 = .ok (.laload, 1) := by decide +kernel
theorem d_Mo_isBare_25 : decode M_Mo_isBare.2.1 25 = .ok (.ldc2_w 137, 3) := by decide +kernel
theorem d_Mo_isBare_28 : decode M_Mo_isBare.2.1 28 = .ok (.lcmp, 1) := by decide +kernel
theorem d_Mo_isBare_29 : decode M_Mo_isBare.2.1 29 = .ok (.ifCond .ne 7, 3) := by decide +kernel
theorem d_Mo_isBare_32 : decode M_Mo_isBare.2.1 32 = .ok (.iconst 1, 1) := by decide +kernel
theorem d_Mo_isBare_33 : decode M_Mo_isBare.2.1 33 = .ok (.goto 4, 3) := by decide +kernel
theorem d_Mo_isBare_36 : decode M_Mo_isBare.2.1 36 = .ok (.iconst 0, 1) := by decide +kernel
theorem d_Mo_isBare_37 : decode M_Mo_isBare.2.1 37 = .ok (.ireturn, 1) := by decide +kernel
theorem d_Mo_say_0 : decode M_Mo_say.2.1 0 = .ok (.aload_n 0, 1) := by decide +kernel
theorem d_Mo_say_1 : decode M_Mo_say.2.1 1 = .ok (.getfield 36, 3) := by decide +kernel
theorem d_Mo_say_4 : decode M_Mo_say.2.1 4 = .ok (.aload_n 0, 1) := by decide +kernel
theorem d_Mo_say_5 : decode M_Mo_say.2.1 5 = .ok (.getfield 215, 3) := by decide +kernel
theorem d_Mo_say_8 : decode M_Mo_say.2.1 8 = .ok (.iload_n 1, 1) := by decide +kernel
theorem d_Mo_say_9 : decode M_Mo_say.2.1 9 = .ok (.iastore, 1) := by decide +kernel
theorem d_Mo_say_10 : decode M_Mo_say.2.1 10 = .ok (.aload_n 0, 1) := by decide +kernel
theorem d_Mo_say_11 : decode M_Mo_say.2.1 11 = .ok (.dup, 1) := by decide +kernel
theorem d_Mo_say_12 : decode M_Mo_say.2.1 12 = .ok (.getfield 215, 3) := by decide +kernel
theorem d_Mo_say_15 : decode M_Mo_say.2.1 15 = .ok (.iconst 1, 1) := by decide +kernel
theorem d_Mo_say_16 : decode M_Mo_say.2.1 16 = .ok (.iadd, 1) := by decide +kernel
theorem d_Mo_say_17 : decode M_Mo_say.2.1 17 = .ok (.putfield 215, 3) := by decide +kernel
theorem d_Mo_say_20 : decode M_Mo_say.2.1 20 = .ok (.return_, 1) := by decide +kernel
theorem d_Mo_thrown_0 : decode M_Mo_thrown.2.1 0 = .ok (.aload_n 0, 1) := by decide +kernel
theorem d_Mo_thrown_1 : decode M_Mo_thrown.2.1 1 = .ok (.getfield 39, 3) := by decide +kernel
theorem d_Mo_thrown_4 : decode M_Mo_thrown.2.1 4 = .ok (.ireturn, 1) := by decide +kernel
theorem d_Mo_clear_0 : decode M_Mo_clear.2.1 0 = .ok (.aload_n 0, 1) := by decide +kernel
theorem d_Mo_clear_1 : decode M_Mo_clear.2.1 1 = .ok (.iconst 0, 1) := by decide +kernel
theorem d_Mo_clear_2 : decode M_Mo_clear.2.1 2 = .ok (.putfield 39, 3) := by decide +kernel
theorem d_Mo_clear_5 : decode M_Mo_clear.2.1 5 = .ok (.aload_n 0, 1) := by decide +kernel
theorem d_Mo_clear_6 : decode M_Mo_clear.2.1 6 = .ok (.iconst 0, 1) := by decide +kernel
theorem d_Mo_clear_7 : decode M_Mo_clear.2.1 7 = .ok (.putfield 50, 3) := by decide +kernel
theorem d_Mo_clear_10 : decode M_Mo_clear.2.1 10 = .ok (.return_, 1) := by decide +kernel
theorem d_Mo_unit_0 : decode M_Mo_unit.2.1 0 = .ok (.aload_n 0, 1) := by decide +kernel
theorem d_Mo_unit_1 : decode M_Mo_unit.2.1 1 = .ok (.iconst 0, 1) := by decide +kernel
theorem d_Mo_unit_2 : decode M_Mo_unit.2.1 2 = .ok (.putfield 39, 3) := by decide +kernel
theorem d_Mo_unit_5 : decode M_Mo_unit.2.1 5 = .ok (.iload_n 1, 1) := by decide +kernel
theorem d_Mo_unit_6 : decode M_Mo_unit.2.1 6 = .ok (.invokestatic 43, 3) := by decide +kernel
theorem d_Mo_unit_9 : decode M_Mo_unit.2.1 9 = .ok (.ifCond .ne 34, 3) := by decide +kernel
theorem d_Mo_unit_12 : decode M_Mo_unit.2.1 12 = .ok (.iload_n 1, 1) := by decide +kernel
theorem d_Mo_unit_13 : decode M_Mo_unit.2.1 13 = .ok (.invokestatic 47, 3) := by decide +kernel
theorem d_Mo_unit_16 : decode M_Mo_unit.2.1 16 = .ok (.ifCond .ne 27, 3) := by decide +kernel
theorem d_Mo_unit_19 : decode M_Mo_unit.2.1 19 = .ok (.iload_n 1, 1) := by decide +kernel
theorem d_Mo_unit_20 : decode M_Mo_unit.2.1 20 = .ok (.bipush 10, 2) := by decide +kernel
theorem d_Mo_unit_22 : decode M_Mo_unit.2.1 22 = .ok (.if_icmp .eq 21, 3) := by decide +kernel
theorem d_Mo_unit_25 : decode M_Mo_unit.2.1 25 = .ok (.iload_n 1, 1) := by decide +kernel
theorem d_Mo_unit_26 : decode M_Mo_unit.2.1 26 = .ok (.bipush 32, 2) := by decide +kernel
theorem d_Mo_unit_28 : decode M_Mo_unit.2.1 28 = .ok (.if_icmp .eq 15, 3) := by decide +kernel
theorem d_Mo_unit_31 : decode M_Mo_unit.2.1 31 = .ok (.iload_n 1, 1) := by decide +kernel
theorem d_Mo_unit_32 : decode M_Mo_unit.2.1 32 = .ok (.bipush 46, 2) := by decide +kernel
theorem d_Mo_unit_34 : decode M_Mo_unit.2.1 34 = .ok (.if_icmp .eq 9, 3) := by decide +kernel
theorem d_Mo_unit_37 : decode M_Mo_unit.2.1 37 = .ok (.iload_n 1, 1) := by decide +kernel
theorem d_Mo_unit_38 : decode M_Mo_unit.2.1 38 = .ok (.bipush 59, 2) := by decide +kernel
theorem d_Mo_unit_40 : decode M_Mo_unit.2.1 40 = .ok (.if_icmp .ne 7, 3) := by decide +kernel
theorem d_Mo_unit_43 : decode M_Mo_unit.2.1 43 = .ok (.iconst 1, 1) := by decide +kernel
theorem d_Mo_unit_44 : decode M_Mo_unit.2.1 44 = .ok (.goto 4, 3) := by decide +kernel
theorem d_Mo_unit_47 : decode M_Mo_unit.2.1 47 = .ok (.iconst 0, 1) := by decide +kernel
theorem d_Mo_unit_48 : decode M_Mo_unit.2.1 48 = .ok (.istore_n 2, 1) := by decide +kernel
theorem d_Mo_unit_49 : decode M_Mo_unit.2.1 49 = .ok (.iload_n 2, 1) := by decide +kernel
theorem d_Mo_unit_50 : decode M_Mo_unit.2.1 50 = .ok (.ifCond .eq 13, 3) := by decide +kernel
theorem d_Mo_unit_53 : decode M_Mo_unit.2.1 53 = .ok (.aload_n 0, 1) := by decide +kernel
theorem d_Mo_unit_54 : decode M_Mo_unit.2.1 54 = .ok (.getfield 50, 3) := by decide +kernel
theorem d_Mo_unit_57 : decode M_Mo_unit.2.1 57 = .ok (.sipush 3000, 3) := by decide +kernel
theorem d_Mo_unit_60 : decode M_Mo_unit.2.1 60 = .ok (.if_icmp .ne 5, 3) := by decide +kernel
theorem d_Mo_unit_63 : decode M_Mo_unit.2.1 63 = .ok (.iconst 0, 1) := by decide +kernel
theorem d_Mo_unit_64 : decode M_Mo_unit.2.1 64 = .ok (.ireturn, 1) := by decide +kernel
theorem d_Mo_unit_65 : decode M_Mo_unit.2.1 65 = .ok (.aload_n 0, 1) := by decide +kernel
theorem d_Mo_unit_66 : decode M_Mo_unit.2.1 66 = .ok (.getfield 7, 3) := by decide +kernel
theorem d_Mo_unit_69 : decode M_Mo_unit.2.1 69 = .ok (.aload_n 0, 1) := by decide +kernel
theorem d_Mo_unit_70 : decode M_Mo_unit.2.1 70 = .ok (.getfield 50, 3) := by decide +kernel
theorem d_Mo_unit_73 : decode M_Mo_unit.2.1 73 = .ok (.iload_n 1, 1) := by decide +kernel
theorem d_Mo_unit_74 : decode M_Mo_unit.2.1 74 = .ok (.iastore, 1) := by decide +kernel
theorem d_Mo_unit_75 : decode M_Mo_unit.2.1 75 = .ok (.aload_n 0, 1) := by decide +kernel
theorem d_Mo_unit_76 : decode M_Mo_unit.2.1 76 = .ok (.dup, 1) := by decide +kernel
theorem d_Mo_unit_77 : decode M_Mo_unit.2.1 77 = .ok (.getfield 50, 3) := by decide +kernel
theorem d_Mo_unit_80 : decode M_Mo_unit.2.1 80 = .ok (.iconst 1, 1) := by decide +kernel
theorem d_Mo_unit_81 : decode M_Mo_unit.2.1 81 = .ok (.iadd, 1) := by decide +kernel
theorem d_Mo_unit_82 : decode M_Mo_unit.2.1 82 = .ok (.putfield 50, 3) := by decide +kernel
theorem d_Mo_unit_85 : decode M_Mo_unit.2.1 85 = .ok (.iconst 1, 1) := by decide +kernel
theorem d_Mo_unit_86 : decode M_Mo_unit.2.1 86 = .ok (.ireturn, 1) := by decide +kernel
theorem d_Mo_isAhead_0 : decode M_Mo_isAhead.2.1 0 = .ok (.aload_n 0, 1) := by decide +kernel
theorem d_Mo_isAhead_1 : decode M_Mo_isAhead.2.1 1 = .ok (.getfield 27, 3) := by decide +kernel
theorem d_Mo_isAhead_4 : decode M_Mo_isAhead.2.1 4 = .ok (.bipush 12, 2) := by decide +kernel
theorem d_Mo_isAhead_6 : decode M_Mo_isAhead.2.1 6 = .ok (.iload_n 1, 1) := by decide +kernel
theorem d_Mo_isAhead_7 : decode M_Mo_isAhead.2.1 7 = .ok (.imul, 1) := by decide +kernel
theorem d_Mo_isAhead_8 : decode M_Mo_isAhead.2.1 8 = .ok (.laload, 1) := by decide +kernel
theorem d_Mo_isAhead_9 : decode M_Mo_isAhead.2.1 9 = .ok (.ldc2_w 195, 3) := by decide +kernel
theorem d_Mo_isAhead_12 : decode M_Mo_isAhead.2.1 12 = .ok (.lcmp, 1) := by decide +kernel
theorem d_Mo_isAhead_13 : decode M_Mo_isAhead.2.1 13 = .ok (.ifCond .ne 7, 3) := by decide +kernel
theorem d_Mo_isAhead_16 : decode M_Mo_isAhead.2.1 16 = .ok (.iconst 1, 1) := by decide +kernel
theorem d_Mo_isAhead_17 : decode M_Mo_isAhead.2.1 17 = .ok (.goto 4, 3) := by decide +kernel
theorem d_Mo_isAhead_20 : decode M_Mo_isAhead.2.1 20 = .ok (.iconst 0, 1) := by decide +kernel
theorem d_Mo_isAhead_21 : decode M_Mo_isAhead.2.1 21 = .ok (.istore_n 3, 1) := by decide +kernel
theorem d_Mo_isAhead_22 : decode M_Mo_isAhead.2.1 22 = .ok (.aload_n 0, 1) := by decide +kernel
theorem d_Mo_isAhead_23 : decode M_Mo_isAhead.2.1 23 = .ok (.getfield 27, 3) := by decide +kernel
theorem d_Mo_isAhead_26 : decode M_Mo_isAhead.2.1 26 = .ok (.bipush 12, 2) := by decide +kernel
theorem d_Mo_isAhead_28 : decode M_Mo_isAhead.2.1 28 = .ok (.iload_n 2, 1) := by decide +kernel
theorem d_Mo_isAhead_29 : decode M_Mo_isAhead.2.1 29 = .ok (.imul, 1) := by decide +kernel
theorem d_Mo_isAhead_30 : decode M_Mo_isAhead.2.1 30 = .ok (.laload, 1) := by decide +kernel
theorem d_Mo_isAhead_31 : decode M_Mo_isAhead.2.1 31 = .ok (.ldc2_w 195, 3) := by decide +kernel
theorem d_Mo_isAhead_34 : decode M_Mo_isAhead.2.1 34 = .ok (.lcmp, 1) := by decide +kernel
theorem d_Mo_isAhead_35 : decode M_Mo_isAhead.2.1 35 = .ok (.ifCond .ne 7, 3) := by decide +kernel
theorem d_Mo_isAhead_38 : decode M_Mo_isAhead.2.1 38 = .ok (.iconst 1, 1) := by decide +kernel
theorem d_Mo_isAhead_39 : decode M_Mo_isAhead.2.1 39 = .ok (.goto 4, 3) := by decide +kernel
theorem d_Mo_isAhead_42 : decode M_Mo_isAhead.2.1 42 = .ok (.iconst 0, 1) := by decide +kernel
theorem d_Mo_isAhead_43 : decode M_Mo_isAhead.2.1 43 = .ok (.istore 4, 2) := by decide +kernel
theorem d_Mo_isAhead_45 : decode M_Mo_isAhead.2.1 45 = .ok (.iload_n 3, 1) := by decide +kernel
theorem d_Mo_isAhead_46 : decode M_Mo_isAhead.2.1 46 = .ok (.iload 4, 2) := by decide +kernel
theorem d_Mo_isAhead_48 : decode M_Mo_isAhead.2.1 48 = .ok (.if_icmp .eq 5, 3) := by decide +kernel
theorem d_Mo_isAhead_51 : decode M_Mo_isAhead.2.1 51 = .ok (.iload_n 3, 1) := by decide +kernel
theorem d_Mo_isAhead_52 : decode M_Mo_isAhead.2.1 52 = .ok (.ireturn, 1) := by decide +kernel
theorem d_Mo_isAhead_53 : decode M_Mo_isAhead.2.1 53 = .ok (.aload_n 0, 1) := by decide +kernel
theorem d_Mo_isAhead_54 : decode M_Mo_isAhead.2.1 54 = .ok (.getfield 27, 3) := by decide +kernel
theorem d_Mo_isAhead_57 : decode M_Mo_isAhead.2.1 57 = .ok (.bipush 12, 2) := by decide +kernel
theorem d_Mo_isAhead_59 : decode M_Mo_isAhead.2.1 59 = .ok (.iload_n 1, 1) := by decide +kernel
theorem d_Mo_isAhead_60 : decode M_Mo_isAhead.2.1 60 = .ok (.imul, 1) := by decide +kernel
theorem d_Mo_isAhead_61 : decode M_Mo_isAhead.2.1 61 = .ok (.bipush 7, 2) := by decide +kernel
theorem d_Mo_isAhead_63 : decode M_Mo_isAhead.2.1 63 = .ok (.iadd, 1) := by decide +kernel
theorem d_Mo_isAhead_64 : decode M_Mo_isAhead.2.1 64 = .ok (.laload, 1) := by decide +kernel
theorem d_Mo_isAhead_65 : decode M_Mo_isAhead.2.1 65 = .ok (.aload_n 0, 1) := by decide +kernel
theorem d_Mo_isAhead_66 : decode M_Mo_isAhead.2.1 66 = .ok (.getfield 27, 3) := by decide +kernel
theorem d_Mo_isAhead_69 : decode M_Mo_isAhead.2.1 69 = .ok (.bipush 12, 2) := by decide +kernel
theorem d_Mo_isAhead_71 : decode M_Mo_isAhead.2.1 71 = .ok (.iload_n 2, 1) := by decide +kernel
theorem d_Mo_isAhead_72 : decode M_Mo_isAhead.2.1 72 = .ok (.imul, 1) := by decide +kernel
theorem d_Mo_isAhead_73 : decode M_Mo_isAhead.2.1 73 = .ok (.bipush 7, 2) := by decide +kernel
theorem d_Mo_isAhead_75 : decode M_Mo_isAhead.2.1 75 = .ok (.iadd, 1) := by decide +kernel
theorem d_Mo_isAhead_76 : decode M_Mo_isAhead.2.1 76 = .ok (.laload, 1) := by decide +kernel
theorem d_Mo_isAhead_77 : decode M_Mo_isAhead.2.1 77 = .ok (.lsub, 1) := by decide +kernel
theorem d_Mo_isAhead_78 : decode M_Mo_isAhead.2.1 78 = .ok (.lstore 5, 2) := by decide +kernel
theorem d_Mo_isAhead_80 : decode M_Mo_isAhead.2.1 80 = .ok (.lload 5, 2) := by decide +kernel
theorem d_Mo_isAhead_82 : decode M_Mo_isAhead.2.1 82 = .ok (.lconst 0, 1) := by decide +kernel
theorem d_Mo_isAhead_83 : decode M_Mo_isAhead.2.1 83 = .ok (.lcmp, 1) := by decide +kernel
theorem d_Mo_isAhead_84 : decode M_Mo_isAhead.2.1 84 = .ok (.ifCond .eq 18, 3) := by decide +kernel
theorem d_Mo_isAhead_87 : decode M_Mo_isAhead.2.1 87 = .ok (.lload 5, 2) := by decide +kernel
theorem d_Mo_isAhead_89 : decode M_Mo_isAhead.2.1 89 = .ok (.lconst 0, 1) := by decide +kernel
theorem d_Mo_isAhead_90 : decode M_Mo_isAhead.2.1 90 = .ok (.lcmp, 1) := by decide +kernel
theorem d_Mo_isAhead_91 : decode M_Mo_isAhead.2.1 91 = .ok (.ifCond .le 7, 3) := by decide +kernel
theorem d_Mo_isAhead_94 : decode M_Mo_isAhead.2.1 94 = .ok (.iconst 1, 1) := by decide +kernel
theorem d_Mo_isAhead_95 : decode M_Mo_isAhead.2.1 95 = .ok (.goto 17, 3) := by decide +kernel
theorem d_Mo_isAhead_98 : decode M_Mo_isAhead.2.1 98 = .ok (.iconst 0, 1) := by decide +kernel
theorem d_Mo_isAhead_99 : decode M_Mo_isAhead.2.1 99 = .ok (.goto 13, 3) := by decide +kernel
theorem d_Mo_isAhead_102 : decode M_Mo_isAhead.2.1 102 = .ok (.iload_n 1, 1) := by decide +kernel
theorem d_Mo_isAhead_103 : decode M_Mo_isAhead.2.1 103 = .ok (.iload_n 2, 1) := by decide +kernel
theorem d_Mo_isAhead_104 : decode M_Mo_isAhead.2.1 104 = .ok (.if_icmp .le 7, 3) := by decide +kernel
theorem d_Mo_isAhead_107 : decode M_Mo_isAhead.2.1 107 = .ok (.iconst 1, 1) := by decide +kernel
theorem d_Mo_isAhead_108 : decode M_Mo_isAhead.2.1 108 = .ok (.goto 4, 3) := by decide +kernel
theorem d_Mo_isAhead_111 : decode M_Mo_isAhead.2.1 111 = .ok (.iconst 0, 1) := by decide +kernel
theorem d_Mo_isAhead_112 : decode M_Mo_isAhead.2.1 112 = .ok (.ireturn, 1) := by decide +kernel
section
variable {nx : Nat} {ct : Nat → Nat × Nat} {mi : Nat → Nat → Int32} {ml : Nat → Nat → Int64} {mr : Nat → Nat → Option Nat}
theorem sp_Mo_isLetter (u : Int32) (σ : rx_S) : rx_Calls y_Mo_isLetter M_Mo_isLetter 0 0 0 [.int u] σ (fun v τ => v = some (.int (bI (isLet u))) ∧ τ = σ) := by
  refine rx_enter (by decide) rfl rfl (Nat.le_of_ble_eq_true rfl) ?_
  unfold isLet
  refine ru_iload_n d_Mo_isLetter_0 rfl rfl ?_
  refine ru_bipush (v := 97) d_Mo_isLetter_1 (by decide) ?_
  refine ru_icmp_lt (tgt := 16) d_Mo_isLetter_3 (by decide) (fun h3 => ?_) (fun h3 => ?_)
  · skip
    refine ru_iconst (v := 0) d_Mo_isLetter_16 (by decide) ?_
    refine ru_zret (ty := .boolean) d_Mo_isLetter_17 rfl rfl ?_
    first | (exfalso; ((try simp only [isLet, isDig, isLD, isTC, il, ie, iq, i_m1, i_0, i_1, i_2, i_7, i_8, i_10, i_15, i_32, i_46, i_48, i_57, i_59, i_97, i_122] at *); omega)) | exact ⟨by rw [bI_t (by ((try simp only [isLet, isDig, isLD, isTC, il, ie, iq, i_m1, i_0, i_1, i_2, i_7, i_8, i_10, i_15, i_32, i_46, i_48, i_57, i_59, i_97, i_122] at *); omega))], rfl⟩ | exact ⟨by rw [bI_f (by ((try simp only [isLet, isDig, isLD, isTC, il, ie, iq, i_m1, i_0, i_1, i_2, i_7, i_8, i_10, i_15, i_32, i_46, i_48, i_57, i_59, i_97, i_122] at *); omega))], rfl⟩
  · skip
    refine ru_iload_n d_Mo_isLetter_6 rfl rfl ?_
    refine ru_bipush (v := 122) d_Mo_isLetter_7 (by decide) ?_
    refine ru_icmp_gt (tgt := 16) d_Mo_isLetter_9 (by decide) (fun h9 => ?_) (fun h9 => ?_)
    · skip
      refine ru_iconst (v := 0) d_Mo_isLetter_16 (by decide) ?_
      refine ru_zret (ty := .boolean) d_Mo_isLetter_17 rfl rfl ?_
      first | (exfalso; ((try simp only [isLet, isDig, isLD, isTC, il, ie, iq, i_m1, i_0, i_1, i_2, i_7, i_8, i_10, i_15, i_32, i_46, i_48, i_57, i_59, i_97, i_122] at *); omega)) | exact ⟨by rw [bI_t (by ((try simp only [isLet, isDig, isLD, isTC, il, ie, iq, i_m1, i_0, i_1, i_2, i_7, i_8, i_10, i_15, i_32, i_46, i_48, i_57, i_59, i_97, i_122] at *); omega))], rfl⟩ | exact ⟨by rw [bI_f (by ((try simp only [isLet, isDig, isLD, isTC, il, ie, iq, i_m1, i_0, i_1, i_2, i_7, i_8, i_10, i_15, i_32, i_46, i_48, i_57, i_59, i_97, i_122] at *); omega))], rfl⟩
    · skip
      refine ru_iconst (v := 1) d_Mo_isLetter_12 (by decide) ?_
      refine ru_goto (tgt := 17) d_Mo_isLetter_13 (by decide) ?_
      refine ru_zret (ty := .boolean) d_Mo_isLetter_17 rfl rfl ?_
      first | (exfalso; ((try simp only [isLet, isDig, isLD, isTC, il, ie, iq, i_m1, i_0, i_1, i_2, i_7, i_8, i_10, i_15, i_32, i_46, i_48, i_57, i_59, i_97, i_122] at *); omega)) | exact ⟨by rw [bI_t (by ((try simp only [isLet, isDig, isLD, isTC, il, ie, iq, i_m1, i_0, i_1, i_2, i_7, i_8, i_10, i_15, i_32, i_46, i_48, i_57, i_59, i_97, i_122] at *); omega))], rfl⟩ | exact ⟨by rw [bI_f (by ((try simp only [isLet, isDig, isLD, isTC, il, ie, iq, i_m1, i_0, i_1, i_2, i_7, i_8, i_10, i_15, i_32, i_46, i_48, i_57, i_59, i_97, i_122] at *); omega))], rfl⟩
theorem sp_Mo_isDigit (u : Int32) (σ : rx_S) : rx_Calls y_Mo_isDigit M_Mo_isDigit 0 0 0 [.int u] σ (fun v τ => v = some (.int (bI (isDig u))) ∧ τ = σ) := by
  refine rx_enter (by decide) rfl rfl (Nat.le_of_ble_eq_true rfl) ?_
  unfold isDig
  refine ru_iload_n d_Mo_isDigit_0 rfl rfl ?_
  refine ru_bipush (v := 48) d_Mo_isDigit_1 (by decide) ?_
  refine ru_icmp_lt (tgt := 16) d_Mo_isDigit_3 (by decide) (fun h3 => ?_) (fun h3 => ?_)
  · skip
    refine ru_iconst (v := 0) d_Mo_isDigit_16 (by decide) ?_
    refine ru_zret (ty := .boolean) d_Mo_isDigit_17 rfl rfl ?_
    first | (exfalso; ((try simp only [isLet, isDig, isLD, isTC, il, ie, iq, i_m1, i_0, i_1, i_2, i_7, i_8, i_10, i_15, i_32, i_46, i_48, i_57, i_59, i_97, i_122] at *); omega)) | exact ⟨by rw [bI_t (by ((try simp only [isLet, isDig, isLD, isTC, il, ie, iq, i_m1, i_0, i_1, i_2, i_7, i_8, i_10, i_15, i_32, i_46, i_48, i_57, i_59, i_97, i_122] at *); omega))], rfl⟩ | exact ⟨by rw [bI_f (by ((try simp only [isLet, isDig, isLD, isTC, il, ie, iq, i_m1, i_0, i_1, i_2, i_7, i_8, i_10, i_15, i_32, i_46, i_48, i_57, i_59, i_97, i_122] at *); omega))], rfl⟩
  · skip
    refine ru_iload_n d_Mo_isDigit_6 rfl rfl ?_
    refine ru_bipush (v := 57) d_Mo_isDigit_7 (by decide) ?_
    refine ru_icmp_gt (tgt := 16) d_Mo_isDigit_9 (by decide) (fun h9 => ?_) (fun h9 => ?_)
    · skip
      refine ru_iconst (v := 0) d_Mo_isDigit_16 (by decide) ?_
      refine ru_zret (ty := .boolean) d_Mo_isDigit_17 rfl rfl ?_
      first | (exfalso; ((try simp only [isLet, isDig, isLD, isTC, il, ie, iq, i_m1, i_0, i_1, i_2, i_7, i_8, i_10, i_15, i_32, i_46, i_48, i_57, i_59, i_97, i_122] at *); omega)) | exact ⟨by rw [bI_t (by ((try simp only [isLet, isDig, isLD, isTC, il, ie, iq, i_m1, i_0, i_1, i_2, i_7, i_8, i_10, i_15, i_32, i_46, i_48, i_57, i_59, i_97, i_122] at *); omega))], rfl⟩ | exact ⟨by rw [bI_f (by ((try simp only [isLet, isDig, isLD, isTC, il, ie, iq, i_m1, i_0, i_1, i_2, i_7, i_8, i_10, i_15, i_32, i_46, i_48, i_57, i_59, i_97, i_122] at *); omega))], rfl⟩
    · skip
      refine ru_iconst (v := 1) d_Mo_isDigit_12 (by decide) ?_
      refine ru_goto (tgt := 17) d_Mo_isDigit_13 (by decide) ?_
      refine ru_zret (ty := .boolean) d_Mo_isDigit_17 rfl rfl ?_
      first | (exfalso; ((try simp only [isLet, isDig, isLD, isTC, il, ie, iq, i_m1, i_0, i_1, i_2, i_7, i_8, i_10, i_15, i_32, i_46, i_48, i_57, i_59, i_97, i_122] at *); omega)) | exact ⟨by rw [bI_t (by ((try simp only [isLet, isDig, isLD, isTC, il, ie, iq, i_m1, i_0, i_1, i_2, i_7, i_8, i_10, i_15, i_32, i_46, i_48, i_57, i_59, i_97, i_122] at *); omega))], rfl⟩ | exact ⟨by rw [bI_f (by ((try simp only [isLet, isDig, isLD, isTC, il, ie, iq, i_m1, i_0, i_1, i_2, i_7, i_8, i_10, i_15, i_32, i_46, i_48, i_57, i_59, i_97, i_122] at *); omega))], rfl⟩
theorem sp_Mo_isWordSign (u : Int32) (σ : rx_S) : rx_Calls y_Mo_isWordSign M_Mo_isWordSign 1 0 0 [.int u] σ (fun v τ => v = some (.int (bI (isWS u))) ∧ τ = σ) := by
  refine rx_enter (by decide) rfl rfl (Nat.le_of_ble_eq_true rfl) ?_
  unfold isWS
  refine ru_iload_n d_Mo_isWordSign_0 rfl rfl ?_
  refine ru_callS (mc := 0) (ms := 0) d_Mo_isWordSign_1 lm_Mo_43 (sp_Mo_isLetter u _) (by decide) rfl (by decide) ?_
  intro v τ h
  obtain ⟨rfl, rfl⟩ := h
  refine ru_if_ne (tgt := 20) d_Mo_isWordSign_4 (by decide) (fun h4 => ?_) (fun h4 => ?_)
  · skip
    replace h4 := bI_ne0.mp h4
    refine ru_iconst (v := 1) d_Mo_isWordSign_20 (by decide) ?_
    refine ru_goto (tgt := 25) d_Mo_isWordSign_21 (by decide) ?_
    refine ru_zret (ty := .boolean) d_Mo_isWordSign_25 rfl rfl ?_
    first | (exfalso; ((try simp only [isLet, isDig, isLD, isTC, il, ie, iq, i_m1, i_0, i_1, i_2, i_7, i_8, i_10, i_15, i_32, i_46, i_48, i_57, i_59, i_97, i_122] at *); omega)) | exact ⟨by rw [bI_t (by ((try simp only [isLet, isDig, isLD, isTC, il, ie, iq, i_m1, i_0, i_1, i_2, i_7, i_8, i_10, i_15, i_32, i_46, i_48, i_57, i_59, i_97, i_122] at *); omega))], rfl⟩ | exact ⟨by rw [bI_f (by ((try simp only [isLet, isDig, isLD, isTC, il, ie, iq, i_m1, i_0, i_1, i_2, i_7, i_8, i_10, i_15, i_32, i_46, i_48, i_57, i_59, i_97, i_122] at *); omega))], rfl⟩
  · skip
    replace h4 := bI_eq0.mp h4
    refine ru_iload_n d_Mo_isWordSign_7 rfl rfl ?_
    refine ru_callS (mc := 0) (ms := 0) d_Mo_isWordSign_8 lm_Mo_47 (sp_Mo_isDigit u _) (by decide) rfl (by decide) ?_
    intro v τ h
    obtain ⟨rfl, rfl⟩ := h
    refine ru_if_ne (tgt := 20) d_Mo_isWordSign_11 (by decide) (fun h11 => ?_) (fun h11 => ?_)
    · skip
      replace h11 := bI_ne0.mp h11
      refine ru_iconst (v := 1) d_Mo_isWordSign_20 (by decide) ?_
      refine ru_goto (tgt := 25) d_Mo_isWordSign_21 (by decide) ?_
      refine ru_zret (ty := .boolean) d_Mo_isWordSign_25 rfl rfl ?_
      first | (exfalso; ((try simp only [isLet, isDig, isLD, isTC, il, ie, iq, i_m1, i_0, i_1, i_2, i_7, i_8, i_10, i_15, i_32, i_46, i_48, i_57, i_59, i_97, i_122] at *); omega)) | exact ⟨by rw [bI_t (by ((try simp only [isLet, isDig, isLD, isTC, il, ie, iq, i_m1, i_0, i_1, i_2, i_7, i_8, i_10, i_15, i_32, i_46, i_48, i_57, i_59, i_97, i_122] at *); omega))], rfl⟩ | exact ⟨by rw [bI_f (by ((try simp only [isLet, isDig, isLD, isTC, il, ie, iq, i_m1, i_0, i_1, i_2, i_7, i_8, i_10, i_15, i_32, i_46, i_48, i_57, i_59, i_97, i_122] at *); omega))], rfl⟩
    · skip
      replace h11 := bI_eq0.mp h11
      refine ru_iload_n d_Mo_isWordSign_14 rfl rfl ?_
      refine ru_bipush (v := 46) d_Mo_isWordSign_15 (by decide) ?_
      refine ru_icmp_ne (tgt := 24) d_Mo_isWordSign_17 (by decide) (fun h17 => ?_) (fun h17 => ?_)
      · skip
        refine ru_iconst (v := 0) d_Mo_isWordSign_24 (by decide) ?_
        refine ru_zret (ty := .boolean) d_Mo_isWordSign_25 rfl rfl ?_
        first | (exfalso; ((try simp only [isLet, isDig, isLD, isTC, il, ie, iq, i_m1, i_0, i_1, i_2, i_7, i_8, i_10, i_15, i_32, i_46, i_48, i_57, i_59, i_97, i_122] at *); omega)) | exact ⟨by rw [bI_t (by ((try simp only [isLet, isDig, isLD, isTC, il, ie, iq, i_m1, i_0, i_1, i_2, i_7, i_8, i_10, i_15, i_32, i_46, i_48, i_57, i_59, i_97, i_122] at *); omega))], rfl⟩ | exact ⟨by rw [bI_f (by ((try simp only [isLet, isDig, isLD, isTC, il, ie, iq, i_m1, i_0, i_1, i_2, i_7, i_8, i_10, i_15, i_32, i_46, i_48, i_57, i_59, i_97, i_122] at *); omega))], rfl⟩
      · skip
        refine ru_iconst (v := 1) d_Mo_isWordSign_20 (by decide) ?_
        refine ru_goto (tgt := 25) d_Mo_isWordSign_21 (by decide) ?_
        refine ru_zret (ty := .boolean) d_Mo_isWordSign_25 rfl rfl ?_
        first | (exfalso; ((try simp only [isLet, isDig, isLD, isTC, il, ie, iq, i_m1, i_0, i_1, i_2, i_7, i_8, i_10, i_15, i_32, i_46, i_48, i_57, i_59, i_97, i_122] at *); omega)) | exact ⟨by rw [bI_t (by ((try simp only [isLet, isDig, isLD, isTC, il, ie, iq, i_m1, i_0, i_1, i_2, i_7, i_8, i_10, i_15, i_32, i_46, i_48, i_57, i_59, i_97, i_122] at *); omega))], rfl⟩ | exact ⟨by rw [bI_f (by ((try simp only [isLet, isDig, isLD, isTC, il, ie, iq, i_m1, i_0, i_1, i_2, i_7, i_8, i_10, i_15, i_32, i_46, i_48, i_57, i_59, i_97, i_122] at *); omega))], rfl⟩
theorem sp_Mo_thrown (hL : LAY nx ct mr) : rx_Calls y_Mo_thrown M_Mo_thrown 0 0 0 [.ref 398] (nx, ct, mi, ml, mr) (fun v τ => v = some (.int (mi 398 0)) ∧ τ = (nx, ct, mi, ml, mr)) := by
  refine rx_enter (by decide) rfl rfl (Nat.le_of_ble_eq_true rfl) ?_
  refine ru_aload_n d_Mo_thrown_0 rfl rfl ?_
  refine ru_getI d_Mo_thrown_1 lf_Mo_39 (ly hL 398 9 0) rfl ?_
  refine ru_iret d_Mo_thrown_4 rfl ?_
  exact ⟨rfl, rfl⟩
theorem sp_Mo_clear (hL : LAY nx ct mr) : rx_Calls y_Mo_clear M_Mo_clear 0 0 0 [.ref 398] (nx, ct, mi, ml, mr) (fun v τ => v = none ∧ τ = (nx, ct, rx_u (rx_u mi 398 0 0) 398 2 0, ml, mr)) := by
  refine rx_enter (by decide) rfl rfl (Nat.le_of_ble_eq_true rfl) ?_
  refine ru_aload_n d_Mo_clear_0 rfl rfl ?_
  refine ru_iconst (v := 0) d_Mo_clear_1 (by decide) ?_
  refine ru_putI d_Mo_clear_2 lf_Mo_39 (ly hL 398 9 0) rfl (fun q hq => by cases hq; exact Or.inl rfl) ⟨rfl, rfl⟩ ?_
  refine ru_aload_n d_Mo_clear_5 rfl rfl ?_
  refine ru_iconst (v := 0) d_Mo_clear_6 (by decide) ?_
  refine ru_putI d_Mo_clear_7 lf_Mo_50 (ly hL 398 9 0) rfl (fun q hq => by cases hq; exact Or.inl rfl) ⟨rfl, rfl⟩ ?_
  refine ru_vret d_Mo_clear_10 rfl ?_
  exact ⟨rfl, rfl⟩
theorem sp_Mo_good (hL : LAY nx ct mr) : rx_Calls y_Mo_good M_Mo_good 0 0 0 [.ref 398] (nx, ct, mi, ml, mr) (fun v τ => v = some (.int (bI (mi 398 13 = -1))) ∧ τ = (nx, ct, mi, ml, mr)) := by
  refine rx_enter (by decide) rfl rfl (Nat.le_of_ble_eq_true rfl) ?_
  refine ru_aload_n d_Mo_good_0 rfl rfl ?_
  refine ru_getI d_Mo_good_1 lf_Mo_72 (ly hL 398 9 0) rfl ?_
  refine ru_iconst (v := (-1)) d_Mo_good_4 (by decide) ?_
  refine ru_icmp_ne (tgt := 12) d_Mo_good_5 (by decide) (fun h5 => ?_) (fun h5 => ?_)
  · skip
    refine ru_iconst (v := 0) d_Mo_good_12 (by decide) ?_
    refine ru_zret (ty := .boolean) d_Mo_good_13 rfl rfl ?_
    first | (exfalso; ((try simp only [isLet, isDig, isLD, isTC, il, ie, iq, i_m1, i_0, i_1, i_2, i_7, i_8, i_10, i_15, i_32, i_46, i_48, i_57, i_59, i_97, i_122] at *); omega)) | exact ⟨by rw [bI_t (by ((try simp only [isLet, isDig, isLD, isTC, il, ie, iq, i_m1, i_0, i_1, i_2, i_7, i_8, i_10, i_15, i_32, i_46, i_48, i_57, i_59, i_97, i_122] at *); omega))], rfl⟩ | exact ⟨by rw [bI_f (by ((try simp only [isLet, isDig, isLD, isTC, il, ie, iq, i_m1, i_0, i_1, i_2, i_7, i_8, i_10, i_15, i_32, i_46, i_48, i_57, i_59, i_97, i_122] at *); omega))], rfl⟩
  · skip
    refine ru_iconst (v := 1) d_Mo_good_8 (by decide) ?_
    refine ru_goto (tgt := 13) d_Mo_good_9 (by decide) ?_
    refine ru_zret (ty := .boolean) d_Mo_good_13 rfl rfl ?_
    first | (exfalso; ((try simp only [isLet, isDig, isLD, isTC, il, ie, iq, i_m1, i_0, i_1, i_2, i_7, i_8, i_10, i_15, i_32, i_46, i_48, i_57, i_59, i_97, i_122] at *); omega)) | exact ⟨by rw [bI_t (by ((try simp only [isLet, isDig, isLD, isTC, il, ie, iq, i_m1, i_0, i_1, i_2, i_7, i_8, i_10, i_15, i_32, i_46, i_48, i_57, i_59, i_97, i_122] at *); omega))], rfl⟩ | exact ⟨by rw [bI_f (by ((try simp only [isLet, isDig, isLD, isTC, il, ie, iq, i_m1, i_0, i_1, i_2, i_7, i_8, i_10, i_15, i_32, i_46, i_48, i_57, i_59, i_97, i_122] at *); omega))], rfl⟩
theorem sp_Mo_fail (hL : LAY nx ct mr) (k : Int32) : rx_Calls y_Mo_fail M_Mo_fail 0 0 0 [.ref 398, .int k] (nx, ct, mi, ml, mr) (fun v τ => v = none ∧ τ = (nx, ct, rx_u mi 398 13 (if mi 398 13 = -1 then k else mi 398 13), ml, mr)) := by
  refine rx_enter (by decide) rfl rfl (Nat.le_of_ble_eq_true rfl) ?_
  refine ru_aload_n d_Mo_fail_0 rfl rfl ?_
  refine ru_getI d_Mo_fail_1 lf_Mo_72 (ly hL 398 9 0) rfl ?_
  refine ru_iconst (v := (-1)) d_Mo_fail_4 (by decide) ?_
  refine ru_icmp_ne (tgt := 13) d_Mo_fail_5 (by decide) (fun h5 => ?_) (fun h5 => ?_)
  · skip
    refine ru_vret d_Mo_fail_13 rfl ?_
    first | exact ⟨rfl, by rw [if_pos h5]⟩ | exact ⟨rfl, by rw [if_neg h5, rx_u_id]⟩
  · skip
    refine ru_aload_n d_Mo_fail_8 rfl rfl ?_
    refine ru_iload_n d_Mo_fail_9 rfl rfl ?_
    refine ru_putI d_Mo_fail_10 lf_Mo_72 (ly hL 398 9 0) rfl (fun q hq => by cases hq; exact Or.inl rfl) ⟨rfl, rfl⟩ ?_
    refine ru_vret d_Mo_fail_13 rfl ?_
    first | exact ⟨rfl, by rw [if_pos h5]⟩ | exact ⟨rfl, by rw [if_neg h5, rx_u_id]⟩
theorem sp_Mo_isRule {n : Nat} (hL : LAY nx ct mr) (k : Int32) (hn : mi 398 7 = nI n) (hn2 : n ≤ 60) : rx_Calls y_Mo_isRule M_Mo_isRule 0 0 0 [.ref 398, .int k] (nx, ct, mi, ml, mr) (fun v τ => v = some (.int (bI (0 ≤ k.toInt ∧ k.toInt < n))) ∧ τ = (nx, ct, mi, ml, mr)) := by
  refine rx_enter (by decide) rfl rfl (Nat.le_of_ble_eq_true rfl) ?_
  have hz : (nI n).toInt = n := nI_toInt (by omega)
  refine ru_iload_n d_Mo_isRule_0 rfl rfl ?_
  refine ru_if_lt (tgt := 16) d_Mo_isRule_1 (by decide) (fun h1 => ?_) (fun h1 => ?_)
  · skip
    refine ru_iconst (v := 0) d_Mo_isRule_16 (by decide) ?_
    refine ru_zret (ty := .boolean) d_Mo_isRule_17 rfl rfl ?_
    first | exact ⟨by rw [bI_t (by simp only [il, ie, hz, i_0] at *; omega)], rfl⟩ | exact ⟨by rw [bI_f (by simp only [il, ie, hz, i_0] at *; omega)], rfl⟩
  · skip
    refine ru_iload_n d_Mo_isRule_4 rfl rfl ?_
    refine ru_aload_n d_Mo_isRule_5 rfl rfl ?_
    refine ru_getI d_Mo_isRule_6 lf_Mo_189 (ly hL 398 9 0) rfl ?_
    refine ru_eqi hn ?_
    refine ru_icmp_ge (tgt := 16) d_Mo_isRule_9 (by decide) (fun h9 => ?_) (fun h9 => ?_)
    · skip
      refine ru_iconst (v := 0) d_Mo_isRule_16 (by decide) ?_
      refine ru_zret (ty := .boolean) d_Mo_isRule_17 rfl rfl ?_
      first | exact ⟨by rw [bI_t (by simp only [il, ie, hz, i_0] at *; omega)], rfl⟩ | exact ⟨by rw [bI_f (by simp only [il, ie, hz, i_0] at *; omega)], rfl⟩
    · skip
      refine ru_iconst (v := 1) d_Mo_isRule_12 (by decide) ?_
      refine ru_goto (tgt := 17) d_Mo_isRule_13 (by decide) ?_
      refine ru_zret (ty := .boolean) d_Mo_isRule_17 rfl rfl ?_
      first | exact ⟨by rw [bI_t (by simp only [il, ie, hz, i_0] at *; omega)], rfl⟩ | exact ⟨by rw [bI_f (by simp only [il, ie, hz, i_0] at *; omega)], rfl⟩
theorem sp_Mo_say {p : Nat} (hL : LAY nx ct mr) (u : Int32) (hp : mi 398 16 = nI p) (hp2 : p < 9000) : rx_Calls y_Mo_say M_Mo_say 0 0 0 [.ref 398, .int u] (nx, ct, mi, ml, mr) (fun v τ => v = none ∧ τ = (nx, ct, rx_u (rx_u mi 407 p u) 398 16 (nI (p + 1)), ml, mr)) := by
  refine rx_enter (by decide) rfl rfl (Nat.le_of_ble_eq_true rfl) ?_
  refine ru_aload_n d_Mo_say_0 rfl rfl ?_
  refine ru_getR d_Mo_say_1 lf_Mo_36 (ly hL 398 9 0) rfl (lr hL 398 15 407) ?_
  refine ru_aload_n d_Mo_say_4 rfl rfl ?_
  refine ru_getI d_Mo_say_5 lf_Mo_215 (ly hL 398 9 0) rfl ?_
  refine ru_eqi hp ?_
  refine ru_iload_n d_Mo_say_8 rfl rfl ?_
  refine ru_iastN (j := p) d_Mo_say_9 (ly hL 407 100 9000) (by omega) (by decide) ?_
  refine ru_aload_n d_Mo_say_10 rfl rfl ?_
  refine ru_dup d_Mo_say_11 rfl ?_
  refine ru_getI d_Mo_say_12 lf_Mo_215 (ly hL 398 9 0) rfl ?_
  rw [rx_u_r _ _ (by decide)]
  refine ru_eqi hp ?_
  refine ru_iconst (v := 1) d_Mo_say_15 (by decide) ?_
  refine ru_iadd d_Mo_say_16 ?_
  refine ru_eqi (nm_add p 1 : _ = nI (p + 1)) ?_
  refine ru_putI d_Mo_say_17 lf_Mo_215 (ly hL 398 9 0) rfl (fun q hq => by cases hq; exact Or.inl rfl) ⟨rfl, rfl⟩ ?_
  refine ru_vret d_Mo_say_20 rfl ?_
  exact ⟨rfl, rfl⟩
theorem sp_Mo_unit {n : Nat} (u : Int32) (hL : LAY nx ct mr) (hn : mi 398 2 = nI n) (hn2 : n ≤ 3000) : rx_Calls y_Mo_unit M_Mo_unit 1 0 0 [.ref 398, .int u] (nx, ct, mi, ml, mr) (fun v τ => v = some (.int (bI (isTC u ∧ n < 3000))) ∧ τ = (nx, ct, @ite _ (isTC u ∧ n < 3000) (Classical.propDecidable _) (rx_u (rx_u (rx_u mi 398 0 0) 399 n u) 398 2 (nI (n + 1))) (rx_u mi 398 0 0), ml, mr)) := by
  refine rx_enter (by decide) rfl rfl (Nat.le_of_ble_eq_true rfl) ?_
  have fin : ∀ g : Int32, g = bI (isTC u) → rx_W M_Mo_unit 1 0 0 49 [(0, .ref 398), (1, .int u), (2, .int g)] [] (nx, ct, rx_u mi 398 0 0, ml, mr) (pR (fun v τ => v = some (.int (bI (isTC u ∧ n < 3000))) ∧ τ = (nx, ct, @ite _ (isTC u ∧ n < 3000) (Classical.propDecidable _) (rx_u (rx_u (rx_u mi 398 0 0) 399 n u) 398 2 (nI (n + 1))) (rx_u mi 398 0 0), ml, mr))) := by
    intro g hg
    subst hg
    refine ru_iload_n d_Mo_unit_49 rfl rfl ?_
    refine ru_if_eq (tgt := 63) d_Mo_unit_50 (by decide) (fun h50 => ?_) (fun h50 => ?_)
    · skip
      replace h50 := bI_eq0.mp h50
      refine ru_iconst (v := 0) d_Mo_unit_63 (by decide) ?_
      refine ru_zret (ty := .boolean) d_Mo_unit_64 rfl rfl ?_
      first | (have q : isTC u ∧ n < 3000 := ⟨h50, by omega⟩; rw [bI_t q, if_pos q]; exact ⟨rfl, rfl⟩) | (have q : ¬ (isTC u ∧ n < 3000) := fun q => h50 q.1; rw [bI_f q, if_neg q]; exact ⟨rfl, rfl⟩) | (have q : ¬ (isTC u ∧ n < 3000) := (fun q => by omega); rw [bI_f q, if_neg q]; exact ⟨rfl, rfl⟩)
    · skip
      replace h50 := bI_ne0.mp h50
      refine ru_aload_n d_Mo_unit_53 rfl rfl ?_
      refine ru_getI d_Mo_unit_54 lf_Mo_50 (ly hL 398 9 0) rfl ?_
      rw [rx_u_k _ _ (by decide)]
      refine ru_eqi hn ?_
      refine ru_sipush (v := 3000) d_Mo_unit_57 (by decide) ?_
      refine ru_icmp_ne (tgt := 65) d_Mo_unit_60 (by decide) (fun h60 => ?_) (fun h60 => ?_)
      · skip
        replace h60 := nm_ne (a := n) (b := 3000) (by omega) (by omega) h60
        refine ru_aload_n d_Mo_unit_65 rfl rfl ?_
        refine ru_getR d_Mo_unit_66 lf_Mo_7 (ly hL 398 9 0) rfl (lr hL 398 1 399) ?_
        refine ru_aload_n d_Mo_unit_69 rfl rfl ?_
        refine ru_getI d_Mo_unit_70 lf_Mo_50 (ly hL 398 9 0) rfl ?_
        rw [rx_u_k _ _ (by decide)]
        refine ru_eqi hn ?_
        refine ru_iload_n d_Mo_unit_73 rfl rfl ?_
        refine ru_iastN (j := n) d_Mo_unit_74 (ly hL 399 100 3000) (by omega) (by decide) ?_
        refine ru_aload_n d_Mo_unit_75 rfl rfl ?_
        refine ru_dup d_Mo_unit_76 rfl ?_
        refine ru_getI d_Mo_unit_77 lf_Mo_50 (ly hL 398 9 0) rfl ?_
        rw [rx_u_r _ _ (by decide), rx_u_k _ _ (by decide)]
        refine ru_eqi hn ?_
        refine ru_iconst (v := 1) d_Mo_unit_80 (by decide) ?_
        refine ru_iadd d_Mo_unit_81 ?_
        refine ru_eqi (nm_add n 1 : _ = nI (n + 1)) ?_
        refine ru_putI d_Mo_unit_82 lf_Mo_50 (ly hL 398 9 0) rfl (fun q hq => by cases hq; exact Or.inl rfl) ⟨rfl, rfl⟩ ?_
        refine ru_iconst (v := 1) d_Mo_unit_85 (by decide) ?_
        refine ru_zret (ty := .boolean) d_Mo_unit_86 rfl rfl ?_
        first | (have q : isTC u ∧ n < 3000 := ⟨h50, by omega⟩; rw [bI_t q, if_pos q]; exact ⟨rfl, rfl⟩) | (have q : ¬ (isTC u ∧ n < 3000) := fun q => h50 q.1; rw [bI_f q, if_neg q]; exact ⟨rfl, rfl⟩) | (have q : ¬ (isTC u ∧ n < 3000) := (fun q => by omega); rw [bI_f q, if_neg q]; exact ⟨rfl, rfl⟩)
      · skip
        replace h60 := nm_eq (a := n) (b := 3000) (by omega) (by omega) h60
        refine ru_iconst (v := 0) d_Mo_unit_63 (by decide) ?_
        refine ru_zret (ty := .boolean) d_Mo_unit_64 rfl rfl ?_
        first | (have q : isTC u ∧ n < 3000 := ⟨h50, by omega⟩; rw [bI_t q, if_pos q]; exact ⟨rfl, rfl⟩) | (have q : ¬ (isTC u ∧ n < 3000) := fun q => h50 q.1; rw [bI_f q, if_neg q]; exact ⟨rfl, rfl⟩) | (have q : ¬ (isTC u ∧ n < 3000) := (fun q => by omega); rw [bI_f q, if_neg q]; exact ⟨rfl, rfl⟩)
  refine ru_aload_n d_Mo_unit_0 rfl rfl ?_
  refine ru_iconst (v := 0) d_Mo_unit_1 (by decide) ?_
  refine ru_putI d_Mo_unit_2 lf_Mo_39 (ly hL 398 9 0) rfl (fun q hq => by cases hq; exact Or.inl rfl) ⟨rfl, rfl⟩ ?_
  refine ru_iload_n d_Mo_unit_5 rfl rfl ?_
  refine ru_callS (mc := 0) (ms := 0) d_Mo_unit_6 lm_Mo_43 (sp_Mo_isLetter u _) (by decide) rfl (by decide) ?_
  intro v τ h
  obtain ⟨rfl, rfl⟩ := h
  refine ru_if_ne (tgt := 43) d_Mo_unit_9 (by decide) (fun h9 => ?_) (fun h9 => ?_)
  · skip
    replace h9 := bI_ne0.mp h9
    refine ru_iconst (v := 1) d_Mo_unit_43 (by decide) ?_
    refine ru_goto (tgt := 48) d_Mo_unit_44 (by decide) ?_
    refine ru_istore_n d_Mo_unit_48 rfl (by decide) ?_
    refine ru_to (fin _ ?_) ⟨rfl, rfl, rfl, trivial⟩
    first | (rw [bI_t (p := isTC u) (by ((try simp only [isLet, isDig, isLD, isTC, il, ie, iq, i_m1, i_0, i_1, i_2, i_7, i_8, i_10, i_15, i_32, i_46, i_48, i_57, i_59, i_97, i_122] at *); omega))]) | (rw [bI_f (p := isTC u) (by ((try simp only [isLet, isDig, isLD, isTC, il, ie, iq, i_m1, i_0, i_1, i_2, i_7, i_8, i_10, i_15, i_32, i_46, i_48, i_57, i_59, i_97, i_122] at *); omega))])
  · skip
    replace h9 := bI_eq0.mp h9
    refine ru_iload_n d_Mo_unit_12 rfl rfl ?_
    refine ru_callS (mc := 0) (ms := 0) d_Mo_unit_13 lm_Mo_47 (sp_Mo_isDigit u _) (by decide) rfl (by decide) ?_
    intro v τ h
    obtain ⟨rfl, rfl⟩ := h
    refine ru_if_ne (tgt := 43) d_Mo_unit_16 (by decide) (fun h16 => ?_) (fun h16 => ?_)
    · skip
      replace h16 := bI_ne0.mp h16
      refine ru_iconst (v := 1) d_Mo_unit_43 (by decide) ?_
      refine ru_goto (tgt := 48) d_Mo_unit_44 (by decide) ?_
      refine ru_istore_n d_Mo_unit_48 rfl (by decide) ?_
      refine ru_to (fin _ ?_) ⟨rfl, rfl, rfl, trivial⟩
      first | (rw [bI_t (p := isTC u) (by ((try simp only [isLet, isDig, isLD, isTC, il, ie, iq, i_m1, i_0, i_1, i_2, i_7, i_8, i_10, i_15, i_32, i_46, i_48, i_57, i_59, i_97, i_122] at *); omega))]) | (rw [bI_f (p := isTC u) (by ((try simp only [isLet, isDig, isLD, isTC, il, ie, iq, i_m1, i_0, i_1, i_2, i_7, i_8, i_10, i_15, i_32, i_46, i_48, i_57, i_59, i_97, i_122] at *); omega))])
    · skip
      replace h16 := bI_eq0.mp h16
      refine ru_iload_n d_Mo_unit_19 rfl rfl ?_
      refine ru_bipush (v := 10) d_Mo_unit_20 (by decide) ?_
      refine ru_icmp_eq (tgt := 43) d_Mo_unit_22 (by decide) (fun h22 => ?_) (fun h22 => ?_)
      · skip
        refine ru_iconst (v := 1) d_Mo_unit_43 (by decide) ?_
        refine ru_goto (tgt := 48) d_Mo_unit_44 (by decide) ?_
        refine ru_istore_n d_Mo_unit_48 rfl (by decide) ?_
        refine ru_to (fin _ ?_) ⟨rfl, rfl, rfl, trivial⟩
        first | (rw [bI_t (p := isTC u) (by ((try simp only [isLet, isDig, isLD, isTC, il, ie, iq, i_m1, i_0, i_1, i_2, i_7, i_8, i_10, i_15, i_32, i_46, i_48, i_57, i_59, i_97, i_122] at *); omega))]) | (rw [bI_f (p := isTC u) (by ((try simp only [isLet, isDig, isLD, isTC, il, ie, iq, i_m1, i_0, i_1, i_2, i_7, i_8, i_10, i_15, i_32, i_46, i_48, i_57, i_59, i_97, i_122] at *); omega))])
      · skip
        refine ru_iload_n d_Mo_unit_25 rfl rfl ?_
        refine ru_bipush (v := 32) d_Mo_unit_26 (by decide) ?_
        refine ru_icmp_eq (tgt := 43) d_Mo_unit_28 (by decide) (fun h28 => ?_) (fun h28 => ?_)
        · skip
          refine ru_iconst (v := 1) d_Mo_unit_43 (by decide) ?_
          refine ru_goto (tgt := 48) d_Mo_unit_44 (by decide) ?_
          refine ru_istore_n d_Mo_unit_48 rfl (by decide) ?_
          refine ru_to (fin _ ?_) ⟨rfl, rfl, rfl, trivial⟩
          first | (rw [bI_t (p := isTC u) (by ((try simp only [isLet, isDig, isLD, isTC, il, ie, iq, i_m1, i_0, i_1, i_2, i_7, i_8, i_10, i_15, i_32, i_46, i_48, i_57, i_59, i_97, i_122] at *); omega))]) | (rw [bI_f (p := isTC u) (by ((try simp only [isLet, isDig, isLD, isTC, il, ie, iq, i_m1, i_0, i_1, i_2, i_7, i_8, i_10, i_15, i_32, i_46, i_48, i_57, i_59, i_97, i_122] at *); omega))])
        · skip
          refine ru_iload_n d_Mo_unit_31 rfl rfl ?_
          refine ru_bipush (v := 46) d_Mo_unit_32 (by decide) ?_
          refine ru_icmp_eq (tgt := 43) d_Mo_unit_34 (by decide) (fun h34 => ?_) (fun h34 => ?_)
          · skip
            refine ru_iconst (v := 1) d_Mo_unit_43 (by decide) ?_
            refine ru_goto (tgt := 48) d_Mo_unit_44 (by decide) ?_
            refine ru_istore_n d_Mo_unit_48 rfl (by decide) ?_
            refine ru_to (fin _ ?_) ⟨rfl, rfl, rfl, trivial⟩
            first | (rw [bI_t (p := isTC u) (by ((try simp only [isLet, isDig, isLD, isTC, il, ie, iq, i_m1, i_0, i_1, i_2, i_7, i_8, i_10, i_15, i_32, i_46, i_48, i_57, i_59, i_97, i_122] at *); omega))]) | (rw [bI_f (p := isTC u) (by ((try simp only [isLet, isDig, isLD, isTC, il, ie, iq, i_m1, i_0, i_1, i_2, i_7, i_8, i_10, i_15, i_32, i_46, i_48, i_57, i_59, i_97, i_122] at *); omega))])
          · skip
            refine ru_iload_n d_Mo_unit_37 rfl rfl ?_
            refine ru_bipush (v := 59) d_Mo_unit_38 (by decide) ?_
            refine ru_icmp_ne (tgt := 47) d_Mo_unit_40 (by decide) (fun h40 => ?_) (fun h40 => ?_)
            · skip
              refine ru_iconst (v := 0) d_Mo_unit_47 (by decide) ?_
              refine ru_istore_n d_Mo_unit_48 rfl (by decide) ?_
              refine ru_to (fin _ ?_) ⟨rfl, rfl, rfl, trivial⟩
              first | (rw [bI_t (p := isTC u) (by ((try simp only [isLet, isDig, isLD, isTC, il, ie, iq, i_m1, i_0, i_1, i_2, i_7, i_8, i_10, i_15, i_32, i_46, i_48, i_57, i_59, i_97, i_122] at *); omega))]) | (rw [bI_f (p := isTC u) (by ((try simp only [isLet, isDig, isLD, isTC, il, ie, iq, i_m1, i_0, i_1, i_2, i_7, i_8, i_10, i_15, i_32, i_46, i_48, i_57, i_59, i_97, i_122] at *); omega))])
            · skip
              refine ru_iconst (v := 1) d_Mo_unit_43 (by decide) ?_
              refine ru_goto (tgt := 48) d_Mo_unit_44 (by decide) ?_
              refine ru_istore_n d_Mo_unit_48 rfl (by decide) ?_
              refine ru_to (fin _ ?_) ⟨rfl, rfl, rfl, trivial⟩
              first | (rw [bI_t (p := isTC u) (by ((try simp only [isLet, isDig, isLD, isTC, il, ie, iq, i_m1, i_0, i_1, i_2, i_7, i_8, i_10, i_15, i_32, i_46, i_48, i_57, i_59, i_97, i_122] at *); omega))]) | (rw [bI_f (p := isTC u) (by ((try simp only [isLet, isDig, isLD, isTC, il, ie, iq, i_m1, i_0, i_1, i_2, i_7, i_8, i_10, i_15, i_32, i_46, i_48, i_57, i_59, i_97, i_122] at *); omega))])
end
