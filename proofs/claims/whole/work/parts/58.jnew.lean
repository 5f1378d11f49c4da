/-! ROWS: new arrays; the builder's helpers -/
theorem d_AB_isLatin1_0 : decode M_AB_isLatin1.2.1 0 = .ok (.getstatic 18, 3) := by decide +kernel
theorem d_AB_isLatin1_3 : decode M_AB_isLatin1.2.1 3 = .ok (.ifCond .eq 14, 3) := by decide +kernel
theorem d_AB_isLatin1_6 : decode M_AB_isLatin1.2.1 6 = .ok (.aload_n 0, 1) := by decide +kernel
theorem d_AB_isLatin1_7 : decode M_AB_isLatin1.2.1 7 = .ok (.getfield 22, 3) := by decide +kernel
theorem d_AB_isLatin1_10 : decode M_AB_isLatin1.2.1 10 = .ok (.ifCond .ne 7, 3) := by decide +kernel
theorem d_AB_isLatin1_13 : decode M_AB_isLatin1.2.1 13 = .ok (.iconst 1, 1) := by decide +kernel
theorem d_AB_isLatin1_14 : decode M_AB_isLatin1.2.1 14 = .ok (.goto 4, 3) := by decide +kernel
theorem d_AB_isLatin1_17 : decode M_AB_isLatin1.2.1 17 = .ok (.iconst 0, 1) := by decide +kernel
theorem d_AB_isLatin1_18 : decode M_AB_isLatin1.2.1 18 = .ok (.ireturn, 1) := by decide +kernel
theorem d_AB_newCapacity_0 : decode M_AB_newCapacity.2.1 0 = .ok (.aload_n 0, 1) := by decide +kernel
theorem d_AB_newCapacity_1 : decode M_AB_newCapacity.2.1 1 = .ok (.getfield 15, 3) := by decide +kernel
theorem d_AB_newCapacity_4 : decode M_AB_newCapacity.2.1 4 = .ok (.arraylength, 1) := by decide +kernel
theorem d_AB_newCapacity_5 : decode M_AB_newCapacity.2.1 5 = .ok (.istore_n 2, 1) := by decide +kernel
theorem d_AB_newCapacity_6 : decode M_AB_newCapacity.2.1 6 = .ok (.iload_n 1, 1) := by decide +kernel
theorem d_AB_newCapacity_7 : decode M_AB_newCapacity.2.1 7 = .ok (.aload_n 0, 1) := by decide +kernel
theorem d_AB_newCapacity_8 : decode M_AB_newCapacity.2.1 8 = .ok (.getfield 22, 3) := by decide +kernel
theorem d_AB_newCapacity_11 : decode M_AB_newCapacity.2.1 11 = .ok (.ishl, 1) := by decide +kernel
theorem d_AB_newCapacity_12 : decode M_AB_newCapacity.2.1 12 = .ok (.istore_n 3, 1) := by decide +kernel
theorem d_AB_newCapacity_13 : decode M_AB_newCapacity.2.1 13 = .ok (.iload_n 3, 1) := by decide +kernel
theorem d_AB_newCapacity_14 : decode M_AB_newCapacity.2.1 14 = .ok (.iload_n 2, 1) := by decide +kernel
theorem d_AB_newCapacity_15 : decode M_AB_newCapacity.2.1 15 = .ok (.isub, 1) := by decide +kernel
theorem d_AB_newCapacity_16 : decode M_AB_newCapacity.2.1 16 = .ok (.istore 4, 2) := by decide +kernel
theorem d_AB_newCapacity_18 : decode M_AB_newCapacity.2.1 18 = .ok (.iload_n 2, 1) := by decide +kernel
theorem d_AB_newCapacity_19 : decode M_AB_newCapacity.2.1 19 = .ok (.iload 4, 2) := by decide +kernel
theorem d_AB_newCapacity_21 : decode M_AB_newCapacity.2.1 21 = .ok (.iload_n 2, 1) := by decide +kernel
theorem d_AB_newCapacity_22 : decode M_AB_newCapacity.2.1 22 = .ok (.iconst 2, 1) := by decide +kernel
theorem d_AB_newCapacity_23 : decode M_AB_newCapacity.2.1 23 = .ok (.aload_n 0, 1) := by decide +kernel
theorem d_AB_newCapacity_24 : decode M_AB_newCapacity.2.1 24 = .ok (.getfield 22, 3) := by decide +kernel
theorem d_AB_newCapacity_27 : decode M_AB_newCapacity.2.1 27 = .ok (.ishl, 1) := by decide +kernel
theorem d_AB_newCapacity_28 : decode M_AB_newCapacity.2.1 28 = .ok (.iadd, 1) := by decide +kernel
theorem d_AB_newCapacity_29 : decode M_AB_newCapacity.2.1 29 = .ok (.invokestatic 114, 3) := by decide +kernel
theorem d_AB_newCapacity_32 : decode M_AB_newCapacity.2.1 32 = .ok (.istore 5, 2) := by decide +kernel
theorem d_AB_newCapacity_34 : decode M_AB_newCapacity.2.1 34 = .ok (.iload 5, 2) := by decide +kernel
theorem d_AB_newCapacity_36 : decode M_AB_newCapacity.2.1 36 = .ok (.ldc 39, 2) := by decide +kernel
theorem d_AB_newCapacity_38 : decode M_AB_newCapacity.2.1 38 = .ok (.if_icmp .ne 13, 3) := by decide +kernel
theorem d_AB_newCapacity_41 : decode M_AB_newCapacity.2.1 41 = .ok (.new 120, 3) := by decide +kernel
theorem d_AB_newCapacity_44 : decode M_AB_newCapacity.2.1 44 = .ok (.dup, 1) := by decide +kernel
theorem d_AB_newCapacity_45 : decode M_AB_newCapacity.2.1 45 = .ok (.ldc 122, 2) := by decide +kernel
theorem d_AB_newCapacity_47 : decode M_AB_newCapacity.2.1 47 = .ok (.invokespecial 124, 3) := by decide +kernel
theorem d_AB_newCapacity_50 : decode M_AB_newCapacity.2.1 50 = .ok (.athrow, 1) := by decide +kernel
theorem d_AB_newCapacity_51 : decode M_AB_newCapacity.2.1 51 = .ok (.iload 5, 2) := by decide +kernel
theorem d_AB_newCapacity_53 : decode M_AB_newCapacity.2.1 53 = .ok (.aload_n 0, 1) := by decide +kernel
theorem d_AB_newCapacity_54 : decode M_AB_newCapacity.2.1 54 = .ok (.getfield 22, 3) := by decide +kernel
theorem d_AB_newCapacity_57 : decode M_AB_newCapacity.2.1 57 = .ok (.ishr, 1) := by decide +kernel
theorem d_AB_newCapacity_58 : decode M_AB_newCapacity.2.1 58 = .ok (.ireturn, 1) := by decide +kernel
theorem d_AS_newLength_0 : decode M_AS_newLength.2.1 0 = .ok (.iload_n 0, 1) := by decide +kernel
theorem d_AS_newLength_1 : decode M_AS_newLength.2.1 1 = .ok (.iload_n 1, 1) := by decide +kernel
theorem d_AS_newLength_2 : decode M_AS_newLength.2.1 2 = .ok (.iload_n 2, 1) := by decide +kernel
theorem d_AS_newLength_3 : decode M_AS_newLength.2.1 3 = .ok (.invokestatic 194, 3) := by decide +kernel
theorem d_AS_newLength_6 : decode M_AS_newLength.2.1 6 = .ok (.iadd, 1) := by decide +kernel
theorem d_AS_newLength_7 : decode M_AS_newLength.2.1 7 = .ok (.istore_n 3, 1) := by decide +kernel
theorem d_AS_newLength_8 : decode M_AS_newLength.2.1 8 = .ok (.iconst 0, 1) := by decide +kernel
theorem d_AS_newLength_9 : decode M_AS_newLength.2.1 9 = .ok (.iload_n 3, 1) := by decide +kernel
theorem d_AS_newLength_10 : decode M_AS_newLength.2.1 10 = .ok (.if_icmp .ge 11, 3) := by decide +kernel
theorem d_AS_newLength_13 : decode M_AS_newLength.2.1 13 = .ok (.iload_n 3, 1) := by decide +kernel
theorem d_AS_newLength_14 : decode M_AS_newLength.2.1 14 = .ok (.ldc 200, 2) := by decide +kernel
theorem d_AS_newLength_16 : decode M_AS_newLength.2.1 16 = .ok (.if_icmp .gt 5, 3) := by decide +kernel
theorem d_AS_newLength_19 : decode M_AS_newLength.2.1 19 = .ok (.iload_n 3, 1) := by decide +kernel
theorem d_AS_newLength_20 : decode M_AS_newLength.2.1 20 = .ok (.ireturn, 1) := by decide +kernel
theorem d_AS_newLength_21 : decode M_AS_newLength.2.1 21 = .ok (.iload_n 0, 1) := by decide +kernel
theorem d_AS_newLength_22 : decode M_AS_newLength.2.1 22 = .ok (.iload_n 1, 1) := by decide +kernel
theorem d_AS_newLength_23 : decode M_AS_newLength.2.1 23 = .ok (.invokestatic 201, 3) := by decide +kernel
theorem d_AS_newLength_26 : decode M_AS_newLength.2.1 26 = .ok (.ireturn, 1) := by decide +kernel
theorem d_Ar_copyOf_0 : decode M_Ar_copyOf.2.1 0 = .ok (.iload_n 1, 1) := by decide +kernel
theorem d_Ar_copyOf_1 : decode M_Ar_copyOf.2.1 1 = .ok (.aload_n 0, 1) := by decide +kernel
theorem d_Ar_copyOf_2 : decode M_Ar_copyOf.2.1 2 = .ok (.arraylength, 1) := by decide +kernel
theorem d_Ar_copyOf_3 : decode M_Ar_copyOf.2.1 3 = .ok (.if_icmp .ne 11, 3) := by decide +kernel
theorem d_Ar_copyOf_6 : decode M_Ar_copyOf.2.1 6 = .ok (.aload_n 0, 1) := by decide +kernel
theorem d_Ar_copyOf_7 : decode M_Ar_copyOf.2.1 7 = .ok (.invokevirtual 310, 3) := by decide +kernel
theorem d_Ar_copyOf_10 : decode M_Ar_copyOf.2.1 10 = .ok (.checkcast 311, 3) := by decide +kernel
theorem d_Ar_copyOf_13 : decode M_Ar_copyOf.2.1 13 = .ok (.areturn, 1) := by decide +kernel
theorem d_Ar_copyOf_14 : decode M_Ar_copyOf.2.1 14 = .ok (.iload_n 1, 1) := by decide +kernel
theorem d_Ar_copyOf_15 : decode M_Ar_copyOf.2.1 15 = .ok (.newarray .byte, 2) := by decide +kernel
theorem d_Ar_copyOf_17 : decode M_Ar_copyOf.2.1 17 = .ok (.astore_n 2, 1) := by decide +kernel
theorem d_Ar_copyOf_18 : decode M_Ar_copyOf.2.1 18 = .ok (.aload_n 0, 1) := by decide +kernel
theorem d_Ar_copyOf_19 : decode M_Ar_copyOf.2.1 19 = .ok (.iconst 0, 1) := by decide +kernel
theorem d_Ar_copyOf_20 : decode M_Ar_copyOf.2.1 20 = .ok (.aload_n 2, 1) := by decide +kernel
theorem d_Ar_copyOf_21 : decode M_Ar_copyOf.2.1 21 = .ok (.iconst 0, 1) := by decide +kernel
theorem d_Ar_copyOf_22 : decode M_Ar_copyOf.2.1 22 = .ok (.aload_n 0, 1) := by decide +kernel
theorem d_Ar_copyOf_23 : decode M_Ar_copyOf.2.1 23 = .ok (.arraylength, 1) := by decide +kernel
theorem d_Ar_copyOf_24 : decode M_Ar_copyOf.2.1 24 = .ok (.iload_n 1, 1) := by decide +kernel
theorem d_Ar_copyOf_25 : decode M_Ar_copyOf.2.1 25 = .ok (.invokestatic 304, 3) := by decide +kernel
theorem d_Ar_copyOf_28 : decode M_Ar_copyOf.2.1 28 = .ok (.invokestatic 150, 3) := by decide +kernel
theorem d_Ar_copyOf_31 : decode M_Ar_copyOf.2.1 31 = .ok (.aload_n 2, 1) := by decide +kernel
theorem d_Ar_copyOf_32 : decode M_Ar_copyOf.2.1 32 = .ok (.areturn, 1) := by decide +kernel
theorem d_Ma_max_0 : decode M_Ma_max.2.1 0 = .ok (.iload_n 0, 1) := by decide +kernel
theorem d_Ma_max_1 : decode M_Ma_max.2.1 1 = .ok (.iload_n 1, 1) := by decide +kernel
theorem d_Ma_max_2 : decode M_Ma_max.2.1 2 = .ok (.if_icmp .lt 7, 3) := by decide +kernel
theorem d_Ma_max_5 : decode M_Ma_max.2.1 5 = .ok (.iload_n 0, 1) := by decide +kernel
theorem d_Ma_max_6 : decode M_Ma_max.2.1 6 = .ok (.goto 4, 3) := by decide +kernel
theorem d_Ma_max_9 : decode M_Ma_max.2.1 9 = .ok (.iload_n 1, 1) := by decide +kernel
theorem d_Ma_max_10 : decode M_Ma_max.2.1 10 = .ok (.ireturn, 1) := by decide +kernel
theorem d_Ma_min_0 : decode M_Ma_min.2.1 0 = .ok (.iload_n 0, 1) := by decide +kernel
theorem d_Ma_min_1 : decode M_Ma_min.2.1 1 = .ok (.iload_n 1, 1) := by decide +kernel
theorem d_Ma_min_2 : decode M_Ma_min.2.1 2 = .ok (.if_icmp .gt 7, 3) := by decide +kernel
theorem d_Ma_min_5 : decode M_Ma_min.2.1 5 = .ok (.iload_n 0, 1) := by decide +kernel
theorem d_Ma_min_6 : decode M_Ma_min.2.1 6 = .ok (.goto 4, 3) := by decide +kernel
theorem d_Ma_min_9 : decode M_Ma_min.2.1 9 = .ok (.iload_n 1, 1) := by decide +kernel
theorem d_Ma_min_10 : decode M_Ma_min.2.1 10 = .ok (.ireturn, 1) := by decide +kernel
section
variable {M : rx_M} {d mc ms pc N : Nat} {lo : List (Nat × Value)} {st : List Value} {σ : rx_S} {nx : Nat} {ct : Nat → Nat × Nat} {mi : Nat → Nat → Int32} {ml : Nat → Nat → Int64} {mr : Nat → Nat → Option Nat} {post : rx_End}
theorem ru_mcs {mc' ms' : Nat} (h1 : mc = mc') (h2 : ms = ms') (k : rx_W M d mc' ms' pc lo st σ post) : rx_W M d mc ms pc lo st σ post := by
  subst h1 h2
  exact k
theorem ru_newaB (hd : decode M.2.1 pc = .ok (.newarray .byte, 2)) (hN : N ≤ 1000000) (kk : rx_W M d mc ms (pc + 2) lo (.ref nx :: st) (rx_new nx ct mi ml mr 103 N) post) : rx_W M d (mc + 1) (ms + N) pc lo (.int (nI N) :: st) (nx, ct, mi, ml, mr) post := by
  refine ru_newa (ty := .byte) hd rfl (rx_in (tm_1 (List.mem_of_getElem? (i := 197) rfl)) rfl) (fun _ => rfl) (by decide) (fun U cA h => h) (fun ev cA => ?_) (nI_pos (by omega)) (nI_clamp (by omega)) (by show N * 1 ≤ 536870912; omega) kk
  unfold rx_con
  simp only [va_up, if_true]
  first | rfl | (simp; rfl)
theorem ru_newaC (hd : decode M.2.1 pc = .ok (.newarray .char, 2)) (hN : N ≤ 1000000) (kk : rx_W M d mc ms (pc + 2) lo (.ref nx :: st) (rx_new nx ct mi ml mr 101 N) post) : rx_W M d (mc + 1) (ms + N) pc lo (.int (nI N) :: st) (nx, ct, mi, ml, mr) post := by
  refine ru_newa (ty := .char) hd rfl (rx_in (tm_1 (List.mem_of_getElem? (i := 53) rfl)) rfl) (fun _ => rfl) (by decide) (fun U cA h => h) (fun ev cA => ?_) (nI_pos (by omega)) (nI_clamp (by omega)) (by show N * 2 ≤ 536870912; omega) kk
  unfold rx_con
  simp only [va_up, if_true]
  first | rfl | (simp; rfl)
theorem ru_newaZ (hd : decode M.2.1 pc = .ok (.newarray .boolean, 2)) (hN : N ≤ 1000000) (kk : rx_W M d mc ms (pc + 2) lo (.ref nx :: st) (rx_new nx ct mi ml mr 102 N) post) : rx_W M d (mc + 1) (ms + N) pc lo (.int (nI N) :: st) (nx, ct, mi, ml, mr) post := by
  refine ru_newa (ty := .boolean) hd rfl (rx_in (tm_1 (List.mem_of_getElem? (i := 77) rfl)) rfl) (fun _ => rfl) (by decide) (fun U cA h => h) (fun ev cA => ?_) (nI_pos (by omega)) (nI_clamp (by omega)) (by show N * 1 ≤ 536870912; omega) kk
  unfold rx_con
  simp only [va_up, if_true]
  first | rfl | (simp; rfl)
theorem ru_newaI (hd : decode M.2.1 pc = .ok (.newarray .int, 2)) (hN : N ≤ 1000000) (kk : rx_W M d mc ms (pc + 2) lo (.ref nx :: st) (rx_new nx ct mi ml mr 100 N) post) : rx_W M d (mc + 1) (ms + N) pc lo (.int (nI N) :: st) (nx, ct, mi, ml, mr) post := by
  refine ru_newa (ty := .int) hd rfl (rx_in (tm_1 (List.mem_of_getElem? (i := 54) rfl)) rfl) (fun _ => rfl) (by decide) (fun U cA h => h) (fun ev cA => ?_) (nI_pos (by omega)) (nI_clamp (by omega)) (by show N * 4 ≤ 536870912; omega) kk
  unfold rx_con
  simp only [va_up, if_true]
  first | rfl | (simp; rfl)
theorem ru_newaJ (hd : decode M.2.1 pc = .ok (.newarray .long, 2)) (hN : N ≤ 1000000) (kk : rx_W M d mc ms (pc + 2) lo (.ref nx :: st) (rx_new nx ct mi ml mr 104 N) post) : rx_W M d (mc + 1) (ms + N) pc lo (.int (nI N) :: st) (nx, ct, mi, ml, mr) post := by
  refine ru_newa (ty := .long) hd rfl (rx_in (tm_1 (List.mem_of_getElem? (i := 78) rfl)) rfl) (fun _ => rfl) (by decide) (fun U cA h => h) (fun ev cA => ?_) (nI_pos (by omega)) (nI_clamp (by omega)) (by show N * 8 ≤ 536870912; omega) kk
  unfold rx_con
  simp only [va_up, if_true]
  first | rfl | (simp; rfl)
theorem jl_max {a b : Nat} (ha : a < 2 ^ 31) (hb : b < 2 ^ 31) : rx_Calls y_Ma_max M_Ma_max 0 0 0 [.int (nI a), .int (nI b)] σ (fun v τ => v = some (.int (nI (max a b))) ∧ τ = σ) := by
  refine rx_enter (by decide +kernel) rfl rfl (Nat.le_of_ble_eq_true rfl) ?_
  refine ru_iload_n d_Ma_max_0 rfl rfl ?_
  refine ru_iload_n d_Ma_max_1 rfl rfl ?_
  refine ru_icmp_lt (tgt := 9) d_Ma_max_2 (by decide) (fun h2 => ?_) (fun h2 => ?_)
  · skip
    replace h2 := nm_lt (a := a) (b := b) (by omega) (by omega) h2
    rw [show max a b = b by omega]
    refine ru_iload_n d_Ma_max_9 rfl rfl ?_
    refine ru_iret d_Ma_max_10 rfl ?_
    exact ⟨rfl, rfl⟩
  · skip
    replace h2 := nm_nlt (a := a) (b := b) (by omega) (by omega) h2
    rw [show max a b = a by omega]
    refine ru_iload_n d_Ma_max_5 rfl rfl ?_
    refine ru_goto (tgt := 10) d_Ma_max_6 (by decide) ?_
    refine ru_iret d_Ma_max_10 rfl ?_
    exact ⟨rfl, rfl⟩
theorem jl_min {a b : Nat} (ha : a < 2 ^ 31) (hb : b < 2 ^ 31) : rx_Calls y_Ma_min M_Ma_min 0 0 0 [.int (nI a), .int (nI b)] σ (fun v τ => v = some (.int (nI (min a b))) ∧ τ = σ) := by
  refine rx_enter (by decide +kernel) rfl rfl (Nat.le_of_ble_eq_true rfl) ?_
  refine ru_iload_n d_Ma_min_0 rfl rfl ?_
  refine ru_iload_n d_Ma_min_1 rfl rfl ?_
  refine ru_icmp_gt (tgt := 9) d_Ma_min_2 (by decide) (fun h2 => ?_) (fun h2 => ?_)
  · skip
    replace h2 := nm_lt (a := b) (b := a) (by omega) (by omega) h2
    rw [show min a b = b by omega]
    refine ru_iload_n d_Ma_min_9 rfl rfl ?_
    refine ru_iret d_Ma_min_10 rfl ?_
    exact ⟨rfl, rfl⟩
  · skip
    replace h2 := nm_nlt (a := b) (b := a) (by omega) (by omega) h2
    rw [show min a b = a by omega]
    refine ru_iload_n d_Ma_min_5 rfl rfl ?_
    refine ru_goto (tgt := 10) d_Ma_min_6 (by decide) ?_
    refine ru_iret d_Ma_min_10 rfl ?_
    exact ⟨rfl, rfl⟩
theorem jl_newLength {a g p : Nat} (ha : a < 1000000) (hg : g < 1000000) (hp : p < 1000000) (h0 : 0 < max g p) : rx_Calls y_AS_newLength M_AS_newLength 1 0 0 [.int (nI a), .int (nI g), .int (nI p)] σ (fun v τ => v = some (.int (nI (a + max g p))) ∧ τ = σ) := by
  refine rx_enter (by decide) rfl rfl (Nat.le_of_ble_eq_true rfl) ?_
  refine ru_iload_n d_AS_newLength_0 rfl rfl ?_
  refine ru_iload_n d_AS_newLength_1 rfl rfl ?_
  refine ru_iload_n d_AS_newLength_2 rfl rfl ?_
  refine ru_callS (mc := 0) (ms := 0) d_AS_newLength_3 lm_AS_194 (jl_max (by omega) (by omega)) (by decide) rfl (Nat.le_of_ble_eq_true rfl) ?_
  rintro v τ ⟨rfl, rfl⟩
  refine ru_iadd d_AS_newLength_6 ?_
  refine ru_eqi (nm_add a (max g p) : _ = nI (a + (max g p))) ?_
  refine ru_istore_n d_AS_newLength_7 rfl (by decide) ?_
  refine ru_iconst (v := 0) d_AS_newLength_8 (by decide) ?_
  refine ru_iload_n d_AS_newLength_9 rfl rfl ?_
  refine ru_icmp_ge (tgt := 21) d_AS_newLength_10 (by decide) (fun h10 => absurd h10 (nI_ge (a := 0) (b := a + max g p) (by omega) (by omega))) (fun h10 => ?_)
  replace h10 := nm_nle (a := (a + (max g p))) (b := 0) (by omega) (by omega) h10
  refine ru_iload_n d_AS_newLength_13 rfl rfl ?_
  refine ru_ldc d_AS_newLength_14 lc_AS_200 ?_
  refine ru_eqi rfl ?_
  refine ru_icmp_gt (tgt := 21) d_AS_newLength_16 (by decide) (fun h16 => absurd h16 (nI_ge (a := a + max g p) (b := 2147483639 + 1) (by omega) (by decide))) (fun h16 => ?_)
  replace h16 := nm_nlt (a := 2147483639) (b := (a + (max g p))) (by omega) (by omega) h16
  refine ru_iload_n d_AS_newLength_19 rfl rfl ?_
  refine ru_iret d_AS_newLength_20 rfl ?_
  exact ⟨rfl, rfl⟩
/-- what is 0 or more and below 128 -/
def asc (x : Int32) : Prop := 0 ≤ x.toInt ∧ x.toInt < 128
/-- the builder holds l, in c bytes -/
def SbI (nx : Nat) (ct : Nat → Nat × Nat) (mi : Nat → Nat → Int32) (mr : Nat → Nat → Option Nat) (vb : Nat) (l : List Int32) (c : Nat) : Prop := mr 272 0 = some vb ∧ (vb = 273 ∨ 409 ≤ vb) ∧ vb < nx ∧ ct vb = (103, c) ∧ mi 272 1 = 0 ∧ mi 272 3 = nI l.length ∧ l.length ≤ c ∧ (16 ≤ c ∧ c ≤ 200000) ∧ (∀ i x, l[i]? = some x → mi vb i = x) ∧ ∀ i, i < c → asc (mi vb i)
variable {vb c : Nat} {l : List Int32}
theorem SbI.is {ml' : Nat → Nat → Int64} {mi' : Nat → Nat → Int32} {mr' : Nat → Nat → Option Nat} (h : SbI nx ct mi mr vb l c) : rx_is (nx, ct, mi', ml', mr') vb 103 c := ⟨by have := h.2.1; omega, h.2.2.1, h.2.2.2.1⟩
theorem jl_sbLatin1 (hL : LAY nx ct mr) (h1 : mi 272 1 = 0) : rx_Calls y_AB_isLatin1 M_AB_isLatin1 0 0 0 [.ref 272] (nx, ct, mi, ml, mr) (fun v τ => v = some (.int 1) ∧ τ = (nx, ct, mi, ml, mr)) := by
  refine rx_enter (by decide) rfl rfl (Nat.le_of_ble_eq_true rfl) ?_
  refine ru_gets d_AB_isLatin1_0 (Or.inl (rx_in (tm_1 (List.mem_of_getElem? (i := 174) rfl)) rfl)) (List.mem_of_getElem? (i := 4) rfl) ?_
  refine ru_if_eq (tgt := 17) d_AB_isLatin1_3 (by decide) (fun h3 => absurd h3 (by decide)) (fun h3 => ?_)
  refine ru_aload_n d_AB_isLatin1_6 rfl rfl ?_
  refine ru_getI d_AB_isLatin1_7 lf_AB_22 (ly hL 272 10 0) rfl ?_
  refine ru_eqi h1 ?_
  refine ru_if_ne (tgt := 17) d_AB_isLatin1_10 (by decide) (fun h10 => absurd h10 (by decide)) (fun h10 => ?_)
  refine ru_iconst (v := 1) d_AB_isLatin1_13 (by decide) ?_
  refine ru_goto (tgt := 18) d_AB_isLatin1_14 (by decide) ?_
  refine ru_zret (ty := .boolean) d_AB_isLatin1_18 rfl rfl ?_
  exact ⟨rfl, rfl⟩
theorem jl_newCap {m : Nat} (hL : LAY nx ct mr) (h : SbI nx ct mi mr vb l c) (hm : c < m) (hm2 : m ≤ 2 * c + 2) : rx_Calls y_AB_newCapacity M_AB_newCapacity 2 0 0 [.ref 272, .int (nI m)] (nx, ct, mi, ml, mr) (fun v τ => v = some (.int (nI (2 * c + 2))) ∧ τ = (nx, ct, mi, ml, mr)) := by
  refine rx_enter (by decide) rfl rfl (Nat.le_of_ble_eq_true rfl) ?_
  have hc := h.2.2.2.2.2.2.2.1
  refine ru_aload_n d_AB_newCapacity_0 rfl rfl ?_
  refine ru_getR d_AB_newCapacity_1 lf_AB_15 (ly hL 272 10 0) rfl h.1 ?_
  refine ru_alen (v := nI c) d_AB_newCapacity_4 h.is (by decide) (fun _ => rfl) rfl ?_
  refine ru_eqi rfl ?_
  refine ru_istore_n d_AB_newCapacity_5 rfl (by decide) ?_
  refine ru_iload_n d_AB_newCapacity_6 rfl rfl ?_
  refine ru_aload_n d_AB_newCapacity_7 rfl rfl ?_
  refine ru_getI d_AB_newCapacity_8 lf_AB_22 (ly hL 272 10 0) rfl ?_
  refine ru_eqi h.2.2.2.2.1 ?_
  refine ru_ishl d_AB_newCapacity_11 ?_
  refine ru_eqi (sl_0 _) ?_
  refine ru_istore_n d_AB_newCapacity_12 rfl (by decide) ?_
  refine ru_iload_n d_AB_newCapacity_13 rfl rfl ?_
  refine ru_iload_n d_AB_newCapacity_14 rfl rfl ?_
  refine ru_isub d_AB_newCapacity_15 ?_
  refine ru_eqi (nm_sub (a := m) (b := c) (by omega) : _ = nI (m - c)) ?_
  refine ru_istore d_AB_newCapacity_16 (by decide) ?_
  refine ru_iload_n d_AB_newCapacity_18 rfl rfl ?_
  refine ru_iload d_AB_newCapacity_19 rfl ?_
  refine ru_iload_n d_AB_newCapacity_21 rfl rfl ?_
  refine ru_iconst (v := 2) d_AB_newCapacity_22 (by decide) ?_
  refine ru_aload_n d_AB_newCapacity_23 rfl rfl ?_
  refine ru_getI d_AB_newCapacity_24 lf_AB_22 (ly hL 272 10 0) rfl ?_
  refine ru_eqi h.2.2.2.2.1 ?_
  refine ru_ishl d_AB_newCapacity_27 ?_
  refine ru_eqi (sl_0 _) ?_
  refine ru_iadd d_AB_newCapacity_28 ?_
  refine ru_eqi (nm_add c 2 : _ = nI (c + 2)) ?_
  refine ru_callS (mc := 0) (ms := 0) d_AB_newCapacity_29 lm_AB_114 (jl_newLength (by omega) (by omega) (by omega) (by omega)) (by decide) rfl (Nat.le_of_ble_eq_true rfl) ?_
  rintro v τ ⟨rfl, rfl⟩
  rw [show c + max (m - c) (c + 2) = 2 * c + 2 by omega]
  refine ru_istore d_AB_newCapacity_32 (by decide) ?_
  refine ru_iload d_AB_newCapacity_34 rfl ?_
  refine ru_ldc d_AB_newCapacity_36 lc_AB_39 ?_
  refine ru_eqi rfl ?_
  refine ru_icmp_ne (tgt := 51) d_AB_newCapacity_38 (by decide) (fun h38 => ?_) (fun h38 => absurd (nm_eq (a := 2 * c + 2) (b := 2147483647) (by omega) (by decide) h38) (by omega))
  replace h38 := nm_ne (a := (2 * c + 2)) (b := 2147483647) (by omega) (by omega) h38
  refine ru_iload d_AB_newCapacity_51 rfl ?_
  refine ru_aload_n d_AB_newCapacity_53 rfl rfl ?_
  refine ru_getI d_AB_newCapacity_54 lf_AB_22 (ly hL 272 10 0) rfl ?_
  refine ru_eqi h.2.2.2.2.1 ?_
  refine ru_ishr d_AB_newCapacity_57 ?_
  refine ru_eqi (sh_0 _) ?_
  refine ru_iret d_AB_newCapacity_58 rfl ?_
  exact ⟨rfl, rfl⟩
theorem asc_fits {x : Int32} (h : asc x) : fits .byte (.int x) = true := by
  have h1 : (-128 : Int32) ≤ x := by rw [ie, show ((-128 : Int32)).toInt = -128 by decide]; have := h.1; omega
  have h2 : x ≤ 127 := by rw [ie, show ((127 : Int32)).toInt = 127 by decide]; have := h.2; omega
  show (decide ((-128 : Int32) ≤ x) && decide (x ≤ 127)) = true
  rw [decide_eq_true h1, decide_eq_true h2]
  rfl
theorem jl_copyOf {N : Nat} (hi : rx_is (nx, ct, mi, ml, mr) vb 103 c) (hx : 256 ≤ nx) (hc : c < N) (hN : N ≤ 1000000) (ha : ∀ i, i < c → asc (mi vb i)) : rx_Calls y_Ar_copyOf M_Ar_copyOf 1 1 N [.ref vb, .int (nI N)] (nx, ct, mi, ml, mr) (fun v τ => v = some (.ref nx) ∧ τ = (nx + 1, va_up ct nx (103, N), va_up (va_up mi nx (fun _ => 0)) nx (va_cpy (mi vb) (fun _ => 0) 0 0 c), va_up ml nx (fun _ => 0), va_up mr nx (fun _ => none))) := by
  refine rx_enter (by decide) rfl rfl (Nat.le_of_ble_eq_true rfl) ?_
  have hlt : vb ≠ nx := by have := hi.2.1; show vb ≠ nx; exact Nat.ne_of_lt this
  have e1 : va_up mi nx (fun _ => 0) vb = mi vb := va_up_ne _ _ hlt
  have e2 : va_up mi nx (fun _ => (0 : Int32)) nx = fun _ => 0 := by simp [va_up]
  have hi1 : rx_is (rx_new nx ct mi ml mr 103 N) vb 103 c := ⟨hi.1, Nat.lt_succ_of_lt hi.2.1, (va_up_ne _ _ hlt).trans hi.2.2⟩
  have hi2 : rx_is (rx_new nx ct mi ml mr 103 N) nx 103 N := ⟨hx, Nat.lt_succ_self _, by show va_up ct nx (103, N) nx = _; simp [va_up]⟩
  have src := ar_src hi1
  rw [e1] at src
  refine ru_mcs (Nat.zero_add 1).symm (Nat.zero_add N).symm ?_
  refine ru_iload_n d_Ar_copyOf_0 rfl rfl ?_
  refine ru_aload_n d_Ar_copyOf_1 rfl rfl ?_
  refine ru_alen (v := nI c) d_Ar_copyOf_2 hi (by decide) (fun _ => rfl) rfl ?_
  refine ru_eqi rfl ?_
  refine ru_icmp_ne (tgt := 14) d_Ar_copyOf_3 (by decide) (fun h3 => ?_) (fun h3 => absurd (nm_eq (by omega) (by omega) h3) (by omega))
  replace h3 := nm_ne (a := N) (b := c) (by omega) (by omega) h3
  refine ru_iload_n d_Ar_copyOf_14 rfl rfl ?_
  refine ru_newaB d_Ar_copyOf_15 hN ?_
  refine ru_astore_n d_Ar_copyOf_17 rfl (by decide) ?_
  refine ru_aload_n d_Ar_copyOf_18 rfl rfl ?_
  refine ru_iconst (v := 0) d_Ar_copyOf_19 (by decide) ?_
  refine ru_aload_n d_Ar_copyOf_20 rfl rfl ?_
  refine ru_iconst (v := 0) d_Ar_copyOf_21 (by decide) ?_
  refine ru_aload_n d_Ar_copyOf_22 rfl rfl ?_
  refine ru_alen (v := nI c) d_Ar_copyOf_23 hi1 (by decide) (fun _ => rfl) rfl ?_
  refine ru_eqi rfl ?_
  refine ru_iload_n d_Ar_copyOf_24 rfl rfl ?_
  refine ru_callS (mc := 0) (ms := 0) d_Ar_copyOf_25 lm_Ar_304 (jl_min (by omega) (by omega)) (by decide) rfl (Nat.le_of_ble_eq_true rfl) ?_
  rintro v τ ⟨rfl, rfl⟩
  rw [show min c N = c by omega]
  refine ru_acopy (sp := 0) (dp := 0) (n := c) d_Ar_copyOf_28 ac_Ar_150 src hi2 (by omega) (by omega) (by omega) (by omega) (fun i hi => by rw [Nat.zero_add]; exact asc_fits (ha i hi)) (by decide) (by decide) ?_
  refine ru_aload_n d_Ar_copyOf_31 rfl rfl ?_
  refine ru_aret d_Ar_copyOf_32 rfl (Or.inr ⟨_, rfl⟩) ?_
  refine ⟨rfl, ?_⟩
  rw [e2]
end
