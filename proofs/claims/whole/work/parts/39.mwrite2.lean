/-! The reference writes: numbers, names, things -/
theorem d_Mo_sayName_0 : decode M_Mo_sayName.2.1 0 = .ok (.bipush 16, 2) := by decide +kernel
theorem d_Mo_sayName_2 : decode M_Mo_sayName.2.1 2 = .ok (.iload_n 1, 1) := by decide +kernel
theorem d_Mo_sayName_3 : decode M_Mo_sayName.2.1 3 = .ok (.imul, 1) := by decide +kernel
theorem d_Mo_sayName_4 : decode M_Mo_sayName.2.1 4 = .ok (.lload_n 2, 1) := by decide +kernel
theorem d_Mo_sayName_5 : decode M_Mo_sayName.2.1 5 = .ok (.l2i, 1) := by decide +kernel
theorem d_Mo_sayName_6 : decode M_Mo_sayName.2.1 6 = .ok (.iadd, 1) := by decide +kernel
theorem d_Mo_sayName_7 : decode M_Mo_sayName.2.1 7 = .ok (.istore 4, 2) := by decide +kernel
theorem d_Mo_sayName_9 : decode M_Mo_sayName.2.1 9 = .ok (.aload_n 0, 1) := by decide +kernel
theorem d_Mo_sayName_10 : decode M_Mo_sayName.2.1 10 = .ok (.bipush 32, 2) := by decide +kernel
theorem d_Mo_sayName_12 : decode M_Mo_sayName.2.1 12 = .ok (.invokevirtual 218, 3) := by decide +kernel
theorem d_Mo_sayName_15 : decode M_Mo_sayName.2.1 15 = .ok (.iconst 0, 1) := by decide +kernel
theorem d_Mo_sayName_16 : decode M_Mo_sayName.2.1 16 = .ok (.istore 5, 2) := by decide +kernel
theorem d_Mo_sayName_18 : decode M_Mo_sayName.2.1 18 = .ok (.iload 5, 2) := by decide +kernel
theorem d_Mo_sayName_20 : decode M_Mo_sayName.2.1 20 = .ok (.aload_n 0, 1) := by decide +kernel
theorem d_Mo_sayName_21 : decode M_Mo_sayName.2.1 21 = .ok (.getfield 13, 3) := by decide +kernel
theorem d_Mo_sayName_24 : decode M_Mo_sayName.2.1 24 = .ok (.iload 4, 2) := by decide +kernel
theorem d_Mo_sayName_26 : decode M_Mo_sayName.2.1 26 = .ok (.iaload, 1) := by decide +kernel
theorem d_Mo_sayName_27 : decode M_Mo_sayName.2.1 27 = .ok (.if_icmp .ge 26, 3) := by decide +kernel
theorem d_Mo_sayName_30 : decode M_Mo_sayName.2.1 30 = .ok (.aload_n 0, 1) := by decide +kernel
theorem d_Mo_sayName_31 : decode M_Mo_sayName.2.1 31 = .ok (.aload_n 0, 1) := by decide +kernel
theorem d_Mo_sayName_32 : decode M_Mo_sayName.2.1 32 = .ok (.getfield 16, 3) := by decide +kernel
theorem d_Mo_sayName_35 : decode M_Mo_sayName.2.1 35 = .ok (.bipush 8, 2) := by decide +kernel
theorem d_Mo_sayName_37 : decode M_Mo_sayName.2.1 37 = .ok (.iload 4, 2) := by decide +kernel
theorem d_Mo_sayName_39 : decode M_Mo_sayName.2.1 39 = .ok (.imul, 1) := by decide +kernel
theorem d_Mo_sayName_40 : decode M_Mo_sayName.2.1 40 = .ok (.iload 5, 2) := by decide +kernel
theorem d_Mo_sayName_42 : decode M_Mo_sayName.2.1 42 = .ok (.iadd, 1) := by decide +kernel
theorem d_Mo_sayName_43 : decode M_Mo_sayName.2.1 43 = .ok (.iaload, 1) := by decide +kernel
theorem d_Mo_sayName_44 : decode M_Mo_sayName.2.1 44 = .ok (.invokevirtual 218, 3) := by decide +kernel
theorem d_Mo_sayName_47 : decode M_Mo_sayName.2.1 47 = .ok (.iinc 5 1, 3) := by decide +kernel
theorem d_Mo_sayName_50 : decode M_Mo_sayName.2.1 50 = .ok (.goto (-32), 3) := by decide +kernel
theorem d_Mo_sayName_53 : decode M_Mo_sayName.2.1 53 = .ok (.return_, 1) := by decide +kernel
theorem d_Mo_sayNumber_0 : decode M_Mo_sayNumber.2.1 0 = .ok (.aload_n 0, 1) := by decide +kernel
theorem d_Mo_sayNumber_1 : decode M_Mo_sayNumber.2.1 1 = .ok (.bipush 32, 2) := by decide +kernel
theorem d_Mo_sayNumber_3 : decode M_Mo_sayNumber.2.1 3 = .ok (.invokevirtual 218, 3) := by decide +kernel
theorem d_Mo_sayNumber_6 : decode M_Mo_sayNumber.2.1 6 = .ok (.lconst 1, 1) := by decide +kernel
theorem d_Mo_sayNumber_7 : decode M_Mo_sayNumber.2.1 7 = .ok (.lstore_n 3, 1) := by decide +kernel
theorem d_Mo_sayNumber_8 : decode M_Mo_sayNumber.2.1 8 = .ok (.lload_n 1, 1) := by decide +kernel
theorem d_Mo_sayNumber_9 : decode M_Mo_sayNumber.2.1 9 = .ok (.lload_n 3, 1) := by decide +kernel
theorem d_Mo_sayNumber_10 : decode M_Mo_sayNumber.2.1 10 = .ok (.ldiv, 1) := by decide +kernel
theorem d_Mo_sayNumber_11 : decode M_Mo_sayNumber.2.1 11 = .ok (.ldc2_w 114, 3) := by decide +kernel
theorem d_Mo_sayNumber_14 : decode M_Mo_sayNumber.2.1 14 = .ok (.lcmp, 1) := by decide +kernel
theorem d_Mo_sayNumber_15 : decode M_Mo_sayNumber.2.1 15 = .ok (.ifCond .lt 12, 3) := by decide +kernel
theorem d_Mo_sayNumber_18 : decode M_Mo_sayNumber.2.1 18 = .ok (.ldc2_w 114, 3) := by decide +kernel
theorem d_Mo_sayNumber_21 : decode M_Mo_sayNumber.2.1 21 = .ok (.lload_n 3, 1) := by decide +kernel
theorem d_Mo_sayNumber_22 : decode M_Mo_sayNumber.2.1 22 = .ok (.lmul, 1) := by decide +kernel
theorem d_Mo_sayNumber_23 : decode M_Mo_sayNumber.2.1 23 = .ok (.lstore_n 3, 1) := by decide +kernel
theorem d_Mo_sayNumber_24 : decode M_Mo_sayNumber.2.1 24 = .ok (.goto (-16), 3) := by decide +kernel
theorem d_Mo_sayNumber_27 : decode M_Mo_sayNumber.2.1 27 = .ok (.lload_n 3, 1) := by decide +kernel
theorem d_Mo_sayNumber_28 : decode M_Mo_sayNumber.2.1 28 = .ok (.lconst 0, 1) := by decide +kernel
theorem d_Mo_sayNumber_29 : decode M_Mo_sayNumber.2.1 29 = .ok (.lcmp, 1) := by decide +kernel
theorem d_Mo_sayNumber_30 : decode M_Mo_sayNumber.2.1 30 = .ok (.ifCond .le 27, 3) := by decide +kernel
theorem d_Mo_sayNumber_33 : decode M_Mo_sayNumber.2.1 33 = .ok (.aload_n 0, 1) := by decide +kernel
theorem d_Mo_sayNumber_34 : decode M_Mo_sayNumber.2.1 34 = .ok (.lload_n 1, 1) := by decide +kernel
theorem d_Mo_sayNumber_35 : decode M_Mo_sayNumber.2.1 35 = .ok (.lload_n 3, 1) := by decide +kernel
theorem d_Mo_sayNumber_36 : decode M_Mo_sayNumber.2.1 36 = .ok (.ldiv, 1) := by decide +kernel
theorem d_Mo_sayNumber_37 : decode M_Mo_sayNumber.2.1 37 = .ok (.ldc2_w 114, 3) := by decide +kernel
theorem d_Mo_sayNumber_40 : decode M_Mo_sayNumber.2.1 40 = .ok (.lrem, 1) := by decide +kernel
theorem d_Mo_sayNumber_41 : decode M_Mo_sayNumber.2.1 41 = .ok (.l2i, 1) := by decide +kernel
theorem d_Mo_sayNumber_42 : decode M_Mo_sayNumber.2.1 42 = .ok (.bipush 48, 2) := by decide +kernel
theorem d_Mo_sayNumber_44 : decode M_Mo_sayNumber.2.1 44 = .ok (.iadd, 1) := by decide +kernel
theorem d_Mo_sayNumber_45 : decode M_Mo_sayNumber.2.1 45 = .ok (.invokevirtual 218, 3) := by decide +kernel
theorem d_Mo_sayNumber_48 : decode M_Mo_sayNumber.2.1 48 = .ok (.lload_n 3, 1) := by decide +kernel
theorem d_Mo_sayNumber_49 : decode M_Mo_sayNumber.2.1 49 = .ok (.ldc2_w 114, 3) := by decide +kernel
theorem d_Mo_sayNumber_52 : decode M_Mo_sayNumber.2.1 52 = .ok (.ldiv, 1) := by decide +kernel
theorem d_Mo_sayNumber_53 : decode M_Mo_sayNumber.2.1 53 = .ok (.lstore_n 3, 1) := by decide +kernel
theorem d_Mo_sayNumber_54 : decode M_Mo_sayNumber.2.1 54 = .ok (.goto (-27), 3) := by decide +kernel
theorem d_Mo_sayNumber_57 : decode M_Mo_sayNumber.2.1 57 = .ok (.return_, 1) := by decide +kernel
def dgt (x : Nat) : Nat → List Int32
  | 0 => []
  | k + 1 => nI (x / 10 ^ k % 10 + 48) :: dgt x k
def ndF (x : Nat) : Nat → Nat → Nat
  | 0, k => k + 1
  | f + 1, k => if x / 10 ^ k < 10 then k + 1 else ndF x f (k + 1)
/-- a number's digits -/
def dec (x : Nat) : List Int32 := dgt x (ndF x 12 0)
theorem dgt_len (x : Nat) : ∀ k, (dgt x k).length = k
  | 0 => rfl
  | k + 1 => by
    show (dgt x k).length + 1 = k + 1
    rw [dgt_len x k]
theorem ndF_le (x : Nat) : ∀ f k, ndF x f k ≤ k + f + 1
  | 0, k => Nat.le_refl _
  | f + 1, k => by
    unfold ndF
    split
    · omega
    · have := ndF_le x f (k + 1)
      omega
theorem dec_len (x : Nat) : (dec x).length ≤ 13 := by
  unfold dec
  rw [dgt_len]
  exact ndF_le x 12 0
theorem dgt_10 (x : Nat) : ∀ k, ∀ c ∈ dgt x k, c ≠ 10
  | 0, c, h => by cases h
  | k + 1, c, h => by
    rcases List.mem_cons.mp h with e | e
    · subst e
      intro z
      have := nm_eq (a := x / 10 ^ k % 10 + 48) (b := 10) (by omega) (by omega) z
      omega
    · exact dgt_10 x k c e
theorem dec_10 (x : Nat) : ∀ c ∈ dec x, c ≠ 10 := dgt_10 x _
def nmL (N : nmS) (k : Nat) : Nat → Nat → List Int32
  | 0, _ => []
  | f + 1, i => N.2 k i :: nmL N k f (i + 1)
def nameL (N : nmS) (k : Nat) : List Int32 := nmL N k (N.1 k) 0
theorem nmL_len (N : nmS) (k : Nat) : ∀ f i, (nmL N k f i).length = f
  | 0, _ => rfl
  | f + 1, i => by
    show (nmL N k f (i + 1)).length + 1 = f + 1
    rw [nmL_len N k f]
/-- names are of letters and digits -/
def NmOK (N : nmS) : Prop := ∀ k, k < 48 → N.1 k ≤ 8 ∧ ∀ i, i < N.1 k → isLD (N.2 k i)
theorem nmL_10 {N : nmS} {k : Nat} (h : ∀ i, i < N.1 k → isLD (N.2 k i)) : ∀ f i, i + f ≤ N.1 k → ∀ c ∈ nmL N k f i, c ≠ 10
  | 0, _, _, c, hc => by cases hc
  | f + 1, i, hi, c, hc => by
    rcases List.mem_cons.mp hc with e | e
    · subst e
      have := h i (by omega)
      intro z
      rw [z] at this
      unfold isLD at this
      rw [i_10] at this
      omega
    · exact nmL_10 h f (i + 1) (by omega) c e
noncomputable def wTh (N : nmS) (o : Option Nat) : List Int32 := match o with
  | none => 32 :: rx_tx 2
  | some s => (32 :: rx_tx (if s < 16 then 3 else 4)) ++ 32 :: nameL N s
section
variable {nx : Nat} {ct : Nat → Nat × Nat} {m0 : Nat → Nat → Int32} {ml : Nat → Nat → Int64} {mr : Nat → Nat → Option Nat} {l : List Int32}
theorem sq_sayNumber {x : Nat} (hL : LAY nx ct mr) (hx : x ≤ 1000000000000) (hl : l.length + 14 < 9000) : rx_Calls y_Mo_sayNumber M_Mo_sayNumber 1 0 0 [.ref 398, .long (Int64.ofNat x)] (nx, ct, mO m0 l, ml, mr) (fun v τ => v = none ∧ τ = (nx, ct, mO m0 (l ++ 32 :: dec x), ml, mr)) := by
  refine rx_enter (by decide) rfl rfl (Nat.le_of_ble_eq_true rfl) ?_
  have loop2 : ∀ k (l' : List Int32) (P : Nat), k ≤ 13 → l'.length + k < 9000 → (P = if k = 0 then 0 else 10 ^ (k - 1)) → rx_W M_Mo_sayNumber 1 0 0 27 [(0, .ref 398), (1, .long (Int64.ofNat x)), (3, .long (Int64.ofNat P))] [] (nx, ct, mO m0 l', ml, mr) (pR (fun v τ => v = none ∧ τ = (nx, ct, mO m0 (l' ++ dgt x k), ml, mr))) := by
    intro k
    induction k with
    | zero =>
      intro l' P hk hl' hP
      rw [if_pos rfl] at hP
      subst hP
      refine ru_lload_n d_Mo_sayNumber_27 rfl rfl ?_
      refine ru_lconst (v := 0) d_Mo_sayNumber_28 (by decide) ?_
      refine ru_lcmp d_Mo_sayNumber_29 ?_
      refine ru_if_le (tgt := 57) d_Mo_sayNumber_30 (by decide) (fun h30 => ?_) (fun h30 => absurd h30 (by decide))
      refine ru_vret d_Mo_sayNumber_57 rfl ?_
      show _ ∧ _ = (nx, ct, mO m0 (l' ++ []), ml, mr)
      rw [List.append_nil]
      exact ⟨rfl, rfl⟩
    | succ k ih =>
      intro l' P hk hl' hP
      rw [if_neg (by omega), Nat.add_sub_cancel] at hP
      have hP2 : P ≤ 10 ^ 12 := by rw [hP]; exact Nat.pow_le_pow_right (by decide) (by omega)
      have hP0 : 0 < P := by rw [hP]; exact Nat.pow_pos (by decide)
      have hq : x / P ≤ x := Nat.div_le_self _ _
      have hP3 : P / 10 = if k = 0 then 0 else 10 ^ (k - 1) := by
        rw [hP]
        split
        · next e => subst e; rfl
        · next e =>
          obtain ⟨j, rfl⟩ : ∃ j, k = j + 1 := ⟨k - 1, by omega⟩
          rw [Nat.pow_succ, Nat.mul_div_cancel _ (by decide), Nat.add_sub_cancel]
      have E := ih (l' ++ [nI (x / P % 10 + 48)]) (P / 10) (by omega) (by rw [List.length_append]; show l'.length + 1 + k < 9000; omega) hP3
      rw [List.append_assoc] at E
      have ed : dgt x (k + 1) = [nI (x / P % 10 + 48)] ++ dgt x k := by rw [hP]; rfl
      rw [ed]
      generalize hy : x / P = y at hq E ⊢
      refine ru_lload_n d_Mo_sayNumber_27 rfl rfl ?_
      refine ru_lconst (v := 0) d_Mo_sayNumber_28 (by decide) ?_
      refine ru_lcmp d_Mo_sayNumber_29 ?_
      refine ru_if_le (tgt := 57) d_Mo_sayNumber_30 (by decide) (fun h30 => ?_) (fun h30 => ?_)
      · skip
        replace h30 := (lg_cmp_le _ _).mp h30
        replace h30 := nl_le (a := P) (b := 0) (by omega) (by omega) h30
        exfalso; omega
      · skip
        replace h30 := fun q => h30 ((lg_cmp_le _ _).mpr q)
        replace h30 := nl_nle (a := P) (b := 0) (by omega) (by omega) h30
        refine ru_aload_n d_Mo_sayNumber_33 rfl rfl ?_
        refine ru_lload_n d_Mo_sayNumber_34 rfl rfl ?_
        refine ru_lload_n d_Mo_sayNumber_35 rfl rfl ?_
        refine ru_ldiv d_Mo_sayNumber_36 (nl_ne0 (a := P) (by omega) (by omega)) ?_
        refine ru_eql (nl_div (a := x) (b := P) (by omega) (by omega) hP0 : _ = Int64.ofNat (x / P)) ?_
        refine ru_eql (congrArg Int64.ofNat hy) ?_
        refine ru_ldc2 d_Mo_sayNumber_37 lc_Mo_114 ?_
        refine ru_lrem d_Mo_sayNumber_40 (by decide) ?_
        refine ru_eql (nl_rem (a := y) (b := 10) (by omega) (by omega) (by omega) : _ = Int64.ofNat (y % 10)) ?_
        refine ru_l2i d_Mo_sayNumber_41 ?_
        refine ru_eqi (nl_l2i (y % 10)) ?_
        refine ru_bipush (v := 48) d_Mo_sayNumber_42 (by decide) ?_
        refine ru_iadd d_Mo_sayNumber_44 ?_
        refine ru_eqi (nm_add (y % 10) 48 : _ = nI ((y % 10) + 48)) ?_
        refine ru_callV (mc := 0) (ms := 0) d_Mo_sayNumber_45 lm_Mo_218 (sq_say hL _ (by omega)) (rx_recv_is (ly hL 398 9 0) kx_Mo) (by decide) rfl (Nat.le_of_ble_eq_true rfl) ?_
        rintro v τ ⟨rfl, rfl⟩
        refine ru_lload_n d_Mo_sayNumber_48 rfl rfl ?_
        refine ru_ldc2 d_Mo_sayNumber_49 lc_Mo_114 ?_
        refine ru_ldiv d_Mo_sayNumber_52 (by decide) ?_
        refine ru_eql (nl_div (a := P) (b := 10) (by omega) (by omega) (by omega) : _ = Int64.ofNat (P / 10)) ?_
        refine ru_lstore_n d_Mo_sayNumber_53 rfl (by decide) ?_
        refine ru_goto (tgt := 27) d_Mo_sayNumber_54 (by decide) ?_
        exact ru_to E ⟨rfl, rfl, rfl, trivial⟩
  have loop1 : ∀ f k (P : Nat), k + f = 12 → P = 10 ^ k → rx_W M_Mo_sayNumber 1 0 0 8 [(0, .ref 398), (1, .long (Int64.ofNat x)), (3, .long (Int64.ofNat P))] [] (nx, ct, mO m0 (l ++ [32]), ml, mr) (pR (fun v τ => v = none ∧ τ = (nx, ct, mO m0 (l ++ 32 :: dgt x (ndF x f k)), ml, mr))) := by
    intro f
    induction f with
    | zero =>
      intro k P hk hP
      have hk12 : k = 12 := by omega
      subst hk12
      have hP2 : P = 1000000000000 := hP
      have hlt : x / P < 10 := by rw [hP2]; omega
      have E := loop2 13 (l ++ [32]) P (by omega) (by rw [List.length_append]; show l.length + 1 + 13 < 9000; omega) (by rw [hP]; rfl)
      rw [List.append_assoc] at E
      have hq : x / P ≤ x := Nat.div_le_self _ _
      have hP0 : 0 < P := by omega
      show rx_W M_Mo_sayNumber 1 0 0 8 _ _ _ (pR (fun v τ => v = none ∧ τ = (nx, ct, mO m0 (l ++ 32 :: dgt x 13), ml, mr)))
      generalize hy : x / P = y at hlt hq
      refine ru_lload_n d_Mo_sayNumber_8 rfl rfl ?_
      refine ru_lload_n d_Mo_sayNumber_9 rfl rfl ?_
      refine ru_ldiv d_Mo_sayNumber_10 (nl_ne0 (a := P) (by omega) (by omega)) ?_
      refine ru_eql (nl_div (a := x) (b := P) (by omega) (by omega) hP0 : _ = Int64.ofNat (x / P)) ?_
      refine ru_eql (congrArg Int64.ofNat hy) ?_
      refine ru_ldc2 d_Mo_sayNumber_11 lc_Mo_114 ?_
      refine ru_lcmp d_Mo_sayNumber_14 ?_
      refine ru_if_lt (tgt := 27) d_Mo_sayNumber_15 (by decide) (fun h15 => ?_) (fun h15 => ?_)
      · skip
        replace h15 := (lg_cmp_lt _ _).mp h15
        replace h15 := nl_lt (a := y) (b := 10) (by omega) (by omega) h15
        exact ru_to E ⟨rfl, rfl, rfl, trivial⟩
      · skip
        replace h15 := fun q => h15 ((lg_cmp_lt _ _).mpr q)
        replace h15 := nl_nlt (a := y) (b := 10) (by omega) (by omega) h15
        exfalso; omega
    | succ f ih =>
      intro k P hk hP
      have hP2 : P ≤ 10 ^ 12 := by rw [hP]; exact Nat.pow_le_pow_right (by decide) (by omega)
      have hP0 : 0 < P := by rw [hP]; exact Nat.pow_pos (by decide)
      have hq : x / P ≤ x := Nat.div_le_self _ _
      have E := loop2 (k + 1) (l ++ [32]) P (by omega) (by rw [List.length_append]; show l.length + 1 + (k + 1) < 9000; omega) (by rw [hP]; rfl)
      rw [List.append_assoc] at E
      have ih' := ih (k + 1) (10 * P) (by omega) (by rw [hP, Nat.pow_succ, Nat.mul_comm])
      have en : ndF x (f + 1) k = if x / P < 10 then k + 1 else ndF x f (k + 1) := by rw [hP]; rfl
      rw [en]
      generalize hy : x / P = y at hq
      refine ru_lload_n d_Mo_sayNumber_8 rfl rfl ?_
      refine ru_lload_n d_Mo_sayNumber_9 rfl rfl ?_
      refine ru_ldiv d_Mo_sayNumber_10 (nl_ne0 (a := P) (by omega) (by omega)) ?_
      refine ru_eql (nl_div (a := x) (b := P) (by omega) (by omega) hP0 : _ = Int64.ofNat (x / P)) ?_
      refine ru_eql (congrArg Int64.ofNat hy) ?_
      refine ru_ldc2 d_Mo_sayNumber_11 lc_Mo_114 ?_
      refine ru_lcmp d_Mo_sayNumber_14 ?_
      refine ru_if_lt (tgt := 27) d_Mo_sayNumber_15 (by decide) (fun h15 => ?_) (fun h15 => ?_)
      · skip
        replace h15 := (lg_cmp_lt _ _).mp h15
        replace h15 := nl_lt (a := y) (b := 10) (by omega) (by omega) h15
        rw [if_pos (by omega)]
        exact ru_to E ⟨rfl, rfl, rfl, trivial⟩
      · skip
        replace h15 := fun q => h15 ((lg_cmp_lt _ _).mpr q)
        replace h15 := nl_nlt (a := y) (b := 10) (by omega) (by omega) h15
        refine ru_ldc2 d_Mo_sayNumber_18 lc_Mo_114 ?_
        refine ru_lload_n d_Mo_sayNumber_21 rfl rfl ?_
        refine ru_lmul d_Mo_sayNumber_22 ?_
        refine ru_eql (nl_mul 10 P : _ = Int64.ofNat (10 * P)) ?_
        refine ru_lstore_n d_Mo_sayNumber_23 rfl (by decide) ?_
        refine ru_goto (tgt := 8) d_Mo_sayNumber_24 (by decide) ?_
        rw [if_neg (by omega)]
        exact ru_to ih' ⟨rfl, rfl, rfl, trivial⟩
  refine ru_aload_n d_Mo_sayNumber_0 rfl rfl ?_
  refine ru_bipush (v := 32) d_Mo_sayNumber_1 (by decide) ?_
  refine ru_callV (mc := 0) (ms := 0) d_Mo_sayNumber_3 lm_Mo_218 (sq_say hL _ (by omega)) (rx_recv_is (ly hL 398 9 0) kx_Mo) (by decide) rfl (Nat.le_of_ble_eq_true rfl) ?_
  rintro v τ ⟨rfl, rfl⟩
  refine ru_lconst (v := 1) d_Mo_sayNumber_6 (by decide) ?_
  refine ru_lstore_n d_Mo_sayNumber_7 rfl (by decide) ?_
  exact ru_to (loop1 12 0 1 rfl rfl) ⟨rfl, rfl, rfl, trivial⟩
theorem sq_sayName {N : nmS} {a b : Nat} (hL : LAY nx ct mr) (hN : NmM N m0) (ha : a < 3) (hb : b < 16) (hl : l.length + 9 < 9000) : rx_Calls y_Mo_sayName M_Mo_sayName 1 0 0 [.ref 398, .int (nI a), .long (Int64.ofNat b)] (nx, ct, mO m0 l, ml, mr) (fun v τ => v = none ∧ τ = (nx, ct, mO m0 (l ++ 32 :: nameL N (16 * a + b)), ml, mr)) := by
  refine rx_enter (by decide) rfl rfl (Nat.le_of_ble_eq_true rfl) ?_
  have hk : 16 * a + b < 48 := by omega
  obtain ⟨n1, n2, n3⟩ := hN (16 * a + b) hk
  have n1' : ∀ l, mO m0 l 400 (16 * a + b) = nI (N.1 (16 * a + b)) := fun l => by rw [mO_r]; exact n1
  have n3' : ∀ l i, i < N.1 (16 * a + b) → mO m0 l 401 (8 * (16 * a + b) + i) = N.2 (16 * a + b) i := fun l i hi => by rw [mO_r]; exact n3 i hi
  generalize hke : 16 * a + b = k at hk n1 n2 n3 n1' n3' ⊢
  have loop : ∀ f i (l' : List Int32), i ≤ N.1 k → f = N.1 k - i → l'.length + f < 9000 → rx_W M_Mo_sayName 1 0 0 18 [(0, .ref 398), (4, .int (nI k)), (5, .int (nI i))] [] (nx, ct, mO m0 l', ml, mr) (pR (fun v τ => v = none ∧ τ = (nx, ct, mO m0 (l' ++ nmL N k f i), ml, mr))) := by
    intro f
    induction f with
    | zero =>
      intro i l' hi hf hl'
      refine ru_iload d_Mo_sayName_18 rfl ?_
      refine ru_aload_n d_Mo_sayName_20 rfl rfl ?_
      refine ru_getR d_Mo_sayName_21 lf_Mo_13 (ly hL 398 9 0) rfl (lr hL 398 3 400) ?_
      refine ru_iload d_Mo_sayName_24 rfl ?_
      refine ru_ialdN (j := k) d_Mo_sayName_26 (ly hL 400 100 48) (by omega) (by decide) ?_
      refine ru_eqi (n1' _) ?_
      refine ru_icmp_ge (tgt := 53) d_Mo_sayName_27 (by decide) (fun h27 => ?_) (fun h27 => absurd (nI_le (by omega) (by omega)) h27)
      replace h27 := nm_le (a := (N.1 k)) (b := i) (by omega) (by omega) h27
      refine ru_vret d_Mo_sayName_53 rfl ?_
      show _ ∧ _ = (nx, ct, mO m0 (l' ++ []), ml, mr)
      rw [List.append_nil]
      exact ⟨rfl, rfl⟩
    | succ f ih =>
      intro i l' hi hf hl'
      have E := ih (i + 1) (l' ++ [N.2 k i]) (by omega) (by omega) (by rw [List.length_append]; show l'.length + 1 + f < 9000; omega)
      rw [List.append_assoc] at E
      refine ru_iload d_Mo_sayName_18 rfl ?_
      refine ru_aload_n d_Mo_sayName_20 rfl rfl ?_
      refine ru_getR d_Mo_sayName_21 lf_Mo_13 (ly hL 398 9 0) rfl (lr hL 398 3 400) ?_
      refine ru_iload d_Mo_sayName_24 rfl ?_
      refine ru_ialdN (j := k) d_Mo_sayName_26 (ly hL 400 100 48) (by omega) (by decide) ?_
      refine ru_eqi (n1' _) ?_
      refine ru_icmp_ge (tgt := 53) d_Mo_sayName_27 (by decide) (fun h27 => absurd h27 (nI_ge (by omega) (by omega))) (fun h27 => ?_)
      replace h27 := nm_nle (a := (N.1 k)) (b := i) (by omega) (by omega) h27
      refine ru_aload_n d_Mo_sayName_30 rfl rfl ?_
      refine ru_aload_n d_Mo_sayName_31 rfl rfl ?_
      refine ru_getR d_Mo_sayName_32 lf_Mo_16 (ly hL 398 9 0) rfl (lr hL 398 4 401) ?_
      refine ru_bipush (v := 8) d_Mo_sayName_35 (by decide) ?_
      refine ru_iload d_Mo_sayName_37 rfl ?_
      refine ru_imul d_Mo_sayName_39 ?_
      refine ru_eqi (nm_mul 8 k : _ = nI (8 * k)) ?_
      refine ru_iload d_Mo_sayName_40 rfl ?_
      refine ru_iadd d_Mo_sayName_42 ?_
      refine ru_eqi (nm_add (8 * k) i : _ = nI ((8 * k) + i)) ?_
      refine ru_ialdN (j := ((8 * k) + i)) d_Mo_sayName_43 (ly hL 401 100 384) (by omega) (by decide) ?_
      refine ru_eqi (n3' _ i (by omega)) ?_
      refine ru_callV (mc := 0) (ms := 0) d_Mo_sayName_44 lm_Mo_218 (sq_say hL _ (by omega)) (rx_recv_is (ly hL 398 9 0) kx_Mo) (by decide) rfl (Nat.le_of_ble_eq_true rfl) ?_
      rintro v τ ⟨rfl, rfl⟩
      refine ru_iinc (v := nI (i + 1)) d_Mo_sayName_47 rfl (nm_inc _ 1) (by decide) ?_
      refine ru_goto (tgt := 18) d_Mo_sayName_50 (by decide) ?_
      exact ru_to E ⟨rfl, rfl, rfl, trivial⟩
  refine ru_bipush (v := 16) d_Mo_sayName_0 (by decide) ?_
  refine ru_iload_n d_Mo_sayName_2 rfl rfl ?_
  refine ru_imul d_Mo_sayName_3 ?_
  refine ru_eqi (nm_mul 16 a : _ = nI (16 * a)) ?_
  refine ru_lload_n d_Mo_sayName_4 rfl rfl ?_
  refine ru_l2i d_Mo_sayName_5 ?_
  refine ru_eqi (nl_l2i b) ?_
  refine ru_iadd d_Mo_sayName_6 ?_
  refine ru_eqi (nm_add (16 * a) b : _ = nI ((16 * a) + b)) ?_
  refine ru_eqi (congrArg nI hke) ?_
  refine ru_istore d_Mo_sayName_7 (by decide) ?_
  refine ru_aload_n d_Mo_sayName_9 rfl rfl ?_
  refine ru_bipush (v := 32) d_Mo_sayName_10 (by decide) ?_
  refine ru_callV (mc := 0) (ms := 0) d_Mo_sayName_12 lm_Mo_218 (sq_say hL _ (by omega)) (rx_recv_is (ly hL 398 9 0) kx_Mo) (by decide) rfl (Nat.le_of_ble_eq_true rfl) ?_
  rintro v τ ⟨rfl, rfl⟩
  refine ru_iconst (v := 0) d_Mo_sayName_15 (by decide) ?_
  refine ru_istore d_Mo_sayName_16 (by decide) ?_
  have E := loop (N.1 k) 0 (l ++ [32]) (by omega) rfl (by rw [List.length_append]; show l.length + 1 + N.1 k < 9000; omega)
  rw [List.append_assoc] at E
  exact ru_to E ⟨rfl, rfl, rfl, trivial⟩
end
