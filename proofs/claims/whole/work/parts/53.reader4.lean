/-! The class reads: amounts, units, the things of a rule -/
theorem d_Rd_readAmount_0 : decode M_Rd_readAmount.2.1 0 = .ok (.aload_n 1, 1) := by decide +kernel
theorem d_Rd_readAmount_1 : decode M_Rd_readAmount.2.1 1 = .ok (.aload_n 0, 1) := by decide +kernel
theorem d_Rd_readAmount_2 : decode M_Rd_readAmount.2.1 2 = .ok (.getfield 21, 3) := by decide +kernel
theorem d_Rd_readAmount_5 : decode M_Rd_readAmount.2.1 5 = .ok (.invokevirtual 219, 3) := by decide +kernel
theorem d_Rd_readAmount_8 : decode M_Rd_readAmount.2.1 8 = .ok (.ifCond .ne 5, 3) := by decide +kernel
theorem d_Rd_readAmount_11 : decode M_Rd_readAmount.2.1 11 = .ok (.iconst 0, 1) := by decide +kernel
theorem d_Rd_readAmount_12 : decode M_Rd_readAmount.2.1 12 = .ok (.ireturn, 1) := by decide +kernel
theorem d_Rd_readAmount_13 : decode M_Rd_readAmount.2.1 13 = .ok (.iload_n 2, 1) := by decide +kernel
theorem d_Rd_readAmount_14 : decode M_Rd_readAmount.2.1 14 = .ok (.ifCond .eq 20, 3) := by decide +kernel
theorem d_Rd_readAmount_17 : decode M_Rd_readAmount.2.1 17 = .ok (.aload_n 1, 1) := by decide +kernel
theorem d_Rd_readAmount_18 : decode M_Rd_readAmount.2.1 18 = .ok (.lconst 1, 1) := by decide +kernel
theorem d_Rd_readAmount_19 : decode M_Rd_readAmount.2.1 19 = .ok (.ldc2_w 223, 3) := by decide +kernel
theorem d_Rd_readAmount_22 : decode M_Rd_readAmount.2.1 22 = .ok (.invokevirtual 225, 3) := by decide +kernel
theorem d_Rd_readAmount_25 : decode M_Rd_readAmount.2.1 25 = .ok (.ifCond .ne 9, 3) := by decide +kernel
theorem d_Rd_readAmount_28 : decode M_Rd_readAmount.2.1 28 = .ok (.aload_n 0, 1) := by decide +kernel
theorem d_Rd_readAmount_29 : decode M_Rd_readAmount.2.1 29 = .ok (.aload_n 1, 1) := by decide +kernel
theorem d_Rd_readAmount_30 : decode M_Rd_readAmount.2.1 30 = .ok (.invokevirtual 209, 3) := by decide +kernel
theorem d_Rd_readAmount_33 : decode M_Rd_readAmount.2.1 33 = .ok (.ireturn, 1) := by decide +kernel
theorem d_Rd_readAmount_34 : decode M_Rd_readAmount.2.1 34 = .ok (.aload_n 0, 1) := by decide +kernel
theorem d_Rd_readAmount_35 : decode M_Rd_readAmount.2.1 35 = .ok (.getfield 21, 3) := by decide +kernel
theorem d_Rd_readAmount_38 : decode M_Rd_readAmount.2.1 38 = .ok (.invokevirtual 71, 3) := by decide +kernel
theorem d_Rd_readAmount_41 : decode M_Rd_readAmount.2.1 41 = .ok (.iconst 1, 1) := by decide +kernel
theorem d_Rd_readAmount_42 : decode M_Rd_readAmount.2.1 42 = .ok (.ireturn, 1) := by decide +kernel
theorem d_Rd_readScope_0 : decode M_Rd_readScope.2.1 0 = .ok (.aload_n 1, 1) := by decide +kernel
theorem d_Rd_readScope_1 : decode M_Rd_readScope.2.1 1 = .ok (.invokevirtual 77, 3) := by decide +kernel
theorem d_Rd_readScope_4 : decode M_Rd_readScope.2.1 4 = .ok (.ifCond .ne 26, 3) := by decide +kernel
theorem d_Rd_readScope_7 : decode M_Rd_readScope.2.1 7 = .ok (.aload_n 0, 1) := by decide +kernel
theorem d_Rd_readScope_8 : decode M_Rd_readScope.2.1 8 = .ok (.aload_n 1, 1) := by decide +kernel
theorem d_Rd_readScope_9 : decode M_Rd_readScope.2.1 9 = .ok (.invokevirtual 111, 3) := by decide +kernel
theorem d_Rd_readScope_12 : decode M_Rd_readScope.2.1 12 = .ok (.ifCond .eq 8, 3) := by decide +kernel
theorem d_Rd_readScope_15 : decode M_Rd_readScope.2.1 15 = .ok (.ldc 114, 2) := by decide +kernel
theorem d_Rd_readScope_17 : decode M_Rd_readScope.2.1 17 = .ok (.goto 5, 3) := by decide +kernel
theorem d_Rd_readScope_20 : decode M_Rd_readScope.2.1 20 = .ok (.ldc 116, 2) := by decide +kernel
theorem d_Rd_readScope_22 : decode M_Rd_readScope.2.1 22 = .ok (.invokevirtual 94, 3) := by decide +kernel
theorem d_Rd_readScope_25 : decode M_Rd_readScope.2.1 25 = .ok (.ifCond .ne 5, 3) := by decide +kernel
theorem d_Rd_readScope_28 : decode M_Rd_readScope.2.1 28 = .ok (.iconst 1, 1) := by decide +kernel
theorem d_Rd_readScope_29 : decode M_Rd_readScope.2.1 29 = .ok (.ireturn, 1) := by decide +kernel
theorem d_Rd_readScope_30 : decode M_Rd_readScope.2.1 30 = .ok (.aload_n 1, 1) := by decide +kernel
theorem d_Rd_readScope_31 : decode M_Rd_readScope.2.1 31 = .ok (.aload_n 0, 1) := by decide +kernel
theorem d_Rd_readScope_32 : decode M_Rd_readScope.2.1 32 = .ok (.invokevirtual 118, 3) := by decide +kernel
theorem d_Rd_readScope_35 : decode M_Rd_readScope.2.1 35 = .ok (.putfield 122, 3) := by decide +kernel
theorem d_Rd_readScope_38 : decode M_Rd_readScope.2.1 38 = .ok (.aload_n 1, 1) := by decide +kernel
theorem d_Rd_readScope_39 : decode M_Rd_readScope.2.1 39 = .ok (.getfield 122, 3) := by decide +kernel
theorem d_Rd_readScope_42 : decode M_Rd_readScope.2.1 42 = .ok (.bipush (-2), 2) := by decide +kernel
theorem d_Rd_readScope_44 : decode M_Rd_readScope.2.1 44 = .ok (.if_icmp .eq 10, 3) := by decide +kernel
theorem d_Rd_readScope_47 : decode M_Rd_readScope.2.1 47 = .ok (.aload_n 1, 1) := by decide +kernel
theorem d_Rd_readScope_48 : decode M_Rd_readScope.2.1 48 = .ok (.invokevirtual 111, 3) := by decide +kernel
theorem d_Rd_readScope_51 : decode M_Rd_readScope.2.1 51 = .ok (.ifCond .ne 18, 3) := by decide +kernel
theorem d_Rd_readScope_54 : decode M_Rd_readScope.2.1 54 = .ok (.aload_n 1, 1) := by decide +kernel
theorem d_Rd_readScope_55 : decode M_Rd_readScope.2.1 55 = .ok (.getfield 122, 3) := by decide +kernel
theorem d_Rd_readScope_58 : decode M_Rd_readScope.2.1 58 = .ok (.bipush (-2), 2) := by decide +kernel
theorem d_Rd_readScope_60 : decode M_Rd_readScope.2.1 60 = .ok (.if_icmp .eq 7, 3) := by decide +kernel
theorem d_Rd_readScope_63 : decode M_Rd_readScope.2.1 63 = .ok (.iconst 1, 1) := by decide +kernel
theorem d_Rd_readScope_64 : decode M_Rd_readScope.2.1 64 = .ok (.goto 4, 3) := by decide +kernel
theorem d_Rd_readScope_67 : decode M_Rd_readScope.2.1 67 = .ok (.iconst 0, 1) := by decide +kernel
theorem d_Rd_readScope_68 : decode M_Rd_readScope.2.1 68 = .ok (.ireturn, 1) := by decide +kernel
theorem d_Rd_readScope_69 : decode M_Rd_readScope.2.1 69 = .ok (.aload_n 0, 1) := by decide +kernel
theorem d_Rd_readScope_70 : decode M_Rd_readScope.2.1 70 = .ok (.ldc 125, 2) := by decide +kernel
theorem d_Rd_readScope_72 : decode M_Rd_readScope.2.1 72 = .ok (.invokevirtual 94, 3) := by decide +kernel
theorem d_Rd_readScope_75 : decode M_Rd_readScope.2.1 75 = .ok (.ifCond .ne 5, 3) := by decide +kernel
theorem d_Rd_readScope_78 : decode M_Rd_readScope.2.1 78 = .ok (.iconst 0, 1) := by decide +kernel
theorem d_Rd_readScope_79 : decode M_Rd_readScope.2.1 79 = .ok (.ireturn, 1) := by decide +kernel
theorem d_Rd_readScope_80 : decode M_Rd_readScope.2.1 80 = .ok (.aload_n 1, 1) := by decide +kernel
theorem d_Rd_readScope_81 : decode M_Rd_readScope.2.1 81 = .ok (.aload_n 0, 1) := by decide +kernel
theorem d_Rd_readScope_82 : decode M_Rd_readScope.2.1 82 = .ok (.invokevirtual 118, 3) := by decide +kernel
theorem d_Rd_readScope_85 : decode M_Rd_readScope.2.1 85 = .ok (.putfield 127, 3) := by decide +kernel
theorem d_Rd_readScope_88 : decode M_Rd_readScope.2.1 88 = .ok (.aload_n 1, 1) := by decide +kernel
theorem d_Rd_readScope_89 : decode M_Rd_readScope.2.1 89 = .ok (.getfield 127, 3) := by decide +kernel
theorem d_Rd_readScope_92 : decode M_Rd_readScope.2.1 92 = .ok (.bipush (-2), 2) := by decide +kernel
theorem d_Rd_readScope_94 : decode M_Rd_readScope.2.1 94 = .ok (.if_icmp .eq 7, 3) := by decide +kernel
theorem d_Rd_readScope_97 : decode M_Rd_readScope.2.1 97 = .ok (.iconst 1, 1) := by decide +kernel
theorem d_Rd_readScope_98 : decode M_Rd_readScope.2.1 98 = .ok (.goto 4, 3) := by decide +kernel
theorem d_Rd_readScope_101 : decode M_Rd_readScope.2.1 101 = .ok (.iconst 0, 1) := by decide +kernel
theorem d_Rd_readScope_102 : decode M_Rd_readScope.2.1 102 = .ok (.ireturn, 1) := by decide +kernel
theorem d_Rd_readUnit_0 : decode M_Rd_readUnit.2.1 0 = .ok (.aload_n 0, 1) := by decide +kernel
theorem d_Rd_readUnit_1 : decode M_Rd_readUnit.2.1 1 = .ok (.invokevirtual 229, 3) := by decide +kernel
theorem d_Rd_readUnit_4 : decode M_Rd_readUnit.2.1 4 = .ok (.astore_n 2, 1) := by decide +kernel
theorem d_Rd_readUnit_5 : decode M_Rd_readUnit.2.1 5 = .ok (.aload_n 2, 1) := by decide +kernel
theorem d_Rd_readUnit_6 : decode M_Rd_readUnit.2.1 6 = .ok (.ifnonnull 5, 3) := by decide +kernel
theorem d_Rd_readUnit_9 : decode M_Rd_readUnit.2.1 9 = .ok (.iconst 0, 1) := by decide +kernel
theorem d_Rd_readUnit_10 : decode M_Rd_readUnit.2.1 10 = .ok (.ireturn, 1) := by decide +kernel
theorem d_Rd_readUnit_11 : decode M_Rd_readUnit.2.1 11 = .ok (.aload_n 0, 1) := by decide +kernel
theorem d_Rd_readUnit_12 : decode M_Rd_readUnit.2.1 12 = .ok (.getfield 12, 3) := by decide +kernel
theorem d_Rd_readUnit_15 : decode M_Rd_readUnit.2.1 15 = .ok (.aload_n 2, 1) := by decide +kernel
theorem d_Rd_readUnit_16 : decode M_Rd_readUnit.2.1 16 = .ok (.getfield 233, 3) := by decide +kernel
theorem d_Rd_readUnit_19 : decode M_Rd_readUnit.2.1 19 = .ok (.ldc2_w 238, 3) := by decide +kernel
theorem d_Rd_readUnit_22 : decode M_Rd_readUnit.2.1 22 = .ok (.invokevirtual 225, 3) := by decide +kernel
theorem d_Rd_readUnit_25 : decode M_Rd_readUnit.2.1 25 = .ok (.ifCond .ne 12, 3) := by decide +kernel
theorem d_Rd_readUnit_28 : decode M_Rd_readUnit.2.1 28 = .ok (.aload_n 0, 1) := by decide +kernel
theorem d_Rd_readUnit_29 : decode M_Rd_readUnit.2.1 29 = .ok (.aload_n 0, 1) := by decide +kernel
theorem d_Rd_readUnit_30 : decode M_Rd_readUnit.2.1 30 = .ok (.getfield 12, 3) := by decide +kernel
theorem d_Rd_readUnit_33 : decode M_Rd_readUnit.2.1 33 = .ok (.invokevirtual 209, 3) := by decide +kernel
theorem d_Rd_readUnit_36 : decode M_Rd_readUnit.2.1 36 = .ok (.ireturn, 1) := by decide +kernel
theorem d_Rd_readUnit_37 : decode M_Rd_readUnit.2.1 37 = .ok (.iload_n 1, 1) := by decide +kernel
theorem d_Rd_readUnit_38 : decode M_Rd_readUnit.2.1 38 = .ok (.ifCond .eq 29, 3) := by decide +kernel
theorem d_Rd_readUnit_41 : decode M_Rd_readUnit.2.1 41 = .ok (.aload_n 0, 1) := by decide +kernel
theorem d_Rd_readUnit_42 : decode M_Rd_readUnit.2.1 42 = .ok (.getfield 18, 3) := by decide +kernel
theorem d_Rd_readUnit_45 : decode M_Rd_readUnit.2.1 45 = .ok (.aload_n 2, 1) := by decide +kernel
theorem d_Rd_readUnit_46 : decode M_Rd_readUnit.2.1 46 = .ok (.getfield 233, 3) := by decide +kernel
theorem d_Rd_readUnit_49 : decode M_Rd_readUnit.2.1 49 = .ok (.ldc2_w 238, 3) := by decide +kernel
theorem d_Rd_readUnit_52 : decode M_Rd_readUnit.2.1 52 = .ok (.invokevirtual 225, 3) := by decide +kernel
theorem d_Rd_readUnit_55 : decode M_Rd_readUnit.2.1 55 = .ok (.ifCond .ne 12, 3) := by decide +kernel
theorem d_Rd_readUnit_58 : decode M_Rd_readUnit.2.1 58 = .ok (.aload_n 0, 1) := by decide +kernel
theorem d_Rd_readUnit_59 : decode M_Rd_readUnit.2.1 59 = .ok (.aload_n 0, 1) := by decide +kernel
theorem d_Rd_readUnit_60 : decode M_Rd_readUnit.2.1 60 = .ok (.getfield 18, 3) := by decide +kernel
theorem d_Rd_readUnit_63 : decode M_Rd_readUnit.2.1 63 = .ok (.invokevirtual 209, 3) := by decide +kernel
theorem d_Rd_readUnit_66 : decode M_Rd_readUnit.2.1 66 = .ok (.ireturn, 1) := by decide +kernel
theorem d_Rd_readUnit_67 : decode M_Rd_readUnit.2.1 67 = .ok (.aload_n 0, 1) := by decide +kernel
theorem d_Rd_readUnit_68 : decode M_Rd_readUnit.2.1 68 = .ok (.getfield 21, 3) := by decide +kernel
theorem d_Rd_readUnit_71 : decode M_Rd_readUnit.2.1 71 = .ok (.invokevirtual 71, 3) := by decide +kernel
theorem d_Rd_readUnit_74 : decode M_Rd_readUnit.2.1 74 = .ok (.iconst 1, 1) := by decide +kernel
theorem d_Rd_readUnit_75 : decode M_Rd_readUnit.2.1 75 = .ok (.ireturn, 1) := by decide +kernel
section
variable {nx : Nat} {ct : Nat → Nat × Nat} {mi mi' : Nat → Nat → Int32} {ml ml' : Nat → Nat → Int64} {mr : Nat → Nat → Option Nat} {n j j1 i r A κ : Nat} {t : Nat → Int32} {N : nmS}
theorem RF_am {k : Nat} {v : Int32} (hA : isAm A) (hm : ∀ x, x ≠ A → ml' x = ml x) : RF r mi (tkM (rx_u mi A k v) n t i) ml ml' := by
  refine ⟨fun x hx => ⟨?_, hm x (fun z => hx (by rw [z]; exact isAm_rd hA))⟩, ?_⟩
  · rw [tkM_r (fun z => hx (Or.inl z)), rx_u_r _ _ (fun z => hx (by rw [z]; exact isAm_rd hA))]
  · rw [tkM_1, rx_u_r _ _ (Ne.symm (isAm_ne hA).2.2.1)]
theorem flP.of {k : Nat} {v : Option Value} {τ : rx_S} (h : flP r k nx ct mi' ml' mr v τ) (h2 : RF r mi mi' ml ml') : flP r k nx ct mi ml mr v τ := by
  obtain ⟨h1, a, b, e, f, g⟩ := h
  exact ⟨h1, a, b, e, h2.trans f, g⟩
theorem fl_blame {k : Nat} {m1 : Nat → Nat → Int32} (h : RF r mi m1 ml ml') : flP r k nx ct mi ml mr (some (.int 0)) (nx, ct, rx_u m1 268 4 (nI k), ml', mr) := ⟨rfl, _, _, rfl, h.u (Or.inr (Or.inl rfl)) (by decide), Or.inr (rx_u_same _ _ _ _)⟩
def amP (A r nx : Nat) (ct : Nat → Nat × Nat) (mi : Nat → Nat → Int32) (ml : Nat → Nat → Int64) (mr : Nat → Nat → Option Nat) (n : Nat) (t : Nat → Int32) (j : Nat) (c : Prop) (o : Option (Nat × Nat)) : Option Value → rx_S → Prop := fun v τ => match o with
  | none => flP r j nx ct mi ml mr v τ
  | some q => v = some (.int 1) ∧ ∃ ml', τ = (nx, ct, tkM (rx_u mi A 0 (nI j)) n t (j + 1), ml', mr) ∧ (∀ x, x ≠ A → ml' x = ml x) ∧ ml' A 1 = Int64.ofNat q.1 ∧ ml' A 2 = Int64.ofNat q.2 ∧ (c → ml' A 3 = Int64.ofNat q.1)
theorem cl_readAmount {c : Prop} (hL : LAY nx ct mr) (h : RdOK N n t mi) (hA : isAm A) : rx_Calls y_Rd_readAmount M_Rd_readAmount 2 0 0 [.ref 268, .ref A, .int (bI c)] (nx, ct, tkM mi n t j, ml, mr) (amP A r nx ct mi ml mr n t j c (pNum n t c j)) := by
  refine rx_enter (by decide) rfl rfl (Nat.le_of_ble_eq_true rfl) ?_
  have h' : RdOK N n t (rx_u mi A 0 (nI j)) := h.u2 hA
  unfold pNum
  cases e : amt n t j with
  | none =>
    refine ru_aload_n d_Rd_readAmount_0 rfl rfl ?_
    refine ru_aload_n d_Rd_readAmount_1 rfl rfl ?_
    refine ru_getR d_Rd_readAmount_2 lf_Rd_21 (ly hL 268 3 0) rfl (lr hL 268 0 266) ?_
    refine ru_callV (mc := 0) (ms := 0) d_Rd_readAmount_5 lm_Rd_219 (cl_take hL h.1 hA) (rx_recv_is (ly_am hL hA) kx_Am) (by decide) rfl (Nat.le_of_ble_eq_true rfl) ?_
    rw [e]
    rintro v τ ⟨rfl, ml', rfl, hm⟩
    refine ru_if_ne (tgt := 13) d_Rd_readAmount_8 (by decide) (fun h8 => absurd h8 (by decide)) (fun h8 => ?_)
    refine ru_iconst (v := 0) d_Rd_readAmount_11 (by decide) ?_
    refine ru_zret (ty := .boolean) d_Rd_readAmount_12 rfl rfl ?_
    exact ⟨rfl, _, ml', rfl, RF_am hA hm, wrg_tk h'⟩
  | some q =>
    have hq := amt_lt e
    by_cases hc : c
    · by_cases hv : cvt q 1 1000000 = none
      · show rx_W _ _ _ _ _ _ _ _ (pR (amP A r nx ct mi ml mr n t j c (cnd (c ∧ cvt q 1 1000000 = none) none (some q))))
        rw [cnd_t ⟨hc, hv⟩]
        refine ru_aload_n d_Rd_readAmount_0 rfl rfl ?_
        refine ru_aload_n d_Rd_readAmount_1 rfl rfl ?_
        refine ru_getR d_Rd_readAmount_2 lf_Rd_21 (ly hL 268 3 0) rfl (lr hL 268 0 266) ?_
        refine ru_callV (mc := 0) (ms := 0) d_Rd_readAmount_5 lm_Rd_219 (cl_take hL h.1 hA) (rx_recv_is (ly_am hL hA) kx_Am) (by decide) rfl (Nat.le_of_ble_eq_true rfl) ?_
        rw [e]
        rintro v τ ⟨rfl, ml', rfl, hm, m1, m2⟩
        refine ru_if_ne (tgt := 13) d_Rd_readAmount_8 (by decide) (fun h8 => ?_) (fun h8 => absurd h8 (by decide))
        refine ru_iload_n d_Rd_readAmount_13 rfl rfl ?_
        refine ru_if_eq (tgt := 34) d_Rd_readAmount_14 (by decide) (fun h14 => absurd h14 (bI_ne0.mpr hc)) (fun h14 => ?_)
        refine ru_aload_n d_Rd_readAmount_17 rfl rfl ?_
        refine ru_lconst (v := 1) d_Rd_readAmount_18 (by decide) ?_
        refine ru_ldc2 d_Rd_readAmount_19 lc_Rd_223 ?_
        refine ru_callV (mc := 0) (ms := 0) d_Rd_readAmount_22 lm_Rd_225 (cl_convert (u := 1) (lim := 1000000) hL hA m1 m2 hq.1 hq.2 (by decide) (by decide)) (rx_recv_is (ly_am hL hA) kx_Am) (by decide) rfl (Nat.le_of_ble_eq_true rfl) ?_
        intro v τ h
        obtain ⟨rfl, rfl⟩ := h
        refine ru_if_ne (tgt := 34) d_Rd_readAmount_25 (by decide) (fun h25 => absurd (bI_f (fun z => z hv)) h25) (fun h25 => ?_)
        refine ru_aload_n d_Rd_readAmount_28 rfl rfl ?_
        refine ru_aload_n d_Rd_readAmount_29 rfl rfl ?_
        refine ru_callV (mc := 0) (ms := 0) d_Rd_readAmount_30 lm_Rd_209 (cl_blame hL hA) (rx_recv_is (ly hL 268 3 0) kx_Rd) (by decide) rfl (Nat.le_of_ble_eq_true rfl) ?_
        rintro v τ ⟨rfl, rfl⟩
        rw [tkM_r (isAm_ne hA).2.2.1, rx_u_same]
        refine ru_zret (ty := .boolean) d_Rd_readAmount_33 rfl rfl ?_
        exact fl_blame ((RF_am hA hm).l (isAm_rd hA))
      · show rx_W _ _ _ _ _ _ _ _ (pR (amP A r nx ct mi ml mr n t j c (cnd (c ∧ cvt q 1 1000000 = none) none (some q))))
        rw [cnd_f (fun z => hv z.2)]
        refine ru_aload_n d_Rd_readAmount_0 rfl rfl ?_
        refine ru_aload_n d_Rd_readAmount_1 rfl rfl ?_
        refine ru_getR d_Rd_readAmount_2 lf_Rd_21 (ly hL 268 3 0) rfl (lr hL 268 0 266) ?_
        refine ru_callV (mc := 0) (ms := 0) d_Rd_readAmount_5 lm_Rd_219 (cl_take hL h.1 hA) (rx_recv_is (ly_am hL hA) kx_Am) (by decide) rfl (Nat.le_of_ble_eq_true rfl) ?_
        rw [e]
        rintro v τ ⟨rfl, ml', rfl, hm, m1, m2⟩
        refine ru_if_ne (tgt := 13) d_Rd_readAmount_8 (by decide) (fun h8 => ?_) (fun h8 => absurd h8 (by decide))
        refine ru_iload_n d_Rd_readAmount_13 rfl rfl ?_
        refine ru_if_eq (tgt := 34) d_Rd_readAmount_14 (by decide) (fun h14 => absurd h14 (bI_ne0.mpr hc)) (fun h14 => ?_)
        refine ru_aload_n d_Rd_readAmount_17 rfl rfl ?_
        refine ru_lconst (v := 1) d_Rd_readAmount_18 (by decide) ?_
        refine ru_ldc2 d_Rd_readAmount_19 lc_Rd_223 ?_
        refine ru_callV (mc := 0) (ms := 0) d_Rd_readAmount_22 lm_Rd_225 (cl_convert (u := 1) (lim := 1000000) hL hA m1 m2 hq.1 hq.2 (by decide) (by decide)) (rx_recv_is (ly_am hL hA) kx_Am) (by decide) rfl (Nat.le_of_ble_eq_true rfl) ?_
        intro v τ h
        obtain ⟨rfl, rfl⟩ := h
        refine ru_if_ne (tgt := 34) d_Rd_readAmount_25 (by decide) (fun h25 => ?_) (fun h25 => absurd h25 (bI_ne0.mpr hv))
        refine ru_aload_n d_Rd_readAmount_34 rfl rfl ?_
        refine ru_getR d_Rd_readAmount_35 lf_Rd_21 (ly hL 268 3 0) rfl (lr hL 268 0 266) ?_
        refine ru_callV (mc := 0) (ms := 0) d_Rd_readAmount_38 lm_Rd_71 (cl_goOn hL h'.1) (rx_recv_is (ly hL 266 7 0) kx_Wo) (by decide) rfl (Nat.le_of_ble_eq_true rfl) ?_
        intro v τ h
        obtain ⟨rfl, rfl⟩ := h
        refine ru_iconst (v := 1) d_Rd_readAmount_41 (by decide) ?_
        refine ru_zret (ty := .boolean) d_Rd_readAmount_42 rfl rfl ?_
        refine ⟨rfl, _, rfl, fun x hx => by rw [rx_u_r _ _ hx]; exact hm x hx, by rw [rx_u_k _ _ (by decide)]; exact m1, by rw [rx_u_k _ _ (by decide)]; exact m2, fun _ => ?_⟩
        rw [rx_u_same, Nat.mul_one, Nat.mul_one, Nat.div_eq_of_lt hq.2, Nat.add_zero]
    · show rx_W _ _ _ _ _ _ _ _ (pR (amP A r nx ct mi ml mr n t j c (cnd (c ∧ cvt q 1 1000000 = none) none (some q))))
      rw [cnd_f (fun z => hc z.1)]
      refine ru_aload_n d_Rd_readAmount_0 rfl rfl ?_
      refine ru_aload_n d_Rd_readAmount_1 rfl rfl ?_
      refine ru_getR d_Rd_readAmount_2 lf_Rd_21 (ly hL 268 3 0) rfl (lr hL 268 0 266) ?_
      refine ru_callV (mc := 0) (ms := 0) d_Rd_readAmount_5 lm_Rd_219 (cl_take hL h.1 hA) (rx_recv_is (ly_am hL hA) kx_Am) (by decide) rfl (Nat.le_of_ble_eq_true rfl) ?_
      rw [e]
      rintro v τ ⟨rfl, ml', rfl, hm, m1, m2⟩
      refine ru_if_ne (tgt := 13) d_Rd_readAmount_8 (by decide) (fun h8 => ?_) (fun h8 => absurd h8 (by decide))
      refine ru_iload_n d_Rd_readAmount_13 rfl rfl ?_
      refine ru_if_eq (tgt := 34) d_Rd_readAmount_14 (by decide) (fun h14 => ?_) (fun h14 => absurd (bI_f hc) h14)
      refine ru_aload_n d_Rd_readAmount_34 rfl rfl ?_
      refine ru_getR d_Rd_readAmount_35 lf_Rd_21 (ly hL 268 3 0) rfl (lr hL 268 0 266) ?_
      refine ru_callV (mc := 0) (ms := 0) d_Rd_readAmount_38 lm_Rd_71 (cl_goOn hL h'.1) (rx_recv_is (ly hL 266 7 0) kx_Wo) (by decide) rfl (Nat.le_of_ble_eq_true rfl) ?_
      intro v τ h
      obtain ⟨rfl, rfl⟩ := h
      refine ru_iconst (v := 1) d_Rd_readAmount_41 (by decide) ?_
      refine ru_zret (ty := .boolean) d_Rd_readAmount_42 rfl rfl ?_
      exact ⟨rfl, _, rfl, hm, m1, m2, fun z => absurd z hc⟩
theorem un_eq : ∀ u, u < 5 → rx_un u = Int64.ofNat (unN u) ∧ unN u ≤ 25400000 := by decide +kernel
theorem unt_lt {u : Nat} (h : unt n t j = some u) : u < 5 := by have := (nthF_some _ _ _ h).1; omega
theorem cl_readUnit1 {qa : Nat × Nat} (hL : LAY nx ct mr) (h : RdOK N n t mi) (hw : mi 269 0 = nI j1) (ha : ml 269 1 = Int64.ofNat qa.1 ∧ ml 269 2 = Int64.ofNat qa.2) (hq : qa.1 < 1000000000 ∧ qa.2 < 1000000) : rx_Calls y_Rd_readUnit M_Rd_readUnit 6 0 0 [.ref 268, .int 0] (nx, ct, tkM mi n t j, ml, mr) (fun v τ => match unt n t j with
    | none => flP r j nx ct mi ml mr v τ
    | some u => match cvt qa (unN u) 1000000000000 with
      | none => flP r j1 nx ct mi ml mr v τ
      | some x => v = some (.int 1) ∧ τ = (nx, ct, tkM mi n t (j + 1), rx_u ml 269 3 (Int64.ofNat x), mr)) := by
  refine rx_enter (by decide) rfl rfl (Nat.le_of_ble_eq_true rfl) ?_
  cases e : unt n t j with
  | none =>
    refine ru_aload_n d_Rd_readUnit_0 rfl rfl ?_
    refine ru_callV (mc := 0) (ms := 0) d_Rd_readUnit_1 lm_Rd_229 (cl_findUnit hL h.1) (rx_recv_is (ly hL 268 3 0) kx_Rd) (by decide) rfl (Nat.le_of_ble_eq_true rfl) ?_
    rw [e]
    rintro v τ ⟨rfl, rfl⟩
    refine ru_astore_nN d_Rd_readUnit_4 rfl (by decide) ?_
    refine ru_aload_nN d_Rd_readUnit_5 rfl rfl ?_
    refine ru_ifnonnullN d_Rd_readUnit_6 ?_
    refine ru_iconst (v := 0) d_Rd_readUnit_9 (by decide) ?_
    refine ru_zret (ty := .boolean) d_Rd_readUnit_10 rfl rfl ?_
    exact fl_tk h
  | some u =>
    have hu := unt_lt e
    have ue := un_eq u hu
    by_cases hv : cvt qa (unN u) 1000000000000 = none
    · simp only [hv]
      refine ru_aload_n d_Rd_readUnit_0 rfl rfl ?_
      refine ru_callV (mc := 0) (ms := 0) d_Rd_readUnit_1 lm_Rd_229 (cl_findUnit hL h.1) (rx_recv_is (ly hL 268 3 0) kx_Rd) (by decide) rfl (Nat.le_of_ble_eq_true rfl) ?_
      rw [e]
      rintro v τ ⟨rfl, rfl⟩
      refine ru_astore_n d_Rd_readUnit_4 rfl (by decide) ?_
      refine ru_aload_n d_Rd_readUnit_5 rfl rfl ?_
      refine ru_ifnonnull (tgt := 11) d_Rd_readUnit_6 (by decide) ?_
      refine ru_aload_n d_Rd_readUnit_11 rfl rfl ?_
      refine ru_getR d_Rd_readUnit_12 lf_Rd_12 (ly hL 268 3 0) rfl (lr hL 268 2 269) ?_
      refine ru_aload_n d_Rd_readUnit_15 rfl rfl ?_
      refine ru_getO (v := .long (rx_un u)) d_Rd_readUnit_16 (rx_in (tm_6 (List.mem_of_getElem? (i := 181) rfl)) rfl) (fun ev U h => (h.2.2.1 u hu).2) ?_
      refine ru_eql ue.1 ?_
      refine ru_ldc2 d_Rd_readUnit_19 lc_Rd_238 ?_
      refine ru_callV (mc := 0) (ms := 0) d_Rd_readUnit_22 lm_Rd_225 (cl_convert (u := unN u) (lim := 1000000000000) hL (Or.inl rfl) ha.1 ha.2 hq.1 hq.2 ue.2 (by decide)) (rx_recv_is (ly hL 269 1 0) kx_Am) (by decide) rfl (Nat.le_of_ble_eq_true rfl) ?_
      intro v τ h
      obtain ⟨rfl, rfl⟩ := h
      refine ru_if_ne (tgt := 37) d_Rd_readUnit_25 (by decide) (fun h25 => absurd (bI_f (fun z => z hv)) h25) (fun h25 => ?_)
      refine ru_aload_n d_Rd_readUnit_28 rfl rfl ?_
      refine ru_aload_n d_Rd_readUnit_29 rfl rfl ?_
      refine ru_getR d_Rd_readUnit_30 lf_Rd_12 (ly hL 268 3 0) rfl (lr hL 268 2 269) ?_
      refine ru_callV (mc := 0) (ms := 0) d_Rd_readUnit_33 lm_Rd_209 (cl_blame hL (Or.inl rfl)) (rx_recv_is (ly hL 268 3 0) kx_Rd) (by decide) rfl (Nat.le_of_ble_eq_true rfl) ?_
      rintro v τ ⟨rfl, rfl⟩
      rw [tkM_r (by decide), hw]
      refine ru_zret (ty := .boolean) d_Rd_readUnit_36 rfl rfl ?_
      exact fl_blame ((RF.tk rfl).l (isAm_rd (Or.inl rfl)))
    · obtain ⟨x, hx⟩ := Option.ne_none_iff_exists'.mp hv
      have hx2 := (cvt_some hx).1
      simp only [hx]
      refine ru_aload_n d_Rd_readUnit_0 rfl rfl ?_
      refine ru_callV (mc := 0) (ms := 0) d_Rd_readUnit_1 lm_Rd_229 (cl_findUnit hL h.1) (rx_recv_is (ly hL 268 3 0) kx_Rd) (by decide) rfl (Nat.le_of_ble_eq_true rfl) ?_
      rw [e]
      rintro v τ ⟨rfl, rfl⟩
      refine ru_astore_n d_Rd_readUnit_4 rfl (by decide) ?_
      refine ru_aload_n d_Rd_readUnit_5 rfl rfl ?_
      refine ru_ifnonnull (tgt := 11) d_Rd_readUnit_6 (by decide) ?_
      refine ru_aload_n d_Rd_readUnit_11 rfl rfl ?_
      refine ru_getR d_Rd_readUnit_12 lf_Rd_12 (ly hL 268 3 0) rfl (lr hL 268 2 269) ?_
      refine ru_aload_n d_Rd_readUnit_15 rfl rfl ?_
      refine ru_getO (v := .long (rx_un u)) d_Rd_readUnit_16 (rx_in (tm_6 (List.mem_of_getElem? (i := 181) rfl)) rfl) (fun ev U h => (h.2.2.1 u hu).2) ?_
      refine ru_eql ue.1 ?_
      refine ru_ldc2 d_Rd_readUnit_19 lc_Rd_238 ?_
      refine ru_callV (mc := 0) (ms := 0) d_Rd_readUnit_22 lm_Rd_225 (cl_convert (u := unN u) (lim := 1000000000000) hL (Or.inl rfl) ha.1 ha.2 hq.1 hq.2 ue.2 (by decide)) (rx_recv_is (ly hL 269 1 0) kx_Am) (by decide) rfl (Nat.le_of_ble_eq_true rfl) ?_
      intro v τ h
      obtain ⟨rfl, rfl⟩ := h
      refine ru_if_ne (tgt := 37) d_Rd_readUnit_25 (by decide) (fun h25 => ?_) (fun h25 => absurd h25 (bI_ne0.mpr hv))
      refine ru_iload_n d_Rd_readUnit_37 rfl rfl ?_
      refine ru_if_eq (tgt := 67) d_Rd_readUnit_38 (by decide) (fun h38 => ?_) (fun h38 => absurd h38 (by decide))
      refine ru_aload_n d_Rd_readUnit_67 rfl rfl ?_
      refine ru_getR d_Rd_readUnit_68 lf_Rd_21 (ly hL 268 3 0) rfl (lr hL 268 0 266) ?_
      refine ru_callV (mc := 0) (ms := 0) d_Rd_readUnit_71 lm_Rd_71 (cl_goOn hL h.1) (rx_recv_is (ly hL 266 7 0) kx_Wo) (by decide) rfl (Nat.le_of_ble_eq_true rfl) ?_
      intro v τ h
      obtain ⟨rfl, rfl⟩ := h
      refine ru_iconst (v := 1) d_Rd_readUnit_74 (by decide) ?_
      refine ru_zret (ty := .boolean) d_Rd_readUnit_75 rfl rfl ?_
      rw [← hx2]
      exact ⟨rfl, rfl⟩
theorem cl_readUnit2 {qa qb : Nat × Nat} (hL : LAY nx ct mr) (h : RdOK N n t mi) (hw : mi 269 0 = nI j1) (hw2 : mi 270 0 = nI (j1 + 2)) (ha : ml 269 1 = Int64.ofNat qa.1 ∧ ml 269 2 = Int64.ofNat qa.2) (hq : qa.1 < 1000000000 ∧ qa.2 < 1000000) (hb : ml 270 1 = Int64.ofNat qb.1 ∧ ml 270 2 = Int64.ofNat qb.2) (hqb : qb.1 < 1000000000 ∧ qb.2 < 1000000) : rx_Calls y_Rd_readUnit M_Rd_readUnit 6 0 0 [.ref 268, .int 1] (nx, ct, tkM mi n t j, ml, mr) (fun v τ => match unt n t j with
    | none => flP r j nx ct mi ml mr v τ
    | some u => match cvt qa (unN u) 1000000000000 with
      | none => flP r j1 nx ct mi ml mr v τ
      | some x => match cvt qb (unN u) 1000000000000 with
        | none => flP r (j1 + 2) nx ct mi ml mr v τ
        | some y => v = some (.int 1) ∧ τ = (nx, ct, tkM mi n t (j + 1), rx_u (rx_u ml 269 3 (Int64.ofNat x)) 270 3 (Int64.ofNat y), mr)) := by
  refine rx_enter (by decide) rfl rfl (Nat.le_of_ble_eq_true rfl) ?_
  cases e : unt n t j with
  | none =>
    refine ru_aload_n d_Rd_readUnit_0 rfl rfl ?_
    refine ru_callV (mc := 0) (ms := 0) d_Rd_readUnit_1 lm_Rd_229 (cl_findUnit hL h.1) (rx_recv_is (ly hL 268 3 0) kx_Rd) (by decide) rfl (Nat.le_of_ble_eq_true rfl) ?_
    rw [e]
    rintro v τ ⟨rfl, rfl⟩
    refine ru_astore_nN d_Rd_readUnit_4 rfl (by decide) ?_
    refine ru_aload_nN d_Rd_readUnit_5 rfl rfl ?_
    refine ru_ifnonnullN d_Rd_readUnit_6 ?_
    refine ru_iconst (v := 0) d_Rd_readUnit_9 (by decide) ?_
    refine ru_zret (ty := .boolean) d_Rd_readUnit_10 rfl rfl ?_
    exact fl_tk h
  | some u =>
    have hu := unt_lt e
    have ue := un_eq u hu
    by_cases hv : cvt qa (unN u) 1000000000000 = none
    · simp only [hv]
      refine ru_aload_n d_Rd_readUnit_0 rfl rfl ?_
      refine ru_callV (mc := 0) (ms := 0) d_Rd_readUnit_1 lm_Rd_229 (cl_findUnit hL h.1) (rx_recv_is (ly hL 268 3 0) kx_Rd) (by decide) rfl (Nat.le_of_ble_eq_true rfl) ?_
      rw [e]
      rintro v τ ⟨rfl, rfl⟩
      refine ru_astore_n d_Rd_readUnit_4 rfl (by decide) ?_
      refine ru_aload_n d_Rd_readUnit_5 rfl rfl ?_
      refine ru_ifnonnull (tgt := 11) d_Rd_readUnit_6 (by decide) ?_
      refine ru_aload_n d_Rd_readUnit_11 rfl rfl ?_
      refine ru_getR d_Rd_readUnit_12 lf_Rd_12 (ly hL 268 3 0) rfl (lr hL 268 2 269) ?_
      refine ru_aload_n d_Rd_readUnit_15 rfl rfl ?_
      refine ru_getO (v := .long (rx_un u)) d_Rd_readUnit_16 (rx_in (tm_6 (List.mem_of_getElem? (i := 181) rfl)) rfl) (fun ev U h => (h.2.2.1 u hu).2) ?_
      refine ru_eql ue.1 ?_
      refine ru_ldc2 d_Rd_readUnit_19 lc_Rd_238 ?_
      refine ru_callV (mc := 0) (ms := 0) d_Rd_readUnit_22 lm_Rd_225 (cl_convert (u := unN u) (lim := 1000000000000) hL (Or.inl rfl) ha.1 ha.2 hq.1 hq.2 ue.2 (by decide)) (rx_recv_is (ly hL 269 1 0) kx_Am) (by decide) rfl (Nat.le_of_ble_eq_true rfl) ?_
      intro v τ h
      obtain ⟨rfl, rfl⟩ := h
      refine ru_if_ne (tgt := 37) d_Rd_readUnit_25 (by decide) (fun h25 => absurd (bI_f (fun z => z hv)) h25) (fun h25 => ?_)
      refine ru_aload_n d_Rd_readUnit_28 rfl rfl ?_
      refine ru_aload_n d_Rd_readUnit_29 rfl rfl ?_
      refine ru_getR d_Rd_readUnit_30 lf_Rd_12 (ly hL 268 3 0) rfl (lr hL 268 2 269) ?_
      refine ru_callV (mc := 0) (ms := 0) d_Rd_readUnit_33 lm_Rd_209 (cl_blame hL (Or.inl rfl)) (rx_recv_is (ly hL 268 3 0) kx_Rd) (by decide) rfl (Nat.le_of_ble_eq_true rfl) ?_
      rintro v τ ⟨rfl, rfl⟩
      rw [tkM_r (by decide), hw]
      refine ru_zret (ty := .boolean) d_Rd_readUnit_36 rfl rfl ?_
      exact fl_blame ((RF.tk rfl).l (isAm_rd (Or.inl rfl)))
    · obtain ⟨x, hx⟩ := Option.ne_none_iff_exists'.mp hv
      have hx2 := (cvt_some hx).1
      simp only [hx]
      have b1 : rx_u ml 269 3 (Int64.ofNat (qa.1 * unN u + qa.2 * unN u / 1000000)) 270 1 = Int64.ofNat qb.1 := by rw [rx_u_r _ _ (by decide)]; exact hb.1
      have b2 : rx_u ml 269 3 (Int64.ofNat (qa.1 * unN u + qa.2 * unN u / 1000000)) 270 2 = Int64.ofNat qb.2 := by rw [rx_u_r _ _ (by decide)]; exact hb.2
      by_cases hv2 : cvt qb (unN u) 1000000000000 = none
      · simp only [hv2]
        refine ru_aload_n d_Rd_readUnit_0 rfl rfl ?_
        refine ru_callV (mc := 0) (ms := 0) d_Rd_readUnit_1 lm_Rd_229 (cl_findUnit hL h.1) (rx_recv_is (ly hL 268 3 0) kx_Rd) (by decide) rfl (Nat.le_of_ble_eq_true rfl) ?_
        rw [e]
        rintro v τ ⟨rfl, rfl⟩
        refine ru_astore_n d_Rd_readUnit_4 rfl (by decide) ?_
        refine ru_aload_n d_Rd_readUnit_5 rfl rfl ?_
        refine ru_ifnonnull (tgt := 11) d_Rd_readUnit_6 (by decide) ?_
        refine ru_aload_n d_Rd_readUnit_11 rfl rfl ?_
        refine ru_getR d_Rd_readUnit_12 lf_Rd_12 (ly hL 268 3 0) rfl (lr hL 268 2 269) ?_
        refine ru_aload_n d_Rd_readUnit_15 rfl rfl ?_
        refine ru_getO (v := .long (rx_un u)) d_Rd_readUnit_16 (rx_in (tm_6 (List.mem_of_getElem? (i := 181) rfl)) rfl) (fun ev U h => (h.2.2.1 u hu).2) ?_
        refine ru_eql ue.1 ?_
        refine ru_ldc2 d_Rd_readUnit_19 lc_Rd_238 ?_
        refine ru_callV (mc := 0) (ms := 0) d_Rd_readUnit_22 lm_Rd_225 (cl_convert (u := unN u) (lim := 1000000000000) hL (Or.inl rfl) ha.1 ha.2 hq.1 hq.2 ue.2 (by decide)) (rx_recv_is (ly hL 269 1 0) kx_Am) (by decide) rfl (Nat.le_of_ble_eq_true rfl) ?_
        intro v τ h
        obtain ⟨rfl, rfl⟩ := h
        refine ru_if_ne (tgt := 37) d_Rd_readUnit_25 (by decide) (fun h25 => ?_) (fun h25 => absurd h25 (bI_ne0.mpr hv))
        refine ru_iload_n d_Rd_readUnit_37 rfl rfl ?_
        refine ru_if_eq (tgt := 67) d_Rd_readUnit_38 (by decide) (fun h38 => absurd h38 (by decide)) (fun h38 => ?_)
        refine ru_aload_n d_Rd_readUnit_41 rfl rfl ?_
        refine ru_getR d_Rd_readUnit_42 lf_Rd_18 (ly hL 268 3 0) rfl (lr hL 268 3 270) ?_
        refine ru_aload_n d_Rd_readUnit_45 rfl rfl ?_
        refine ru_getO (v := .long (rx_un u)) d_Rd_readUnit_46 (rx_in (tm_6 (List.mem_of_getElem? (i := 181) rfl)) rfl) (fun ev U h => (h.2.2.1 u hu).2) ?_
        refine ru_eql ue.1 ?_
        refine ru_ldc2 d_Rd_readUnit_49 lc_Rd_238 ?_
        refine ru_callV (mc := 0) (ms := 0) d_Rd_readUnit_52 lm_Rd_225 (cl_convert (u := unN u) (lim := 1000000000000) hL (Or.inr rfl) b1 b2 hqb.1 hqb.2 ue.2 (by decide)) (rx_recv_is (ly hL 270 1 0) kx_Am) (by decide) rfl (Nat.le_of_ble_eq_true rfl) ?_
        intro v τ h
        obtain ⟨rfl, rfl⟩ := h
        refine ru_if_ne (tgt := 67) d_Rd_readUnit_55 (by decide) (fun h55 => absurd (bI_f (fun z => z hv2)) h55) (fun h55 => ?_)
        refine ru_aload_n d_Rd_readUnit_58 rfl rfl ?_
        refine ru_aload_n d_Rd_readUnit_59 rfl rfl ?_
        refine ru_getR d_Rd_readUnit_60 lf_Rd_18 (ly hL 268 3 0) rfl (lr hL 268 3 270) ?_
        refine ru_callV (mc := 0) (ms := 0) d_Rd_readUnit_63 lm_Rd_209 (cl_blame hL (Or.inr rfl)) (rx_recv_is (ly hL 268 3 0) kx_Rd) (by decide) rfl (Nat.le_of_ble_eq_true rfl) ?_
        rintro v τ ⟨rfl, rfl⟩
        rw [tkM_r (by decide), hw2]
        refine ru_zret (ty := .boolean) d_Rd_readUnit_66 rfl rfl ?_
        exact fl_blame (((RF.tk rfl).l (isAm_rd (Or.inl rfl))).l (isAm_rd (Or.inr rfl)))
      · obtain ⟨y, hy⟩ := Option.ne_none_iff_exists'.mp hv2
        have hy2 := (cvt_some hy).1
        simp only [hy]
        refine ru_aload_n d_Rd_readUnit_0 rfl rfl ?_
        refine ru_callV (mc := 0) (ms := 0) d_Rd_readUnit_1 lm_Rd_229 (cl_findUnit hL h.1) (rx_recv_is (ly hL 268 3 0) kx_Rd) (by decide) rfl (Nat.le_of_ble_eq_true rfl) ?_
        rw [e]
        rintro v τ ⟨rfl, rfl⟩
        refine ru_astore_n d_Rd_readUnit_4 rfl (by decide) ?_
        refine ru_aload_n d_Rd_readUnit_5 rfl rfl ?_
        refine ru_ifnonnull (tgt := 11) d_Rd_readUnit_6 (by decide) ?_
        refine ru_aload_n d_Rd_readUnit_11 rfl rfl ?_
        refine ru_getR d_Rd_readUnit_12 lf_Rd_12 (ly hL 268 3 0) rfl (lr hL 268 2 269) ?_
        refine ru_aload_n d_Rd_readUnit_15 rfl rfl ?_
        refine ru_getO (v := .long (rx_un u)) d_Rd_readUnit_16 (rx_in (tm_6 (List.mem_of_getElem? (i := 181) rfl)) rfl) (fun ev U h => (h.2.2.1 u hu).2) ?_
        refine ru_eql ue.1 ?_
        refine ru_ldc2 d_Rd_readUnit_19 lc_Rd_238 ?_
        refine ru_callV (mc := 0) (ms := 0) d_Rd_readUnit_22 lm_Rd_225 (cl_convert (u := unN u) (lim := 1000000000000) hL (Or.inl rfl) ha.1 ha.2 hq.1 hq.2 ue.2 (by decide)) (rx_recv_is (ly hL 269 1 0) kx_Am) (by decide) rfl (Nat.le_of_ble_eq_true rfl) ?_
        intro v τ h
        obtain ⟨rfl, rfl⟩ := h
        refine ru_if_ne (tgt := 37) d_Rd_readUnit_25 (by decide) (fun h25 => ?_) (fun h25 => absurd h25 (bI_ne0.mpr hv))
        refine ru_iload_n d_Rd_readUnit_37 rfl rfl ?_
        refine ru_if_eq (tgt := 67) d_Rd_readUnit_38 (by decide) (fun h38 => absurd h38 (by decide)) (fun h38 => ?_)
        refine ru_aload_n d_Rd_readUnit_41 rfl rfl ?_
        refine ru_getR d_Rd_readUnit_42 lf_Rd_18 (ly hL 268 3 0) rfl (lr hL 268 3 270) ?_
        refine ru_aload_n d_Rd_readUnit_45 rfl rfl ?_
        refine ru_getO (v := .long (rx_un u)) d_Rd_readUnit_46 (rx_in (tm_6 (List.mem_of_getElem? (i := 181) rfl)) rfl) (fun ev U h => (h.2.2.1 u hu).2) ?_
        refine ru_eql ue.1 ?_
        refine ru_ldc2 d_Rd_readUnit_49 lc_Rd_238 ?_
        refine ru_callV (mc := 0) (ms := 0) d_Rd_readUnit_52 lm_Rd_225 (cl_convert (u := unN u) (lim := 1000000000000) hL (Or.inr rfl) b1 b2 hqb.1 hqb.2 ue.2 (by decide)) (rx_recv_is (ly hL 270 1 0) kx_Am) (by decide) rfl (Nat.le_of_ble_eq_true rfl) ?_
        intro v τ h
        obtain ⟨rfl, rfl⟩ := h
        refine ru_if_ne (tgt := 67) d_Rd_readUnit_55 (by decide) (fun h55 => ?_) (fun h55 => absurd h55 (bI_ne0.mpr hv2))
        refine ru_aload_n d_Rd_readUnit_67 rfl rfl ?_
        refine ru_getR d_Rd_readUnit_68 lf_Rd_21 (ly hL 268 3 0) rfl (lr hL 268 0 266) ?_
        refine ru_callV (mc := 0) (ms := 0) d_Rd_readUnit_71 lm_Rd_71 (cl_goOn hL h.1) (rx_recv_is (ly hL 266 7 0) kx_Wo) (by decide) rfl (Nat.le_of_ble_eq_true rfl) ?_
        intro v τ h
        obtain ⟨rfl, rfl⟩ := h
        refine ru_iconst (v := 1) d_Rd_readUnit_74 (by decide) ?_
        refine ru_zret (ty := .boolean) d_Rd_readUnit_75 rfl rfl ?_
        rw [← hx2, ← hy2]
        exact ⟨rfl, rfl⟩
theorem pThing_32 {k : Nat} {o : Option Nat} (h : pThing N n t j = .inr (o, k)) : ∀ x, o = some x → x < 32 := by
  intro x hx
  subst hx
  unfold pThing at h
  by_cases c1 : isW n t j 2
  · rw [cnd_t c1] at h; cases h
  · rw [cnd_f c1] at h
    by_cases c2 : isW n t j 3
    · rw [cnd_t c2] at h
      cases e : fnd N n t (j + 1) 0 with
      | none => rw [e] at h; cases h
      | some y => rw [e] at h; cases h; have := fnd_lt e; omega
    · rw [cnd_f c2] at h
      by_cases c3 : isW n t j 4
      · rw [cnd_t c3] at h
        cases e : fnd N n t (j + 1) 1 with
        | none => rw [e] at h; cases h
        | some y => rw [e] at h; cases h; have := fnd_lt e; omega
      · rw [cnd_f c3] at h; cases h
def scP (r nx : Nat) (ct : Nat → Nat × Nat) (mi : Nat → Nat → Int32) (ml : Nat → Nat → Int64) (mr : Nat → Nat → Option Nat) (n : Nat) (t : Nat → Int32) (q : Nat ⊕ ((Option Nat × Option Nat) × Nat)) : Option Value → rx_S → Prop := fun v τ => match q with
  | .inl w => flP r w nx ct mi ml mr v τ
  | .inr (o, w) => v = some (.int 1) ∧ τ = (nx, ct, tkM (rx_u (rx_u mi r 1 (oR o.1)) r 2 (oR o.2)) n t w, ml, mr)
theorem cl_readScope (hL : LAY nx ct mr) (h : RdOK N n t mi) (hr : isRu r) (hk : mr r 0 = some (1 + κ)) (h13 : κ < 13) (h1 : mi r 1 = -1) (h2 : mi r 2 = -1) : rx_Calls y_Rd_readScope M_Rd_readScope 7 0 0 [.ref 268, .ref r] (nx, ct, tkM mi n t j, ml, mr) (scP r nx ct mi ml mr n t (pScope N n t κ j)) := by
  refine rx_enter (by decide) rfl rfl (Nat.le_of_ble_eq_true rfl) ?_
  have r6 := (isRu_ne hr).2.2.2.2.1
  have e12 : rx_u (rx_u mi r 1 (oR none)) r 2 (oR none) = mi := by
    rw [show oR none = mi r 1 from h1.symm, rx_u_id, h1, ← h2, rx_u_id]
  have e2 : ∀ v : Int32, rx_u (rx_u mi r 1 v) r 2 (oR none) = rx_u mi r 1 v := fun v => by
    rw [show oR none = rx_u mi r 1 v r 2 by rw [rx_u_k _ _ (by decide)]; exact h2.symm, rx_u_id]
  have bad : ∀ i k : Nat, pThing N n t i = .inl k → rx_W M_Rd_readScope 7 0 0 30 [(0, .ref 268), (1, .ref r)] [] (nx, ct, tkM mi n t i, ml, mr) (pR (flP r k nx ct mi ml mr)) := by
    intro i k e
    refine ru_aload_n d_Rd_readScope_30 rfl rfl ?_
    refine ru_aload_n d_Rd_readScope_31 rfl rfl ?_
    refine ru_callV (mc := 0) (ms := 0) d_Rd_readScope_32 lm_Rd_118 (cl_readThing hL h.1 h.2.1) (rx_recv_is (ly hL 268 3 0) kx_Rd) (by decide) rfl (Nat.le_of_ble_eq_true rfl) ?_
    rw [e]
    rintro v τ ⟨rfl, rfl⟩
    refine ru_putI d_Rd_readScope_35 lf_Rd_122 (ly_ru hL hr) rfl (fun q hq => by cases hq; exact Or.inl rfl) ⟨rfl, rfl⟩ ?_
    rw [tkM_u r6]
    refine ru_aload_n d_Rd_readScope_38 rfl rfl ?_
    refine ru_getI d_Rd_readScope_39 lf_Rd_122 (ly_ru hL hr) rfl ?_
    rw [tkM_r r6, rx_u_same]
    refine ru_bipush (v := (-2)) d_Rd_readScope_42 (by decide) ?_
    refine ru_icmp_eq (tgt := 54) d_Rd_readScope_44 (by decide) (fun h44 => ?_) (fun h44 => absurd rfl h44)
    refine ru_aload_n d_Rd_readScope_54 rfl rfl ?_
    refine ru_getI d_Rd_readScope_55 lf_Rd_122 (ly_ru hL hr) rfl ?_
    rw [tkM_r r6, rx_u_same]
    refine ru_bipush (v := (-2)) d_Rd_readScope_58 (by decide) ?_
    refine ru_icmp_eq (tgt := 67) d_Rd_readScope_60 (by decide) (fun h60 => ?_) (fun h60 => absurd rfl h60)
    refine ru_iconst (v := 0) d_Rd_readScope_67 (by decide) ?_
    refine ru_zret (ty := .boolean) d_Rd_readScope_68 rfl rfl ?_
    exact fl_u h hr
  have one : ∀ (i w : Nat) (o : Option Nat), ¬ (κ = 0 ∨ κ = 12) → pThing N n t i = .inr (o, w) → rx_W M_Rd_readScope 7 0 0 30 [(0, .ref 268), (1, .ref r)] [] (nx, ct, tkM mi n t i, ml, mr) (pR (scP r nx ct mi ml mr n t (.inr ((o, none), w)))) := by
    intro i w o hn e
    have n2 := oR_m2 (pThing_32 e)
    refine ru_aload_n d_Rd_readScope_30 rfl rfl ?_
    refine ru_aload_n d_Rd_readScope_31 rfl rfl ?_
    refine ru_callV (mc := 0) (ms := 0) d_Rd_readScope_32 lm_Rd_118 (cl_readThing hL h.1 h.2.1) (rx_recv_is (ly hL 268 3 0) kx_Rd) (by decide) rfl (Nat.le_of_ble_eq_true rfl) ?_
    rw [e]
    rintro v τ ⟨rfl, rfl⟩
    refine ru_putI d_Rd_readScope_35 lf_Rd_122 (ly_ru hL hr) rfl (fun q hq => by cases hq; exact Or.inl rfl) ⟨rfl, rfl⟩ ?_
    rw [tkM_u r6]
    refine ru_aload_n d_Rd_readScope_38 rfl rfl ?_
    refine ru_getI d_Rd_readScope_39 lf_Rd_122 (ly_ru hL hr) rfl ?_
    rw [tkM_r r6, rx_u_same]
    refine ru_bipush (v := (-2)) d_Rd_readScope_42 (by decide) ?_
    refine ru_icmp_eq (tgt := 54) d_Rd_readScope_44 (by decide) (fun h44 => absurd h44 n2) (fun h44 => ?_)
    refine ru_aload_n d_Rd_readScope_47 rfl rfl ?_
    refine ru_callV (mc := 0) (ms := 0) d_Rd_readScope_48 lm_Rd_111 (cl_isOfTwo hL hr hk h13) (rx_recv_is (ly_ru hL hr) kx_Ru) (by decide) rfl (Nat.le_of_ble_eq_true rfl) ?_
    intro v τ h
    obtain ⟨rfl, rfl⟩ := h
    refine ru_if_ne (tgt := 69) d_Rd_readScope_51 (by decide) (fun h51 => absurd (bI_f hn) h51) (fun h51 => ?_)
    refine ru_aload_n d_Rd_readScope_54 rfl rfl ?_
    refine ru_getI d_Rd_readScope_55 lf_Rd_122 (ly_ru hL hr) rfl ?_
    rw [tkM_r r6, rx_u_same]
    refine ru_bipush (v := (-2)) d_Rd_readScope_58 (by decide) ?_
    refine ru_icmp_eq (tgt := 67) d_Rd_readScope_60 (by decide) (fun h60 => absurd h60 n2) (fun h60 => ?_)
    refine ru_iconst (v := 1) d_Rd_readScope_63 (by decide) ?_
    refine ru_goto (tgt := 68) d_Rd_readScope_64 (by decide) ?_
    refine ru_zret (ty := .boolean) d_Rd_readScope_68 rfl rfl ?_
    exact ⟨rfl, by rw [e2]⟩
  have two : ∀ i : Nat, (κ = 0 ∨ κ = 12) → rx_W M_Rd_readScope 7 0 0 30 [(0, .ref 268), (1, .ref r)] [] (nx, ct, tkM mi n t i, ml, mr) (pR (scP r nx ct mi ml mr n t (pTwo N n t i))) := by
    intro i hn
    unfold pTwo
    cases e : pThing N n t i with
    | inl k => exact bad i k e
    | inr q =>
      obtain ⟨o, w⟩ := q
      have n2 := oR_m2 (pThing_32 e)
      have hu := h.u (k := 1) (v := oR o) hr
      have tl : ∀ (q : Nat ⊕ (Option Nat × Nat)), pThing N n t (w + 1) = q → rx_W M_Rd_readScope 7 0 0 80 [(0, .ref 268), (1, .ref r)] [] (nx, ct, tkM (rx_u mi r 1 (oR o)) n t (w + 1), ml, mr) (pR (scP r nx ct mi ml mr n t (match q with | .inl k => .inl k | .inr (o2, j2) => .inr ((o, o2), j2)))) := by
        intro q e3
        cases q with
        | inl k =>
          refine ru_aload_n d_Rd_readScope_80 rfl rfl ?_
          refine ru_aload_n d_Rd_readScope_81 rfl rfl ?_
          refine ru_callV (mc := 0) (ms := 0) d_Rd_readScope_82 lm_Rd_118 (cl_readThing hL hu.1 hu.2.1) (rx_recv_is (ly hL 268 3 0) kx_Rd) (by decide) rfl (Nat.le_of_ble_eq_true rfl) ?_
          rw [e3]
          rintro v τ ⟨rfl, rfl⟩
          refine ru_putI d_Rd_readScope_85 lf_Rd_127 (ly_ru hL hr) rfl (fun q hq => by cases hq; exact Or.inl rfl) ⟨rfl, rfl⟩ ?_
          rw [tkM_u r6]
          refine ru_aload_n d_Rd_readScope_88 rfl rfl ?_
          refine ru_getI d_Rd_readScope_89 lf_Rd_127 (ly_ru hL hr) rfl ?_
          rw [tkM_r r6, rx_u_same]
          refine ru_bipush (v := (-2)) d_Rd_readScope_92 (by decide) ?_
          refine ru_icmp_eq (tgt := 101) d_Rd_readScope_94 (by decide) (fun h94 => ?_) (fun h94 => absurd rfl h94)
          refine ru_iconst (v := 0) d_Rd_readScope_101 (by decide) ?_
          refine ru_zret (ty := .boolean) d_Rd_readScope_102 rfl rfl ?_
          exact fl_u2 h hr
        | inr q =>
          obtain ⟨o2, w2⟩ := q
          have n3 := oR_m2 (pThing_32 e3)
          refine ru_aload_n d_Rd_readScope_80 rfl rfl ?_
          refine ru_aload_n d_Rd_readScope_81 rfl rfl ?_
          refine ru_callV (mc := 0) (ms := 0) d_Rd_readScope_82 lm_Rd_118 (cl_readThing hL hu.1 hu.2.1) (rx_recv_is (ly hL 268 3 0) kx_Rd) (by decide) rfl (Nat.le_of_ble_eq_true rfl) ?_
          rw [e3]
          rintro v τ ⟨rfl, rfl⟩
          refine ru_putI d_Rd_readScope_85 lf_Rd_127 (ly_ru hL hr) rfl (fun q hq => by cases hq; exact Or.inl rfl) ⟨rfl, rfl⟩ ?_
          rw [tkM_u r6]
          refine ru_aload_n d_Rd_readScope_88 rfl rfl ?_
          refine ru_getI d_Rd_readScope_89 lf_Rd_127 (ly_ru hL hr) rfl ?_
          rw [tkM_r r6, rx_u_same]
          refine ru_bipush (v := (-2)) d_Rd_readScope_92 (by decide) ?_
          refine ru_icmp_eq (tgt := 101) d_Rd_readScope_94 (by decide) (fun h94 => absurd h94 n3) (fun h94 => ?_)
          refine ru_iconst (v := 1) d_Rd_readScope_97 (by decide) ?_
          refine ru_goto (tgt := 102) d_Rd_readScope_98 (by decide) ?_
          refine ru_zret (ty := .boolean) d_Rd_readScope_102 rfl rfl ?_
          exact ⟨rfl, rfl⟩
      refine ru_aload_n d_Rd_readScope_30 rfl rfl ?_
      refine ru_aload_n d_Rd_readScope_31 rfl rfl ?_
      refine ru_callV (mc := 0) (ms := 0) d_Rd_readScope_32 lm_Rd_118 (cl_readThing hL h.1 h.2.1) (rx_recv_is (ly hL 268 3 0) kx_Rd) (by decide) rfl (Nat.le_of_ble_eq_true rfl) ?_
      rw [e]
      rintro v τ ⟨rfl, rfl⟩
      refine ru_putI d_Rd_readScope_35 lf_Rd_122 (ly_ru hL hr) rfl (fun q hq => by cases hq; exact Or.inl rfl) ⟨rfl, rfl⟩ ?_
      rw [tkM_u r6]
      refine ru_aload_n d_Rd_readScope_38 rfl rfl ?_
      refine ru_getI d_Rd_readScope_39 lf_Rd_122 (ly_ru hL hr) rfl ?_
      rw [tkM_r r6, rx_u_same]
      refine ru_bipush (v := (-2)) d_Rd_readScope_42 (by decide) ?_
      refine ru_icmp_eq (tgt := 54) d_Rd_readScope_44 (by decide) (fun h44 => absurd h44 n2) (fun h44 => ?_)
      refine ru_aload_n d_Rd_readScope_47 rfl rfl ?_
      refine ru_callV (mc := 0) (ms := 0) d_Rd_readScope_48 lm_Rd_111 (cl_isOfTwo hL hr hk h13) (rx_recv_is (ly_ru hL hr) kx_Ru) (by decide) rfl (Nat.le_of_ble_eq_true rfl) ?_
      intro v τ h
      obtain ⟨rfl, rfl⟩ := h
      refine ru_if_ne (tgt := 69) d_Rd_readScope_51 (by decide) (fun h51 => ?_) (fun h51 => absurd h51 (bI_ne0.mpr hn))
      refine ru_aload_n d_Rd_readScope_69 rfl rfl ?_
      refine ru_ldcS (tx := "and") (r := 35) d_Rd_readScope_70 (List.mem_of_getElem? (i := 5) rfl) ?_
      refine ru_callV (mc := 0) (ms := 0) d_Rd_readScope_72 lm_Rd_94 (cl_accept (s := 5) hL hu.1 (by decide)) (rx_recv_is (ly hL 268 3 0) kx_Rd) (by decide) rfl (Nat.le_of_ble_eq_true rfl) ?_
      intro v τ h
      obtain ⟨rfl, rfl⟩ := h
      refine ru_if_ne (tgt := 80) d_Rd_readScope_75 (by decide) (fun h75 => ?_) (fun h75 => ?_)
      · skip
        replace h75 := bI_ne0.mp h75
        simp only [cnd_t h75]
        exact ru_to (tl _ rfl) ⟨rfl, rfl, trivial⟩
      · skip
        replace h75 := bI_eq0.mp h75
        simp only [cnd_f h75]
        refine ru_iconst (v := 0) d_Rd_readScope_78 (by decide) ?_
        refine ru_zret (ty := .boolean) d_Rd_readScope_79 rfl rfl ?_
        exact fl_u h hr
  unfold pScope
  by_cases k12 : κ = 12
  · rw [if_pos k12]
    refine ru_aload_n d_Rd_readScope_0 rfl rfl ?_
    refine ru_callV (mc := 0) (ms := 0) d_Rd_readScope_1 lm_Rd_77 (cl_isWaiver hL hr hk h13) (rx_recv_is (ly_ru hL hr) kx_Ru) (by decide) rfl (Nat.le_of_ble_eq_true rfl) ?_
    intro v τ h
    obtain ⟨rfl, rfl⟩ := h
    refine ru_if_ne (tgt := 30) d_Rd_readScope_4 (by decide) (fun h4 => ?_) (fun h4 => absurd h4 (bI_ne0.mpr k12))
    exact ru_to (two _ (Or.inr k12)) ⟨rfl, rfl, trivial⟩
  · rw [if_neg k12]
    by_cases k0 : κ = 0
    · rw [if_pos k0]
      refine ru_aload_n d_Rd_readScope_0 rfl rfl ?_
      refine ru_callV (mc := 0) (ms := 0) d_Rd_readScope_1 lm_Rd_77 (cl_isWaiver hL hr hk h13) (rx_recv_is (ly_ru hL hr) kx_Ru) (by decide) rfl (Nat.le_of_ble_eq_true rfl) ?_
      intro v τ h
      obtain ⟨rfl, rfl⟩ := h
      refine ru_if_ne (tgt := 30) d_Rd_readScope_4 (by decide) (fun h4 => absurd (bI_f k12) h4) (fun h4 => ?_)
      refine ru_aload_n d_Rd_readScope_7 rfl rfl ?_
      refine ru_aload_n d_Rd_readScope_8 rfl rfl ?_
      refine ru_callV (mc := 0) (ms := 0) d_Rd_readScope_9 lm_Rd_111 (cl_isOfTwo hL hr hk h13) (rx_recv_is (ly_ru hL hr) kx_Ru) (by decide) rfl (Nat.le_of_ble_eq_true rfl) ?_
      intro v τ h
      obtain ⟨rfl, rfl⟩ := h
      refine ru_if_eq (tgt := 20) d_Rd_readScope_12 (by decide) (fun h12 => absurd h12 (bI_ne0.mpr (Or.inl k0))) (fun h12 => ?_)
      refine ru_ldcS (tx := "between") (r := 30) d_Rd_readScope_15 (List.mem_of_getElem? (i := 0) rfl) ?_
      refine ru_goto (tgt := 22) d_Rd_readScope_17 (by decide) ?_
      refine ru_callV (mc := 0) (ms := 0) d_Rd_readScope_22 lm_Rd_94 (cl_accept (s := 0) hL h.1 (by decide)) (rx_recv_is (ly hL 268 3 0) kx_Rd) (by decide) rfl (Nat.le_of_ble_eq_true rfl) ?_
      intro v τ h
      obtain ⟨rfl, rfl⟩ := h
      refine ru_if_ne (tgt := 30) d_Rd_readScope_25 (by decide) (fun h25 => ?_) (fun h25 => ?_)
      · skip
        replace h25 := bI_ne0.mp h25
        rw [cnd_t h25, cnd_t h25]
        exact ru_to (two _ (Or.inl k0)) ⟨rfl, rfl, trivial⟩
      · skip
        replace h25 := bI_eq0.mp h25
        rw [cnd_f h25, cnd_f h25]
        refine ru_iconst (v := 1) d_Rd_readScope_28 (by decide) ?_
        refine ru_zret (ty := .boolean) d_Rd_readScope_29 rfl rfl ?_
        exact ⟨rfl, by rw [e12]⟩
    · rw [if_neg k0]
      refine ru_aload_n d_Rd_readScope_0 rfl rfl ?_
      refine ru_callV (mc := 0) (ms := 0) d_Rd_readScope_1 lm_Rd_77 (cl_isWaiver hL hr hk h13) (rx_recv_is (ly_ru hL hr) kx_Ru) (by decide) rfl (Nat.le_of_ble_eq_true rfl) ?_
      intro v τ h
      obtain ⟨rfl, rfl⟩ := h
      refine ru_if_ne (tgt := 30) d_Rd_readScope_4 (by decide) (fun h4 => absurd (bI_f k12) h4) (fun h4 => ?_)
      refine ru_aload_n d_Rd_readScope_7 rfl rfl ?_
      refine ru_aload_n d_Rd_readScope_8 rfl rfl ?_
      refine ru_callV (mc := 0) (ms := 0) d_Rd_readScope_9 lm_Rd_111 (cl_isOfTwo hL hr hk h13) (rx_recv_is (ly_ru hL hr) kx_Ru) (by decide) rfl (Nat.le_of_ble_eq_true rfl) ?_
      intro v τ h
      obtain ⟨rfl, rfl⟩ := h
      refine ru_if_eq (tgt := 20) d_Rd_readScope_12 (by decide) (fun h12 => ?_) (fun h12 => absurd (bI_f (fun z => z.elim k0 k12)) h12)
      refine ru_ldcS (tx := "of") (r := 31) d_Rd_readScope_20 (List.mem_of_getElem? (i := 1) rfl) ?_
      refine ru_callV (mc := 0) (ms := 0) d_Rd_readScope_22 lm_Rd_94 (cl_accept (s := 1) hL h.1 (by decide)) (rx_recv_is (ly hL 268 3 0) kx_Rd) (by decide) rfl (Nat.le_of_ble_eq_true rfl) ?_
      intro v τ h
      obtain ⟨rfl, rfl⟩ := h
      refine ru_if_ne (tgt := 30) d_Rd_readScope_25 (by decide) (fun h25 => ?_) (fun h25 => ?_)
      · skip
        replace h25 := bI_ne0.mp h25
        rw [cnd_t h25, cnd_t h25]
        cases e : pThing N n t (j + 1) with | inl k => exact ru_to (bad _ k e) ⟨rfl, rfl, trivial⟩ | inr q => exact ru_to (one _ q.2 q.1 (fun z => z.elim k0 k12) e) ⟨rfl, rfl, trivial⟩
      · skip
        replace h25 := bI_eq0.mp h25
        rw [cnd_f h25, cnd_f h25]
        refine ru_iconst (v := 1) d_Rd_readScope_28 (by decide) ?_
        refine ru_zret (ty := .boolean) d_Rd_readScope_29 rfl rfl ?_
        exact ⟨rfl, by rw [e12]⟩
end
