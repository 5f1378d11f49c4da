/-! The class reads: things, layers, areas, ranks of a rule -/
theorem d_Rd_readArea_0 : decode M_Rd_readArea.2.1 0 = .ok (.aload_n 0, 1) := by decide +kernel
theorem d_Rd_readArea_1 : decode M_Rd_readArea.2.1 1 = .ok (.ldc 161, 2) := by decide +kernel
theorem d_Rd_readArea_3 : decode M_Rd_readArea.2.1 3 = .ok (.invokevirtual 94, 3) := by decide +kernel
theorem d_Rd_readArea_6 : decode M_Rd_readArea.2.1 6 = .ok (.ifCond .ne 5, 3) := by decide +kernel
theorem d_Rd_readArea_9 : decode M_Rd_readArea.2.1 9 = .ok (.iconst 1, 1) := by decide +kernel
theorem d_Rd_readArea_10 : decode M_Rd_readArea.2.1 10 = .ok (.ireturn, 1) := by decide +kernel
theorem d_Rd_readArea_11 : decode M_Rd_readArea.2.1 11 = .ok (.aload_n 1, 1) := by decide +kernel
theorem d_Rd_readArea_12 : decode M_Rd_readArea.2.1 12 = .ok (.aload_n 0, 1) := by decide +kernel
theorem d_Rd_readArea_13 : decode M_Rd_readArea.2.1 13 = .ok (.getfield 25, 3) := by decide +kernel
theorem d_Rd_readArea_16 : decode M_Rd_readArea.2.1 16 = .ok (.iconst 2, 1) := by decide +kernel
theorem d_Rd_readArea_17 : decode M_Rd_readArea.2.1 17 = .ok (.aload_n 0, 1) := by decide +kernel
theorem d_Rd_readArea_18 : decode M_Rd_readArea.2.1 18 = .ok (.getfield 21, 3) := by decide +kernel
theorem d_Rd_readArea_21 : decode M_Rd_readArea.2.1 21 = .ok (.invokevirtual 136, 3) := by decide +kernel
theorem d_Rd_readArea_24 : decode M_Rd_readArea.2.1 24 = .ok (.putfield 163, 3) := by decide +kernel
theorem d_Rd_readArea_27 : decode M_Rd_readArea.2.1 27 = .ok (.aload_n 1, 1) := by decide +kernel
theorem d_Rd_readArea_28 : decode M_Rd_readArea.2.1 28 = .ok (.getfield 163, 3) := by decide +kernel
theorem d_Rd_readArea_31 : decode M_Rd_readArea.2.1 31 = .ok (.iconst (-1), 1) := by decide +kernel
theorem d_Rd_readArea_32 : decode M_Rd_readArea.2.1 32 = .ok (.if_icmp .ne 5, 3) := by decide +kernel
theorem d_Rd_readArea_35 : decode M_Rd_readArea.2.1 35 = .ok (.iconst 0, 1) := by decide +kernel
theorem d_Rd_readArea_36 : decode M_Rd_readArea.2.1 36 = .ok (.ireturn, 1) := by decide +kernel
theorem d_Rd_readArea_37 : decode M_Rd_readArea.2.1 37 = .ok (.aload_n 0, 1) := by decide +kernel
theorem d_Rd_readArea_38 : decode M_Rd_readArea.2.1 38 = .ok (.getfield 21, 3) := by decide +kernel
theorem d_Rd_readArea_41 : decode M_Rd_readArea.2.1 41 = .ok (.invokevirtual 71, 3) := by decide +kernel
theorem d_Rd_readArea_44 : decode M_Rd_readArea.2.1 44 = .ok (.iconst 1, 1) := by decide +kernel
theorem d_Rd_readArea_45 : decode M_Rd_readArea.2.1 45 = .ok (.ireturn, 1) := by decide +kernel
theorem d_Rd_readLayer_0 : decode M_Rd_readLayer.2.1 0 = .ok (.aload_n 0, 1) := by decide +kernel
theorem d_Rd_readLayer_1 : decode M_Rd_readLayer.2.1 1 = .ok (.ldc 146, 2) := by decide +kernel
theorem d_Rd_readLayer_3 : decode M_Rd_readLayer.2.1 3 = .ok (.invokevirtual 94, 3) := by decide +kernel
theorem d_Rd_readLayer_6 : decode M_Rd_readLayer.2.1 6 = .ok (.ifCond .ne 5, 3) := by decide +kernel
theorem d_Rd_readLayer_9 : decode M_Rd_readLayer.2.1 9 = .ok (.iconst 1, 1) := by decide +kernel
theorem d_Rd_readLayer_10 : decode M_Rd_readLayer.2.1 10 = .ok (.ireturn, 1) := by decide +kernel
theorem d_Rd_readLayer_11 : decode M_Rd_readLayer.2.1 11 = .ok (.aload_n 0, 1) := by decide +kernel
theorem d_Rd_readLayer_12 : decode M_Rd_readLayer.2.1 12 = .ok (.ldc 148, 2) := by decide +kernel
theorem d_Rd_readLayer_14 : decode M_Rd_readLayer.2.1 14 = .ok (.invokevirtual 94, 3) := by decide +kernel
theorem d_Rd_readLayer_17 : decode M_Rd_readLayer.2.1 17 = .ok (.ifCond .eq 37, 3) := by decide +kernel
theorem d_Rd_readLayer_20 : decode M_Rd_readLayer.2.1 20 = .ok (.aload_n 0, 1) := by decide +kernel
theorem d_Rd_readLayer_21 : decode M_Rd_readLayer.2.1 21 = .ok (.invokevirtual 150, 3) := by decide +kernel
theorem d_Rd_readLayer_24 : decode M_Rd_readLayer.2.1 24 = .ok (.istore_n 2, 1) := by decide +kernel
theorem d_Rd_readLayer_25 : decode M_Rd_readLayer.2.1 25 = .ok (.iload_n 2, 1) := by decide +kernel
theorem d_Rd_readLayer_26 : decode M_Rd_readLayer.2.1 26 = .ok (.iconst 1, 1) := by decide +kernel
theorem d_Rd_readLayer_27 : decode M_Rd_readLayer.2.1 27 = .ok (.if_icmp .lt 9, 3) := by decide +kernel
theorem d_Rd_readLayer_30 : decode M_Rd_readLayer.2.1 30 = .ok (.iload_n 2, 1) := by decide +kernel
theorem d_Rd_readLayer_31 : decode M_Rd_readLayer.2.1 31 = .ok (.bipush 32, 2) := by decide +kernel
theorem d_Rd_readLayer_33 : decode M_Rd_readLayer.2.1 33 = .ok (.if_icmp .le 5, 3) := by decide +kernel
theorem d_Rd_readLayer_36 : decode M_Rd_readLayer.2.1 36 = .ok (.iconst 0, 1) := by decide +kernel
theorem d_Rd_readLayer_37 : decode M_Rd_readLayer.2.1 37 = .ok (.ireturn, 1) := by decide +kernel
theorem d_Rd_readLayer_38 : decode M_Rd_readLayer.2.1 38 = .ok (.aload_n 1, 1) := by decide +kernel
theorem d_Rd_readLayer_39 : decode M_Rd_readLayer.2.1 39 = .ok (.iconst 3, 1) := by decide +kernel
theorem d_Rd_readLayer_40 : decode M_Rd_readLayer.2.1 40 = .ok (.iload_n 2, 1) := by decide +kernel
theorem d_Rd_readLayer_41 : decode M_Rd_readLayer.2.1 41 = .ok (.iadd, 1) := by decide +kernel
theorem d_Rd_readLayer_42 : decode M_Rd_readLayer.2.1 42 = .ok (.putfield 153, 3) := by decide +kernel
theorem d_Rd_readLayer_45 : decode M_Rd_readLayer.2.1 45 = .ok (.aload_n 0, 1) := by decide +kernel
theorem d_Rd_readLayer_46 : decode M_Rd_readLayer.2.1 46 = .ok (.getfield 21, 3) := by decide +kernel
theorem d_Rd_readLayer_49 : decode M_Rd_readLayer.2.1 49 = .ok (.invokevirtual 71, 3) := by decide +kernel
theorem d_Rd_readLayer_52 : decode M_Rd_readLayer.2.1 52 = .ok (.iconst 1, 1) := by decide +kernel
theorem d_Rd_readLayer_53 : decode M_Rd_readLayer.2.1 53 = .ok (.ireturn, 1) := by decide +kernel
theorem d_Rd_readLayer_54 : decode M_Rd_readLayer.2.1 54 = .ok (.aload_n 1, 1) := by decide +kernel
theorem d_Rd_readLayer_55 : decode M_Rd_readLayer.2.1 55 = .ok (.aload_n 0, 1) := by decide +kernel
theorem d_Rd_readLayer_56 : decode M_Rd_readLayer.2.1 56 = .ok (.ldc 155, 2) := by decide +kernel
theorem d_Rd_readLayer_58 : decode M_Rd_readLayer.2.1 58 = .ok (.invokevirtual 94, 3) := by decide +kernel
theorem d_Rd_readLayer_61 : decode M_Rd_readLayer.2.1 61 = .ok (.ifCond .eq 7, 3) := by decide +kernel
theorem d_Rd_readLayer_64 : decode M_Rd_readLayer.2.1 64 = .ok (.iconst 1, 1) := by decide +kernel
theorem d_Rd_readLayer_65 : decode M_Rd_readLayer.2.1 65 = .ok (.goto 30, 3) := by decide +kernel
theorem d_Rd_readLayer_68 : decode M_Rd_readLayer.2.1 68 = .ok (.aload_n 0, 1) := by decide +kernel
theorem d_Rd_readLayer_69 : decode M_Rd_readLayer.2.1 69 = .ok (.ldc 157, 2) := by decide +kernel
theorem d_Rd_readLayer_71 : decode M_Rd_readLayer.2.1 71 = .ok (.invokevirtual 94, 3) := by decide +kernel
theorem d_Rd_readLayer_74 : decode M_Rd_readLayer.2.1 74 = .ok (.ifCond .eq 7, 3) := by decide +kernel
theorem d_Rd_readLayer_77 : decode M_Rd_readLayer.2.1 77 = .ok (.iconst 2, 1) := by decide +kernel
theorem d_Rd_readLayer_78 : decode M_Rd_readLayer.2.1 78 = .ok (.goto 17, 3) := by decide +kernel
theorem d_Rd_readLayer_81 : decode M_Rd_readLayer.2.1 81 = .ok (.aload_n 0, 1) := by decide +kernel
theorem d_Rd_readLayer_82 : decode M_Rd_readLayer.2.1 82 = .ok (.ldc 159, 2) := by decide +kernel
theorem d_Rd_readLayer_84 : decode M_Rd_readLayer.2.1 84 = .ok (.invokevirtual 94, 3) := by decide +kernel
theorem d_Rd_readLayer_87 : decode M_Rd_readLayer.2.1 87 = .ok (.ifCond .eq 7, 3) := by decide +kernel
theorem d_Rd_readLayer_90 : decode M_Rd_readLayer.2.1 90 = .ok (.iconst 3, 1) := by decide +kernel
theorem d_Rd_readLayer_91 : decode M_Rd_readLayer.2.1 91 = .ok (.goto 4, 3) := by decide +kernel
theorem d_Rd_readLayer_94 : decode M_Rd_readLayer.2.1 94 = .ok (.iconst (-1), 1) := by decide +kernel
theorem d_Rd_readLayer_95 : decode M_Rd_readLayer.2.1 95 = .ok (.putfield 153, 3) := by decide +kernel
theorem d_Rd_readLayer_98 : decode M_Rd_readLayer.2.1 98 = .ok (.aload_n 1, 1) := by decide +kernel
theorem d_Rd_readLayer_99 : decode M_Rd_readLayer.2.1 99 = .ok (.getfield 153, 3) := by decide +kernel
theorem d_Rd_readLayer_102 : decode M_Rd_readLayer.2.1 102 = .ok (.iconst (-1), 1) := by decide +kernel
theorem d_Rd_readLayer_103 : decode M_Rd_readLayer.2.1 103 = .ok (.if_icmp .eq 7, 3) := by decide +kernel
theorem d_Rd_readLayer_106 : decode M_Rd_readLayer.2.1 106 = .ok (.iconst 1, 1) := by decide +kernel
theorem d_Rd_readLayer_107 : decode M_Rd_readLayer.2.1 107 = .ok (.goto 4, 3) := by decide +kernel
theorem d_Rd_readLayer_110 : decode M_Rd_readLayer.2.1 110 = .ok (.iconst 0, 1) := by decide +kernel
theorem d_Rd_readLayer_111 : decode M_Rd_readLayer.2.1 111 = .ok (.ireturn, 1) := by decide +kernel
theorem d_Rd_readRank_0 : decode M_Rd_readRank.2.1 0 = .ok (.aload_n 0, 1) := by decide +kernel
theorem d_Rd_readRank_1 : decode M_Rd_readRank.2.1 1 = .ok (.ldc 166, 2) := by decide +kernel
theorem d_Rd_readRank_3 : decode M_Rd_readRank.2.1 3 = .ok (.invokevirtual 94, 3) := by decide +kernel
theorem d_Rd_readRank_6 : decode M_Rd_readRank.2.1 6 = .ok (.ifCond .ne 5, 3) := by decide +kernel
theorem d_Rd_readRank_9 : decode M_Rd_readRank.2.1 9 = .ok (.iconst 1, 1) := by decide +kernel
theorem d_Rd_readRank_10 : decode M_Rd_readRank.2.1 10 = .ok (.ireturn, 1) := by decide +kernel
theorem d_Rd_readRank_11 : decode M_Rd_readRank.2.1 11 = .ok (.aload_n 1, 1) := by decide +kernel
theorem d_Rd_readRank_12 : decode M_Rd_readRank.2.1 12 = .ok (.aload_n 0, 1) := by decide +kernel
theorem d_Rd_readRank_13 : decode M_Rd_readRank.2.1 13 = .ok (.invokevirtual 150, 3) := by decide +kernel
theorem d_Rd_readRank_16 : decode M_Rd_readRank.2.1 16 = .ok (.putfield 168, 3) := by decide +kernel
theorem d_Rd_readRank_19 : decode M_Rd_readRank.2.1 19 = .ok (.aload_n 1, 1) := by decide +kernel
theorem d_Rd_readRank_20 : decode M_Rd_readRank.2.1 20 = .ok (.getfield 168, 3) := by decide +kernel
theorem d_Rd_readRank_23 : decode M_Rd_readRank.2.1 23 = .ok (.iconst (-1), 1) := by decide +kernel
theorem d_Rd_readRank_24 : decode M_Rd_readRank.2.1 24 = .ok (.if_icmp .ne 5, 3) := by decide +kernel
theorem d_Rd_readRank_27 : decode M_Rd_readRank.2.1 27 = .ok (.iconst 0, 1) := by decide +kernel
theorem d_Rd_readRank_28 : decode M_Rd_readRank.2.1 28 = .ok (.ireturn, 1) := by decide +kernel
theorem d_Rd_readRank_29 : decode M_Rd_readRank.2.1 29 = .ok (.aload_n 0, 1) := by decide +kernel
theorem d_Rd_readRank_30 : decode M_Rd_readRank.2.1 30 = .ok (.getfield 21, 3) := by decide +kernel
theorem d_Rd_readRank_33 : decode M_Rd_readRank.2.1 33 = .ok (.invokevirtual 71, 3) := by decide +kernel
theorem d_Rd_readRank_36 : decode M_Rd_readRank.2.1 36 = .ok (.iconst 1, 1) := by decide +kernel
theorem d_Rd_readRank_37 : decode M_Rd_readRank.2.1 37 = .ok (.ireturn, 1) := by decide +kernel
theorem d_Rd_shortNumber_0 : decode M_Rd_shortNumber.2.1 0 = .ok (.aload_n 0, 1) := by decide +kernel
theorem d_Rd_shortNumber_1 : decode M_Rd_shortNumber.2.1 1 = .ok (.getfield 21, 3) := by decide +kernel
theorem d_Rd_shortNumber_4 : decode M_Rd_shortNumber.2.1 4 = .ok (.getfield 170, 3) := by decide +kernel
theorem d_Rd_shortNumber_7 : decode M_Rd_shortNumber.2.1 7 = .ok (.aload_n 0, 1) := by decide +kernel
theorem d_Rd_shortNumber_8 : decode M_Rd_shortNumber.2.1 8 = .ok (.getfield 21, 3) := by decide +kernel
theorem d_Rd_shortNumber_11 : decode M_Rd_shortNumber.2.1 11 = .ok (.getfield 173, 3) := by decide +kernel
theorem d_Rd_shortNumber_14 : decode M_Rd_shortNumber.2.1 14 = .ok (.isub, 1) := by decide +kernel
theorem d_Rd_shortNumber_15 : decode M_Rd_shortNumber.2.1 15 = .ok (.istore_n 1, 1) := by decide +kernel
theorem d_Rd_shortNumber_16 : decode M_Rd_shortNumber.2.1 16 = .ok (.iload_n 1, 1) := by decide +kernel
theorem d_Rd_shortNumber_17 : decode M_Rd_shortNumber.2.1 17 = .ok (.iconst 1, 1) := by decide +kernel
theorem d_Rd_shortNumber_18 : decode M_Rd_shortNumber.2.1 18 = .ok (.if_icmp .lt 32, 3) := by decide +kernel
theorem d_Rd_shortNumber_21 : decode M_Rd_shortNumber.2.1 21 = .ok (.iload_n 1, 1) := by decide +kernel
theorem d_Rd_shortNumber_22 : decode M_Rd_shortNumber.2.1 22 = .ok (.iconst 2, 1) := by decide +kernel
theorem d_Rd_shortNumber_23 : decode M_Rd_shortNumber.2.1 23 = .ok (.if_icmp .gt 27, 3) := by decide +kernel
theorem d_Rd_shortNumber_26 : decode M_Rd_shortNumber.2.1 26 = .ok (.aload_n 0, 1) := by decide +kernel
theorem d_Rd_shortNumber_27 : decode M_Rd_shortNumber.2.1 27 = .ok (.getfield 21, 3) := by decide +kernel
theorem d_Rd_shortNumber_30 : decode M_Rd_shortNumber.2.1 30 = .ok (.aload_n 0, 1) := by decide +kernel
theorem d_Rd_shortNumber_31 : decode M_Rd_shortNumber.2.1 31 = .ok (.getfield 21, 3) := by decide +kernel
theorem d_Rd_shortNumber_34 : decode M_Rd_shortNumber.2.1 34 = .ok (.getfield 173, 3) := by decide +kernel
theorem d_Rd_shortNumber_37 : decode M_Rd_shortNumber.2.1 37 = .ok (.invokevirtual 176, 3) := by decide +kernel
theorem d_Rd_shortNumber_40 : decode M_Rd_shortNumber.2.1 40 = .ok (.aload_n 0, 1) := by decide +kernel
theorem d_Rd_shortNumber_41 : decode M_Rd_shortNumber.2.1 41 = .ok (.getfield 21, 3) := by decide +kernel
theorem d_Rd_shortNumber_44 : decode M_Rd_shortNumber.2.1 44 = .ok (.getfield 170, 3) := by decide +kernel
theorem d_Rd_shortNumber_47 : decode M_Rd_shortNumber.2.1 47 = .ok (.if_icmp .eq 5, 3) := by decide +kernel
theorem d_Rd_shortNumber_50 : decode M_Rd_shortNumber.2.1 50 = .ok (.iconst (-1), 1) := by decide +kernel
theorem d_Rd_shortNumber_51 : decode M_Rd_shortNumber.2.1 51 = .ok (.ireturn, 1) := by decide +kernel
theorem d_Rd_shortNumber_52 : decode M_Rd_shortNumber.2.1 52 = .ok (.aload_n 0, 1) := by decide +kernel
theorem d_Rd_shortNumber_53 : decode M_Rd_shortNumber.2.1 53 = .ok (.getfield 21, 3) := by decide +kernel
theorem d_Rd_shortNumber_56 : decode M_Rd_shortNumber.2.1 56 = .ok (.aload_n 0, 1) := by decide +kernel
theorem d_Rd_shortNumber_57 : decode M_Rd_shortNumber.2.1 57 = .ok (.getfield 21, 3) := by decide +kernel
theorem d_Rd_shortNumber_60 : decode M_Rd_shortNumber.2.1 60 = .ok (.getfield 173, 3) := by decide +kernel
theorem d_Rd_shortNumber_63 : decode M_Rd_shortNumber.2.1 63 = .ok (.aload_n 0, 1) := by decide +kernel
theorem d_Rd_shortNumber_64 : decode M_Rd_shortNumber.2.1 64 = .ok (.getfield 21, 3) := by decide +kernel
theorem d_Rd_shortNumber_67 : decode M_Rd_shortNumber.2.1 67 = .ok (.getfield 170, 3) := by decide +kernel
theorem d_Rd_shortNumber_70 : decode M_Rd_shortNumber.2.1 70 = .ok (.invokevirtual 180, 3) := by decide +kernel
theorem d_Rd_shortNumber_73 : decode M_Rd_shortNumber.2.1 73 = .ok (.ireturn, 1) := by decide +kernel
section
variable {n e : Nat} {t : Nat → Int32}
theorem de_full : ∀ f i, f = e - i → i ≤ e → (∀ x, i ≤ x → x < e → isDig (t x)) → de e t f i = e
  | 0, i, h1, h2, _ => by show i = e; omega
  | f + 1, i, h1, h2, h => by
    have hd := h i (by omega) (by omega)
    unfold isDig at hd
    unfold de
    rw [if_pos ⟨by omega, by omega, by omega⟩]
    exact de_full f (i + 1) (by omega) (by omega) (fun x a b => h x (by omega) b)
theorem de_iff {b : Nat} (h : b ≤ e) : de e t (e - b) b = e ↔ ∀ x, b ≤ x → x < e → isDig (t x) := ⟨fun z x a c => de_dig _ _ rfl h x a (by rw [z]; exact c), fun z => de_full _ _ rfl h z⟩
theorem snm_eq {j : Nat} (h1 : 1 ≤ tlen n t j ∧ tlen n t j ≤ 2) (h2 : de (tk n t j).2 t ((tk n t j).2 - (tk n t j).1) (tk n t j).1 = (tk n t j).2) : snm n t j = some (dvF t ((tk n t j).2 - (tk n t j).1) (tk n t j).1 0) := by
  have l := tk_le (n := n) (t := t) j
  unfold snm
  rw [cnd_t ⟨h1, fun i hi => (de_iff l.1).mp h2 _ (by omega) (by unfold tlen at hi; omega)⟩]
  rfl
theorem snm_no {j : Nat} (h : ¬ ((1 ≤ tlen n t j ∧ tlen n t j ≤ 2) ∧ de (tk n t j).2 t ((tk n t j).2 - (tk n t j).1) (tk n t j).1 = (tk n t j).2)) : snm n t j = none := by
  have l := tk_le (n := n) (t := t) j
  unfold snm
  rw [cnd_f (fun z => h ⟨z.1, (de_iff l.1).mpr (fun x a b => by have := z.2 (x - (tk n t j).1) (by unfold tlen; omega); rw [show (tk n t j).1 + (x - (tk n t j).1) = x by omega] at this; exact this)⟩)]
theorem snm_lt {j v : Nat} (h : snm n t j = some v) : v < 100 := by
  unfold snm at h
  by_cases c : (1 ≤ tlen n t j ∧ tlen n t j ≤ 2) ∧ ∀ i, i < tlen n t j → isDig (t ((tk n t j).1 + i))
  · rw [cnd_t c] at h
    have z := dvF_acc (t := t) (tlen n t j) (tk n t j).1 0 c.2
    have : 10 ^ tlen n t j ≤ 10 ^ 2 := Nat.pow_le_pow_right (by decide) c.1.2
    cases h
    omega
  · rw [cnd_f c] at h
    cases h
theorem smallR_rank {j : Nat} : smallR n t j 0 99 = snm n t j := by
  unfold smallR
  cases e : snm n t j with
  | none => rfl
  | some v =>
    have := snm_lt e
    show (if 0 ≤ v ∧ v ≤ 99 then some v else none) = some v
    rw [if_pos (by omega)]
theorem oR_m2 {o : Option Nat} (h : ∀ x, o = some x → x < 32) : ¬ oR o = -2 := by
  cases o with
  | none => decide
  | some x =>
    intro z
    have := congrArg Int32.toInt z
    rw [show oR (some x) = nI x from rfl, nI_toInt (by have := h x rfl; omega), i_m2] at this
    omega
end
section
variable {nx : Nat} {ct : Nat → Nat × Nat} {mi : Nat → Nat → Int32} {ml : Nat → Nat → Int64} {mr : Nat → Nat → Option Nat} {n j r κ : Nat} {t : Nat → Int32} {N : nmS}
theorem cl_isWaiver (hL : LAY nx ct mr) (hr : isRu r) (hk : mr r 0 = some (1 + κ)) (h13 : κ < 13) : rx_Calls y_Ru_isWaiver M_Ru_isWaiver 0 0 0 [.ref r] (nx, ct, mi, ml, mr) (fun v τ => v = some (.int (bI (κ = 12))) ∧ τ = (nx, ct, mi, ml, mr)) := by
  refine rx_enter (by decide) rfl rfl (Nat.le_of_ble_eq_true rfl) ?_
  refine ru_aload_n d_Ru_isWaiver_0 rfl rfl ?_
  refine ru_getR d_Ru_isWaiver_1 lf_Ru_15 (ly_ru hL hr) rfl hk ?_
  refine ru_gets d_Ru_isWaiver_4 (Or.inl (rx_in (tm_2 (List.mem_of_getElem? (i := 179) rfl)) rfl)) (List.mem_of_getElem? (i := 1) rfl) ?_
  refine ru_acmp_ne (tgt := 14) d_Ru_isWaiver_7 (by decide) (by omega) (by omega) (fun h7 => ?_) (fun h7 => ?_)
  · skip
    refine ru_iconst (v := 0) d_Ru_isWaiver_14 (by decide) ?_
    refine ru_zret (ty := .boolean) d_Ru_isWaiver_15 rfl rfl ?_
    first | (rw [bI_t (by omega)]; exact ⟨rfl, rfl⟩) | (rw [bI_f (by omega)]; exact ⟨rfl, rfl⟩)
  · skip
    refine ru_iconst (v := 1) d_Ru_isWaiver_10 (by decide) ?_
    refine ru_goto (tgt := 15) d_Ru_isWaiver_11 (by decide) ?_
    refine ru_zret (ty := .boolean) d_Ru_isWaiver_15 rfl rfl ?_
    first | (rw [bI_t (by omega)]; exact ⟨rfl, rfl⟩) | (rw [bI_f (by omega)]; exact ⟨rfl, rfl⟩)
theorem cl_isOfTwo (hL : LAY nx ct mr) (hr : isRu r) (hk : mr r 0 = some (1 + κ)) (h13 : κ < 13) : rx_Calls y_Ru_isOfTwoThings M_Ru_isOfTwoThings 0 0 0 [.ref r] (nx, ct, mi, ml, mr) (fun v τ => v = some (.int (bI (κ = 0 ∨ κ = 12))) ∧ τ = (nx, ct, mi, ml, mr)) := by
  refine rx_enter (by decide) rfl rfl (Nat.le_of_ble_eq_true rfl) ?_
  refine ru_aload_n d_Ru_isOfTwoThings_0 rfl rfl ?_
  refine ru_getR d_Ru_isOfTwoThings_1 lf_Ru_15 (ly_ru hL hr) rfl hk ?_
  refine ru_gets d_Ru_isOfTwoThings_4 (Or.inl (rx_in (tm_1 (List.mem_of_getElem? (i := 219) rfl)) rfl)) (List.mem_of_getElem? (i := 0) rfl) ?_
  refine ru_acmp_eq (tgt := 20) d_Ru_isOfTwoThings_7 (by decide) (by omega) (by omega) (fun h7 => ?_) (fun h7 => ?_)
  · skip
    refine ru_iconst (v := 1) d_Ru_isOfTwoThings_20 (by decide) ?_
    refine ru_goto (tgt := 25) d_Ru_isOfTwoThings_21 (by decide) ?_
    refine ru_zret (ty := .boolean) d_Ru_isOfTwoThings_25 rfl rfl ?_
    first | (rw [bI_t (by omega)]; exact ⟨rfl, rfl⟩) | (rw [bI_f (by omega)]; exact ⟨rfl, rfl⟩)
  · skip
    refine ru_aload_n d_Ru_isOfTwoThings_10 rfl rfl ?_
    refine ru_getR d_Ru_isOfTwoThings_11 lf_Ru_15 (ly_ru hL hr) rfl hk ?_
    refine ru_gets d_Ru_isOfTwoThings_14 (Or.inl (rx_in (tm_2 (List.mem_of_getElem? (i := 179) rfl)) rfl)) (List.mem_of_getElem? (i := 1) rfl) ?_
    refine ru_acmp_ne (tgt := 24) d_Ru_isOfTwoThings_17 (by decide) (by omega) (by omega) (fun h17 => ?_) (fun h17 => ?_)
    · skip
      refine ru_iconst (v := 0) d_Ru_isOfTwoThings_24 (by decide) ?_
      refine ru_zret (ty := .boolean) d_Ru_isOfTwoThings_25 rfl rfl ?_
      first | (rw [bI_t (by omega)]; exact ⟨rfl, rfl⟩) | (rw [bI_f (by omega)]; exact ⟨rfl, rfl⟩)
    · skip
      refine ru_iconst (v := 1) d_Ru_isOfTwoThings_20 (by decide) ?_
      refine ru_goto (tgt := 25) d_Ru_isOfTwoThings_21 (by decide) ?_
      refine ru_zret (ty := .boolean) d_Ru_isOfTwoThings_25 rfl rfl ?_
      first | (rw [bI_t (by omega)]; exact ⟨rfl, rfl⟩) | (rw [bI_f (by omega)]; exact ⟨rfl, rfl⟩)
theorem cl_short (hL : LAY nx ct mr) (h : TxC n t mi) : rx_Calls y_Rd_shortNumber M_Rd_shortNumber 1 0 0 [.ref 268] (nx, ct, tkM mi n t j, ml, mr) (fun v τ => v = some (.int (oR (snm n t j))) ∧ τ = (nx, ct, tkM mi n t j, ml, mr)) := by
  refine rx_enter (by decide) rfl rfl (Nat.le_of_ble_eq_true rfl) ?_
  have l := tk_le (n := n) (t := t) j
  have l2 := h.2.2
  have ht := (h.tk (j := j)).2.1
  have ed := sp_endOfDigits (ml := ml) hL (tkM_3 (mi := mi) (n := n) (t := t) (j := j)) (by omega) l.1
  rw [ht] at ed
  refine ru_aload_n d_Rd_shortNumber_0 rfl rfl ?_
  refine ru_getR d_Rd_shortNumber_1 lf_Rd_21 (ly hL 268 3 0) rfl (lr hL 268 0 266) ?_
  refine ru_getI d_Rd_shortNumber_4 lf_Rd_170 (ly hL 266 7 0) rfl ?_
  refine ru_eqi tkM_3 ?_
  refine ru_aload_n d_Rd_shortNumber_7 rfl rfl ?_
  refine ru_getR d_Rd_shortNumber_8 lf_Rd_21 (ly hL 268 3 0) rfl (lr hL 268 0 266) ?_
  refine ru_getI d_Rd_shortNumber_11 lf_Rd_173 (ly hL 266 7 0) rfl ?_
  refine ru_eqi tkM_2 ?_
  refine ru_isub d_Rd_shortNumber_14 ?_
  refine ru_eqi (nm_sub (a := (tk n t j).2) (b := (tk n t j).1) (by omega) : _ = nI ((tk n t j).2 - (tk n t j).1)) ?_
  refine ru_istore_n d_Rd_shortNumber_15 rfl (by decide) ?_
  refine ru_iload_n d_Rd_shortNumber_16 rfl rfl ?_
  refine ru_iconst (v := 1) d_Rd_shortNumber_17 (by decide) ?_
  refine ru_icmp_lt (tgt := 50) d_Rd_shortNumber_18 (by decide) (fun h18 => ?_) (fun h18 => ?_)
  · skip
    replace h18 := nm_lt (a := ((tk n t j).2 - (tk n t j).1)) (b := 1) (by omega) (by omega) h18
    refine ru_iconst (v := (-1)) d_Rd_shortNumber_50 (by decide) ?_
    refine ru_iret d_Rd_shortNumber_51 rfl ?_
    rw [snm_no (by unfold tlen; omega)]
    exact ⟨rfl, rfl⟩
  · skip
    replace h18 := nm_nlt (a := ((tk n t j).2 - (tk n t j).1)) (b := 1) (by omega) (by omega) h18
    refine ru_iload_n d_Rd_shortNumber_21 rfl rfl ?_
    refine ru_iconst (v := 2) d_Rd_shortNumber_22 (by decide) ?_
    refine ru_icmp_gt (tgt := 50) d_Rd_shortNumber_23 (by decide) (fun h23 => ?_) (fun h23 => ?_)
    · skip
      replace h23 := nm_lt (a := 2) (b := ((tk n t j).2 - (tk n t j).1)) (by omega) (by omega) h23
      refine ru_iconst (v := (-1)) d_Rd_shortNumber_50 (by decide) ?_
      refine ru_iret d_Rd_shortNumber_51 rfl ?_
      rw [snm_no (by unfold tlen; omega)]
      exact ⟨rfl, rfl⟩
    · skip
      replace h23 := nm_nlt (a := 2) (b := ((tk n t j).2 - (tk n t j).1)) (by omega) (by omega) h23
      refine ru_aload_n d_Rd_shortNumber_26 rfl rfl ?_
      refine ru_getR d_Rd_shortNumber_27 lf_Rd_21 (ly hL 268 3 0) rfl (lr hL 268 0 266) ?_
      refine ru_aload_n d_Rd_shortNumber_30 rfl rfl ?_
      refine ru_getR d_Rd_shortNumber_31 lf_Rd_21 (ly hL 268 3 0) rfl (lr hL 268 0 266) ?_
      refine ru_getI d_Rd_shortNumber_34 lf_Rd_173 (ly hL 266 7 0) rfl ?_
      refine ru_eqi tkM_2 ?_
      refine ru_callV (mc := 0) (ms := 0) d_Rd_shortNumber_37 lm_Rd_176 ed (rx_recv_is (ly hL 266 7 0) kx_Wo) (by decide) rfl (Nat.le_of_ble_eq_true rfl) ?_
      rintro v τ ⟨rfl, rfl⟩
      have l4 := de_le (tk n t j).2 t ((tk n t j).2 - (tk n t j).1) (tk n t j).1 l.1
      refine ru_aload_n d_Rd_shortNumber_40 rfl rfl ?_
      refine ru_getR d_Rd_shortNumber_41 lf_Rd_21 (ly hL 268 3 0) rfl (lr hL 268 0 266) ?_
      refine ru_getI d_Rd_shortNumber_44 lf_Rd_170 (ly hL 266 7 0) rfl ?_
      refine ru_eqi tkM_3 ?_
      refine ru_icmp_eq (tgt := 52) d_Rd_shortNumber_47 (by decide) (fun h47 => ?_) (fun h47 => ?_)
      · skip
        replace h47 := nm_eq (a := (de (tk n t j).2 t ((tk n t j).2 - (tk n t j).1) (tk n t j).1)) (b := (tk n t j).2) (by omega) (by omega) h47
        refine ru_aload_n d_Rd_shortNumber_52 rfl rfl ?_
        refine ru_getR d_Rd_shortNumber_53 lf_Rd_21 (ly hL 268 3 0) rfl (lr hL 268 0 266) ?_
        refine ru_aload_n d_Rd_shortNumber_56 rfl rfl ?_
        refine ru_getR d_Rd_shortNumber_57 lf_Rd_21 (ly hL 268 3 0) rfl (lr hL 268 0 266) ?_
        refine ru_getI d_Rd_shortNumber_60 lf_Rd_173 (ly hL 266 7 0) rfl ?_
        refine ru_eqi tkM_2 ?_
        refine ru_aload_n d_Rd_shortNumber_63 rfl rfl ?_
        refine ru_getR d_Rd_shortNumber_64 lf_Rd_21 (ly hL 268 3 0) rfl (lr hL 268 0 266) ?_
        refine ru_getI d_Rd_shortNumber_67 lf_Rd_170 (ly hL 266 7 0) rfl ?_
        refine ru_eqi tkM_3 ?_
        refine ru_callV (mc := 0) (ms := 0) d_Rd_shortNumber_70 lm_Rd_180 (cl_digits hL ht (by omega) l.1 ((de_iff l.1).mp h47)) (rx_recv_is (ly hL 266 7 0) kx_Wo) (by decide) rfl (Nat.le_of_ble_eq_true rfl) ?_
        intro v τ h
        obtain ⟨rfl, rfl⟩ := h
        refine ru_iret d_Rd_shortNumber_73 rfl ?_
        rw [snm_eq (by unfold tlen; omega) h47]
        exact ⟨rfl, rfl⟩
      · skip
        replace h47 := nm_ne (a := (de (tk n t j).2 t ((tk n t j).2 - (tk n t j).1) (tk n t j).1)) (b := (tk n t j).2) (by omega) (by omega) h47
        refine ru_iconst (v := (-1)) d_Rd_shortNumber_50 (by decide) ?_
        refine ru_iret d_Rd_shortNumber_51 rfl ?_
        rw [snm_no (by unfold tlen; omega)]
        exact ⟨rfl, rfl⟩
/-- a part of rule r read: field k of it becomes f of what was read -/
def ptR (r nx : Nat) (ct : Nat → Nat × Nat) (mi : Nat → Nat → Int32) (ml : Nat → Nat → Int64) (mr : Nat → Nat → Option Nat) (n : Nat) (t : Nat → Int32) {α : Type} (k : Nat) (f : α → Int32) (q : Nat ⊕ (α × Nat)) : Option Value → rx_S → Prop := fun v τ => match q with
  | .inl w => flP r w nx ct mi ml mr v τ
  | .inr (a, w) => v = some (.int 1) ∧ τ = (nx, ct, tkM (rx_u mi r k (f a)) n t w, ml, mr)
theorem fl_tk {k : Nat} (h : RdOK N n t mi) : flP r k nx ct mi ml mr (some (.int 0)) (nx, ct, tkM mi n t k, ml, mr) := ⟨rfl, _, _, rfl, RF.tk rfl, wrg_tk h⟩
theorem fl_u {k a : Nat} {v : Int32} (h : RdOK N n t mi) (hr : isRu r) : flP r k nx ct mi ml mr (some (.int 0)) (nx, ct, tkM (rx_u mi r a v) n t k, ml, mr) := ⟨rfl, _, _, rfl, (RF.refl.u (Or.inr (Or.inr (Or.inr (Or.inr rfl)))) (isRu_ne hr).2.2.2.2.1).trans (RF.tk rfl), wrg_tk (h.u hr)⟩
theorem fl_u2 {k a b : Nat} {v w : Int32} (h : RdOK N n t mi) (hr : isRu r) : flP r k nx ct mi ml mr (some (.int 0)) (nx, ct, tkM (rx_u (rx_u mi r a v) r b w) n t k, ml, mr) := ⟨rfl, _, _, rfl, ((RF.refl.u (Or.inr (Or.inr (Or.inr (Or.inr rfl)))) (isRu_ne hr).2.2.2.2.1).u (Or.inr (Or.inr (Or.inr (Or.inr rfl)))) (isRu_ne hr).2.2.2.2.1).trans (RF.tk rfl), wrg_tk ((h.u hr).u hr)⟩
theorem cl_readArea (hL : LAY nx ct mr) (h : RdOK N n t mi) (hr : isRu r) (h4 : mi r 4 = -1) : rx_Calls y_Rd_readArea M_Rd_readArea 6 0 0 [.ref 268, .ref r] (nx, ct, tkM mi n t j, ml, mr) (ptR r nx ct mi ml mr n t 4 oR (pArea N n t j)) := by
  refine rx_enter (by decide) rfl rfl (Nat.le_of_ble_eq_true rfl) ?_
  have r6 := (isRu_ne hr).2.2.2.2.1
  unfold pArea
  have tN : fnd N n t (j + 1) 2 = none → rx_W M_Rd_readArea 6 0 0 24 [(0, .ref 268), (1, .ref r)] [.int (-1), .ref r] (nx, ct, tkM mi n t (j + 1), ml, mr) (pR (flP r (j + 1) nx ct mi ml mr)) := by
    intro e
    refine ru_putI d_Rd_readArea_24 lf_Rd_163 (ly_ru hL hr) rfl (fun q hq => by cases hq; exact Or.inl rfl) ⟨rfl, rfl⟩ ?_
    rw [tkM_u r6]
    refine ru_aload_n d_Rd_readArea_27 rfl rfl ?_
    refine ru_getI d_Rd_readArea_28 lf_Rd_163 (ly_ru hL hr) rfl ?_
    rw [tkM_r r6, rx_u_same]
    refine ru_iconst (v := (-1)) d_Rd_readArea_31 (by decide) ?_
    refine ru_icmp_ne (tgt := 37) d_Rd_readArea_32 (by decide) (fun h32 => absurd rfl h32) (fun h32 => ?_)
    refine ru_iconst (v := 0) d_Rd_readArea_35 (by decide) ?_
    refine ru_zret (ty := .boolean) d_Rd_readArea_36 rfl rfl ?_
    exact fl_u h hr
  have tS : ∀ x, fnd N n t (j + 1) 2 = some x → rx_W M_Rd_readArea 6 0 0 24 [(0, .ref 268), (1, .ref r)] [.int (nI x), .ref r] (nx, ct, tkM mi n t (j + 1), ml, mr) (pR (fun v τ => v = some (.int 1) ∧ τ = (nx, ct, tkM (rx_u mi r 4 (nI x)) n t (j + 2), ml, mr))) := by
    intro x e
    have hx := fnd_lt e
    refine ru_putI d_Rd_readArea_24 lf_Rd_163 (ly_ru hL hr) rfl (fun q hq => by cases hq; exact Or.inl rfl) ⟨rfl, rfl⟩ ?_
    rw [tkM_u r6]
    refine ru_aload_n d_Rd_readArea_27 rfl rfl ?_
    refine ru_getI d_Rd_readArea_28 lf_Rd_163 (ly_ru hL hr) rfl ?_
    rw [tkM_r r6, rx_u_same]
    refine ru_iconst (v := (-1)) d_Rd_readArea_31 (by decide) ?_
    refine ru_icmp_ne (tgt := 37) d_Rd_readArea_32 (by decide) (fun h32 => ?_) (fun h32 => absurd h32 (nI_m1 (by omega)))
    refine ru_aload_n d_Rd_readArea_37 rfl rfl ?_
    refine ru_getR d_Rd_readArea_38 lf_Rd_21 (ly hL 268 3 0) rfl (lr hL 268 0 266) ?_
    refine ru_callV (mc := 0) (ms := 0) d_Rd_readArea_41 lm_Rd_71 (cl_goOn hL (h.u hr).1) (rx_recv_is (ly hL 266 7 0) kx_Wo) (by decide) rfl (Nat.le_of_ble_eq_true rfl) ?_
    intro v τ h
    obtain ⟨rfl, rfl⟩ := h
    refine ru_iconst (v := 1) d_Rd_readArea_44 (by decide) ?_
    refine ru_zret (ty := .boolean) d_Rd_readArea_45 rfl rfl ?_
    exact ⟨rfl, rfl⟩
  refine ru_aload_n d_Rd_readArea_0 rfl rfl ?_
  refine ru_ldcS (tx := "in") (r := 41) d_Rd_readArea_1 (List.mem_of_getElem? (i := 11) rfl) ?_
  refine ru_callV (mc := 0) (ms := 0) d_Rd_readArea_3 lm_Rd_94 (cl_accept (s := 11) hL h.1 (by decide)) (rx_recv_is (ly hL 268 3 0) kx_Rd) (by decide) rfl (Nat.le_of_ble_eq_true rfl) ?_
  intro v τ h
  obtain ⟨rfl, rfl⟩ := h
  refine ru_if_ne (tgt := 11) d_Rd_readArea_6 (by decide) (fun h6 => ?_) (fun h6 => ?_)
  · skip
    replace h6 := bI_ne0.mp h6
    rw [cnd_t h6, cnd_t h6]
    refine ru_aload_n d_Rd_readArea_11 rfl rfl ?_
    refine ru_aload_n d_Rd_readArea_12 rfl rfl ?_
    refine ru_getR d_Rd_readArea_13 lf_Rd_25 (ly hL 268 3 0) rfl (lr hL 268 1 257) ?_
    refine ru_iconst (v := 2) d_Rd_readArea_16 (by decide) ?_
    refine ru_aload_n d_Rd_readArea_17 rfl rfl ?_
    refine ru_getR d_Rd_readArea_18 lf_Rd_21 (ly hL 268 3 0) rfl (lr hL 268 0 266) ?_
    refine ru_callV (mc := 0) (ms := 0) d_Rd_readArea_21 lm_Rd_136 (cl_find (a := 2) hL h.1 h.2.1 (by decide)) (rx_recv_is (ly hL 257 2 0) kx_Na) (by decide) rfl (Nat.le_of_ble_eq_true rfl) ?_
    rintro v τ ⟨rfl, rfl⟩
    cases e : fnd N n t (j + 1) 2 with | none => exact ru_to (tN e) ⟨rfl, rfl, trivial⟩ | some x => exact ru_to (tS x e) ⟨rfl, rfl, trivial⟩
  · skip
    replace h6 := bI_eq0.mp h6
    rw [cnd_f h6, cnd_f h6]
    refine ru_iconst (v := 1) d_Rd_readArea_9 (by decide) ?_
    refine ru_zret (ty := .boolean) d_Rd_readArea_10 rfl rfl ?_
    refine ⟨rfl, ?_⟩
    rw [show oR none = mi r 4 from h4.symm, rx_u_id]
theorem cl_readRank (hL : LAY nx ct mr) (h : RdOK N n t mi) (hr : isRu r) (h5 : mi r 5 = 0) : rx_Calls y_Rd_readRank M_Rd_readRank 6 0 0 [.ref 268, .ref r] (nx, ct, tkM mi n t j, ml, mr) (ptR r nx ct mi ml mr n t 5 nI (pRank n t j)) := by
  refine rx_enter (by decide) rfl rfl (Nat.le_of_ble_eq_true rfl) ?_
  have r6 := (isRu_ne hr).2.2.2.2.1
  unfold pRank
  rw [smallR_rank]
  have tN : snm n t (j + 1) = none → rx_W M_Rd_readRank 6 0 0 16 [(0, .ref 268), (1, .ref r)] [.int (-1), .ref r] (nx, ct, tkM mi n t (j + 1), ml, mr) (pR (flP r (j + 1) nx ct mi ml mr)) := by
    intro e
    refine ru_putI d_Rd_readRank_16 lf_Rd_168 (ly_ru hL hr) rfl (fun q hq => by cases hq; exact Or.inl rfl) ⟨rfl, rfl⟩ ?_
    rw [tkM_u r6]
    refine ru_aload_n d_Rd_readRank_19 rfl rfl ?_
    refine ru_getI d_Rd_readRank_20 lf_Rd_168 (ly_ru hL hr) rfl ?_
    rw [tkM_r r6, rx_u_same]
    refine ru_iconst (v := (-1)) d_Rd_readRank_23 (by decide) ?_
    refine ru_icmp_ne (tgt := 29) d_Rd_readRank_24 (by decide) (fun h24 => absurd rfl h24) (fun h24 => ?_)
    refine ru_iconst (v := 0) d_Rd_readRank_27 (by decide) ?_
    refine ru_zret (ty := .boolean) d_Rd_readRank_28 rfl rfl ?_
    exact fl_u h hr
  have tS : ∀ x, snm n t (j + 1) = some x → rx_W M_Rd_readRank 6 0 0 16 [(0, .ref 268), (1, .ref r)] [.int (nI x), .ref r] (nx, ct, tkM mi n t (j + 1), ml, mr) (pR (fun v τ => v = some (.int 1) ∧ τ = (nx, ct, tkM (rx_u mi r 5 (nI x)) n t (j + 2), ml, mr))) := by
    intro x e
    have hx := snm_lt e
    refine ru_putI d_Rd_readRank_16 lf_Rd_168 (ly_ru hL hr) rfl (fun q hq => by cases hq; exact Or.inl rfl) ⟨rfl, rfl⟩ ?_
    rw [tkM_u r6]
    refine ru_aload_n d_Rd_readRank_19 rfl rfl ?_
    refine ru_getI d_Rd_readRank_20 lf_Rd_168 (ly_ru hL hr) rfl ?_
    rw [tkM_r r6, rx_u_same]
    refine ru_iconst (v := (-1)) d_Rd_readRank_23 (by decide) ?_
    refine ru_icmp_ne (tgt := 29) d_Rd_readRank_24 (by decide) (fun h24 => ?_) (fun h24 => absurd h24 (nI_m1 (by omega)))
    refine ru_aload_n d_Rd_readRank_29 rfl rfl ?_
    refine ru_getR d_Rd_readRank_30 lf_Rd_21 (ly hL 268 3 0) rfl (lr hL 268 0 266) ?_
    refine ru_callV (mc := 0) (ms := 0) d_Rd_readRank_33 lm_Rd_71 (cl_goOn hL (h.u hr).1) (rx_recv_is (ly hL 266 7 0) kx_Wo) (by decide) rfl (Nat.le_of_ble_eq_true rfl) ?_
    intro v τ h
    obtain ⟨rfl, rfl⟩ := h
    refine ru_iconst (v := 1) d_Rd_readRank_36 (by decide) ?_
    refine ru_zret (ty := .boolean) d_Rd_readRank_37 rfl rfl ?_
    exact ⟨rfl, rfl⟩
  refine ru_aload_n d_Rd_readRank_0 rfl rfl ?_
  refine ru_ldcS (tx := "rank") (r := 42) d_Rd_readRank_1 (List.mem_of_getElem? (i := 12) rfl) ?_
  refine ru_callV (mc := 0) (ms := 0) d_Rd_readRank_3 lm_Rd_94 (cl_accept (s := 12) hL h.1 (by decide)) (rx_recv_is (ly hL 268 3 0) kx_Rd) (by decide) rfl (Nat.le_of_ble_eq_true rfl) ?_
  intro v τ h
  obtain ⟨rfl, rfl⟩ := h
  refine ru_if_ne (tgt := 11) d_Rd_readRank_6 (by decide) (fun h6 => ?_) (fun h6 => ?_)
  · skip
    replace h6 := bI_ne0.mp h6
    rw [cnd_t h6, cnd_t h6]
    refine ru_aload_n d_Rd_readRank_11 rfl rfl ?_
    refine ru_aload_n d_Rd_readRank_12 rfl rfl ?_
    refine ru_callV (mc := 0) (ms := 0) d_Rd_readRank_13 lm_Rd_150 (cl_short hL h.1) (rx_recv_is (ly hL 268 3 0) kx_Rd) (by decide) rfl (Nat.le_of_ble_eq_true rfl) ?_
    rintro v τ ⟨rfl, rfl⟩
    cases e : snm n t (j + 1) with | none => exact ru_to (tN e) ⟨rfl, rfl, trivial⟩ | some x => exact ru_to (tS x e) ⟨rfl, rfl, trivial⟩
  · skip
    replace h6 := bI_eq0.mp h6
    rw [cnd_f h6, cnd_f h6]
    refine ru_iconst (v := 1) d_Rd_readRank_9 (by decide) ?_
    refine ru_zret (ty := .boolean) d_Rd_readRank_10 rfl rfl ?_
    refine ⟨rfl, ?_⟩
    rw [show nI 0 = mi r 5 from h5.symm, rx_u_id]
theorem cl_layNum (hL : LAY nx ct mr) (h : RdOK N n t mi) (hr : isRu r) : ∀ i : Nat, rx_W M_Rd_readLayer 6 0 0 20 [(0, .ref 268), (1, .ref r)] [] (nx, ct, tkM mi n t i, ml, mr) (pR (ptR r nx ct mi ml mr n t 3 nI (match smallR n t i 1 32 with | some v => .inr (3 + v, i + 1) | none => .inl i))) := by
  intro i
  have r6 := (isRu_ne hr).2.2.2.2.1
  unfold smallR
  refine ru_aload_n d_Rd_readLayer_20 rfl rfl ?_
  refine ru_callV (mc := 0) (ms := 0) d_Rd_readLayer_21 lm_Rd_150 (cl_short hL h.1) (rx_recv_is (ly hL 268 3 0) kx_Rd) (by decide) rfl (Nat.le_of_ble_eq_true rfl) ?_
  rintro v τ ⟨rfl, rfl⟩
  cases e : snm n t i
  · skip
    refine ru_istore_n d_Rd_readLayer_24 rfl (by decide) ?_
    refine ru_iload_n d_Rd_readLayer_25 rfl rfl ?_
    refine ru_iconst (v := 1) d_Rd_readLayer_26 (by decide) ?_
    refine ru_icmp_lt (tgt := 36) d_Rd_readLayer_27 (by decide) (fun h27 => ?_) (fun h27 => absurd (show ((-1) : Int32) < 1 by decide) h27)
    refine ru_iconst (v := 0) d_Rd_readLayer_36 (by decide) ?_
    refine ru_zret (ty := .boolean) d_Rd_readLayer_37 rfl rfl ?_
    exact fl_tk h
  · rename_i x
    have hx := snm_lt e
    show rx_W _ _ _ _ _ _ _ _ (pR (ptR r nx ct mi ml mr n t 3 nI (match (if 1 ≤ x ∧ x ≤ 32 then some x else none) with | some v => .inr (3 + v, i + 1) | none => .inl i)))
    refine ru_istore_n d_Rd_readLayer_24 rfl (by decide) ?_
    refine ru_iload_n d_Rd_readLayer_25 rfl rfl ?_
    refine ru_iconst (v := 1) d_Rd_readLayer_26 (by decide) ?_
    refine ru_icmp_lt (tgt := 36) d_Rd_readLayer_27 (by decide) (fun h27 => ?_) (fun h27 => ?_)
    · skip
      replace h27 := nm_lt (a := x) (b := 1) (by omega) (by omega) h27
      refine ru_iconst (v := 0) d_Rd_readLayer_36 (by decide) ?_
      refine ru_zret (ty := .boolean) d_Rd_readLayer_37 rfl rfl ?_
      rw [if_neg (by omega)]
      exact fl_tk h
    · skip
      replace h27 := nm_nlt (a := x) (b := 1) (by omega) (by omega) h27
      refine ru_iload_n d_Rd_readLayer_30 rfl rfl ?_
      refine ru_bipush (v := 32) d_Rd_readLayer_31 (by decide) ?_
      refine ru_icmp_le (tgt := 38) d_Rd_readLayer_33 (by decide) (fun h33 => ?_) (fun h33 => ?_)
      · skip
        replace h33 := nm_le (a := x) (b := 32) (by omega) (by omega) h33
        rw [if_pos (by omega)]
        refine ru_aload_n d_Rd_readLayer_38 rfl rfl ?_
        refine ru_iconst (v := 3) d_Rd_readLayer_39 (by decide) ?_
        refine ru_iload_n d_Rd_readLayer_40 rfl rfl ?_
        refine ru_iadd d_Rd_readLayer_41 ?_
        refine ru_eqi (nm_add 3 x : _ = nI (3 + x)) ?_
        refine ru_putI d_Rd_readLayer_42 lf_Rd_153 (ly_ru hL hr) rfl (fun q hq => by cases hq; exact Or.inl rfl) ⟨rfl, rfl⟩ ?_
        rw [tkM_u r6]
        refine ru_aload_n d_Rd_readLayer_45 rfl rfl ?_
        refine ru_getR d_Rd_readLayer_46 lf_Rd_21 (ly hL 268 3 0) rfl (lr hL 268 0 266) ?_
        refine ru_callV (mc := 0) (ms := 0) d_Rd_readLayer_49 lm_Rd_71 (cl_goOn hL (h.u hr).1) (rx_recv_is (ly hL 266 7 0) kx_Wo) (by decide) rfl (Nat.le_of_ble_eq_true rfl) ?_
        intro v τ h
        obtain ⟨rfl, rfl⟩ := h
        refine ru_iconst (v := 1) d_Rd_readLayer_52 (by decide) ?_
        refine ru_zret (ty := .boolean) d_Rd_readLayer_53 rfl rfl ?_
        exact ⟨rfl, rfl⟩
      · skip
        replace h33 := nm_nle (a := x) (b := 32) (by omega) (by omega) h33
        refine ru_iconst (v := 0) d_Rd_readLayer_36 (by decide) ?_
        refine ru_zret (ty := .boolean) d_Rd_readLayer_37 rfl rfl ?_
        rw [if_neg (by omega)]
        exact fl_tk h
theorem cl_readLayer (hL : LAY nx ct mr) (h : RdOK N n t mi) (hr : isRu r) (h3 : mi r 3 = 0) : rx_Calls y_Rd_readLayer M_Rd_readLayer 6 0 0 [.ref 268, .ref r] (nx, ct, tkM mi n t j, ml, mr) (ptR r nx ct mi ml mr n t 3 nI (pLayer n t j)) := by
  refine rx_enter (by decide) rfl rfl (Nat.le_of_ble_eq_true rfl) ?_
  have r6 := (isRu_ne hr).2.2.2.2.1
  unfold pLayer
  have tl : ∀ l i : Nat, l < 4 → rx_W M_Rd_readLayer 6 0 0 95 [(0, .ref 268), (1, .ref r)] [.int (nI l), .ref r] (nx, ct, tkM mi n t i, ml, mr) (pR (ptR r nx ct mi ml mr n t 3 nI (.inr (l, i)))) := by
    intro l i hl
    refine ru_putI d_Rd_readLayer_95 lf_Rd_153 (ly_ru hL hr) rfl (fun q hq => by cases hq; exact Or.inl rfl) ⟨rfl, rfl⟩ ?_
    rw [tkM_u r6]
    refine ru_aload_n d_Rd_readLayer_98 rfl rfl ?_
    refine ru_getI d_Rd_readLayer_99 lf_Rd_153 (ly_ru hL hr) rfl ?_
    rw [tkM_r r6, rx_u_same]
    refine ru_iconst (v := (-1)) d_Rd_readLayer_102 (by decide) ?_
    refine ru_icmp_eq (tgt := 110) d_Rd_readLayer_103 (by decide) (fun h103 => absurd h103 (nI_m1 (by omega))) (fun h103 => ?_)
    refine ru_iconst (v := 1) d_Rd_readLayer_106 (by decide) ?_
    refine ru_goto (tgt := 111) d_Rd_readLayer_107 (by decide) ?_
    refine ru_zret (ty := .boolean) d_Rd_readLayer_111 rfl rfl ?_
    exact ⟨rfl, rfl⟩
  have tf : ∀ i : Nat, rx_W M_Rd_readLayer 6 0 0 95 [(0, .ref 268), (1, .ref r)] [.int (-1), .ref r] (nx, ct, tkM mi n t i, ml, mr) (pR (ptR (α := Nat) r nx ct mi ml mr n t 3 nI (.inl i))) := by
    intro i
    refine ru_putI d_Rd_readLayer_95 lf_Rd_153 (ly_ru hL hr) rfl (fun q hq => by cases hq; exact Or.inl rfl) ⟨rfl, rfl⟩ ?_
    rw [tkM_u r6]
    refine ru_aload_n d_Rd_readLayer_98 rfl rfl ?_
    refine ru_getI d_Rd_readLayer_99 lf_Rd_153 (ly_ru hL hr) rfl ?_
    rw [tkM_r r6, rx_u_same]
    refine ru_iconst (v := (-1)) d_Rd_readLayer_102 (by decide) ?_
    refine ru_icmp_eq (tgt := 110) d_Rd_readLayer_103 (by decide) (fun h103 => ?_) (fun h103 => absurd rfl h103)
    refine ru_iconst (v := 0) d_Rd_readLayer_110 (by decide) ?_
    refine ru_zret (ty := .boolean) d_Rd_readLayer_111 rfl rfl ?_
    exact fl_u h hr
  refine ru_aload_n d_Rd_readLayer_0 rfl rfl ?_
  refine ru_ldcS (tx := "on") (r := 36) d_Rd_readLayer_1 (List.mem_of_getElem? (i := 6) rfl) ?_
  refine ru_callV (mc := 0) (ms := 0) d_Rd_readLayer_3 lm_Rd_94 (cl_accept (s := 6) hL h.1 (by decide)) (rx_recv_is (ly hL 268 3 0) kx_Rd) (by decide) rfl (Nat.le_of_ble_eq_true rfl) ?_
  intro v τ h
  obtain ⟨rfl, rfl⟩ := h
  refine ru_if_ne (tgt := 11) d_Rd_readLayer_6 (by decide) (fun h6 => ?_) (fun h6 => ?_)
  · skip
    replace h6 := bI_ne0.mp h6
    rw [cnd_t h6, cnd_t h6]
    refine ru_aload_n d_Rd_readLayer_11 rfl rfl ?_
    refine ru_ldcS (tx := "layer") (r := 37) d_Rd_readLayer_12 (List.mem_of_getElem? (i := 7) rfl) ?_
    refine ru_callV (mc := 0) (ms := 0) d_Rd_readLayer_14 lm_Rd_94 (cl_accept (s := 7) hL h.1 (by decide)) (rx_recv_is (ly hL 268 3 0) kx_Rd) (by decide) rfl (Nat.le_of_ble_eq_true rfl) ?_
    intro v τ h
    obtain ⟨rfl, rfl⟩ := h
    refine ru_if_eq (tgt := 54) d_Rd_readLayer_17 (by decide) (fun h17 => ?_) (fun h17 => ?_)
    · skip
      replace h17 := bI_eq0.mp h17
      rw [cnd_f h17, cnd_f h17]
      refine ru_aload_n d_Rd_readLayer_54 rfl rfl ?_
      refine ru_aload_n d_Rd_readLayer_55 rfl rfl ?_
      refine ru_ldcS (tx := "top") (r := 38) d_Rd_readLayer_56 (List.mem_of_getElem? (i := 8) rfl) ?_
      refine ru_callV (mc := 0) (ms := 0) d_Rd_readLayer_58 lm_Rd_94 (cl_accept (s := 8) hL h.1 (by decide)) (rx_recv_is (ly hL 268 3 0) kx_Rd) (by decide) rfl (Nat.le_of_ble_eq_true rfl) ?_
      intro v τ h
      obtain ⟨rfl, rfl⟩ := h
      refine ru_if_eq (tgt := 68) d_Rd_readLayer_61 (by decide) (fun h61 => ?_) (fun h61 => ?_)
      · skip
        replace h61 := bI_eq0.mp h61
        rw [cnd_f h61, cnd_f h61]
        refine ru_aload_n d_Rd_readLayer_68 rfl rfl ?_
        refine ru_ldcS (tx := "bottom") (r := 39) d_Rd_readLayer_69 (List.mem_of_getElem? (i := 9) rfl) ?_
        refine ru_callV (mc := 0) (ms := 0) d_Rd_readLayer_71 lm_Rd_94 (cl_accept (s := 9) hL h.1 (by decide)) (rx_recv_is (ly hL 268 3 0) kx_Rd) (by decide) rfl (Nat.le_of_ble_eq_true rfl) ?_
        intro v τ h
        obtain ⟨rfl, rfl⟩ := h
        refine ru_if_eq (tgt := 81) d_Rd_readLayer_74 (by decide) (fun h74 => ?_) (fun h74 => ?_)
        · skip
          replace h74 := bI_eq0.mp h74
          rw [cnd_f h74, cnd_f h74]
          refine ru_aload_n d_Rd_readLayer_81 rfl rfl ?_
          refine ru_ldcS (tx := "inner") (r := 40) d_Rd_readLayer_82 (List.mem_of_getElem? (i := 10) rfl) ?_
          refine ru_callV (mc := 0) (ms := 0) d_Rd_readLayer_84 lm_Rd_94 (cl_accept (s := 10) hL h.1 (by decide)) (rx_recv_is (ly hL 268 3 0) kx_Rd) (by decide) rfl (Nat.le_of_ble_eq_true rfl) ?_
          intro v τ h
          obtain ⟨rfl, rfl⟩ := h
          refine ru_if_eq (tgt := 94) d_Rd_readLayer_87 (by decide) (fun h87 => ?_) (fun h87 => ?_)
          · skip
            replace h87 := bI_eq0.mp h87
            rw [cnd_f h87, cnd_f h87]
            refine ru_iconst (v := (-1)) d_Rd_readLayer_94 (by decide) ?_
            first | exact ru_to (tl 1 _ (by decide)) ⟨rfl, rfl, trivial⟩ | exact ru_to (tl 2 _ (by decide)) ⟨rfl, rfl, trivial⟩ | exact ru_to (tl 3 _ (by decide)) ⟨rfl, rfl, trivial⟩ | exact ru_to (tf _) ⟨rfl, rfl, trivial⟩
          · skip
            replace h87 := bI_ne0.mp h87
            rw [cnd_t h87, cnd_t h87]
            refine ru_iconst (v := 3) d_Rd_readLayer_90 (by decide) ?_
            refine ru_goto (tgt := 95) d_Rd_readLayer_91 (by decide) ?_
            first | exact ru_to (tl 1 _ (by decide)) ⟨rfl, rfl, trivial⟩ | exact ru_to (tl 2 _ (by decide)) ⟨rfl, rfl, trivial⟩ | exact ru_to (tl 3 _ (by decide)) ⟨rfl, rfl, trivial⟩ | exact ru_to (tf _) ⟨rfl, rfl, trivial⟩
        · skip
          replace h74 := bI_ne0.mp h74
          rw [cnd_t h74, cnd_t h74]
          refine ru_iconst (v := 2) d_Rd_readLayer_77 (by decide) ?_
          refine ru_goto (tgt := 95) d_Rd_readLayer_78 (by decide) ?_
          first | exact ru_to (tl 1 _ (by decide)) ⟨rfl, rfl, trivial⟩ | exact ru_to (tl 2 _ (by decide)) ⟨rfl, rfl, trivial⟩ | exact ru_to (tl 3 _ (by decide)) ⟨rfl, rfl, trivial⟩ | exact ru_to (tf _) ⟨rfl, rfl, trivial⟩
      · skip
        replace h61 := bI_ne0.mp h61
        rw [cnd_t h61, cnd_t h61]
        refine ru_iconst (v := 1) d_Rd_readLayer_64 (by decide) ?_
        refine ru_goto (tgt := 95) d_Rd_readLayer_65 (by decide) ?_
        first | exact ru_to (tl 1 _ (by decide)) ⟨rfl, rfl, trivial⟩ | exact ru_to (tl 2 _ (by decide)) ⟨rfl, rfl, trivial⟩ | exact ru_to (tl 3 _ (by decide)) ⟨rfl, rfl, trivial⟩ | exact ru_to (tf _) ⟨rfl, rfl, trivial⟩
    · skip
      replace h17 := bI_ne0.mp h17
      rw [cnd_t h17, cnd_t h17]
      exact ru_to (cl_layNum hL h hr (j + 2)) ⟨rfl, rfl, trivial⟩
  · skip
    replace h6 := bI_eq0.mp h6
    rw [cnd_f h6, cnd_f h6]
    refine ru_iconst (v := 1) d_Rd_readLayer_9 (by decide) ?_
    refine ru_zret (ty := .boolean) d_Rd_readLayer_10 rfl rfl ?_
    refine ⟨rfl, ?_⟩
    rw [show nI 0 = mi r 3 from h3.symm, rx_u_id]
end
