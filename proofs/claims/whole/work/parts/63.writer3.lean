/-! The class writes: all rules -/
theorem d_Wr_writeRules_0 : decode M_Wr_writeRules.2.1 0 = .ok (.aload_n 0, 1) := by decide +kernel
theorem d_Wr_writeRules_1 : decode M_Wr_writeRules.2.1 1 = .ok (.getfield 12, 3) := by decide +kernel
theorem d_Wr_writeRules_4 : decode M_Wr_writeRules.2.1 4 = .ok (.iconst 0, 1) := by decide +kernel
theorem d_Wr_writeRules_5 : decode M_Wr_writeRules.2.1 5 = .ok (.invokevirtual 22, 3) := by decide +kernel
theorem d_Wr_writeRules_8 : decode M_Wr_writeRules.2.1 8 = .ok (.iconst 0, 1) := by decide +kernel
theorem d_Wr_writeRules_9 : decode M_Wr_writeRules.2.1 9 = .ok (.istore_n 2, 1) := by decide +kernel
theorem d_Wr_writeRules_10 : decode M_Wr_writeRules.2.1 10 = .ok (.iload_n 2, 1) := by decide +kernel
theorem d_Wr_writeRules_11 : decode M_Wr_writeRules.2.1 11 = .ok (.aload_n 1, 1) := by decide +kernel
theorem d_Wr_writeRules_12 : decode M_Wr_writeRules.2.1 12 = .ok (.getfield 26, 3) := by decide +kernel
theorem d_Wr_writeRules_15 : decode M_Wr_writeRules.2.1 15 = .ok (.if_icmp .ge 19, 3) := by decide +kernel
theorem d_Wr_writeRules_18 : decode M_Wr_writeRules.2.1 18 = .ok (.aload_n 0, 1) := by decide +kernel
theorem d_Wr_writeRules_19 : decode M_Wr_writeRules.2.1 19 = .ok (.aload_n 1, 1) := by decide +kernel
theorem d_Wr_writeRules_20 : decode M_Wr_writeRules.2.1 20 = .ok (.getfield 32, 3) := by decide +kernel
theorem d_Wr_writeRules_23 : decode M_Wr_writeRules.2.1 23 = .ok (.iload_n 2, 1) := by decide +kernel
theorem d_Wr_writeRules_24 : decode M_Wr_writeRules.2.1 24 = .ok (.aaload, 1) := by decide +kernel
theorem d_Wr_writeRules_25 : decode M_Wr_writeRules.2.1 25 = .ok (.invokevirtual 36, 3) := by decide +kernel
theorem d_Wr_writeRules_28 : decode M_Wr_writeRules.2.1 28 = .ok (.iinc 2 1, 3) := by decide +kernel
theorem d_Wr_writeRules_31 : decode M_Wr_writeRules.2.1 31 = .ok (.goto (-21), 3) := by decide +kernel
theorem d_Wr_writeRules_34 : decode M_Wr_writeRules.2.1 34 = .ok (.return_, 1) := by decide +kernel
theorem d_Wr_writeScope_0 : decode M_Wr_writeScope.2.1 0 = .ok (.aload_n 1, 1) := by decide +kernel
theorem d_Wr_writeScope_1 : decode M_Wr_writeScope.2.1 1 = .ok (.invokevirtual 59, 3) := by decide +kernel
theorem d_Wr_writeScope_4 : decode M_Wr_writeScope.2.1 4 = .ok (.ifCond .ne 25, 3) := by decide +kernel
theorem d_Wr_writeScope_7 : decode M_Wr_writeScope.2.1 7 = .ok (.aload_n 0, 1) := by decide +kernel
theorem d_Wr_writeScope_8 : decode M_Wr_writeScope.2.1 8 = .ok (.getfield 12, 3) := by decide +kernel
theorem d_Wr_writeScope_11 : decode M_Wr_writeScope.2.1 11 = .ok (.aload_n 1, 1) := by decide +kernel
theorem d_Wr_writeScope_12 : decode M_Wr_writeScope.2.1 12 = .ok (.invokevirtual 86, 3) := by decide +kernel
theorem d_Wr_writeScope_15 : decode M_Wr_writeScope.2.1 15 = .ok (.ifCond .eq 8, 3) := by decide +kernel
theorem d_Wr_writeScope_18 : decode M_Wr_writeScope.2.1 18 = .ok (.ldc 89, 2) := by decide +kernel
theorem d_Wr_writeScope_20 : decode M_Wr_writeScope.2.1 20 = .ok (.goto 5, 3) := by decide +kernel
theorem d_Wr_writeScope_23 : decode M_Wr_writeScope.2.1 23 = .ok (.ldc 91, 2) := by decide +kernel
theorem d_Wr_writeScope_25 : decode M_Wr_writeScope.2.1 25 = .ok (.invokevirtual 52, 3) := by decide +kernel
theorem d_Wr_writeScope_28 : decode M_Wr_writeScope.2.1 28 = .ok (.pop, 1) := by decide +kernel
theorem d_Wr_writeScope_29 : decode M_Wr_writeScope.2.1 29 = .ok (.aload_n 0, 1) := by decide +kernel
theorem d_Wr_writeScope_30 : decode M_Wr_writeScope.2.1 30 = .ok (.aload_n 1, 1) := by decide +kernel
theorem d_Wr_writeScope_31 : decode M_Wr_writeScope.2.1 31 = .ok (.getfield 93, 3) := by decide +kernel
theorem d_Wr_writeScope_34 : decode M_Wr_writeScope.2.1 34 = .ok (.invokevirtual 96, 3) := by decide +kernel
theorem d_Wr_writeScope_37 : decode M_Wr_writeScope.2.1 37 = .ok (.aload_n 1, 1) := by decide +kernel
theorem d_Wr_writeScope_38 : decode M_Wr_writeScope.2.1 38 = .ok (.invokevirtual 86, 3) := by decide +kernel
theorem d_Wr_writeScope_41 : decode M_Wr_writeScope.2.1 41 = .ok (.ifCond .eq 21, 3) := by decide +kernel
theorem d_Wr_writeScope_44 : decode M_Wr_writeScope.2.1 44 = .ok (.aload_n 0, 1) := by decide +kernel
theorem d_Wr_writeScope_45 : decode M_Wr_writeScope.2.1 45 = .ok (.getfield 12, 3) := by decide +kernel
theorem d_Wr_writeScope_48 : decode M_Wr_writeScope.2.1 48 = .ok (.ldc 99, 2) := by decide +kernel
theorem d_Wr_writeScope_50 : decode M_Wr_writeScope.2.1 50 = .ok (.invokevirtual 52, 3) := by decide +kernel
theorem d_Wr_writeScope_53 : decode M_Wr_writeScope.2.1 53 = .ok (.pop, 1) := by decide +kernel
theorem d_Wr_writeScope_54 : decode M_Wr_writeScope.2.1 54 = .ok (.aload_n 0, 1) := by decide +kernel
theorem d_Wr_writeScope_55 : decode M_Wr_writeScope.2.1 55 = .ok (.aload_n 1, 1) := by decide +kernel
theorem d_Wr_writeScope_56 : decode M_Wr_writeScope.2.1 56 = .ok (.getfield 101, 3) := by decide +kernel
theorem d_Wr_writeScope_59 : decode M_Wr_writeScope.2.1 59 = .ok (.invokevirtual 96, 3) := by decide +kernel
theorem d_Wr_writeScope_62 : decode M_Wr_writeScope.2.1 62 = .ok (.return_, 1) := by decide +kernel
theorem d_Wr_writeSentence_0 : decode M_Wr_writeSentence.2.1 0 = .ok (.aload_n 0, 1) := by decide +kernel
theorem d_Wr_writeSentence_1 : decode M_Wr_writeSentence.2.1 1 = .ok (.getfield 12, 3) := by decide +kernel
theorem d_Wr_writeSentence_4 : decode M_Wr_writeSentence.2.1 4 = .ok (.aload_n 1, 1) := by decide +kernel
theorem d_Wr_writeSentence_5 : decode M_Wr_writeSentence.2.1 5 = .ok (.getfield 40, 3) := by decide +kernel
theorem d_Wr_writeSentence_8 : decode M_Wr_writeSentence.2.1 8 = .ok (.getfield 46, 3) := by decide +kernel
theorem d_Wr_writeSentence_11 : decode M_Wr_writeSentence.2.1 11 = .ok (.invokevirtual 52, 3) := by decide +kernel
theorem d_Wr_writeSentence_14 : decode M_Wr_writeSentence.2.1 14 = .ok (.pop, 1) := by decide +kernel
theorem d_Wr_writeSentence_15 : decode M_Wr_writeSentence.2.1 15 = .ok (.aload_n 0, 1) := by decide +kernel
theorem d_Wr_writeSentence_16 : decode M_Wr_writeSentence.2.1 16 = .ok (.aload_n 1, 1) := by decide +kernel
theorem d_Wr_writeSentence_17 : decode M_Wr_writeSentence.2.1 17 = .ok (.invokevirtual 56, 3) := by decide +kernel
theorem d_Wr_writeSentence_20 : decode M_Wr_writeSentence.2.1 20 = .ok (.aload_n 1, 1) := by decide +kernel
theorem d_Wr_writeSentence_21 : decode M_Wr_writeSentence.2.1 21 = .ok (.invokevirtual 59, 3) := by decide +kernel
theorem d_Wr_writeSentence_24 : decode M_Wr_writeSentence.2.1 24 = .ok (.ifCond .ne 32, 3) := by decide +kernel
theorem d_Wr_writeSentence_27 : decode M_Wr_writeSentence.2.1 27 = .ok (.aload_n 0, 1) := by decide +kernel
theorem d_Wr_writeSentence_28 : decode M_Wr_writeSentence.2.1 28 = .ok (.aload_n 1, 1) := by decide +kernel
theorem d_Wr_writeSentence_29 : decode M_Wr_writeSentence.2.1 29 = .ok (.getfield 63, 3) := by decide +kernel
theorem d_Wr_writeSentence_32 : decode M_Wr_writeSentence.2.1 32 = .ok (.invokevirtual 66, 3) := by decide +kernel
theorem d_Wr_writeSentence_35 : decode M_Wr_writeSentence.2.1 35 = .ok (.aload_n 0, 1) := by decide +kernel
theorem d_Wr_writeSentence_36 : decode M_Wr_writeSentence.2.1 36 = .ok (.aload_n 1, 1) := by decide +kernel
theorem d_Wr_writeSentence_37 : decode M_Wr_writeSentence.2.1 37 = .ok (.getfield 69, 3) := by decide +kernel
theorem d_Wr_writeSentence_40 : decode M_Wr_writeSentence.2.1 40 = .ok (.invokevirtual 72, 3) := by decide +kernel
theorem d_Wr_writeSentence_43 : decode M_Wr_writeSentence.2.1 43 = .ok (.aload_n 0, 1) := by decide +kernel
theorem d_Wr_writeSentence_44 : decode M_Wr_writeSentence.2.1 44 = .ok (.aload_n 1, 1) := by decide +kernel
theorem d_Wr_writeSentence_45 : decode M_Wr_writeSentence.2.1 45 = .ok (.getfield 75, 3) := by decide +kernel
theorem d_Wr_writeSentence_48 : decode M_Wr_writeSentence.2.1 48 = .ok (.invokevirtual 78, 3) := by decide +kernel
theorem d_Wr_writeSentence_51 : decode M_Wr_writeSentence.2.1 51 = .ok (.aload_n 0, 1) := by decide +kernel
theorem d_Wr_writeSentence_52 : decode M_Wr_writeSentence.2.1 52 = .ok (.aload_n 1, 1) := by decide +kernel
theorem d_Wr_writeSentence_53 : decode M_Wr_writeSentence.2.1 53 = .ok (.invokevirtual 81, 3) := by decide +kernel
theorem d_Wr_writeSentence_56 : decode M_Wr_writeSentence.2.1 56 = .ok (.aload_n 0, 1) := by decide +kernel
theorem d_Wr_writeSentence_57 : decode M_Wr_writeSentence.2.1 57 = .ok (.getfield 12, 3) := by decide +kernel
theorem d_Wr_writeSentence_60 : decode M_Wr_writeSentence.2.1 60 = .ok (.ldc 84, 2) := by decide +kernel
theorem d_Wr_writeSentence_62 : decode M_Wr_writeSentence.2.1 62 = .ok (.invokevirtual 52, 3) := by decide +kernel
theorem d_Wr_writeSentence_65 : decode M_Wr_writeSentence.2.1 65 = .ok (.pop, 1) := by decide +kernel
theorem d_Wr_writeSentence_66 : decode M_Wr_writeSentence.2.1 66 = .ok (.return_, 1) := by decide +kernel
noncomputable def sco (N : nmS) (q : ruS) : List Int32 := (if q.1 = 12 then [] else if q.1 = 0 then rx_tx 26 else rx_tx 27) ++ (wTh N q.2.1.1 ++ (if q.1 = 0 ∨ q.1 = 12 then rx_tx 31 ++ wTh N q.2.1.2 else []))
section
variable {nx c0 : Nat} {ct : Nat → Nat × Nat} {mi : Nat → Nat → Int32} {ml : Nat → Nat → Int64} {mr : Nat → Nat → Option Nat} {l : List Int32} {vb r : Nat} {N : nmS} {q : ruS}
theorem w_scope (hO : NmOK N) (hr : isRu r) (hL : LAY nx ct mr) (h : SbI nx ct mi mr vb l (cp c0 l.length)) (hN : NmC N mi) (hq : clI mi ml mr r q) (ho : ruOK q) (hm3 : cp c0 (l ++ sco N q).length ≤ 200000) : WC c0 y_Wr_writeScope M_Wr_writeScope 8 [.ref 271, .ref r] none nx ct mi ml mr l (sco N q) := by
  unfold WC
  refine rx_enter (by decide) rfl rfl (Nat.le_of_ble_eq_true rfl) ?_
  by_cases k12 : q.1 = 12
  · have e : l ++ sco N q = l ++ wTh N q.2.1.1 ++ rx_tx 31 ++ wTh N q.2.1.2 := by
      unfold sco
      rw [if_pos k12, if_pos (Or.inr k12), List.nil_append]
      simp only [List.append_assoc]
    rw [e] at hm3 ⊢
    refine ru_aload_n d_Wr_writeScope_0 rfl rfl ?_
    refine ru_mcs (Nat.zero_add _).symm (Nat.zero_add _).symm ?_
    refine ru_callV (mc := _) (ms := _) d_Wr_writeScope_1 lm_Wr_59 (cl_isWaiver hL hr hq.1 ho.1) (rx_recv_is (ly_ru hL hr) kx_Ru) (by decide) rfl (Nat.le_of_ble_eq_true rfl) ?_
    intro v τ h
    obtain ⟨rfl, rfl⟩ := h
    refine ru_if_ne (tgt := 29) d_Wr_writeScope_4 (by decide) (fun h4 => ?_) (fun h4 => absurd h4 (bI_ne0.mpr k12))
    refine ru_aload_n d_Wr_writeScope_29 rfl rfl ?_
    refine ru_aload_n d_Wr_writeScope_30 rfl rfl ?_
    refine ru_getI d_Wr_writeScope_31 lf_Wr_93 (ly_ru hL hr) rfl ?_
    refine ru_eqi hq.2.1.1 ?_
    refine ru_appV d_Wr_writeScope_34 lm_Wr_96 (w_thing hO ho.2.1.1 hL h hN (Nat.le_trans (cp_mono (Nat.le_trans (len_app _ _) (len_app _ _))) hm3)) (rx_recv_is (ly hL 271 8 0) kx_Wr) (by decide) rfl (Nat.le_of_ble_eq_true rfl) (Nat.le_trans (len_app _ _) (len_app _ _)) ?_
    intro nx1 ct1 m1 l1 r1 vb1 f1 hL1 s1
    have q1 := hq.fr hr f1
    skip
    refine ru_aload_n d_Wr_writeScope_37 rfl rfl ?_
    refine ru_mcs (Nat.zero_add _).symm (Nat.zero_add _).symm ?_
    refine ru_callV (mc := _) (ms := _) d_Wr_writeScope_38 lm_Wr_86 (cl_isOfTwo hL1 hr q1.1 ho.1) (rx_recv_is (ly_ru hL1 hr) kx_Ru) (by decide) rfl (Nat.le_of_ble_eq_true rfl) ?_
    intro v τ h
    obtain ⟨rfl, rfl⟩ := h
    refine ru_if_eq (tgt := 62) d_Wr_writeScope_41 (by decide) (fun h41 => absurd h41 (bI_ne0.mpr (Or.inr k12))) (fun h41 => ?_)
    refine ru_aload_n d_Wr_writeScope_44 rfl rfl ?_
    refine ru_getR d_Wr_writeScope_45 lf_Wr_12 (ly hL1 271 8 0) rfl (lr hL1 271 0 272) ?_
    refine ru_ldcS (tx := " and") (r := 61) d_Wr_writeScope_48 (List.mem_of_getElem? (i := 31) rfl) ?_
    refine ru_appV d_Wr_writeScope_50 lm_Wr_52 (w_S (s := 31) hL1 s1 (by decide) (by decide) (Nat.le_trans (cp_mono (len_app _ _)) hm3)) (rx_recv_is (ly hL1 272 10 0) kx_SB) (by decide) rfl (Nat.le_of_ble_eq_true rfl) (len_app _ _) ?_
    intro nx2 ct2 m2 l2 r2 vb2 f2 hL2 s2
    have q2 := q1.fr hr f2
    refine ru_pop d_Wr_writeScope_53 rfl ?_
    skip
    refine ru_aload_n d_Wr_writeScope_54 rfl rfl ?_
    refine ru_aload_n d_Wr_writeScope_55 rfl rfl ?_
    refine ru_getI d_Wr_writeScope_56 lf_Wr_101 (ly_ru hL2 hr) rfl ?_
    refine ru_eqi q2.2.1.2 ?_
    refine ru_appV d_Wr_writeScope_59 lm_Wr_96 (w_thing hO ho.2.1.2 hL2 s2 ((hN.fr f1).fr f2) hm3) (rx_recv_is (ly hL2 271 8 0) kx_Wr) (by decide) rfl (Nat.le_of_ble_eq_true rfl) (Nat.le_refl _) ?_
    intro nx3 ct3 m3 l3 r3 vb3 f3 hL3 s3
    refine ru_vret d_Wr_writeScope_62 rfl ?_
    exact ⟨rfl, _, _, _, _, _, vb3, rfl, (f1.trans f2).trans f3, hL3, s3⟩
  · by_cases k0 : q.1 = 0
    · have e : l ++ sco N q = l ++ rx_tx 26 ++ wTh N q.2.1.1 ++ rx_tx 31 ++ wTh N q.2.1.2 := by
        unfold sco
        rw [if_neg k12, if_pos k0, if_pos (Or.inl k0)]
        simp only [List.append_assoc]
      rw [e] at hm3 ⊢
      refine ru_aload_n d_Wr_writeScope_0 rfl rfl ?_
      refine ru_mcs (Nat.zero_add _).symm (Nat.zero_add _).symm ?_
      refine ru_callV (mc := _) (ms := _) d_Wr_writeScope_1 lm_Wr_59 (cl_isWaiver hL hr hq.1 ho.1) (rx_recv_is (ly_ru hL hr) kx_Ru) (by decide) rfl (Nat.le_of_ble_eq_true rfl) ?_
      intro v τ h
      obtain ⟨rfl, rfl⟩ := h
      refine ru_if_ne (tgt := 29) d_Wr_writeScope_4 (by decide) (fun h4 => absurd (bI_f k12) h4) (fun h4 => ?_)
      refine ru_aload_n d_Wr_writeScope_7 rfl rfl ?_
      refine ru_getR d_Wr_writeScope_8 lf_Wr_12 (ly hL 271 8 0) rfl (lr hL 271 0 272) ?_
      refine ru_aload_n d_Wr_writeScope_11 rfl rfl ?_
      refine ru_mcs (Nat.zero_add _).symm (Nat.zero_add _).symm ?_
      refine ru_callV (mc := _) (ms := _) d_Wr_writeScope_12 lm_Wr_86 (cl_isOfTwo hL hr hq.1 ho.1) (rx_recv_is (ly_ru hL hr) kx_Ru) (by decide) rfl (Nat.le_of_ble_eq_true rfl) ?_
      intro v τ h
      obtain ⟨rfl, rfl⟩ := h
      refine ru_if_eq (tgt := 23) d_Wr_writeScope_15 (by decide) (fun h15 => absurd h15 (bI_ne0.mpr (Or.inl k0))) (fun h15 => ?_)
      refine ru_ldcS (tx := " between") (r := 56) d_Wr_writeScope_18 (List.mem_of_getElem? (i := 26) rfl) ?_
      refine ru_goto (tgt := 25) d_Wr_writeScope_20 (by decide) ?_
      refine ru_appV d_Wr_writeScope_25 lm_Wr_52 (w_S (s := 26) hL h (by decide) (by decide) (Nat.le_trans (cp_mono (Nat.le_trans (len_app _ _) (Nat.le_trans (len_app _ _) (len_app _ _)))) hm3)) (rx_recv_is (ly hL 272 10 0) kx_SB) (by decide) rfl (Nat.le_of_ble_eq_true rfl) (Nat.le_trans (len_app _ _) (Nat.le_trans (len_app _ _) (len_app _ _))) ?_
      intro nx0 ct0 m0 l0 r0 vb0 f0 hL0 s0
      have q0 := hq.fr hr f0
      refine ru_pop d_Wr_writeScope_28 rfl ?_
      skip
      refine ru_aload_n d_Wr_writeScope_29 rfl rfl ?_
      refine ru_aload_n d_Wr_writeScope_30 rfl rfl ?_
      refine ru_getI d_Wr_writeScope_31 lf_Wr_93 (ly_ru hL0 hr) rfl ?_
      refine ru_eqi q0.2.1.1 ?_
      refine ru_appV d_Wr_writeScope_34 lm_Wr_96 (w_thing hO ho.2.1.1 hL0 s0 (hN.fr f0) (Nat.le_trans (cp_mono (Nat.le_trans (len_app _ _) (len_app _ _))) hm3)) (rx_recv_is (ly hL0 271 8 0) kx_Wr) (by decide) rfl (Nat.le_of_ble_eq_true rfl) (Nat.le_trans (len_app _ _) (len_app _ _)) ?_
      intro nx1 ct1 m1 l1 r1 vb1 f1 hL1 s1
      have q1 := q0.fr hr f1
      skip
      refine ru_aload_n d_Wr_writeScope_37 rfl rfl ?_
      refine ru_mcs (Nat.zero_add _).symm (Nat.zero_add _).symm ?_
      refine ru_callV (mc := _) (ms := _) d_Wr_writeScope_38 lm_Wr_86 (cl_isOfTwo hL1 hr q1.1 ho.1) (rx_recv_is (ly_ru hL1 hr) kx_Ru) (by decide) rfl (Nat.le_of_ble_eq_true rfl) ?_
      intro v τ h
      obtain ⟨rfl, rfl⟩ := h
      refine ru_if_eq (tgt := 62) d_Wr_writeScope_41 (by decide) (fun h41 => absurd h41 (bI_ne0.mpr (Or.inl k0))) (fun h41 => ?_)
      refine ru_aload_n d_Wr_writeScope_44 rfl rfl ?_
      refine ru_getR d_Wr_writeScope_45 lf_Wr_12 (ly hL1 271 8 0) rfl (lr hL1 271 0 272) ?_
      refine ru_ldcS (tx := " and") (r := 61) d_Wr_writeScope_48 (List.mem_of_getElem? (i := 31) rfl) ?_
      refine ru_appV d_Wr_writeScope_50 lm_Wr_52 (w_S (s := 31) hL1 s1 (by decide) (by decide) (Nat.le_trans (cp_mono (len_app _ _)) hm3)) (rx_recv_is (ly hL1 272 10 0) kx_SB) (by decide) rfl (Nat.le_of_ble_eq_true rfl) (len_app _ _) ?_
      intro nx2 ct2 m2 l2 r2 vb2 f2 hL2 s2
      have q2 := q1.fr hr f2
      refine ru_pop d_Wr_writeScope_53 rfl ?_
      skip
      refine ru_aload_n d_Wr_writeScope_54 rfl rfl ?_
      refine ru_aload_n d_Wr_writeScope_55 rfl rfl ?_
      refine ru_getI d_Wr_writeScope_56 lf_Wr_101 (ly_ru hL2 hr) rfl ?_
      refine ru_eqi q2.2.1.2 ?_
      refine ru_appV d_Wr_writeScope_59 lm_Wr_96 (w_thing hO ho.2.1.2 hL2 s2 (((hN.fr f0).fr f1).fr f2) hm3) (rx_recv_is (ly hL2 271 8 0) kx_Wr) (by decide) rfl (Nat.le_of_ble_eq_true rfl) (Nat.le_refl _) ?_
      intro nx3 ct3 m3 l3 r3 vb3 f3 hL3 s3
      refine ru_vret d_Wr_writeScope_62 rfl ?_
      exact ⟨rfl, _, _, _, _, _, vb3, rfl, ((f0.trans f1).trans f2).trans f3, hL3, s3⟩
    · have n2 : ¬ (q.1 = 0 ∨ q.1 = 12) := fun z => z.elim k0 k12
      have e : l ++ sco N q = l ++ rx_tx 27 ++ wTh N q.2.1.1 := by
        unfold sco
        rw [if_neg k12, if_neg k0, if_neg n2, List.append_nil]
        simp only [List.append_assoc]
      rw [e] at hm3 ⊢
      refine ru_aload_n d_Wr_writeScope_0 rfl rfl ?_
      refine ru_mcs (Nat.zero_add _).symm (Nat.zero_add _).symm ?_
      refine ru_callV (mc := _) (ms := _) d_Wr_writeScope_1 lm_Wr_59 (cl_isWaiver hL hr hq.1 ho.1) (rx_recv_is (ly_ru hL hr) kx_Ru) (by decide) rfl (Nat.le_of_ble_eq_true rfl) ?_
      intro v τ h
      obtain ⟨rfl, rfl⟩ := h
      refine ru_if_ne (tgt := 29) d_Wr_writeScope_4 (by decide) (fun h4 => absurd (bI_f k12) h4) (fun h4 => ?_)
      refine ru_aload_n d_Wr_writeScope_7 rfl rfl ?_
      refine ru_getR d_Wr_writeScope_8 lf_Wr_12 (ly hL 271 8 0) rfl (lr hL 271 0 272) ?_
      refine ru_aload_n d_Wr_writeScope_11 rfl rfl ?_
      refine ru_mcs (Nat.zero_add _).symm (Nat.zero_add _).symm ?_
      refine ru_callV (mc := _) (ms := _) d_Wr_writeScope_12 lm_Wr_86 (cl_isOfTwo hL hr hq.1 ho.1) (rx_recv_is (ly_ru hL hr) kx_Ru) (by decide) rfl (Nat.le_of_ble_eq_true rfl) ?_
      intro v τ h
      obtain ⟨rfl, rfl⟩ := h
      refine ru_if_eq (tgt := 23) d_Wr_writeScope_15 (by decide) (fun h15 => ?_) (fun h15 => absurd (bI_f n2) h15)
      refine ru_ldcS (tx := " of") (r := 57) d_Wr_writeScope_23 (List.mem_of_getElem? (i := 27) rfl) ?_
      refine ru_appV d_Wr_writeScope_25 lm_Wr_52 (w_S (s := 27) hL h (by decide) (by decide) (Nat.le_trans (cp_mono (len_app _ _)) hm3)) (rx_recv_is (ly hL 272 10 0) kx_SB) (by decide) rfl (Nat.le_of_ble_eq_true rfl) (len_app _ _) ?_
      intro nx0 ct0 m0 l0 r0 vb0 f0 hL0 s0
      have q0 := hq.fr hr f0
      refine ru_pop d_Wr_writeScope_28 rfl ?_
      skip
      refine ru_aload_n d_Wr_writeScope_29 rfl rfl ?_
      refine ru_aload_n d_Wr_writeScope_30 rfl rfl ?_
      refine ru_getI d_Wr_writeScope_31 lf_Wr_93 (ly_ru hL0 hr) rfl ?_
      refine ru_eqi q0.2.1.1 ?_
      refine ru_appV d_Wr_writeScope_34 lm_Wr_96 (w_thing hO ho.2.1.1 hL0 s0 (hN.fr f0) hm3) (rx_recv_is (ly hL0 271 8 0) kx_Wr) (by decide) rfl (Nat.le_of_ble_eq_true rfl) (Nat.le_refl _) ?_
      intro nx1 ct1 m1 l1 r1 vb1 f1 hL1 s1
      have q1 := q0.fr hr f1
      skip
      refine ru_aload_n d_Wr_writeScope_37 rfl rfl ?_
      refine ru_mcs (Nat.zero_add _).symm (Nat.zero_add _).symm ?_
      refine ru_callV (mc := _) (ms := _) d_Wr_writeScope_38 lm_Wr_86 (cl_isOfTwo hL1 hr q1.1 ho.1) (rx_recv_is (ly_ru hL1 hr) kx_Ru) (by decide) rfl (Nat.le_of_ble_eq_true rfl) ?_
      intro v τ h
      obtain ⟨rfl, rfl⟩ := h
      refine ru_if_eq (tgt := 62) d_Wr_writeScope_41 (by decide) (fun h41 => ?_) (fun h41 => absurd (bI_f n2) h41)
      refine ru_vret d_Wr_writeScope_62 rfl ?_
      exact ⟨rfl, _, _, _, _, _, vb1, rfl, f0.trans f1, hL1, s1⟩
theorem kw_18 : ∀ i, i < 13 → rx_sl (rx_kw i - 30) ≤ 18 := by decide +kernel
theorem wRu_eq : wRu N q = rx_tx (rx_kw q.1 - 30) ++ (sco N q ++ ((if q.1 = 12 then [] else wRes N q.1 (q.2.2.1, q.2.2.2.1, q.2.2.2.2.1, q.2.2.2.2.2.1)) ++ rx_tx 42)) := by
  unfold wRu sco
  rw [tx_v.2.2.2.2.2.2, tx_w.1, tx_w.2.1, tx_w.2.2.2.2.2]
  simp only [List.append_assoc]
theorem w_sentence (hO : NmOK N) (hr : isRu r) (hL : LAY nx ct mr) (h : SbI nx ct mi mr vb l (cp c0 l.length)) (hN : NmC N mi) (hq : clI mi ml mr r q) (ho : ruOK q) (hm3 : cp c0 (l ++ wRu N q).length ≤ 200000) : WC c0 y_Wr_writeSentence M_Wr_writeSentence 9 [.ref 271, .ref r] none nx ct mi ml mr l (wRu N q) := by
  unfold WC
  refine rx_enter (by decide) rfl rfl (Nat.le_of_ble_eq_true rfl) ?_
  have kw := kw_30 q.1 ho.1
  have k18 := kw_18 q.1 ho.1
  rw [wRu_eq] at hm3 ⊢
  by_cases k12 : q.1 = 12
  · have e : l ++ (rx_tx (rx_kw q.1 - 30) ++ (sco N q ++ ((if q.1 = 12 then [] else wRes N q.1 (q.2.2.1, q.2.2.2.1, q.2.2.2.2.1, q.2.2.2.2.2.1)) ++ rx_tx 42))) = l ++ rx_tx (rx_kw q.1 - 30) ++ sco N q ++ rx_tx 42 := by
      rw [if_pos k12, List.nil_append]
      simp only [List.append_assoc]
    rw [e] at hm3 ⊢
    refine ru_aload_n d_Wr_writeSentence_0 rfl rfl ?_
    refine ru_getR d_Wr_writeSentence_1 lf_Wr_12 (ly hL 271 8 0) rfl (lr hL 271 0 272) ?_
    refine ru_aload_n d_Wr_writeSentence_4 rfl rfl ?_
    refine ru_getR d_Wr_writeSentence_5 lf_Wr_40 (ly_ru hL hr) rfl hq.1 ?_
    refine ru_getO (v := .ref ((rx_kw q.1))) d_Wr_writeSentence_8 (rx_in (tm_6 (List.mem_of_getElem? (i := 183) rfl)) rfl) (fun ev U h => (h.2.1 q.1 ho.1).2.1) ?_
    refine ru_eqv (show Value.ref (rx_kw q.1) = .ref (30 + (rx_kw q.1 - 30)) by rw [← kw.1]) ?_
    refine ru_appV d_Wr_writeSentence_11 lm_Wr_52 (w_S hL h kw.2 k18 (Nat.le_trans (cp_mono (Nat.le_trans (len_app _ _) (len_app _ _))) hm3)) (rx_recv_is (ly hL 272 10 0) kx_SB) (by decide) rfl (Nat.le_of_ble_eq_true rfl) (Nat.le_trans (len_app _ _) (len_app _ _)) ?_
    intro nx1 ct1 m1 l1 r1 vb1 f1 hL1 s1
    have q1 := hq.fr hr f1
    refine ru_pop d_Wr_writeSentence_14 rfl ?_
    skip
    refine ru_aload_n d_Wr_writeSentence_15 rfl rfl ?_
    refine ru_aload_n d_Wr_writeSentence_16 rfl rfl ?_
    refine ru_appV d_Wr_writeSentence_17 lm_Wr_56 (w_scope hO hr hL1 s1 (hN.fr f1) q1 ho (Nat.le_trans (cp_mono (len_app _ _)) hm3)) (rx_recv_is (ly hL1 271 8 0) kx_Wr) (by decide) rfl (Nat.le_of_ble_eq_true rfl) (len_app _ _) ?_
    intro nx2 ct2 m2 l2 r2 vb2 f2 hL2 s2
    have q2 := q1.fr hr f2
    skip
    refine ru_aload_n d_Wr_writeSentence_20 rfl rfl ?_
    refine ru_mcs (Nat.zero_add _).symm (Nat.zero_add _).symm ?_
    refine ru_callV (mc := _) (ms := _) d_Wr_writeSentence_21 lm_Wr_59 (cl_isWaiver hL2 hr q2.1 ho.1) (rx_recv_is (ly_ru hL2 hr) kx_Ru) (by decide) rfl (Nat.le_of_ble_eq_true rfl) ?_
    intro v τ h
    obtain ⟨rfl, rfl⟩ := h
    refine ru_if_ne (tgt := 56) d_Wr_writeSentence_24 (by decide) (fun h24 => ?_) (fun h24 => absurd h24 (bI_ne0.mpr k12))
    refine ru_aload_n d_Wr_writeSentence_56 rfl rfl ?_
    refine ru_getR d_Wr_writeSentence_57 lf_Wr_12 (ly hL2 271 8 0) rfl (lr hL2 271 0 272) ?_
    refine ru_ldcS (tx := " ;\n") (r := 72) d_Wr_writeSentence_60 (List.mem_of_getElem? (i := 42) rfl) ?_
    refine ru_appV d_Wr_writeSentence_62 lm_Wr_52 (w_S (s := 42) hL2 s2 (by decide) (by decide) hm3) (rx_recv_is (ly hL2 272 10 0) kx_SB) (by decide) rfl (Nat.le_of_ble_eq_true rfl) (Nat.le_refl _) ?_
    intro nx3 ct3 m3 l3 r3 vb3 f3 hL3 s3
    refine ru_pop d_Wr_writeSentence_65 rfl ?_
    refine ru_vret d_Wr_writeSentence_66 rfl ?_
    exact ⟨rfl, _, _, _, _, _, vb3, rfl, (f1.trans f2).trans f3, hL3, s3⟩
  · have e : l ++ (rx_tx (rx_kw q.1 - 30) ++ (sco N q ++ ((if q.1 = 12 then [] else wRes N q.1 (q.2.2.1, q.2.2.2.1, q.2.2.2.2.1, q.2.2.2.2.2.1)) ++ rx_tx 42))) = l ++ rx_tx (rx_kw q.1 - 30) ++ sco N q ++ wLay q.2.2.1 ++ wAre N q.2.2.2.1 ++ wRnk q.2.2.2.2.1 ++ (wEnd q.2.2.2.2.2.1 ++ wUn q.1) ++ rx_tx 42 := by
      rw [if_neg k12]
      unfold wRes
      simp only [List.append_assoc]
    rw [e] at hm3 ⊢
    have la : ∀ (x y z : List Int32), x.length ≤ y.length → x.length ≤ (y ++ z).length := fun x y z a => Nat.le_trans a (len_app _ _)
    refine ru_aload_n d_Wr_writeSentence_0 rfl rfl ?_
    refine ru_getR d_Wr_writeSentence_1 lf_Wr_12 (ly hL 271 8 0) rfl (lr hL 271 0 272) ?_
    refine ru_aload_n d_Wr_writeSentence_4 rfl rfl ?_
    refine ru_getR d_Wr_writeSentence_5 lf_Wr_40 (ly_ru hL hr) rfl hq.1 ?_
    refine ru_getO (v := .ref ((rx_kw q.1))) d_Wr_writeSentence_8 (rx_in (tm_6 (List.mem_of_getElem? (i := 183) rfl)) rfl) (fun ev U h => (h.2.1 q.1 ho.1).2.1) ?_
    refine ru_eqv (show Value.ref (rx_kw q.1) = .ref (30 + (rx_kw q.1 - 30)) by rw [← kw.1]) ?_
    refine ru_appV d_Wr_writeSentence_11 lm_Wr_52 (w_S hL h kw.2 k18 (Nat.le_trans (cp_mono (la _ _ _ (la _ _ _ (la _ _ _ (la _ _ _ (la _ _ _ (len_app _ _))))))) hm3)) (rx_recv_is (ly hL 272 10 0) kx_SB) (by decide) rfl (Nat.le_of_ble_eq_true rfl) (la _ _ _ (la _ _ _ (la _ _ _ (la _ _ _ (la _ _ _ (len_app _ _)))))) ?_
    intro nx1 ct1 m1 l1 r1 vb1 f1 hL1 s1
    have q1 := hq.fr hr f1
    refine ru_pop d_Wr_writeSentence_14 rfl ?_
    skip
    refine ru_aload_n d_Wr_writeSentence_15 rfl rfl ?_
    refine ru_aload_n d_Wr_writeSentence_16 rfl rfl ?_
    refine ru_appV d_Wr_writeSentence_17 lm_Wr_56 (w_scope hO hr hL1 s1 (hN.fr f1) q1 ho (Nat.le_trans (cp_mono (la _ _ _ (la _ _ _ (la _ _ _ (la _ _ _ (len_app _ _)))))) hm3)) (rx_recv_is (ly hL1 271 8 0) kx_Wr) (by decide) rfl (Nat.le_of_ble_eq_true rfl) (la _ _ _ (la _ _ _ (la _ _ _ (la _ _ _ (len_app _ _))))) ?_
    intro nx2 ct2 m2 l2 r2 vb2 f2 hL2 s2
    have q2 := q1.fr hr f2
    skip
    refine ru_aload_n d_Wr_writeSentence_20 rfl rfl ?_
    refine ru_mcs (Nat.zero_add _).symm (Nat.zero_add _).symm ?_
    refine ru_callV (mc := _) (ms := _) d_Wr_writeSentence_21 lm_Wr_59 (cl_isWaiver hL2 hr q2.1 ho.1) (rx_recv_is (ly_ru hL2 hr) kx_Ru) (by decide) rfl (Nat.le_of_ble_eq_true rfl) ?_
    intro v τ h
    obtain ⟨rfl, rfl⟩ := h
    refine ru_if_ne (tgt := 56) d_Wr_writeSentence_24 (by decide) (fun h24 => absurd (bI_f k12) h24) (fun h24 => ?_)
    refine ru_aload_n d_Wr_writeSentence_27 rfl rfl ?_
    refine ru_aload_n d_Wr_writeSentence_28 rfl rfl ?_
    refine ru_getI d_Wr_writeSentence_29 lf_Wr_63 (ly_ru hL2 hr) rfl ?_
    refine ru_eqi q2.2.2.1 ?_
    refine ru_appV d_Wr_writeSentence_32 lm_Wr_66 (w_layer ho.2.2.1 hL2 s2 (Nat.le_trans (cp_mono (la _ _ _ (la _ _ _ (la _ _ _ (len_app _ _))))) hm3)) (rx_recv_is (ly hL2 271 8 0) kx_Wr) (by decide) rfl (Nat.le_of_ble_eq_true rfl) (la _ _ _ (la _ _ _ (la _ _ _ (len_app _ _)))) ?_
    intro nx3 ct3 m3 l3 r3 vb3 f3 hL3 s3
    have q3 := q2.fr hr f3
    skip
    refine ru_aload_n d_Wr_writeSentence_35 rfl rfl ?_
    refine ru_aload_n d_Wr_writeSentence_36 rfl rfl ?_
    refine ru_getI d_Wr_writeSentence_37 lf_Wr_69 (ly_ru hL3 hr) rfl ?_
    refine ru_eqi q3.2.2.2.1 ?_
    refine ru_appV d_Wr_writeSentence_40 lm_Wr_72 (w_area hO ho.2.2.2.1 hL3 s3 (((hN.fr f1).fr f2).fr f3) (Nat.le_trans (cp_mono (la _ _ _ (la _ _ _ (len_app _ _)))) hm3)) (rx_recv_is (ly hL3 271 8 0) kx_Wr) (by decide) rfl (Nat.le_of_ble_eq_true rfl) (la _ _ _ (la _ _ _ (len_app _ _))) ?_
    intro nx4 ct4 m4 l4 r4 vb4 f4 hL4 s4
    have q4 := q3.fr hr f4
    skip
    refine ru_aload_n d_Wr_writeSentence_43 rfl rfl ?_
    refine ru_aload_n d_Wr_writeSentence_44 rfl rfl ?_
    refine ru_getI d_Wr_writeSentence_45 lf_Wr_75 (ly_ru hL4 hr) rfl ?_
    refine ru_eqi q4.2.2.2.2.1 ?_
    refine ru_appV d_Wr_writeSentence_48 lm_Wr_78 (w_rank ho.2.2.2.2.1 hL4 s4 (Nat.le_trans (cp_mono (la _ _ _ (len_app _ _))) hm3)) (rx_recv_is (ly hL4 271 8 0) kx_Wr) (by decide) rfl (Nat.le_of_ble_eq_true rfl) (la _ _ _ (len_app _ _)) ?_
    intro nx5 ct5 m5 l5 r5 vb5 f5 hL5 s5
    have q5 := q4.fr hr f5
    skip
    refine ru_aload_n d_Wr_writeSentence_51 rfl rfl ?_
    refine ru_aload_n d_Wr_writeSentence_52 rfl rfl ?_
    refine ru_appV d_Wr_writeSentence_53 lm_Wr_81 (w_span (ho.2.2.2.2.2.1 k12) ho.1 hr hL5 s5 q5.1 q5.2.2.2.2.2.1.1 q5.2.2.2.2.2.1.2 (Nat.le_trans (cp_mono (len_app _ _)) hm3)) (rx_recv_is (ly hL5 271 8 0) kx_Wr) (by decide) rfl (Nat.le_of_ble_eq_true rfl) (len_app _ _) ?_
    intro nx6 ct6 m6 l6 r6 vb6 f6 hL6 s6
    refine ru_aload_n d_Wr_writeSentence_56 rfl rfl ?_
    refine ru_getR d_Wr_writeSentence_57 lf_Wr_12 (ly hL6 271 8 0) rfl (lr hL6 271 0 272) ?_
    refine ru_ldcS (tx := " ;\n") (r := 72) d_Wr_writeSentence_60 (List.mem_of_getElem? (i := 42) rfl) ?_
    refine ru_appV d_Wr_writeSentence_62 lm_Wr_52 (w_S (s := 42) hL6 s6 (by decide) (by decide) hm3) (rx_recv_is (ly hL6 272 10 0) kx_SB) (by decide) rfl (Nat.le_of_ble_eq_true rfl) (Nat.le_refl _) ?_
    intro nx7 ct7 m7 l7 r7 vb7 f7 hL7 s7
    refine ru_pop d_Wr_writeSentence_65 rfl ?_
    refine ru_vret d_Wr_writeSentence_66 rfl ?_
    exact ⟨rfl, _, _, _, _, _, vb7, rfl, (((((f1.trans f2).trans f3).trans f4).trans f5).trans f6).trans f7, hL7, s7⟩
theorem LsI.fr {b nx1 : Nat} {ct1 : Nat → Nat × Nat} {m1 : Nat → Nat → Int32} {l1 : Nat → Nat → Int64} {r1 : Nat → Nat → Option Nat} {L : List ruS} (hb : isLst b) (h : LsI mi ml mr b L) (f : frW nx nx1 ct ct1 mi m1 ml l1 mr r1) : LsI m1 l1 r1 b L := by
  have hb' : b = 274 ∨ b = 336 := hb
  refine ⟨?_, h.2.1, fun i q hq => ?_⟩
  · rw [((f.2 b (by omega)).2 (by omega) (by omega)).1]; exact h.1
  · have hi : i < L.length := (List.getElem?_eq_some_iff.mp hq).1
    have := h.2.1
    exact ⟨(h.2.2 i q hq).1.fr (isRu_b hb (by omega)) f, (h.2.2 i q hq).2⟩
theorem w_rulesL {b : Nat} {L : List ruS} (hO : NmOK N) (hb : isLst b) : ∀ (Lr : List ruS) (i nx : Nat) ct mi ml mr vb l, i ≤ L.length → L.drop i = Lr → LAY nx ct mr → SbI nx ct mi mr vb l (cp c0 l.length) → NmC N mi → LsI mi ml mr b L → cp c0 (l ++ wAll N Lr).length ≤ 200000 → rx_W M_Wr_writeRules 10 (cp c0 (l ++ wAll N Lr).length - cp c0 l.length) (2 * (cp c0 (l ++ wAll N Lr).length - cp c0 l.length)) 10 [(0, .ref 271), (1, .ref b), (2, .int (nI i))] [] (nx, ct, mi, ml, mr) (pR (sbP none nx ct mi ml mr (l ++ wAll N Lr) (cp c0 (l ++ wAll N Lr).length))) := by
  intro Lr
  induction Lr with
  | nil =>
    intro i nx ct mi ml mr vb l hi hd hL h hN hl hm3
    have hi2 : L.length ≤ i := List.drop_eq_nil_iff.mp hd
    have l2 := hl.2.1
    rw [show wAll N [] = [] from rfl, List.append_nil] at hm3 ⊢
    refine ru_iload_n d_Wr_writeRules_10 rfl rfl ?_
    refine ru_aload_n d_Wr_writeRules_11 rfl rfl ?_
    refine ru_getI d_Wr_writeRules_12 lf_Wr_26 (ly_b hL hb) rfl ?_
    refine ru_eqi hl.1 ?_
    refine ru_icmp_ge (tgt := 34) d_Wr_writeRules_15 (by decide) (fun h15 => ?_) (fun h15 => absurd (nI_le (by omega) (by omega)) h15)
    replace h15 := nm_le (a := L.length) (b := i) (by omega) (by omega) h15
    refine ru_vret d_Wr_writeRules_34 rfl ?_
    exact ⟨rfl, _, _, _, _, _, vb, rfl, frW.refl, hL, h⟩
  | cons q Lr ih =>
    intro i nx ct mi ml mr vb l hi hd hL h hN hl hm3
    have l2 := hl.2.1
    have hi2 : i < L.length := Nat.lt_of_not_le (fun z => by rw [List.drop_eq_nil_iff.mpr z] at hd; cases hd)
    have hd2 := hd
    rw [List.drop_eq_getElem_cons hi2] at hd2
    injection hd2 with e1 e2
    have hq : L[i]? = some q := by rw [List.getElem?_eq_getElem hi2, e1]
    have c := hl.2.2 i q hq
    have e : l ++ wAll N (q :: Lr) = (l ++ wRu N q) ++ wAll N Lr := by
      show l ++ (wRu N q ++ wAll N Lr) = _
      rw [List.append_assoc]
    rw [e] at hm3 ⊢
    refine ru_iload_n d_Wr_writeRules_10 rfl rfl ?_
    refine ru_aload_n d_Wr_writeRules_11 rfl rfl ?_
    refine ru_getI d_Wr_writeRules_12 lf_Wr_26 (ly_b hL hb) rfl ?_
    refine ru_eqi hl.1 ?_
    refine ru_icmp_ge (tgt := 34) d_Wr_writeRules_15 (by decide) (fun h15 => absurd h15 (nI_ge (by omega) (by omega))) (fun h15 => ?_)
    replace h15 := nm_nle (a := L.length) (b := i) (by omega) (by omega) h15
    refine ru_aload_n d_Wr_writeRules_18 rfl rfl ?_
    refine ru_aload_n d_Wr_writeRules_19 rfl rfl ?_
    refine ru_getR d_Wr_writeRules_20 lf_Wr_32 (ly_b hL hb) rfl (lr_b hL hb) ?_
    refine ru_iload_n d_Wr_writeRules_23 rfl rfl ?_
    refine ru_aldq (Cn := "RuleText$Rule") d_Wr_writeRules_24 (ly_bi hL hb) (by decide) (fun _ => rfl) (al_in (by omega)) (al_mr hL hb (by omega)) ?_
    refine ru_appV d_Wr_writeRules_25 lm_Wr_36 (w_sentence hO (isRu_b hb (by omega)) hL h hN c.1 c.2 (Nat.le_trans (cp_mono (len_app _ _)) hm3)) (rx_recv_is (ly hL 271 8 0) kx_Wr) (by decide) rfl (Nat.le_of_ble_eq_true rfl) (len_app _ _) ?_
    intro nx1 ct1 m1 l1 r1 vb1 f1 hL1 s1
    refine ru_iinc (v := nI (i + 1)) d_Wr_writeRules_28 rfl (nm_inc _ 1) (by decide) ?_
    refine ru_goto (tgt := 10) d_Wr_writeRules_31 (by decide) ?_
    refine ru_to (ru_post (fun v τ z => sbP.of f1 z) (ih (i + 1) _ _ _ _ _ vb1 _ (by omega) e2 hL1 s1 (hN.fr f1) (hl.fr hb f1) hm3)) ⟨rfl, rfl, rfl, trivial⟩
theorem w_rules {b c : Nat} {L : List ruS} (hO : NmOK N) (hb : isLst b) (hL : LAY nx ct mr) (h : SbI nx ct mi mr vb l c) (hN : NmC N mi) (hl : LsI mi ml mr b L) (hm3 : cp c (wAll N L).length ≤ 200000) : rx_Calls y_Wr_writeRules M_Wr_writeRules 10 (cp c (wAll N L).length - c) (2 * (cp c (wAll N L).length - c)) [.ref 271, .ref b] (nx, ct, mi, ml, mr) (sbP none nx ct mi ml mr (wAll N L) (cp c (wAll N L).length)) := by
  refine rx_enter (by decide) rfl rfl (Nat.le_of_ble_eq_true rfl) ?_
  have e0 : cp c ([] : List Int32).length = c := cp_id (Nat.zero_le _)
  refine ru_aload_n d_Wr_writeRules_0 rfl rfl ?_
  refine ru_getR d_Wr_writeRules_1 lf_Wr_12 (ly hL 271 8 0) rfl (lr hL 271 0 272) ?_
  refine ru_iconst (v := 0) d_Wr_writeRules_4 (by decide) ?_
  refine ru_mcs (Nat.zero_add _).symm (Nat.zero_add _).symm ?_
  refine ru_callV (mc := _) (ms := _) d_Wr_writeRules_5 lm_Wr_22 (js_setLength0 hL h) (rx_recv_is (ly hL 272 10 0) kx_SB) (by decide) rfl (Nat.le_of_ble_eq_true rfl) ?_
  rintro v τ ⟨rfl, nx1, ct1, m1, l1, r1, vb1, rfl, f1, hL1, s1⟩
  refine ru_iconst (v := 0) d_Wr_writeRules_8 (by decide) ?_
  refine ru_istore_n d_Wr_writeRules_9 rfl (by decide) ?_
  have z := w_rulesL (c0 := c) (L := L) hO hb L 0 nx1 ct1 m1 l1 r1 vb1 [] (Nat.zero_le _) rfl hL1 (by rw [e0]; exact s1) (hN.fr f1) (hl.fr hb f1) hm3
  rw [e0] at z
  exact ru_to (ru_post (fun v τ z => sbP.of f1 z) z) ⟨rfl, rfl, rfl, trivial⟩
end
/-- what a call of write leaves -/
def wtP (N : nmS) (L : List ruS) (c i nx : Nat) (ct : Nat → Nat × Nat) (mi : Nat → Nat → Int32) (ml : Nat → Nat → Int64) (mr : Nat → Nat → Option Nat) : Option Value → rx_S → Prop := fun v τ => v = some (.int (wAns (wAll N L) i)) ∧ ∃ nx' ct' mi' ml' mr' vb, τ = (nx', ct', mi', ml', mr') ∧ nx ≤ nx' ∧ (∀ x, x < 409 → ct' x = ct x ∧ (x ≠ 272 → x ≠ 273 → (x ≠ 256 → mi' x = mi x) ∧ ml' x = ml x ∧ mr' x = mr x)) ∧ mi' 256 7 = 0 ∧ LAY nx' ct' mr' ∧ SbI nx' ct' mi' mr' vb (wAll N L) (cp c (wAll N L).length)
section
variable {nx : Nat} {ct : Nat → Nat × Nat} {mi : Nat → Nat → Int32} {ml : Nat → Nat → Int64} {mr : Nat → Nat → Option Nat} {l W : List Int32} {vb : Nat} {N : nmS}
theorem SbI.u256 {c k : Nat} {v : Int32} (h : SbI nx ct mi mr vb l c) : SbI nx ct (rx_u mi 256 k v) mr vb l c := by
  obtain ⟨s1, s2, s3, s4, s5, s6, s7, s8, s9, s10⟩ := h
  have e : rx_u mi 256 k v 272 = mi 272 := rx_u_r _ _ (by decide)
  have e2 : rx_u mi 256 k v vb = mi vb := rx_u_r _ _ (by omega)
  exact ⟨s1, s2, s3, s4, by rw [e]; exact s5, by rw [e]; exact s6, s7, s8, by rw [e2]; exact s9, by rw [e2]; exact s10⟩
theorem SbI.asc {c i : Nat} {x : Int32} (h : SbI nx ct mi mr vb l c) (hx : l[i]? = some x) : asc x := by
  have hi : i < l.length := (List.getElem?_eq_some_iff.mp hx).1
  have := h.2.2.2.2.2.2.1
  rw [← h.2.2.2.2.2.2.2.2.1 i x hx]
  exact h.2.2.2.2.2.2.2.2.2 i (by omega)
theorem wr_tail {c i mc ms : Nat} (hL : LAY nx ct mr) (h : SbI nx ct mi mr vb W c) (hi : i < 2 ^ 31) : rx_W M_RT_write 11 mc ms 37 [(0, .ref 256), (1, .int (nI i))] [] (nx, ct, mi, ml, mr) (pR (fun v τ => v = some (.int (wAns W i)) ∧ τ = (nx, ct, mi, ml, mr))) := by
  have hc := h.2.2.2.2.2.2.2.1
  have hl := h.2.2.2.2.2.2.1
  by_cases q : i < W.length
  · have e : wAns W i = W.getD i 0 := if_pos q
    have ex : W[i]? = some (W.getD i 0) := by rw [List.getD_eq_getElem?_getD, List.getElem?_eq_getElem q]; rfl
    rw [e]
    refine ru_iload_n d_RT_write_37 rfl rfl ?_
    refine ru_aload_n d_RT_write_38 rfl rfl ?_
    refine ru_getR d_RT_write_39 lf_RT_44 (ly hL 256 0 0) rfl (lr hL 256 4 271) ?_
    refine ru_getR d_RT_write_42 lf_RT_174 (ly hL 271 8 0) rfl (lr hL 271 0 272) ?_
    refine ru_mcs (Nat.zero_add _).symm (Nat.zero_add _).symm ?_
    refine ru_callV (mc := _) (ms := _) d_RT_write_45 lm_RT_178 (js_length hL h) (rx_recv_is (ly hL 272 10 0) kx_SB) (by decide) rfl (Nat.le_of_ble_eq_true rfl) ?_
    rintro v τ ⟨rfl, rfl⟩
    refine ru_icmp_ge (tgt := 65) d_RT_write_48 (by decide) (fun h48 => absurd h48 (nI_ge q (by omega))) (fun h48 => ?_)
    replace h48 := nm_nle (a := W.length) (b := i) (by omega) (by omega) h48
    refine ru_aload_n d_RT_write_51 rfl rfl ?_
    refine ru_getR d_RT_write_52 lf_RT_44 (ly hL 256 0 0) rfl (lr hL 256 4 271) ?_
    refine ru_getR d_RT_write_55 lf_RT_174 (ly hL 271 8 0) rfl (lr hL 271 0 272) ?_
    refine ru_iload_n d_RT_write_58 rfl rfl ?_
    refine ru_mcs (Nat.zero_add _).symm (Nat.zero_add _).symm ?_
    refine ru_callV (mc := _) (ms := _) d_RT_write_59 lm_RT_184 (js_charAt hL h ex (h.asc ex)) (rx_recv_is (ly hL 272 10 0) kx_SB) (by decide) rfl (Nat.le_of_ble_eq_true rfl) ?_
    intro v τ h
    obtain ⟨rfl, rfl⟩ := h
    refine ru_goto (tgt := 66) d_RT_write_62 (by decide) ?_
    refine ru_iret d_RT_write_66 rfl ?_
    exact ⟨rfl, rfl⟩
  · have e : wAns W i = -1 := if_neg q
    rw [e]
    refine ru_iload_n d_RT_write_37 rfl rfl ?_
    refine ru_aload_n d_RT_write_38 rfl rfl ?_
    refine ru_getR d_RT_write_39 lf_RT_44 (ly hL 256 0 0) rfl (lr hL 256 4 271) ?_
    refine ru_getR d_RT_write_42 lf_RT_174 (ly hL 271 8 0) rfl (lr hL 271 0 272) ?_
    refine ru_mcs (Nat.zero_add _).symm (Nat.zero_add _).symm ?_
    refine ru_callV (mc := _) (ms := _) d_RT_write_45 lm_RT_178 (js_length hL h) (rx_recv_is (ly hL 272 10 0) kx_SB) (by decide) rfl (Nat.le_of_ble_eq_true rfl) ?_
    rintro v τ ⟨rfl, rfl⟩
    refine ru_icmp_ge (tgt := 65) d_RT_write_48 (by decide) (fun h48 => ?_) (fun h48 => absurd (nI_le (by omega) hi) h48)
    replace h48 := nm_le (a := W.length) (b := i) (by omega) (by omega) h48
    refine ru_iconst (v := (-1)) d_RT_write_65 (by decide) ?_
    refine ru_iret d_RT_write_66 rfl ?_
    exact ⟨rfl, rfl⟩
theorem sp_write {b c i : Nat} {L : List ruS} (hO : NmOK N) (hL : LAY nx ct mr) (h5 : mr 256 5 = some b) (hb : isLst b) (h : SbI nx ct mi mr vb l c) (hN : NmC N mi) (hl : LsI mi ml mr b L) (hw : mi 256 7 = 0 → l = wAll N L) (hi : i < 2 ^ 31) (hm3 : cp c (wAll N L).length ≤ 200000) : rx_Calls y_RT_write M_RT_write 11 (cp c (wAll N L).length - c) (2 * (cp c (wAll N L).length - c)) [.ref 256, .int (nI i)] (nx, ct, mi, ml, mr) (wtP N L c i nx ct mi ml mr) := by
  refine rx_enter (by decide) rfl rfl (Nat.le_of_ble_eq_true rfl) ?_
  by_cases h7 : mi 256 7 = 0
  · have el := hw h7
    subst el
    have ec : cp c (wAll N L).length = c := cp_id h.2.2.2.2.2.2.1
    unfold wtP
    rw [ec]
    refine ru_iload_n d_RT_write_0 rfl rfl ?_
    refine ru_if_ge (tgt := 14) d_RT_write_1 (by decide) (fun h1 => ?_) (fun h1 => absurd (nI_le (a := 0) (b := i) (by omega) hi) h1)
    replace h1 := nm_le (a := 0) (b := i) (by omega) (by omega) h1
    refine ru_aload_n d_RT_write_14 rfl rfl ?_
    refine ru_getI d_RT_write_15 lf_RT_58 (ly hL 256 0 0) rfl ?_
    refine ru_eqi h7 ?_
    refine ru_if_eq (tgt := 37) d_RT_write_18 (by decide) (fun h18 => ?_) (fun h18 => absurd h18 (by decide))
    refine ru_to (ru_post (fun v τ z => ?_) (wr_tail hL h hi)) ⟨rfl, rfl, trivial⟩
    obtain ⟨rfl, rfl⟩ := z
    exact ⟨rfl, _, _, _, _, _, vb, rfl, Nat.le_refl _, fun x hx => ⟨rfl, fun a b => ⟨fun _ => rfl, rfl, rfl⟩⟩, h7, hL, h⟩
  · skip
    refine ru_iload_n d_RT_write_0 rfl rfl ?_
    refine ru_if_ge (tgt := 14) d_RT_write_1 (by decide) (fun h1 => ?_) (fun h1 => absurd (nI_le (a := 0) (b := i) (by omega) hi) h1)
    replace h1 := nm_le (a := 0) (b := i) (by omega) (by omega) h1
    refine ru_aload_n d_RT_write_14 rfl rfl ?_
    refine ru_getI d_RT_write_15 lf_RT_58 (ly hL 256 0 0) rfl ?_
    refine ru_if_eq (tgt := 37) d_RT_write_18 (by decide) (fun h18 => absurd h18 h7) (fun h18 => ?_)
    refine ru_aload_n d_RT_write_21 rfl rfl ?_
    refine ru_getR d_RT_write_22 lf_RT_44 (ly hL 256 0 0) rfl (lr hL 256 4 271) ?_
    refine ru_aload_n d_RT_write_25 rfl rfl ?_
    refine ru_getR d_RT_write_26 lf_RT_51 (ly hL 256 0 0) rfl h5 ?_
    refine ru_callV (mc := 0) (ms := 0) d_RT_write_29 lm_RT_170 (w_rules hO hb hL h hN hl hm3) (rx_recv_is (ly hL 271 8 0) kx_Wr) (by decide) rfl (Nat.le_of_ble_eq_true rfl) ?_
    rintro v τ ⟨rfl, nx1, ct1, m1, l1, r1, vb1, rfl, f1, hL1, s1⟩
    refine ru_aload_n d_RT_write_32 rfl rfl ?_
    refine ru_iconst (v := 0) d_RT_write_33 (by decide) ?_
    refine ru_putI d_RT_write_34 lf_RT_58 (ly hL1 256 0 0) rfl (fun q hq => by cases hq; exact Or.inl rfl) ⟨rfl, rfl⟩ ?_
    refine ru_to (ru_post (fun v τ z => ?_) (wr_tail hL1 s1.u256 hi)) ⟨rfl, rfl, trivial⟩
    obtain ⟨rfl, rfl⟩ := z
    refine ⟨rfl, _, _, _, _, _, vb1, rfl, f1.1, fun x hx => ⟨(f1.2 x hx).1, fun a b => ⟨fun n => ?_, ((f1.2 x hx).2 a b).2⟩⟩, rx_u_same _ _ _ _, hL1, s1.u256⟩
    rw [rx_u_r _ _ n]
    exact ((f1.2 x hx).2 a b).1
end
