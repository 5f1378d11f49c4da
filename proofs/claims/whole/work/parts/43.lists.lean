/-! The class: its lists, names, shapes -/
theorem d_RL_areAtOdds_0 : decode M_RL_areAtOdds.2.1 0 = .ok (.aload_n 0, 1) := by decide +kernel
theorem d_RL_areAtOdds_1 : decode M_RL_areAtOdds.2.1 1 = .ok (.getfield 11, 3) := by decide +kernel
theorem d_RL_areAtOdds_4 : decode M_RL_areAtOdds.2.1 4 = .ok (.iload_n 1, 1) := by decide +kernel
theorem d_RL_areAtOdds_5 : decode M_RL_areAtOdds.2.1 5 = .ok (.aaload, 1) := by decide +kernel
theorem d_RL_areAtOdds_6 : decode M_RL_areAtOdds.2.1 6 = .ok (.astore 4, 2) := by decide +kernel
theorem d_RL_areAtOdds_8 : decode M_RL_areAtOdds.2.1 8 = .ok (.aload_n 0, 1) := by decide +kernel
theorem d_RL_areAtOdds_9 : decode M_RL_areAtOdds.2.1 9 = .ok (.getfield 11, 3) := by decide +kernel
theorem d_RL_areAtOdds_12 : decode M_RL_areAtOdds.2.1 12 = .ok (.iload_n 2, 1) := by decide +kernel
theorem d_RL_areAtOdds_13 : decode M_RL_areAtOdds.2.1 13 = .ok (.aaload, 1) := by decide +kernel
theorem d_RL_areAtOdds_14 : decode M_RL_areAtOdds.2.1 14 = .ok (.astore 5, 2) := by decide +kernel
theorem d_RL_areAtOdds_16 : decode M_RL_areAtOdds.2.1 16 = .ok (.aload 4, 2) := by decide +kernel
theorem d_RL_areAtOdds_18 : decode M_RL_areAtOdds.2.1 18 = .ok (.invokevirtual 26, 3) := by decide +kernel
theorem d_RL_areAtOdds_21 : decode M_RL_areAtOdds.2.1 21 = .ok (.ifCond .ne 21, 3) := by decide +kernel
theorem d_RL_areAtOdds_24 : decode M_RL_areAtOdds.2.1 24 = .ok (.aload 5, 2) := by decide +kernel
theorem d_RL_areAtOdds_26 : decode M_RL_areAtOdds.2.1 26 = .ok (.invokevirtual 26, 3) := by decide +kernel
theorem d_RL_areAtOdds_29 : decode M_RL_areAtOdds.2.1 29 = .ok (.ifCond .ne 13, 3) := by decide +kernel
theorem d_RL_areAtOdds_32 : decode M_RL_areAtOdds.2.1 32 = .ok (.aload 4, 2) := by decide +kernel
theorem d_RL_areAtOdds_34 : decode M_RL_areAtOdds.2.1 34 = .ok (.aload 5, 2) := by decide +kernel
theorem d_RL_areAtOdds_36 : decode M_RL_areAtOdds.2.1 36 = .ok (.invokevirtual 37, 3) := by decide +kernel
theorem d_RL_areAtOdds_39 : decode M_RL_areAtOdds.2.1 39 = .ok (.ifCond .eq 5, 3) := by decide +kernel
theorem d_RL_areAtOdds_42 : decode M_RL_areAtOdds.2.1 42 = .ok (.iconst 0, 1) := by decide +kernel
theorem d_RL_areAtOdds_43 : decode M_RL_areAtOdds.2.1 43 = .ok (.ireturn, 1) := by decide +kernel
theorem d_RL_areAtOdds_44 : decode M_RL_areAtOdds.2.1 44 = .ok (.aload 4, 2) := by decide +kernel
theorem d_RL_areAtOdds_46 : decode M_RL_areAtOdds.2.1 46 = .ok (.aload 5, 2) := by decide +kernel
theorem d_RL_areAtOdds_48 : decode M_RL_areAtOdds.2.1 48 = .ok (.aload_n 3, 1) := by decide +kernel
theorem d_RL_areAtOdds_49 : decode M_RL_areAtOdds.2.1 49 = .ok (.invokevirtual 33, 3) := by decide +kernel
theorem d_RL_areAtOdds_52 : decode M_RL_areAtOdds.2.1 52 = .ok (.ifCond .eq 18, 3) := by decide +kernel
theorem d_RL_areAtOdds_55 : decode M_RL_areAtOdds.2.1 55 = .ok (.aload 5, 2) := by decide +kernel
theorem d_RL_areAtOdds_57 : decode M_RL_areAtOdds.2.1 57 = .ok (.aload 4, 2) := by decide +kernel
theorem d_RL_areAtOdds_59 : decode M_RL_areAtOdds.2.1 59 = .ok (.aload_n 3, 1) := by decide +kernel
theorem d_RL_areAtOdds_60 : decode M_RL_areAtOdds.2.1 60 = .ok (.invokevirtual 33, 3) := by decide +kernel
theorem d_RL_areAtOdds_63 : decode M_RL_areAtOdds.2.1 63 = .ok (.ifCond .eq 7, 3) := by decide +kernel
theorem d_RL_areAtOdds_66 : decode M_RL_areAtOdds.2.1 66 = .ok (.iconst 1, 1) := by decide +kernel
theorem d_RL_areAtOdds_67 : decode M_RL_areAtOdds.2.1 67 = .ok (.goto 4, 3) := by decide +kernel
theorem d_RL_areAtOdds_70 : decode M_RL_areAtOdds.2.1 70 = .ok (.iconst 0, 1) := by decide +kernel
theorem d_RL_areAtOdds_71 : decode M_RL_areAtOdds.2.1 71 = .ok (.ireturn, 1) := by decide +kernel
theorem d_RL_countAhead_0 : decode M_RL_countAhead.2.1 0 = .ok (.iconst 0, 1) := by decide +kernel
theorem d_RL_countAhead_1 : decode M_RL_countAhead.2.1 1 = .ok (.istore_n 2, 1) := by decide +kernel
theorem d_RL_countAhead_2 : decode M_RL_countAhead.2.1 2 = .ok (.iconst 0, 1) := by decide +kernel
theorem d_RL_countAhead_3 : decode M_RL_countAhead.2.1 3 = .ok (.istore_n 3, 1) := by decide +kernel
theorem d_RL_countAhead_4 : decode M_RL_countAhead.2.1 4 = .ok (.iload_n 3, 1) := by decide +kernel
theorem d_RL_countAhead_5 : decode M_RL_countAhead.2.1 5 = .ok (.aload_n 0, 1) := by decide +kernel
theorem d_RL_countAhead_6 : decode M_RL_countAhead.2.1 6 = .ok (.getfield 18, 3) := by decide +kernel
theorem d_RL_countAhead_9 : decode M_RL_countAhead.2.1 9 = .ok (.if_icmp .ge 21, 3) := by decide +kernel
theorem d_RL_countAhead_12 : decode M_RL_countAhead.2.1 12 = .ok (.aload_n 0, 1) := by decide +kernel
theorem d_RL_countAhead_13 : decode M_RL_countAhead.2.1 13 = .ok (.iload_n 3, 1) := by decide +kernel
theorem d_RL_countAhead_14 : decode M_RL_countAhead.2.1 14 = .ok (.iload_n 1, 1) := by decide +kernel
theorem d_RL_countAhead_15 : decode M_RL_countAhead.2.1 15 = .ok (.invokevirtual 22, 3) := by decide +kernel
theorem d_RL_countAhead_18 : decode M_RL_countAhead.2.1 18 = .ok (.ifCond .eq 6, 3) := by decide +kernel
theorem d_RL_countAhead_21 : decode M_RL_countAhead.2.1 21 = .ok (.iinc 2 1, 3) := by decide +kernel
theorem d_RL_countAhead_24 : decode M_RL_countAhead.2.1 24 = .ok (.iinc 3 1, 3) := by decide +kernel
theorem d_RL_countAhead_27 : decode M_RL_countAhead.2.1 27 = .ok (.goto (-23), 3) := by decide +kernel
theorem d_RL_countAhead_30 : decode M_RL_countAhead.2.1 30 = .ok (.iload_n 2, 1) := by decide +kernel
theorem d_RL_countAhead_31 : decode M_RL_countAhead.2.1 31 = .ok (.ireturn, 1) := by decide +kernel
theorem d_RL_isAhead_0 : decode M_RL_isAhead.2.1 0 = .ok (.aload_n 0, 1) := by decide +kernel
theorem d_RL_isAhead_1 : decode M_RL_isAhead.2.1 1 = .ok (.getfield 11, 3) := by decide +kernel
theorem d_RL_isAhead_4 : decode M_RL_isAhead.2.1 4 = .ok (.iload_n 1, 1) := by decide +kernel
theorem d_RL_isAhead_5 : decode M_RL_isAhead.2.1 5 = .ok (.aaload, 1) := by decide +kernel
theorem d_RL_isAhead_6 : decode M_RL_isAhead.2.1 6 = .ok (.astore_n 3, 1) := by decide +kernel
theorem d_RL_isAhead_7 : decode M_RL_isAhead.2.1 7 = .ok (.aload_n 0, 1) := by decide +kernel
theorem d_RL_isAhead_8 : decode M_RL_isAhead.2.1 8 = .ok (.getfield 11, 3) := by decide +kernel
theorem d_RL_isAhead_11 : decode M_RL_isAhead.2.1 11 = .ok (.iload_n 2, 1) := by decide +kernel
theorem d_RL_isAhead_12 : decode M_RL_isAhead.2.1 12 = .ok (.aaload, 1) := by decide +kernel
theorem d_RL_isAhead_13 : decode M_RL_isAhead.2.1 13 = .ok (.astore 4, 2) := by decide +kernel
theorem d_RL_isAhead_15 : decode M_RL_isAhead.2.1 15 = .ok (.aload_n 3, 1) := by decide +kernel
theorem d_RL_isAhead_16 : decode M_RL_isAhead.2.1 16 = .ok (.invokevirtual 26, 3) := by decide +kernel
theorem d_RL_isAhead_19 : decode M_RL_isAhead.2.1 19 = .ok (.aload 4, 2) := by decide +kernel
theorem d_RL_isAhead_21 : decode M_RL_isAhead.2.1 21 = .ok (.invokevirtual 26, 3) := by decide +kernel
theorem d_RL_isAhead_24 : decode M_RL_isAhead.2.1 24 = .ok (.if_icmp .eq 8, 3) := by decide +kernel
theorem d_RL_isAhead_27 : decode M_RL_isAhead.2.1 27 = .ok (.aload_n 3, 1) := by decide +kernel
theorem d_RL_isAhead_28 : decode M_RL_isAhead.2.1 28 = .ok (.invokevirtual 26, 3) := by decide +kernel
theorem d_RL_isAhead_31 : decode M_RL_isAhead.2.1 31 = .ok (.ireturn, 1) := by decide +kernel
theorem d_RL_isAhead_32 : decode M_RL_isAhead.2.1 32 = .ok (.aload_n 3, 1) := by decide +kernel
theorem d_RL_isAhead_33 : decode M_RL_isAhead.2.1 33 = .ok (.getfield 30, 3) := by decide +kernel
theorem d_RL_isAhead_36 : decode M_RL_isAhead.2.1 36 = .ok (.aload 4, 2) := by decide +kernel
theorem d_RL_isAhead_38 : decode M_RL_isAhead.2.1 38 = .ok (.getfield 30, 3) := by decide +kernel
theorem d_RL_isAhead_41 : decode M_RL_isAhead.2.1 41 = .ok (.if_icmp .ne 16, 3) := by decide +kernel
theorem d_RL_isAhead_44 : decode M_RL_isAhead.2.1 44 = .ok (.iload_n 1, 1) := by decide +kernel
theorem d_RL_isAhead_45 : decode M_RL_isAhead.2.1 45 = .ok (.iload_n 2, 1) := by decide +kernel
theorem d_RL_isAhead_46 : decode M_RL_isAhead.2.1 46 = .ok (.if_icmp .le 7, 3) := by decide +kernel
theorem d_RL_isAhead_49 : decode M_RL_isAhead.2.1 49 = .ok (.iconst 1, 1) := by decide +kernel
theorem d_RL_isAhead_50 : decode M_RL_isAhead.2.1 50 = .ok (.goto 24, 3) := by decide +kernel
theorem d_RL_isAhead_53 : decode M_RL_isAhead.2.1 53 = .ok (.iconst 0, 1) := by decide +kernel
theorem d_RL_isAhead_54 : decode M_RL_isAhead.2.1 54 = .ok (.goto 20, 3) := by decide +kernel
theorem d_RL_isAhead_57 : decode M_RL_isAhead.2.1 57 = .ok (.aload_n 3, 1) := by decide +kernel
theorem d_RL_isAhead_58 : decode M_RL_isAhead.2.1 58 = .ok (.getfield 30, 3) := by decide +kernel
theorem d_RL_isAhead_61 : decode M_RL_isAhead.2.1 61 = .ok (.aload 4, 2) := by decide +kernel
theorem d_RL_isAhead_63 : decode M_RL_isAhead.2.1 63 = .ok (.getfield 30, 3) := by decide +kernel
theorem d_RL_isAhead_66 : decode M_RL_isAhead.2.1 66 = .ok (.if_icmp .le 7, 3) := by decide +kernel
theorem d_RL_isAhead_69 : decode M_RL_isAhead.2.1 69 = .ok (.iconst 1, 1) := by decide +kernel
theorem d_RL_isAhead_70 : decode M_RL_isAhead.2.1 70 = .ok (.goto 4, 3) := by decide +kernel
theorem d_RL_isAhead_73 : decode M_RL_isAhead.2.1 73 = .ok (.iconst 0, 1) := by decide +kernel
theorem d_RL_isAhead_74 : decode M_RL_isAhead.2.1 74 = .ok (.ireturn, 1) := by decide +kernel
theorem d_RL_isBeaten_0 : decode M_RL_isBeaten.2.1 0 = .ok (.iconst 0, 1) := by decide +kernel
theorem d_RL_isBeaten_1 : decode M_RL_isBeaten.2.1 1 = .ok (.istore_n 3, 1) := by decide +kernel
theorem d_RL_isBeaten_2 : decode M_RL_isBeaten.2.1 2 = .ok (.iload_n 3, 1) := by decide +kernel
theorem d_RL_isBeaten_3 : decode M_RL_isBeaten.2.1 3 = .ok (.aload_n 0, 1) := by decide +kernel
theorem d_RL_isBeaten_4 : decode M_RL_isBeaten.2.1 4 = .ok (.getfield 18, 3) := by decide +kernel
theorem d_RL_isBeaten_7 : decode M_RL_isBeaten.2.1 7 = .ok (.if_icmp .ge 39, 3) := by decide +kernel
theorem d_RL_isBeaten_10 : decode M_RL_isBeaten.2.1 10 = .ok (.aload_n 0, 1) := by decide +kernel
theorem d_RL_isBeaten_11 : decode M_RL_isBeaten.2.1 11 = .ok (.iload_n 3, 1) := by decide +kernel
theorem d_RL_isBeaten_12 : decode M_RL_isBeaten.2.1 12 = .ok (.iload_n 1, 1) := by decide +kernel
theorem d_RL_isBeaten_13 : decode M_RL_isBeaten.2.1 13 = .ok (.invokevirtual 22, 3) := by decide +kernel
theorem d_RL_isBeaten_16 : decode M_RL_isBeaten.2.1 16 = .ok (.ifCond .eq 24, 3) := by decide +kernel
theorem d_RL_isBeaten_19 : decode M_RL_isBeaten.2.1 19 = .ok (.aload_n 0, 1) := by decide +kernel
theorem d_RL_isBeaten_20 : decode M_RL_isBeaten.2.1 20 = .ok (.getfield 11, 3) := by decide +kernel
theorem d_RL_isBeaten_23 : decode M_RL_isBeaten.2.1 23 = .ok (.iload_n 3, 1) := by decide +kernel
theorem d_RL_isBeaten_24 : decode M_RL_isBeaten.2.1 24 = .ok (.aaload, 1) := by decide +kernel
theorem d_RL_isBeaten_25 : decode M_RL_isBeaten.2.1 25 = .ok (.aload_n 0, 1) := by decide +kernel
theorem d_RL_isBeaten_26 : decode M_RL_isBeaten.2.1 26 = .ok (.getfield 11, 3) := by decide +kernel
theorem d_RL_isBeaten_29 : decode M_RL_isBeaten.2.1 29 = .ok (.iload_n 1, 1) := by decide +kernel
theorem d_RL_isBeaten_30 : decode M_RL_isBeaten.2.1 30 = .ok (.aaload, 1) := by decide +kernel
theorem d_RL_isBeaten_31 : decode M_RL_isBeaten.2.1 31 = .ok (.aload_n 2, 1) := by decide +kernel
theorem d_RL_isBeaten_32 : decode M_RL_isBeaten.2.1 32 = .ok (.invokevirtual 33, 3) := by decide +kernel
theorem d_RL_isBeaten_35 : decode M_RL_isBeaten.2.1 35 = .ok (.ifCond .eq 5, 3) := by decide +kernel
theorem d_RL_isBeaten_38 : decode M_RL_isBeaten.2.1 38 = .ok (.iconst 1, 1) := by decide +kernel
theorem d_RL_isBeaten_39 : decode M_RL_isBeaten.2.1 39 = .ok (.ireturn, 1) := by decide +kernel
theorem d_RL_isBeaten_40 : decode M_RL_isBeaten.2.1 40 = .ok (.iinc 3 1, 3) := by decide +kernel
theorem d_RL_isBeaten_43 : decode M_RL_isBeaten.2.1 43 = .ok (.goto (-41), 3) := by decide +kernel
theorem d_RL_isBeaten_46 : decode M_RL_isBeaten.2.1 46 = .ok (.iconst 0, 1) := by decide +kernel
theorem d_RL_isBeaten_47 : decode M_RL_isBeaten.2.1 47 = .ok (.ireturn, 1) := by decide +kernel
def isLst (b : Nat) : Prop := b = 274 ∨ b = 336
section
variable {nx : Nat} {ct : Nat → Nat × Nat} {mi : Nat → Nat → Int32} {ml : Nat → Nat → Int64} {mr mr' : Nat → Nat → Option Nat} {b : Nat}
theorem ly_b (hL : LAY nx ct mr) (hb : isLst b) : rx_is (nx, ct, mi, ml, mr') b 5 0 := by
  rcases hb with rfl | rfl
  · exact ly hL 274 5 0
  · exact ly hL 336 5 0
theorem ly_bi (hL : LAY nx ct mr) (hb : isLst b) : rx_is (nx, ct, mi, ml, mr') (b + 1) 105 60 := by
  rcases hb with rfl | rfl
  · exact ly hL 275 105 60
  · exact ly hL 337 105 60
theorem lr_b (hL : LAY nx ct mr) (hb : isLst b) : mr b 0 = some (b + 1) := by
  rcases hb with rfl | rfl
  · exact lr hL 274 0 275
  · exact lr hL 336 0 337
theorem isRu_b {i : Nat} (hb : isLst b) (hi : i < 60) : isRu (b + 2 + i) := by
  unfold isRu
  rcases hb with rfl | rfl <;> omega
theorem al_in {i : Nat} (hi : i < 60) : vp_in (nI i) 60 := vp_in_nI hi (by decide)
theorem al_mr {i : Nat} (hL : LAY nx ct mr) (hb : isLst b) (hi : i < 60) : mr (b + 1) (nI i).toNatClampNeg = some (b + 2 + i) := by
  rw [nI_clamp (by omega)]
  rcases hb with rfl | rfl
  · exact (hL.2.2.2 i hi).1
  · exact (hL.2.2.2 i hi).2
end
/-- the list at b holds the rules L -/
def LsI (mi : Nat → Nat → Int32) (ml : Nat → Nat → Int64) (mr : Nat → Nat → Option Nat) (b : Nat) (L : List ruS) : Prop := mi b 1 = nI L.length ∧ L.length ≤ 60 ∧ ∀ i q, L[i]? = some q → clI mi ml mr (b + 2 + i) q ∧ ruOK q
def aheadL (L : List ruS) (i k : Nat) : Prop := ∃ q q', L[i]? = some q ∧ L[k]? = some q' ∧ aheadP q q' i k
def coversL (T : Nat → Int32) (Q : Nat → Nat → Int64) (L : List ruS) (i k : Nat) : Prop := ∃ q q', L[i]? = some q ∧ L[k]? = some q' ∧ coversP T Q q q'
def oddsL (T : Nat → Int32) (Q : Nat → Nat → Int64) (L : List ruS) (i k : Nat) : Prop := ∃ q q', L[i]? = some q ∧ L[k]? = some q' ∧ oddsP T Q q q'
def beatL (T : Nat → Int32) (Q : Nat → Nat → Int64) (L : List ruS) (k : Nat) : Prop := exB (fun i => aheadL L i k ∧ coversL T Q L i k) L.length
theorem exL2 {L : List ruS} {i k : Nat} {q q' : ruS} {P : ruS → ruS → Prop} (hi : L[i]? = some q) (hk : L[k]? = some q') : (∃ q q', L[i]? = some q ∧ L[k]? = some q' ∧ P q q') ↔ P q q' := ⟨fun ⟨a, a', h1, h2, h3⟩ => by rw [hi] at h1; rw [hk] at h2; cases h1; cases h2; exact h3, fun h => ⟨q, q', hi, hk, h⟩⟩
theorem getL {L : List ruS} {i : Nat} (h : i < L.length) : ∃ q, L[i]? = some q := ⟨L[i], List.getElem?_eq_getElem h⟩
section
variable {nx : Nat} {ct : Nat → Nat × Nat} {mi : Nat → Nat → Int32} {ml : Nat → Nat → Int64} {mr : Nat → Nat → Option Nat} {b : Nat} {L : List ruS}
theorem sp_isAhead {i k : Nat} (hL : LAY nx ct mr) (hb : isLst b) (hl : LsI mi ml mr b L) (hi : i < L.length) (hk : k < L.length) : rx_Calls y_RL_isAhead M_RL_isAhead 1 0 0 [.ref b, .int (nI i), .int (nI k)] (nx, ct, mi, ml, mr) (fun v τ => v = some (.int (bI (aheadL L i k))) ∧ τ = (nx, ct, mi, ml, mr)) := by
  refine rx_enter (by decide) rfl rfl (Nat.le_of_ble_eq_true rfl) ?_
  obtain ⟨l1, l2, l3⟩ := hl
  obtain ⟨q, hq⟩ := getL hi
  obtain ⟨q', hq'⟩ := getL hk
  rw [show aheadL L i k = aheadP q q' i k from propext (exL2 (P := fun q q' => aheadP q q' i k) hq hq')]
  have c := l3 i q hq
  have c' := l3 k q' hq'
  have r1 := c.1.2.2.2.2.1
  have r2 := c'.1.2.2.2.2.1
  have o1 := c.2.2.2.2.2.1
  have o2 := c'.2.2.2.2.2.1
  unfold aheadP
  by_cases w1 : q.1 = 12
  · by_cases w2 : q'.1 = 12
    · skip
      refine ru_aload_n d_RL_isAhead_0 rfl rfl ?_
      refine ru_getR d_RL_isAhead_1 lf_RL_11 (ly_b hL hb) rfl (lr_b hL hb) ?_
      refine ru_iload_n d_RL_isAhead_4 rfl rfl ?_
      refine ru_aldq (Cn := "RuleText$Rule") d_RL_isAhead_5 (ly_bi hL hb) (by decide) (fun _ => rfl) (al_in (by omega)) (al_mr hL hb (by omega)) ?_
      refine ru_astore_n d_RL_isAhead_6 rfl (by decide) ?_
      refine ru_aload_n d_RL_isAhead_7 rfl rfl ?_
      refine ru_getR d_RL_isAhead_8 lf_RL_11 (ly_b hL hb) rfl (lr_b hL hb) ?_
      refine ru_iload_n d_RL_isAhead_11 rfl rfl ?_
      refine ru_aldq (Cn := "RuleText$Rule") d_RL_isAhead_12 (ly_bi hL hb) (by decide) (fun _ => rfl) (al_in (by omega)) (al_mr hL hb (by omega)) ?_
      refine ru_astore d_RL_isAhead_13 (by decide) ?_
      refine ru_aload_n d_RL_isAhead_15 rfl rfl ?_
      refine ru_callV (mc := 0) (ms := 0) d_RL_isAhead_16 lm_RL_26 (sp_isWaiver hL (isRu_b hb (by omega)) c.1 c.2) (rx_recv_is (ly_ru hL (isRu_b hb (show i < 60 by omega))) kx_Ru) (by decide) rfl (Nat.le_of_ble_eq_true rfl) ?_
      rintro v τ ⟨rfl, rfl⟩
      rw [bI_t w1]
      refine ru_aload d_RL_isAhead_19 rfl ?_
      refine ru_callV (mc := 0) (ms := 0) d_RL_isAhead_21 lm_RL_26 (sp_isWaiver hL (isRu_b hb (by omega)) c'.1 c'.2) (rx_recv_is (ly_ru hL (isRu_b hb (show k < 60 by omega))) kx_Ru) (by decide) rfl (Nat.le_of_ble_eq_true rfl) ?_
      rintro v τ ⟨rfl, rfl⟩
      rw [bI_t w2]
      refine ru_icmp_eq (tgt := 32) d_RL_isAhead_24 (by decide) (fun h24 => ?_) (fun h24 => absurd h24 (by decide))
      refine ru_aload_n d_RL_isAhead_32 rfl rfl ?_
      refine ru_getI d_RL_isAhead_33 lf_RL_30 (ly_ru hL (isRu_b hb (show i < 60 by omega))) rfl ?_
      refine ru_eqi r1 ?_
      refine ru_aload d_RL_isAhead_36 rfl ?_
      refine ru_getI d_RL_isAhead_38 lf_RL_30 (ly_ru hL (isRu_b hb (show k < 60 by omega))) rfl ?_
      refine ru_eqi r2 ?_
      refine ru_icmp_ne (tgt := 57) d_RL_isAhead_41 (by decide) (fun h41 => ?_) (fun h41 => ?_)
      · skip
        replace h41 := nm_ne (a := q.2.2.2.2.1) (b := q'.2.2.2.2.1) (by omega) (by omega) h41
        refine ru_aload_n d_RL_isAhead_57 rfl rfl ?_
        refine ru_getI d_RL_isAhead_58 lf_RL_30 (ly_ru hL (isRu_b hb (show i < 60 by omega))) rfl ?_
        refine ru_eqi r1 ?_
        refine ru_aload d_RL_isAhead_61 rfl ?_
        refine ru_getI d_RL_isAhead_63 lf_RL_30 (ly_ru hL (isRu_b hb (show k < 60 by omega))) rfl ?_
        refine ru_eqi r2 ?_
        refine ru_icmp_le (tgt := 73) d_RL_isAhead_66 (by decide) (fun h66 => ?_) (fun h66 => ?_)
        · skip
          replace h66 := nm_le (a := q.2.2.2.2.1) (b := q'.2.2.2.2.1) (by omega) (by omega) h66
          refine ru_iconst (v := 0) d_RL_isAhead_73 (by decide) ?_
          refine ru_zret (ty := .boolean) d_RL_isAhead_74 rfl rfl ?_
          first | (rw [bI_t (by omega)]; exact ⟨rfl, rfl⟩) | (rw [bI_f (by omega)]; exact ⟨rfl, rfl⟩)
        · skip
          replace h66 := nm_nle (a := q.2.2.2.2.1) (b := q'.2.2.2.2.1) (by omega) (by omega) h66
          refine ru_iconst (v := 1) d_RL_isAhead_69 (by decide) ?_
          refine ru_goto (tgt := 74) d_RL_isAhead_70 (by decide) ?_
          refine ru_zret (ty := .boolean) d_RL_isAhead_74 rfl rfl ?_
          first | (rw [bI_t (by omega)]; exact ⟨rfl, rfl⟩) | (rw [bI_f (by omega)]; exact ⟨rfl, rfl⟩)
      · skip
        replace h41 := nm_eq (a := q.2.2.2.2.1) (b := q'.2.2.2.2.1) (by omega) (by omega) h41
        refine ru_iload_n d_RL_isAhead_44 rfl rfl ?_
        refine ru_iload_n d_RL_isAhead_45 rfl rfl ?_
        refine ru_icmp_le (tgt := 53) d_RL_isAhead_46 (by decide) (fun h46 => ?_) (fun h46 => ?_)
        · skip
          replace h46 := nm_le (a := i) (b := k) (by omega) (by omega) h46
          refine ru_iconst (v := 0) d_RL_isAhead_53 (by decide) ?_
          refine ru_goto (tgt := 74) d_RL_isAhead_54 (by decide) ?_
          refine ru_zret (ty := .boolean) d_RL_isAhead_74 rfl rfl ?_
          first | (rw [bI_t (by omega)]; exact ⟨rfl, rfl⟩) | (rw [bI_f (by omega)]; exact ⟨rfl, rfl⟩)
        · skip
          replace h46 := nm_nle (a := i) (b := k) (by omega) (by omega) h46
          refine ru_iconst (v := 1) d_RL_isAhead_49 (by decide) ?_
          refine ru_goto (tgt := 74) d_RL_isAhead_50 (by decide) ?_
          refine ru_zret (ty := .boolean) d_RL_isAhead_74 rfl rfl ?_
          first | (rw [bI_t (by omega)]; exact ⟨rfl, rfl⟩) | (rw [bI_f (by omega)]; exact ⟨rfl, rfl⟩)
    · skip
      refine ru_aload_n d_RL_isAhead_0 rfl rfl ?_
      refine ru_getR d_RL_isAhead_1 lf_RL_11 (ly_b hL hb) rfl (lr_b hL hb) ?_
      refine ru_iload_n d_RL_isAhead_4 rfl rfl ?_
      refine ru_aldq (Cn := "RuleText$Rule") d_RL_isAhead_5 (ly_bi hL hb) (by decide) (fun _ => rfl) (al_in (by omega)) (al_mr hL hb (by omega)) ?_
      refine ru_astore_n d_RL_isAhead_6 rfl (by decide) ?_
      refine ru_aload_n d_RL_isAhead_7 rfl rfl ?_
      refine ru_getR d_RL_isAhead_8 lf_RL_11 (ly_b hL hb) rfl (lr_b hL hb) ?_
      refine ru_iload_n d_RL_isAhead_11 rfl rfl ?_
      refine ru_aldq (Cn := "RuleText$Rule") d_RL_isAhead_12 (ly_bi hL hb) (by decide) (fun _ => rfl) (al_in (by omega)) (al_mr hL hb (by omega)) ?_
      refine ru_astore d_RL_isAhead_13 (by decide) ?_
      refine ru_aload_n d_RL_isAhead_15 rfl rfl ?_
      refine ru_callV (mc := 0) (ms := 0) d_RL_isAhead_16 lm_RL_26 (sp_isWaiver hL (isRu_b hb (by omega)) c.1 c.2) (rx_recv_is (ly_ru hL (isRu_b hb (show i < 60 by omega))) kx_Ru) (by decide) rfl (Nat.le_of_ble_eq_true rfl) ?_
      rintro v τ ⟨rfl, rfl⟩
      rw [bI_t w1]
      refine ru_aload d_RL_isAhead_19 rfl ?_
      refine ru_callV (mc := 0) (ms := 0) d_RL_isAhead_21 lm_RL_26 (sp_isWaiver hL (isRu_b hb (by omega)) c'.1 c'.2) (rx_recv_is (ly_ru hL (isRu_b hb (show k < 60 by omega))) kx_Ru) (by decide) rfl (Nat.le_of_ble_eq_true rfl) ?_
      rintro v τ ⟨rfl, rfl⟩
      rw [bI_f w2]
      refine ru_icmp_eq (tgt := 32) d_RL_isAhead_24 (by decide) (fun h24 => absurd h24 (by decide)) (fun h24 => ?_)
      refine ru_aload_n d_RL_isAhead_27 rfl rfl ?_
      refine ru_callV (mc := 0) (ms := 0) d_RL_isAhead_28 lm_RL_26 (sp_isWaiver hL (isRu_b hb (by omega)) c.1 c.2) (rx_recv_is (ly_ru hL (isRu_b hb (show i < 60 by omega))) kx_Ru) (by decide) rfl (Nat.le_of_ble_eq_true rfl) ?_
      rintro v τ ⟨rfl, rfl⟩
      rw [bI_t w1]
      refine ru_zret (ty := .boolean) d_RL_isAhead_31 rfl rfl ?_
      first | (rw [bI_t (by omega)]; exact ⟨rfl, rfl⟩) | (rw [bI_f (by omega)]; exact ⟨rfl, rfl⟩)
  · by_cases w2 : q'.1 = 12
    · skip
      refine ru_aload_n d_RL_isAhead_0 rfl rfl ?_
      refine ru_getR d_RL_isAhead_1 lf_RL_11 (ly_b hL hb) rfl (lr_b hL hb) ?_
      refine ru_iload_n d_RL_isAhead_4 rfl rfl ?_
      refine ru_aldq (Cn := "RuleText$Rule") d_RL_isAhead_5 (ly_bi hL hb) (by decide) (fun _ => rfl) (al_in (by omega)) (al_mr hL hb (by omega)) ?_
      refine ru_astore_n d_RL_isAhead_6 rfl (by decide) ?_
      refine ru_aload_n d_RL_isAhead_7 rfl rfl ?_
      refine ru_getR d_RL_isAhead_8 lf_RL_11 (ly_b hL hb) rfl (lr_b hL hb) ?_
      refine ru_iload_n d_RL_isAhead_11 rfl rfl ?_
      refine ru_aldq (Cn := "RuleText$Rule") d_RL_isAhead_12 (ly_bi hL hb) (by decide) (fun _ => rfl) (al_in (by omega)) (al_mr hL hb (by omega)) ?_
      refine ru_astore d_RL_isAhead_13 (by decide) ?_
      refine ru_aload_n d_RL_isAhead_15 rfl rfl ?_
      refine ru_callV (mc := 0) (ms := 0) d_RL_isAhead_16 lm_RL_26 (sp_isWaiver hL (isRu_b hb (by omega)) c.1 c.2) (rx_recv_is (ly_ru hL (isRu_b hb (show i < 60 by omega))) kx_Ru) (by decide) rfl (Nat.le_of_ble_eq_true rfl) ?_
      rintro v τ ⟨rfl, rfl⟩
      rw [bI_f w1]
      refine ru_aload d_RL_isAhead_19 rfl ?_
      refine ru_callV (mc := 0) (ms := 0) d_RL_isAhead_21 lm_RL_26 (sp_isWaiver hL (isRu_b hb (by omega)) c'.1 c'.2) (rx_recv_is (ly_ru hL (isRu_b hb (show k < 60 by omega))) kx_Ru) (by decide) rfl (Nat.le_of_ble_eq_true rfl) ?_
      rintro v τ ⟨rfl, rfl⟩
      rw [bI_t w2]
      refine ru_icmp_eq (tgt := 32) d_RL_isAhead_24 (by decide) (fun h24 => absurd h24 (by decide)) (fun h24 => ?_)
      refine ru_aload_n d_RL_isAhead_27 rfl rfl ?_
      refine ru_callV (mc := 0) (ms := 0) d_RL_isAhead_28 lm_RL_26 (sp_isWaiver hL (isRu_b hb (by omega)) c.1 c.2) (rx_recv_is (ly_ru hL (isRu_b hb (show i < 60 by omega))) kx_Ru) (by decide) rfl (Nat.le_of_ble_eq_true rfl) ?_
      rintro v τ ⟨rfl, rfl⟩
      rw [bI_f w1]
      refine ru_zret (ty := .boolean) d_RL_isAhead_31 rfl rfl ?_
      first | (rw [bI_t (by omega)]; exact ⟨rfl, rfl⟩) | (rw [bI_f (by omega)]; exact ⟨rfl, rfl⟩)
    · skip
      refine ru_aload_n d_RL_isAhead_0 rfl rfl ?_
      refine ru_getR d_RL_isAhead_1 lf_RL_11 (ly_b hL hb) rfl (lr_b hL hb) ?_
      refine ru_iload_n d_RL_isAhead_4 rfl rfl ?_
      refine ru_aldq (Cn := "RuleText$Rule") d_RL_isAhead_5 (ly_bi hL hb) (by decide) (fun _ => rfl) (al_in (by omega)) (al_mr hL hb (by omega)) ?_
      refine ru_astore_n d_RL_isAhead_6 rfl (by decide) ?_
      refine ru_aload_n d_RL_isAhead_7 rfl rfl ?_
      refine ru_getR d_RL_isAhead_8 lf_RL_11 (ly_b hL hb) rfl (lr_b hL hb) ?_
      refine ru_iload_n d_RL_isAhead_11 rfl rfl ?_
      refine ru_aldq (Cn := "RuleText$Rule") d_RL_isAhead_12 (ly_bi hL hb) (by decide) (fun _ => rfl) (al_in (by omega)) (al_mr hL hb (by omega)) ?_
      refine ru_astore d_RL_isAhead_13 (by decide) ?_
      refine ru_aload_n d_RL_isAhead_15 rfl rfl ?_
      refine ru_callV (mc := 0) (ms := 0) d_RL_isAhead_16 lm_RL_26 (sp_isWaiver hL (isRu_b hb (by omega)) c.1 c.2) (rx_recv_is (ly_ru hL (isRu_b hb (show i < 60 by omega))) kx_Ru) (by decide) rfl (Nat.le_of_ble_eq_true rfl) ?_
      rintro v τ ⟨rfl, rfl⟩
      rw [bI_f w1]
      refine ru_aload d_RL_isAhead_19 rfl ?_
      refine ru_callV (mc := 0) (ms := 0) d_RL_isAhead_21 lm_RL_26 (sp_isWaiver hL (isRu_b hb (by omega)) c'.1 c'.2) (rx_recv_is (ly_ru hL (isRu_b hb (show k < 60 by omega))) kx_Ru) (by decide) rfl (Nat.le_of_ble_eq_true rfl) ?_
      rintro v τ ⟨rfl, rfl⟩
      rw [bI_f w2]
      refine ru_icmp_eq (tgt := 32) d_RL_isAhead_24 (by decide) (fun h24 => ?_) (fun h24 => absurd h24 (by decide))
      refine ru_aload_n d_RL_isAhead_32 rfl rfl ?_
      refine ru_getI d_RL_isAhead_33 lf_RL_30 (ly_ru hL (isRu_b hb (show i < 60 by omega))) rfl ?_
      refine ru_eqi r1 ?_
      refine ru_aload d_RL_isAhead_36 rfl ?_
      refine ru_getI d_RL_isAhead_38 lf_RL_30 (ly_ru hL (isRu_b hb (show k < 60 by omega))) rfl ?_
      refine ru_eqi r2 ?_
      refine ru_icmp_ne (tgt := 57) d_RL_isAhead_41 (by decide) (fun h41 => ?_) (fun h41 => ?_)
      · skip
        replace h41 := nm_ne (a := q.2.2.2.2.1) (b := q'.2.2.2.2.1) (by omega) (by omega) h41
        refine ru_aload_n d_RL_isAhead_57 rfl rfl ?_
        refine ru_getI d_RL_isAhead_58 lf_RL_30 (ly_ru hL (isRu_b hb (show i < 60 by omega))) rfl ?_
        refine ru_eqi r1 ?_
        refine ru_aload d_RL_isAhead_61 rfl ?_
        refine ru_getI d_RL_isAhead_63 lf_RL_30 (ly_ru hL (isRu_b hb (show k < 60 by omega))) rfl ?_
        refine ru_eqi r2 ?_
        refine ru_icmp_le (tgt := 73) d_RL_isAhead_66 (by decide) (fun h66 => ?_) (fun h66 => ?_)
        · skip
          replace h66 := nm_le (a := q.2.2.2.2.1) (b := q'.2.2.2.2.1) (by omega) (by omega) h66
          refine ru_iconst (v := 0) d_RL_isAhead_73 (by decide) ?_
          refine ru_zret (ty := .boolean) d_RL_isAhead_74 rfl rfl ?_
          first | (rw [bI_t (by omega)]; exact ⟨rfl, rfl⟩) | (rw [bI_f (by omega)]; exact ⟨rfl, rfl⟩)
        · skip
          replace h66 := nm_nle (a := q.2.2.2.2.1) (b := q'.2.2.2.2.1) (by omega) (by omega) h66
          refine ru_iconst (v := 1) d_RL_isAhead_69 (by decide) ?_
          refine ru_goto (tgt := 74) d_RL_isAhead_70 (by decide) ?_
          refine ru_zret (ty := .boolean) d_RL_isAhead_74 rfl rfl ?_
          first | (rw [bI_t (by omega)]; exact ⟨rfl, rfl⟩) | (rw [bI_f (by omega)]; exact ⟨rfl, rfl⟩)
      · skip
        replace h41 := nm_eq (a := q.2.2.2.2.1) (b := q'.2.2.2.2.1) (by omega) (by omega) h41
        refine ru_iload_n d_RL_isAhead_44 rfl rfl ?_
        refine ru_iload_n d_RL_isAhead_45 rfl rfl ?_
        refine ru_icmp_le (tgt := 53) d_RL_isAhead_46 (by decide) (fun h46 => ?_) (fun h46 => ?_)
        · skip
          replace h46 := nm_le (a := i) (b := k) (by omega) (by omega) h46
          refine ru_iconst (v := 0) d_RL_isAhead_53 (by decide) ?_
          refine ru_goto (tgt := 74) d_RL_isAhead_54 (by decide) ?_
          refine ru_zret (ty := .boolean) d_RL_isAhead_74 rfl rfl ?_
          first | (rw [bI_t (by omega)]; exact ⟨rfl, rfl⟩) | (rw [bI_f (by omega)]; exact ⟨rfl, rfl⟩)
        · skip
          replace h46 := nm_nle (a := i) (b := k) (by omega) (by omega) h46
          refine ru_iconst (v := 1) d_RL_isAhead_49 (by decide) ?_
          refine ru_goto (tgt := 74) d_RL_isAhead_50 (by decide) ?_
          refine ru_zret (ty := .boolean) d_RL_isAhead_74 rfl rfl ?_
          first | (rw [bI_t (by omega)]; exact ⟨rfl, rfl⟩) | (rw [bI_f (by omega)]; exact ⟨rfl, rfl⟩)
theorem sp_countAhead {k : Nat} (hL : LAY nx ct mr) (hb : isLst b) (hl : LsI mi ml mr b L) (hk : k < L.length) : rx_Calls y_RL_countAhead M_RL_countAhead 2 0 0 [.ref b, .int (nI k)] (nx, ct, mi, ml, mr) (fun v τ => v = some (.int (nI (cF (fun i => aheadL L i k) L.length 0))) ∧ τ = (nx, ct, mi, ml, mr)) := by
  refine rx_enter (by decide) rfl rfl (Nat.le_of_ble_eq_true rfl) ?_
  have l2 := hl.2.1
  have loop : ∀ f i c, i ≤ L.length → f = L.length - i → rx_W M_RL_countAhead 2 0 0 4 [(0, .ref b), (1, .int (nI k)), (2, .int (nI c)), (3, .int (nI i))] [] (nx, ct, mi, ml, mr) (pR (fun v τ => v = some (.int (nI (c + cF (fun i => aheadL L i k) f i))) ∧ τ = (nx, ct, mi, ml, mr))) := by
    intro f
    induction f with
    | zero =>
      intro i c hi hf
      refine ru_iload_n d_RL_countAhead_4 rfl rfl ?_
      refine ru_aload_n d_RL_countAhead_5 rfl rfl ?_
      refine ru_getI d_RL_countAhead_6 lf_RL_18 (ly_b hL hb) rfl ?_
      refine ru_eqi hl.1 ?_
      refine ru_icmp_ge (tgt := 30) d_RL_countAhead_9 (by decide) (fun h9 => ?_) (fun h9 => absurd (nI_le (by omega) (by omega)) h9)
      replace h9 := nm_le (a := L.length) (b := i) (by omega) (by omega) h9
      refine ru_iload_n d_RL_countAhead_30 rfl rfl ?_
      refine ru_iret d_RL_countAhead_31 rfl ?_
      exact ⟨rfl, rfl⟩
    | succ f ih =>
      intro i c hi hf
      unfold cF
      refine ru_iload_n d_RL_countAhead_4 rfl rfl ?_
      refine ru_aload_n d_RL_countAhead_5 rfl rfl ?_
      refine ru_getI d_RL_countAhead_6 lf_RL_18 (ly_b hL hb) rfl ?_
      refine ru_eqi hl.1 ?_
      refine ru_icmp_ge (tgt := 30) d_RL_countAhead_9 (by decide) (fun h9 => absurd h9 (nI_ge (by omega) (by omega))) (fun h9 => ?_)
      replace h9 := nm_nle (a := L.length) (b := i) (by omega) (by omega) h9
      refine ru_aload_n d_RL_countAhead_12 rfl rfl ?_
      refine ru_iload_n d_RL_countAhead_13 rfl rfl ?_
      refine ru_iload_n d_RL_countAhead_14 rfl rfl ?_
      refine ru_callV (mc := 0) (ms := 0) d_RL_countAhead_15 lm_RL_22 (sp_isAhead hL hb hl (by omega) hk) (rx_recv_is (ly_b hL hb) kx_RL) (by decide) rfl (Nat.le_of_ble_eq_true rfl) ?_
      intro v τ h
      obtain ⟨rfl, rfl⟩ := h
      refine ru_if_eq (tgt := 24) d_RL_countAhead_18 (by decide) (fun h18 => ?_) (fun h18 => ?_)
      · skip
        replace h18 := bI_eq0.mp h18
        refine ru_iinc (v := nI (i + 1)) d_RL_countAhead_24 rfl (nm_inc _ 1) (by decide) ?_
        refine ru_goto (tgt := 4) d_RL_countAhead_27 (by decide) ?_
        first | (rw [if_pos h18, ← Nat.add_assoc]; exact ru_to (ih (i + 1) _ (by omega) (by omega)) ⟨rfl, rfl, rfl, rfl, trivial⟩) | (rw [if_neg h18, Nat.zero_add]; exact ru_to (ih (i + 1) _ (by omega) (by omega)) ⟨rfl, rfl, rfl, rfl, trivial⟩)
      · skip
        replace h18 := bI_ne0.mp h18
        refine ru_iinc (v := nI (c + 1)) d_RL_countAhead_21 rfl (nm_inc _ 1) (by decide) ?_
        refine ru_iinc (v := nI (i + 1)) d_RL_countAhead_24 rfl (nm_inc _ 1) (by decide) ?_
        refine ru_goto (tgt := 4) d_RL_countAhead_27 (by decide) ?_
        first | (rw [if_pos h18, ← Nat.add_assoc]; exact ru_to (ih (i + 1) _ (by omega) (by omega)) ⟨rfl, rfl, rfl, rfl, trivial⟩) | (rw [if_neg h18, Nat.zero_add]; exact ru_to (ih (i + 1) _ (by omega) (by omega)) ⟨rfl, rfl, rfl, rfl, trivial⟩)
  refine ru_iconst (v := 0) d_RL_countAhead_0 (by decide) ?_
  refine ru_istore_n d_RL_countAhead_1 rfl (by decide) ?_
  refine ru_iconst (v := 0) d_RL_countAhead_2 (by decide) ?_
  refine ru_istore_n d_RL_countAhead_3 rfl (by decide) ?_
  have z := loop L.length 0 0 (by omega) rfl
  rw [Nat.zero_add] at z
  exact ru_to z ⟨rfl, rfl, rfl, rfl, trivial⟩
theorem sp_isBeaten {k : Nat} (hL : LAY nx ct mr) (hb : isLst b) (hl : LsI mi ml mr b L) (hk : k < L.length) : rx_Calls y_RL_isBeaten M_RL_isBeaten 3 0 0 [.ref b, .int (nI k), .ref 260] (nx, ct, mi, ml, mr) (fun v τ => v = some (.int (bI (beatL (shT mi) (shQ ml) L k))) ∧ τ = (nx, ct, mi, ml, mr)) := by
  refine rx_enter (by decide) rfl rfl (Nat.le_of_ble_eq_true rfl) ?_
  have l2 := hl.2.1
  obtain ⟨q', hq'⟩ := getL hk
  have c' := hl.2.2 k q' hq'
  unfold beatL
  have loop : ∀ f i, i ≤ L.length → f = L.length - i → ¬ exB (fun i => aheadL L i k ∧ coversL (shT mi) (shQ ml) L i k) i → rx_W M_RL_isBeaten 3 0 0 2 [(0, .ref b), (1, .int (nI k)), (2, .ref 260), (3, .int (nI i))] [] (nx, ct, mi, ml, mr) (pR (fun v τ => v = some (.int (bI (exB (fun i => aheadL L i k ∧ coversL (shT mi) (shQ ml) L i k) L.length))) ∧ τ = (nx, ct, mi, ml, mr))) := by
    intro f
    induction f with
    | zero =>
      intro i hi hf hn
      rw [show i = L.length by omega] at hn
      rw [bI_f hn]
      refine ru_iload_n d_RL_isBeaten_2 rfl rfl ?_
      refine ru_aload_n d_RL_isBeaten_3 rfl rfl ?_
      refine ru_getI d_RL_isBeaten_4 lf_RL_18 (ly_b hL hb) rfl ?_
      refine ru_eqi hl.1 ?_
      refine ru_icmp_ge (tgt := 46) d_RL_isBeaten_7 (by decide) (fun h7 => ?_) (fun h7 => absurd (nI_le (by omega) (by omega)) h7)
      replace h7 := nm_le (a := L.length) (b := i) (by omega) (by omega) h7
      refine ru_iconst (v := 0) d_RL_isBeaten_46 (by decide) ?_
      refine ru_zret (ty := .boolean) d_RL_isBeaten_47 rfl rfl ?_
      exact ⟨rfl, rfl⟩
    | succ f ih =>
      intro i hi hf hn
      have hi2 : i < L.length := by omega
      obtain ⟨q, hq⟩ := getL hi2
      have c := hl.2.2 i q hq
      have es := exB_s (fun i => aheadL L i k ∧ coversL (shT mi) (shQ ml) L i k) i
      have ec : coversL (shT mi) (shQ ml) L i k ↔ coversP (shT mi) (shQ ml) q q' := exL2 (P := fun q q' => coversP (shT mi) (shQ ml) q q') hq hq'
      refine ru_iload_n d_RL_isBeaten_2 rfl rfl ?_
      refine ru_aload_n d_RL_isBeaten_3 rfl rfl ?_
      refine ru_getI d_RL_isBeaten_4 lf_RL_18 (ly_b hL hb) rfl ?_
      refine ru_eqi hl.1 ?_
      refine ru_icmp_ge (tgt := 46) d_RL_isBeaten_7 (by decide) (fun h7 => absurd h7 (nI_ge (by omega) (by omega))) (fun h7 => ?_)
      replace h7 := nm_nle (a := L.length) (b := i) (by omega) (by omega) h7
      refine ru_aload_n d_RL_isBeaten_10 rfl rfl ?_
      refine ru_iload_n d_RL_isBeaten_11 rfl rfl ?_
      refine ru_iload_n d_RL_isBeaten_12 rfl rfl ?_
      refine ru_callV (mc := 0) (ms := 0) d_RL_isBeaten_13 lm_RL_22 (sp_isAhead hL hb hl hi2 hk) (rx_recv_is (ly_b hL hb) kx_RL) (by decide) rfl (Nat.le_of_ble_eq_true rfl) ?_
      intro v τ h
      obtain ⟨rfl, rfl⟩ := h
      refine ru_if_eq (tgt := 40) d_RL_isBeaten_16 (by decide) (fun h16 => ?_) (fun h16 => ?_)
      · skip
        replace h16 := bI_eq0.mp h16
        refine ru_iinc (v := nI (i + 1)) d_RL_isBeaten_40 rfl (nm_inc _ 1) (by decide) ?_
        refine ru_goto (tgt := 2) d_RL_isBeaten_43 (by decide) ?_
        first | exact ru_to (ih (i + 1) (by omega) (by omega) (fun z => (es.mp z).elim hn (fun w => h16 w.1))) ⟨rfl, rfl, rfl, rfl, trivial⟩ | exact ru_to (ih (i + 1) (by omega) (by omega) (fun z => (es.mp z).elim hn (fun w => h35 (ec.mp w.2)))) ⟨rfl, rfl, rfl, rfl, trivial⟩
      · skip
        replace h16 := bI_ne0.mp h16
        refine ru_aload_n d_RL_isBeaten_19 rfl rfl ?_
        refine ru_getR d_RL_isBeaten_20 lf_RL_11 (ly_b hL hb) rfl (lr_b hL hb) ?_
        refine ru_iload_n d_RL_isBeaten_23 rfl rfl ?_
        refine ru_aldq (Cn := "RuleText$Rule") d_RL_isBeaten_24 (ly_bi hL hb) (by decide) (fun _ => rfl) (al_in (by omega)) (al_mr hL hb (by omega)) ?_
        refine ru_aload_n d_RL_isBeaten_25 rfl rfl ?_
        refine ru_getR d_RL_isBeaten_26 lf_RL_11 (ly_b hL hb) rfl (lr_b hL hb) ?_
        refine ru_iload_n d_RL_isBeaten_29 rfl rfl ?_
        refine ru_aldq (Cn := "RuleText$Rule") d_RL_isBeaten_30 (ly_bi hL hb) (by decide) (fun _ => rfl) (al_in (by omega)) (al_mr hL hb (by omega)) ?_
        refine ru_aload_n d_RL_isBeaten_31 rfl rfl ?_
        refine ru_callV (mc := 0) (ms := 0) d_RL_isBeaten_32 lm_RL_33 (sp_covers hL (isRu_b hb (by omega)) (isRu_b hb (by omega)) c.1 c'.1 c.2 c'.2) (rx_recv_is (ly_ru hL (isRu_b hb (show i < 60 by omega))) kx_Ru) (by decide) rfl (Nat.le_of_ble_eq_true rfl) ?_
        intro v τ h
        obtain ⟨rfl, rfl⟩ := h
        refine ru_if_eq (tgt := 40) d_RL_isBeaten_35 (by decide) (fun h35 => ?_) (fun h35 => ?_)
        · skip
          replace h35 := bI_eq0.mp h35
          refine ru_iinc (v := nI (i + 1)) d_RL_isBeaten_40 rfl (nm_inc _ 1) (by decide) ?_
          refine ru_goto (tgt := 2) d_RL_isBeaten_43 (by decide) ?_
          first | exact ru_to (ih (i + 1) (by omega) (by omega) (fun z => (es.mp z).elim hn (fun w => h16 w.1))) ⟨rfl, rfl, rfl, rfl, trivial⟩ | exact ru_to (ih (i + 1) (by omega) (by omega) (fun z => (es.mp z).elim hn (fun w => h35 (ec.mp w.2)))) ⟨rfl, rfl, rfl, rfl, trivial⟩
        · skip
          replace h35 := bI_ne0.mp h35
          refine ru_iconst (v := 1) d_RL_isBeaten_38 (by decide) ?_
          refine ru_zret (ty := .boolean) d_RL_isBeaten_39 rfl rfl ?_
          rw [bI_t ⟨i, hi2, h16, ec.mpr h35⟩]
          exact ⟨rfl, rfl⟩
  refine ru_iconst (v := 0) d_RL_isBeaten_0 (by decide) ?_
  refine ru_istore_n d_RL_isBeaten_1 rfl (by decide) ?_
  exact ru_to (loop L.length 0 (by omega) rfl (exB_0 _)) ⟨rfl, rfl, rfl, rfl, trivial⟩
theorem oddsP_12 {T : Nat → Int32} {Q : Nat → Nat → Int64} {q q' : ruS} (h : q.1 = 12 ∨ q'.1 = 12) : ¬ oddsP T Q q q' := fun z => h.elim z.1 z.2.1
theorem sp_areAtOdds {i k : Nat} (hL : LAY nx ct mr) (hb : isLst b) (hl : LsI mi ml mr b L) (hi : i < L.length) (hk : k < L.length) : rx_Calls y_RL_areAtOdds M_RL_areAtOdds 3 0 0 [.ref b, .int (nI i), .int (nI k), .ref 260] (nx, ct, mi, ml, mr) (fun v τ => v = some (.int (bI (oddsL (shT mi) (shQ ml) L i k))) ∧ τ = (nx, ct, mi, ml, mr)) := by
  refine rx_enter (by decide) rfl rfl (Nat.le_of_ble_eq_true rfl) ?_
  have l2 := hl.2.1
  obtain ⟨q, hq⟩ := getL hi
  obtain ⟨q', hq'⟩ := getL hk
  have c := hl.2.2 i q hq
  have c' := hl.2.2 k q' hq'
  rw [show oddsL (shT mi) (shQ ml) L i k = oddsP (shT mi) (shQ ml) q q' from propext (exL2 (P := fun q q' => oddsP (shT mi) (shQ ml) q q') hq hq')]
  by_cases w : q.1 = 12 ∨ q'.1 = 12
  · rw [bI_f (oddsP_12 w)]
    refine ru_aload_n d_RL_areAtOdds_0 rfl rfl ?_
    refine ru_getR d_RL_areAtOdds_1 lf_RL_11 (ly_b hL hb) rfl (lr_b hL hb) ?_
    refine ru_iload_n d_RL_areAtOdds_4 rfl rfl ?_
    refine ru_aldq (Cn := "RuleText$Rule") d_RL_areAtOdds_5 (ly_bi hL hb) (by decide) (fun _ => rfl) (al_in (by omega)) (al_mr hL hb (by omega)) ?_
    refine ru_astore d_RL_areAtOdds_6 (by decide) ?_
    refine ru_aload_n d_RL_areAtOdds_8 rfl rfl ?_
    refine ru_getR d_RL_areAtOdds_9 lf_RL_11 (ly_b hL hb) rfl (lr_b hL hb) ?_
    refine ru_iload_n d_RL_areAtOdds_12 rfl rfl ?_
    refine ru_aldq (Cn := "RuleText$Rule") d_RL_areAtOdds_13 (ly_bi hL hb) (by decide) (fun _ => rfl) (al_in (by omega)) (al_mr hL hb (by omega)) ?_
    refine ru_astore d_RL_areAtOdds_14 (by decide) ?_
    refine ru_aload d_RL_areAtOdds_16 rfl ?_
    refine ru_callV (mc := 0) (ms := 0) d_RL_areAtOdds_18 lm_RL_26 (sp_isWaiver hL (isRu_b hb (by omega)) c.1 c.2) (rx_recv_is (ly_ru hL (isRu_b hb (show i < 60 by omega))) kx_Ru) (by decide) rfl (Nat.le_of_ble_eq_true rfl) ?_
    intro v τ h
    obtain ⟨rfl, rfl⟩ := h
    refine ru_if_ne (tgt := 42) d_RL_areAtOdds_21 (by decide) (fun h21 => ?_) (fun h21 => ?_)
    · skip
      replace h21 := bI_ne0.mp h21
      refine ru_iconst (v := 0) d_RL_areAtOdds_42 (by decide) ?_
      refine ru_zret (ty := .boolean) d_RL_areAtOdds_43 rfl rfl ?_
      exact ⟨rfl, rfl⟩
    · skip
      replace h21 := bI_eq0.mp h21
      refine ru_aload d_RL_areAtOdds_24 rfl ?_
      refine ru_callV (mc := 0) (ms := 0) d_RL_areAtOdds_26 lm_RL_26 (sp_isWaiver hL (isRu_b hb (by omega)) c'.1 c'.2) (rx_recv_is (ly_ru hL (isRu_b hb (show k < 60 by omega))) kx_Ru) (by decide) rfl (Nat.le_of_ble_eq_true rfl) ?_
      intro v τ h
      obtain ⟨rfl, rfl⟩ := h
      refine ru_if_ne (tgt := 42) d_RL_areAtOdds_29 (by decide) (fun h29 => ?_) (fun h29 => ?_)
      · skip
        replace h29 := bI_ne0.mp h29
        refine ru_iconst (v := 0) d_RL_areAtOdds_42 (by decide) ?_
        refine ru_zret (ty := .boolean) d_RL_areAtOdds_43 rfl rfl ?_
        exact ⟨rfl, rfl⟩
      · skip
        replace h29 := bI_eq0.mp h29
        exact absurd w (fun z => z.elim h21 h29)
  · have w1 : ¬ q.1 = 12 := fun z => w (Or.inl z)
    have w2 : ¬ q'.1 = 12 := fun z => w (Or.inr z)
    unfold oddsP
    refine ru_aload_n d_RL_areAtOdds_0 rfl rfl ?_
    refine ru_getR d_RL_areAtOdds_1 lf_RL_11 (ly_b hL hb) rfl (lr_b hL hb) ?_
    refine ru_iload_n d_RL_areAtOdds_4 rfl rfl ?_
    refine ru_aldq (Cn := "RuleText$Rule") d_RL_areAtOdds_5 (ly_bi hL hb) (by decide) (fun _ => rfl) (al_in (by omega)) (al_mr hL hb (by omega)) ?_
    refine ru_astore d_RL_areAtOdds_6 (by decide) ?_
    refine ru_aload_n d_RL_areAtOdds_8 rfl rfl ?_
    refine ru_getR d_RL_areAtOdds_9 lf_RL_11 (ly_b hL hb) rfl (lr_b hL hb) ?_
    refine ru_iload_n d_RL_areAtOdds_12 rfl rfl ?_
    refine ru_aldq (Cn := "RuleText$Rule") d_RL_areAtOdds_13 (ly_bi hL hb) (by decide) (fun _ => rfl) (al_in (by omega)) (al_mr hL hb (by omega)) ?_
    refine ru_astore d_RL_areAtOdds_14 (by decide) ?_
    refine ru_aload d_RL_areAtOdds_16 rfl ?_
    refine ru_callV (mc := 0) (ms := 0) d_RL_areAtOdds_18 lm_RL_26 (sp_isWaiver hL (isRu_b hb (by omega)) c.1 c.2) (rx_recv_is (ly_ru hL (isRu_b hb (show i < 60 by omega))) kx_Ru) (by decide) rfl (Nat.le_of_ble_eq_true rfl) ?_
    intro v τ h
    obtain ⟨rfl, rfl⟩ := h
    refine ru_if_ne (tgt := 42) d_RL_areAtOdds_21 (by decide) (fun h21 => absurd (bI_f w1) h21) (fun h21 => ?_)
    refine ru_aload d_RL_areAtOdds_24 rfl ?_
    refine ru_callV (mc := 0) (ms := 0) d_RL_areAtOdds_26 lm_RL_26 (sp_isWaiver hL (isRu_b hb (by omega)) c'.1 c'.2) (rx_recv_is (ly_ru hL (isRu_b hb (show k < 60 by omega))) kx_Ru) (by decide) rfl (Nat.le_of_ble_eq_true rfl) ?_
    intro v τ h
    obtain ⟨rfl, rfl⟩ := h
    refine ru_if_ne (tgt := 42) d_RL_areAtOdds_29 (by decide) (fun h29 => absurd (bI_f w2) h29) (fun h29 => ?_)
    refine ru_aload d_RL_areAtOdds_32 rfl ?_
    refine ru_aload d_RL_areAtOdds_34 rfl ?_
    refine ru_callV (mc := 0) (ms := 0) d_RL_areAtOdds_36 lm_RL_37 (sp_shares hL (isRu_b hb (by omega)) (isRu_b hb (by omega)) c.1 c'.1 (c.2.2.2.2.2.2.1 w1) (c'.2.2.2.2.2.2.1 w2)) (rx_recv_is (ly_ru hL (isRu_b hb (show i < 60 by omega))) kx_Ru) (by decide) rfl (Nat.le_of_ble_eq_true rfl) ?_
    intro v τ h
    obtain ⟨rfl, rfl⟩ := h
    refine ru_if_eq (tgt := 44) d_RL_areAtOdds_39 (by decide) (fun h39 => ?_) (fun h39 => ?_)
    · skip
      replace h39 := bI_eq0.mp h39
      refine ru_aload d_RL_areAtOdds_44 rfl ?_
      refine ru_aload d_RL_areAtOdds_46 rfl ?_
      refine ru_aload_n d_RL_areAtOdds_48 rfl rfl ?_
      refine ru_callV (mc := 0) (ms := 0) d_RL_areAtOdds_49 lm_RL_33 (sp_covers hL (isRu_b hb (by omega)) (isRu_b hb (by omega)) c.1 c'.1 c.2 c'.2) (rx_recv_is (ly_ru hL (isRu_b hb (show i < 60 by omega))) kx_Ru) (by decide) rfl (Nat.le_of_ble_eq_true rfl) ?_
      intro v τ h
      obtain ⟨rfl, rfl⟩ := h
      refine ru_if_eq (tgt := 70) d_RL_areAtOdds_52 (by decide) (fun h52 => ?_) (fun h52 => ?_)
      · skip
        replace h52 := bI_eq0.mp h52
        refine ru_iconst (v := 0) d_RL_areAtOdds_70 (by decide) ?_
        refine ru_zret (ty := .boolean) d_RL_areAtOdds_71 rfl rfl ?_
        first | (rw [bI_t (by grind)]; exact ⟨rfl, rfl⟩) | (rw [bI_f (by grind)]; exact ⟨rfl, rfl⟩)
      · skip
        replace h52 := bI_ne0.mp h52
        refine ru_aload d_RL_areAtOdds_55 rfl ?_
        refine ru_aload d_RL_areAtOdds_57 rfl ?_
        refine ru_aload_n d_RL_areAtOdds_59 rfl rfl ?_
        refine ru_callV (mc := 0) (ms := 0) d_RL_areAtOdds_60 lm_RL_33 (sp_covers hL (isRu_b hb (by omega)) (isRu_b hb (by omega)) c'.1 c.1 c'.2 c.2) (rx_recv_is (ly_ru hL (isRu_b hb (show k < 60 by omega))) kx_Ru) (by decide) rfl (Nat.le_of_ble_eq_true rfl) ?_
        intro v τ h
        obtain ⟨rfl, rfl⟩ := h
        refine ru_if_eq (tgt := 70) d_RL_areAtOdds_63 (by decide) (fun h63 => ?_) (fun h63 => ?_)
        · skip
          replace h63 := bI_eq0.mp h63
          refine ru_iconst (v := 0) d_RL_areAtOdds_70 (by decide) ?_
          refine ru_zret (ty := .boolean) d_RL_areAtOdds_71 rfl rfl ?_
          first | (rw [bI_t (by grind)]; exact ⟨rfl, rfl⟩) | (rw [bI_f (by grind)]; exact ⟨rfl, rfl⟩)
        · skip
          replace h63 := bI_ne0.mp h63
          refine ru_iconst (v := 1) d_RL_areAtOdds_66 (by decide) ?_
          refine ru_goto (tgt := 71) d_RL_areAtOdds_67 (by decide) ?_
          refine ru_zret (ty := .boolean) d_RL_areAtOdds_71 rfl rfl ?_
          first | (rw [bI_t (by grind)]; exact ⟨rfl, rfl⟩) | (rw [bI_f (by grind)]; exact ⟨rfl, rfl⟩)
    · skip
      replace h39 := bI_ne0.mp h39
      refine ru_iconst (v := 0) d_RL_areAtOdds_42 (by decide) ?_
      refine ru_zret (ty := .boolean) d_RL_areAtOdds_43 rfl rfl ?_
      first | (rw [bI_t (by grind)]; exact ⟨rfl, rfl⟩) | (rw [bI_f (by grind)]; exact ⟨rfl, rfl⟩)
end
