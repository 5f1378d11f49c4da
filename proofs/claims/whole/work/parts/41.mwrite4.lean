/-! The reference writes -/
theorem d_Mo_sayRule_0 : decode M_Mo_sayRule.2.1 0 = .ok (.aload_n 0, 1) := by decide +kernel
theorem d_Mo_sayRule_1 : decode M_Mo_sayRule.2.1 1 = .ok (.getfield 27, 3) := by decide +kernel
theorem d_Mo_sayRule_4 : decode M_Mo_sayRule.2.1 4 = .ok (.iload_n 1, 1) := by decide +kernel
theorem d_Mo_sayRule_5 : decode M_Mo_sayRule.2.1 5 = .ok (.laload, 1) := by decide +kernel
theorem d_Mo_sayRule_6 : decode M_Mo_sayRule.2.1 6 = .ok (.l2i, 1) := by decide +kernel
theorem d_Mo_sayRule_7 : decode M_Mo_sayRule.2.1 7 = .ok (.istore_n 2, 1) := by decide +kernel
theorem d_Mo_sayRule_8 : decode M_Mo_sayRule.2.1 8 = .ok (.aload_n 0, 1) := by decide +kernel
theorem d_Mo_sayRule_9 : decode M_Mo_sayRule.2.1 9 = .ok (.iload_n 2, 1) := by decide +kernel
theorem d_Mo_sayRule_10 : decode M_Mo_sayRule.2.1 10 = .ok (.invokestatic 158, 3) := by decide +kernel
theorem d_Mo_sayRule_13 : decode M_Mo_sayRule.2.1 13 = .ok (.invokevirtual 223, 3) := by decide +kernel
theorem d_Mo_sayRule_16 : decode M_Mo_sayRule.2.1 16 = .ok (.iload_n 2, 1) := by decide +kernel
theorem d_Mo_sayRule_17 : decode M_Mo_sayRule.2.1 17 = .ok (.ifCond .ne 23, 3) := by decide +kernel
theorem d_Mo_sayRule_20 : decode M_Mo_sayRule.2.1 20 = .ok (.aload_n 0, 1) := by decide +kernel
theorem d_Mo_sayRule_21 : decode M_Mo_sayRule.2.1 21 = .ok (.iconst 2, 1) := by decide +kernel
theorem d_Mo_sayRule_22 : decode M_Mo_sayRule.2.1 22 = .ok (.iconst 5, 1) := by decide +kernel
theorem d_Mo_sayRule_23 : decode M_Mo_sayRule.2.1 23 = .ok (.bipush 20, 2) := by decide +kernel
theorem d_Mo_sayRule_25 : decode M_Mo_sayRule.2.1 25 = .ok (.bipush 23, 2) := by decide +kernel
theorem d_Mo_sayRule_27 : decode M_Mo_sayRule.2.1 27 = .ok (.iconst 5, 1) := by decide +kernel
theorem d_Mo_sayRule_28 : decode M_Mo_sayRule.2.1 28 = .ok (.iconst 5, 1) := by decide +kernel
theorem d_Mo_sayRule_29 : decode M_Mo_sayRule.2.1 29 = .ok (.bipush 14, 2) := by decide +kernel
theorem d_Mo_sayRule_31 : decode M_Mo_sayRule.2.1 31 = .ok (.invokestatic 68, 3) := by decide +kernel
theorem d_Mo_sayRule_34 : decode M_Mo_sayRule.2.1 34 = .ok (.invokevirtual 223, 3) := by decide +kernel
theorem d_Mo_sayRule_37 : decode M_Mo_sayRule.2.1 37 = .ok (.goto 16, 3) := by decide +kernel
theorem d_Mo_sayRule_40 : decode M_Mo_sayRule.2.1 40 = .ok (.iload_n 2, 1) := by decide +kernel
theorem d_Mo_sayRule_41 : decode M_Mo_sayRule.2.1 41 = .ok (.bipush 12, 2) := by decide +kernel
theorem d_Mo_sayRule_43 : decode M_Mo_sayRule.2.1 43 = .ok (.if_icmp .eq 10, 3) := by decide +kernel
theorem d_Mo_sayRule_46 : decode M_Mo_sayRule.2.1 46 = .ok (.aload_n 0, 1) := by decide +kernel
theorem d_Mo_sayRule_47 : decode M_Mo_sayRule.2.1 47 = .ok (.ldc2_w 170, 3) := by decide +kernel
theorem d_Mo_sayRule_50 : decode M_Mo_sayRule.2.1 50 = .ok (.invokevirtual 223, 3) := by decide +kernel
theorem d_Mo_sayRule_53 : decode M_Mo_sayRule.2.1 53 = .ok (.aload_n 0, 1) := by decide +kernel
theorem d_Mo_sayRule_54 : decode M_Mo_sayRule.2.1 54 = .ok (.iload_n 1, 1) := by decide +kernel
theorem d_Mo_sayRule_55 : decode M_Mo_sayRule.2.1 55 = .ok (.iconst 1, 1) := by decide +kernel
theorem d_Mo_sayRule_56 : decode M_Mo_sayRule.2.1 56 = .ok (.iadd, 1) := by decide +kernel
theorem d_Mo_sayRule_57 : decode M_Mo_sayRule.2.1 57 = .ok (.invokevirtual 230, 3) := by decide +kernel
theorem d_Mo_sayRule_60 : decode M_Mo_sayRule.2.1 60 = .ok (.iload_n 2, 1) := by decide +kernel
theorem d_Mo_sayRule_61 : decode M_Mo_sayRule.2.1 61 = .ok (.ifCond .eq 9, 3) := by decide +kernel
theorem d_Mo_sayRule_64 : decode M_Mo_sayRule.2.1 64 = .ok (.iload_n 2, 1) := by decide +kernel
theorem d_Mo_sayRule_65 : decode M_Mo_sayRule.2.1 65 = .ok (.bipush 12, 2) := by decide +kernel
theorem d_Mo_sayRule_67 : decode M_Mo_sayRule.2.1 67 = .ok (.if_icmp .ne 17, 3) := by decide +kernel
theorem d_Mo_sayRule_70 : decode M_Mo_sayRule.2.1 70 = .ok (.aload_n 0, 1) := by decide +kernel
theorem d_Mo_sayRule_71 : decode M_Mo_sayRule.2.1 71 = .ok (.ldc2_w 168, 3) := by decide +kernel
theorem d_Mo_sayRule_74 : decode M_Mo_sayRule.2.1 74 = .ok (.invokevirtual 223, 3) := by decide +kernel
theorem d_Mo_sayRule_77 : decode M_Mo_sayRule.2.1 77 = .ok (.aload_n 0, 1) := by decide +kernel
theorem d_Mo_sayRule_78 : decode M_Mo_sayRule.2.1 78 = .ok (.iload_n 1, 1) := by decide +kernel
theorem d_Mo_sayRule_79 : decode M_Mo_sayRule.2.1 79 = .ok (.iconst 3, 1) := by decide +kernel
theorem d_Mo_sayRule_80 : decode M_Mo_sayRule.2.1 80 = .ok (.iadd, 1) := by decide +kernel
theorem d_Mo_sayRule_81 : decode M_Mo_sayRule.2.1 81 = .ok (.invokevirtual 230, 3) := by decide +kernel
theorem d_Mo_sayRule_84 : decode M_Mo_sayRule.2.1 84 = .ok (.iload_n 2, 1) := by decide +kernel
theorem d_Mo_sayRule_85 : decode M_Mo_sayRule.2.1 85 = .ok (.bipush 12, 2) := by decide +kernel
theorem d_Mo_sayRule_87 : decode M_Mo_sayRule.2.1 87 = .ok (.if_icmp .eq 8, 3) := by decide +kernel
theorem d_Mo_sayRule_90 : decode M_Mo_sayRule.2.1 90 = .ok (.aload_n 0, 1) := by decide +kernel
theorem d_Mo_sayRule_91 : decode M_Mo_sayRule.2.1 91 = .ok (.iload_n 1, 1) := by decide +kernel
theorem d_Mo_sayRule_92 : decode M_Mo_sayRule.2.1 92 = .ok (.invokevirtual 233, 3) := by decide +kernel
theorem d_Mo_sayRule_95 : decode M_Mo_sayRule.2.1 95 = .ok (.aload_n 0, 1) := by decide +kernel
theorem d_Mo_sayRule_96 : decode M_Mo_sayRule.2.1 96 = .ok (.bipush 32, 2) := by decide +kernel
theorem d_Mo_sayRule_98 : decode M_Mo_sayRule.2.1 98 = .ok (.invokevirtual 218, 3) := by decide +kernel
theorem d_Mo_sayRule_101 : decode M_Mo_sayRule.2.1 101 = .ok (.aload_n 0, 1) := by decide +kernel
theorem d_Mo_sayRule_102 : decode M_Mo_sayRule.2.1 102 = .ok (.bipush 59, 2) := by decide +kernel
theorem d_Mo_sayRule_104 : decode M_Mo_sayRule.2.1 104 = .ok (.invokevirtual 218, 3) := by decide +kernel
theorem d_Mo_sayRule_107 : decode M_Mo_sayRule.2.1 107 = .ok (.aload_n 0, 1) := by decide +kernel
theorem d_Mo_sayRule_108 : decode M_Mo_sayRule.2.1 108 = .ok (.bipush 10, 2) := by decide +kernel
theorem d_Mo_sayRule_110 : decode M_Mo_sayRule.2.1 110 = .ok (.invokevirtual 218, 3) := by decide +kernel
theorem d_Mo_sayRule_113 : decode M_Mo_sayRule.2.1 113 = .ok (.return_, 1) := by decide +kernel
theorem d_Mo_write_0 : decode M_Mo_write.2.1 0 = .ok (.aload_n 0, 1) := by decide +kernel
theorem d_Mo_write_1 : decode M_Mo_write.2.1 1 = .ok (.iload_n 1, 1) := by decide +kernel
theorem d_Mo_write_2 : decode M_Mo_write.2.1 2 = .ok (.ifCond .ge 7, 3) := by decide +kernel
theorem d_Mo_write_5 : decode M_Mo_write.2.1 5 = .ok (.iconst 1, 1) := by decide +kernel
theorem d_Mo_write_6 : decode M_Mo_write.2.1 6 = .ok (.goto 4, 3) := by decide +kernel
theorem d_Mo_write_9 : decode M_Mo_write.2.1 9 = .ok (.iconst 0, 1) := by decide +kernel
theorem d_Mo_write_10 : decode M_Mo_write.2.1 10 = .ok (.putfield 39, 3) := by decide +kernel
theorem d_Mo_write_13 : decode M_Mo_write.2.1 13 = .ok (.aload_n 0, 1) := by decide +kernel
theorem d_Mo_write_14 : decode M_Mo_write.2.1 14 = .ok (.getfield 39, 3) := by decide +kernel
theorem d_Mo_write_17 : decode M_Mo_write.2.1 17 = .ok (.ifCond .eq 5, 3) := by decide +kernel
theorem d_Mo_write_20 : decode M_Mo_write.2.1 20 = .ok (.iconst 0, 1) := by decide +kernel
theorem d_Mo_write_21 : decode M_Mo_write.2.1 21 = .ok (.ireturn, 1) := by decide +kernel
theorem d_Mo_write_22 : decode M_Mo_write.2.1 22 = .ok (.aload_n 0, 1) := by decide +kernel
theorem d_Mo_write_23 : decode M_Mo_write.2.1 23 = .ok (.iconst 0, 1) := by decide +kernel
theorem d_Mo_write_24 : decode M_Mo_write.2.1 24 = .ok (.putfield 215, 3) := by decide +kernel
theorem d_Mo_write_27 : decode M_Mo_write.2.1 27 = .ok (.iconst 0, 1) := by decide +kernel
theorem d_Mo_write_28 : decode M_Mo_write.2.1 28 = .ok (.istore_n 2, 1) := by decide +kernel
theorem d_Mo_write_29 : decode M_Mo_write.2.1 29 = .ok (.iload_n 2, 1) := by decide +kernel
theorem d_Mo_write_30 : decode M_Mo_write.2.1 30 = .ok (.aload_n 0, 1) := by decide +kernel
theorem d_Mo_write_31 : decode M_Mo_write.2.1 31 = .ok (.getfield 189, 3) := by decide +kernel
theorem d_Mo_write_34 : decode M_Mo_write.2.1 34 = .ok (.if_icmp .ge 17, 3) := by decide +kernel
theorem d_Mo_write_37 : decode M_Mo_write.2.1 37 = .ok (.aload_n 0, 1) := by decide +kernel
theorem d_Mo_write_38 : decode M_Mo_write.2.1 38 = .ok (.bipush 12, 2) := by decide +kernel
theorem d_Mo_write_40 : decode M_Mo_write.2.1 40 = .ok (.iload_n 2, 1) := by decide +kernel
theorem d_Mo_write_41 : decode M_Mo_write.2.1 41 = .ok (.imul, 1) := by decide +kernel
theorem d_Mo_write_42 : decode M_Mo_write.2.1 42 = .ok (.invokevirtual 239, 3) := by decide +kernel
theorem d_Mo_write_45 : decode M_Mo_write.2.1 45 = .ok (.iinc 2 1, 3) := by decide +kernel
theorem d_Mo_write_48 : decode M_Mo_write.2.1 48 = .ok (.goto (-19), 3) := by decide +kernel
theorem d_Mo_write_51 : decode M_Mo_write.2.1 51 = .ok (.iload_n 1, 1) := by decide +kernel
theorem d_Mo_write_52 : decode M_Mo_write.2.1 52 = .ok (.aload_n 0, 1) := by decide +kernel
theorem d_Mo_write_53 : decode M_Mo_write.2.1 53 = .ok (.getfield 215, 3) := by decide +kernel
theorem d_Mo_write_56 : decode M_Mo_write.2.1 56 = .ok (.if_icmp .ge 12, 3) := by decide +kernel
theorem d_Mo_write_59 : decode M_Mo_write.2.1 59 = .ok (.aload_n 0, 1) := by decide +kernel
theorem d_Mo_write_60 : decode M_Mo_write.2.1 60 = .ok (.getfield 36, 3) := by decide +kernel
theorem d_Mo_write_63 : decode M_Mo_write.2.1 63 = .ok (.iload_n 1, 1) := by decide +kernel
theorem d_Mo_write_64 : decode M_Mo_write.2.1 64 = .ok (.iaload, 1) := by decide +kernel
theorem d_Mo_write_65 : decode M_Mo_write.2.1 65 = .ok (.goto 4, 3) := by decide +kernel
theorem d_Mo_write_68 : decode M_Mo_write.2.1 68 = .ok (.iconst (-1), 1) := by decide +kernel
theorem d_Mo_write_69 : decode M_Mo_write.2.1 69 = .ok (.ireturn, 1) := by decide +kernel
theorem wRes_10 {N : nmS} {κ : Nat} {q : reS} (hO : NmOK N) (ha : ∀ x, q.2.1 = some x → x < 16) : no10 (wRes N κ q) := by
  obtain ⟨y, a, r, e⟩ := q
  dsimp only at ha
  have nl : no10 [] := fun c hc => by cases hc
  unfold wRes
  refine no10_app ?_ (no10_app ?_ (no10_app ?_ (no10_app ?_ ?_)))
  · show no10 (wLay y)
    unfold wLay
    repeat' split
    · exact nl
    · exact no10_app (no10_w 6) (no10_w 8)
    · exact no10_app (no10_w 6) (no10_w 9)
    · exact no10_app (no10_w 6) (no10_w 10)
    · exact no10_app (no10_w 6) (no10_app (no10_w 7) (no10_d _))
  · show no10 (wAre N a)
    cases a with
    | none => exact nl
    | some x => exact no10_app (no10_w 11) (no10_n hO (by have := ha x rfl; omega))
  · show no10 (wRnk r)
    unfold wRnk
    split
    · exact nl
    · exact no10_app (no10_w 12) (no10_d _)
  · show no10 (wEnd e)
    obtain ⟨lo, hi⟩ := e
    cases lo with
    | none =>
      cases hi with
      | none => exact nl
      | some b => exact no10_app (no10_w 14) (no10_d _)
    | some a =>
      cases hi with
      | none => exact no10_app (no10_w 13) (no10_d _)
      | some b =>
        refine no10_app (no10_d _) ?_
        split
        · exact no10_app (no10_w 15) (no10_d _)
        · exact nl
  · show no10 (wUn κ)
    unfold wUn
    split
    · exact nl
    · exact no10_w 56
theorem wRes_len {N : nmS} {κ : Nat} {q : reS} (hO : NmOK N) (ha : ∀ x, q.2.1 = some x → x < 16) : (wRes N κ q).length ≤ 88 := by
  obtain ⟨y, a, r, e⟩ := q
  dsimp only at ha
  unfold wRes
  simp only [List.length_append]
  have h1 : (wLay y).length ≤ 23 := by
    unfold wLay
    repeat' split
    · decide
    · decide
    · decide
    · decide
    · rw [List.length_append, List.length_append, List.length_cons (as := dec (y - 3))]
      have := dec_len (y - 3)
      have e1 : (32 :: rx_tx 6).length = 3 := rfl
      have e2 : (32 :: rx_tx 7).length = 6 := rfl
      omega
  have h2 : (wAre N a).length ≤ 12 := by
    cases a with
    | none => exact Nat.zero_le _
    | some x =>
      show ((32 :: rx_tx 11) ++ 32 :: nameL N (32 + x)).length ≤ 12
      rw [List.length_append, List.length_cons (as := nameL N (32 + x))]
      have := name_len hO (show 32 + x < 48 by have := ha x rfl; omega)
      have e1 : (32 :: rx_tx 11).length = 3 := rfl
      omega
  have h3 : (wRnk r).length ≤ 19 := by
    unfold wRnk
    split
    · exact Nat.zero_le _
    · rw [List.length_append, List.length_cons (as := dec r)]
      have := dec_len r
      have e1 : (32 :: rx_tx 12).length = 5 := rfl
      omega
  have h4 : (wEnd e).length ≤ 31 := by
    obtain ⟨lo, hi⟩ := e
    cases lo with
    | none =>
      cases hi with
      | none => exact Nat.zero_le _
      | some b =>
        show ((32 :: rx_tx 14) ++ 32 :: dec b).length ≤ 31
        rw [List.length_append, List.length_cons (as := dec b)]
        have := dec_len b
        have e1 : (32 :: rx_tx 14).length = 5 := rfl
        omega
    | some a =>
      cases hi with
      | none =>
        show ((32 :: rx_tx 13) ++ 32 :: dec a).length ≤ 31
        rw [List.length_append, List.length_cons (as := dec a)]
        have := dec_len a
        have e1 : (32 :: rx_tx 13).length = 6 := rfl
        omega
      | some b =>
        show ((32 :: dec a) ++ (if a < b then (32 :: rx_tx 15) ++ 32 :: dec b else [])).length ≤ 31
        rw [List.length_append, List.length_cons (as := dec a)]
        have h1 := dec_len a
        have h2 := dec_len b
        have e1 : (32 :: rx_tx 15).length = 3 := rfl
        split
        · rw [List.length_append, List.length_cons (as := dec b)]
          omega
        · show (dec a).length + 1 + 0 ≤ 31
          omega
  have h5 : (wUn κ).length ≤ 3 := by
    unfold wUn
    split
    · exact Nat.zero_le _
    · decide
  omega
theorem kw_len : ∀ κ, κ < 13 → 3 ≤ (rx_tx (rx_kw κ - 30)).length ∧ (rx_tx (rx_kw κ - 30)).length ≤ 6 ∧ ∀ c ∈ rx_tx (rx_kw κ - 30), c ≠ 10 := by decide
section
variable {nx : Nat} {ct : Nat → Nat × Nat} {m0 : Nat → Nat → Int32} {ml : Nat → Nat → Int64} {mr : Nat → Nat → Option Nat} {l : List Int32}
theorem wRu_len {N : nmS} {q : ruS} (hO : NmOK N) (hq : ruOK q) : (wRu N q).length ≤ 145 := by
  obtain ⟨q1, ⟨q2, q3⟩, q4, q5, q6, q7, q8, q9⟩ := hq
  unfold wRu
  simp only [List.length_append]
  have h1 := (kw_len q.1 q1).2.1
  have h2 : (if q.1 = 12 then [] else if q.1 = 0 then 32 :: rx_tx 0 else 32 :: rx_tx 1 : List Int32).length ≤ 8 := by
    repeat' split
    · decide
    · decide
    · decide
  have h3 := th_len hO q2
  have h4 : (if q.1 = 0 ∨ q.1 = 12 then (32 :: rx_tx 5) ++ wTh N q.2.1.2 else [] : List Int32).length ≤ 19 := by
    have := th_len hO q3
    split
    · rw [List.length_append]
      have e1 : (32 :: rx_tx 5).length = 4 := rfl
      omega
    · exact Nat.zero_le _
  have h5 : (if q.1 = 12 then [] else wRes N q.1 (q.2.2.1, q.2.2.2.1, q.2.2.2.2.1, q.2.2.2.2.2.1) : List Int32).length ≤ 88 := by
    split
    · exact Nat.zero_le _
    · exact wRes_len hO q5
  have h6 : ([32, 59, 10] : List Int32).length = 3 := rfl
  omega
theorem su_end (hL : LAY nx ct mr) (K κ : Int32) (hl : l.length + 3 < 9000) : rx_W M_Mo_sayRule 3 0 0 95 [(0, .ref 398), (1, .int K), (2, .int κ)] [] (nx, ct, mO m0 l, ml, mr) (pR (dn nx ct m0 ml mr (l ++ [32, 59, 10]))) := by
  have e : ∀ {x : Int32} {y : List Int32}, (y ++ [x]).length = y.length + 1 := List.length_append
  refine ru_aload_n d_Mo_sayRule_95 rfl rfl ?_
  refine ru_bipush (v := 32) d_Mo_sayRule_96 (by decide) ?_
  refine ru_callV (mc := 0) (ms := 0) d_Mo_sayRule_98 lm_Mo_218 (sq_say hL _ (by omega)) (rx_recv_is (ly hL 398 9 0) kx_Mo) (by decide) rfl (Nat.le_of_ble_eq_true rfl) ?_
  rintro v τ ⟨rfl, rfl⟩
  refine ru_aload_n d_Mo_sayRule_101 rfl rfl ?_
  refine ru_bipush (v := 59) d_Mo_sayRule_102 (by decide) ?_
  refine ru_callV (mc := 0) (ms := 0) d_Mo_sayRule_104 lm_Mo_218 (sq_say hL _ (by rw [e]; omega)) (rx_recv_is (ly hL 398 9 0) kx_Mo) (by decide) rfl (Nat.le_of_ble_eq_true rfl) ?_
  rintro v τ ⟨rfl, rfl⟩
  refine ru_aload_n d_Mo_sayRule_107 rfl rfl ?_
  refine ru_bipush (v := 10) d_Mo_sayRule_108 (by decide) ?_
  refine ru_callV (mc := 0) (ms := 0) d_Mo_sayRule_110 lm_Mo_218 (sq_say hL _ (by rw [e, e]; omega)) (rx_recv_is (ly hL 398 9 0) kx_Mo) (by decide) rfl (Nat.le_of_ble_eq_true rfl) ?_
  rintro v τ ⟨rfl, rfl⟩
  refine ru_vret d_Mo_sayRule_113 rfl ?_
  rw [List.append_assoc, List.append_assoc]
  exact ⟨rfl, rfl⟩
theorem sq_sayRule {N : nmS} {K : Nat} {q : ruS} (hL : LAY nx ct mr) (hN : NmM N m0) (hO : NmOK N) (hK : K + 12 ≤ 1440) (hr : rowI ml K q) (hq : ruOK q) (hm : lineS l) (hl : l.length + 160 < 9000) : rx_Calls y_Mo_sayRule M_Mo_sayRule 3 0 0 [.ref 398, .int (nI K)] (nx, ct, mO m0 l, ml, mr) (dn nx ct m0 ml mr (l ++ wRu N q)) := by
  refine rx_enter (by decide) rfl rfl (Nat.le_of_ble_eq_true rfl) ?_
  obtain ⟨κ, ⟨s1, s2⟩, y, a, r, e, ln⟩ := q
  obtain ⟨q1, ⟨q2, q3⟩, q4, q5, q6, q7, q8, q9⟩ := hq
  obtain ⟨r0, ⟨r1, r2, r3, r4⟩, r5, r10⟩ := hr
  dsimp only at q1 q2 q3 q4 q5 q6 q7 q8 q9 r0 r1 r2 r3 r4 r5 r10
  have k1 := kw_len κ q1
  have mA : mid (l ++ rx_tx (rx_kw κ - 30)) := mid_app (Or.inr (fun z => by rw [z] at k1; exact absurd k1.1 (by decide))) k1.2.2
  have lA : (l ++ rx_tx (rx_kw κ - 30)).length ≤ l.length + 6 := by rw [List.length_append]; omega
  have hW : wOK (rx_kw κ - 30) (kwV κ) := wv_k κ q1
  have hsw := sq_sayWord1 (m0 := m0) (ml := ml) hL hW (by omega) hm
  unfold wRu
  dsimp only
  generalize rx_tx (rx_kw κ - 30) = kw at mA lA hsw
  -- behind the first thing
  have tail : ∀ l' : List Int32, mid l' → l'.length + 130 < 9000 → rx_W M_Mo_sayRule 3 0 0 60 [(0, .ref 398), (1, .int (nI K)), (2, .int (nI κ))] [] (nx, ct, mO m0 l', ml, mr) (pR (dn nx ct m0 ml mr (l' ++ ((if κ = 0 ∨ κ = 12 then (32 :: rx_tx 5) ++ wTh N s2 else []) ++ ((if κ = 12 then [] else wRes N κ (y, a, r, e)) ++ [32, 59, 10]))))) := by
    intro l' m' h'
    have rest : ∀ l' : List Int32, mid l' → l'.length + 110 < 9000 → rx_W M_Mo_sayRule 3 0 0 84 [(0, .ref 398), (1, .int (nI K)), (2, .int (nI κ))] [] (nx, ct, mO m0 l', ml, mr) (pR (dn nx ct m0 ml mr (l' ++ ((if κ = 12 then [] else wRes N κ (y, a, r, e)) ++ [32, 59, 10])))) := by
      intro l' m' h'
      by_cases c : κ = 12
      · rw [if_pos c, List.nil_append]
        refine ru_iload_n d_Mo_sayRule_84 rfl rfl ?_
        refine ru_bipush (v := 12) d_Mo_sayRule_85 (by decide) ?_
        refine ru_icmp_eq (tgt := 95) d_Mo_sayRule_87 (by decide) (fun h87 => ?_) (fun h87 => ?_)
        · skip
          replace h87 := nm_eq (a := κ) (b := 12) (by omega) (by omega) h87
          exact ru_to (su_end hL _ _ (by omega)) ⟨rfl, rfl, rfl, trivial⟩
        · skip
          replace h87 := nm_ne (a := κ) (b := 12) (by omega) (by omega) h87
          exfalso; omega
      · rw [if_neg c, ← List.append_assoc]
        have lR := wRes_len (κ := κ) (q := (y, a, r, e)) hO q5
        have l2 : (l' ++ wRes N κ (y, a, r, e)).length ≤ l'.length + 88 := by rw [List.length_append]; omega
        refine ru_iload_n d_Mo_sayRule_84 rfl rfl ?_
        refine ru_bipush (v := 12) d_Mo_sayRule_85 (by decide) ?_
        refine ru_icmp_eq (tgt := 95) d_Mo_sayRule_87 (by decide) (fun h87 => ?_) (fun h87 => ?_)
        · skip
          replace h87 := nm_eq (a := κ) (b := 12) (by omega) (by omega) h87
          first | (exfalso; omega) | exact ru_to (su_end hL _ _ (by omega)) ⟨rfl, rfl, rfl, trivial⟩
        · skip
          replace h87 := nm_ne (a := κ) (b := 12) (by omega) (by omega) h87
          refine ru_aload_n d_Mo_sayRule_90 rfl rfl ?_
          refine ru_iload_n d_Mo_sayRule_91 rfl rfl ?_
          refine ru_callV (mc := 0) (ms := 0) d_Mo_sayRule_92 lm_Mo_233 (sq_sayRest (q := (y, a, r, e)) hL hN hO hK q1 r0 r5 q4 q5 q6 (q7 c) m' (by omega)) (rx_recv_is (ly hL 398 9 0) kx_Mo) (by decide) rfl (Nat.le_of_ble_eq_true rfl) ?_
          rintro v τ ⟨rfl, rfl⟩
          first | (exfalso; omega) | exact ru_to (su_end hL _ _ (by omega)) ⟨rfl, rfl, rfl, trivial⟩
    by_cases c : κ = 0 ∨ κ = 12
    · rw [if_pos c, ← List.append_assoc l', ← List.append_assoc l']
      have m1 := m'.app (no10_w 5)
      have l1 : (l' ++ 32 :: rx_tx 5).length = l'.length + 4 := List.length_append
      have m2 := m1.app (no10_th hO q3)
      have l2 : (l' ++ 32 :: rx_tx 5 ++ wTh N s2).length ≤ l'.length + 19 := by
        rw [List.length_append, l1]
        have := th_len hO q3
        omega
      refine ru_iload_n d_Mo_sayRule_60 rfl rfl ?_
      refine ru_if_eq (tgt := 70) d_Mo_sayRule_61 (by decide) (fun h61 => ?_) (fun h61 => ?_)
      · skip
        replace h61 := nm_eq (a := κ) (b := 0) (by omega) (by omega) h61
        refine ru_aload_n d_Mo_sayRule_70 rfl rfl ?_
        refine ru_ldc2 d_Mo_sayRule_71 lc_Mo_168 ?_
        refine ru_callV (mc := 0) (ms := 0) d_Mo_sayRule_74 lm_Mo_223 (sq_sayWord hL wv_5 (by omega) m') (rx_recv_is (ly hL 398 9 0) kx_Mo) (by decide) rfl (Nat.le_of_ble_eq_true rfl) ?_
        rintro v τ ⟨rfl, rfl⟩
        refine ru_aload_n d_Mo_sayRule_77 rfl rfl ?_
        refine ru_iload_n d_Mo_sayRule_78 rfl rfl ?_
        refine ru_iconst (v := 3) d_Mo_sayRule_79 (by decide) ?_
        refine ru_iadd d_Mo_sayRule_80 ?_
        refine ru_eqi (nm_add K 3 : _ = nI (K + 3)) ?_
        refine ru_callV (mc := 0) (ms := 0) d_Mo_sayRule_81 lm_Mo_230 (sq_sayThing hL hN (by omega) q3 r3 r4 m1 (by omega)) (rx_recv_is (ly hL 398 9 0) kx_Mo) (by decide) rfl (Nat.le_of_ble_eq_true rfl) ?_
        rintro v τ ⟨rfl, rfl⟩
        first | (exfalso; omega) | exact ru_to (rest _ m2 (by omega)) ⟨rfl, rfl, rfl, trivial⟩
      · skip
        replace h61 := nm_ne (a := κ) (b := 0) (by omega) (by omega) h61
        refine ru_iload_n d_Mo_sayRule_64 rfl rfl ?_
        refine ru_bipush (v := 12) d_Mo_sayRule_65 (by decide) ?_
        refine ru_icmp_ne (tgt := 84) d_Mo_sayRule_67 (by decide) (fun h67 => ?_) (fun h67 => ?_)
        · skip
          replace h67 := nm_ne (a := κ) (b := 12) (by omega) (by omega) h67
          first | (exfalso; omega) | exact ru_to (rest _ m2 (by omega)) ⟨rfl, rfl, rfl, trivial⟩
        · skip
          replace h67 := nm_eq (a := κ) (b := 12) (by omega) (by omega) h67
          refine ru_aload_n d_Mo_sayRule_70 rfl rfl ?_
          refine ru_ldc2 d_Mo_sayRule_71 lc_Mo_168 ?_
          refine ru_callV (mc := 0) (ms := 0) d_Mo_sayRule_74 lm_Mo_223 (sq_sayWord hL wv_5 (by omega) m') (rx_recv_is (ly hL 398 9 0) kx_Mo) (by decide) rfl (Nat.le_of_ble_eq_true rfl) ?_
          rintro v τ ⟨rfl, rfl⟩
          refine ru_aload_n d_Mo_sayRule_77 rfl rfl ?_
          refine ru_iload_n d_Mo_sayRule_78 rfl rfl ?_
          refine ru_iconst (v := 3) d_Mo_sayRule_79 (by decide) ?_
          refine ru_iadd d_Mo_sayRule_80 ?_
          refine ru_eqi (nm_add K 3 : _ = nI (K + 3)) ?_
          refine ru_callV (mc := 0) (ms := 0) d_Mo_sayRule_81 lm_Mo_230 (sq_sayThing hL hN (by omega) q3 r3 r4 m1 (by omega)) (rx_recv_is (ly hL 398 9 0) kx_Mo) (by decide) rfl (Nat.le_of_ble_eq_true rfl) ?_
          rintro v τ ⟨rfl, rfl⟩
          first | (exfalso; omega) | exact ru_to (rest _ m2 (by omega)) ⟨rfl, rfl, rfl, trivial⟩
    · rw [if_neg c, List.nil_append]
      refine ru_iload_n d_Mo_sayRule_60 rfl rfl ?_
      refine ru_if_eq (tgt := 70) d_Mo_sayRule_61 (by decide) (fun h61 => ?_) (fun h61 => ?_)
      · skip
        replace h61 := nm_eq (a := κ) (b := 0) (by omega) (by omega) h61
        exfalso; omega
      · skip
        replace h61 := nm_ne (a := κ) (b := 0) (by omega) (by omega) h61
        refine ru_iload_n d_Mo_sayRule_64 rfl rfl ?_
        refine ru_bipush (v := 12) d_Mo_sayRule_65 (by decide) ?_
        refine ru_icmp_ne (tgt := 84) d_Mo_sayRule_67 (by decide) (fun h67 => ?_) (fun h67 => ?_)
        · skip
          replace h67 := nm_ne (a := κ) (b := 12) (by omega) (by omega) h67
          exact ru_to (rest _ m' (by omega)) ⟨rfl, rfl, rfl, trivial⟩
        · skip
          replace h67 := nm_eq (a := κ) (b := 12) (by omega) (by omega) h67
          exfalso; omega
  -- the first thing
  have thing : ∀ l' : List Int32, mid l' → l'.length + 145 < 9000 → rx_W M_Mo_sayRule 3 0 0 53 [(0, .ref 398), (1, .int (nI K)), (2, .int (nI κ))] [] (nx, ct, mO m0 l', ml, mr) (pR (dn nx ct m0 ml mr (l' ++ (wTh N s1 ++ ((if κ = 0 ∨ κ = 12 then (32 :: rx_tx 5) ++ wTh N s2 else []) ++ ((if κ = 12 then [] else wRes N κ (y, a, r, e)) ++ [32, 59, 10])))))) := by
    intro l' m' h'
    rw [← List.append_assoc]
    have m2 := m'.app (no10_th hO q2)
    have l2 : (l' ++ wTh N s1).length ≤ l'.length + 15 := by
      rw [List.length_append]
      have := th_len hO q2
      omega
    refine ru_aload_n d_Mo_sayRule_53 rfl rfl ?_
    refine ru_iload_n d_Mo_sayRule_54 rfl rfl ?_
    refine ru_iconst (v := 1) d_Mo_sayRule_55 (by decide) ?_
    refine ru_iadd d_Mo_sayRule_56 ?_
    refine ru_eqi (nm_add K 1 : _ = nI (K + 1)) ?_
    refine ru_callV (mc := 0) (ms := 0) d_Mo_sayRule_57 lm_Mo_230 (sq_sayThing hL hN (by omega) q2 r1 r2 m' (by omega)) (rx_recv_is (ly hL 398 9 0) kx_Mo) (by decide) rfl (Nat.le_of_ble_eq_true rfl) ?_
    rintro v τ ⟨rfl, rfl⟩
    exact ru_to (tail _ m2 (by omega)) ⟨rfl, rfl, rfl, trivial⟩
  rw [← List.append_assoc]
  generalize l ++ kw = lA' at mA lA hsw ⊢
  have mb := mA.app (no10_w 0)
  have mo := mA.app (no10_w 1)
  have lb : (lA' ++ 32 :: rx_tx 0).length = lA'.length + 8 := List.length_append
  have lo : (lA' ++ 32 :: rx_tx 1).length = lA'.length + 3 := List.length_append
  by_cases c12 : κ = 12
  · rw [if_pos c12, List.nil_append]
    refine ru_aload_n d_Mo_sayRule_0 rfl rfl ?_
    refine ru_getR d_Mo_sayRule_1 lf_Mo_27 (ly hL 398 9 0) rfl (lr hL 398 8 404) ?_
    refine ru_iload_n d_Mo_sayRule_4 rfl rfl ?_
    refine ru_laldN (j := K) d_Mo_sayRule_5 (ly hL 404 104 1440) (by omega) (by decide) ?_
    refine ru_eql r0 ?_
    refine ru_l2i d_Mo_sayRule_6 ?_
    refine ru_eqi (nl_l2i κ) ?_
    refine ru_istore_n d_Mo_sayRule_7 rfl (by decide) ?_
    refine ru_aload_n d_Mo_sayRule_8 rfl rfl ?_
    refine ru_iload_n d_Mo_sayRule_9 rfl rfl ?_
    refine ru_callS (mc := 0) (ms := 0) d_Mo_sayRule_10 lm_Mo_158 (sp_Mo_kindWord q1 _) (by decide) rfl (Nat.le_of_ble_eq_true rfl) ?_
    intro v τ h
    obtain ⟨rfl, rfl⟩ := h
    refine ru_callV (mc := 0) (ms := 0) d_Mo_sayRule_13 lm_Mo_223 hsw (rx_recv_is (ly hL 398 9 0) kx_Mo) (by decide) rfl (Nat.le_of_ble_eq_true rfl) ?_
    rintro v τ ⟨rfl, rfl⟩
    refine ru_iload_n d_Mo_sayRule_16 rfl rfl ?_
    refine ru_if_ne (tgt := 40) d_Mo_sayRule_17 (by decide) (fun h17 => ?_) (fun h17 => ?_)
    · skip
      replace h17 := nm_ne (a := κ) (b := 0) (by omega) (by omega) h17
      refine ru_iload_n d_Mo_sayRule_40 rfl rfl ?_
      refine ru_bipush (v := 12) d_Mo_sayRule_41 (by decide) ?_
      refine ru_icmp_eq (tgt := 53) d_Mo_sayRule_43 (by decide) (fun h43 => ?_) (fun h43 => ?_)
      · skip
        replace h43 := nm_eq (a := κ) (b := 12) (by omega) (by omega) h43
        exact ru_to (thing _ mA (by omega)) ⟨rfl, rfl, rfl, trivial⟩
      · skip
        replace h43 := nm_ne (a := κ) (b := 12) (by omega) (by omega) h43
        exfalso; omega
    · skip
      replace h17 := nm_eq (a := κ) (b := 0) (by omega) (by omega) h17
      exfalso; omega
  · rw [if_neg c12]
    by_cases c0 : κ = 0
    · rw [if_pos c0, ← List.append_assoc lA']
      refine ru_aload_n d_Mo_sayRule_0 rfl rfl ?_
      refine ru_getR d_Mo_sayRule_1 lf_Mo_27 (ly hL 398 9 0) rfl (lr hL 398 8 404) ?_
      refine ru_iload_n d_Mo_sayRule_4 rfl rfl ?_
      refine ru_laldN (j := K) d_Mo_sayRule_5 (ly hL 404 104 1440) (by omega) (by decide) ?_
      refine ru_eql r0 ?_
      refine ru_l2i d_Mo_sayRule_6 ?_
      refine ru_eqi (nl_l2i κ) ?_
      refine ru_istore_n d_Mo_sayRule_7 rfl (by decide) ?_
      refine ru_aload_n d_Mo_sayRule_8 rfl rfl ?_
      refine ru_iload_n d_Mo_sayRule_9 rfl rfl ?_
      refine ru_callS (mc := 0) (ms := 0) d_Mo_sayRule_10 lm_Mo_158 (sp_Mo_kindWord q1 _) (by decide) rfl (Nat.le_of_ble_eq_true rfl) ?_
      intro v τ h
      obtain ⟨rfl, rfl⟩ := h
      refine ru_callV (mc := 0) (ms := 0) d_Mo_sayRule_13 lm_Mo_223 hsw (rx_recv_is (ly hL 398 9 0) kx_Mo) (by decide) rfl (Nat.le_of_ble_eq_true rfl) ?_
      rintro v τ ⟨rfl, rfl⟩
      refine ru_iload_n d_Mo_sayRule_16 rfl rfl ?_
      refine ru_if_ne (tgt := 40) d_Mo_sayRule_17 (by decide) (fun h17 => ?_) (fun h17 => ?_)
      · skip
        replace h17 := nm_ne (a := κ) (b := 0) (by omega) (by omega) h17
        exfalso; omega
      · skip
        replace h17 := nm_eq (a := κ) (b := 0) (by omega) (by omega) h17
        refine ru_aload_n d_Mo_sayRule_20 rfl rfl ?_
        refine ru_iconst (v := 2) d_Mo_sayRule_21 (by decide) ?_
        refine ru_iconst (v := 5) d_Mo_sayRule_22 (by decide) ?_
        refine ru_bipush (v := 20) d_Mo_sayRule_23 (by decide) ?_
        refine ru_bipush (v := 23) d_Mo_sayRule_25 (by decide) ?_
        refine ru_iconst (v := 5) d_Mo_sayRule_27 (by decide) ?_
        refine ru_iconst (v := 5) d_Mo_sayRule_28 (by decide) ?_
        refine ru_bipush (v := 14) d_Mo_sayRule_29 (by decide) ?_
        refine ru_callS (mc := 0) (ms := 0) d_Mo_sayRule_31 lm_Mo_68 (sp_Mo_word 2 5 20 23 5 5 14 _) (by decide) rfl (Nat.le_of_ble_eq_true rfl) ?_
        intro v τ h
        obtain ⟨rfl, rfl⟩ := h
        refine ru_callV (mc := 0) (ms := 0) d_Mo_sayRule_34 lm_Mo_223 (sq_sayWord hL wv_0 (by omega) mA) (rx_recv_is (ly hL 398 9 0) kx_Mo) (by decide) rfl (Nat.le_of_ble_eq_true rfl) ?_
        rintro v τ ⟨rfl, rfl⟩
        refine ru_goto (tgt := 53) d_Mo_sayRule_37 (by decide) ?_
        exact ru_to (thing _ mb (by omega)) ⟨rfl, rfl, rfl, trivial⟩
    · rw [if_neg c0, ← List.append_assoc lA']
      refine ru_aload_n d_Mo_sayRule_0 rfl rfl ?_
      refine ru_getR d_Mo_sayRule_1 lf_Mo_27 (ly hL 398 9 0) rfl (lr hL 398 8 404) ?_
      refine ru_iload_n d_Mo_sayRule_4 rfl rfl ?_
      refine ru_laldN (j := K) d_Mo_sayRule_5 (ly hL 404 104 1440) (by omega) (by decide) ?_
      refine ru_eql r0 ?_
      refine ru_l2i d_Mo_sayRule_6 ?_
      refine ru_eqi (nl_l2i κ) ?_
      refine ru_istore_n d_Mo_sayRule_7 rfl (by decide) ?_
      refine ru_aload_n d_Mo_sayRule_8 rfl rfl ?_
      refine ru_iload_n d_Mo_sayRule_9 rfl rfl ?_
      refine ru_callS (mc := 0) (ms := 0) d_Mo_sayRule_10 lm_Mo_158 (sp_Mo_kindWord q1 _) (by decide) rfl (Nat.le_of_ble_eq_true rfl) ?_
      intro v τ h
      obtain ⟨rfl, rfl⟩ := h
      refine ru_callV (mc := 0) (ms := 0) d_Mo_sayRule_13 lm_Mo_223 hsw (rx_recv_is (ly hL 398 9 0) kx_Mo) (by decide) rfl (Nat.le_of_ble_eq_true rfl) ?_
      rintro v τ ⟨rfl, rfl⟩
      refine ru_iload_n d_Mo_sayRule_16 rfl rfl ?_
      refine ru_if_ne (tgt := 40) d_Mo_sayRule_17 (by decide) (fun h17 => ?_) (fun h17 => ?_)
      · skip
        replace h17 := nm_ne (a := κ) (b := 0) (by omega) (by omega) h17
        refine ru_iload_n d_Mo_sayRule_40 rfl rfl ?_
        refine ru_bipush (v := 12) d_Mo_sayRule_41 (by decide) ?_
        refine ru_icmp_eq (tgt := 53) d_Mo_sayRule_43 (by decide) (fun h43 => ?_) (fun h43 => ?_)
        · skip
          replace h43 := nm_eq (a := κ) (b := 12) (by omega) (by omega) h43
          first | (exfalso; omega) | exact ru_to (thing _ mo (by omega)) ⟨rfl, rfl, rfl, trivial⟩
        · skip
          replace h43 := nm_ne (a := κ) (b := 12) (by omega) (by omega) h43
          refine ru_aload_n d_Mo_sayRule_46 rfl rfl ?_
          refine ru_ldc2 d_Mo_sayRule_47 lc_Mo_170 ?_
          refine ru_callV (mc := 0) (ms := 0) d_Mo_sayRule_50 lm_Mo_223 (sq_sayWord hL wv_1 (by omega) mA) (rx_recv_is (ly hL 398 9 0) kx_Mo) (by decide) rfl (Nat.le_of_ble_eq_true rfl) ?_
          rintro v τ ⟨rfl, rfl⟩
          first | (exfalso; omega) | exact ru_to (thing _ mo (by omega)) ⟨rfl, rfl, rfl, trivial⟩
      · skip
        replace h17 := nm_eq (a := κ) (b := 0) (by omega) (by omega) h17
        exfalso; omega
theorem wRu_line {N : nmS} {q : ruS} (l : List Int32) : lineS (l ++ wRu N q) := by
  right
  unfold wRu
  simp only [← List.append_assoc]
  generalize (l ++ rx_tx (rx_kw q.1 - 30) ++ (if q.1 = 12 then [] else if q.1 = 0 then 32 :: rx_tx 0 else 32 :: rx_tx 1) ++ wTh N q.2.1.1 ++ (if q.1 = 0 ∨ q.1 = 12 then 32 :: rx_tx 5 ++ wTh N q.2.1.2 else []) ++ (if q.1 = 12 then [] else wRes N q.1 (q.2.2.1, q.2.2.2.1, q.2.2.2.2.1, q.2.2.2.2.2.1))) = x
  rw [List.length_append, List.getD, List.getElem?_append_right (by show x.length ≤ x.length + 3 - 1; omega)]
  show (([32, 59, 10] : List Int32)[x.length + 3 - 1 - x.length]?).getD 0 = 10
  rw [show x.length + 3 - 1 - x.length = 2 by omega]
  rfl
noncomputable def wAll (N : nmS) : List ruS → List Int32
  | [] => []
  | q :: l => wRu N q ++ wAll N l
theorem wAll_len {N : nmS} (hO : NmOK N) : ∀ L : List ruS, (∀ q ∈ L, ruOK q) → (wAll N L).length ≤ 145 * L.length
  | [], _ => Nat.le_refl _
  | q :: L, h => by
    show (wRu N q ++ wAll N L).length ≤ _
    rw [List.length_append, List.length_cons]
    have h1 := wRu_len hO (h q List.mem_cons_self)
    have h2 := wAll_len hO L (fun x hx => h x (List.mem_cons_of_mem _ hx))
    omega
/-- what write answers -/
def wAns (W : List Int32) (i : Nat) : Int32 := if i < W.length then W.getD i 0 else -1
theorem mO_nil {m0 : Nat → Nat → Int32} : rx_u m0 398 16 0 = mO m0 [] := by
  funext r k
  by_cases h1 : r = 398
  · subst h1
    by_cases h2 : k = 16
    · subst h2; rw [rx_u_same]; rfl
    · rw [rx_u_k _ _ h2, mO_k h2]
  · rw [rx_u_r _ _ h1]
    by_cases h2 : r = 407
    · subst h2; rfl
    · rw [mO_r h2 h1]
theorem sq_write {N : nmS} {L : List ruS} {mi : Nat → Nat → Int32} {i : Nat} (hL : LAY nx ct mr) (hN : NmM N mi) (hO : NmOK N) (hn : mi 398 7 = nI L.length) (hn2 : L.length ≤ 60) (hr : ∀ i q, L[i]? = some q → rowI ml (12 * i) q ∧ ruOK q) (hi : i < 2 ^ 31) : rx_Calls y_Mo_write M_Mo_write 4 0 0 [.ref 398, .int (nI i)] (nx, ct, mi, ml, mr) (fun v τ => v = some (.int (wAns (wAll N L) i)) ∧ τ = (nx, ct, mO (rx_u mi 398 0 0) (wAll N L), ml, mr)) := by
  refine rx_enter (by decide) rfl rfl (Nat.le_of_ble_eq_true rfl) ?_
  have hn' : rx_u mi 398 0 0 398 7 = nI L.length := by rw [rx_u_k _ _ (by decide)]; exact hn
  have hN' : NmM N (rx_u mi 398 0 0) := by
    intro k hk
    rw [rx_u_r _ _ (by decide), rx_u_r _ _ (by decide)]
    exact hN k hk
  generalize hm : rx_u mi 398 0 0 = m0 at hn' hN' ⊢
  have hok : ∀ q ∈ L, ruOK q := fun q hq => by
    obtain ⟨x, hx, e⟩ := List.mem_iff_getElem.mp hq
    exact (hr x q (by rw [List.getElem?_eq_getElem hx, e])).2
  have hlen := wAll_len hO L hok
  have loop : ∀ (R : List ruS) (k : Nat) (l : List Int32), L.drop k = R → k ≤ L.length → lineS l → l.length + 145 * R.length ≤ 8700 → l ++ wAll N R = wAll N L → rx_W M_Mo_write 4 0 0 29 [(0, .ref 398), (1, .int (nI i)), (2, .int (nI k))] [] (nx, ct, mO m0 l, ml, mr) (pR (fun v τ => v = some (.int (wAns (wAll N L) i)) ∧ τ = (nx, ct, mO m0 (wAll N L), ml, mr))) := by
    intro R
    induction R with
    | nil =>
      intro k l hd hk hls hl e
      have hk2 : L.length ≤ k := List.drop_eq_nil_iff.mp hd
      have e' : l = wAll N L := by rw [← e]; exact (List.append_nil l).symm
      rw [← e']
      have h7 : mO m0 l 398 7 = nI L.length := by rw [mO_k]; exact hn'
      unfold wAns
      refine ru_iload_n d_Mo_write_29 rfl rfl ?_
      refine ru_aload_n d_Mo_write_30 rfl rfl ?_
      refine ru_getI d_Mo_write_31 lf_Mo_189 (ly hL 398 9 0) rfl ?_
      refine ru_eqi h7 ?_
      refine ru_icmp_ge (tgt := 51) d_Mo_write_34 (by decide) (fun h34 => ?_) (fun h34 => absurd (nI_le (by omega) (by omega)) h34)
      replace h34 := nm_le (a := L.length) (b := k) (by omega) (by omega) h34
      refine ru_iload_n d_Mo_write_51 rfl rfl ?_
      refine ru_aload_n d_Mo_write_52 rfl rfl ?_
      refine ru_getI d_Mo_write_53 lf_Mo_215 (ly hL 398 9 0) rfl ?_
      refine ru_eqi mO_p ?_
      refine ru_icmp_ge (tgt := 68) d_Mo_write_56 (by decide) (fun h56 => ?_) (fun h56 => ?_)
      · skip
        replace h56 := nm_le (a := l.length) (b := i) (by omega) (by omega) h56
        refine ru_iconst (v := (-1)) d_Mo_write_68 (by decide) ?_
        refine ru_iret d_Mo_write_69 rfl ?_
        first | (rw [if_pos (by omega)]; exact ⟨rfl, rfl⟩) | (rw [if_neg (by omega)]; exact ⟨rfl, rfl⟩)
      · skip
        replace h56 := nm_nle (a := l.length) (b := i) (by omega) (by omega) h56
        refine ru_aload_n d_Mo_write_59 rfl rfl ?_
        refine ru_getR d_Mo_write_60 lf_Mo_36 (ly hL 398 9 0) rfl (lr hL 398 15 407) ?_
        refine ru_iload_n d_Mo_write_63 rfl rfl ?_
        refine ru_ialdN (j := i) d_Mo_write_64 (ly hL 407 100 9000) (by omega) (by decide) ?_
        refine ru_eqi (mO_o (by omega)) ?_
        refine ru_goto (tgt := 69) d_Mo_write_65 (by decide) ?_
        refine ru_iret d_Mo_write_69 rfl ?_
        first | (rw [if_pos (by omega)]; exact ⟨rfl, rfl⟩) | (rw [if_neg (by omega)]; exact ⟨rfl, rfl⟩)
    | cons q R ih =>
      intro k l hd hk hls hl e
      have hkl : k < L.length := by
        refine Nat.lt_of_not_le fun z => ?_
        rw [List.drop_eq_nil_iff.mpr z] at hd
        cases hd
      have hq : L[k]? = some q := by
        have : (L.drop k)[0]? = some q := by rw [hd]; rfl
        rw [List.getElem?_drop] at this
        exact this
      have hd2 : L.drop (k + 1) = R := by rw [← List.drop_drop, hd]; rfl
      have h7 : mO m0 l 398 7 = nI L.length := by rw [mO_k]; exact hn'
      have hRl : (q :: R).length = R.length + 1 := rfl
      have hq2 := hr k q hq
      have hlu := wRu_len hO hq2.2
      refine ru_iload_n d_Mo_write_29 rfl rfl ?_
      refine ru_aload_n d_Mo_write_30 rfl rfl ?_
      refine ru_getI d_Mo_write_31 lf_Mo_189 (ly hL 398 9 0) rfl ?_
      refine ru_eqi h7 ?_
      refine ru_icmp_ge (tgt := 51) d_Mo_write_34 (by decide) (fun h34 => absurd h34 (nI_ge (by omega) (by omega))) (fun h34 => ?_)
      replace h34 := nm_nle (a := L.length) (b := k) (by omega) (by omega) h34
      refine ru_aload_n d_Mo_write_37 rfl rfl ?_
      refine ru_bipush (v := 12) d_Mo_write_38 (by decide) ?_
      refine ru_iload_n d_Mo_write_40 rfl rfl ?_
      refine ru_imul d_Mo_write_41 ?_
      refine ru_eqi (nm_mul 12 k : _ = nI (12 * k)) ?_
      refine ru_callV (mc := 0) (ms := 0) d_Mo_write_42 lm_Mo_239 (sq_sayRule hL hN' hO (by omega) hq2.1 hq2.2 hls (by omega)) (rx_recv_is (ly hL 398 9 0) kx_Mo) (by decide) rfl (Nat.le_of_ble_eq_true rfl) ?_
      rintro v τ ⟨rfl, rfl⟩
      refine ru_iinc (v := nI (k + 1)) d_Mo_write_45 rfl (nm_inc _ 1) (by decide) ?_
      refine ru_goto (tgt := 29) d_Mo_write_48 (by decide) ?_
      exact ru_to (ih (k + 1) _ hd2 (by omega) (wRu_line l) (by rw [List.length_append]; omega) (by rw [List.append_assoc]; exact e)) ⟨rfl, rfl, rfl, trivial⟩
  refine ru_aload_n d_Mo_write_0 rfl rfl ?_
  refine ru_iload_n d_Mo_write_1 rfl rfl ?_
  refine ru_if_ge (tgt := 9) d_Mo_write_2 (by decide) (fun h2 => ?_) (fun h2 => ?_)
  · skip
    replace h2 := nm_le (a := 0) (b := i) (by omega) (by omega) h2
    refine ru_iconst (v := 0) d_Mo_write_9 (by decide) ?_
    refine ru_putI d_Mo_write_10 lf_Mo_39 (ly hL 398 9 0) rfl (fun q hq => by cases hq; exact Or.inl rfl) ⟨rfl, rfl⟩ ?_
    refine ru_aload_n d_Mo_write_13 rfl rfl ?_
    refine ru_getI d_Mo_write_14 lf_Mo_39 (ly hL 398 9 0) rfl ?_
    rw [rx_u_same]
    refine ru_if_eq (tgt := 22) d_Mo_write_17 (by decide) (fun h17 => ?_) (fun h17 => absurd h17 (by decide))
    rw [hm]
    refine ru_aload_n d_Mo_write_22 rfl rfl ?_
    refine ru_iconst (v := 0) d_Mo_write_23 (by decide) ?_
    refine ru_putI d_Mo_write_24 lf_Mo_215 (ly hL 398 9 0) rfl (fun q hq => by cases hq; exact Or.inl rfl) ⟨rfl, rfl⟩ ?_
    refine ru_iconst (v := 0) d_Mo_write_27 (by decide) ?_
    refine ru_istore_n d_Mo_write_28 rfl (by decide) ?_
    rw [mO_nil]
    exact ru_to (loop L 0 [] rfl (by omega) (Or.inl rfl) (by show 0 + 145 * L.length ≤ 8700; omega) rfl) ⟨rfl, rfl, rfl, trivial⟩
  · skip
    replace h2 := nm_nle (a := 0) (b := i) (by omega) (by omega) h2
    exfalso; omega
theorem sq_write0 {mi : Nat → Nat → Int32} {i : Int32} (hL : LAY nx ct mr) (hi : i < 0) : rx_Calls y_Mo_write M_Mo_write 4 0 0 [.ref 398, .int i] (nx, ct, mi, ml, mr) (fun v τ => v = some (.int 0) ∧ τ = (nx, ct, rx_u mi 398 0 1, ml, mr)) := by
  refine rx_enter (by decide) rfl rfl (Nat.le_of_ble_eq_true rfl) ?_
  refine ru_aload_n d_Mo_write_0 rfl rfl ?_
  refine ru_iload_n d_Mo_write_1 rfl rfl ?_
  refine ru_if_ge (tgt := 9) d_Mo_write_2 (by decide) (fun h2 => absurd hi (Int32.not_lt.mpr h2)) (fun h2 => ?_)
  refine ru_iconst (v := 1) d_Mo_write_5 (by decide) ?_
  refine ru_goto (tgt := 10) d_Mo_write_6 (by decide) ?_
  refine ru_putI d_Mo_write_10 lf_Mo_39 (ly hL 398 9 0) rfl (fun q hq => by cases hq; exact Or.inl rfl) ⟨rfl, rfl⟩ ?_
  refine ru_aload_n d_Mo_write_13 rfl rfl ?_
  refine ru_getI d_Mo_write_14 lf_Mo_39 (ly hL 398 9 0) rfl ?_
  rw [rx_u_same]
  refine ru_if_eq (tgt := 22) d_Mo_write_17 (by decide) (fun h17 => absurd h17 (by decide)) (fun h17 => ?_)
  refine ru_iconst (v := 0) d_Mo_write_20 (by decide) ?_
  refine ru_iret d_Mo_write_21 rfl ?_
  exact ⟨rfl, rfl⟩
end
