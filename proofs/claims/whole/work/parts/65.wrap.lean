/-! The law: its wrappers -/
theorem d_Lw_clash_0 : decode M_Lw_clash.2.1 0 = .ok (.aload_n 3, 1) := by decide +kernel
theorem d_Lw_clash_1 : decode M_Lw_clash.2.1 1 = .ok (.iconst 0, 1) := by decide +kernel
theorem d_Lw_clash_2 : decode M_Lw_clash.2.1 2 = .ok (.aload_n 0, 1) := by decide +kernel
theorem d_Lw_clash_3 : decode M_Lw_clash.2.1 3 = .ok (.iload_n 1, 1) := by decide +kernel
theorem d_Lw_clash_4 : decode M_Lw_clash.2.1 4 = .ok (.iload_n 2, 1) := by decide +kernel
theorem d_Lw_clash_5 : decode M_Lw_clash.2.1 5 = .ok (.invokevirtual 31, 3) := by decide +kernel
theorem d_Lw_clash_8 : decode M_Lw_clash.2.1 8 = .ok (.i2l, 1) := by decide +kernel
theorem d_Lw_clash_9 : decode M_Lw_clash.2.1 9 = .ok (.lastore, 1) := by decide +kernel
theorem d_Lw_clash_10 : decode M_Lw_clash.2.1 10 = .ok (.goto 7, 3) := by decide +kernel
theorem d_Lw_clash_13 : decode M_Lw_clash.2.1 13 = .ok (.astore 4, 2) := by decide +kernel
theorem d_Lw_clash_15 : decode M_Lw_clash.2.1 15 = .ok (.iconst 1, 1) := by decide +kernel
theorem d_Lw_clash_16 : decode M_Lw_clash.2.1 16 = .ok (.ireturn, 1) := by decide +kernel
theorem d_Lw_clash_17 : decode M_Lw_clash.2.1 17 = .ok (.iconst 0, 1) := by decide +kernel
theorem d_Lw_clash_18 : decode M_Lw_clash.2.1 18 = .ok (.ireturn, 1) := by decide +kernel
theorem d_Lw_line_0 : decode M_Lw_line.2.1 0 = .ok (.aload_n 2, 1) := by decide +kernel
theorem d_Lw_line_1 : decode M_Lw_line.2.1 1 = .ok (.iconst 0, 1) := by decide +kernel
theorem d_Lw_line_2 : decode M_Lw_line.2.1 2 = .ok (.aload_n 0, 1) := by decide +kernel
theorem d_Lw_line_3 : decode M_Lw_line.2.1 3 = .ok (.iload_n 1, 1) := by decide +kernel
theorem d_Lw_line_4 : decode M_Lw_line.2.1 4 = .ok (.invokevirtual 34, 3) := by decide +kernel
theorem d_Lw_line_7 : decode M_Lw_line.2.1 7 = .ok (.i2l, 1) := by decide +kernel
theorem d_Lw_line_8 : decode M_Lw_line.2.1 8 = .ok (.lastore, 1) := by decide +kernel
theorem d_Lw_line_9 : decode M_Lw_line.2.1 9 = .ok (.goto 6, 3) := by decide +kernel
theorem d_Lw_line_12 : decode M_Lw_line.2.1 12 = .ok (.astore_n 3, 1) := by decide +kernel
theorem d_Lw_line_13 : decode M_Lw_line.2.1 13 = .ok (.iconst 1, 1) := by decide +kernel
theorem d_Lw_line_14 : decode M_Lw_line.2.1 14 = .ok (.ireturn, 1) := by decide +kernel
theorem d_Lw_line_15 : decode M_Lw_line.2.1 15 = .ok (.iconst 0, 1) := by decide +kernel
theorem d_Lw_line_16 : decode M_Lw_line.2.1 16 = .ok (.ireturn, 1) := by decide +kernel
theorem d_Lw_name_0 : decode M_Lw_name.2.1 0 = .ok (.aload 4, 2) := by decide +kernel
theorem d_Lw_name_2 : decode M_Lw_name.2.1 2 = .ok (.iconst 0, 1) := by decide +kernel
theorem d_Lw_name_3 : decode M_Lw_name.2.1 3 = .ok (.aload_n 0, 1) := by decide +kernel
theorem d_Lw_name_4 : decode M_Lw_name.2.1 4 = .ok (.iload_n 1, 1) := by decide +kernel
theorem d_Lw_name_5 : decode M_Lw_name.2.1 5 = .ok (.iload_n 2, 1) := by decide +kernel
theorem d_Lw_name_6 : decode M_Lw_name.2.1 6 = .ok (.iload_n 3, 1) := by decide +kernel
theorem d_Lw_name_7 : decode M_Lw_name.2.1 7 = .ok (.invokevirtual 7, 3) := by decide +kernel
theorem d_Lw_name_10 : decode M_Lw_name.2.1 10 = .ok (.ifCond .eq 7, 3) := by decide +kernel
theorem d_Lw_name_13 : decode M_Lw_name.2.1 13 = .ok (.lconst 1, 1) := by decide +kernel
theorem d_Lw_name_14 : decode M_Lw_name.2.1 14 = .ok (.goto 4, 3) := by decide +kernel
theorem d_Lw_name_17 : decode M_Lw_name.2.1 17 = .ok (.lconst 0, 1) := by decide +kernel
theorem d_Lw_name_18 : decode M_Lw_name.2.1 18 = .ok (.lastore, 1) := by decide +kernel
theorem d_Lw_name_19 : decode M_Lw_name.2.1 19 = .ok (.goto 7, 3) := by decide +kernel
theorem d_Lw_name_22 : decode M_Lw_name.2.1 22 = .ok (.astore 5, 2) := by decide +kernel
theorem d_Lw_name_24 : decode M_Lw_name.2.1 24 = .ok (.iconst 1, 1) := by decide +kernel
theorem d_Lw_name_25 : decode M_Lw_name.2.1 25 = .ok (.ireturn, 1) := by decide +kernel
theorem d_Lw_name_26 : decode M_Lw_name.2.1 26 = .ok (.iconst 0, 1) := by decide +kernel
theorem d_Lw_name_27 : decode M_Lw_name.2.1 27 = .ok (.ireturn, 1) := by decide +kernel
theorem d_Lw_rank_0 : decode M_Lw_rank.2.1 0 = .ok (.aload_n 2, 1) := by decide +kernel
theorem d_Lw_rank_1 : decode M_Lw_rank.2.1 1 = .ok (.iconst 0, 1) := by decide +kernel
theorem d_Lw_rank_2 : decode M_Lw_rank.2.1 2 = .ok (.aload_n 0, 1) := by decide +kernel
theorem d_Lw_rank_3 : decode M_Lw_rank.2.1 3 = .ok (.iload_n 1, 1) := by decide +kernel
theorem d_Lw_rank_4 : decode M_Lw_rank.2.1 4 = .ok (.invokevirtual 23, 3) := by decide +kernel
theorem d_Lw_rank_7 : decode M_Lw_rank.2.1 7 = .ok (.i2l, 1) := by decide +kernel
theorem d_Lw_rank_8 : decode M_Lw_rank.2.1 8 = .ok (.lastore, 1) := by decide +kernel
theorem d_Lw_rank_9 : decode M_Lw_rank.2.1 9 = .ok (.goto 6, 3) := by decide +kernel
theorem d_Lw_rank_12 : decode M_Lw_rank.2.1 12 = .ok (.astore_n 3, 1) := by decide +kernel
theorem d_Lw_rank_13 : decode M_Lw_rank.2.1 13 = .ok (.iconst 1, 1) := by decide +kernel
theorem d_Lw_rank_14 : decode M_Lw_rank.2.1 14 = .ok (.ireturn, 1) := by decide +kernel
theorem d_Lw_rank_15 : decode M_Lw_rank.2.1 15 = .ok (.iconst 0, 1) := by decide +kernel
theorem d_Lw_rank_16 : decode M_Lw_rank.2.1 16 = .ok (.ireturn, 1) := by decide +kernel
theorem d_Lw_rule_0 : decode M_Lw_rule.2.1 0 = .ok (.aload_n 3, 1) := by decide +kernel
theorem d_Lw_rule_1 : decode M_Lw_rule.2.1 1 = .ok (.iconst 0, 1) := by decide +kernel
theorem d_Lw_rule_2 : decode M_Lw_rule.2.1 2 = .ok (.aload_n 0, 1) := by decide +kernel
theorem d_Lw_rule_3 : decode M_Lw_rule.2.1 3 = .ok (.iload_n 1, 1) := by decide +kernel
theorem d_Lw_rule_4 : decode M_Lw_rule.2.1 4 = .ok (.iload_n 2, 1) := by decide +kernel
theorem d_Lw_rule_5 : decode M_Lw_rule.2.1 5 = .ok (.invokevirtual 15, 3) := by decide +kernel
theorem d_Lw_rule_8 : decode M_Lw_rule.2.1 8 = .ok (.i2l, 1) := by decide +kernel
theorem d_Lw_rule_9 : decode M_Lw_rule.2.1 9 = .ok (.lastore, 1) := by decide +kernel
theorem d_Lw_rule_10 : decode M_Lw_rule.2.1 10 = .ok (.goto 7, 3) := by decide +kernel
theorem d_Lw_rule_13 : decode M_Lw_rule.2.1 13 = .ok (.astore 4, 2) := by decide +kernel
theorem d_Lw_rule_15 : decode M_Lw_rule.2.1 15 = .ok (.iconst 1, 1) := by decide +kernel
theorem d_Lw_rule_16 : decode M_Lw_rule.2.1 16 = .ok (.ireturn, 1) := by decide +kernel
theorem d_Lw_rule_17 : decode M_Lw_rule.2.1 17 = .ok (.iconst 0, 1) := by decide +kernel
theorem d_Lw_rule_18 : decode M_Lw_rule.2.1 18 = .ok (.ireturn, 1) := by decide +kernel
theorem d_Lw_shape_0 : decode M_Lw_shape.2.1 0 = .ok (.aload 10, 2) := by decide +kernel
theorem d_Lw_shape_2 : decode M_Lw_shape.2.1 2 = .ok (.iconst 0, 1) := by decide +kernel
theorem d_Lw_shape_3 : decode M_Lw_shape.2.1 3 = .ok (.aload_n 0, 1) := by decide +kernel
theorem d_Lw_shape_4 : decode M_Lw_shape.2.1 4 = .ok (.iload_n 1, 1) := by decide +kernel
theorem d_Lw_shape_5 : decode M_Lw_shape.2.1 5 = .ok (.lload_n 2, 1) := by decide +kernel
theorem d_Lw_shape_6 : decode M_Lw_shape.2.1 6 = .ok (.lload 4, 2) := by decide +kernel
theorem d_Lw_shape_8 : decode M_Lw_shape.2.1 8 = .ok (.lload 6, 2) := by decide +kernel
theorem d_Lw_shape_10 : decode M_Lw_shape.2.1 10 = .ok (.lload 8, 2) := by decide +kernel
theorem d_Lw_shape_12 : decode M_Lw_shape.2.1 12 = .ok (.invokevirtual 27, 3) := by decide +kernel
theorem d_Lw_shape_15 : decode M_Lw_shape.2.1 15 = .ok (.ifCond .eq 7, 3) := by decide +kernel
theorem d_Lw_shape_18 : decode M_Lw_shape.2.1 18 = .ok (.lconst 1, 1) := by decide +kernel
theorem d_Lw_shape_19 : decode M_Lw_shape.2.1 19 = .ok (.goto 4, 3) := by decide +kernel
theorem d_Lw_shape_22 : decode M_Lw_shape.2.1 22 = .ok (.lconst 0, 1) := by decide +kernel
theorem d_Lw_shape_23 : decode M_Lw_shape.2.1 23 = .ok (.lastore, 1) := by decide +kernel
theorem d_Lw_shape_24 : decode M_Lw_shape.2.1 24 = .ok (.goto 7, 3) := by decide +kernel
theorem d_Lw_shape_27 : decode M_Lw_shape.2.1 27 = .ok (.astore 11, 2) := by decide +kernel
theorem d_Lw_shape_29 : decode M_Lw_shape.2.1 29 = .ok (.iconst 1, 1) := by decide +kernel
theorem d_Lw_shape_30 : decode M_Lw_shape.2.1 30 = .ok (.ireturn, 1) := by decide +kernel
theorem d_Lw_shape_31 : decode M_Lw_shape.2.1 31 = .ok (.iconst 0, 1) := by decide +kernel
theorem d_Lw_shape_32 : decode M_Lw_shape.2.1 32 = .ok (.ireturn, 1) := by decide +kernel
theorem d_Lw_value_0 : decode M_Lw_value.2.1 0 = .ok (.aload_n 3, 1) := by decide +kernel
theorem d_Lw_value_1 : decode M_Lw_value.2.1 1 = .ok (.iconst 0, 1) := by decide +kernel
theorem d_Lw_value_2 : decode M_Lw_value.2.1 2 = .ok (.aload_n 0, 1) := by decide +kernel
theorem d_Lw_value_3 : decode M_Lw_value.2.1 3 = .ok (.iload_n 1, 1) := by decide +kernel
theorem d_Lw_value_4 : decode M_Lw_value.2.1 4 = .ok (.iload_n 2, 1) := by decide +kernel
theorem d_Lw_value_5 : decode M_Lw_value.2.1 5 = .ok (.invokevirtual 19, 3) := by decide +kernel
theorem d_Lw_value_8 : decode M_Lw_value.2.1 8 = .ok (.lastore, 1) := by decide +kernel
theorem d_Lw_value_9 : decode M_Lw_value.2.1 9 = .ok (.goto 7, 3) := by decide +kernel
theorem d_Lw_value_12 : decode M_Lw_value.2.1 12 = .ok (.astore 4, 2) := by decide +kernel
theorem d_Lw_value_14 : decode M_Lw_value.2.1 14 = .ok (.iconst 1, 1) := by decide +kernel
theorem d_Lw_value_15 : decode M_Lw_value.2.1 15 = .ok (.ireturn, 1) := by decide +kernel
theorem d_Lw_value_16 : decode M_Lw_value.2.1 16 = .ok (.iconst 0, 1) := by decide +kernel
theorem d_Lw_value_17 : decode M_Lw_value.2.1 17 = .ok (.ireturn, 1) := by decide +kernel
theorem d_Lw_write_0 : decode M_Lw_write.2.1 0 = .ok (.aload_n 2, 1) := by decide +kernel
theorem d_Lw_write_1 : decode M_Lw_write.2.1 1 = .ok (.iconst 0, 1) := by decide +kernel
theorem d_Lw_write_2 : decode M_Lw_write.2.1 2 = .ok (.aload_n 0, 1) := by decide +kernel
theorem d_Lw_write_3 : decode M_Lw_write.2.1 3 = .ok (.iload_n 1, 1) := by decide +kernel
theorem d_Lw_write_4 : decode M_Lw_write.2.1 4 = .ok (.invokevirtual 37, 3) := by decide +kernel
theorem d_Lw_write_7 : decode M_Lw_write.2.1 7 = .ok (.i2l, 1) := by decide +kernel
theorem d_Lw_write_8 : decode M_Lw_write.2.1 8 = .ok (.lastore, 1) := by decide +kernel
theorem d_Lw_write_9 : decode M_Lw_write.2.1 9 = .ok (.goto 6, 3) := by decide +kernel
theorem d_Lw_write_12 : decode M_Lw_write.2.1 12 = .ok (.astore_n 3, 1) := by decide +kernel
theorem d_Lw_write_13 : decode M_Lw_write.2.1 13 = .ok (.iconst 1, 1) := by decide +kernel
theorem d_Lw_write_14 : decode M_Lw_write.2.1 14 = .ok (.ireturn, 1) := by decide +kernel
theorem d_Lw_write_15 : decode M_Lw_write.2.1 15 = .ok (.iconst 0, 1) := by decide +kernel
theorem d_Lw_write_16 : decode M_Lw_write.2.1 16 = .ok (.ireturn, 1) := by decide +kernel
theorem lm_Lw_49 : rx_LW "RuleTextLaw" 49 y_Lw_name M_Lw_name 5 := ⟨(rx_in (tm_3 (List.mem_of_getElem? (i := 101) rfl)) rfl), (rx_in (tm_1 (List.mem_of_getElem? (i := 0) rfl)) rfl), ⟨by decide +kernel, by decide +kernel⟩, by decide +kernel, by decide, (rx_in (tm_3 (List.mem_of_getElem? (i := 99) rfl)) rfl), (rx_in (tm_3 (List.mem_of_getElem? (i := 100) rfl)) rfl)⟩
theorem lm_Lw_63 : rx_LW "RuleTextLaw" 63 y_Lw_rule M_Lw_rule 4 := ⟨(rx_in (tm_3 (List.mem_of_getElem? (i := 182) rfl)) rfl), (rx_in (tm_1 (List.mem_of_getElem? (i := 0) rfl)) rfl), ⟨by decide +kernel, by decide +kernel⟩, by decide +kernel, by decide, (rx_in (tm_3 (List.mem_of_getElem? (i := 180) rfl)) rfl), (rx_in (tm_3 (List.mem_of_getElem? (i := 181) rfl)) rfl)⟩
theorem lm_Lw_67 : rx_LW "RuleTextLaw" 67 y_Lw_value M_Lw_value 4 := ⟨(rx_in (tm_3 (List.mem_of_getElem? (i := 200) rfl)) rfl), (rx_in (tm_1 (List.mem_of_getElem? (i := 0) rfl)) rfl), ⟨by decide +kernel, by decide +kernel⟩, by decide +kernel, by decide, (rx_in (tm_3 (List.mem_of_getElem? (i := 198) rfl)) rfl), (rx_in (tm_3 (List.mem_of_getElem? (i := 199) rfl)) rfl)⟩
theorem lm_Lw_70 : rx_LW "RuleTextLaw" 70 y_Lw_rank M_Lw_rank 3 := ⟨(rx_in (tm_3 (List.mem_of_getElem? (i := 208) rfl)) rfl), (rx_in (tm_1 (List.mem_of_getElem? (i := 0) rfl)) rfl), ⟨by decide +kernel, by decide +kernel⟩, by decide +kernel, by decide, (rx_in (tm_3 (List.mem_of_getElem? (i := 206) rfl)) rfl), (rx_in (tm_3 (List.mem_of_getElem? (i := 207) rfl)) rfl)⟩
theorem lm_Lw_76 : rx_LW "RuleTextLaw" 76 y_Lw_shape M_Lw_shape 7 := ⟨(rx_in (tm_3 (List.mem_of_getElem? (i := 220) rfl)) rfl), (rx_in (tm_1 (List.mem_of_getElem? (i := 0) rfl)) rfl), ⟨by decide +kernel, by decide +kernel⟩, by decide +kernel, by decide, (rx_in (tm_3 (List.mem_of_getElem? (i := 218) rfl)) rfl), (rx_in (tm_3 (List.mem_of_getElem? (i := 219) rfl)) rfl)⟩
theorem lm_Lw_84 : rx_LW "RuleTextLaw" 84 y_Lw_clash M_Lw_clash 4 := ⟨(rx_in (tm_3 (List.mem_of_getElem? (i := 232) rfl)) rfl), (rx_in (tm_1 (List.mem_of_getElem? (i := 0) rfl)) rfl), ⟨by decide +kernel, by decide +kernel⟩, by decide +kernel, by decide, (rx_in (tm_3 (List.mem_of_getElem? (i := 230) rfl)) rfl), (rx_in (tm_3 (List.mem_of_getElem? (i := 231) rfl)) rfl)⟩
theorem lm_Lw_87 : rx_LW "RuleTextLaw" 87 y_Lw_line M_Lw_line 3 := ⟨(rx_in (tm_4 (List.mem_of_getElem? (i := 12) rfl)) rfl), (rx_in (tm_1 (List.mem_of_getElem? (i := 0) rfl)) rfl), ⟨by decide +kernel, by decide +kernel⟩, by decide +kernel, by decide, (rx_in (tm_4 (List.mem_of_getElem? (i := 10) rfl)) rfl), (rx_in (tm_4 (List.mem_of_getElem? (i := 11) rfl)) rfl)⟩
theorem lm_Lw_94 : rx_LW "RuleTextLaw" 94 y_Lw_write M_Lw_write 3 := ⟨(rx_in (tm_4 (List.mem_of_getElem? (i := 19) rfl)) rfl), (rx_in (tm_1 (List.mem_of_getElem? (i := 0) rfl)) rfl), ⟨by decide +kernel, by decide +kernel⟩, by decide +kernel, by decide, (rx_in (tm_4 (List.mem_of_getElem? (i := 17) rfl)) rfl), (rx_in (tm_4 (List.mem_of_getElem? (i := 18) rfl)) rfl)⟩
theorem lw_IO : Cond.classLink "RuleTextLaw" 13 rx_IO ∈ rx_TB := (rx_in (tm_3 (List.mem_of_getElem? (i := 102) rfl)) rfl)
section
variable {nx : Nat} {ct : Nat → Nat × Nat} {mi : Nat → Nat → Int32} {ml : Nat → Nat → Int64} {mr : Nat → Nat → Option Nat} {d mc ms : Nat} {post : Option Value → rx_S → Prop}
/-- the class's answer goes to the law's place, and 0 comes back -/
def outP (conv : Option Value → Int64) (post : Option Value → rx_S → Prop) : Option Value → rx_S → Prop := fun v τ => v = some (.int 0) ∧ ∃ v1 nx1 ct1 m1 l1 r1, post v1 (nx1, ct1, m1, l1, r1) ∧ τ = (nx1, ct1, m1, rx_u l1 408 0 (conv v1), r1)
def cvZ (v : Option Value) : Int64 := match v with | some (.int x) => if x = 0 then 0 else 1 | _ => 0
theorem cvZ_f {P : Prop} (h : ¬ P) : cvZ (some (.int (bI P))) = 0 := by show (if bI P = 0 then (0 : Int64) else 1) = 0; rw [if_pos (bI_f h)]
theorem cvZ_t {P : Prop} (h : P) : cvZ (some (.int (bI P))) = 1 := by show (if bI P = 0 then (0 : Int64) else 1) = 1; rw [if_neg (bI_ne0.mpr h)]
def cvI (v : Option Value) : Int64 := match v with | some (.int x) => x.toInt64 | _ => 0
def cvL (v : Option Value) : Int64 := match v with | some (.long x) => x | _ => 0
def trP (nx : Nat) (ct : Nat → Nat × Nat) (mi : Nat → Nat → Int32) (ml : Nat → Nat → Int64) (mr : Nat → Nat → Option Nat) : Option Value → rx_S → Prop := fun v τ => v = some (.int 1) ∧ τ = rx_new nx ct mi ml mr 95 0
theorem lw_name {p0 p1 p2 : Int32} (hL : LAY nx ct mr) (h : rx_Calls y_RT_name M_RT_name d mc ms [.ref 256, .int p0, .int p1, .int p2] (nx, ct, mi, ml, mr) post) (hv : ∀ v τ, post v τ → (∃ P : Prop, v = some (.int (bI P))) ∧ ∃ nx1 ct1 m1 l1 r1, τ = (nx1, ct1, m1, l1, r1) ∧ LAY nx1 ct1 r1) : rx_CallsW y_Lw_name M_Lw_name (d + 1) mc ms [.ref 256, .int p0, .int p1, .int p2, .ref 408] (nx, ct, mi, ml, mr) (outP cvZ post) := by
  refine rx_enterW (by decide) rfl rfl (Nat.le_of_ble_eq_true rfl) ?_
  refine ru_aload d_Lw_name_0 rfl ?_
  refine ru_iconst (v := 0) d_Lw_name_2 (by decide) ?_
  refine ru_aload_n d_Lw_name_3 rfl rfl ?_
  refine ru_iload_n d_Lw_name_4 rfl rfl ?_
  refine ru_iload_n d_Lw_name_5 rfl rfl ?_
  refine ru_iload_n d_Lw_name_6 rfl rfl ?_
  refine ru_callV (mc := 0) (ms := 0) d_Lw_name_7 lm_Lw_7 h (rx_recv_is (ly hL 256 0 0) kx_RT) (Nat.le_refl _) rfl (Nat.le_of_ble_eq_true rfl) ?_
  intro v τ hp
  obtain ⟨⟨x, rfl⟩, nx1, ct1, m1, l1, r1, rfl, hL1⟩ := hv v τ hp
  refine ru_if_eq (tgt := 17) d_Lw_name_10 (by decide) (fun h10 => ?_) (fun h10 => ?_)
  · skip
    replace h10 := bI_eq0.mp h10
    refine ru_lconst (v := 0) d_Lw_name_17 (by decide) ?_
    refine ru_lastN (j := 0) d_Lw_name_18 (ly hL1 408 104 1) (by omega) (by decide) ?_
    refine ru_goto (tgt := 26) d_Lw_name_19 (by decide) ?_
    refine ru_iconst (v := 0) d_Lw_name_26 (by decide) ?_
    refine ru_iret d_Lw_name_27 rfl ?_
    refine ⟨rfl, _, nx1, ct1, m1, l1, r1, hp, ?_⟩
    first | rw [cvZ_f h10] | rw [cvZ_t h10]
  · skip
    replace h10 := bI_ne0.mp h10
    refine ru_lconst (v := 1) d_Lw_name_13 (by decide) ?_
    refine ru_goto (tgt := 18) d_Lw_name_14 (by decide) ?_
    refine ru_lastN (j := 0) d_Lw_name_18 (ly hL1 408 104 1) (by omega) (by decide) ?_
    refine ru_goto (tgt := 26) d_Lw_name_19 (by decide) ?_
    refine ru_iconst (v := 0) d_Lw_name_26 (by decide) ?_
    refine ru_iret d_Lw_name_27 rfl ?_
    refine ⟨rfl, _, nx1, ct1, m1, l1, r1, hp, ?_⟩
    first | rw [cvZ_f h10] | rw [cvZ_t h10]
theorem lt_name {p0 p1 p2 : Int32} (h : rx_Throws y_RT_name M_RT_name 6 1 6 [.ref 256, .int p0, .int p1, .int p2] (nx, ct, mi, ml, mr) (thr nx ct mi ml mr)) (hL : LAY nx ct mr) : rx_CallsW y_Lw_name M_Lw_name 7 1 6 [.ref 256, .int p0, .int p1, .int p2, .ref 408] (nx, ct, mi, ml, mr) (trP nx ct mi ml mr) := by
  refine rx_enterW (by decide) rfl rfl (Nat.le_of_ble_eq_true rfl) ?_
  have k : rx_W M_Lw_name 7 0 0 22 [] [.ref nx] (rx_new nx ct mi ml mr 95 0) (pR (trP nx ct mi ml mr)) := by
    refine ru_astore d_Lw_name_22 (by decide) ?_
    refine ru_iconst (v := 1) d_Lw_name_24 (by decide) ?_
    refine ru_iret d_Lw_name_25 rfl ?_
    exact ⟨rfl, rfl⟩
  refine ru_aload d_Lw_name_0 rfl ?_
  refine ru_iconst (v := 0) d_Lw_name_2 (by decide) ?_
  refine ru_aload_n d_Lw_name_3 rfl rfl ?_
  refine ru_iload_n d_Lw_name_4 rfl rfl ?_
  refine ru_iload_n d_Lw_name_5 rfl rfl ?_
  refine ru_iload_n d_Lw_name_6 rfl rfl ?_
  refine ru_callVT (mc := 0) (ms := 0) d_Lw_name_7 lm_Lw_7 h (rx_recv_is (ly hL 256 0 0) kx_RT) (by decide) rfl (Nat.le_of_ble_eq_true rfl) rfl ⟨by decide, by decide, by decide⟩ lw_IO ?_
  rintro x τ ⟨rfl, rfl⟩
  exact ru_to k trivial
theorem lw_rule {p0 p1 : Int32} (hL : LAY nx ct mr) (h : rx_Calls y_RT_rule M_RT_rule d mc ms [.ref 256, .int p0, .int p1] (nx, ct, mi, ml, mr) post) (hv : ∀ v τ, post v τ → (∃ x, v = some (.int x)) ∧ ∃ nx1 ct1 m1 l1 r1, τ = (nx1, ct1, m1, l1, r1) ∧ LAY nx1 ct1 r1) : rx_CallsW y_Lw_rule M_Lw_rule (d + 1) mc ms [.ref 256, .int p0, .int p1, .ref 408] (nx, ct, mi, ml, mr) (outP cvI post) := by
  refine rx_enterW (by decide) rfl rfl (Nat.le_of_ble_eq_true rfl) ?_
  refine ru_aload_n d_Lw_rule_0 rfl rfl ?_
  refine ru_iconst (v := 0) d_Lw_rule_1 (by decide) ?_
  refine ru_aload_n d_Lw_rule_2 rfl rfl ?_
  refine ru_iload_n d_Lw_rule_3 rfl rfl ?_
  refine ru_iload_n d_Lw_rule_4 rfl rfl ?_
  refine ru_callV (mc := 0) (ms := 0) d_Lw_rule_5 lm_Lw_15 h (rx_recv_is (ly hL 256 0 0) kx_RT) (Nat.le_refl _) rfl (Nat.le_of_ble_eq_true rfl) ?_
  intro v τ hp
  obtain ⟨⟨x, rfl⟩, nx1, ct1, m1, l1, r1, rfl, hL1⟩ := hv v τ hp
  refine ru_i2l d_Lw_rule_8 ?_
  refine ru_lastN (j := 0) d_Lw_rule_9 (ly hL1 408 104 1) (by omega) (by decide) ?_
  refine ru_goto (tgt := 17) d_Lw_rule_10 (by decide) ?_
  refine ru_iconst (v := 0) d_Lw_rule_17 (by decide) ?_
  refine ru_iret d_Lw_rule_18 rfl ?_
  exact ⟨rfl, _, nx1, ct1, m1, l1, r1, hp, rfl⟩
theorem lt_rule {p0 p1 : Int32} (h : rx_Throws y_RT_rule M_RT_rule 6 1 6 [.ref 256, .int p0, .int p1] (nx, ct, mi, ml, mr) (thr nx ct mi ml mr)) (hL : LAY nx ct mr) : rx_CallsW y_Lw_rule M_Lw_rule 7 1 6 [.ref 256, .int p0, .int p1, .ref 408] (nx, ct, mi, ml, mr) (trP nx ct mi ml mr) := by
  refine rx_enterW (by decide) rfl rfl (Nat.le_of_ble_eq_true rfl) ?_
  have k : rx_W M_Lw_rule 7 0 0 13 [] [.ref nx] (rx_new nx ct mi ml mr 95 0) (pR (trP nx ct mi ml mr)) := by
    refine ru_astore d_Lw_rule_13 (by decide) ?_
    refine ru_iconst (v := 1) d_Lw_rule_15 (by decide) ?_
    refine ru_iret d_Lw_rule_16 rfl ?_
    exact ⟨rfl, rfl⟩
  refine ru_aload_n d_Lw_rule_0 rfl rfl ?_
  refine ru_iconst (v := 0) d_Lw_rule_1 (by decide) ?_
  refine ru_aload_n d_Lw_rule_2 rfl rfl ?_
  refine ru_iload_n d_Lw_rule_3 rfl rfl ?_
  refine ru_iload_n d_Lw_rule_4 rfl rfl ?_
  refine ru_callVT (mc := 0) (ms := 0) d_Lw_rule_5 lm_Lw_15 h (rx_recv_is (ly hL 256 0 0) kx_RT) (by decide) rfl (Nat.le_of_ble_eq_true rfl) rfl ⟨by decide, by decide, by decide⟩ lw_IO ?_
  rintro x τ ⟨rfl, rfl⟩
  exact ru_to k trivial
theorem lw_value {p0 p1 : Int32} (hL : LAY nx ct mr) (h : rx_Calls y_RT_value M_RT_value d mc ms [.ref 256, .int p0, .int p1] (nx, ct, mi, ml, mr) post) (hv : ∀ v τ, post v τ → (∃ x, v = some (.long x)) ∧ ∃ nx1 ct1 m1 l1 r1, τ = (nx1, ct1, m1, l1, r1) ∧ LAY nx1 ct1 r1) : rx_CallsW y_Lw_value M_Lw_value (d + 1) mc ms [.ref 256, .int p0, .int p1, .ref 408] (nx, ct, mi, ml, mr) (outP cvL post) := by
  refine rx_enterW (by decide) rfl rfl (Nat.le_of_ble_eq_true rfl) ?_
  refine ru_aload_n d_Lw_value_0 rfl rfl ?_
  refine ru_iconst (v := 0) d_Lw_value_1 (by decide) ?_
  refine ru_aload_n d_Lw_value_2 rfl rfl ?_
  refine ru_iload_n d_Lw_value_3 rfl rfl ?_
  refine ru_iload_n d_Lw_value_4 rfl rfl ?_
  refine ru_callV (mc := 0) (ms := 0) d_Lw_value_5 lm_Lw_19 h (rx_recv_is (ly hL 256 0 0) kx_RT) (Nat.le_refl _) rfl (Nat.le_of_ble_eq_true rfl) ?_
  intro v τ hp
  obtain ⟨⟨x, rfl⟩, nx1, ct1, m1, l1, r1, rfl, hL1⟩ := hv v τ hp
  refine ru_lastN (j := 0) d_Lw_value_8 (ly hL1 408 104 1) (by omega) (by decide) ?_
  refine ru_goto (tgt := 16) d_Lw_value_9 (by decide) ?_
  refine ru_iconst (v := 0) d_Lw_value_16 (by decide) ?_
  refine ru_iret d_Lw_value_17 rfl ?_
  exact ⟨rfl, _, nx1, ct1, m1, l1, r1, hp, rfl⟩
theorem lt_value {p0 p1 : Int32} (h : rx_Throws y_RT_value M_RT_value 6 1 6 [.ref 256, .int p0, .int p1] (nx, ct, mi, ml, mr) (thr nx ct mi ml mr)) (hL : LAY nx ct mr) : rx_CallsW y_Lw_value M_Lw_value 7 1 6 [.ref 256, .int p0, .int p1, .ref 408] (nx, ct, mi, ml, mr) (trP nx ct mi ml mr) := by
  refine rx_enterW (by decide) rfl rfl (Nat.le_of_ble_eq_true rfl) ?_
  have k : rx_W M_Lw_value 7 0 0 12 [] [.ref nx] (rx_new nx ct mi ml mr 95 0) (pR (trP nx ct mi ml mr)) := by
    refine ru_astore d_Lw_value_12 (by decide) ?_
    refine ru_iconst (v := 1) d_Lw_value_14 (by decide) ?_
    refine ru_iret d_Lw_value_15 rfl ?_
    exact ⟨rfl, rfl⟩
  refine ru_aload_n d_Lw_value_0 rfl rfl ?_
  refine ru_iconst (v := 0) d_Lw_value_1 (by decide) ?_
  refine ru_aload_n d_Lw_value_2 rfl rfl ?_
  refine ru_iload_n d_Lw_value_3 rfl rfl ?_
  refine ru_iload_n d_Lw_value_4 rfl rfl ?_
  refine ru_callVT (mc := 0) (ms := 0) d_Lw_value_5 lm_Lw_19 h (rx_recv_is (ly hL 256 0 0) kx_RT) (by decide) rfl (Nat.le_of_ble_eq_true rfl) rfl ⟨by decide, by decide, by decide⟩ lw_IO ?_
  rintro x τ ⟨rfl, rfl⟩
  exact ru_to k trivial
theorem lw_rank {p0 : Int32} (hL : LAY nx ct mr) (h : rx_Calls y_RT_rank M_RT_rank d mc ms [.ref 256, .int p0] (nx, ct, mi, ml, mr) post) (hv : ∀ v τ, post v τ → (∃ x, v = some (.int x)) ∧ ∃ nx1 ct1 m1 l1 r1, τ = (nx1, ct1, m1, l1, r1) ∧ LAY nx1 ct1 r1) : rx_CallsW y_Lw_rank M_Lw_rank (d + 1) mc ms [.ref 256, .int p0, .ref 408] (nx, ct, mi, ml, mr) (outP cvI post) := by
  refine rx_enterW (by decide) rfl rfl (Nat.le_of_ble_eq_true rfl) ?_
  refine ru_aload_n d_Lw_rank_0 rfl rfl ?_
  refine ru_iconst (v := 0) d_Lw_rank_1 (by decide) ?_
  refine ru_aload_n d_Lw_rank_2 rfl rfl ?_
  refine ru_iload_n d_Lw_rank_3 rfl rfl ?_
  refine ru_callV (mc := 0) (ms := 0) d_Lw_rank_4 lm_Lw_23 h (rx_recv_is (ly hL 256 0 0) kx_RT) (Nat.le_refl _) rfl (Nat.le_of_ble_eq_true rfl) ?_
  intro v τ hp
  obtain ⟨⟨x, rfl⟩, nx1, ct1, m1, l1, r1, rfl, hL1⟩ := hv v τ hp
  refine ru_i2l d_Lw_rank_7 ?_
  refine ru_lastN (j := 0) d_Lw_rank_8 (ly hL1 408 104 1) (by omega) (by decide) ?_
  refine ru_goto (tgt := 15) d_Lw_rank_9 (by decide) ?_
  refine ru_iconst (v := 0) d_Lw_rank_15 (by decide) ?_
  refine ru_iret d_Lw_rank_16 rfl ?_
  exact ⟨rfl, _, nx1, ct1, m1, l1, r1, hp, rfl⟩
theorem lt_rank {p0 : Int32} (h : rx_Throws y_RT_rank M_RT_rank 6 1 6 [.ref 256, .int p0] (nx, ct, mi, ml, mr) (thr nx ct mi ml mr)) (hL : LAY nx ct mr) : rx_CallsW y_Lw_rank M_Lw_rank 7 1 6 [.ref 256, .int p0, .ref 408] (nx, ct, mi, ml, mr) (trP nx ct mi ml mr) := by
  refine rx_enterW (by decide) rfl rfl (Nat.le_of_ble_eq_true rfl) ?_
  have k : rx_W M_Lw_rank 7 0 0 12 [] [.ref nx] (rx_new nx ct mi ml mr 95 0) (pR (trP nx ct mi ml mr)) := by
    refine ru_astore_n d_Lw_rank_12 rfl (by decide) ?_
    refine ru_iconst (v := 1) d_Lw_rank_13 (by decide) ?_
    refine ru_iret d_Lw_rank_14 rfl ?_
    exact ⟨rfl, rfl⟩
  refine ru_aload_n d_Lw_rank_0 rfl rfl ?_
  refine ru_iconst (v := 0) d_Lw_rank_1 (by decide) ?_
  refine ru_aload_n d_Lw_rank_2 rfl rfl ?_
  refine ru_iload_n d_Lw_rank_3 rfl rfl ?_
  refine ru_callVT (mc := 0) (ms := 0) d_Lw_rank_4 lm_Lw_23 h (rx_recv_is (ly hL 256 0 0) kx_RT) (by decide) rfl (Nat.le_of_ble_eq_true rfl) rfl ⟨by decide, by decide, by decide⟩ lw_IO ?_
  rintro x τ ⟨rfl, rfl⟩
  exact ru_to k trivial
theorem lw_shape {p0 : Int32} {p1 p2 p3 p4 : Int64} (hL : LAY nx ct mr) (h : rx_Calls y_RT_shape M_RT_shape d mc ms [.ref 256, .int p0, .long p1, .long p2, .long p3, .long p4] (nx, ct, mi, ml, mr) post) (hv : ∀ v τ, post v τ → (∃ P : Prop, v = some (.int (bI P))) ∧ ∃ nx1 ct1 m1 l1 r1, τ = (nx1, ct1, m1, l1, r1) ∧ LAY nx1 ct1 r1) : rx_CallsW y_Lw_shape M_Lw_shape (d + 1) mc ms [.ref 256, .int p0, .long p1, .long p2, .long p3, .long p4, .ref 408] (nx, ct, mi, ml, mr) (outP cvZ post) := by
  refine rx_enterW (by decide) rfl rfl (Nat.le_of_ble_eq_true rfl) ?_
  refine ru_aload d_Lw_shape_0 rfl ?_
  refine ru_iconst (v := 0) d_Lw_shape_2 (by decide) ?_
  refine ru_aload_n d_Lw_shape_3 rfl rfl ?_
  refine ru_iload_n d_Lw_shape_4 rfl rfl ?_
  refine ru_lload_n d_Lw_shape_5 rfl rfl ?_
  refine ru_lload d_Lw_shape_6 rfl ?_
  refine ru_lload d_Lw_shape_8 rfl ?_
  refine ru_lload d_Lw_shape_10 rfl ?_
  refine ru_callV (mc := 0) (ms := 0) d_Lw_shape_12 lm_Lw_27 h (rx_recv_is (ly hL 256 0 0) kx_RT) (Nat.le_refl _) rfl (Nat.le_of_ble_eq_true rfl) ?_
  intro v τ hp
  obtain ⟨⟨x, rfl⟩, nx1, ct1, m1, l1, r1, rfl, hL1⟩ := hv v τ hp
  refine ru_if_eq (tgt := 22) d_Lw_shape_15 (by decide) (fun h15 => ?_) (fun h15 => ?_)
  · skip
    replace h15 := bI_eq0.mp h15
    refine ru_lconst (v := 0) d_Lw_shape_22 (by decide) ?_
    refine ru_lastN (j := 0) d_Lw_shape_23 (ly hL1 408 104 1) (by omega) (by decide) ?_
    refine ru_goto (tgt := 31) d_Lw_shape_24 (by decide) ?_
    refine ru_iconst (v := 0) d_Lw_shape_31 (by decide) ?_
    refine ru_iret d_Lw_shape_32 rfl ?_
    refine ⟨rfl, _, nx1, ct1, m1, l1, r1, hp, ?_⟩
    first | rw [cvZ_f h15] | rw [cvZ_t h15]
  · skip
    replace h15 := bI_ne0.mp h15
    refine ru_lconst (v := 1) d_Lw_shape_18 (by decide) ?_
    refine ru_goto (tgt := 23) d_Lw_shape_19 (by decide) ?_
    refine ru_lastN (j := 0) d_Lw_shape_23 (ly hL1 408 104 1) (by omega) (by decide) ?_
    refine ru_goto (tgt := 31) d_Lw_shape_24 (by decide) ?_
    refine ru_iconst (v := 0) d_Lw_shape_31 (by decide) ?_
    refine ru_iret d_Lw_shape_32 rfl ?_
    refine ⟨rfl, _, nx1, ct1, m1, l1, r1, hp, ?_⟩
    first | rw [cvZ_f h15] | rw [cvZ_t h15]
theorem lt_shape {p0 : Int32} {p1 p2 p3 p4 : Int64} (h : rx_Throws y_RT_shape M_RT_shape 6 1 6 [.ref 256, .int p0, .long p1, .long p2, .long p3, .long p4] (nx, ct, mi, ml, mr) (thr nx ct mi ml mr)) (hL : LAY nx ct mr) : rx_CallsW y_Lw_shape M_Lw_shape 7 1 6 [.ref 256, .int p0, .long p1, .long p2, .long p3, .long p4, .ref 408] (nx, ct, mi, ml, mr) (trP nx ct mi ml mr) := by
  refine rx_enterW (by decide) rfl rfl (Nat.le_of_ble_eq_true rfl) ?_
  have k : rx_W M_Lw_shape 7 0 0 27 [] [.ref nx] (rx_new nx ct mi ml mr 95 0) (pR (trP nx ct mi ml mr)) := by
    refine ru_astore d_Lw_shape_27 (by decide) ?_
    refine ru_iconst (v := 1) d_Lw_shape_29 (by decide) ?_
    refine ru_iret d_Lw_shape_30 rfl ?_
    exact ⟨rfl, rfl⟩
  refine ru_aload d_Lw_shape_0 rfl ?_
  refine ru_iconst (v := 0) d_Lw_shape_2 (by decide) ?_
  refine ru_aload_n d_Lw_shape_3 rfl rfl ?_
  refine ru_iload_n d_Lw_shape_4 rfl rfl ?_
  refine ru_lload_n d_Lw_shape_5 rfl rfl ?_
  refine ru_lload d_Lw_shape_6 rfl ?_
  refine ru_lload d_Lw_shape_8 rfl ?_
  refine ru_lload d_Lw_shape_10 rfl ?_
  refine ru_callVT (mc := 0) (ms := 0) d_Lw_shape_12 lm_Lw_27 h (rx_recv_is (ly hL 256 0 0) kx_RT) (by decide) rfl (Nat.le_of_ble_eq_true rfl) rfl ⟨by decide, by decide, by decide⟩ lw_IO ?_
  rintro x τ ⟨rfl, rfl⟩
  exact ru_to k trivial
theorem lw_clash {p0 p1 : Int32} (hL : LAY nx ct mr) (h : rx_Calls y_RT_clash M_RT_clash d mc ms [.ref 256, .int p0, .int p1] (nx, ct, mi, ml, mr) post) (hv : ∀ v τ, post v τ → (∃ x, v = some (.int x)) ∧ ∃ nx1 ct1 m1 l1 r1, τ = (nx1, ct1, m1, l1, r1) ∧ LAY nx1 ct1 r1) : rx_CallsW y_Lw_clash M_Lw_clash (d + 1) mc ms [.ref 256, .int p0, .int p1, .ref 408] (nx, ct, mi, ml, mr) (outP cvI post) := by
  refine rx_enterW (by decide) rfl rfl (Nat.le_of_ble_eq_true rfl) ?_
  refine ru_aload_n d_Lw_clash_0 rfl rfl ?_
  refine ru_iconst (v := 0) d_Lw_clash_1 (by decide) ?_
  refine ru_aload_n d_Lw_clash_2 rfl rfl ?_
  refine ru_iload_n d_Lw_clash_3 rfl rfl ?_
  refine ru_iload_n d_Lw_clash_4 rfl rfl ?_
  refine ru_callV (mc := 0) (ms := 0) d_Lw_clash_5 lm_Lw_31 h (rx_recv_is (ly hL 256 0 0) kx_RT) (Nat.le_refl _) rfl (Nat.le_of_ble_eq_true rfl) ?_
  intro v τ hp
  obtain ⟨⟨x, rfl⟩, nx1, ct1, m1, l1, r1, rfl, hL1⟩ := hv v τ hp
  refine ru_i2l d_Lw_clash_8 ?_
  refine ru_lastN (j := 0) d_Lw_clash_9 (ly hL1 408 104 1) (by omega) (by decide) ?_
  refine ru_goto (tgt := 17) d_Lw_clash_10 (by decide) ?_
  refine ru_iconst (v := 0) d_Lw_clash_17 (by decide) ?_
  refine ru_iret d_Lw_clash_18 rfl ?_
  exact ⟨rfl, _, nx1, ct1, m1, l1, r1, hp, rfl⟩
theorem lt_clash {p0 p1 : Int32} (h : rx_Throws y_RT_clash M_RT_clash 6 1 6 [.ref 256, .int p0, .int p1] (nx, ct, mi, ml, mr) (thr nx ct mi ml mr)) (hL : LAY nx ct mr) : rx_CallsW y_Lw_clash M_Lw_clash 7 1 6 [.ref 256, .int p0, .int p1, .ref 408] (nx, ct, mi, ml, mr) (trP nx ct mi ml mr) := by
  refine rx_enterW (by decide) rfl rfl (Nat.le_of_ble_eq_true rfl) ?_
  have k : rx_W M_Lw_clash 7 0 0 13 [] [.ref nx] (rx_new nx ct mi ml mr 95 0) (pR (trP nx ct mi ml mr)) := by
    refine ru_astore d_Lw_clash_13 (by decide) ?_
    refine ru_iconst (v := 1) d_Lw_clash_15 (by decide) ?_
    refine ru_iret d_Lw_clash_16 rfl ?_
    exact ⟨rfl, rfl⟩
  refine ru_aload_n d_Lw_clash_0 rfl rfl ?_
  refine ru_iconst (v := 0) d_Lw_clash_1 (by decide) ?_
  refine ru_aload_n d_Lw_clash_2 rfl rfl ?_
  refine ru_iload_n d_Lw_clash_3 rfl rfl ?_
  refine ru_iload_n d_Lw_clash_4 rfl rfl ?_
  refine ru_callVT (mc := 0) (ms := 0) d_Lw_clash_5 lm_Lw_31 h (rx_recv_is (ly hL 256 0 0) kx_RT) (by decide) rfl (Nat.le_of_ble_eq_true rfl) rfl ⟨by decide, by decide, by decide⟩ lw_IO ?_
  rintro x τ ⟨rfl, rfl⟩
  exact ru_to k trivial
theorem lw_line {p0 : Int32} (hL : LAY nx ct mr) (h : rx_Calls y_RT_line M_RT_line d mc ms [.ref 256, .int p0] (nx, ct, mi, ml, mr) post) (hv : ∀ v τ, post v τ → (∃ x, v = some (.int x)) ∧ ∃ nx1 ct1 m1 l1 r1, τ = (nx1, ct1, m1, l1, r1) ∧ LAY nx1 ct1 r1) : rx_CallsW y_Lw_line M_Lw_line (d + 1) mc ms [.ref 256, .int p0, .ref 408] (nx, ct, mi, ml, mr) (outP cvI post) := by
  refine rx_enterW (by decide) rfl rfl (Nat.le_of_ble_eq_true rfl) ?_
  refine ru_aload_n d_Lw_line_0 rfl rfl ?_
  refine ru_iconst (v := 0) d_Lw_line_1 (by decide) ?_
  refine ru_aload_n d_Lw_line_2 rfl rfl ?_
  refine ru_iload_n d_Lw_line_3 rfl rfl ?_
  refine ru_callV (mc := 0) (ms := 0) d_Lw_line_4 lm_Lw_34 h (rx_recv_is (ly hL 256 0 0) kx_RT) (Nat.le_refl _) rfl (Nat.le_of_ble_eq_true rfl) ?_
  intro v τ hp
  obtain ⟨⟨x, rfl⟩, nx1, ct1, m1, l1, r1, rfl, hL1⟩ := hv v τ hp
  refine ru_i2l d_Lw_line_7 ?_
  refine ru_lastN (j := 0) d_Lw_line_8 (ly hL1 408 104 1) (by omega) (by decide) ?_
  refine ru_goto (tgt := 15) d_Lw_line_9 (by decide) ?_
  refine ru_iconst (v := 0) d_Lw_line_15 (by decide) ?_
  refine ru_iret d_Lw_line_16 rfl ?_
  exact ⟨rfl, _, nx1, ct1, m1, l1, r1, hp, rfl⟩
theorem lt_line {p0 : Int32} (h : rx_Throws y_RT_line M_RT_line 6 1 6 [.ref 256, .int p0] (nx, ct, mi, ml, mr) (thr nx ct mi ml mr)) (hL : LAY nx ct mr) : rx_CallsW y_Lw_line M_Lw_line 7 1 6 [.ref 256, .int p0, .ref 408] (nx, ct, mi, ml, mr) (trP nx ct mi ml mr) := by
  refine rx_enterW (by decide) rfl rfl (Nat.le_of_ble_eq_true rfl) ?_
  have k : rx_W M_Lw_line 7 0 0 12 [] [.ref nx] (rx_new nx ct mi ml mr 95 0) (pR (trP nx ct mi ml mr)) := by
    refine ru_astore_n d_Lw_line_12 rfl (by decide) ?_
    refine ru_iconst (v := 1) d_Lw_line_13 (by decide) ?_
    refine ru_iret d_Lw_line_14 rfl ?_
    exact ⟨rfl, rfl⟩
  refine ru_aload_n d_Lw_line_0 rfl rfl ?_
  refine ru_iconst (v := 0) d_Lw_line_1 (by decide) ?_
  refine ru_aload_n d_Lw_line_2 rfl rfl ?_
  refine ru_iload_n d_Lw_line_3 rfl rfl ?_
  refine ru_callVT (mc := 0) (ms := 0) d_Lw_line_4 lm_Lw_34 h (rx_recv_is (ly hL 256 0 0) kx_RT) (by decide) rfl (Nat.le_of_ble_eq_true rfl) rfl ⟨by decide, by decide, by decide⟩ lw_IO ?_
  rintro x τ ⟨rfl, rfl⟩
  exact ru_to k trivial
theorem lw_write {p0 : Int32} (hL : LAY nx ct mr) (h : rx_Calls y_RT_write M_RT_write d mc ms [.ref 256, .int p0] (nx, ct, mi, ml, mr) post) (hv : ∀ v τ, post v τ → (∃ x, v = some (.int x)) ∧ ∃ nx1 ct1 m1 l1 r1, τ = (nx1, ct1, m1, l1, r1) ∧ LAY nx1 ct1 r1) : rx_CallsW y_Lw_write M_Lw_write (d + 1) mc ms [.ref 256, .int p0, .ref 408] (nx, ct, mi, ml, mr) (outP cvI post) := by
  refine rx_enterW (by decide) rfl rfl (Nat.le_of_ble_eq_true rfl) ?_
  refine ru_aload_n d_Lw_write_0 rfl rfl ?_
  refine ru_iconst (v := 0) d_Lw_write_1 (by decide) ?_
  refine ru_aload_n d_Lw_write_2 rfl rfl ?_
  refine ru_iload_n d_Lw_write_3 rfl rfl ?_
  refine ru_callV (mc := 0) (ms := 0) d_Lw_write_4 lm_Lw_37 h (rx_recv_is (ly hL 256 0 0) kx_RT) (Nat.le_refl _) rfl (Nat.le_of_ble_eq_true rfl) ?_
  intro v τ hp
  obtain ⟨⟨x, rfl⟩, nx1, ct1, m1, l1, r1, rfl, hL1⟩ := hv v τ hp
  refine ru_i2l d_Lw_write_7 ?_
  refine ru_lastN (j := 0) d_Lw_write_8 (ly hL1 408 104 1) (by omega) (by decide) ?_
  refine ru_goto (tgt := 15) d_Lw_write_9 (by decide) ?_
  refine ru_iconst (v := 0) d_Lw_write_15 (by decide) ?_
  refine ru_iret d_Lw_write_16 rfl ?_
  exact ⟨rfl, _, nx1, ct1, m1, l1, r1, hp, rfl⟩
theorem lt_write {p0 : Int32} (h : rx_Throws y_RT_write M_RT_write 6 1 6 [.ref 256, .int p0] (nx, ct, mi, ml, mr) (thr nx ct mi ml mr)) (hL : LAY nx ct mr) : rx_CallsW y_Lw_write M_Lw_write 7 1 6 [.ref 256, .int p0, .ref 408] (nx, ct, mi, ml, mr) (trP nx ct mi ml mr) := by
  refine rx_enterW (by decide) rfl rfl (Nat.le_of_ble_eq_true rfl) ?_
  have k : rx_W M_Lw_write 7 0 0 12 [] [.ref nx] (rx_new nx ct mi ml mr 95 0) (pR (trP nx ct mi ml mr)) := by
    refine ru_astore_n d_Lw_write_12 rfl (by decide) ?_
    refine ru_iconst (v := 1) d_Lw_write_13 (by decide) ?_
    refine ru_iret d_Lw_write_14 rfl ?_
    exact ⟨rfl, rfl⟩
  refine ru_aload_n d_Lw_write_0 rfl rfl ?_
  refine ru_iconst (v := 0) d_Lw_write_1 (by decide) ?_
  refine ru_aload_n d_Lw_write_2 rfl rfl ?_
  refine ru_iload_n d_Lw_write_3 rfl rfl ?_
  refine ru_callVT (mc := 0) (ms := 0) d_Lw_write_4 lm_Lw_37 h (rx_recv_is (ly hL 256 0 0) kx_RT) (by decide) rfl (Nat.le_of_ble_eq_true rfl) rfl ⟨by decide, by decide, by decide⟩ lw_IO ?_
  rintro x τ ⟨rfl, rfl⟩
  exact ru_to k trivial
end
