/-! The class reads: a word taken, kinds, units, things -/
theorem d_Rd_accept_0 : decode M_Rd_accept.2.1 0 = .ok (.aload_n 0, 1) := by decide +kernel
theorem d_Rd_accept_1 : decode M_Rd_accept.2.1 1 = .ok (.getfield 21, 3) := by decide +kernel
theorem d_Rd_accept_4 : decode M_Rd_accept.2.1 4 = .ok (.aload_n 1, 1) := by decide +kernel
theorem d_Rd_accept_5 : decode M_Rd_accept.2.1 5 = .ok (.invokevirtual 108, 3) := by decide +kernel
theorem d_Rd_accept_8 : decode M_Rd_accept.2.1 8 = .ok (.ifCond .ne 5, 3) := by decide +kernel
theorem d_Rd_accept_11 : decode M_Rd_accept.2.1 11 = .ok (.iconst 0, 1) := by decide +kernel
theorem d_Rd_accept_12 : decode M_Rd_accept.2.1 12 = .ok (.ireturn, 1) := by decide +kernel
theorem d_Rd_accept_13 : decode M_Rd_accept.2.1 13 = .ok (.aload_n 0, 1) := by decide +kernel
theorem d_Rd_accept_14 : decode M_Rd_accept.2.1 14 = .ok (.getfield 21, 3) := by decide +kernel
theorem d_Rd_accept_17 : decode M_Rd_accept.2.1 17 = .ok (.invokevirtual 71, 3) := by decide +kernel
theorem d_Rd_accept_20 : decode M_Rd_accept.2.1 20 = .ok (.iconst 1, 1) := by decide +kernel
theorem d_Rd_accept_21 : decode M_Rd_accept.2.1 21 = .ok (.ireturn, 1) := by decide +kernel
theorem d_Rd_findKind_0 : decode M_Rd_findKind.2.1 0 = .ok (.iconst 0, 1) := by decide +kernel
theorem d_Rd_findKind_1 : decode M_Rd_findKind.2.1 1 = .ok (.istore_n 1, 1) := by decide +kernel
theorem d_Rd_findKind_2 : decode M_Rd_findKind.2.1 2 = .ok (.iload_n 1, 1) := by decide +kernel
theorem d_Rd_findKind_3 : decode M_Rd_findKind.2.1 3 = .ok (.getstatic 98, 3) := by decide +kernel
theorem d_Rd_findKind_6 : decode M_Rd_findKind.2.1 6 = .ok (.arraylength, 1) := by decide +kernel
theorem d_Rd_findKind_7 : decode M_Rd_findKind.2.1 7 = .ok (.if_icmp .ge 33, 3) := by decide +kernel
theorem d_Rd_findKind_10 : decode M_Rd_findKind.2.1 10 = .ok (.aload_n 0, 1) := by decide +kernel
theorem d_Rd_findKind_11 : decode M_Rd_findKind.2.1 11 = .ok (.getfield 21, 3) := by decide +kernel
theorem d_Rd_findKind_14 : decode M_Rd_findKind.2.1 14 = .ok (.getstatic 98, 3) := by decide +kernel
theorem d_Rd_findKind_17 : decode M_Rd_findKind.2.1 17 = .ok (.iload_n 1, 1) := by decide +kernel
theorem d_Rd_findKind_18 : decode M_Rd_findKind.2.1 18 = .ok (.aaload, 1) := by decide +kernel
theorem d_Rd_findKind_19 : decode M_Rd_findKind.2.1 19 = .ok (.getfield 102, 3) := by decide +kernel
theorem d_Rd_findKind_22 : decode M_Rd_findKind.2.1 22 = .ok (.invokevirtual 108, 3) := by decide +kernel
theorem d_Rd_findKind_25 : decode M_Rd_findKind.2.1 25 = .ok (.ifCond .eq 9, 3) := by decide +kernel
theorem d_Rd_findKind_28 : decode M_Rd_findKind.2.1 28 = .ok (.getstatic 98, 3) := by decide +kernel
theorem d_Rd_findKind_31 : decode M_Rd_findKind.2.1 31 = .ok (.iload_n 1, 1) := by decide +kernel
theorem d_Rd_findKind_32 : decode M_Rd_findKind.2.1 32 = .ok (.aaload, 1) := by decide +kernel
theorem d_Rd_findKind_33 : decode M_Rd_findKind.2.1 33 = .ok (.areturn, 1) := by decide +kernel
theorem d_Rd_findKind_34 : decode M_Rd_findKind.2.1 34 = .ok (.iinc 1 1, 3) := by decide +kernel
theorem d_Rd_findKind_37 : decode M_Rd_findKind.2.1 37 = .ok (.goto (-35), 3) := by decide +kernel
theorem d_Rd_findKind_40 : decode M_Rd_findKind.2.1 40 = .ok (.aconst_null, 1) := by decide +kernel
theorem d_Rd_findKind_41 : decode M_Rd_findKind.2.1 41 = .ok (.areturn, 1) := by decide +kernel
theorem d_Rd_findUnit_0 : decode M_Rd_findUnit.2.1 0 = .ok (.iconst 0, 1) := by decide +kernel
theorem d_Rd_findUnit_1 : decode M_Rd_findUnit.2.1 1 = .ok (.istore_n 1, 1) := by decide +kernel
theorem d_Rd_findUnit_2 : decode M_Rd_findUnit.2.1 2 = .ok (.iload_n 1, 1) := by decide +kernel
theorem d_Rd_findUnit_3 : decode M_Rd_findUnit.2.1 3 = .ok (.getstatic 240, 3) := by decide +kernel
theorem d_Rd_findUnit_6 : decode M_Rd_findUnit.2.1 6 = .ok (.arraylength, 1) := by decide +kernel
theorem d_Rd_findUnit_7 : decode M_Rd_findUnit.2.1 7 = .ok (.if_icmp .ge 33, 3) := by decide +kernel
theorem d_Rd_findUnit_10 : decode M_Rd_findUnit.2.1 10 = .ok (.aload_n 0, 1) := by decide +kernel
theorem d_Rd_findUnit_11 : decode M_Rd_findUnit.2.1 11 = .ok (.getfield 21, 3) := by decide +kernel
theorem d_Rd_findUnit_14 : decode M_Rd_findUnit.2.1 14 = .ok (.getstatic 240, 3) := by decide +kernel
theorem d_Rd_findUnit_17 : decode M_Rd_findUnit.2.1 17 = .ok (.iload_n 1, 1) := by decide +kernel
theorem d_Rd_findUnit_18 : decode M_Rd_findUnit.2.1 18 = .ok (.aaload, 1) := by decide +kernel
theorem d_Rd_findUnit_19 : decode M_Rd_findUnit.2.1 19 = .ok (.getfield 244, 3) := by decide +kernel
theorem d_Rd_findUnit_22 : decode M_Rd_findUnit.2.1 22 = .ok (.invokevirtual 108, 3) := by decide +kernel
theorem d_Rd_findUnit_25 : decode M_Rd_findUnit.2.1 25 = .ok (.ifCond .eq 9, 3) := by decide +kernel
theorem d_Rd_findUnit_28 : decode M_Rd_findUnit.2.1 28 = .ok (.getstatic 240, 3) := by decide +kernel
theorem d_Rd_findUnit_31 : decode M_Rd_findUnit.2.1 31 = .ok (.iload_n 1, 1) := by decide +kernel
theorem d_Rd_findUnit_32 : decode M_Rd_findUnit.2.1 32 = .ok (.aaload, 1) := by decide +kernel
theorem d_Rd_findUnit_33 : decode M_Rd_findUnit.2.1 33 = .ok (.areturn, 1) := by decide +kernel
theorem d_Rd_findUnit_34 : decode M_Rd_findUnit.2.1 34 = .ok (.iinc 1 1, 3) := by decide +kernel
theorem d_Rd_findUnit_37 : decode M_Rd_findUnit.2.1 37 = .ok (.goto (-35), 3) := by decide +kernel
theorem d_Rd_findUnit_40 : decode M_Rd_findUnit.2.1 40 = .ok (.aconst_null, 1) := by decide +kernel
theorem d_Rd_findUnit_41 : decode M_Rd_findUnit.2.1 41 = .ok (.areturn, 1) := by decide +kernel
theorem d_Rd_readThing_0 : decode M_Rd_readThing.2.1 0 = .ok (.aload_n 0, 1) := by decide +kernel
theorem d_Rd_readThing_1 : decode M_Rd_readThing.2.1 1 = .ok (.ldc 130, 2) := by decide +kernel
theorem d_Rd_readThing_3 : decode M_Rd_readThing.2.1 3 = .ok (.invokevirtual 94, 3) := by decide +kernel
theorem d_Rd_readThing_6 : decode M_Rd_readThing.2.1 6 = .ok (.ifCond .eq 5, 3) := by decide +kernel
theorem d_Rd_readThing_9 : decode M_Rd_readThing.2.1 9 = .ok (.iconst (-1), 1) := by decide +kernel
theorem d_Rd_readThing_10 : decode M_Rd_readThing.2.1 10 = .ok (.ireturn, 1) := by decide +kernel
theorem d_Rd_readThing_11 : decode M_Rd_readThing.2.1 11 = .ok (.aload_n 0, 1) := by decide +kernel
theorem d_Rd_readThing_12 : decode M_Rd_readThing.2.1 12 = .ok (.ldc 132, 2) := by decide +kernel
theorem d_Rd_readThing_14 : decode M_Rd_readThing.2.1 14 = .ok (.invokevirtual 94, 3) := by decide +kernel
theorem d_Rd_readThing_17 : decode M_Rd_readThing.2.1 17 = .ok (.ifCond .eq 7, 3) := by decide +kernel
theorem d_Rd_readThing_20 : decode M_Rd_readThing.2.1 20 = .ok (.iconst 0, 1) := by decide +kernel
theorem d_Rd_readThing_21 : decode M_Rd_readThing.2.1 21 = .ok (.goto 18, 3) := by decide +kernel
theorem d_Rd_readThing_24 : decode M_Rd_readThing.2.1 24 = .ok (.aload_n 0, 1) := by decide +kernel
theorem d_Rd_readThing_25 : decode M_Rd_readThing.2.1 25 = .ok (.ldc 134, 2) := by decide +kernel
theorem d_Rd_readThing_27 : decode M_Rd_readThing.2.1 27 = .ok (.invokevirtual 94, 3) := by decide +kernel
theorem d_Rd_readThing_30 : decode M_Rd_readThing.2.1 30 = .ok (.ifCond .eq 7, 3) := by decide +kernel
theorem d_Rd_readThing_33 : decode M_Rd_readThing.2.1 33 = .ok (.iconst 1, 1) := by decide +kernel
theorem d_Rd_readThing_34 : decode M_Rd_readThing.2.1 34 = .ok (.goto 5, 3) := by decide +kernel
theorem d_Rd_readThing_37 : decode M_Rd_readThing.2.1 37 = .ok (.bipush (-2), 2) := by decide +kernel
theorem d_Rd_readThing_39 : decode M_Rd_readThing.2.1 39 = .ok (.istore_n 1, 1) := by decide +kernel
theorem d_Rd_readThing_40 : decode M_Rd_readThing.2.1 40 = .ok (.iload_n 1, 1) := by decide +kernel
theorem d_Rd_readThing_41 : decode M_Rd_readThing.2.1 41 = .ok (.bipush (-2), 2) := by decide +kernel
theorem d_Rd_readThing_43 : decode M_Rd_readThing.2.1 43 = .ok (.if_icmp .ne 6, 3) := by decide +kernel
theorem d_Rd_readThing_46 : decode M_Rd_readThing.2.1 46 = .ok (.bipush (-2), 2) := by decide +kernel
theorem d_Rd_readThing_48 : decode M_Rd_readThing.2.1 48 = .ok (.ireturn, 1) := by decide +kernel
theorem d_Rd_readThing_49 : decode M_Rd_readThing.2.1 49 = .ok (.aload_n 0, 1) := by decide +kernel
theorem d_Rd_readThing_50 : decode M_Rd_readThing.2.1 50 = .ok (.getfield 25, 3) := by decide +kernel
theorem d_Rd_readThing_53 : decode M_Rd_readThing.2.1 53 = .ok (.iload_n 1, 1) := by decide +kernel
theorem d_Rd_readThing_54 : decode M_Rd_readThing.2.1 54 = .ok (.aload_n 0, 1) := by decide +kernel
theorem d_Rd_readThing_55 : decode M_Rd_readThing.2.1 55 = .ok (.getfield 21, 3) := by decide +kernel
theorem d_Rd_readThing_58 : decode M_Rd_readThing.2.1 58 = .ok (.invokevirtual 136, 3) := by decide +kernel
theorem d_Rd_readThing_61 : decode M_Rd_readThing.2.1 61 = .ok (.istore_n 2, 1) := by decide +kernel
theorem d_Rd_readThing_62 : decode M_Rd_readThing.2.1 62 = .ok (.iload_n 2, 1) := by decide +kernel
theorem d_Rd_readThing_63 : decode M_Rd_readThing.2.1 63 = .ok (.iconst (-1), 1) := by decide +kernel
theorem d_Rd_readThing_64 : decode M_Rd_readThing.2.1 64 = .ok (.if_icmp .ne 6, 3) := by decide +kernel
theorem d_Rd_readThing_67 : decode M_Rd_readThing.2.1 67 = .ok (.bipush (-2), 2) := by decide +kernel
theorem d_Rd_readThing_69 : decode M_Rd_readThing.2.1 69 = .ok (.ireturn, 1) := by decide +kernel
theorem d_Rd_readThing_70 : decode M_Rd_readThing.2.1 70 = .ok (.aload_n 0, 1) := by decide +kernel
theorem d_Rd_readThing_71 : decode M_Rd_readThing.2.1 71 = .ok (.getfield 21, 3) := by decide +kernel
theorem d_Rd_readThing_74 : decode M_Rd_readThing.2.1 74 = .ok (.invokevirtual 71, 3) := by decide +kernel
theorem d_Rd_readThing_77 : decode M_Rd_readThing.2.1 77 = .ok (.iload_n 1, 1) := by decide +kernel
theorem d_Rd_readThing_78 : decode M_Rd_readThing.2.1 78 = .ok (.iload_n 2, 1) := by decide +kernel
theorem d_Rd_readThing_79 : decode M_Rd_readThing.2.1 79 = .ok (.invokestatic 142, 3) := by decide +kernel
theorem d_Rd_readThing_82 : decode M_Rd_readThing.2.1 82 = .ok (.ireturn, 1) := by decide +kernel
def rdX (r x : Nat) : Prop := x = 266 ∨ x = 268 ∨ x = 269 ∨ x = 270 ∨ x = r
/-- reading rule r has changed nothing else -/
def RF (r : Nat) (mi mi' : Nat → Nat → Int32) (ml ml' : Nat → Nat → Int64) : Prop := (∀ x, ¬ rdX r x → mi' x = mi x ∧ ml' x = ml x) ∧ mi' 266 1 = mi 266 1
/-- word k is the wrong one -/
def wrg (k : Nat) (mi : Nat → Nat → Int32) : Prop := (mi 268 4 = -1 ∧ mi 266 4 = nI k) ∨ mi 268 4 = nI k
def flP (r k nx : Nat) (ct : Nat → Nat × Nat) (mi : Nat → Nat → Int32) (ml : Nat → Nat → Int64) (mr : Nat → Nat → Option Nat) : Option Value → rx_S → Prop := fun v τ => v = some (.int 0) ∧ ∃ mi' ml', τ = (nx, ct, mi', ml', mr) ∧ RF r mi mi' ml ml' ∧ wrg k mi'
/-- what reading stands on -/
def RdOK (N : nmS) (n : Nat) (t : Nat → Int32) (mi : Nat → Nat → Int32) : Prop := TxC n t mi ∧ NmC N mi ∧ mi 268 4 = -1
section
variable {nx : Nat} {ct : Nat → Nat × Nat} {mi mi' : Nat → Nat → Int32} {ml ml' : Nat → Nat → Int64} {mr : Nat → Nat → Option Nat} {n j s r k : Nat} {t : Nat → Int32} {N : nmS}
theorem isRu_ne (hr : isRu r) : r ≠ 256 ∧ r ≠ 257 ∧ r ≠ 258 ∧ r ≠ 259 ∧ r ≠ 266 ∧ r ≠ 267 ∧ r ≠ 268 ∧ r ≠ 269 ∧ r ≠ 270 := by
  unfold isRu at hr
  omega
theorem NmC.u {v : Int32} {x : Nat} (h : NmC N mi) (h1 : x ≠ 258) (h2 : x ≠ 259) : NmC N (rx_u mi x k v) := by
  intro y hy
  rw [rx_u_r _ _ (Ne.symm h1), rx_u_r _ _ (Ne.symm h2)]
  exact h y hy
theorem RdOK.u {v : Int32} (h : RdOK N n t mi) (hr : isRu r) : RdOK N n t (rx_u mi r k v) := by
  have z := isRu_ne hr
  exact ⟨h.1.u (by omega) (by omega), h.2.1.u (by omega) (by omega), by rw [rx_u_r _ _ (by omega)]; exact h.2.2⟩
theorem RdOK.u2 {v : Int32} {x : Nat} (h : RdOK N n t mi) (hx : x = 269 ∨ x = 270) : RdOK N n t (rx_u mi x k v) :=
  ⟨h.1.u (by omega) (by omega), h.2.1.u (by omega) (by omega), by rw [rx_u_r _ _ (by omega)]; exact h.2.2⟩
theorem RF.tk (hj : r = r) : RF r mi (tkM mi n t j) ml ml := ⟨fun x hx => ⟨tkM_r (fun z => hx (Or.inl z)), rfl⟩, tkM_1⟩
theorem RF.refl : RF r mi mi ml ml := ⟨fun _ _ => ⟨rfl, rfl⟩, rfl⟩
theorem RF.trans {m2 : Nat → Nat → Int32} {l2 : Nat → Nat → Int64} (h : RF r mi mi' ml ml') (h' : RF r mi' m2 ml' l2) : RF r mi m2 ml l2 := ⟨fun x hx => ⟨(h'.1 x hx).1.trans (h.1 x hx).1, (h'.1 x hx).2.trans (h.1 x hx).2⟩, h'.2.trans h.2⟩
theorem RF.u {x : Nat} {v : Int32} (h : RF r mi mi' ml ml') (hx : rdX r x) (h6 : x ≠ 266) : RF r mi (rx_u mi' x k v) ml ml' := ⟨fun y hy => ⟨by rw [rx_u_r _ _ (show y ≠ x from fun z => hy (by rw [z]; exact hx))]; exact (h.1 y hy).1, (h.1 y hy).2⟩, by rw [rx_u_r _ _ (Ne.symm h6)]; exact h.2⟩
theorem RF.l {x : Nat} {v : Int64} (h : RF r mi mi' ml ml') (hx : rdX r x) : RF r mi mi' ml (rx_u ml' x k v) := ⟨fun y hy => ⟨(h.1 y hy).1, by rw [rx_u_r _ _ (show y ≠ x from fun z => hy (by rw [z]; exact hx))]; exact (h.1 y hy).2⟩, h.2⟩
theorem wrg_tk (h : RdOK N n t mi) : wrg j (tkM mi n t j) := Or.inl ⟨by rw [tkM_r]; exact h.2.2, tkM_4⟩
theorem cl_accept (hL : LAY nx ct mr) (h : TxC n t mi) (hs : s < 61) : rx_Calls y_Rd_accept M_Rd_accept 5 0 0 [.ref 268, .ref (30 + s)] (nx, ct, tkM mi n t j, ml, mr) (fun v τ => v = some (.int (bI (isW n t j s))) ∧ τ = (nx, ct, tkM mi n t (cnd (isW n t j s) (j + 1) j), ml, mr)) := by
  refine rx_enter (by decide) rfl rfl (Nat.le_of_ble_eq_true rfl) ?_
  refine ru_aload_n d_Rd_accept_0 rfl rfl ?_
  refine ru_getR d_Rd_accept_1 lf_Rd_21 (ly hL 268 3 0) rfl (lr hL 268 0 266) ?_
  refine ru_aload_n d_Rd_accept_4 rfl rfl ?_
  refine ru_callV (mc := 0) (ms := 0) d_Rd_accept_5 lm_Rd_108 (cl_is hL h hs) (rx_recv_is (ly hL 266 7 0) kx_Wo) (by decide) rfl (Nat.le_of_ble_eq_true rfl) ?_
  intro v τ h
  obtain ⟨rfl, rfl⟩ := h
  refine ru_if_ne (tgt := 13) d_Rd_accept_8 (by decide) (fun h8 => ?_) (fun h8 => ?_)
  · skip
    replace h8 := bI_ne0.mp h8
    rw [bI_t h8, cnd_t h8]
    refine ru_aload_n d_Rd_accept_13 rfl rfl ?_
    refine ru_getR d_Rd_accept_14 lf_Rd_21 (ly hL 268 3 0) rfl (lr hL 268 0 266) ?_
    refine ru_callV (mc := 0) (ms := 0) d_Rd_accept_17 lm_Rd_71 (cl_goOn hL h) (rx_recv_is (ly hL 266 7 0) kx_Wo) (by decide) rfl (Nat.le_of_ble_eq_true rfl) ?_
    intro v τ h
    obtain ⟨rfl, rfl⟩ := h
    refine ru_iconst (v := 1) d_Rd_accept_20 (by decide) ?_
    refine ru_zret (ty := .boolean) d_Rd_accept_21 rfl rfl ?_
    exact ⟨rfl, rfl⟩
  · skip
    replace h8 := bI_eq0.mp h8
    rw [bI_f h8, cnd_f h8]
    refine ru_iconst (v := 0) d_Rd_accept_11 (by decide) ?_
    refine ru_zret (ty := .boolean) d_Rd_accept_12 rfl rfl ?_
    exact ⟨rfl, rfl⟩
theorem kw_30 : ∀ i, i < 13 → rx_kw i = 30 + (rx_kw i - 30) ∧ rx_kw i - 30 < 61 := by decide +kernel
theorem uw_30 : ∀ i, i < 5 → rx_uw i = 30 + (rx_uw i - 30) ∧ rx_uw i - 30 < 61 := by decide +kernel
def kdV : Option Nat → Value
  | none => .null
  | some κ => .ref (1 + κ)
def unV : Option Nat → Value
  | none => .null
  | some κ => .ref (14 + κ)
theorem cl_findKind (hL : LAY nx ct mr) (h : TxC n t mi) : rx_Calls y_Rd_findKind M_Rd_findKind 5 0 0 [.ref 268] (nx, ct, tkM mi n t j, ml, mr) (fun v τ => v = some (kdV (knd n t j)) ∧ τ = (nx, ct, tkM mi n t j, ml, mr)) := by
  refine rx_enter (by decide) rfl rfl (Nat.le_of_ble_eq_true rfl) ?_
  have loop : ∀ f i, i ≤ 13 → f = 13 - i → rx_W M_Rd_findKind 5 0 0 2 [(0, .ref 268), (1, .int (nI i))] [] (nx, ct, tkM mi n t j, ml, mr) (pR (fun v τ => v = some (kdV (nthF (fun i => isW n t j (rx_kw i - 30)) f i 0)) ∧ τ = (nx, ct, tkM mi n t j, ml, mr))) := by
    intro f
    induction f with
    | zero =>
      intro i hi hf
      refine ru_iload_n d_Rd_findKind_2 rfl rfl ?_
      refine ru_gets d_Rd_findKind_3 (Or.inr ⟨"RuleText", List.mem_of_getElem? (i := 6) rfl⟩) (List.mem_of_getElem? (i := 2) rfl) ?_
      refine ru_tlen d_Rd_findKind_6 (fun ev U h => h.2.2.2.2.1) ?_
      refine ru_icmp_ge (tgt := 40) d_Rd_findKind_7 (by decide) (fun h7 => ?_) (fun h7 => absurd (nI_le (a := 13) (b := i) (by omega) (by omega)) h7)
      refine ru_null d_Rd_findKind_40 ?_
      refine ru_aretN d_Rd_findKind_41 rfl (Or.inl ⟨_, rfl⟩) ?_
      exact ⟨rfl, rfl⟩
    | succ f ih =>
      intro i hi hf
      have hi2 : i < 13 := by omega
      have kw := kw_30 i hi2
      unfold nthF
      refine ru_iload_n d_Rd_findKind_2 rfl rfl ?_
      refine ru_gets d_Rd_findKind_3 (Or.inr ⟨"RuleText", List.mem_of_getElem? (i := 6) rfl⟩) (List.mem_of_getElem? (i := 2) rfl) ?_
      refine ru_tlen d_Rd_findKind_6 (fun ev U h => h.2.2.2.2.1) ?_
      refine ru_icmp_ge (tgt := 40) d_Rd_findKind_7 (by decide) (fun h7 => absurd h7 (nI_ge (a := i) (b := 13) (by omega) (by decide))) (fun h7 => ?_)
      refine ru_aload_n d_Rd_findKind_10 rfl rfl ?_
      refine ru_getR d_Rd_findKind_11 lf_Rd_21 (ly hL 268 3 0) rfl (lr hL 268 0 266) ?_
      refine ru_gets d_Rd_findKind_14 (Or.inr ⟨"RuleText", List.mem_of_getElem? (i := 6) rfl⟩) (List.mem_of_getElem? (i := 2) rfl) ?_
      refine ru_iload_n d_Rd_findKind_17 rfl rfl ?_
      refine ru_taa (f := fun j => 1 + j) d_Rd_findKind_18 (fun ev U h => h.2.2.2.2.1) hi2 (by decide) ?_
      refine ru_getO (v := .ref ((rx_kw i))) d_Rd_findKind_19 (rx_in (tm_6 (List.mem_of_getElem? (i := 178) rfl)) rfl) (fun ev U h => (h.2.1 i hi2).2.1) ?_
      refine ru_eqv (show Value.ref (rx_kw i) = .ref (30 + (rx_kw i - 30)) by rw [← kw.1]) ?_
      refine ru_callV (mc := 0) (ms := 0) d_Rd_findKind_22 lm_Rd_108 (cl_is hL h kw.2) (rx_recv_is (ly hL 266 7 0) kx_Wo) (by decide) rfl (Nat.le_of_ble_eq_true rfl) ?_
      intro v τ h
      obtain ⟨rfl, rfl⟩ := h
      refine ru_if_eq (tgt := 34) d_Rd_findKind_25 (by decide) (fun h25 => ?_) (fun h25 => ?_)
      · skip
        replace h25 := bI_eq0.mp h25
        rw [if_neg h25]
        refine ru_iinc (v := nI (i + 1)) d_Rd_findKind_34 rfl (nm_inc _ 1) (by decide) ?_
        refine ru_goto (tgt := 2) d_Rd_findKind_37 (by decide) ?_
        exact ru_to (ih (i + 1) (by omega) (by omega)) ⟨rfl, rfl, trivial⟩
      · skip
        replace h25 := bI_ne0.mp h25
        rw [if_pos h25, if_pos rfl]
        refine ru_gets d_Rd_findKind_28 (Or.inr ⟨"RuleText", List.mem_of_getElem? (i := 6) rfl⟩) (List.mem_of_getElem? (i := 2) rfl) ?_
        refine ru_iload_n d_Rd_findKind_31 rfl rfl ?_
        refine ru_taa (f := fun j => 1 + j) d_Rd_findKind_32 (fun ev U h => h.2.2.2.2.1) hi2 (by decide) ?_
        refine ru_aret d_Rd_findKind_33 rfl (Or.inl ⟨_, rfl⟩) ?_
        exact ⟨rfl, rfl⟩
  refine ru_iconst (v := 0) d_Rd_findKind_0 (by decide) ?_
  refine ru_istore_n d_Rd_findKind_1 rfl (by decide) ?_
  exact ru_to (loop 13 0 (by omega) rfl) ⟨rfl, rfl, trivial⟩
theorem cl_findUnit (hL : LAY nx ct mr) (h : TxC n t mi) : rx_Calls y_Rd_findUnit M_Rd_findUnit 5 0 0 [.ref 268] (nx, ct, tkM mi n t j, ml, mr) (fun v τ => v = some (unV (unt n t j)) ∧ τ = (nx, ct, tkM mi n t j, ml, mr)) := by
  refine rx_enter (by decide) rfl rfl (Nat.le_of_ble_eq_true rfl) ?_
  have loop : ∀ f i, i ≤ 5 → f = 5 - i → rx_W M_Rd_findUnit 5 0 0 2 [(0, .ref 268), (1, .int (nI i))] [] (nx, ct, tkM mi n t j, ml, mr) (pR (fun v τ => v = some (unV (nthF (fun i => isW n t j (rx_uw i - 30)) f i 0)) ∧ τ = (nx, ct, tkM mi n t j, ml, mr))) := by
    intro f
    induction f with
    | zero =>
      intro i hi hf
      refine ru_iload_n d_Rd_findUnit_2 rfl rfl ?_
      refine ru_gets d_Rd_findUnit_3 (Or.inr ⟨"RuleText", List.mem_of_getElem? (i := 9) rfl⟩) (List.mem_of_getElem? (i := 3) rfl) ?_
      refine ru_tlen d_Rd_findUnit_6 (fun ev U h => h.2.2.2.2.2.1) ?_
      refine ru_icmp_ge (tgt := 40) d_Rd_findUnit_7 (by decide) (fun h7 => ?_) (fun h7 => absurd (nI_le (a := 5) (b := i) (by omega) (by omega)) h7)
      refine ru_null d_Rd_findUnit_40 ?_
      refine ru_aretN d_Rd_findUnit_41 rfl (Or.inl ⟨_, rfl⟩) ?_
      exact ⟨rfl, rfl⟩
    | succ f ih =>
      intro i hi hf
      have hi2 : i < 5 := by omega
      have kw := uw_30 i hi2
      unfold nthF
      refine ru_iload_n d_Rd_findUnit_2 rfl rfl ?_
      refine ru_gets d_Rd_findUnit_3 (Or.inr ⟨"RuleText", List.mem_of_getElem? (i := 9) rfl⟩) (List.mem_of_getElem? (i := 3) rfl) ?_
      refine ru_tlen d_Rd_findUnit_6 (fun ev U h => h.2.2.2.2.2.1) ?_
      refine ru_icmp_ge (tgt := 40) d_Rd_findUnit_7 (by decide) (fun h7 => absurd h7 (nI_ge (a := i) (b := 5) (by omega) (by decide))) (fun h7 => ?_)
      refine ru_aload_n d_Rd_findUnit_10 rfl rfl ?_
      refine ru_getR d_Rd_findUnit_11 lf_Rd_21 (ly hL 268 3 0) rfl (lr hL 268 0 266) ?_
      refine ru_gets d_Rd_findUnit_14 (Or.inr ⟨"RuleText", List.mem_of_getElem? (i := 9) rfl⟩) (List.mem_of_getElem? (i := 3) rfl) ?_
      refine ru_iload_n d_Rd_findUnit_17 rfl rfl ?_
      refine ru_taa (f := fun j => 14 + j) d_Rd_findUnit_18 (fun ev U h => h.2.2.2.2.2.1) hi2 (by decide) ?_
      refine ru_getO (v := .ref ((rx_uw i))) d_Rd_findUnit_19 (rx_in (tm_6 (List.mem_of_getElem? (i := 180) rfl)) rfl) (fun ev U h => (h.2.2.1 i hi2).1) ?_
      refine ru_eqv (show Value.ref (rx_uw i) = .ref (30 + (rx_uw i - 30)) by rw [← kw.1]) ?_
      refine ru_callV (mc := 0) (ms := 0) d_Rd_findUnit_22 lm_Rd_108 (cl_is hL h kw.2) (rx_recv_is (ly hL 266 7 0) kx_Wo) (by decide) rfl (Nat.le_of_ble_eq_true rfl) ?_
      intro v τ h
      obtain ⟨rfl, rfl⟩ := h
      refine ru_if_eq (tgt := 34) d_Rd_findUnit_25 (by decide) (fun h25 => ?_) (fun h25 => ?_)
      · skip
        replace h25 := bI_eq0.mp h25
        rw [if_neg h25]
        refine ru_iinc (v := nI (i + 1)) d_Rd_findUnit_34 rfl (nm_inc _ 1) (by decide) ?_
        refine ru_goto (tgt := 2) d_Rd_findUnit_37 (by decide) ?_
        exact ru_to (ih (i + 1) (by omega) (by omega)) ⟨rfl, rfl, trivial⟩
      · skip
        replace h25 := bI_ne0.mp h25
        rw [if_pos h25, if_pos rfl]
        refine ru_gets d_Rd_findUnit_28 (Or.inr ⟨"RuleText", List.mem_of_getElem? (i := 9) rfl⟩) (List.mem_of_getElem? (i := 3) rfl) ?_
        refine ru_iload_n d_Rd_findUnit_31 rfl rfl ?_
        refine ru_taa (f := fun j => 14 + j) d_Rd_findUnit_32 (fun ev U h => h.2.2.2.2.2.1) hi2 (by decide) ?_
        refine ru_aret d_Rd_findUnit_33 rfl (Or.inl ⟨_, rfl⟩) ?_
        exact ⟨rfl, rfl⟩
  refine ru_iconst (v := 0) d_Rd_findUnit_0 (by decide) ?_
  refine ru_istore_n d_Rd_findUnit_1 rfl (by decide) ?_
  exact ru_to (loop 5 0 (by omega) rfl) ⟨rfl, rfl, trivial⟩
/-- a thing read -/
def thR (nx : Nat) (ct : Nat → Nat × Nat) (mi : Nat → Nat → Int32) (ml : Nat → Nat → Int64) (mr : Nat → Nat → Option Nat) (n : Nat) (t : Nat → Int32) (q : Nat ⊕ (Option Nat × Nat)) : Option Value → rx_S → Prop := fun v τ => match q with
  | .inl k => v = some (.int (-2)) ∧ τ = (nx, ct, tkM mi n t k, ml, mr)
  | .inr (o, k) => v = some (.int (oR o)) ∧ τ = (nx, ct, tkM mi n t k, ml, mr)
theorem cl_readThing (hL : LAY nx ct mr) (h : TxC n t mi) (hN : NmC N mi) : rx_Calls y_Rd_readThing M_Rd_readThing 6 0 0 [.ref 268] (nx, ct, tkM mi n t j, ml, mr) (thR nx ct mi ml mr n t (pThing N n t j)) := by
  refine rx_enter (by decide) rfl rfl (Nat.le_of_ble_eq_true rfl) ?_
  unfold pThing
  have tN : ∀ a i : Nat, a < 2 → fnd N n t i a = none → rx_W M_Rd_readThing 6 0 0 49 [(0, .ref 268), (1, .int (nI a))] [] (nx, ct, tkM mi n t i, ml, mr) (pR (thR nx ct mi ml mr n t (.inl i))) := by
    intro a i ha e
    refine ru_aload_n d_Rd_readThing_49 rfl rfl ?_
    refine ru_getR d_Rd_readThing_50 lf_Rd_25 (ly hL 268 3 0) rfl (lr hL 268 1 257) ?_
    refine ru_iload_n d_Rd_readThing_53 rfl rfl ?_
    refine ru_aload_n d_Rd_readThing_54 rfl rfl ?_
    refine ru_getR d_Rd_readThing_55 lf_Rd_21 (ly hL 268 3 0) rfl (lr hL 268 0 266) ?_
    refine ru_callV (mc := 0) (ms := 0) d_Rd_readThing_58 lm_Rd_136 (cl_find hL h hN (by omega)) (rx_recv_is (ly hL 257 2 0) kx_Na) (by decide) rfl (Nat.le_of_ble_eq_true rfl) ?_
    rintro v τ ⟨rfl, rfl⟩
    rw [e]
    refine ru_istore_n d_Rd_readThing_61 rfl (by decide) ?_
    refine ru_iload_n d_Rd_readThing_62 rfl rfl ?_
    refine ru_iconst (v := (-1)) d_Rd_readThing_63 (by decide) ?_
    refine ru_icmp_ne (tgt := 70) d_Rd_readThing_64 (by decide) (fun h64 => absurd rfl h64) (fun h64 => ?_)
    refine ru_bipush (v := (-2)) d_Rd_readThing_67 (by decide) ?_
    refine ru_iret d_Rd_readThing_69 rfl ?_
    exact ⟨rfl, rfl⟩
  have tS : ∀ a i x y : Nat, a < 2 → fnd N n t i a = some x → y = 16 * a + x → rx_W M_Rd_readThing 6 0 0 49 [(0, .ref 268), (1, .int (nI a))] [] (nx, ct, tkM mi n t i, ml, mr) (pR (thR nx ct mi ml mr n t (.inr (some y, i + 1)))) := by
    intro a i x y ha e hy
    have hx := fnd_lt e
    refine ru_aload_n d_Rd_readThing_49 rfl rfl ?_
    refine ru_getR d_Rd_readThing_50 lf_Rd_25 (ly hL 268 3 0) rfl (lr hL 268 1 257) ?_
    refine ru_iload_n d_Rd_readThing_53 rfl rfl ?_
    refine ru_aload_n d_Rd_readThing_54 rfl rfl ?_
    refine ru_getR d_Rd_readThing_55 lf_Rd_21 (ly hL 268 3 0) rfl (lr hL 268 0 266) ?_
    refine ru_callV (mc := 0) (ms := 0) d_Rd_readThing_58 lm_Rd_136 (cl_find hL h hN (by omega)) (rx_recv_is (ly hL 257 2 0) kx_Na) (by decide) rfl (Nat.le_of_ble_eq_true rfl) ?_
    rintro v τ ⟨rfl, rfl⟩
    rw [e]
    refine ru_istore_n d_Rd_readThing_61 rfl (by decide) ?_
    refine ru_iload_n d_Rd_readThing_62 rfl rfl ?_
    refine ru_iconst (v := (-1)) d_Rd_readThing_63 (by decide) ?_
    refine ru_icmp_ne (tgt := 70) d_Rd_readThing_64 (by decide) (fun h64 => ?_) (fun h64 => absurd h64 (nI_m1 (by omega)))
    refine ru_aload_n d_Rd_readThing_70 rfl rfl ?_
    refine ru_getR d_Rd_readThing_71 lf_Rd_21 (ly hL 268 3 0) rfl (lr hL 268 0 266) ?_
    refine ru_callV (mc := 0) (ms := 0) d_Rd_readThing_74 lm_Rd_71 (cl_goOn hL h) (rx_recv_is (ly hL 266 7 0) kx_Wo) (by decide) rfl (Nat.le_of_ble_eq_true rfl) ?_
    intro v τ h
    obtain ⟨rfl, rfl⟩ := h
    refine ru_iload_n d_Rd_readThing_77 rfl rfl ?_
    refine ru_iload_n d_Rd_readThing_78 rfl rfl ?_
    refine ru_callS (mc := 0) (ms := 0) d_Rd_readThing_79 lm_Rd_142 (sp_slotOf _ _ _) (by decide) rfl (Nat.le_of_ble_eq_true rfl) ?_
    intro v τ h
    obtain ⟨rfl, rfl⟩ := h
    refine ru_iret d_Rd_readThing_82 rfl ?_
    refine ⟨?_, rfl⟩
    show _ = some (Value.int (nI y))
    rw [hy, Nat.mul_comm 16 a, ← nI_add, ← nm_mul]
    rfl
  have bad : ∀ i : Nat, rx_W M_Rd_readThing 6 0 0 37 [(0, .ref 268)] [] (nx, ct, tkM mi n t i, ml, mr) (pR (thR nx ct mi ml mr n t (.inl i))) := by
    intro i
    refine ru_bipush (v := (-2)) d_Rd_readThing_37 (by decide) ?_
    refine ru_istore_n d_Rd_readThing_39 rfl (by decide) ?_
    refine ru_iload_n d_Rd_readThing_40 rfl rfl ?_
    refine ru_bipush (v := (-2)) d_Rd_readThing_41 (by decide) ?_
    refine ru_icmp_ne (tgt := 49) d_Rd_readThing_43 (by decide) (fun h43 => absurd rfl h43) (fun h43 => ?_)
    refine ru_bipush (v := (-2)) d_Rd_readThing_46 (by decide) ?_
    refine ru_iret d_Rd_readThing_48 rfl ?_
    exact ⟨rfl, rfl⟩
  refine ru_aload_n d_Rd_readThing_0 rfl rfl ?_
  refine ru_ldcS (tx := "any") (r := 32) d_Rd_readThing_1 (List.mem_of_getElem? (i := 2) rfl) ?_
  refine ru_callV (mc := 0) (ms := 0) d_Rd_readThing_3 lm_Rd_94 (cl_accept (s := 2) hL h (by decide)) (rx_recv_is (ly hL 268 3 0) kx_Rd) (by decide) rfl (Nat.le_of_ble_eq_true rfl) ?_
  intro v τ h
  obtain ⟨rfl, rfl⟩ := h
  refine ru_if_eq (tgt := 11) d_Rd_readThing_6 (by decide) (fun h6 => ?_) (fun h6 => ?_)
  · skip
    replace h6 := bI_eq0.mp h6
    rw [cnd_f h6, cnd_f h6]
    refine ru_aload_n d_Rd_readThing_11 rfl rfl ?_
    refine ru_ldcS (tx := "class") (r := 33) d_Rd_readThing_12 (List.mem_of_getElem? (i := 3) rfl) ?_
    refine ru_callV (mc := 0) (ms := 0) d_Rd_readThing_14 lm_Rd_94 (cl_accept (s := 3) hL h (by decide)) (rx_recv_is (ly hL 268 3 0) kx_Rd) (by decide) rfl (Nat.le_of_ble_eq_true rfl) ?_
    intro v τ h
    obtain ⟨rfl, rfl⟩ := h
    refine ru_if_eq (tgt := 24) d_Rd_readThing_17 (by decide) (fun h17 => ?_) (fun h17 => ?_)
    · skip
      replace h17 := bI_eq0.mp h17
      rw [cnd_f h17, cnd_f h17]
      refine ru_aload_n d_Rd_readThing_24 rfl rfl ?_
      refine ru_ldcS (tx := "net") (r := 34) d_Rd_readThing_25 (List.mem_of_getElem? (i := 4) rfl) ?_
      refine ru_callV (mc := 0) (ms := 0) d_Rd_readThing_27 lm_Rd_94 (cl_accept (s := 4) hL h (by decide)) (rx_recv_is (ly hL 268 3 0) kx_Rd) (by decide) rfl (Nat.le_of_ble_eq_true rfl) ?_
      intro v τ h
      obtain ⟨rfl, rfl⟩ := h
      refine ru_if_eq (tgt := 37) d_Rd_readThing_30 (by decide) (fun h30 => ?_) (fun h30 => ?_)
      · skip
        replace h30 := bI_eq0.mp h30
        rw [cnd_f h30, cnd_f h30]
        exact ru_to (bad _) ⟨rfl, trivial⟩
      · skip
        replace h30 := bI_ne0.mp h30
        rw [cnd_t h30, cnd_t h30]
        refine ru_iconst (v := 1) d_Rd_readThing_33 (by decide) ?_
        refine ru_goto (tgt := 39) d_Rd_readThing_34 (by decide) ?_
        refine ru_istore_n d_Rd_readThing_39 rfl (by decide) ?_
        refine ru_iload_n d_Rd_readThing_40 rfl rfl ?_
        refine ru_bipush (v := (-2)) d_Rd_readThing_41 (by decide) ?_
        refine ru_icmp_ne (tgt := 49) d_Rd_readThing_43 (by decide) (fun h43 => ?_) (fun h43 => absurd h43 (by decide))
        first | (cases e : fnd N n t (j + 1) 0 with | none => exact ru_to (tN 0 (j + 1) (by decide) e) ⟨rfl, rfl, trivial⟩ | some x => exact ru_to (tS 0 (j + 1) x x (by decide) e (by omega)) ⟨rfl, rfl, trivial⟩) | (cases e : fnd N n t (j + 1) 1 with | none => exact ru_to (tN 1 (j + 1) (by decide) e) ⟨rfl, rfl, trivial⟩ | some x => exact ru_to (tS 1 (j + 1) x (16 + x) (by decide) e (by omega)) ⟨rfl, rfl, trivial⟩)
    · skip
      replace h17 := bI_ne0.mp h17
      rw [cnd_t h17, cnd_t h17]
      refine ru_iconst (v := 0) d_Rd_readThing_20 (by decide) ?_
      refine ru_goto (tgt := 39) d_Rd_readThing_21 (by decide) ?_
      refine ru_istore_n d_Rd_readThing_39 rfl (by decide) ?_
      refine ru_iload_n d_Rd_readThing_40 rfl rfl ?_
      refine ru_bipush (v := (-2)) d_Rd_readThing_41 (by decide) ?_
      refine ru_icmp_ne (tgt := 49) d_Rd_readThing_43 (by decide) (fun h43 => ?_) (fun h43 => absurd h43 (by decide))
      first | (cases e : fnd N n t (j + 1) 0 with | none => exact ru_to (tN 0 (j + 1) (by decide) e) ⟨rfl, rfl, trivial⟩ | some x => exact ru_to (tS 0 (j + 1) x x (by decide) e (by omega)) ⟨rfl, rfl, trivial⟩) | (cases e : fnd N n t (j + 1) 1 with | none => exact ru_to (tN 1 (j + 1) (by decide) e) ⟨rfl, rfl, trivial⟩ | some x => exact ru_to (tS 1 (j + 1) x (16 + x) (by decide) e (by omega)) ⟨rfl, rfl, trivial⟩)
  · skip
    replace h6 := bI_ne0.mp h6
    rw [cnd_t h6, cnd_t h6]
    refine ru_iconst (v := (-1)) d_Rd_readThing_9 (by decide) ?_
    refine ru_iret d_Rd_readThing_10 rfl ?_
    exact ⟨rfl, rfl⟩
end
