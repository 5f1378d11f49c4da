/-! The making of lists, of the class, of all -/
theorem d_RL_init_0 : decode M_RL_init.2.1 0 = .ok (.aload_n 0, 1) := by decide +kernel
theorem d_RL_init_1 : decode M_RL_init.2.1 1 = .ok (.invokespecial 3, 3) := by decide +kernel
theorem d_RL_init_4 : decode M_RL_init.2.1 4 = .ok (.aload_n 0, 1) := by decide +kernel
theorem d_RL_init_5 : decode M_RL_init.2.1 5 = .ok (.bipush 60, 2) := by decide +kernel
theorem d_RL_init_7 : decode M_RL_init.2.1 7 = .ok (.anewarray 9, 3) := by decide +kernel
theorem d_RL_init_10 : decode M_RL_init.2.1 10 = .ok (.putfield 11, 3) := by decide +kernel
theorem d_RL_init_13 : decode M_RL_init.2.1 13 = .ok (.iconst 0, 1) := by decide +kernel
theorem d_RL_init_14 : decode M_RL_init.2.1 14 = .ok (.istore_n 1, 1) := by decide +kernel
theorem d_RL_init_15 : decode M_RL_init.2.1 15 = .ok (.iload_n 1, 1) := by decide +kernel
theorem d_RL_init_16 : decode M_RL_init.2.1 16 = .ok (.bipush 60, 2) := by decide +kernel
theorem d_RL_init_18 : decode M_RL_init.2.1 18 = .ok (.if_icmp .ge 22, 3) := by decide +kernel
theorem d_RL_init_21 : decode M_RL_init.2.1 21 = .ok (.aload_n 0, 1) := by decide +kernel
theorem d_RL_init_22 : decode M_RL_init.2.1 22 = .ok (.getfield 11, 3) := by decide +kernel
theorem d_RL_init_25 : decode M_RL_init.2.1 25 = .ok (.iload_n 1, 1) := by decide +kernel
theorem d_RL_init_26 : decode M_RL_init.2.1 26 = .ok (.new 9, 3) := by decide +kernel
theorem d_RL_init_29 : decode M_RL_init.2.1 29 = .ok (.dup, 1) := by decide +kernel
theorem d_RL_init_30 : decode M_RL_init.2.1 30 = .ok (.invokespecial 17, 3) := by decide +kernel
theorem d_RL_init_33 : decode M_RL_init.2.1 33 = .ok (.aastore, 1) := by decide +kernel
theorem d_RL_init_34 : decode M_RL_init.2.1 34 = .ok (.iinc 1 1, 3) := by decide +kernel
theorem d_RL_init_37 : decode M_RL_init.2.1 37 = .ok (.goto (-22), 3) := by decide +kernel
theorem d_RL_init_40 : decode M_RL_init.2.1 40 = .ok (.return_, 1) := by decide +kernel
theorem d_RT_init_0 : decode M_RT_init.2.1 0 = .ok (.aload_n 0, 1) := by decide +kernel
theorem d_RT_init_1 : decode M_RT_init.2.1 1 = .ok (.invokespecial 1, 3) := by decide +kernel
theorem d_RT_init_4 : decode M_RT_init.2.1 4 = .ok (.aload_n 0, 1) := by decide +kernel
theorem d_RT_init_5 : decode M_RT_init.2.1 5 = .ok (.new 7, 3) := by decide +kernel
theorem d_RT_init_8 : decode M_RT_init.2.1 8 = .ok (.dup, 1) := by decide +kernel
theorem d_RT_init_9 : decode M_RT_init.2.1 9 = .ok (.invokespecial 9, 3) := by decide +kernel
theorem d_RT_init_12 : decode M_RT_init.2.1 12 = .ok (.putfield 10, 3) := by decide +kernel
theorem d_RT_init_15 : decode M_RT_init.2.1 15 = .ok (.aload_n 0, 1) := by decide +kernel
theorem d_RT_init_16 : decode M_RT_init.2.1 16 = .ok (.new 16, 3) := by decide +kernel
theorem d_RT_init_19 : decode M_RT_init.2.1 19 = .ok (.dup, 1) := by decide +kernel
theorem d_RT_init_20 : decode M_RT_init.2.1 20 = .ok (.invokespecial 18, 3) := by decide +kernel
theorem d_RT_init_23 : decode M_RT_init.2.1 23 = .ok (.putfield 19, 3) := by decide +kernel
theorem d_RT_init_26 : decode M_RT_init.2.1 26 = .ok (.aload_n 0, 1) := by decide +kernel
theorem d_RT_init_27 : decode M_RT_init.2.1 27 = .ok (.new 23, 3) := by decide +kernel
theorem d_RT_init_30 : decode M_RT_init.2.1 30 = .ok (.dup, 1) := by decide +kernel
theorem d_RT_init_31 : decode M_RT_init.2.1 31 = .ok (.invokespecial 25, 3) := by decide +kernel
theorem d_RT_init_34 : decode M_RT_init.2.1 34 = .ok (.putfield 26, 3) := by decide +kernel
theorem d_RT_init_37 : decode M_RT_init.2.1 37 = .ok (.aload_n 0, 1) := by decide +kernel
theorem d_RT_init_38 : decode M_RT_init.2.1 38 = .ok (.new 30, 3) := by decide +kernel
theorem d_RT_init_41 : decode M_RT_init.2.1 41 = .ok (.dup, 1) := by decide +kernel
theorem d_RT_init_42 : decode M_RT_init.2.1 42 = .ok (.aload_n 0, 1) := by decide +kernel
theorem d_RT_init_43 : decode M_RT_init.2.1 43 = .ok (.getfield 26, 3) := by decide +kernel
theorem d_RT_init_46 : decode M_RT_init.2.1 46 = .ok (.aload_n 0, 1) := by decide +kernel
theorem d_RT_init_47 : decode M_RT_init.2.1 47 = .ok (.getfield 10, 3) := by decide +kernel
theorem d_RT_init_50 : decode M_RT_init.2.1 50 = .ok (.invokespecial 32, 3) := by decide +kernel
theorem d_RT_init_53 : decode M_RT_init.2.1 53 = .ok (.putfield 35, 3) := by decide +kernel
theorem d_RT_init_56 : decode M_RT_init.2.1 56 = .ok (.aload_n 0, 1) := by decide +kernel
theorem d_RT_init_57 : decode M_RT_init.2.1 57 = .ok (.new 39, 3) := by decide +kernel
theorem d_RT_init_60 : decode M_RT_init.2.1 60 = .ok (.dup, 1) := by decide +kernel
theorem d_RT_init_61 : decode M_RT_init.2.1 61 = .ok (.aload_n 0, 1) := by decide +kernel
theorem d_RT_init_62 : decode M_RT_init.2.1 62 = .ok (.getfield 10, 3) := by decide +kernel
theorem d_RT_init_65 : decode M_RT_init.2.1 65 = .ok (.invokespecial 41, 3) := by decide +kernel
theorem d_RT_init_68 : decode M_RT_init.2.1 68 = .ok (.putfield 44, 3) := by decide +kernel
theorem d_RT_init_71 : decode M_RT_init.2.1 71 = .ok (.aload_n 0, 1) := by decide +kernel
theorem d_RT_init_72 : decode M_RT_init.2.1 72 = .ok (.new 48, 3) := by decide +kernel
theorem d_RT_init_75 : decode M_RT_init.2.1 75 = .ok (.dup, 1) := by decide +kernel
theorem d_RT_init_76 : decode M_RT_init.2.1 76 = .ok (.invokespecial 50, 3) := by decide +kernel
theorem d_RT_init_79 : decode M_RT_init.2.1 79 = .ok (.putfield 51, 3) := by decide +kernel
theorem d_RT_init_82 : decode M_RT_init.2.1 82 = .ok (.aload_n 0, 1) := by decide +kernel
theorem d_RT_init_83 : decode M_RT_init.2.1 83 = .ok (.new 48, 3) := by decide +kernel
theorem d_RT_init_86 : decode M_RT_init.2.1 86 = .ok (.dup, 1) := by decide +kernel
theorem d_RT_init_87 : decode M_RT_init.2.1 87 = .ok (.invokespecial 50, 3) := by decide +kernel
theorem d_RT_init_90 : decode M_RT_init.2.1 90 = .ok (.putfield 55, 3) := by decide +kernel
theorem d_RT_init_93 : decode M_RT_init.2.1 93 = .ok (.aload_n 0, 1) := by decide +kernel
theorem d_RT_init_94 : decode M_RT_init.2.1 94 = .ok (.iconst 1, 1) := by decide +kernel
theorem d_RT_init_95 : decode M_RT_init.2.1 95 = .ok (.putfield 58, 3) := by decide +kernel
theorem d_RT_init_98 : decode M_RT_init.2.1 98 = .ok (.return_, 1) := by decide +kernel
theorem d_Ru_init_0 : decode M_Ru_init.2.1 0 = .ok (.aload_n 0, 1) := by decide +kernel
theorem d_Ru_init_1 : decode M_Ru_init.2.1 1 = .ok (.invokespecial 3, 3) := by decide +kernel
theorem d_Ru_init_4 : decode M_Ru_init.2.1 4 = .ok (.aload_n 0, 1) := by decide +kernel
theorem d_Ru_init_5 : decode M_Ru_init.2.1 5 = .ok (.getstatic 9, 3) := by decide +kernel
theorem d_Ru_init_8 : decode M_Ru_init.2.1 8 = .ok (.putfield 15, 3) := by decide +kernel
theorem d_Ru_init_11 : decode M_Ru_init.2.1 11 = .ok (.return_, 1) := by decide +kernel
def rlL (r : Nat) : Nat → List (Nat × Nat × Nat)
  | 0 => [(r, 0, r + 1)]
  | i + 1 => (r + 1, i, r + 2 + i) :: rlL r i
theorem rl_0 (r : Nat) : ∀ i, (r, 0, r + 1) ∈ rlL r i
  | 0 => List.mem_cons_self
  | i + 1 => List.mem_cons_of_mem _ (rl_0 r i)
theorem rl_in (r : Nat) : ∀ n i, i < n → (r + 1, i, r + 2 + i) ∈ rlL r n
  | 0, i, h => by omega
  | n + 1, i, h => by
    by_cases e : i = n
    · subst e; exact List.mem_cons_self
    · exact List.mem_cons_of_mem _ (rl_in r n i (by omega))
theorem rl_ne {r : Nat} : ∀ n q, q ∈ rlL r n → ∀ i, n ≤ i → ¬ (q.1 = r + 1 ∧ q.2.1 = i)
  | 0, q, h, i, _ => by
    rcases List.mem_cons.mp h with e | e
    · subst e; intro z; have : r = r + 1 := z.1; omega
    · cases e
  | n + 1, q, h, i, hi => by
    rcases List.mem_cons.mp h with e | e
    · subst e; intro z; have : n = i := z.2; omega
    · exact rl_ne n q e i (by omega)
section
variable {Len : Nat} {scr : Nat → Int32} {nx : Nat} {ct : Nat → Nat × Nat} {mi : Nat → Nat → Int32} {ml : Nat → Nat → Int64} {mr mr' : Nat → Nat → Option Nat} {Ls : List (Nat × Nat × Nat)}
theorem ci_Ru {r : Nat} (hr : rx_is (nx, ct, mi, ml, mr) r 4 0) : rx_Calls y_Ru_init M_Ru_init 1 0 0 [.ref r] (nx, ct, mi, ml, mr) (fun v τ => v = none ∧ τ = (nx, ct, mi, ml, rx_u mr r 0 (some 1))) := by
  refine rx_enter (by decide) rfl rfl (Nat.le_of_ble_eq_true rfl) ?_
  refine ru_aload_n d_Ru_init_0 rfl rfl ?_
  refine ru_objInit d_Ru_init_1 (rx_in (tm_1 (List.mem_of_getElem? (i := 218) rfl)) rfl) (by decide) (by decide) ?_
  refine ru_aload_n d_Ru_init_4 rfl rfl ?_
  refine ru_gets d_Ru_init_5 (Or.inl (rx_in (tm_1 (List.mem_of_getElem? (i := 219) rfl)) rfl)) (List.mem_of_getElem? (i := 0) rfl) ?_
  refine ru_putR (a := some 1) d_Ru_init_8 lf_Ru_15 hr rfl (fun q hq => by cases hq; exact Or.inl rfl) ?_
  refine ru_vret d_Ru_init_11 rfl ?_
  exact ⟨rfl, rfl⟩
theorem ci_RL_init_274 (hC : CS Len scr 275 ct mi ml mr Ls) (hlt : ∀ q ∈ Ls, q.1 < 274) : rx_Calls y_RL_init M_RL_init 2 61 600 [.ref 274] (275, ct, mi, ml, mr) (csP Len scr 336 (rlL 274 60 ++ Ls)) := by
  refine rx_enter (by decide) rfl rfl (Nat.le_of_ble_eq_true rfl) ?_
  have loop : ∀ f i nx ct mi ml mr, i + f = 60 → nx = 276 + i → CS Len scr nx ct mi ml mr (rlL 274 i ++ Ls) → rx_W M_RL_init 2 f (9 * f) 15 [(0, .ref 274), (1, .int (nI i))] [] (nx, ct, mi, ml, mr) (pR (csP Len scr 336 (rlL 274 60 ++ Ls))) := by
    intro f
    induction f with
    | zero =>
      intro i nx ct mi ml mr hi hx hC
      have e : i = 60 := by omega
      subst e
      subst hx
      refine ru_iload_n d_RL_init_15 rfl rfl ?_
      refine ru_bipush (v := 60) d_RL_init_16 (by decide) ?_
      refine ru_icmp_ge (tgt := 40) d_RL_init_18 (by decide) (fun h18 => ?_) (fun h18 => absurd h18 (by decide))
      refine ru_vret d_RL_init_40 rfl ?_
      exact ⟨rfl, _, _, _, _, rfl, hC⟩
    | succ f ih =>
      intro i nx ct mi ml mr hi hx hC
      have h0 : ct0 nx = (4, 0) := by rw [hx]; exact (ct0_ru i (by omega)).1
      have is0 : rx_is (nx, ct, mi, ml, mr) 274 5 0 := hC.is 274 5 0 ⟨⟨by decide, by omega⟩, by decide⟩
      have hC1 := hC.new 4 0 ⟨by omega, h0⟩
      have lt1 : ∀ q ∈ rlL 274 i ++ Ls, q.1 ≠ nx := fun q hq => by have := (hC.2.2 q hq).1; omega
      have hC2 := hC1.keep nx 0 (some 1) lt1
      have is1 : rx_is (nx + 1, va_up ct nx (4, 0), va_up mi nx (fun _ => 0), va_up ml nx (fun _ => 0), va_up mr nx (fun _ => none)) nx 4 0 := ⟨by omega, by omega, by simp [va_up]⟩
      have is2 : rx_is (nx + 1, va_up ct nx (4, 0), va_up mi nx (fun _ => 0), va_up ml nx (fun _ => 0), rx_u (va_up mr nx (fun _ => none)) nx 0 (some 1)) nx 4 0 := is1
      have is3 : rx_is (nx + 1, va_up ct nx (4, 0), va_up mi nx (fun _ => 0), va_up ml nx (fun _ => 0), rx_u (va_up mr nx (fun _ => none)) nx 0 (some 1)) 275 105 60 := hC2.is 275 105 60 ⟨⟨by decide, by omega⟩, by decide⟩
      have hC3 := hC2.put 275 i nx (by omega) (fun q hq => (List.mem_append.mp hq).elim (fun z => rl_ne i q z i (Nat.le_refl _)) (fun z y => by have := hlt q z; omega))
      have k := ih (i + 1) (nx + 1) _ _ _ _ (by omega) (by omega) (by rw [show (275, i, nx) = (274 + 1, i, 274 + 2 + i) by rw [hx]] at hC3; exact hC3)
      refine ru_iload_n d_RL_init_15 rfl rfl ?_
      refine ru_bipush (v := 60) d_RL_init_16 (by decide) ?_
      refine ru_icmp_ge (tgt := 40) d_RL_init_18 (by decide) (fun h18 => absurd h18 (nI_ge (a := i) (b := 60) (by omega) (by decide))) (fun h18 => ?_)
      replace h18 := nm_nle (a := 60) (b := i) (by omega) (by omega) h18
      refine ru_aload_n d_RL_init_21 rfl rfl ?_
      refine ru_getR d_RL_init_22 lf_RL_11 is0 rfl (hC.m 274 0 275 (List.mem_append_left _ (rl_0 274 i))) ?_
      refine ru_iload_n d_RL_init_25 rfl rfl ?_
      refine ru_new (mc := f) d_RL_init_26 ln_RL_9 ?_
      unfold rx_new
      refine ru_dup d_RL_init_29 rfl ?_
      refine ru_mcs (Nat.zero_add _).symm (Nat.zero_add _).symm ?_
      refine ru_callI (mc := _) (ms := _) d_RL_init_30 lm_RL_17 (ci_Ru is1) (by decide) rfl (Nat.le_of_ble_eq_true rfl) ?_
      intro v τ h
      obtain ⟨rfl, rfl⟩ := h
      refine ru_astq (r := 275) (q := nx) (j := i) d_RL_init_33 is3 is2 (by omega) (by decide) ?_
      refine ru_iinc (v := nI (i + 1)) d_RL_init_34 rfl (nm_inc _ 1) (by decide) ?_
      refine ru_goto (tgt := 15) d_RL_init_37 (by decide) ?_
      exact ru_to k ⟨rfl, rfl, trivial⟩
  refine ru_aload_n d_RL_init_0 rfl rfl ?_
  refine ru_objInit d_RL_init_1 (rx_in (tm_1 (List.mem_of_getElem? (i := 211) rfl)) rfl) (by decide) (by decide) ?_
  refine ru_aload_n d_RL_init_4 rfl rfl ?_
  refine ru_bipush (v := 60) d_RL_init_5 (by decide) ?_
  refine ru_newq (N := 60) d_RL_init_7 (rx_in (tm_1 (List.mem_of_getElem? (i := 212) rfl)) rfl) (by decide) rfl (by decide) ?_
  unfold rx_new
  have hC1 := hC.new 105 60
  have hC2 := hC1.put2 (A := []) 274 0 275 (by decide) (by decide) hlt
  refine ru_putR (a := some 275) d_RL_init_10 lf_RL_11 (hC1.is 274 5 0) rfl (fun q hq => by cases hq; exact Or.inr ⟨rfl, rfl, rfl⟩) ?_
  refine ru_iconst (v := 0) d_RL_init_13 (by decide) ?_
  refine ru_istore_n d_RL_init_14 rfl (by decide) ?_
  exact ru_to (loop 60 0 _ _ _ _ _ rfl rfl hC2) ⟨rfl, rfl, trivial⟩
theorem ci_RL_init_336 (hC : CS Len scr 337 ct mi ml mr Ls) (hlt : ∀ q ∈ Ls, q.1 < 336) : rx_Calls y_RL_init M_RL_init 2 61 600 [.ref 336] (337, ct, mi, ml, mr) (csP Len scr 398 (rlL 336 60 ++ Ls)) := by
  refine rx_enter (by decide) rfl rfl (Nat.le_of_ble_eq_true rfl) ?_
  have loop : ∀ f i nx ct mi ml mr, i + f = 60 → nx = 338 + i → CS Len scr nx ct mi ml mr (rlL 336 i ++ Ls) → rx_W M_RL_init 2 f (9 * f) 15 [(0, .ref 336), (1, .int (nI i))] [] (nx, ct, mi, ml, mr) (pR (csP Len scr 398 (rlL 336 60 ++ Ls))) := by
    intro f
    induction f with
    | zero =>
      intro i nx ct mi ml mr hi hx hC
      have e : i = 60 := by omega
      subst e
      subst hx
      refine ru_iload_n d_RL_init_15 rfl rfl ?_
      refine ru_bipush (v := 60) d_RL_init_16 (by decide) ?_
      refine ru_icmp_ge (tgt := 40) d_RL_init_18 (by decide) (fun h18 => ?_) (fun h18 => absurd h18 (by decide))
      refine ru_vret d_RL_init_40 rfl ?_
      exact ⟨rfl, _, _, _, _, rfl, hC⟩
    | succ f ih =>
      intro i nx ct mi ml mr hi hx hC
      have h0 : ct0 nx = (4, 0) := by rw [hx]; exact (ct0_ru i (by omega)).2
      have is0 : rx_is (nx, ct, mi, ml, mr) 336 5 0 := hC.is 336 5 0 ⟨⟨by decide, by omega⟩, by decide⟩
      have hC1 := hC.new 4 0 ⟨by omega, h0⟩
      have lt1 : ∀ q ∈ rlL 336 i ++ Ls, q.1 ≠ nx := fun q hq => by have := (hC.2.2 q hq).1; omega
      have hC2 := hC1.keep nx 0 (some 1) lt1
      have is1 : rx_is (nx + 1, va_up ct nx (4, 0), va_up mi nx (fun _ => 0), va_up ml nx (fun _ => 0), va_up mr nx (fun _ => none)) nx 4 0 := ⟨by omega, by omega, by simp [va_up]⟩
      have is2 : rx_is (nx + 1, va_up ct nx (4, 0), va_up mi nx (fun _ => 0), va_up ml nx (fun _ => 0), rx_u (va_up mr nx (fun _ => none)) nx 0 (some 1)) nx 4 0 := is1
      have is3 : rx_is (nx + 1, va_up ct nx (4, 0), va_up mi nx (fun _ => 0), va_up ml nx (fun _ => 0), rx_u (va_up mr nx (fun _ => none)) nx 0 (some 1)) 337 105 60 := hC2.is 337 105 60 ⟨⟨by decide, by omega⟩, by decide⟩
      have hC3 := hC2.put 337 i nx (by omega) (fun q hq => (List.mem_append.mp hq).elim (fun z => rl_ne i q z i (Nat.le_refl _)) (fun z y => by have := hlt q z; omega))
      have k := ih (i + 1) (nx + 1) _ _ _ _ (by omega) (by omega) (by rw [show (337, i, nx) = (336 + 1, i, 336 + 2 + i) by rw [hx]] at hC3; exact hC3)
      refine ru_iload_n d_RL_init_15 rfl rfl ?_
      refine ru_bipush (v := 60) d_RL_init_16 (by decide) ?_
      refine ru_icmp_ge (tgt := 40) d_RL_init_18 (by decide) (fun h18 => absurd h18 (nI_ge (a := i) (b := 60) (by omega) (by decide))) (fun h18 => ?_)
      replace h18 := nm_nle (a := 60) (b := i) (by omega) (by omega) h18
      refine ru_aload_n d_RL_init_21 rfl rfl ?_
      refine ru_getR d_RL_init_22 lf_RL_11 is0 rfl (hC.m 336 0 337 (List.mem_append_left _ (rl_0 336 i))) ?_
      refine ru_iload_n d_RL_init_25 rfl rfl ?_
      refine ru_new (mc := f) d_RL_init_26 ln_RL_9 ?_
      unfold rx_new
      refine ru_dup d_RL_init_29 rfl ?_
      refine ru_mcs (Nat.zero_add _).symm (Nat.zero_add _).symm ?_
      refine ru_callI (mc := _) (ms := _) d_RL_init_30 lm_RL_17 (ci_Ru is1) (by decide) rfl (Nat.le_of_ble_eq_true rfl) ?_
      intro v τ h
      obtain ⟨rfl, rfl⟩ := h
      refine ru_astq (r := 337) (q := nx) (j := i) d_RL_init_33 is3 is2 (by omega) (by decide) ?_
      refine ru_iinc (v := nI (i + 1)) d_RL_init_34 rfl (nm_inc _ 1) (by decide) ?_
      refine ru_goto (tgt := 15) d_RL_init_37 (by decide) ?_
      exact ru_to k ⟨rfl, rfl, trivial⟩
  refine ru_aload_n d_RL_init_0 rfl rfl ?_
  refine ru_objInit d_RL_init_1 (rx_in (tm_1 (List.mem_of_getElem? (i := 211) rfl)) rfl) (by decide) (by decide) ?_
  refine ru_aload_n d_RL_init_4 rfl rfl ?_
  refine ru_bipush (v := 60) d_RL_init_5 (by decide) ?_
  refine ru_newq (N := 60) d_RL_init_7 (rx_in (tm_1 (List.mem_of_getElem? (i := 212) rfl)) rfl) (by decide) rfl (by decide) ?_
  unfold rx_new
  have hC1 := hC.new 105 60
  have hC2 := hC1.put2 (A := []) 336 0 337 (by decide) (by decide) hlt
  refine ru_putR (a := some 337) d_RL_init_10 lf_RL_11 (hC1.is 336 5 0) rfl (fun q hq => by cases hq; exact Or.inr ⟨rfl, rfl, rfl⟩) ?_
  refine ru_iconst (v := 0) d_RL_init_13 (by decide) ?_
  refine ru_istore_n d_RL_init_14 rfl (by decide) ?_
  exact ru_to (loop 60 0 _ _ _ _ _ rfl rfl hC2) ⟨rfl, rfl, trivial⟩
def mkE : List (Nat × Nat × Nat) := ((256, 6, 336) :: (rlL 336 60 ++ ((256, 5, 274) :: (rlL 274 60 ++ ((256, 4, 271) :: ([(271, 1, 257), (271, 0, 272), (272, 0, 273)] ++ ((256, 3, 268) :: ([(268, 1, 257), (268, 0, 266), (268, 3, 270), (268, 2, 269)] ++ ((256, 2, 266) :: ([(266, 0, 267)] ++ ((256, 1, 260) :: ([(260, 4, 265), (260, 3, 264), (260, 2, 263), (260, 1, 262), (260, 0, 261)] ++ ((256, 0, 257) :: ([(257, 1, 259), (257, 0, 258)] ++ ([] : List (Nat × Nat × Nat))))))))))))))))
theorem ci_RT (hC : CS Len scr 257 ct mi ml mr []) : rx_Calls y_RT_init M_RT_init 4 141 4764 [.ref 256] (257, ct, mi, ml, mr) (csP Len scr 398 mkE) := by
  refine rx_enter (by decide) rfl rfl (Nat.le_of_ble_eq_true rfl) ?_
  refine ru_aload_n d_RT_init_0 rfl rfl ?_
  refine ru_objInit d_RT_init_1 (rx_in (tm_1 (List.mem_of_getElem? (i := 35) rfl)) rfl) (by decide) (by decide) ?_
  refine ru_aload_n d_RT_init_4 rfl rfl ?_
  refine ru_new (mc := _) d_RT_init_5 ln_RT_7 ?_
  unfold rx_new
  have hC1 := hC.new 2 0
  refine ru_dup d_RT_init_8 rfl ?_
  refine ru_mcs (mc' := 2 + 138) (ms' := 432 + 4330) rfl rfl ?_
  refine ru_callI (mc := _) (ms := _) d_RT_init_9 lm_RT_9 (ci_Na_init_257 hC1 (by decide +kernel)) (by decide) rfl (Nat.le_of_ble_eq_true rfl) ?_
  rintro v τ ⟨rfl, ct1, m1, l1, r1, rfl, hC2⟩
  refine ru_putR (a := some 257) d_RT_init_12 lf_RT_10 (hC2.is 256 0 0) rfl (fun q hq => by cases hq; exact Or.inr ⟨rfl, rfl, rfl⟩) ?_
  have hC3 := hC2.put 256 0 257 (by decide) (by decide +kernel)
  refine ru_aload_n d_RT_init_15 rfl rfl ?_
  refine ru_new (mc := _) d_RT_init_16 ln_RT_16 ?_
  unfold rx_new
  have hC4 := hC3.new 6 0
  refine ru_dup d_RT_init_19 rfl ?_
  refine ru_mcs (mc' := 5 + 132) (ms' := 80 + 4245) rfl rfl ?_
  refine ru_callI (mc := _) (ms := _) d_RT_init_20 lm_RT_18 (ci_Sh_init_260 hC4 (by decide +kernel)) (by decide) rfl (Nat.le_of_ble_eq_true rfl) ?_
  rintro v τ ⟨rfl, ct4, m4, l4, r4, rfl, hC5⟩
  refine ru_putR (a := some 260) d_RT_init_23 lf_RT_19 (hC5.is 256 0 0) rfl (fun q hq => by cases hq; exact Or.inr ⟨rfl, rfl, rfl⟩) ?_
  have hC6 := hC5.put 256 1 260 (by decide) (by decide +kernel)
  refine ru_aload_n d_RT_init_26 rfl rfl ?_
  refine ru_new (mc := _) d_RT_init_27 ln_RT_23 ?_
  unfold rx_new
  have hC7 := hC6.new 7 0
  refine ru_dup d_RT_init_30 rfl ?_
  refine ru_mcs (mc' := 1 + 130) (ms' := 3000 + 1239) rfl rfl ?_
  refine ru_callI (mc := _) (ms := _) d_RT_init_31 lm_RT_25 (ci_Wo_init_266 hC7 (by decide +kernel)) (by decide) rfl (Nat.le_of_ble_eq_true rfl) ?_
  rintro v τ ⟨rfl, ct7, m7, l7, r7, rfl, hC8⟩
  refine ru_putR (a := some 266) d_RT_init_34 lf_RT_26 (hC8.is 256 0 0) rfl (fun q hq => by cases hq; exact Or.inr ⟨rfl, rfl, rfl⟩) ?_
  have hC9 := hC8.put 256 2 266 (by decide) (by decide +kernel)
  refine ru_aload_n d_RT_init_37 rfl rfl ?_
  refine ru_new (mc := _) d_RT_init_38 ln_RT_30 ?_
  unfold rx_new
  have hC10 := hC9.new 3 0
  refine ru_dup d_RT_init_41 rfl ?_
  refine ru_aload_n d_RT_init_42 rfl rfl ?_
  refine ru_getR d_RT_init_43 lf_RT_26 (hC10.is 256 0 0) rfl (hC10.m 256 2 266 (by decide)) ?_
  refine ru_aload_n d_RT_init_46 rfl rfl ?_
  refine ru_getR d_RT_init_47 lf_RT_10 (hC10.is 256 0 0) rfl (hC10.m 256 0 257 (by decide)) ?_
  refine ru_mcs (mc' := 2 + 127) (ms' := 8 + 1226) rfl rfl ?_
  refine ru_callI (mc := _) (ms := _) d_RT_init_50 lm_RT_32 (ci_Rd_init_268 hC10 (by decide +kernel)) (by decide) rfl (Nat.le_of_ble_eq_true rfl) ?_
  rintro v τ ⟨rfl, ct10, m10, l10, r10, rfl, hC11⟩
  refine ru_putR (a := some 268) d_RT_init_53 lf_RT_35 (hC11.is 256 0 0) rfl (fun q hq => by cases hq; exact Or.inr ⟨rfl, rfl, rfl⟩) ?_
  have hC12 := hC11.put 256 3 268 (by decide) (by decide +kernel)
  refine ru_aload_n d_RT_init_56 rfl rfl ?_
  refine ru_new (mc := _) d_RT_init_57 ln_RT_39 ?_
  unfold rx_new
  have hC13 := hC12.new 8 0
  refine ru_dup d_RT_init_60 rfl ?_
  refine ru_aload_n d_RT_init_61 rfl rfl ?_
  refine ru_getR d_RT_init_62 lf_RT_10 (hC13.is 256 0 0) rfl (hC13.m 256 0 257 (by decide)) ?_
  refine ru_mcs (mc' := 2 + 124) (ms' := 20 + 1204) rfl rfl ?_
  refine ru_callI (mc := _) (ms := _) d_RT_init_65 lm_RT_41 (ci_Wr_init_271 hC13 (by decide +kernel)) (by decide) rfl (Nat.le_of_ble_eq_true rfl) ?_
  rintro v τ ⟨rfl, ct13, m13, l13, r13, rfl, hC14⟩
  refine ru_putR (a := some 271) d_RT_init_68 lf_RT_44 (hC14.is 256 0 0) rfl (fun q hq => by cases hq; exact Or.inr ⟨rfl, rfl, rfl⟩) ?_
  have hC15 := hC14.put 256 4 271 (by decide) (by decide +kernel)
  refine ru_aload_n d_RT_init_71 rfl rfl ?_
  refine ru_new (mc := _) d_RT_init_72 ln_RT_48 ?_
  unfold rx_new
  have hC16 := hC15.new 5 0
  refine ru_dup d_RT_init_75 rfl ?_
  refine ru_mcs (mc' := 61 + 62) (ms' := 600 + 602) rfl rfl ?_
  refine ru_callI (mc := _) (ms := _) d_RT_init_76 lm_RT_50 (ci_RL_init_274 hC16 (by decide +kernel)) (by decide) rfl (Nat.le_of_ble_eq_true rfl) ?_
  rintro v τ ⟨rfl, ct16, m16, l16, r16, rfl, hC17⟩
  refine ru_putR (a := some 274) d_RT_init_79 lf_RT_51 (hC17.is 256 0 0) rfl (fun q hq => by cases hq; exact Or.inl rfl) ?_
  have hC18 := hC17.put 256 5 274 (by decide) (by decide +kernel)
  refine ru_aload_n d_RT_init_82 rfl rfl ?_
  refine ru_new (mc := _) d_RT_init_83 ln_RT_48 ?_
  unfold rx_new
  have hC19 := hC18.new 5 0
  refine ru_dup d_RT_init_86 rfl ?_
  refine ru_mcs (mc' := 61 + 0) (ms' := 600 + 0) rfl rfl ?_
  refine ru_callI (mc := _) (ms := _) d_RT_init_87 lm_RT_50 (ci_RL_init_336 hC19 (by decide +kernel)) (by decide) rfl (Nat.le_of_ble_eq_true rfl) ?_
  rintro v τ ⟨rfl, ct19, m19, l19, r19, rfl, hC20⟩
  refine ru_putR (a := some 336) d_RT_init_90 lf_RT_55 (hC20.is 256 0 0) rfl (fun q hq => by cases hq; exact Or.inl rfl) ?_
  have hC21 := hC20.put 256 6 336 (by decide) (by decide +kernel)
  refine ru_aload_n d_RT_init_93 rfl rfl ?_
  refine ru_iconst (v := 1) d_RT_init_94 (by decide) ?_
  refine ru_putI d_RT_init_95 lf_RT_58 (hC21.is 256 0 0) rfl (fun q hq => by cases hq; exact Or.inl rfl) ⟨rfl, rfl⟩ ?_
  have hC22 := hC21.f7 1
  refine ru_vret d_RT_init_98 rfl ?_
  exact ⟨rfl, _, _, _, _, rfl, hC22⟩
theorem mk_INV (hC : CS Len scr 409 ct mi ml mr ([(398, 15, 407), (398, 11, 406), (398, 10, 405), (398, 8, 404), (398, 6, 403), (398, 5, 402), (398, 4, 401), (398, 3, 400), (398, 1, 399)] ++ mkE)) : INV Len scr (fun _ => 0, fun _ _ => 0) 0 (fun _ => 0) 274 336 [] 273 [] 16 409 ct mi ml mr := by
  have z : ∀ r k, 256 < r → r < 409 → mi r k = 0 := fun r k h1 h2 => ((hC.2.1 r (by omega) h2).2 k).1 (by omega)
  have zl : ∀ r k, 256 < r → r < 409 → ml r k = 0 := fun r k h1 h2 => ((hC.2.1 r (by omega) h2).2 k).2
  have fx : ∀ q ∈ fixR, q ∈ ([(398, 15, 407), (398, 11, 406), (398, 10, 405), (398, 8, 404), (398, 6, 403), (398, 5, 402), (398, 4, 401), (398, 3, 400), (398, 1, 399)] ++ mkE) := by decide +kernel
  have m1 : ∀ i, i < 60 → (275, i, 276 + i) ∈ ([(398, 15, 407), (398, 11, 406), (398, 10, 405), (398, 8, 404), (398, 6, 403), (398, 5, 402), (398, 4, 401), (398, 3, 400), (398, 1, 399)] ++ mkE) := by decide +kernel
  have m2 : ∀ i, i < 60 → (337, i, 338 + i) ∈ ([(398, 15, 407), (398, 11, 406), (398, 10, 405), (398, 8, 404), (398, 6, 403), (398, 5, 402), (398, 4, 401), (398, 3, 400), (398, 1, 399)] ++ mkE) := by decide +kernel
  refine ⟨⟨Nat.le_refl _, fun r h1 h2 => (hC.2.1 r h1 h2).1, fun q hq => (hC.2.2 q (fx q hq)).2, fun i hi => ⟨(hC.2.2 _ (m1 i hi)).2, (hC.2.2 _ (m2 i hi)).2⟩⟩, hC.1, ⟨⟨hC.m 256 5 274 (by decide +kernel), hC.m 256 6 336 (by decide +kernel)⟩, Or.inl rfl, Or.inr rfl, by decide⟩, ⟨⟨z 266 1 (by decide) (by decide), funext (fun k => z 267 k (by decide) (by decide)), by decide⟩, z 398 2 (by decide) (by decide), funext (fun k => z 399 k (by decide) (by decide)), fun i hi => by omega⟩, ⟨fun k hk => ⟨z 259 k (by decide) (by decide), Nat.zero_le _, (fun i hi => by cases hi)⟩, fun k hk => ⟨z 400 k (by decide) (by decide), Nat.zero_le _, (fun i hi => by cases hi)⟩, fun k hk => ⟨Nat.zero_le _, (fun i hi => by cases hi)⟩⟩, ⟨⟨z 274 1 (by decide) (by decide), by decide, fun i q hq => by cases hq⟩, z 398 7 (by decide) (by decide), fun i q hq => by cases hq⟩, ⟨fun x hx => by rw [z 402 x (by decide) (by decide), z 261 x (by decide) (by decide)], fun x hx => ?_⟩, ⟨hC.m 272 0 273 (by decide +kernel), Or.inl rfl, by decide, (hC.2.1 273 (by decide) (by decide)).1, z 272 1 (by decide) (by decide), z 272 3 (by decide) (by decide), by decide, by decide, (fun i x hx => by cases hx), fun i hi => ?_⟩, by decide, fun _ => rfl⟩
  · rw [zl 403 _ (by decide) (by decide), zl 403 _ (by decide) (by decide), zl 403 _ (by decide) (by decide), zl 403 _ (by decide) (by decide), zl 262 _ (by decide) (by decide), zl 263 _ (by decide) (by decide), zl 264 _ (by decide) (by decide), zl 265 _ (by decide) (by decide)]
    exact ⟨rfl, rfl, rfl, rfl⟩
  · rw [z 273 i (by decide) (by decide)]
    exact ⟨by decide, by decide⟩
theorem lw_begin {post : rx_End} (hLen : Len ≤ 5120) (hend : ∀ mc ms σ, rx_W M_Lw_law 13 mc ms 906 [] [] σ post) (hS : ct 0 = (100, Len) ∧ mi 0 = scr) : rx_W M_Lw_law 13 (153 + 17896) (24745 + 37840) 0 [(0, .ref 0)] [] (256, ct, mi, ml, mr) post := by
  have hC : CS Len scr 256 ct mi ml mr [] := ⟨hS, fun r h1 h2 => by omega, fun q hq => by cases hq⟩
  refine ru_mcs (mc' := 18048 + 1) (ms' := 62577 + 8) rfl rfl ?_
  refine ru_new (mc := _) d_Lw_law_0 ln_Lw_8 ?_
  unfold rx_new
  have hC1 := hC.new 0 0
  refine ru_dup d_Lw_law_3 rfl ?_
  refine ru_mcs (mc' := 141 + 17907) (ms' := 4764 + 57813) rfl rfl ?_
  refine ru_callI (mc := _) (ms := _) d_Lw_law_4 lm_Lw_40 (ci_RT hC1) (by decide) rfl (Nat.le_of_ble_eq_true rfl) ?_
  rintro v τ ⟨rfl, ct1, m1, l1, r1, rfl, hC2⟩
  refine ru_astore_n d_Lw_law_7 rfl (by decide) ?_
  refine ru_mcs (mc' := 17906 + 1) (ms' := 57795 + 18) rfl rfl ?_
  refine ru_new (mc := _) d_Lw_law_8 ln_Lw_41 ?_
  unfold rx_new
  have hC3 := hC2.new 9 0
  refine ru_dup d_Lw_law_11 rfl ?_
  refine ru_mcs (mc' := 9 + 17897) (ms' := 19954 + 37841) rfl rfl ?_
  refine ru_callI (mc := _) (ms := _) d_Lw_law_12 lm_Lw_43 (ci_Mo_init_398 hC3 (by decide +kernel)) (by decide) rfl (Nat.le_of_ble_eq_true rfl) ?_
  rintro v τ ⟨rfl, ct2, m2, l2, r2, rfl, hC4⟩
  refine ru_astore_n d_Lw_law_15 rfl (by decide) ?_
  refine ru_iconst (v := 1) d_Lw_law_16 (by decide) ?_
  refine ru_mcs (mc' := 17896 + 1) (ms' := 37840 + 1) rfl rfl ?_
  refine ru_newaJ (N := 1) d_Lw_law_17 (by decide) ?_
  unfold rx_new
  have hC5 := hC4.new 104 1
  refine ru_astore_n d_Lw_law_19 rfl (by decide) ?_
  refine ru_iconst (v := 0) d_Lw_law_20 (by decide) ?_
  refine ru_istore d_Lw_law_21 (by decide) ?_
  exact ru_to (ru_less (by omega) (by omega) (lw_loop hLen hend (Len / 10) 0 _ _ _ _ _ _ _ _ _ _ _ _ _ _ (Nat.zero_le _) (by omega) (mk_INV hC5))) ⟨rfl, rfl, rfl, rfl, rfl, trivial⟩
end
