/-! The reference reads: words taken, names, small numbers -/
theorem d_Mo_expect_0 : decode M_Mo_expect.2.1 0 = .ok (.aload_n 0, 1) := by decide +kernel
theorem d_Mo_expect_1 : decode M_Mo_expect.2.1 1 = .ok (.invokevirtual 75, 3) := by decide +kernel
theorem d_Mo_expect_4 : decode M_Mo_expect.2.1 4 = .ok (.ifCond .eq 19, 3) := by decide +kernel
theorem d_Mo_expect_7 : decode M_Mo_expect.2.1 7 = .ok (.aload_n 0, 1) := by decide +kernel
theorem d_Mo_expect_8 : decode M_Mo_expect.2.1 8 = .ok (.lload_n 1, 1) := by decide +kernel
theorem d_Mo_expect_9 : decode M_Mo_expect.2.1 9 = .ok (.invokevirtual 83, 3) := by decide +kernel
theorem d_Mo_expect_12 : decode M_Mo_expect.2.1 12 = .ok (.ifCond .ne 11, 3) := by decide +kernel
theorem d_Mo_expect_15 : decode M_Mo_expect.2.1 15 = .ok (.aload_n 0, 1) := by decide +kernel
theorem d_Mo_expect_16 : decode M_Mo_expect.2.1 16 = .ok (.aload_n 0, 1) := by decide +kernel
theorem d_Mo_expect_17 : decode M_Mo_expect.2.1 17 = .ok (.getfield 59, 3) := by decide +kernel
theorem d_Mo_expect_20 : decode M_Mo_expect.2.1 20 = .ok (.invokevirtual 87, 3) := by decide +kernel
theorem d_Mo_expect_23 : decode M_Mo_expect.2.1 23 = .ok (.return_, 1) := by decide +kernel
theorem d_Mo_took_0 : decode M_Mo_took.2.1 0 = .ok (.aload_n 0, 1) := by decide +kernel
theorem d_Mo_took_1 : decode M_Mo_took.2.1 1 = .ok (.invokevirtual 75, 3) := by decide +kernel
theorem d_Mo_took_4 : decode M_Mo_took.2.1 4 = .ok (.ifCond .eq 16, 3) := by decide +kernel
theorem d_Mo_took_7 : decode M_Mo_took.2.1 7 = .ok (.aload_n 0, 1) := by decide +kernel
theorem d_Mo_took_8 : decode M_Mo_took.2.1 8 = .ok (.invokevirtual 79, 3) := by decide +kernel
theorem d_Mo_took_11 : decode M_Mo_took.2.1 11 = .ok (.lload_n 1, 1) := by decide +kernel
theorem d_Mo_took_12 : decode M_Mo_took.2.1 12 = .ok (.lcmp, 1) := by decide +kernel
theorem d_Mo_took_13 : decode M_Mo_took.2.1 13 = .ok (.ifCond .ne 7, 3) := by decide +kernel
theorem d_Mo_took_16 : decode M_Mo_took.2.1 16 = .ok (.iconst 1, 1) := by decide +kernel
theorem d_Mo_took_17 : decode M_Mo_took.2.1 17 = .ok (.goto 4, 3) := by decide +kernel
theorem d_Mo_took_20 : decode M_Mo_took.2.1 20 = .ok (.iconst 0, 1) := by decide +kernel
theorem d_Mo_took_21 : decode M_Mo_took.2.1 21 = .ok (.istore_n 3, 1) := by decide +kernel
theorem d_Mo_took_22 : decode M_Mo_took.2.1 22 = .ok (.iload_n 3, 1) := by decide +kernel
theorem d_Mo_took_23 : decode M_Mo_took.2.1 23 = .ok (.ifCond .eq 13, 3) := by decide +kernel
theorem d_Mo_took_26 : decode M_Mo_took.2.1 26 = .ok (.aload_n 0, 1) := by decide +kernel
theorem d_Mo_took_27 : decode M_Mo_took.2.1 27 = .ok (.dup, 1) := by decide +kernel
theorem d_Mo_took_28 : decode M_Mo_took.2.1 28 = .ok (.getfield 59, 3) := by decide +kernel
theorem d_Mo_took_31 : decode M_Mo_took.2.1 31 = .ok (.iconst 1, 1) := by decide +kernel
theorem d_Mo_took_32 : decode M_Mo_took.2.1 32 = .ok (.iadd, 1) := by decide +kernel
theorem d_Mo_took_33 : decode M_Mo_took.2.1 33 = .ok (.putfield 59, 3) := by decide +kernel
theorem d_Mo_took_36 : decode M_Mo_took.2.1 36 = .ok (.iload_n 3, 1) := by decide +kernel
theorem d_Mo_took_37 : decode M_Mo_took.2.1 37 = .ok (.ireturn, 1) := by decide +kernel
/-- the reference at a word w, wrong or not (g) -/
def mS (m0 : Nat → Nat → Int32) (w g : Int32) : Nat → Nat → Int32 := rx_u (rx_u m0 398 12 w) 398 13 g
section
variable {m0 : Nat → Nat → Int32} {w g : Int32}
theorem mS_w : mS m0 w g 398 12 = w := by unfold mS; rw [rx_u_k _ _ (by decide), rx_u_same]
theorem mS_g : mS m0 w g 398 13 = g := by unfold mS; rw [rx_u_same]
theorem mS_k {k : Nat} (h1 : k ≠ 12 := by decide) (h2 : k ≠ 13 := by decide) : mS m0 w g 398 k = m0 398 k := by unfold mS; rw [rx_u_k _ _ h2, rx_u_k _ _ h1]
theorem mS_r {r : Nat} (h : r ≠ 398 := by decide) : mS m0 w g r = m0 r := by unfold mS; rw [rx_u_r _ _ h, rx_u_r _ _ h]
theorem mS_sg {g' : Int32} : rx_u (mS m0 w g) 398 13 g' = mS m0 w g' := by unfold mS; rw [rx_u_u]
theorem mS_sw {w' : Int32} : rx_u (mS m0 w g) 398 12 w' = mS m0 w' g := by
  funext r k
  by_cases hr : r = 398
  · subst hr
    by_cases h2 : k = 12
    · subst h2; rw [rx_u_same, mS_w]
    · by_cases h3 : k = 13
      · subst h3; rw [rx_u_k _ _ (by decide), mS_g, mS_g]
      · rw [rx_u_k _ _ h2, mS_k h2 h3, mS_k h2 h3]
  · rw [rx_u_r _ _ hr, mS_r hr, mS_r hr]
theorem PMs.mS {n m : Nat} {t : Nat → Int32} (h : PMs n m t m0) (w g : Int32) : PMs n m t (mS m0 w g) := by
  unfold Jvm.Pilot.CRuleTextLaw_law_r8946_0eab6c.mS
  exact (h.upd w (by decide) (by decide)).upd g (by decide) (by decide)
end
def wOK (s : Nat) (V : Int64) : Prop := (1 ≤ (rx_tx s).length ∧ (rx_tx s).length ≤ 7) ∧ (∀ i, i < (rx_tx s).length → 97 ≤ ((rx_tx s).getD i 0).toInt ∧ ((rx_tx s).getD i 0).toInt ≤ 122) ∧ V = Int64.ofNat (gE (fun i => (rx_tx s).getD i 0) 0 (rx_tx s).length)
theorem wOK.iff {s n j : Nat} {t : Nat → Int32} {V : Int64} (h : wOK s V) : spV t (tk n t j) = V ↔ isW n t j s := by
  obtain ⟨h1, h2, h3⟩ := h
  rw [h3]
  exact spV_iff h1 h2
def NmM (N : nmS) (m0 : Nat → Nat → Int32) : Prop := ∀ k, k < 48 → m0 400 k = nI (N.1 k) ∧ N.1 k ≤ 8 ∧ ∀ i, i < N.1 k → m0 401 (8 * k + i) = N.2 k i
section
variable {nx : Nat} {ct : Nat → Nat × Nat} {m0 : Nat → Nat → Int32} {ml : Nat → Nat → Int64} {mr : Nat → Nat → Option Nat} {n m : Nat} {t : Nat → Int32}
theorem sq_good {w g : Int32} (hL : LAY nx ct mr) : rx_Calls y_Mo_good M_Mo_good 0 0 0 [.ref 398] (nx, ct, mS m0 w g, ml, mr) (fun v τ => v = some (.int (bI (g = -1))) ∧ τ = (nx, ct, mS m0 w g, ml, mr)) := by
  have z := sp_Mo_good (mi := mS m0 w g) (ml := ml) hL
  rw [mS_g] at z
  exact z
theorem sq_fail {w g : Int32} (hL : LAY nx ct mr) (k : Int32) : rx_Calls y_Mo_fail M_Mo_fail 0 0 0 [.ref 398, .int k] (nx, ct, mS m0 w g, ml, mr) (fun v τ => v = none ∧ τ = (nx, ct, mS m0 w (if g = -1 then k else g), ml, mr)) := by
  have z := sp_Mo_fail (mi := mS m0 w g) (ml := ml) hL k
  rw [mS_g, mS_sg] at z
  exact z
theorem sq_took {V : Int64} {s j : Nat} (hL : LAY nx ct mr) (h : PMs n m t m0) (hV : wOK s V) (hj : j < 4000) : rx_Calls y_Mo_took M_Mo_took 2 0 0 [.ref 398, .long V] (nx, ct, mS m0 (nI j) (-1), ml, mr) (fun v τ => v = some (.int (bI (isW n t j s))) ∧ τ = (nx, ct, mS m0 (nI (cnd (isW n t j s) (j + 1) j)) (-1), ml, mr)) := by
  refine rx_enter (by decide) rfl rfl (Nat.le_of_ble_eq_true rfl) ?_
  refine ru_aload_n d_Mo_took_0 rfl rfl ?_
  refine ru_callV (mc := 0) (ms := 0) d_Mo_took_1 lm_Mo_75 (sq_good hL) (rx_recv_is (ly hL 398 9 0) kx_Mo) (by decide) rfl (Nat.le_of_ble_eq_true rfl) ?_
  intro v τ h
  obtain ⟨rfl, rfl⟩ := h
  refine ru_if_eq (tgt := 20) d_Mo_took_4 (by decide) (fun h4 => absurd h4 (bI_ne0.mpr rfl)) (fun h4 => ?_)
  replace h4 := bI_ne0.mp h4
  refine ru_aload_n d_Mo_took_7 rfl rfl ?_
  refine ru_callV (mc := 0) (ms := 0) d_Mo_took_8 lm_Mo_79 (sp_Mo_spelt hL (h.mS _ _) mS_w hj) (rx_recv_is (ly hL 398 9 0) kx_Mo) (by decide) rfl (Nat.le_of_ble_eq_true rfl) ?_
  intro v τ h
  obtain ⟨rfl, rfl⟩ := h
  refine ru_lload_n d_Mo_took_11 rfl rfl ?_
  refine ru_lcmp d_Mo_took_12 ?_
  refine ru_if_ne (tgt := 20) d_Mo_took_13 (by decide) (fun h13 => ?_) (fun h13 => ?_)
  · skip
    replace h13 := fun q => h13 ((lg_cmp_eq _ _).mpr q)
    replace h13 : ¬ isW n t j s := fun q => h13 (hV.iff.mpr q)
    rw [bI_f h13, cnd_f h13]
    refine ru_iconst (v := 0) d_Mo_took_20 (by decide) ?_
    refine ru_istore_n d_Mo_took_21 rfl (by decide) ?_
    refine ru_iload_n d_Mo_took_22 rfl rfl ?_
    refine ru_if_eq (tgt := 36) d_Mo_took_23 (by decide) (fun h23 => ?_) (fun h23 => absurd h23 (by decide))
    refine ru_iload_n d_Mo_took_36 rfl rfl ?_
    refine ru_zret (ty := .boolean) d_Mo_took_37 rfl rfl ?_
    first | exact ⟨rfl, rfl⟩ | (rw [mS_sw]; exact ⟨rfl, rfl⟩)
  · skip
    replace h13 := (lg_cmp_eq _ _).mp h13
    replace h13 := hV.iff.mp h13
    rw [bI_t h13, cnd_t h13]
    refine ru_iconst (v := 1) d_Mo_took_16 (by decide) ?_
    refine ru_goto (tgt := 21) d_Mo_took_17 (by decide) ?_
    refine ru_istore_n d_Mo_took_21 rfl (by decide) ?_
    refine ru_iload_n d_Mo_took_22 rfl rfl ?_
    refine ru_if_eq (tgt := 36) d_Mo_took_23 (by decide) (fun h23 => absurd h23 (by decide)) (fun h23 => ?_)
    refine ru_aload_n d_Mo_took_26 rfl rfl ?_
    refine ru_dup d_Mo_took_27 rfl ?_
    refine ru_getI d_Mo_took_28 lf_Mo_59 (ly hL 398 9 0) rfl ?_
    refine ru_eqi mS_w ?_
    refine ru_iconst (v := 1) d_Mo_took_31 (by decide) ?_
    refine ru_iadd d_Mo_took_32 ?_
    refine ru_eqi (nm_add j 1 : _ = nI (j + 1)) ?_
    refine ru_putI d_Mo_took_33 lf_Mo_59 (ly hL 398 9 0) rfl (fun q hq => by cases hq; exact Or.inl rfl) ⟨rfl, rfl⟩ ?_
    refine ru_iload_n d_Mo_took_36 rfl rfl ?_
    refine ru_zret (ty := .boolean) d_Mo_took_37 rfl rfl ?_
    first | exact ⟨rfl, rfl⟩ | (rw [mS_sw]; exact ⟨rfl, rfl⟩)
theorem sq_took0 {V : Int64} {w g : Int32} (hL : LAY nx ct mr) (hg : ¬ g = -1) : rx_Calls y_Mo_took M_Mo_took 2 0 0 [.ref 398, .long V] (nx, ct, mS m0 w g, ml, mr) (fun v τ => v = some (.int 0) ∧ τ = (nx, ct, mS m0 w g, ml, mr)) := by
  refine rx_enter (by decide) rfl rfl (Nat.le_of_ble_eq_true rfl) ?_
  refine ru_aload_n d_Mo_took_0 rfl rfl ?_
  refine ru_callV (mc := 0) (ms := 0) d_Mo_took_1 lm_Mo_75 (sq_good hL) (rx_recv_is (ly hL 398 9 0) kx_Mo) (by decide) rfl (Nat.le_of_ble_eq_true rfl) ?_
  intro v τ h
  obtain ⟨rfl, rfl⟩ := h
  refine ru_if_eq (tgt := 20) d_Mo_took_4 (by decide) (fun h4 => ?_) (fun h4 => absurd (bI_f hg) h4)
  replace h4 := bI_eq0.mp h4
  refine ru_iconst (v := 0) d_Mo_took_20 (by decide) ?_
  refine ru_istore_n d_Mo_took_21 rfl (by decide) ?_
  refine ru_iload_n d_Mo_took_22 rfl rfl ?_
  refine ru_if_eq (tgt := 36) d_Mo_took_23 (by decide) (fun h23 => ?_) (fun h23 => absurd h23 (by decide))
  refine ru_iload_n d_Mo_took_36 rfl rfl ?_
  refine ru_zret (ty := .boolean) d_Mo_took_37 rfl rfl ?_
  exact ⟨rfl, rfl⟩
theorem sq_expect {V : Int64} {s j : Nat} (hL : LAY nx ct mr) (h : PMs n m t m0) (hV : wOK s V) (hj : j < 4000) : rx_Calls y_Mo_expect M_Mo_expect 3 0 0 [.ref 398, .long V] (nx, ct, mS m0 (nI j) (-1), ml, mr) (fun v τ => v = none ∧ τ = (nx, ct, cnd (isW n t j s) (mS m0 (nI (j + 1)) (-1)) (mS m0 (nI j) (nI j)), ml, mr)) := by
  refine rx_enter (by decide) rfl rfl (Nat.le_of_ble_eq_true rfl) ?_
  refine ru_aload_n d_Mo_expect_0 rfl rfl ?_
  refine ru_callV (mc := 0) (ms := 0) d_Mo_expect_1 lm_Mo_75 (sq_good hL) (rx_recv_is (ly hL 398 9 0) kx_Mo) (by decide) rfl (Nat.le_of_ble_eq_true rfl) ?_
  intro v τ h
  obtain ⟨rfl, rfl⟩ := h
  refine ru_if_eq (tgt := 23) d_Mo_expect_4 (by decide) (fun h4 => absurd h4 (bI_ne0.mpr rfl)) (fun h4 => ?_)
  replace h4 := bI_ne0.mp h4
  refine ru_aload_n d_Mo_expect_7 rfl rfl ?_
  refine ru_lload_n d_Mo_expect_8 rfl rfl ?_
  refine ru_callV (mc := 0) (ms := 0) d_Mo_expect_9 lm_Mo_83 (sq_took hL h hV hj) (rx_recv_is (ly hL 398 9 0) kx_Mo) (by decide) rfl (Nat.le_of_ble_eq_true rfl) ?_
  intro v τ h
  obtain ⟨rfl, rfl⟩ := h
  refine ru_if_ne (tgt := 23) d_Mo_expect_12 (by decide) (fun h12 => ?_) (fun h12 => ?_)
  · skip
    replace h12 := bI_ne0.mp h12
    refine ru_vret d_Mo_expect_23 rfl ?_
    first | (rw [cnd_t h12, cnd_t h12]; exact ⟨rfl, rfl⟩) | (rw [cnd_f h12]; exact ⟨rfl, rfl⟩)
  · skip
    replace h12 := bI_eq0.mp h12
    rw [cnd_f h12]
    refine ru_aload_n d_Mo_expect_15 rfl rfl ?_
    refine ru_aload_n d_Mo_expect_16 rfl rfl ?_
    refine ru_getI d_Mo_expect_17 lf_Mo_59 (ly hL 398 9 0) rfl ?_
    refine ru_eqi mS_w ?_
    refine ru_callV (mc := 0) (ms := 0) d_Mo_expect_20 lm_Mo_87 (sq_fail hL _) (rx_recv_is (ly hL 398 9 0) kx_Mo) (by decide) rfl (Nat.le_of_ble_eq_true rfl) ?_
    intro v τ h
    obtain ⟨rfl, rfl⟩ := h
    refine ru_vret d_Mo_expect_23 rfl ?_
    first | (rw [cnd_t h12, cnd_t h12]; exact ⟨rfl, rfl⟩) | (rw [cnd_f h12]; exact ⟨rfl, rfl⟩)
theorem sq_expect0 {V : Int64} {w g : Int32} (hL : LAY nx ct mr) (hg : ¬ g = -1) : rx_Calls y_Mo_expect M_Mo_expect 3 0 0 [.ref 398, .long V] (nx, ct, mS m0 w g, ml, mr) (fun v τ => v = none ∧ τ = (nx, ct, mS m0 w g, ml, mr)) := by
  refine rx_enter (by decide) rfl rfl (Nat.le_of_ble_eq_true rfl) ?_
  refine ru_aload_n d_Mo_expect_0 rfl rfl ?_
  refine ru_callV (mc := 0) (ms := 0) d_Mo_expect_1 lm_Mo_75 (sq_good hL) (rx_recv_is (ly hL 398 9 0) kx_Mo) (by decide) rfl (Nat.le_of_ble_eq_true rfl) ?_
  intro v τ h
  obtain ⟨rfl, rfl⟩ := h
  refine ru_if_eq (tgt := 23) d_Mo_expect_4 (by decide) (fun h4 => ?_) (fun h4 => absurd (bI_f hg) h4)
  replace h4 := bI_eq0.mp h4
  refine ru_vret d_Mo_expect_23 rfl ?_
  exact ⟨rfl, rfl⟩
end
