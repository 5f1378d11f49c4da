/-! The reference reads values: the numbers -/
theorem bare_iff {A : Nat × Nat} (h : A.2 < 1000000) : (¬ (A.1 * 1000000 + A.2) % 1000000 = 0 ∨ 1000000000000 < A.1 * 1000000 + A.2) ↔ cvt A 1 1000000 = none := by
  unfold cvt
  split
  · next q => exact ⟨fun z => by omega, fun z => by cases z⟩
  · next q => exact ⟨fun _ => rfl, fun _ => by omega⟩
section
variable {nx : Nat} {ct : Nat → Nat × Nat} {m0 : Nat → Nat → Int32} {ml : Nat → Nat → Int64} {mr : Nat → Nat → Option Nat} {n m : Nat} {t : Nat → Int32}
theorem sq_bareC {w k : Int32} {A κ : Nat} {D : Nat × Nat} (hL : LAY nx ct mr) (hA : m0 398 14 = nI A) (hA2 : A + 12 ≤ 1440) (hk : ml 404 A = Int64.ofNat κ) (hk2 : κ < 13) (hD : D.1 < 1000000000 ∧ D.2 < 1000000) : rx_Calls y_Mo_bare M_Mo_bare 1 0 0 [.ref 398, .long (Int64.ofNat (D.1 * 1000000 + D.2)), .int k] (nx, ct, mS m0 w (-1), ml, mr) (fun v τ => v = none ∧ τ = (nx, ct, mS m0 w (cnd ((κ = 5 ∨ κ = 9) ∧ cvt D 1 1000000 = none) k (-1)), ml, mr)) := by
  have z := sq_bare (w := w) (k := k) (x := D.1 * 1000000 + D.2) hL hA hA2 hk hk2 (by omega)
  rw [bare_iff hD.2] at z
  exact z
theorem wv_15 : wOK 15 655 := by unfold wOK; decide
theorem wv_13 : wOK 13 (wordV 12 5 1 19 20 0 0) := by unfold wOK; decide
theorem wv_14 : wOK 14 (wordV 13 15 19 20 0 0 0) := by unfold wOK; decide
theorem va_mid {l mo : Prop} {A κ j1 J : Nat} (hL : LAY nx ct mr) (h : PMs n m t m0) (hA : m0 398 14 = nI A) (hA2 : A + 12 ≤ 1440) (hκ : κ < 13) (hk : ml 404 A = Int64.ofNat κ) (hj1 : j1 < 3800) (hJ : j1 + 4 ≤ J) : rx_W M_Mo_value_ 4 0 0 49 [(0, .ref 398), (1, .int (bI l)), (2, .int (bI mo))] [] (nx, ct, mS m0 (nI j1) (-1), ml, mr) (pR (vbP l mo (pVal n t (κ = 5 ∨ κ = 9) (l ∨ mo) j1) J A nx ct m0 ml mr)) := by
  have hN1 := sq_number (ml := ml) (j := j1) hL h (by omega)
  unfold nuP at hN1
  have hf0 := fL.refl (v89 A) ml
  cases e1 : amt n t j1 with
  | none =>
    rw [e1] at hN1
    have ep : pVal n t (κ = 5 ∨ κ = 9) (l ∨ mo) j1 = .inl j1 := by unfold pVal pNum; rw [e1]
    rw [ep]
    refine ru_aload_n d_Mo_value__49 rfl rfl ?_
    refine ru_getI d_Mo_value__50 lf_Mo_59 (ly hL 398 9 0) rfl ?_
    refine ru_eqi mS_w ?_
    refine ru_istore_n d_Mo_value__53 rfl (by decide) ?_
    refine ru_aload_n d_Mo_value__54 rfl rfl ?_
    refine ru_callV (mc := 0) (ms := 0) d_Mo_value__55 lm_Mo_142 hN1 (rx_recv_is (ly hL 398 9 0) kx_Mo) (by decide) rfl (Nat.le_of_ble_eq_true rfl) ?_
    rintro v τ ⟨rfl, rfl⟩
    refine ru_aload_n d_Mo_value__58 rfl rfl ?_
    refine ru_getL d_Mo_value__59 lf_Mo_118 (ly hL 398 9 0) rfl ?_
    refine ru_lstore d_Mo_value__62 (by decide) ?_
    refine ru_aload_n d_Mo_value__64 rfl rfl ?_
    refine ru_lload d_Mo_value__65 rfl ?_
    refine ru_iload_n d_Mo_value__67 rfl rfl ?_
    refine ru_callV (mc := 0) (ms := 0) d_Mo_value__68 lm_Mo_145 (sq_bare0 hL hA hA2 hk hκ (nI_m1 (by omega))) (rx_recv_is (ly hL 398 9 0) kx_Mo) (by decide) rfl (Nat.le_of_ble_eq_true rfl) ?_
    intro v τ h
    obtain ⟨rfl, rfl⟩ := h
    refine ru_lload d_Mo_value__71 rfl ?_
    refine ru_lstore d_Mo_value__73 (by decide) ?_
    refine ru_iconst (v := (-1)) d_Mo_value__75 (by decide) ?_
    refine ru_istore d_Mo_value__76 (by decide) ?_
    refine ru_iload_n d_Mo_value__78 rfl rfl ?_
    refine ru_if_ne (tgt := 120) d_Mo_value__79 (by decide) (fun h79 => ?_) (fun h79 => ?_)
    · skip
      replace h79 := bI_ne0.mp h79
      refine ru_aload_n d_Mo_value__120 rfl rfl ?_
      refine ru_callV (mc := 0) (ms := 0) d_Mo_value__121 lm_Mo_75 (sq_good hL) (rx_recv_is (ly hL 398 9 0) kx_Mo) (by decide) rfl (Nat.le_of_ble_eq_true rfl) ?_
      intro v τ h
      obtain ⟨rfl, rfl⟩ := h
      refine ru_if_ne (tgt := 128) d_Mo_value__124 (by decide) (fun h124 => absurd (bI_f (nI_m1 (by omega))) h124) (fun h124 => ?_)
      refine ru_vret d_Mo_value__127 rfl ?_
      exact ⟨rfl, ml, j1, rfl, by omega, hf0⟩
    · skip
      replace h79 := bI_eq0.mp h79
      refine ru_iload_n d_Mo_value__82 rfl rfl ?_
      refine ru_if_ne (tgt := 120) d_Mo_value__83 (by decide) (fun h83 => ?_) (fun h83 => ?_)
      · skip
        replace h83 := bI_ne0.mp h83
        refine ru_aload_n d_Mo_value__120 rfl rfl ?_
        refine ru_callV (mc := 0) (ms := 0) d_Mo_value__121 lm_Mo_75 (sq_good hL) (rx_recv_is (ly hL 398 9 0) kx_Mo) (by decide) rfl (Nat.le_of_ble_eq_true rfl) ?_
        intro v τ h
        obtain ⟨rfl, rfl⟩ := h
        refine ru_if_ne (tgt := 128) d_Mo_value__124 (by decide) (fun h124 => absurd (bI_f (nI_m1 (by omega))) h124) (fun h124 => ?_)
        refine ru_vret d_Mo_value__127 rfl ?_
        exact ⟨rfl, ml, j1, rfl, by omega, hf0⟩
      · skip
        replace h83 := bI_eq0.mp h83
        refine ru_aload_n d_Mo_value__86 rfl rfl ?_
        refine ru_ldc2 d_Mo_value__87 lc_Mo_149 ?_
        refine ru_callV (mc := 0) (ms := 0) d_Mo_value__90 lm_Mo_83 (sq_took0 hL (nI_m1 (by omega))) (rx_recv_is (ly hL 398 9 0) kx_Mo) (by decide) rfl (Nat.le_of_ble_eq_true rfl) ?_
        rintro v τ ⟨rfl, rfl⟩
        refine ru_if_eq (tgt := 120) d_Mo_value__93 (by decide) (fun h93 => ?_) (fun h93 => absurd h93 (by decide))
        refine ru_aload_n d_Mo_value__120 rfl rfl ?_
        refine ru_callV (mc := 0) (ms := 0) d_Mo_value__121 lm_Mo_75 (sq_good hL) (rx_recv_is (ly hL 398 9 0) kx_Mo) (by decide) rfl (Nat.le_of_ble_eq_true rfl) ?_
        intro v τ h
        obtain ⟨rfl, rfl⟩ := h
        refine ru_if_ne (tgt := 128) d_Mo_value__124 (by decide) (fun h124 => absurd (bI_f (nI_m1 (by omega))) h124) (fun h124 => ?_)
        refine ru_vret d_Mo_value__127 rfl ?_
        exact ⟨rfl, ml, j1, rfl, by omega, hf0⟩
  | some D =>
    rw [e1] at hN1
    dsimp only at hN1
    have hD := amt_lt e1
    have hf1 := hf0.m17 17 (Int64.ofNat (D.1 * 1000000 + D.2))
    have hk1 : rx_u ml 398 17 (Int64.ofNat (D.1 * 1000000 + D.2)) 404 A = Int64.ofNat κ := by rw [rx_u_r _ _ (by decide)]; exact hk
    have e17 : rx_u ml 398 17 (Int64.ofNat (D.1 * 1000000 + D.2)) 398 17 = Int64.ofNat (D.1 * 1000000 + D.2) := rx_u_same _ _ _ _
    generalize hml1 : rx_u ml 398 17 (Int64.ofNat (D.1 * 1000000 + D.2)) = ml1 at hN1 hf1 hk1 e17
    have hB1 := sq_bareC (w := nI (j1 + 1)) (k := nI j1) hL hA hA2 hk1 hκ hD
    by_cases hb1 : (κ = 5 ∨ κ = 9) ∧ cvt D 1 1000000 = none
    · rw [cnd_t hb1] at hB1
      have ep : pVal n t (κ = 5 ∨ κ = 9) (l ∨ mo) j1 = .inl j1 := by unfold pVal pNum; rw [e1]; dsimp only; rw [cnd_t hb1]
      rw [ep]
      refine ru_aload_n d_Mo_value__49 rfl rfl ?_
      refine ru_getI d_Mo_value__50 lf_Mo_59 (ly hL 398 9 0) rfl ?_
      refine ru_eqi mS_w ?_
      refine ru_istore_n d_Mo_value__53 rfl (by decide) ?_
      refine ru_aload_n d_Mo_value__54 rfl rfl ?_
      refine ru_callV (mc := 0) (ms := 0) d_Mo_value__55 lm_Mo_142 hN1 (rx_recv_is (ly hL 398 9 0) kx_Mo) (by decide) rfl (Nat.le_of_ble_eq_true rfl) ?_
      rintro v τ ⟨rfl, rfl⟩
      refine ru_aload_n d_Mo_value__58 rfl rfl ?_
      refine ru_getL d_Mo_value__59 lf_Mo_118 (ly hL 398 9 0) rfl ?_
      refine ru_eql e17 ?_
      refine ru_lstore d_Mo_value__62 (by decide) ?_
      refine ru_aload_n d_Mo_value__64 rfl rfl ?_
      refine ru_lload d_Mo_value__65 rfl ?_
      refine ru_iload_n d_Mo_value__67 rfl rfl ?_
      refine ru_callV (mc := 0) (ms := 0) d_Mo_value__68 lm_Mo_145 hB1 (rx_recv_is (ly hL 398 9 0) kx_Mo) (by decide) rfl (Nat.le_of_ble_eq_true rfl) ?_
      intro v τ h
      obtain ⟨rfl, rfl⟩ := h
      refine ru_lload d_Mo_value__71 rfl ?_
      refine ru_lstore d_Mo_value__73 (by decide) ?_
      refine ru_iconst (v := (-1)) d_Mo_value__75 (by decide) ?_
      refine ru_istore d_Mo_value__76 (by decide) ?_
      refine ru_iload_n d_Mo_value__78 rfl rfl ?_
      refine ru_if_ne (tgt := 120) d_Mo_value__79 (by decide) (fun h79 => ?_) (fun h79 => ?_)
      · skip
        replace h79 := bI_ne0.mp h79
        refine ru_aload_n d_Mo_value__120 rfl rfl ?_
        refine ru_callV (mc := 0) (ms := 0) d_Mo_value__121 lm_Mo_75 (sq_good hL) (rx_recv_is (ly hL 398 9 0) kx_Mo) (by decide) rfl (Nat.le_of_ble_eq_true rfl) ?_
        intro v τ h
        obtain ⟨rfl, rfl⟩ := h
        refine ru_if_ne (tgt := 128) d_Mo_value__124 (by decide) (fun h124 => absurd (bI_f (nI_m1 (by omega))) h124) (fun h124 => ?_)
        refine ru_vret d_Mo_value__127 rfl ?_
        exact ⟨rfl, ml1, (j1 + 1), rfl, by omega, hf1⟩
      · skip
        replace h79 := bI_eq0.mp h79
        refine ru_iload_n d_Mo_value__82 rfl rfl ?_
        refine ru_if_ne (tgt := 120) d_Mo_value__83 (by decide) (fun h83 => ?_) (fun h83 => ?_)
        · skip
          replace h83 := bI_ne0.mp h83
          refine ru_aload_n d_Mo_value__120 rfl rfl ?_
          refine ru_callV (mc := 0) (ms := 0) d_Mo_value__121 lm_Mo_75 (sq_good hL) (rx_recv_is (ly hL 398 9 0) kx_Mo) (by decide) rfl (Nat.le_of_ble_eq_true rfl) ?_
          intro v τ h
          obtain ⟨rfl, rfl⟩ := h
          refine ru_if_ne (tgt := 128) d_Mo_value__124 (by decide) (fun h124 => absurd (bI_f (nI_m1 (by omega))) h124) (fun h124 => ?_)
          refine ru_vret d_Mo_value__127 rfl ?_
          exact ⟨rfl, ml1, (j1 + 1), rfl, by omega, hf1⟩
        · skip
          replace h83 := bI_eq0.mp h83
          refine ru_aload_n d_Mo_value__86 rfl rfl ?_
          refine ru_ldc2 d_Mo_value__87 lc_Mo_149 ?_
          refine ru_callV (mc := 0) (ms := 0) d_Mo_value__90 lm_Mo_83 (sq_took0 hL (nI_m1 (by omega))) (rx_recv_is (ly hL 398 9 0) kx_Mo) (by decide) rfl (Nat.le_of_ble_eq_true rfl) ?_
          rintro v τ ⟨rfl, rfl⟩
          refine ru_if_eq (tgt := 120) d_Mo_value__93 (by decide) (fun h93 => ?_) (fun h93 => absurd h93 (by decide))
          refine ru_aload_n d_Mo_value__120 rfl rfl ?_
          refine ru_callV (mc := 0) (ms := 0) d_Mo_value__121 lm_Mo_75 (sq_good hL) (rx_recv_is (ly hL 398 9 0) kx_Mo) (by decide) rfl (Nat.le_of_ble_eq_true rfl) ?_
          intro v τ h
          obtain ⟨rfl, rfl⟩ := h
          refine ru_if_ne (tgt := 128) d_Mo_value__124 (by decide) (fun h124 => absurd (bI_f (nI_m1 (by omega))) h124) (fun h124 => ?_)
          refine ru_vret d_Mo_value__127 rfl ?_
          exact ⟨rfl, ml1, (j1 + 1), rfl, by omega, hf1⟩
    · rw [cnd_f hb1] at hB1
      have en1 : pNum n t (κ = 5 ∨ κ = 9) j1 = some D := by unfold pNum; rw [e1]; dsimp only; rw [cnd_f hb1]
      have hD' := pNum_lt en1
      have E1 := va_end1 (l := l) (mo := mo) (j1 := j1) (j3 := j1 + 1) (J := J) hL h hA hA2 hκ hk (by omega) (by omega) (by omega) hD' hf1
      by_cases hlm : l ∨ mo
      · have ep : pVal n t (κ = 5 ∨ κ = 9) (l ∨ mo) j1 = pEnds n t (κ = 5 ∨ κ = 9) j1 D none (j1 + 1) := by unfold pVal; rw [en1]; dsimp only; rw [cnd_f (fun z => z.1 hlm)]
        rw [ep]
        refine ru_aload_n d_Mo_value__49 rfl rfl ?_
        refine ru_getI d_Mo_value__50 lf_Mo_59 (ly hL 398 9 0) rfl ?_
        refine ru_eqi mS_w ?_
        refine ru_istore_n d_Mo_value__53 rfl (by decide) ?_
        refine ru_aload_n d_Mo_value__54 rfl rfl ?_
        refine ru_callV (mc := 0) (ms := 0) d_Mo_value__55 lm_Mo_142 hN1 (rx_recv_is (ly hL 398 9 0) kx_Mo) (by decide) rfl (Nat.le_of_ble_eq_true rfl) ?_
        rintro v τ ⟨rfl, rfl⟩
        refine ru_aload_n d_Mo_value__58 rfl rfl ?_
        refine ru_getL d_Mo_value__59 lf_Mo_118 (ly hL 398 9 0) rfl ?_
        refine ru_eql e17 ?_
        refine ru_lstore d_Mo_value__62 (by decide) ?_
        refine ru_aload_n d_Mo_value__64 rfl rfl ?_
        refine ru_lload d_Mo_value__65 rfl ?_
        refine ru_iload_n d_Mo_value__67 rfl rfl ?_
        refine ru_callV (mc := 0) (ms := 0) d_Mo_value__68 lm_Mo_145 hB1 (rx_recv_is (ly hL 398 9 0) kx_Mo) (by decide) rfl (Nat.le_of_ble_eq_true rfl) ?_
        intro v τ h
        obtain ⟨rfl, rfl⟩ := h
        refine ru_lload d_Mo_value__71 rfl ?_
        refine ru_lstore d_Mo_value__73 (by decide) ?_
        refine ru_iconst (v := (-1)) d_Mo_value__75 (by decide) ?_
        refine ru_istore d_Mo_value__76 (by decide) ?_
        refine ru_iload_n d_Mo_value__78 rfl rfl ?_
        refine ru_if_ne (tgt := 120) d_Mo_value__79 (by decide) (fun h79 => ?_) (fun h79 => ?_)
        · skip
          replace h79 := bI_ne0.mp h79
          exact ru_to E1 ⟨rfl, rfl, rfl, rfl, rfl, rfl, rfl, trivial⟩
        · skip
          replace h79 := bI_eq0.mp h79
          refine ru_iload_n d_Mo_value__82 rfl rfl ?_
          refine ru_if_ne (tgt := 120) d_Mo_value__83 (by decide) (fun h83 => ?_) (fun h83 => ?_)
          · skip
            replace h83 := bI_ne0.mp h83
            exact ru_to E1 ⟨rfl, rfl, rfl, rfl, rfl, rfl, rfl, trivial⟩
          · skip
            replace h83 := bI_eq0.mp h83
            exact absurd hlm (fun z => z.elim h79 h83)
      · have hl : ¬ l := fun z => hlm (Or.inl z)
        have hmo : ¬ mo := fun z => hlm (Or.inr z)
        have hT := sq_took (ml := ml1) (j := j1 + 1) hL h wv_15 (by omega)
        by_cases hto : isW n t (j1 + 1) 15
        · rw [bI_t hto, cnd_t hto] at hT
          have hN2 := sq_number (ml := ml1) (j := j1 + 2) hL h (by omega)
          unfold nuP at hN2
          cases e2 : amt n t (j1 + 2) with
          | none =>
            rw [e2] at hN2
            have ep : pVal n t (κ = 5 ∨ κ = 9) (l ∨ mo) j1 = .inl (j1 + 2) := by
              unfold pVal
              rw [en1]
              dsimp only
              rw [cnd_t ⟨hlm, hto⟩]
              unfold pNum
              rw [e2]
            rw [ep]
            refine ru_aload_n d_Mo_value__49 rfl rfl ?_
            refine ru_getI d_Mo_value__50 lf_Mo_59 (ly hL 398 9 0) rfl ?_
            refine ru_eqi mS_w ?_
            refine ru_istore_n d_Mo_value__53 rfl (by decide) ?_
            refine ru_aload_n d_Mo_value__54 rfl rfl ?_
            refine ru_callV (mc := 0) (ms := 0) d_Mo_value__55 lm_Mo_142 hN1 (rx_recv_is (ly hL 398 9 0) kx_Mo) (by decide) rfl (Nat.le_of_ble_eq_true rfl) ?_
            rintro v τ ⟨rfl, rfl⟩
            refine ru_aload_n d_Mo_value__58 rfl rfl ?_
            refine ru_getL d_Mo_value__59 lf_Mo_118 (ly hL 398 9 0) rfl ?_
            refine ru_eql e17 ?_
            refine ru_lstore d_Mo_value__62 (by decide) ?_
            refine ru_aload_n d_Mo_value__64 rfl rfl ?_
            refine ru_lload d_Mo_value__65 rfl ?_
            refine ru_iload_n d_Mo_value__67 rfl rfl ?_
            refine ru_callV (mc := 0) (ms := 0) d_Mo_value__68 lm_Mo_145 hB1 (rx_recv_is (ly hL 398 9 0) kx_Mo) (by decide) rfl (Nat.le_of_ble_eq_true rfl) ?_
            intro v τ h
            obtain ⟨rfl, rfl⟩ := h
            refine ru_lload d_Mo_value__71 rfl ?_
            refine ru_lstore d_Mo_value__73 (by decide) ?_
            refine ru_iconst (v := (-1)) d_Mo_value__75 (by decide) ?_
            refine ru_istore d_Mo_value__76 (by decide) ?_
            refine ru_iload_n d_Mo_value__78 rfl rfl ?_
            refine ru_if_ne (tgt := 120) d_Mo_value__79 (by decide) (fun h79 => absurd (bI_f hl) h79) (fun h79 => ?_)
            refine ru_iload_n d_Mo_value__82 rfl rfl ?_
            refine ru_if_ne (tgt := 120) d_Mo_value__83 (by decide) (fun h83 => absurd (bI_f hmo) h83) (fun h83 => ?_)
            refine ru_aload_n d_Mo_value__86 rfl rfl ?_
            refine ru_ldc2 d_Mo_value__87 lc_Mo_149 ?_
            refine ru_callV (mc := 0) (ms := 0) d_Mo_value__90 lm_Mo_83 hT (rx_recv_is (ly hL 398 9 0) kx_Mo) (by decide) rfl (Nat.le_of_ble_eq_true rfl) ?_
            rintro v τ ⟨rfl, rfl⟩
            refine ru_if_eq (tgt := 120) d_Mo_value__93 (by decide) (fun h93 => absurd h93 (by decide)) (fun h93 => ?_)
            refine ru_aload_n d_Mo_value__96 rfl rfl ?_
            refine ru_getI d_Mo_value__97 lf_Mo_59 (ly hL 398 9 0) rfl ?_
            refine ru_eqi mS_w ?_
            refine ru_istore d_Mo_value__100 (by decide) ?_
            refine ru_aload_n d_Mo_value__102 rfl rfl ?_
            refine ru_callV (mc := 0) (ms := 0) d_Mo_value__103 lm_Mo_142 hN2 (rx_recv_is (ly hL 398 9 0) kx_Mo) (by decide) rfl (Nat.le_of_ble_eq_true rfl) ?_
            rintro v τ ⟨rfl, rfl⟩
            refine ru_aload_n d_Mo_value__106 rfl rfl ?_
            refine ru_getL d_Mo_value__107 lf_Mo_118 (ly hL 398 9 0) rfl ?_
            refine ru_lstore d_Mo_value__110 (by decide) ?_
            refine ru_aload_n d_Mo_value__112 rfl rfl ?_
            refine ru_lload d_Mo_value__113 rfl ?_
            refine ru_iload d_Mo_value__115 rfl ?_
            refine ru_callV (mc := 0) (ms := 0) d_Mo_value__117 lm_Mo_145 (sq_bare0 hL hA hA2 hk1 hκ (nI_m1 (by omega))) (rx_recv_is (ly hL 398 9 0) kx_Mo) (by decide) rfl (Nat.le_of_ble_eq_true rfl) ?_
            intro v τ h
            obtain ⟨rfl, rfl⟩ := h
            refine ru_aload_n d_Mo_value__120 rfl rfl ?_
            refine ru_callV (mc := 0) (ms := 0) d_Mo_value__121 lm_Mo_75 (sq_good hL) (rx_recv_is (ly hL 398 9 0) kx_Mo) (by decide) rfl (Nat.le_of_ble_eq_true rfl) ?_
            intro v τ h
            obtain ⟨rfl, rfl⟩ := h
            refine ru_if_ne (tgt := 128) d_Mo_value__124 (by decide) (fun h124 => absurd (bI_f (nI_m1 (by omega))) h124) (fun h124 => ?_)
            refine ru_vret d_Mo_value__127 rfl ?_
            exact ⟨rfl, ml1, (j1 + 2), rfl, by omega, hf1⟩
          | some B =>
            rw [e2] at hN2
            dsimp only at hN2
            have hBl := amt_lt e2
            have hf2 := hf1.m17 17 (Int64.ofNat (B.1 * 1000000 + B.2))
            have hk2 : rx_u ml1 398 17 (Int64.ofNat (B.1 * 1000000 + B.2)) 404 A = Int64.ofNat κ := by rw [rx_u_r _ _ (by decide)]; exact hk1
            have e18 : rx_u ml1 398 17 (Int64.ofNat (B.1 * 1000000 + B.2)) 398 17 = Int64.ofNat (B.1 * 1000000 + B.2) := rx_u_same _ _ _ _
            generalize hml2 : rx_u ml1 398 17 (Int64.ofNat (B.1 * 1000000 + B.2)) = ml2 at hN2 hf2 hk2 e18
            have hB2 := sq_bareC (w := nI (j1 + 3)) (k := nI (j1 + 2)) hL hA hA2 hk2 hκ hBl
            by_cases hb2 : (κ = 5 ∨ κ = 9) ∧ cvt B 1 1000000 = none
            · rw [cnd_t hb2] at hB2
              have ep : pVal n t (κ = 5 ∨ κ = 9) (l ∨ mo) j1 = .inl (j1 + 2) := by
                unfold pVal
                rw [en1]
                dsimp only
                rw [cnd_t ⟨hlm, hto⟩]
                unfold pNum
                rw [e2]
                dsimp only
                rw [cnd_t hb2]
              rw [ep]
              refine ru_aload_n d_Mo_value__49 rfl rfl ?_
              refine ru_getI d_Mo_value__50 lf_Mo_59 (ly hL 398 9 0) rfl ?_
              refine ru_eqi mS_w ?_
              refine ru_istore_n d_Mo_value__53 rfl (by decide) ?_
              refine ru_aload_n d_Mo_value__54 rfl rfl ?_
              refine ru_callV (mc := 0) (ms := 0) d_Mo_value__55 lm_Mo_142 hN1 (rx_recv_is (ly hL 398 9 0) kx_Mo) (by decide) rfl (Nat.le_of_ble_eq_true rfl) ?_
              rintro v τ ⟨rfl, rfl⟩
              refine ru_aload_n d_Mo_value__58 rfl rfl ?_
              refine ru_getL d_Mo_value__59 lf_Mo_118 (ly hL 398 9 0) rfl ?_
              refine ru_eql e17 ?_
              refine ru_lstore d_Mo_value__62 (by decide) ?_
              refine ru_aload_n d_Mo_value__64 rfl rfl ?_
              refine ru_lload d_Mo_value__65 rfl ?_
              refine ru_iload_n d_Mo_value__67 rfl rfl ?_
              refine ru_callV (mc := 0) (ms := 0) d_Mo_value__68 lm_Mo_145 hB1 (rx_recv_is (ly hL 398 9 0) kx_Mo) (by decide) rfl (Nat.le_of_ble_eq_true rfl) ?_
              intro v τ h
              obtain ⟨rfl, rfl⟩ := h
              refine ru_lload d_Mo_value__71 rfl ?_
              refine ru_lstore d_Mo_value__73 (by decide) ?_
              refine ru_iconst (v := (-1)) d_Mo_value__75 (by decide) ?_
              refine ru_istore d_Mo_value__76 (by decide) ?_
              refine ru_iload_n d_Mo_value__78 rfl rfl ?_
              refine ru_if_ne (tgt := 120) d_Mo_value__79 (by decide) (fun h79 => absurd (bI_f hl) h79) (fun h79 => ?_)
              refine ru_iload_n d_Mo_value__82 rfl rfl ?_
              refine ru_if_ne (tgt := 120) d_Mo_value__83 (by decide) (fun h83 => absurd (bI_f hmo) h83) (fun h83 => ?_)
              refine ru_aload_n d_Mo_value__86 rfl rfl ?_
              refine ru_ldc2 d_Mo_value__87 lc_Mo_149 ?_
              refine ru_callV (mc := 0) (ms := 0) d_Mo_value__90 lm_Mo_83 hT (rx_recv_is (ly hL 398 9 0) kx_Mo) (by decide) rfl (Nat.le_of_ble_eq_true rfl) ?_
              rintro v τ ⟨rfl, rfl⟩
              refine ru_if_eq (tgt := 120) d_Mo_value__93 (by decide) (fun h93 => absurd h93 (by decide)) (fun h93 => ?_)
              refine ru_aload_n d_Mo_value__96 rfl rfl ?_
              refine ru_getI d_Mo_value__97 lf_Mo_59 (ly hL 398 9 0) rfl ?_
              refine ru_eqi mS_w ?_
              refine ru_istore d_Mo_value__100 (by decide) ?_
              refine ru_aload_n d_Mo_value__102 rfl rfl ?_
              refine ru_callV (mc := 0) (ms := 0) d_Mo_value__103 lm_Mo_142 hN2 (rx_recv_is (ly hL 398 9 0) kx_Mo) (by decide) rfl (Nat.le_of_ble_eq_true rfl) ?_
              rintro v τ ⟨rfl, rfl⟩
              refine ru_aload_n d_Mo_value__106 rfl rfl ?_
              refine ru_getL d_Mo_value__107 lf_Mo_118 (ly hL 398 9 0) rfl ?_
              refine ru_eql e18 ?_
              refine ru_lstore d_Mo_value__110 (by decide) ?_
              refine ru_aload_n d_Mo_value__112 rfl rfl ?_
              refine ru_lload d_Mo_value__113 rfl ?_
              refine ru_iload d_Mo_value__115 rfl ?_
              refine ru_callV (mc := 0) (ms := 0) d_Mo_value__117 lm_Mo_145 hB2 (rx_recv_is (ly hL 398 9 0) kx_Mo) (by decide) rfl (Nat.le_of_ble_eq_true rfl) ?_
              intro v τ h
              obtain ⟨rfl, rfl⟩ := h
              refine ru_aload_n d_Mo_value__120 rfl rfl ?_
              refine ru_callV (mc := 0) (ms := 0) d_Mo_value__121 lm_Mo_75 (sq_good hL) (rx_recv_is (ly hL 398 9 0) kx_Mo) (by decide) rfl (Nat.le_of_ble_eq_true rfl) ?_
              intro v τ h
              obtain ⟨rfl, rfl⟩ := h
              refine ru_if_ne (tgt := 128) d_Mo_value__124 (by decide) (fun h124 => absurd (bI_f (nI_m1 (by omega))) h124) (fun h124 => ?_)
              refine ru_vret d_Mo_value__127 rfl ?_
              exact ⟨rfl, ml2, (j1 + 3), rfl, by omega, hf2⟩
            · rw [cnd_f hb2] at hB2
              have en2 : pNum n t (κ = 5 ∨ κ = 9) (j1 + 2) = some B := by unfold pNum; rw [e2]; dsimp only; rw [cnd_f hb2]
              have E2 := va_end2 (l := l) (mo := mo) (j1 := j1) (j3 := j1 + 3) (J := J) hL h hA hA2 hκ hk (by omega) (by omega) (by omega) hD' (pNum_lt en2) hf2
              have ep : pVal n t (κ = 5 ∨ κ = 9) (l ∨ mo) j1 = pEnds n t (κ = 5 ∨ κ = 9) j1 D (some B) (j1 + 3) := by
                unfold pVal
                rw [en1]
                dsimp only
                rw [cnd_t ⟨hlm, hto⟩, en2]
              rw [ep]
              refine ru_aload_n d_Mo_value__49 rfl rfl ?_
              refine ru_getI d_Mo_value__50 lf_Mo_59 (ly hL 398 9 0) rfl ?_
              refine ru_eqi mS_w ?_
              refine ru_istore_n d_Mo_value__53 rfl (by decide) ?_
              refine ru_aload_n d_Mo_value__54 rfl rfl ?_
              refine ru_callV (mc := 0) (ms := 0) d_Mo_value__55 lm_Mo_142 hN1 (rx_recv_is (ly hL 398 9 0) kx_Mo) (by decide) rfl (Nat.le_of_ble_eq_true rfl) ?_
              rintro v τ ⟨rfl, rfl⟩
              refine ru_aload_n d_Mo_value__58 rfl rfl ?_
              refine ru_getL d_Mo_value__59 lf_Mo_118 (ly hL 398 9 0) rfl ?_
              refine ru_eql e17 ?_
              refine ru_lstore d_Mo_value__62 (by decide) ?_
              refine ru_aload_n d_Mo_value__64 rfl rfl ?_
              refine ru_lload d_Mo_value__65 rfl ?_
              refine ru_iload_n d_Mo_value__67 rfl rfl ?_
              refine ru_callV (mc := 0) (ms := 0) d_Mo_value__68 lm_Mo_145 hB1 (rx_recv_is (ly hL 398 9 0) kx_Mo) (by decide) rfl (Nat.le_of_ble_eq_true rfl) ?_
              intro v τ h
              obtain ⟨rfl, rfl⟩ := h
              refine ru_lload d_Mo_value__71 rfl ?_
              refine ru_lstore d_Mo_value__73 (by decide) ?_
              refine ru_iconst (v := (-1)) d_Mo_value__75 (by decide) ?_
              refine ru_istore d_Mo_value__76 (by decide) ?_
              refine ru_iload_n d_Mo_value__78 rfl rfl ?_
              refine ru_if_ne (tgt := 120) d_Mo_value__79 (by decide) (fun h79 => absurd (bI_f hl) h79) (fun h79 => ?_)
              refine ru_iload_n d_Mo_value__82 rfl rfl ?_
              refine ru_if_ne (tgt := 120) d_Mo_value__83 (by decide) (fun h83 => absurd (bI_f hmo) h83) (fun h83 => ?_)
              refine ru_aload_n d_Mo_value__86 rfl rfl ?_
              refine ru_ldc2 d_Mo_value__87 lc_Mo_149 ?_
              refine ru_callV (mc := 0) (ms := 0) d_Mo_value__90 lm_Mo_83 hT (rx_recv_is (ly hL 398 9 0) kx_Mo) (by decide) rfl (Nat.le_of_ble_eq_true rfl) ?_
              rintro v τ ⟨rfl, rfl⟩
              refine ru_if_eq (tgt := 120) d_Mo_value__93 (by decide) (fun h93 => absurd h93 (by decide)) (fun h93 => ?_)
              refine ru_aload_n d_Mo_value__96 rfl rfl ?_
              refine ru_getI d_Mo_value__97 lf_Mo_59 (ly hL 398 9 0) rfl ?_
              refine ru_eqi mS_w ?_
              refine ru_istore d_Mo_value__100 (by decide) ?_
              refine ru_aload_n d_Mo_value__102 rfl rfl ?_
              refine ru_callV (mc := 0) (ms := 0) d_Mo_value__103 lm_Mo_142 hN2 (rx_recv_is (ly hL 398 9 0) kx_Mo) (by decide) rfl (Nat.le_of_ble_eq_true rfl) ?_
              rintro v τ ⟨rfl, rfl⟩
              refine ru_aload_n d_Mo_value__106 rfl rfl ?_
              refine ru_getL d_Mo_value__107 lf_Mo_118 (ly hL 398 9 0) rfl ?_
              refine ru_eql e18 ?_
              refine ru_lstore d_Mo_value__110 (by decide) ?_
              refine ru_aload_n d_Mo_value__112 rfl rfl ?_
              refine ru_lload d_Mo_value__113 rfl ?_
              refine ru_iload d_Mo_value__115 rfl ?_
              refine ru_callV (mc := 0) (ms := 0) d_Mo_value__117 lm_Mo_145 hB2 (rx_recv_is (ly hL 398 9 0) kx_Mo) (by decide) rfl (Nat.le_of_ble_eq_true rfl) ?_
              intro v τ h
              obtain ⟨rfl, rfl⟩ := h
              exact ru_to E2 ⟨rfl, rfl, rfl, rfl, rfl, rfl, rfl, trivial⟩
        · rw [bI_f hto, cnd_f hto] at hT
          have ep : pVal n t (κ = 5 ∨ κ = 9) (l ∨ mo) j1 = pEnds n t (κ = 5 ∨ κ = 9) j1 D none (j1 + 1) := by unfold pVal; rw [en1]; dsimp only; rw [cnd_f (fun z => hto z.2)]
          rw [ep]
          refine ru_aload_n d_Mo_value__49 rfl rfl ?_
          refine ru_getI d_Mo_value__50 lf_Mo_59 (ly hL 398 9 0) rfl ?_
          refine ru_eqi mS_w ?_
          refine ru_istore_n d_Mo_value__53 rfl (by decide) ?_
          refine ru_aload_n d_Mo_value__54 rfl rfl ?_
          refine ru_callV (mc := 0) (ms := 0) d_Mo_value__55 lm_Mo_142 hN1 (rx_recv_is (ly hL 398 9 0) kx_Mo) (by decide) rfl (Nat.le_of_ble_eq_true rfl) ?_
          rintro v τ ⟨rfl, rfl⟩
          refine ru_aload_n d_Mo_value__58 rfl rfl ?_
          refine ru_getL d_Mo_value__59 lf_Mo_118 (ly hL 398 9 0) rfl ?_
          refine ru_eql e17 ?_
          refine ru_lstore d_Mo_value__62 (by decide) ?_
          refine ru_aload_n d_Mo_value__64 rfl rfl ?_
          refine ru_lload d_Mo_value__65 rfl ?_
          refine ru_iload_n d_Mo_value__67 rfl rfl ?_
          refine ru_callV (mc := 0) (ms := 0) d_Mo_value__68 lm_Mo_145 hB1 (rx_recv_is (ly hL 398 9 0) kx_Mo) (by decide) rfl (Nat.le_of_ble_eq_true rfl) ?_
          intro v τ h
          obtain ⟨rfl, rfl⟩ := h
          refine ru_lload d_Mo_value__71 rfl ?_
          refine ru_lstore d_Mo_value__73 (by decide) ?_
          refine ru_iconst (v := (-1)) d_Mo_value__75 (by decide) ?_
          refine ru_istore d_Mo_value__76 (by decide) ?_
          refine ru_iload_n d_Mo_value__78 rfl rfl ?_
          refine ru_if_ne (tgt := 120) d_Mo_value__79 (by decide) (fun h79 => absurd (bI_f hl) h79) (fun h79 => ?_)
          refine ru_iload_n d_Mo_value__82 rfl rfl ?_
          refine ru_if_ne (tgt := 120) d_Mo_value__83 (by decide) (fun h83 => absurd (bI_f hmo) h83) (fun h83 => ?_)
          refine ru_aload_n d_Mo_value__86 rfl rfl ?_
          refine ru_ldc2 d_Mo_value__87 lc_Mo_149 ?_
          refine ru_callV (mc := 0) (ms := 0) d_Mo_value__90 lm_Mo_83 hT (rx_recv_is (ly hL 398 9 0) kx_Mo) (by decide) rfl (Nat.le_of_ble_eq_true rfl) ?_
          rintro v τ ⟨rfl, rfl⟩
          refine ru_if_eq (tgt := 120) d_Mo_value__93 (by decide) (fun h93 => ?_) (fun h93 => absurd h93 (by decide))
          exact ru_to E1 ⟨rfl, rfl, rfl, rfl, rfl, rfl, rfl, trivial⟩
def vaP (r : Nat ⊕ ((Option Nat × Option Nat) × Nat)) (J A : Nat) (nx : Nat) (ct : Nat → Nat × Nat) (m0 : Nat → Nat → Int32) (ml : Nat → Nat → Int64) (mr : Nat → Nat → Option Nat) : Option Value → rx_S → Prop := fun v τ => v = none ∧ match r with
  | .inr (q, j') => ∃ ml', τ = (nx, ct, mS m0 (nI j') (-1), ml', mr) ∧ fL (v89 A) ml ml' ∧ ml' 404 (A + 8) = oL q.1 ∧ ml' 404 (A + 9) = oL q.2
  | .inl k => ∃ ml' w, τ = (nx, ct, mS m0 (nI w) (nI k), ml', mr) ∧ w ≤ J ∧ fL (v89 A) ml ml'
theorem sq_value {A κ j : Nat} (hL : LAY nx ct mr) (h : PMs n m t m0) (hA : m0 398 14 = nI A) (hA2 : A + 12 ≤ 1440) (hκ : κ < 13) (hk : ml 404 A = Int64.ofNat κ) (hj : j < 3700) : rx_Calls y_Mo_value_ M_Mo_value_ 4 0 0 [.ref 398] (nx, ct, mS m0 (nI j) (-1), ml, mr) (vaP (pSpan n t κ j) (j + 5) A nx ct m0 ml mr) := by
  refine rx_enter (by decide) rfl rfl (Nat.le_of_ble_eq_true rfl) ?_
  have hT1 := sq_took (ml := ml) (j := j) hL h wv_13 (by omega)
  have hT2 := sq_took (ml := ml) (j := j) hL h wv_14 (by omega)
  unfold pSpan
  by_cases h1 : isW n t j 13
  · rw [bI_t h1, cnd_t h1] at hT1
    rw [cnd_t h1]
    have M1 := va_mid (l := True) (mo := False) (j1 := j + 1) (J := j + 5) hL h hA hA2 hκ hk (by omega) (by omega)
    refine ru_aload_n d_Mo_value__0 rfl rfl ?_
    refine ru_bipush (v := 12) d_Mo_value__1 (by decide) ?_
    refine ru_iconst (v := 5) d_Mo_value__3 (by decide) ?_
    refine ru_iconst (v := 1) d_Mo_value__4 (by decide) ?_
    refine ru_bipush (v := 19) d_Mo_value__5 (by decide) ?_
    refine ru_bipush (v := 20) d_Mo_value__7 (by decide) ?_
    refine ru_iconst (v := 0) d_Mo_value__9 (by decide) ?_
    refine ru_iconst (v := 0) d_Mo_value__10 (by decide) ?_
    refine ru_callS (mc := 0) (ms := 0) d_Mo_value__11 lm_Mo_68 (sp_Mo_word 12 5 1 19 20 0 0 _) (by decide) rfl (Nat.le_of_ble_eq_true rfl) ?_
    intro v τ h
    obtain ⟨rfl, rfl⟩ := h
    refine ru_callV (mc := 0) (ms := 0) d_Mo_value__14 lm_Mo_83 hT1 (rx_recv_is (ly hL 398 9 0) kx_Mo) (by decide) rfl (Nat.le_of_ble_eq_true rfl) ?_
    rintro v τ ⟨rfl, rfl⟩
    refine ru_istore_n d_Mo_value__17 rfl (by decide) ?_
    refine ru_iload_n d_Mo_value__18 rfl rfl ?_
    refine ru_if_ne (tgt := 47) d_Mo_value__19 (by decide) (fun h19 => ?_) (fun h19 => absurd h19 (by decide))
    refine ru_iconst (v := 0) d_Mo_value__47 (by decide) ?_
    refine ru_istore_n d_Mo_value__48 rfl (by decide) ?_
    refine ru_to (ru_post ?_ M1) ⟨rfl, by rw [bI_t trivial]; rfl, by rw [bI_f not_false]; rfl, trivial⟩
    rintro v τ ⟨rfl, q⟩
    refine ⟨rfl, ?_⟩
    rw [show (True ∨ False) = True from by simp] at q
    cases e : pVal n t (κ = 5 ∨ κ = 9) True (j + 1) with
    | inl k => rw [e] at q; exact q
    | inr q' => rw [e] at q; obtain ⟨ml', a1, a2, a3, a4⟩ := q; exact ⟨ml', a1, a2, by rw [a3, cnd_f not_false]; rfl, by rw [a4, cnd_t trivial]; rfl⟩
  · rw [bI_f h1, cnd_f h1] at hT1
    rw [cnd_f h1]
    by_cases h2 : isW n t j 14
    · rw [bI_t h2, cnd_t h2] at hT2
      rw [cnd_t h2]
      have M1 := va_mid (l := False) (mo := True) (j1 := j + 1) (J := j + 5) hL h hA hA2 hκ hk (by omega) (by omega)
      refine ru_aload_n d_Mo_value__0 rfl rfl ?_
      refine ru_bipush (v := 12) d_Mo_value__1 (by decide) ?_
      refine ru_iconst (v := 5) d_Mo_value__3 (by decide) ?_
      refine ru_iconst (v := 1) d_Mo_value__4 (by decide) ?_
      refine ru_bipush (v := 19) d_Mo_value__5 (by decide) ?_
      refine ru_bipush (v := 20) d_Mo_value__7 (by decide) ?_
      refine ru_iconst (v := 0) d_Mo_value__9 (by decide) ?_
      refine ru_iconst (v := 0) d_Mo_value__10 (by decide) ?_
      refine ru_callS (mc := 0) (ms := 0) d_Mo_value__11 lm_Mo_68 (sp_Mo_word 12 5 1 19 20 0 0 _) (by decide) rfl (Nat.le_of_ble_eq_true rfl) ?_
      intro v τ h
      obtain ⟨rfl, rfl⟩ := h
      refine ru_callV (mc := 0) (ms := 0) d_Mo_value__14 lm_Mo_83 hT1 (rx_recv_is (ly hL 398 9 0) kx_Mo) (by decide) rfl (Nat.le_of_ble_eq_true rfl) ?_
      rintro v τ ⟨rfl, rfl⟩
      refine ru_istore_n d_Mo_value__17 rfl (by decide) ?_
      refine ru_iload_n d_Mo_value__18 rfl rfl ?_
      refine ru_if_ne (tgt := 47) d_Mo_value__19 (by decide) (fun h19 => absurd h19 (by decide)) (fun h19 => ?_)
      refine ru_aload_n d_Mo_value__22 rfl rfl ?_
      refine ru_bipush (v := 13) d_Mo_value__23 (by decide) ?_
      refine ru_bipush (v := 15) d_Mo_value__25 (by decide) ?_
      refine ru_bipush (v := 19) d_Mo_value__27 (by decide) ?_
      refine ru_bipush (v := 20) d_Mo_value__29 (by decide) ?_
      refine ru_iconst (v := 0) d_Mo_value__31 (by decide) ?_
      refine ru_iconst (v := 0) d_Mo_value__32 (by decide) ?_
      refine ru_iconst (v := 0) d_Mo_value__33 (by decide) ?_
      refine ru_callS (mc := 0) (ms := 0) d_Mo_value__34 lm_Mo_68 (sp_Mo_word 13 15 19 20 0 0 0 _) (by decide) rfl (Nat.le_of_ble_eq_true rfl) ?_
      intro v τ h
      obtain ⟨rfl, rfl⟩ := h
      refine ru_callV (mc := 0) (ms := 0) d_Mo_value__37 lm_Mo_83 hT2 (rx_recv_is (ly hL 398 9 0) kx_Mo) (by decide) rfl (Nat.le_of_ble_eq_true rfl) ?_
      rintro v τ ⟨rfl, rfl⟩
      refine ru_if_eq (tgt := 47) d_Mo_value__40 (by decide) (fun h40 => absurd h40 (by decide)) (fun h40 => ?_)
      refine ru_iconst (v := 1) d_Mo_value__43 (by decide) ?_
      refine ru_goto (tgt := 48) d_Mo_value__44 (by decide) ?_
      refine ru_istore_n d_Mo_value__48 rfl (by decide) ?_
      refine ru_to (ru_post ?_ M1) ⟨rfl, by rw [bI_f not_false]; rfl, by rw [bI_t trivial]; rfl, trivial⟩
      rintro v τ ⟨rfl, q⟩
      refine ⟨rfl, ?_⟩
      rw [show (False ∨ True) = True from by simp] at q
      cases e : pVal n t (κ = 5 ∨ κ = 9) True (j + 1) with
      | inl k => rw [e] at q; exact q
      | inr q' => rw [e] at q; obtain ⟨ml', a1, a2, a3, a4⟩ := q; exact ⟨ml', a1, a2, by rw [a3, cnd_t trivial]; rfl, by rw [a4, cnd_f not_false]; rfl⟩
    · rw [bI_f h2, cnd_f h2] at hT2
      rw [cnd_f h2]
      have M1 := va_mid (l := False) (mo := False) (j1 := j) (J := j + 5) hL h hA hA2 hκ hk (by omega) (by omega)
      refine ru_aload_n d_Mo_value__0 rfl rfl ?_
      refine ru_bipush (v := 12) d_Mo_value__1 (by decide) ?_
      refine ru_iconst (v := 5) d_Mo_value__3 (by decide) ?_
      refine ru_iconst (v := 1) d_Mo_value__4 (by decide) ?_
      refine ru_bipush (v := 19) d_Mo_value__5 (by decide) ?_
      refine ru_bipush (v := 20) d_Mo_value__7 (by decide) ?_
      refine ru_iconst (v := 0) d_Mo_value__9 (by decide) ?_
      refine ru_iconst (v := 0) d_Mo_value__10 (by decide) ?_
      refine ru_callS (mc := 0) (ms := 0) d_Mo_value__11 lm_Mo_68 (sp_Mo_word 12 5 1 19 20 0 0 _) (by decide) rfl (Nat.le_of_ble_eq_true rfl) ?_
      intro v τ h
      obtain ⟨rfl, rfl⟩ := h
      refine ru_callV (mc := 0) (ms := 0) d_Mo_value__14 lm_Mo_83 hT1 (rx_recv_is (ly hL 398 9 0) kx_Mo) (by decide) rfl (Nat.le_of_ble_eq_true rfl) ?_
      rintro v τ ⟨rfl, rfl⟩
      refine ru_istore_n d_Mo_value__17 rfl (by decide) ?_
      refine ru_iload_n d_Mo_value__18 rfl rfl ?_
      refine ru_if_ne (tgt := 47) d_Mo_value__19 (by decide) (fun h19 => absurd h19 (by decide)) (fun h19 => ?_)
      refine ru_aload_n d_Mo_value__22 rfl rfl ?_
      refine ru_bipush (v := 13) d_Mo_value__23 (by decide) ?_
      refine ru_bipush (v := 15) d_Mo_value__25 (by decide) ?_
      refine ru_bipush (v := 19) d_Mo_value__27 (by decide) ?_
      refine ru_bipush (v := 20) d_Mo_value__29 (by decide) ?_
      refine ru_iconst (v := 0) d_Mo_value__31 (by decide) ?_
      refine ru_iconst (v := 0) d_Mo_value__32 (by decide) ?_
      refine ru_iconst (v := 0) d_Mo_value__33 (by decide) ?_
      refine ru_callS (mc := 0) (ms := 0) d_Mo_value__34 lm_Mo_68 (sp_Mo_word 13 15 19 20 0 0 0 _) (by decide) rfl (Nat.le_of_ble_eq_true rfl) ?_
      intro v τ h
      obtain ⟨rfl, rfl⟩ := h
      refine ru_callV (mc := 0) (ms := 0) d_Mo_value__37 lm_Mo_83 hT2 (rx_recv_is (ly hL 398 9 0) kx_Mo) (by decide) rfl (Nat.le_of_ble_eq_true rfl) ?_
      rintro v τ ⟨rfl, rfl⟩
      refine ru_if_eq (tgt := 47) d_Mo_value__40 (by decide) (fun h40 => ?_) (fun h40 => absurd h40 (by decide))
      refine ru_iconst (v := 0) d_Mo_value__47 (by decide) ?_
      refine ru_istore_n d_Mo_value__48 rfl (by decide) ?_
      refine ru_to (ru_post ?_ M1) ⟨rfl, by rw [bI_f not_false]; rfl, by rw [bI_f not_false]; rfl, trivial⟩
      rintro v τ ⟨rfl, q⟩
      refine ⟨rfl, ?_⟩
      rw [show (False ∨ False) = False from by simp] at q
      cases e : pVal n t (κ = 5 ∨ κ = 9) False j with
      | inl k => rw [e] at q; exact q
      | inr q' => rw [e] at q; obtain ⟨ml', a1, a2, a3, a4⟩ := q; exact ⟨ml', a1, a2, by rw [a3, cnd_f not_false]; rfl, by rw [a4, cnd_f not_false]; rfl⟩
theorem sq_value0 {A κ : Nat} {w g : Int32} (hL : LAY nx ct mr) (hA : m0 398 14 = nI A) (hA2 : A + 12 ≤ 1440) (hκ : κ < 13) (hk : ml 404 A = Int64.ofNat κ) (hg : ¬ g = -1) : rx_Calls y_Mo_value_ M_Mo_value_ 4 0 0 [.ref 398] (nx, ct, mS m0 w g, ml, mr) (fun v τ => v = none ∧ τ = (nx, ct, mS m0 w g, ml, mr)) := by
  refine rx_enter (by decide) rfl rfl (Nat.le_of_ble_eq_true rfl) ?_
  refine ru_aload_n d_Mo_value__0 rfl rfl ?_
  refine ru_bipush (v := 12) d_Mo_value__1 (by decide) ?_
  refine ru_iconst (v := 5) d_Mo_value__3 (by decide) ?_
  refine ru_iconst (v := 1) d_Mo_value__4 (by decide) ?_
  refine ru_bipush (v := 19) d_Mo_value__5 (by decide) ?_
  refine ru_bipush (v := 20) d_Mo_value__7 (by decide) ?_
  refine ru_iconst (v := 0) d_Mo_value__9 (by decide) ?_
  refine ru_iconst (v := 0) d_Mo_value__10 (by decide) ?_
  refine ru_callS (mc := 0) (ms := 0) d_Mo_value__11 lm_Mo_68 (sp_Mo_word 12 5 1 19 20 0 0 _) (by decide) rfl (Nat.le_of_ble_eq_true rfl) ?_
  intro v τ h
  obtain ⟨rfl, rfl⟩ := h
  refine ru_callV (mc := 0) (ms := 0) d_Mo_value__14 lm_Mo_83 (sq_took0 hL hg) (rx_recv_is (ly hL 398 9 0) kx_Mo) (by decide) rfl (Nat.le_of_ble_eq_true rfl) ?_
  rintro v τ ⟨rfl, rfl⟩
  refine ru_istore_n d_Mo_value__17 rfl (by decide) ?_
  refine ru_iload_n d_Mo_value__18 rfl rfl ?_
  refine ru_if_ne (tgt := 47) d_Mo_value__19 (by decide) (fun h19 => absurd h19 (by decide)) (fun h19 => ?_)
  refine ru_aload_n d_Mo_value__22 rfl rfl ?_
  refine ru_bipush (v := 13) d_Mo_value__23 (by decide) ?_
  refine ru_bipush (v := 15) d_Mo_value__25 (by decide) ?_
  refine ru_bipush (v := 19) d_Mo_value__27 (by decide) ?_
  refine ru_bipush (v := 20) d_Mo_value__29 (by decide) ?_
  refine ru_iconst (v := 0) d_Mo_value__31 (by decide) ?_
  refine ru_iconst (v := 0) d_Mo_value__32 (by decide) ?_
  refine ru_iconst (v := 0) d_Mo_value__33 (by decide) ?_
  refine ru_callS (mc := 0) (ms := 0) d_Mo_value__34 lm_Mo_68 (sp_Mo_word 13 15 19 20 0 0 0 _) (by decide) rfl (Nat.le_of_ble_eq_true rfl) ?_
  intro v τ h
  obtain ⟨rfl, rfl⟩ := h
  refine ru_callV (mc := 0) (ms := 0) d_Mo_value__37 lm_Mo_83 (sq_took0 hL hg) (rx_recv_is (ly hL 398 9 0) kx_Mo) (by decide) rfl (Nat.le_of_ble_eq_true rfl) ?_
  rintro v τ ⟨rfl, rfl⟩
  refine ru_if_eq (tgt := 47) d_Mo_value__40 (by decide) (fun h40 => ?_) (fun h40 => absurd h40 (by decide))
  refine ru_iconst (v := 0) d_Mo_value__47 (by decide) ?_
  refine ru_istore_n d_Mo_value__48 rfl (by decide) ?_
  refine ru_aload_n d_Mo_value__49 rfl rfl ?_
  refine ru_getI d_Mo_value__50 lf_Mo_59 (ly hL 398 9 0) rfl ?_
  refine ru_istore_n d_Mo_value__53 rfl (by decide) ?_
  refine ru_aload_n d_Mo_value__54 rfl rfl ?_
  refine ru_callV (mc := 0) (ms := 0) d_Mo_value__55 lm_Mo_142 (sq_number0 hL hg) (rx_recv_is (ly hL 398 9 0) kx_Mo) (by decide) rfl (Nat.le_of_ble_eq_true rfl) ?_
  intro v τ h
  obtain ⟨rfl, rfl⟩ := h
  refine ru_aload_n d_Mo_value__58 rfl rfl ?_
  refine ru_getL d_Mo_value__59 lf_Mo_118 (ly hL 398 9 0) rfl ?_
  refine ru_lstore d_Mo_value__62 (by decide) ?_
  refine ru_aload_n d_Mo_value__64 rfl rfl ?_
  refine ru_lload d_Mo_value__65 rfl ?_
  refine ru_iload_n d_Mo_value__67 rfl rfl ?_
  refine ru_callV (mc := 0) (ms := 0) d_Mo_value__68 lm_Mo_145 (sq_bare0 hL hA hA2 hk hκ hg) (rx_recv_is (ly hL 398 9 0) kx_Mo) (by decide) rfl (Nat.le_of_ble_eq_true rfl) ?_
  intro v τ h
  obtain ⟨rfl, rfl⟩ := h
  refine ru_lload d_Mo_value__71 rfl ?_
  refine ru_lstore d_Mo_value__73 (by decide) ?_
  refine ru_iconst (v := (-1)) d_Mo_value__75 (by decide) ?_
  refine ru_istore d_Mo_value__76 (by decide) ?_
  refine ru_iload_n d_Mo_value__78 rfl rfl ?_
  refine ru_if_ne (tgt := 120) d_Mo_value__79 (by decide) (fun h79 => absurd h79 (by decide)) (fun h79 => ?_)
  refine ru_iload_n d_Mo_value__82 rfl rfl ?_
  refine ru_if_ne (tgt := 120) d_Mo_value__83 (by decide) (fun h83 => absurd h83 (by decide)) (fun h83 => ?_)
  refine ru_aload_n d_Mo_value__86 rfl rfl ?_
  refine ru_ldc2 d_Mo_value__87 lc_Mo_149 ?_
  refine ru_callV (mc := 0) (ms := 0) d_Mo_value__90 lm_Mo_83 (sq_took0 hL hg) (rx_recv_is (ly hL 398 9 0) kx_Mo) (by decide) rfl (Nat.le_of_ble_eq_true rfl) ?_
  rintro v τ ⟨rfl, rfl⟩
  refine ru_if_eq (tgt := 120) d_Mo_value__93 (by decide) (fun h93 => ?_) (fun h93 => absurd h93 (by decide))
  refine ru_aload_n d_Mo_value__120 rfl rfl ?_
  refine ru_callV (mc := 0) (ms := 0) d_Mo_value__121 lm_Mo_75 (sq_good hL) (rx_recv_is (ly hL 398 9 0) kx_Mo) (by decide) rfl (Nat.le_of_ble_eq_true rfl) ?_
  intro v τ h
  obtain ⟨rfl, rfl⟩ := h
  refine ru_if_ne (tgt := 128) d_Mo_value__124 (by decide) (fun h124 => absurd (bI_f hg) h124) (fun h124 => ?_)
  refine ru_vret d_Mo_value__127 rfl ?_
  exact ⟨rfl, rfl⟩
end
