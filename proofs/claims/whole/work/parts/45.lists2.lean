/-! The class: rules that never win, clashes; its words and names -/
theorem d_RT_never_0 : decode M_RT_never.2.1 0 = .ok (.iconst 0, 1) := by decide +kernel
theorem d_RT_never_1 : decode M_RT_never.2.1 1 = .ok (.istore_n 2, 1) := by decide +kernel
theorem d_RT_never_2 : decode M_RT_never.2.1 2 = .ok (.iconst 0, 1) := by decide +kernel
theorem d_RT_never_3 : decode M_RT_never.2.1 3 = .ok (.istore_n 3, 1) := by decide +kernel
theorem d_RT_never_4 : decode M_RT_never.2.1 4 = .ok (.iload_n 3, 1) := by decide +kernel
theorem d_RT_never_5 : decode M_RT_never.2.1 5 = .ok (.aload_n 0, 1) := by decide +kernel
theorem d_RT_never_6 : decode M_RT_never.2.1 6 = .ok (.getfield 51, 3) := by decide +kernel
theorem d_RT_never_9 : decode M_RT_never.2.1 9 = .ok (.getfield 147, 3) := by decide +kernel
theorem d_RT_never_12 : decode M_RT_never.2.1 12 = .ok (.if_icmp .ge 34, 3) := by decide +kernel
theorem d_RT_never_15 : decode M_RT_never.2.1 15 = .ok (.aload_n 0, 1) := by decide +kernel
theorem d_RT_never_16 : decode M_RT_never.2.1 16 = .ok (.getfield 51, 3) := by decide +kernel
theorem d_RT_never_19 : decode M_RT_never.2.1 19 = .ok (.iload_n 3, 1) := by decide +kernel
theorem d_RT_never_20 : decode M_RT_never.2.1 20 = .ok (.aload_n 0, 1) := by decide +kernel
theorem d_RT_never_21 : decode M_RT_never.2.1 21 = .ok (.getfield 19, 3) := by decide +kernel
theorem d_RT_never_24 : decode M_RT_never.2.1 24 = .ok (.invokevirtual 150, 3) := by decide +kernel
theorem d_RT_never_27 : decode M_RT_never.2.1 27 = .ok (.ifCond .eq 13, 3) := by decide +kernel
theorem d_RT_never_30 : decode M_RT_never.2.1 30 = .ok (.iload_n 2, 1) := by decide +kernel
theorem d_RT_never_31 : decode M_RT_never.2.1 31 = .ok (.iload_n 1, 1) := by decide +kernel
theorem d_RT_never_32 : decode M_RT_never.2.1 32 = .ok (.if_icmp .ne 5, 3) := by decide +kernel
theorem d_RT_never_35 : decode M_RT_never.2.1 35 = .ok (.iload_n 3, 1) := by decide +kernel
theorem d_RT_never_36 : decode M_RT_never.2.1 36 = .ok (.ireturn, 1) := by decide +kernel
theorem d_RT_never_37 : decode M_RT_never.2.1 37 = .ok (.iinc 2 1, 3) := by decide +kernel
theorem d_RT_never_40 : decode M_RT_never.2.1 40 = .ok (.iinc 3 1, 3) := by decide +kernel
theorem d_RT_never_43 : decode M_RT_never.2.1 43 = .ok (.goto (-39), 3) := by decide +kernel
theorem d_RT_never_46 : decode M_RT_never.2.1 46 = .ok (.iconst (-1), 1) := by decide +kernel
theorem d_RT_never_47 : decode M_RT_never.2.1 47 = .ok (.ireturn, 1) := by decide +kernel
section
variable {nx : Nat} {ct : Nat → Nat × Nat} {mi : Nat → Nat → Int32} {ml : Nat → Nat → Int64} {mr : Nat → Nat → Option Nat} {b : Nat} {L : List ruS}
theorem sp_never {K : Nat} (hL : LAY nx ct mr) (hr : mr 256 5 = some b) (hb : isLst b) (hl : LsI mi ml mr b L) (hK : K < 2 ^ 31) : rx_Calls y_RT_never M_RT_never 4 0 0 [.ref 256, .int (nI K)] (nx, ct, mi, ml, mr) (fun v τ => v = some (.int (oR (nthF (beatL (shT mi) (shQ ml) L) L.length 0 K))) ∧ τ = (nx, ct, mi, ml, mr)) := by
  refine rx_enter (by decide) rfl rfl (Nat.le_of_ble_eq_true rfl) ?_
  have l2 := hl.2.1
  have loop : ∀ f i c x, i ≤ L.length → f = L.length - i → c + x = K → rx_W M_RT_never 4 0 0 4 [(0, .ref 256), (1, .int (nI K)), (2, .int (nI x)), (3, .int (nI i))] [] (nx, ct, mi, ml, mr) (pR (fun v τ => v = some (.int (oR (nthF (beatL (shT mi) (shQ ml) L) f i c))) ∧ τ = (nx, ct, mi, ml, mr))) := by
    intro f
    induction f with
    | zero =>
      intro i c x hi hf hc
      refine ru_iload_n d_RT_never_4 rfl rfl ?_
      refine ru_aload_n d_RT_never_5 rfl rfl ?_
      refine ru_getR d_RT_never_6 lf_RT_51 (ly hL 256 0 0) rfl hr ?_
      refine ru_getI d_RT_never_9 lf_RT_147 (ly_b hL hb) rfl ?_
      refine ru_eqi hl.1 ?_
      refine ru_icmp_ge (tgt := 46) d_RT_never_12 (by decide) (fun h12 => ?_) (fun h12 => absurd (nI_le (by omega) (by omega)) h12)
      replace h12 := nm_le (a := L.length) (b := i) (by omega) (by omega) h12
      refine ru_iconst (v := (-1)) d_RT_never_46 (by decide) ?_
      refine ru_iret d_RT_never_47 rfl ?_
      exact ⟨rfl, rfl⟩
    | succ f ih =>
      intro i c x hi hf hc
      unfold nthF
      refine ru_iload_n d_RT_never_4 rfl rfl ?_
      refine ru_aload_n d_RT_never_5 rfl rfl ?_
      refine ru_getR d_RT_never_6 lf_RT_51 (ly hL 256 0 0) rfl hr ?_
      refine ru_getI d_RT_never_9 lf_RT_147 (ly_b hL hb) rfl ?_
      refine ru_eqi hl.1 ?_
      refine ru_icmp_ge (tgt := 46) d_RT_never_12 (by decide) (fun h12 => absurd h12 (nI_ge (by omega) (by omega))) (fun h12 => ?_)
      replace h12 := nm_nle (a := L.length) (b := i) (by omega) (by omega) h12
      refine ru_aload_n d_RT_never_15 rfl rfl ?_
      refine ru_getR d_RT_never_16 lf_RT_51 (ly hL 256 0 0) rfl hr ?_
      refine ru_iload_n d_RT_never_19 rfl rfl ?_
      refine ru_aload_n d_RT_never_20 rfl rfl ?_
      refine ru_getR d_RT_never_21 lf_RT_19 (ly hL 256 0 0) rfl (lr hL 256 1 260) ?_
      refine ru_callV (mc := 0) (ms := 0) d_RT_never_24 lm_RT_150 (sp_isBeaten hL hb hl (by omega)) (rx_recv_is (ly_b hL hb) kx_RL) (by decide) rfl (Nat.le_of_ble_eq_true rfl) ?_
      intro v τ h
      obtain ⟨rfl, rfl⟩ := h
      refine ru_if_eq (tgt := 40) d_RT_never_27 (by decide) (fun h27 => ?_) (fun h27 => ?_)
      · skip
        replace h27 := bI_eq0.mp h27
        refine ru_iinc (v := nI (i + 1)) d_RT_never_40 rfl (nm_inc _ 1) (by decide) ?_
        refine ru_goto (tgt := 4) d_RT_never_43 (by decide) ?_
        first | rw [if_neg h27] | rw [if_pos h27, if_neg (by omega)]
        exact ru_to (ih (i + 1) _ _ (by omega) (by omega) (by omega)) ⟨rfl, rfl, rfl, rfl, trivial⟩
      · skip
        replace h27 := bI_ne0.mp h27
        refine ru_iload_n d_RT_never_30 rfl rfl ?_
        refine ru_iload_n d_RT_never_31 rfl rfl ?_
        refine ru_icmp_ne (tgt := 37) d_RT_never_32 (by decide) (fun h32 => ?_) (fun h32 => ?_)
        · skip
          replace h32 := nm_ne (a := x) (b := K) (by omega) (by omega) h32
          refine ru_iinc (v := nI (x + 1)) d_RT_never_37 rfl (nm_inc _ 1) (by decide) ?_
          refine ru_iinc (v := nI (i + 1)) d_RT_never_40 rfl (nm_inc _ 1) (by decide) ?_
          refine ru_goto (tgt := 4) d_RT_never_43 (by decide) ?_
          first | rw [if_neg h27] | rw [if_pos h27, if_neg (by omega)]
          exact ru_to (ih (i + 1) _ _ (by omega) (by omega) (by omega)) ⟨rfl, rfl, rfl, rfl, trivial⟩
        · skip
          replace h32 := nm_eq (a := x) (b := K) (by omega) (by omega) h32
          refine ru_iload_n d_RT_never_35 rfl rfl ?_
          refine ru_iret d_RT_never_36 rfl ?_
          rw [if_pos h27, if_pos (by omega)]
          exact ⟨rfl, rfl⟩
  refine ru_iconst (v := 0) d_RT_never_0 (by decide) ?_
  refine ru_istore_n d_RT_never_1 rfl (by decide) ?_
  refine ru_iconst (v := 0) d_RT_never_2 (by decide) ?_
  refine ru_istore_n d_RT_never_3 rfl (by decide) ?_
  exact ru_to (loop L.length 0 K 0 (by omega) rfl (by omega)) ⟨rfl, rfl, rfl, rfl, trivial⟩
theorem nI_neg {k : Int32} {x : Nat} (hk : k < 0) (hx : x < 2 ^ 31) : ¬ nI x = k := fun z => by
  rw [← z, il, nI_toInt hx, i_0] at hk
  omega
theorem sp_neverN {k : Int32} (hL : LAY nx ct mr) (hr : mr 256 5 = some b) (hb : isLst b) (hl : LsI mi ml mr b L) (hk : k < 0) : rx_Calls y_RT_never M_RT_never 4 0 0 [.ref 256, .int k] (nx, ct, mi, ml, mr) (fun v τ => v = some (.int (-1)) ∧ τ = (nx, ct, mi, ml, mr)) := by
  refine rx_enter (by decide) rfl rfl (Nat.le_of_ble_eq_true rfl) ?_
  have l2 := hl.2.1
  have loop : ∀ f i x, i ≤ L.length → f = L.length - i → x ≤ i → rx_W M_RT_never 4 0 0 4 [(0, .ref 256), (1, .int k), (2, .int (nI x)), (3, .int (nI i))] [] (nx, ct, mi, ml, mr) (pR (fun v τ => v = some (.int (-1)) ∧ τ = (nx, ct, mi, ml, mr))) := by
    intro f
    induction f with
    | zero =>
      intro i x hi hf hc
      refine ru_iload_n d_RT_never_4 rfl rfl ?_
      refine ru_aload_n d_RT_never_5 rfl rfl ?_
      refine ru_getR d_RT_never_6 lf_RT_51 (ly hL 256 0 0) rfl hr ?_
      refine ru_getI d_RT_never_9 lf_RT_147 (ly_b hL hb) rfl ?_
      refine ru_eqi hl.1 ?_
      refine ru_icmp_ge (tgt := 46) d_RT_never_12 (by decide) (fun h12 => ?_) (fun h12 => absurd (nI_le (by omega) (by omega)) h12)
      replace h12 := nm_le (a := L.length) (b := i) (by omega) (by omega) h12
      refine ru_iconst (v := (-1)) d_RT_never_46 (by decide) ?_
      refine ru_iret d_RT_never_47 rfl ?_
      exact ⟨rfl, rfl⟩
    | succ f ih =>
      intro i x hi hf hc
      refine ru_iload_n d_RT_never_4 rfl rfl ?_
      refine ru_aload_n d_RT_never_5 rfl rfl ?_
      refine ru_getR d_RT_never_6 lf_RT_51 (ly hL 256 0 0) rfl hr ?_
      refine ru_getI d_RT_never_9 lf_RT_147 (ly_b hL hb) rfl ?_
      refine ru_eqi hl.1 ?_
      refine ru_icmp_ge (tgt := 46) d_RT_never_12 (by decide) (fun h12 => absurd h12 (nI_ge (by omega) (by omega))) (fun h12 => ?_)
      replace h12 := nm_nle (a := L.length) (b := i) (by omega) (by omega) h12
      refine ru_aload_n d_RT_never_15 rfl rfl ?_
      refine ru_getR d_RT_never_16 lf_RT_51 (ly hL 256 0 0) rfl hr ?_
      refine ru_iload_n d_RT_never_19 rfl rfl ?_
      refine ru_aload_n d_RT_never_20 rfl rfl ?_
      refine ru_getR d_RT_never_21 lf_RT_19 (ly hL 256 0 0) rfl (lr hL 256 1 260) ?_
      refine ru_callV (mc := 0) (ms := 0) d_RT_never_24 lm_RT_150 (sp_isBeaten hL hb hl (by omega)) (rx_recv_is (ly_b hL hb) kx_RL) (by decide) rfl (Nat.le_of_ble_eq_true rfl) ?_
      intro v τ h
      obtain ⟨rfl, rfl⟩ := h
      refine ru_if_eq (tgt := 40) d_RT_never_27 (by decide) (fun h27 => ?_) (fun h27 => ?_)
      · skip
        replace h27 := bI_eq0.mp h27
        refine ru_iinc (v := nI (i + 1)) d_RT_never_40 rfl (nm_inc _ 1) (by decide) ?_
        refine ru_goto (tgt := 4) d_RT_never_43 (by decide) ?_
        exact ru_to (ih (i + 1) _ (by omega) (by omega) (by omega)) ⟨rfl, rfl, rfl, rfl, trivial⟩
      · skip
        replace h27 := bI_ne0.mp h27
        refine ru_iload_n d_RT_never_30 rfl rfl ?_
        refine ru_iload_n d_RT_never_31 rfl rfl ?_
        refine ru_icmp_ne (tgt := 37) d_RT_never_32 (by decide) (fun h32 => ?_) (fun h32 => absurd h32 (nI_neg hk (by omega)))
        refine ru_iinc (v := nI (x + 1)) d_RT_never_37 rfl (nm_inc _ 1) (by decide) ?_
        refine ru_iinc (v := nI (i + 1)) d_RT_never_40 rfl (nm_inc _ 1) (by decide) ?_
        refine ru_goto (tgt := 4) d_RT_never_43 (by decide) ?_
        exact ru_to (ih (i + 1) _ (by omega) (by omega) (by omega)) ⟨rfl, rfl, rfl, rfl, trivial⟩
  refine ru_iconst (v := 0) d_RT_never_0 (by decide) ?_
  refine ru_istore_n d_RT_never_1 rfl (by decide) ?_
  refine ru_iconst (v := 0) d_RT_never_2 (by decide) ?_
  refine ru_istore_n d_RT_never_3 rfl (by decide) ?_
  exact ru_to (loop L.length 0 0 (by omega) rfl (by omega)) ⟨rfl, rfl, rfl, rfl, trivial⟩
theorem sp_clash {K w : Nat} (hL : LAY nx ct mr) (hr : mr 256 5 = some b) (hb : isLst b) (hl : LsI mi ml mr b L) (hK : K < 2 ^ 31) (hw : w < 2) : rx_Calls y_RT_clash M_RT_clash 4 0 0 [.ref 256, .int (nI K), .int (nI w)] (nx, ct, mi, ml, mr) (fun v τ => v = some (.int (oP w (nthA (oddsL (shT mi) (shQ ml) L) L.length L.length 0 K))) ∧ τ = (nx, ct, mi, ml, mr)) := by
  refine rx_enter (by decide) rfl rfl (Nat.le_of_ble_eq_true rfl) ?_
  have l2 := hl.2.1
  have inner : ∀ (post : Option Value → rx_S → Prop) (a : Nat), a < L.length → ∀ f i c x, i ≤ L.length → a < i → f = L.length - i → c + x = K → (∀ c' x', c' + x' = K → nthB ((oddsL (shT mi) (shQ ml) L) a) f i c = .inr c' → rx_W M_RT_clash 4 0 0 98 [(0, .ref 256), (1, .int (nI K)), (2, .int (nI w)), (3, .int (nI x')), (4, .int (nI a))] [] (nx, ct, mi, ml, mr) (pR post)) →
      (∀ b, nthB ((oddsL (shT mi) (shQ ml) L) a) f i c = .inl b → post (some (.int (oP w (some (a, b))))) (nx, ct, mi, ml, mr)) → rx_W M_RT_clash 4 0 0 42 [(0, .ref 256), (1, .int (nI K)), (2, .int (nI w)), (3, .int (nI x)), (4, .int (nI a)), (5, .int (nI i))] [] (nx, ct, mi, ml, mr) (pR post) := by
    intro post a ha f
    induction f with
    | zero =>
      intro i c x hi hai hf hc h1 h2
      refine ru_iload d_RT_clash_42 rfl ?_
      refine ru_aload_n d_RT_clash_44 rfl rfl ?_
      refine ru_getR d_RT_clash_45 lf_RT_51 (ly hL 256 0 0) rfl hr ?_
      refine ru_getI d_RT_clash_48 lf_RT_147 (ly_b hL hb) rfl ?_
      refine ru_eqi hl.1 ?_
      refine ru_icmp_ge (tgt := 98) d_RT_clash_51 (by decide) (fun h51 => ?_) (fun h51 => absurd (nI_le (by omega) (by omega)) h51)
      replace h51 := nm_le (a := L.length) (b := i) (by omega) (by omega) h51
      exact ru_to (h1 c x hc rfl) ⟨rfl, rfl, rfl, rfl, rfl, trivial⟩
    | succ f ih =>
      intro i c x hi hai hf hc h1 h2
      unfold nthB at h1 h2
      refine ru_iload d_RT_clash_42 rfl ?_
      refine ru_aload_n d_RT_clash_44 rfl rfl ?_
      refine ru_getR d_RT_clash_45 lf_RT_51 (ly hL 256 0 0) rfl hr ?_
      refine ru_getI d_RT_clash_48 lf_RT_147 (ly_b hL hb) rfl ?_
      refine ru_eqi hl.1 ?_
      refine ru_icmp_ge (tgt := 98) d_RT_clash_51 (by decide) (fun h51 => absurd h51 (nI_ge (by omega) (by omega))) (fun h51 => ?_)
      replace h51 := nm_nle (a := L.length) (b := i) (by omega) (by omega) h51
      refine ru_aload_n d_RT_clash_54 rfl rfl ?_
      refine ru_getR d_RT_clash_55 lf_RT_51 (ly hL 256 0 0) rfl hr ?_
      refine ru_iload d_RT_clash_58 rfl ?_
      refine ru_iload d_RT_clash_60 rfl ?_
      refine ru_aload_n d_RT_clash_62 rfl rfl ?_
      refine ru_getR d_RT_clash_63 lf_RT_19 (ly hL 256 0 0) rfl (lr hL 256 1 260) ?_
      refine ru_callV (mc := 0) (ms := 0) d_RT_clash_66 lm_RT_156 (sp_areAtOdds hL hb hl (by omega) (by omega)) (rx_recv_is (ly_b hL hb) kx_RL) (by decide) rfl (Nat.le_of_ble_eq_true rfl) ?_
      intro v τ h
      obtain ⟨rfl, rfl⟩ := h
      refine ru_if_eq (tgt := 92) d_RT_clash_69 (by decide) (fun h69 => ?_) (fun h69 => ?_)
      · skip
        replace h69 := bI_eq0.mp h69
        refine ru_iinc (v := nI (i + 1)) d_RT_clash_92 rfl (nm_inc _ 1) (by decide) ?_
        refine ru_goto (tgt := 42) d_RT_clash_95 (by decide) ?_
        first | rw [if_neg h69] at h1 h2 | rw [if_pos h69, if_neg (by omega)] at h1 h2
        exact ru_to (ih (i + 1) _ _ (by omega) (by omega) (by omega) (by omega) h1 h2) ⟨rfl, rfl, rfl, rfl, rfl, rfl, trivial⟩
      · skip
        replace h69 := bI_ne0.mp h69
        refine ru_iload_n d_RT_clash_72 rfl rfl ?_
        refine ru_iload_n d_RT_clash_73 rfl rfl ?_
        refine ru_icmp_ne (tgt := 89) d_RT_clash_74 (by decide) (fun h74 => ?_) (fun h74 => ?_)
        · skip
          replace h74 := nm_ne (a := x) (b := K) (by omega) (by omega) h74
          refine ru_iinc (v := nI (x + 1)) d_RT_clash_89 rfl (nm_inc _ 1) (by decide) ?_
          refine ru_iinc (v := nI (i + 1)) d_RT_clash_92 rfl (nm_inc _ 1) (by decide) ?_
          refine ru_goto (tgt := 42) d_RT_clash_95 (by decide) ?_
          first | rw [if_neg h69] at h1 h2 | rw [if_pos h69, if_neg (by omega)] at h1 h2
          exact ru_to (ih (i + 1) _ _ (by omega) (by omega) (by omega) (by omega) h1 h2) ⟨rfl, rfl, rfl, rfl, rfl, rfl, trivial⟩
        · skip
          replace h74 := nm_eq (a := x) (b := K) (by omega) (by omega) h74
          refine ru_iload_n d_RT_clash_77 rfl rfl ?_
          refine ru_if_ne (tgt := 86) d_RT_clash_78 (by decide) (fun h78 => ?_) (fun h78 => ?_)
          · skip
            replace h78 := nm_ne (a := w) (b := 0) (by omega) (by omega) h78
            refine ru_iload d_RT_clash_86 rfl ?_
            refine ru_iret d_RT_clash_88 rfl ?_
            rw [if_pos h69, if_pos (by omega)] at h2
            have q := h2 i rfl
            simp only [oP] at q
            first | (rw [if_pos h78] at q; exact q) | (rw [if_neg h78] at q; exact q)
          · skip
            replace h78 := nm_eq (a := w) (b := 0) (by omega) (by omega) h78
            refine ru_iload d_RT_clash_81 rfl ?_
            refine ru_goto (tgt := 88) d_RT_clash_83 (by decide) ?_
            refine ru_iret d_RT_clash_88 rfl ?_
            rw [if_pos h69, if_pos (by omega)] at h2
            have q := h2 i rfl
            simp only [oP] at q
            first | (rw [if_pos h78] at q; exact q) | (rw [if_neg h78] at q; exact q)
  have outer : ∀ f a c x, a ≤ L.length → f = L.length - a → c + x = K → rx_W M_RT_clash 4 0 0 24 [(0, .ref 256), (1, .int (nI K)), (2, .int (nI w)), (3, .int (nI x)), (4, .int (nI a))] [] (nx, ct, mi, ml, mr) (pR (fun v τ => v = some (.int (oP w (nthA (oddsL (shT mi) (shQ ml) L) L.length f a c))) ∧ τ = (nx, ct, mi, ml, mr))) := by
    intro f
    induction f with
    | zero =>
      intro a c x ha hf hc
      refine ru_iload d_RT_clash_24 rfl ?_
      refine ru_aload_n d_RT_clash_26 rfl rfl ?_
      refine ru_getR d_RT_clash_27 lf_RT_51 (ly hL 256 0 0) rfl hr ?_
      refine ru_getI d_RT_clash_30 lf_RT_147 (ly_b hL hb) rfl ?_
      refine ru_eqi hl.1 ?_
      refine ru_icmp_ge (tgt := 104) d_RT_clash_33 (by decide) (fun h33 => ?_) (fun h33 => absurd (nI_le (by omega) (by omega)) h33)
      replace h33 := nm_le (a := L.length) (b := a) (by omega) (by omega) h33
      refine ru_iconst (v := (-1)) d_RT_clash_104 (by decide) ?_
      refine ru_iret d_RT_clash_105 rfl ?_
      exact ⟨rfl, rfl⟩
    | succ f ih =>
      intro a c x ha hf hc
      unfold nthA
      refine ru_iload d_RT_clash_24 rfl ?_
      refine ru_aload_n d_RT_clash_26 rfl rfl ?_
      refine ru_getR d_RT_clash_27 lf_RT_51 (ly hL 256 0 0) rfl hr ?_
      refine ru_getI d_RT_clash_30 lf_RT_147 (ly_b hL hb) rfl ?_
      refine ru_eqi hl.1 ?_
      refine ru_icmp_ge (tgt := 104) d_RT_clash_33 (by decide) (fun h33 => absurd h33 (nI_ge (by omega) (by omega))) (fun h33 => ?_)
      replace h33 := nm_nle (a := L.length) (b := a) (by omega) (by omega) h33
      refine ru_iload d_RT_clash_36 rfl ?_
      refine ru_iconst (v := 1) d_RT_clash_38 (by decide) ?_
      refine ru_iadd d_RT_clash_39 ?_
      refine ru_eqi (nm_add a 1 : _ = nI (a + 1)) ?_
      refine ru_istore d_RT_clash_40 (by decide) ?_
      refine ru_to (inner _ a (by omega) (L.length - (a + 1)) (a + 1) c x (by omega) (by omega) rfl hc ?_ ?_) ⟨rfl, rfl, rfl, rfl, rfl, rfl, trivial⟩
      · intro c' x' hc' e
        rw [e]
        refine ru_iinc (v := nI (a + 1)) d_RT_clash_98 rfl (nm_inc _ 1) (by decide) ?_
        refine ru_goto (tgt := 24) d_RT_clash_101 (by decide) ?_
        exact ru_to (ih (a + 1) c' x' (by omega) (by omega) hc') ⟨rfl, rfl, rfl, rfl, rfl, trivial⟩
      · intro b' e
        rw [e]
        exact ⟨rfl, rfl⟩
  refine ru_iload_n d_RT_clash_0 rfl rfl ?_
  refine ru_if_lt (tgt := 9) d_RT_clash_1 (by decide) (fun h1 => absurd h1 (nI_pos (by omega))) (fun h1 => ?_)
  replace h1 := nm_nlt (a := w) (b := 0) (by omega) (by omega) h1
  refine ru_iload_n d_RT_clash_4 rfl rfl ?_
  refine ru_iconst (v := 1) d_RT_clash_5 (by decide) ?_
  refine ru_icmp_le (tgt := 19) d_RT_clash_6 (by decide) (fun h6 => ?_) (fun h6 => absurd (nI_le (a := w) (b := 1) (by omega) (by decide)) h6)
  replace h6 := nm_le (a := w) (b := 1) (by omega) (by omega) h6
  refine ru_iconst (v := 0) d_RT_clash_19 (by decide) ?_
  refine ru_istore_n d_RT_clash_20 rfl (by decide) ?_
  refine ru_iconst (v := 0) d_RT_clash_21 (by decide) ?_
  refine ru_istore d_RT_clash_22 (by decide) ?_
  exact ru_to (outer L.length 0 K 0 (by omega) rfl (by omega)) ⟨rfl, rfl, rfl, rfl, rfl, trivial⟩
theorem sp_clashN {k : Int32} {w : Nat} (hL : LAY nx ct mr) (hr : mr 256 5 = some b) (hb : isLst b) (hl : LsI mi ml mr b L) (hk : k < 0) (hw : w < 2) : rx_Calls y_RT_clash M_RT_clash 4 0 0 [.ref 256, .int k, .int (nI w)] (nx, ct, mi, ml, mr) (fun v τ => v = some (.int (-1)) ∧ τ = (nx, ct, mi, ml, mr)) := by
  refine rx_enter (by decide) rfl rfl (Nat.le_of_ble_eq_true rfl) ?_
  have l2 := hl.2.1
  have inner : ∀ (post : rx_End) (a : Nat), a < L.length → ∀ f i x, i ≤ L.length → a < i → f = L.length - i → x ≤ 60 * a + i → (∀ x', x' ≤ 60 * (a + 1) → rx_W M_RT_clash 4 0 0 98 [(0, .ref 256), (1, .int k), (2, .int (nI w)), (3, .int (nI x')), (4, .int (nI a))] [] (nx, ct, mi, ml, mr) post) →
      rx_W M_RT_clash 4 0 0 42 [(0, .ref 256), (1, .int k), (2, .int (nI w)), (3, .int (nI x)), (4, .int (nI a)), (5, .int (nI i))] [] (nx, ct, mi, ml, mr) post := by
    intro post a ha f
    induction f with
    | zero =>
      intro i x hi hai hf hc h1
      refine ru_iload d_RT_clash_42 rfl ?_
      refine ru_aload_n d_RT_clash_44 rfl rfl ?_
      refine ru_getR d_RT_clash_45 lf_RT_51 (ly hL 256 0 0) rfl hr ?_
      refine ru_getI d_RT_clash_48 lf_RT_147 (ly_b hL hb) rfl ?_
      refine ru_eqi hl.1 ?_
      refine ru_icmp_ge (tgt := 98) d_RT_clash_51 (by decide) (fun h51 => ?_) (fun h51 => absurd (nI_le (by omega) (by omega)) h51)
      replace h51 := nm_le (a := L.length) (b := i) (by omega) (by omega) h51
      exact ru_to (h1 x (by omega)) ⟨rfl, rfl, rfl, rfl, rfl, trivial⟩
    | succ f ih =>
      intro i x hi hai hf hc h1
      refine ru_iload d_RT_clash_42 rfl ?_
      refine ru_aload_n d_RT_clash_44 rfl rfl ?_
      refine ru_getR d_RT_clash_45 lf_RT_51 (ly hL 256 0 0) rfl hr ?_
      refine ru_getI d_RT_clash_48 lf_RT_147 (ly_b hL hb) rfl ?_
      refine ru_eqi hl.1 ?_
      refine ru_icmp_ge (tgt := 98) d_RT_clash_51 (by decide) (fun h51 => absurd h51 (nI_ge (by omega) (by omega))) (fun h51 => ?_)
      replace h51 := nm_nle (a := L.length) (b := i) (by omega) (by omega) h51
      refine ru_aload_n d_RT_clash_54 rfl rfl ?_
      refine ru_getR d_RT_clash_55 lf_RT_51 (ly hL 256 0 0) rfl hr ?_
      refine ru_iload d_RT_clash_58 rfl ?_
      refine ru_iload d_RT_clash_60 rfl ?_
      refine ru_aload_n d_RT_clash_62 rfl rfl ?_
      refine ru_getR d_RT_clash_63 lf_RT_19 (ly hL 256 0 0) rfl (lr hL 256 1 260) ?_
      refine ru_callV (mc := 0) (ms := 0) d_RT_clash_66 lm_RT_156 (sp_areAtOdds hL hb hl (by omega) (by omega)) (rx_recv_is (ly_b hL hb) kx_RL) (by decide) rfl (Nat.le_of_ble_eq_true rfl) ?_
      intro v τ h
      obtain ⟨rfl, rfl⟩ := h
      refine ru_if_eq (tgt := 92) d_RT_clash_69 (by decide) (fun h69 => ?_) (fun h69 => ?_)
      · skip
        replace h69 := bI_eq0.mp h69
        refine ru_iinc (v := nI (i + 1)) d_RT_clash_92 rfl (nm_inc _ 1) (by decide) ?_
        refine ru_goto (tgt := 42) d_RT_clash_95 (by decide) ?_
        exact ru_to (ih (i + 1) _ (by omega) (by omega) (by omega) (by omega) h1) ⟨rfl, rfl, rfl, rfl, rfl, rfl, trivial⟩
      · skip
        replace h69 := bI_ne0.mp h69
        refine ru_iload_n d_RT_clash_72 rfl rfl ?_
        refine ru_iload_n d_RT_clash_73 rfl rfl ?_
        refine ru_icmp_ne (tgt := 89) d_RT_clash_74 (by decide) (fun h74 => ?_) (fun h74 => absurd h74 (nI_neg hk (by omega)))
        refine ru_iinc (v := nI (x + 1)) d_RT_clash_89 rfl (nm_inc _ 1) (by decide) ?_
        refine ru_iinc (v := nI (i + 1)) d_RT_clash_92 rfl (nm_inc _ 1) (by decide) ?_
        refine ru_goto (tgt := 42) d_RT_clash_95 (by decide) ?_
        exact ru_to (ih (i + 1) _ (by omega) (by omega) (by omega) (by omega) h1) ⟨rfl, rfl, rfl, rfl, rfl, rfl, trivial⟩
  have outer : ∀ f a x, a ≤ L.length → f = L.length - a → x ≤ 60 * a → rx_W M_RT_clash 4 0 0 24 [(0, .ref 256), (1, .int k), (2, .int (nI w)), (3, .int (nI x)), (4, .int (nI a))] [] (nx, ct, mi, ml, mr) (pR (fun v τ => v = some (.int (-1)) ∧ τ = (nx, ct, mi, ml, mr))) := by
    intro f
    induction f with
    | zero =>
      intro a x ha hf hc
      refine ru_iload d_RT_clash_24 rfl ?_
      refine ru_aload_n d_RT_clash_26 rfl rfl ?_
      refine ru_getR d_RT_clash_27 lf_RT_51 (ly hL 256 0 0) rfl hr ?_
      refine ru_getI d_RT_clash_30 lf_RT_147 (ly_b hL hb) rfl ?_
      refine ru_eqi hl.1 ?_
      refine ru_icmp_ge (tgt := 104) d_RT_clash_33 (by decide) (fun h33 => ?_) (fun h33 => absurd (nI_le (by omega) (by omega)) h33)
      replace h33 := nm_le (a := L.length) (b := a) (by omega) (by omega) h33
      refine ru_iconst (v := (-1)) d_RT_clash_104 (by decide) ?_
      refine ru_iret d_RT_clash_105 rfl ?_
      exact ⟨rfl, rfl⟩
    | succ f ih =>
      intro a x ha hf hc
      refine ru_iload d_RT_clash_24 rfl ?_
      refine ru_aload_n d_RT_clash_26 rfl rfl ?_
      refine ru_getR d_RT_clash_27 lf_RT_51 (ly hL 256 0 0) rfl hr ?_
      refine ru_getI d_RT_clash_30 lf_RT_147 (ly_b hL hb) rfl ?_
      refine ru_eqi hl.1 ?_
      refine ru_icmp_ge (tgt := 104) d_RT_clash_33 (by decide) (fun h33 => absurd h33 (nI_ge (by omega) (by omega))) (fun h33 => ?_)
      replace h33 := nm_nle (a := L.length) (b := a) (by omega) (by omega) h33
      refine ru_iload d_RT_clash_36 rfl ?_
      refine ru_iconst (v := 1) d_RT_clash_38 (by decide) ?_
      refine ru_iadd d_RT_clash_39 ?_
      refine ru_eqi (nm_add a 1 : _ = nI (a + 1)) ?_
      refine ru_istore d_RT_clash_40 (by decide) ?_
      refine ru_to (inner _ a (by omega) (L.length - (a + 1)) (a + 1) x (by omega) (by omega) rfl (by omega) ?_) ⟨rfl, rfl, rfl, rfl, rfl, rfl, trivial⟩
      intro x' hc'
      refine ru_iinc (v := nI (a + 1)) d_RT_clash_98 rfl (nm_inc _ 1) (by decide) ?_
      refine ru_goto (tgt := 24) d_RT_clash_101 (by decide) ?_
      exact ru_to (ih (a + 1) x' (by omega) (by omega) (by omega)) ⟨rfl, rfl, rfl, rfl, rfl, trivial⟩
  refine ru_iload_n d_RT_clash_0 rfl rfl ?_
  refine ru_if_lt (tgt := 9) d_RT_clash_1 (by decide) (fun h1 => absurd h1 (nI_pos (by omega))) (fun h1 => ?_)
  replace h1 := nm_nlt (a := w) (b := 0) (by omega) (by omega) h1
  refine ru_iload_n d_RT_clash_4 rfl rfl ?_
  refine ru_iconst (v := 1) d_RT_clash_5 (by decide) ?_
  refine ru_icmp_le (tgt := 19) d_RT_clash_6 (by decide) (fun h6 => ?_) (fun h6 => absurd (nI_le (a := w) (b := 1) (by omega) (by decide)) h6)
  replace h6 := nm_le (a := w) (b := 1) (by omega) (by omega) h6
  refine ru_iconst (v := 0) d_RT_clash_19 (by decide) ?_
  refine ru_istore_n d_RT_clash_20 rfl (by decide) ?_
  refine ru_iconst (v := 0) d_RT_clash_21 (by decide) ?_
  refine ru_istore d_RT_clash_22 (by decide) ?_
  exact ru_to (outer L.length 0 0 (by omega) rfl (by omega)) ⟨rfl, rfl, rfl, rfl, rfl, trivial⟩
end
