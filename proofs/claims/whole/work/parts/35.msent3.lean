/-! The reference reads a sentence, from its kind on; where a wrong word can stand -/
section
variable {nx : Nat} {ct : Nat → Nat × Nat} {m0 mi : Nat → Nat → Int32} {ml : Nat → Nat → Int64} {mr : Nat → Nat → Option Nat} {n m : Nat} {t : Nat → Int32}
def kX (o : Option Nat) (k : Nat) : Int32 := match o with
  | none => -1
  | some κ => if κ < k then nI κ else -1
theorem kX_s {o : Option Nat} {k : Nat} : (o = some k → kX o (k + 1) = nI k) ∧ (¬ o = some k → kX o (k + 1) = kX o k) := by
  cases o with
  | none => exact ⟨(fun h => by cases h), fun _ => rfl⟩
  | some κ =>
    refine ⟨fun h => ?_, fun h => ?_⟩
    · cases h
      exact if_pos (by omega)
    · have hne : ¬ κ = k := fun e => h (by rw [e])
      show (if κ < k + 1 then _ else _) = (if κ < k then _ else _)
      by_cases q : κ < k
      · rw [if_pos q, if_pos (by omega)]
      · rw [if_neg q, if_neg (by omega)]
theorem lnF_le (t : Nat → Int32) : ∀ i, lnF t i ≤ i
  | 0 => Nat.le_refl 0
  | i + 1 => by
    unfold lnF
    have := lnF_le t i
    split <;> omega
theorem pSent_eq {N : nmS} {j κ : Nat} (e : knd n t j = some κ) : pSent N n t j = scR N n t κ (j + 1) (lnF t (tk n t j).1) := by
  unfold pSent scR ruM
  rw [e]
  dsimp only
  cases pScope N n t κ (j + 1) with
  | inl k => rfl
  | inr q =>
    dsimp only
    cases rRest N n t κ q.2 with
    | inl k => rfl
    | inr q => rfl
theorem sq_sentence {N : nmS} {A j : Nat} (hL : LAY nx ct mr) (h : PMs n m t m0) (hN : NmM N m0) (hA : m0 398 14 = nI A) (hA2 : A + 12 ≤ 1440) (hj : j < m) : rx_Calls y_Mo_sentence M_Mo_sentence 5 0 0 [.ref 398] (nx, ct, mS m0 (nI j) (-1), ml, mr) (snP (pSent N n t j) (j + 21) A nx ct m0 ml mr) := by
  refine rx_enter (by decide) rfl rfl (Nat.le_of_ble_eq_true rfl) ?_
  have hmn := h.2.2.2.2.2.1
  have hn := h.2.2.1
  have hA' : ∀ w g, mS m0 w g 398 14 = nI A := fun w g => by rw [mS_k]; exact hA
  have a7 : ∀ w g, mS m0 w g 405 j = nI (tk n t j).1 := fun w g => by rw [mS_r]; exact (h.2.2.2.2.2.2.1 j hj).1
  have hle := tk_le (n := n) (t := t) j
  have ht : ∀ w g, mS m0 w g 399 = t := fun w g => by rw [mS_r]; exact h.2.1
  -- the row is set
  have fill : ∀ κ, κ < 13 → knd n t j = some κ → ∀ f k (mlx : Nat → Nat → Int64), 1 ≤ k → k ≤ 10 → f = 10 - k → fL (vRow A) ml mlx → mlx 404 A = Int64.ofNat κ → (∀ x, 1 ≤ x → x < k → mlx 404 (A + x) = -1) → rx_W M_Mo_sentence 5 0 0 61 [(0, .ref 398), (1, .int (nI κ)), (2, .int (nI k))] [] (nx, ct, mS m0 (nI j) (-1), mlx, mr) (pR (snP (pSent N n t j) (j + 21) A nx ct m0 ml mr)) := by
    intro κ hκ e f
    induction f with
    | zero =>
      intro k mlx h1 h2 hf hfr hk0 hx
      have hk10 : k = 10 := by omega
      subst hk10
      refine ru_iload_n d_Mo_sentence_61 rfl rfl ?_
      refine ru_bipush (v := 10) d_Mo_sentence_62 (by decide) ?_
      refine ru_icmp_ge (tgt := 87) d_Mo_sentence_64 (by decide) (fun h64 => ?_) (fun h64 => absurd h64 (by decide))
      refine ru_aload_n d_Mo_sentence_87 rfl rfl ?_
      refine ru_getR d_Mo_sentence_88 lf_Mo_27 (ly hL 398 9 0) rfl (lr hL 398 8 404) ?_
      refine ru_aload_n d_Mo_sentence_91 rfl rfl ?_
      refine ru_getI d_Mo_sentence_92 lf_Mo_101 (ly hL 398 9 0) rfl ?_
      refine ru_eqi (hA' _ _) ?_
      refine ru_iconst (v := 5) d_Mo_sentence_95 (by decide) ?_
      refine ru_iadd d_Mo_sentence_96 ?_
      refine ru_eqi (nm_add A 5 : _ = nI (A + 5)) ?_
      refine ru_lconst (v := 0) d_Mo_sentence_97 (by decide) ?_
      refine ru_lastN (j := (A + 5)) d_Mo_sentence_98 (ly hL 404 104 1440) (by omega) (by decide) ?_
      refine ru_aload_n d_Mo_sentence_99 rfl rfl ?_
      refine ru_getR d_Mo_sentence_100 lf_Mo_27 (ly hL 398 9 0) rfl (lr hL 398 8 404) ?_
      refine ru_aload_n d_Mo_sentence_103 rfl rfl ?_
      refine ru_getI d_Mo_sentence_104 lf_Mo_101 (ly hL 398 9 0) rfl ?_
      refine ru_eqi (hA' _ _) ?_
      refine ru_bipush (v := 7) d_Mo_sentence_107 (by decide) ?_
      refine ru_iadd d_Mo_sentence_109 ?_
      refine ru_eqi (nm_add A 7 : _ = nI (A + 7)) ?_
      refine ru_lconst (v := 0) d_Mo_sentence_110 (by decide) ?_
      refine ru_lastN (j := (A + 7)) d_Mo_sentence_111 (ly hL 404 104 1440) (by omega) (by decide) ?_
      refine ru_aload_n d_Mo_sentence_112 rfl rfl ?_
      refine ru_getR d_Mo_sentence_113 lf_Mo_27 (ly hL 398 9 0) rfl (lr hL 398 8 404) ?_
      refine ru_aload_n d_Mo_sentence_116 rfl rfl ?_
      refine ru_getI d_Mo_sentence_117 lf_Mo_101 (ly hL 398 9 0) rfl ?_
      refine ru_eqi (hA' _ _) ?_
      refine ru_bipush (v := 10) d_Mo_sentence_120 (by decide) ?_
      refine ru_iadd d_Mo_sentence_122 ?_
      refine ru_eqi (nm_add A 10 : _ = nI (A + 10)) ?_
      refine ru_aload_n d_Mo_sentence_123 rfl rfl ?_
      refine ru_aload_n d_Mo_sentence_124 rfl rfl ?_
      refine ru_getR d_Mo_sentence_125 lf_Mo_30 (ly hL 398 9 0) rfl (lr hL 398 10 405) ?_
      refine ru_aload_n d_Mo_sentence_128 rfl rfl ?_
      refine ru_getI d_Mo_sentence_129 lf_Mo_59 (ly hL 398 9 0) rfl ?_
      refine ru_eqi mS_w ?_
      refine ru_ialdN (j := j) d_Mo_sentence_132 (ly hL 405 100 3001) (by omega) (by decide) ?_
      refine ru_eqi (a7 _ _) ?_
      refine ru_callV (mc := 0) (ms := 0) d_Mo_sentence_133 lm_Mo_162 (sp_Mo_lineOf hL (ht _ _) (by omega)) (rx_recv_is (ly hL 398 9 0) kx_Mo) (by decide) rfl (Nat.le_of_ble_eq_true rfl) ?_
      intro v τ h
      obtain ⟨rfl, rfl⟩ := h
      refine ru_i2l d_Mo_sentence_136 ?_
      refine ru_lastN (j := (A + 10)) d_Mo_sentence_137 (ly hL 404 104 1440) (by omega) (by decide) ?_
      refine ru_aload_n d_Mo_sentence_138 rfl rfl ?_
      refine ru_dup d_Mo_sentence_139 rfl ?_
      refine ru_getI d_Mo_sentence_140 lf_Mo_59 (ly hL 398 9 0) rfl ?_
      refine ru_eqi mS_w ?_
      refine ru_iconst (v := 1) d_Mo_sentence_143 (by decide) ?_
      refine ru_iadd d_Mo_sentence_144 ?_
      refine ru_eqi (nm_add j 1 : _ = nI (j + 1)) ?_
      refine ru_putI d_Mo_sentence_145 lf_Mo_59 (ly hL 398 9 0) rfl (fun q hq => by cases hq; exact Or.inl rfl) ⟨rfl, rfl⟩ ?_
      rw [mS_sw, pSent_eq e]
      have hfr2 : fL (vRow A) ml (rx_u (rx_u (rx_u mlx 404 (A + 5) 0) 404 (A + 7) 0) 404 (A + 10) (nI (lnF t (tk n t j).1)).toInt64) := ((hfr.set 0 ⟨by omega, by omega⟩).set 0 ⟨by omega, by omega⟩).set _ ⟨by omega, by omega⟩
      refine ru_to (ru_post ?_ (se_scope (J := j + 21) hL h hN hA hA2 hκ (ln := lnF t (tk n t j).1) ?_ (by omega) (by omega))) ⟨rfl, rfl, trivial⟩
      · intro v τ z
        obtain ⟨z1, z2⟩ := z
        refine ⟨z1, ?_⟩
        cases e9 : scR N n t κ (j + 1) (lnF t (tk n t j).1) with
        | inl k => rw [e9] at z2; obtain ⟨x1, x2, x3, x4, x5⟩ := z2; exact ⟨x1, x2, x3, x4, hfr2.trans x5 (fun _ q => q) (fun _ q => q)⟩
        | inr q => rw [e9] at z2; obtain ⟨x1, x2, x3, x4⟩ := z2; exact ⟨x1, x2, hfr2.trans x3 (fun _ q => q) (fun _ q => q), x4⟩
      · refine ⟨?_, fun x hx1 hx2 hx5 hx7 => ?_, ?_, ?_, ?_⟩
        · rw [rx_u_k _ _ (by omega), rx_u_k _ _ (by omega), rx_u_k _ _ (by omega)]; exact hk0
        · rw [rx_u_k _ _ (by omega), rx_u_k _ _ (by omega), rx_u_k _ _ (by omega)]; exact hx x hx1 (by omega)
        · rw [rx_u_k _ _ (by omega), rx_u_k _ _ (by omega), rx_u_same]
        · rw [rx_u_k _ _ (by omega), rx_u_same]
        · rw [rx_u_same]; exact nl_i2l (Nat.lt_of_le_of_lt (lnF_le t _) (by omega))
    | succ f ih =>
      intro k mlx h1 h2 hf hfr hk0 hx
      refine ru_iload_n d_Mo_sentence_61 rfl rfl ?_
      refine ru_bipush (v := 10) d_Mo_sentence_62 (by decide) ?_
      refine ru_icmp_ge (tgt := 87) d_Mo_sentence_64 (by decide) (fun h64 => absurd h64 (nI_ge (b := 10) (by omega) (by omega))) (fun h64 => ?_)
      replace h64 := nm_nle (a := 10) (b := k) (by omega) (by omega) h64
      refine ru_aload_n d_Mo_sentence_67 rfl rfl ?_
      refine ru_getR d_Mo_sentence_68 lf_Mo_27 (ly hL 398 9 0) rfl (lr hL 398 8 404) ?_
      refine ru_aload_n d_Mo_sentence_71 rfl rfl ?_
      refine ru_getI d_Mo_sentence_72 lf_Mo_101 (ly hL 398 9 0) rfl ?_
      refine ru_eqi (hA' _ _) ?_
      refine ru_iload_n d_Mo_sentence_75 rfl rfl ?_
      refine ru_iadd d_Mo_sentence_76 ?_
      refine ru_eqi (nm_add A k : _ = nI (A + k)) ?_
      refine ru_ldc2 d_Mo_sentence_77 lc_Mo_66 ?_
      refine ru_lastN (j := (A + k)) d_Mo_sentence_80 (ly hL 404 104 1440) (by omega) (by decide) ?_
      refine ru_iinc (v := nI (k + 1)) d_Mo_sentence_81 rfl (nm_inc _ 1) (by decide) ?_
      refine ru_goto (tgt := 61) d_Mo_sentence_84 (by decide) ?_
      refine ru_to (ih (k + 1) _ (by omega) (by omega) (by omega) (hfr.set _ ⟨by omega, by omega⟩) ?_ ?_) ⟨rfl, rfl, rfl, trivial⟩
      · rw [rx_u_k _ _ (by omega)]; exact hk0
      · intro x hx1 hx2
        by_cases ex : x = k
        · subst ex; rw [rx_u_same]
        · rw [rx_u_k _ _ (by omega)]; exact hx x hx1 (by omega)
  -- the kind is found
  have loop : ∀ f k, k ≤ 13 → f = 13 - k → rx_W M_Mo_sentence 5 0 0 4 [(0, .ref 398), (1, .int (kX (knd n t j) k)), (2, .int (nI k))] [] (nx, ct, mS m0 (nI j) (-1), ml, mr) (pR (snP (pSent N n t j) (j + 21) A nx ct m0 ml mr)) := by
    intro f
    induction f with
    | zero =>
      intro k hk hf
      have hk13 : k = 13 := by omega
      subst hk13
      cases e : knd n t j with
      | none =>
        have ep : pSent N n t j = .inl j := by unfold pSent; rw [e]
        rw [ep]
        refine ru_iload_n d_Mo_sentence_4 rfl rfl ?_
        refine ru_bipush (v := 12) d_Mo_sentence_5 (by decide) ?_
        refine ru_icmp_gt (tgt := 34) d_Mo_sentence_7 (by decide) (fun h7 => ?_) (fun h7 => absurd h7 (by decide))
        refine ru_iload_n d_Mo_sentence_34 rfl rfl ?_
        refine ru_iconst (v := (-1)) d_Mo_sentence_35 (by decide) ?_
        refine ru_icmp_ne (tgt := 48) d_Mo_sentence_36 (by decide) (fun h36 => absurd rfl h36) (fun h36 => ?_)
        refine ru_aload_n d_Mo_sentence_39 rfl rfl ?_
        refine ru_aload_n d_Mo_sentence_40 rfl rfl ?_
        refine ru_getI d_Mo_sentence_41 lf_Mo_59 (ly hL 398 9 0) rfl ?_
        refine ru_eqi mS_w ?_
        refine ru_callV (mc := 0) (ms := 0) d_Mo_sentence_44 lm_Mo_87 (sq_fail hL _) (rx_recv_is (ly hL 398 9 0) kx_Mo) (by decide) rfl (Nat.le_of_ble_eq_true rfl) ?_
        intro v τ h
        obtain ⟨rfl, rfl⟩ := h
        refine ru_vret d_Mo_sentence_47 rfl ?_
        exact ⟨rfl, ml, j, rfl, by omega, fL.refl _ _⟩
      | some κ =>
        have hκ := knd_lt e
        have ex : kX (some κ) 13 = nI κ := if_pos hκ
        rw [ex]
        refine ru_iload_n d_Mo_sentence_4 rfl rfl ?_
        refine ru_bipush (v := 12) d_Mo_sentence_5 (by decide) ?_
        refine ru_icmp_gt (tgt := 34) d_Mo_sentence_7 (by decide) (fun h7 => ?_) (fun h7 => absurd h7 (by decide))
        refine ru_iload_n d_Mo_sentence_34 rfl rfl ?_
        refine ru_iconst (v := (-1)) d_Mo_sentence_35 (by decide) ?_
        refine ru_icmp_ne (tgt := 48) d_Mo_sentence_36 (by decide) (fun h36 => ?_) (fun h36 => absurd h36 (nI_m1 (by omega)))
        refine ru_aload_n d_Mo_sentence_48 rfl rfl ?_
        refine ru_getR d_Mo_sentence_49 lf_Mo_27 (ly hL 398 9 0) rfl (lr hL 398 8 404) ?_
        refine ru_aload_n d_Mo_sentence_52 rfl rfl ?_
        refine ru_getI d_Mo_sentence_53 lf_Mo_101 (ly hL 398 9 0) rfl ?_
        refine ru_eqi (hA' _ _) ?_
        refine ru_iload_n d_Mo_sentence_56 rfl rfl ?_
        refine ru_i2l d_Mo_sentence_57 ?_
        refine ru_eql (nl_i2l (a := κ) (by omega)) ?_
        refine ru_lastN (j := A) d_Mo_sentence_58 (ly hL 404 104 1440) (by omega) (by decide) ?_
        refine ru_iconst (v := 1) d_Mo_sentence_59 (by decide) ?_
        refine ru_istore_n d_Mo_sentence_60 rfl (by decide) ?_
        exact ru_to (fill κ hκ e 9 1 _ (by omega) (by omega) rfl ((fL.refl _ ml).set _ ⟨by omega, by omega⟩) (by rw [rx_u_same]) (fun x hx1 hx2 => by omega)) ⟨rfl, rfl, rfl, trivial⟩
    | succ f ih =>
      intro k hk hf
      have hw : wOK (rx_kw k - 30) (kwV k) := wv_k k (by omega)
      have hi := knd_iff (n := n) (t := t) (j := j) (i := k) (by omega)
      have ih' := ih (k + 1) (by omega) (by omega)
      generalize hX : kX (knd n t j) k = X
      refine ru_iload_n d_Mo_sentence_4 rfl rfl ?_
      refine ru_bipush (v := 12) d_Mo_sentence_5 (by decide) ?_
      refine ru_icmp_gt (tgt := 34) d_Mo_sentence_7 (by decide) (fun h7 => absurd h7 (fun z => by have := nm_lt (a := 12) (b := k) (by omega) (by omega) z; omega)) (fun h7 => ?_)
      replace h7 := nm_nlt (a := 12) (b := k) (by omega) (by omega) h7
      refine ru_aload_n d_Mo_sentence_10 rfl rfl ?_
      refine ru_callV (mc := 0) (ms := 0) d_Mo_sentence_11 lm_Mo_79 (sp_Mo_spelt hL (h.mS _ _) mS_w (by omega)) (rx_recv_is (ly hL 398 9 0) kx_Mo) (by decide) rfl (Nat.le_of_ble_eq_true rfl) ?_
      intro v τ h
      obtain ⟨rfl, rfl⟩ := h
      refine ru_iload_n d_Mo_sentence_14 rfl rfl ?_
      refine ru_callS (mc := 0) (ms := 0) d_Mo_sentence_15 lm_Mo_158 (sp_Mo_kindWord (by omega) _) (by decide) rfl (Nat.le_of_ble_eq_true rfl) ?_
      intro v τ h
      obtain ⟨rfl, rfl⟩ := h
      refine ru_lcmp d_Mo_sentence_18 ?_
      refine ru_if_ne (tgt := 26) d_Mo_sentence_19 (by decide) (fun h19 => ?_) (fun h19 => ?_)
      · skip
        replace h19 := fun q => h19 ((lg_cmp_eq _ _).mpr q)
        refine ru_iload_n d_Mo_sentence_26 rfl rfl ?_
        refine ru_istore_n d_Mo_sentence_27 rfl (by decide) ?_
        refine ru_iinc (v := nI (k + 1)) d_Mo_sentence_28 rfl (nm_inc _ 1) (by decide) ?_
        refine ru_goto (tgt := 4) d_Mo_sentence_31 (by decide) ?_
        first | (rw [kX_s.1 (hi.mp (hw.iff.mp h19))] at ih'; exact ru_to ih' ⟨rfl, rfl, rfl, trivial⟩) | (rw [kX_s.2 (fun z => h19 (hw.iff.mpr (hi.mpr z))), hX] at ih'; exact ru_to ih' ⟨rfl, rfl, rfl, trivial⟩)
      · skip
        replace h19 := (lg_cmp_eq _ _).mp h19
        refine ru_iload_n d_Mo_sentence_22 rfl rfl ?_
        refine ru_goto (tgt := 27) d_Mo_sentence_23 (by decide) ?_
        refine ru_istore_n d_Mo_sentence_27 rfl (by decide) ?_
        refine ru_iinc (v := nI (k + 1)) d_Mo_sentence_28 rfl (nm_inc _ 1) (by decide) ?_
        refine ru_goto (tgt := 4) d_Mo_sentence_31 (by decide) ?_
        first | (rw [kX_s.1 (hi.mp (hw.iff.mp h19))] at ih'; exact ru_to ih' ⟨rfl, rfl, rfl, trivial⟩) | (rw [kX_s.2 (fun z => h19 (hw.iff.mpr (hi.mpr z))), hX] at ih'; exact ru_to ih' ⟨rfl, rfl, rfl, trivial⟩)
  refine ru_iconst (v := (-1)) d_Mo_sentence_0 (by decide) ?_
  refine ru_istore_n d_Mo_sentence_1 rfl (by decide) ?_
  refine ru_iconst (v := 0) d_Mo_sentence_2 (by decide) ?_
  refine ru_istore_n d_Mo_sentence_3 rfl (by decide) ?_
  exact ru_to (loop 13 0 (by omega) rfl) ⟨rfl, by cases knd n t j <;> rfl, rfl, trivial⟩
end
