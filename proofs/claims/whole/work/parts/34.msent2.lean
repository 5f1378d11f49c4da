/-! The reference reads a sentence, all of it -/
def rowI (ml : Nat → Nat → Int64) (A : Nat) (q : ruS) : Prop := ml 404 A = Int64.ofNat q.1 ∧ (ml 404 (A + 1) = (kO q.2.1.1).toInt64 ∧ ml 404 (A + 2) = (tO q.2.1.1).toInt64 ∧ ml 404 (A + 3) = (kO q.2.1.2).toInt64 ∧ ml 404 (A + 4) = (tO q.2.1.2).toInt64) ∧ reI ml A (q.2.2.1, q.2.2.2.1, q.2.2.2.2.1, q.2.2.2.2.2.1) ∧ ml 404 (A + 10) = Int64.ofNat q.2.2.2.2.2.2
abbrev vRow (A : Nat) : Nat → Prop := fun i => A ≤ i ∧ i < A + 12
def snP (r : Nat ⊕ (ruS × Nat)) (J A : Nat) (nx : Nat) (ct : Nat → Nat × Nat) (m0 : Nat → Nat → Int32) (ml : Nat → Nat → Int64) (mr : Nat → Nat → Option Nat) : Option Value → rx_S → Prop := fun v τ => v = none ∧ match r with
  | .inr (q, j') => ∃ ml', τ = (nx, ct, mS m0 (nI j') (-1), ml', mr) ∧ fL (vRow A) ml ml' ∧ rowI ml' A q
  | .inl k => ∃ ml' w, τ = (nx, ct, mS m0 (nI w) (nI k), ml', mr) ∧ w ≤ J ∧ fL (vRow A) ml ml'
/-- what is set before the things are read: kind, things, line -/
def scI (ml : Nat → Nat → Int64) (A κ : Nat) (s : Option Nat × Option Nat) (ln : Nat) : Prop := ml 404 A = Int64.ofNat κ ∧ (ml 404 (A + 1) = (kO s.1).toInt64 ∧ ml 404 (A + 2) = (tO s.1).toInt64 ∧ ml 404 (A + 3) = (kO s.2).toInt64 ∧ ml 404 (A + 4) = (tO s.2).toInt64) ∧ ml 404 (A + 10) = Int64.ofNat ln
noncomputable def ruM (κ : Nat) (s : Option Nat × Option Nat) (ln : Nat) (r : Nat ⊕ (reS × Nat)) : Nat ⊕ (ruS × Nat) := match r with
  | .inl k => .inl k
  | .inr (q, j2) => .inr ((κ, s, q.1, q.2.1, q.2.2.1, q.2.2.2, ln), j2)
noncomputable def scR (N : nmS) (n : Nat) (t : Nat → Int32) (κ j ln : Nat) : Nat ⊕ (ruS × Nat) := match pScope N n t κ j with
  | .inl k => .inl k
  | .inr (s, j1) => ruM κ s ln (rRest N n t κ j1)
section
variable {nx : Nat} {ct : Nat → Nat × Nat} {m0 mi : Nat → Nat → Int32} {ml : Nat → Nat → Int64} {mr : Nat → Nat → Option Nat} {n m : Nat} {t : Nat → Int32}
theorem sn_of {r : Nat ⊕ (reS × Nat)} {J A κ ln : Nat} {s : Option Nat × Option Nat} {ml2 : Nat → Nat → Int64} {v : Option Value} {τ : rx_S} (hf : fL (vRow A) ml ml2) (hs : scI ml2 A κ s ln) (z : seP r J A nx ct m0 ml2 mr v τ) : snP (ruM κ s ln r) J A nx ct m0 ml mr v τ := by
  obtain ⟨z1, z2⟩ := z
  refine ⟨z1, ?_⟩
  cases r with
  | inl k =>
    obtain ⟨ml', w, a1, a2, a3⟩ := z2
    exact ⟨ml', w, a1, a2, hf.trans a3 (fun _ q => q) (fun i q => ⟨by have := q.1; omega, by have := q.2; omega⟩)⟩
  | inr q =>
    obtain ⟨q, j2⟩ := q
    obtain ⟨ml', a1, a2, a3⟩ := z2
    obtain ⟨s1, ⟨s2, s3, s4, s5⟩, s6⟩ := hs
    have k : ∀ x, (x < 5 ∨ 9 < x) → ml' 404 (A + x) = ml2 404 (A + x) := fun x hx => a2.2 _ (by unfold v59; omega)
    exact ⟨ml', a1, hf.trans a2 (fun _ q => q) (fun i q => ⟨by have := q.1; omega, by have := q.2; omega⟩), (k 0 (by omega)).trans s1, ⟨(k 1 (by omega)).trans s2, (k 2 (by omega)).trans s3, (k 3 (by omega)).trans s4, (k 4 (by omega)).trans s5⟩, a3, (k 10 (by omega)).trans s6⟩
theorem sn_bad {J A k : Nat} {ml2 : Nat → Nat → Int64} {v : Option Value} {τ : rx_S} (hf : fL (vRow A) ml ml2) (z : seP (.inl k) J A nx ct m0 ml2 mr v τ) : snP (.inl k) J A nx ct m0 ml mr v τ := by
  obtain ⟨z1, ml', w, a1, a2, a3⟩ := z
  exact ⟨z1, ml', w, a1, a2, hf.trans a3 (fun _ q => q) (fun i q => ⟨by have := q.1; omega, by have := q.2; omega⟩)⟩
theorem m1_64 : (-1 : Int64) = (kO none).toInt64 := by decide
theorem m1_64t : (-1 : Int64) = (tO none).toInt64 := by decide
/-- the row as it is set at first -/
def iniI (ml : Nat → Nat → Int64) (A κ ln : Nat) : Prop := ml 404 A = Int64.ofNat κ ∧ (∀ x, 1 ≤ x → x ≤ 9 → x ≠ 5 → x ≠ 7 → ml 404 (A + x) = -1) ∧ ml 404 (A + 5) = 0 ∧ ml 404 (A + 7) = 0 ∧ ml 404 (A + 10) = Int64.ofNat ln
theorem iniI.sc {A κ ln : Nat} (h : iniI ml A κ ln) : scI ml A κ (none, none) ln := ⟨h.1, ⟨(h.2.1 1 (by omega) (by omega) (by omega) (by omega)).trans m1_64, (h.2.1 2 (by omega) (by omega) (by omega) (by omega)).trans m1_64t, (h.2.1 3 (by omega) (by omega) (by omega) (by omega)).trans m1_64, (h.2.1 4 (by omega) (by omega) (by omega) (by omega)).trans m1_64t⟩, h.2.2.2.2⟩
theorem fL.th {A wh : Nat} {ml' : Nat → Nat → Int64} (h : fL (fun i => i = A + wh ∨ i = A + wh + 1) ml ml') (hw : wh ≤ 3) : fL (vRow A) ml ml' := (fL.refl _ ml).trans h (fun _ z => z) (fun i z => ⟨by omega, by omega⟩)
theorem se_two12 {N : nmS} {A j J ln : Nat} (hL : LAY nx ct mr) (h : PMs n m t m0) (hN : NmM N m0) (hA : m0 398 14 = nI A) (hA2 : A + 12 ≤ 1440) (h0 : iniI ml A 12 ln) (hj : j < 3200) (hJ : j + 18 ≤ J) : rx_W M_Mo_sentence 5 0 0 154 [(0, .ref 398), (1, .int (nI 12))] [] (nx, ct, mS m0 (nI j) (-1), ml, mr) (pR (snP (match pTwo N n t j with | .inl k => .inl k | .inr (s, j1) => ruM 12 s ln (semi n t (0, none, 0, (none, none)) j1)) J A nx ct m0 ml mr)) := by
  have hT1 := sq_thing (ml := ml) (wh := 1) (j := j) hL h hN hA hA2 (by decide) (by omega)
  unfold thP at hT1
  unfold pTwo
  cases e1 : pThing N n t j with
  | inl k =>
    rw [e1] at hT1
    have hk9 := pThing_lt.1 k e1
    dsimp only
    refine ru_aload_n d_Mo_sentence_154 rfl rfl ?_
    refine ru_iconst (v := 1) d_Mo_sentence_155 (by decide) ?_
    refine ru_callV (mc := 0) (ms := 0) d_Mo_sentence_156 lm_Mo_165 hT1 (rx_recv_is (ly hL 398 9 0) kx_Mo) (by decide) rfl (Nat.le_of_ble_eq_true rfl) ?_
    rintro v τ ⟨rfl, ml2, w, rfl, hw, hf⟩
    refine ru_aload_n d_Mo_sentence_159 rfl rfl ?_
    refine ru_ldc2 d_Mo_sentence_160 lc_Mo_168 ?_
    refine ru_callV (mc := 0) (ms := 0) d_Mo_sentence_163 lm_Mo_97 (sq_expect0 hL (nI_m1 (by omega))) (rx_recv_is (ly hL 398 9 0) kx_Mo) (by decide) rfl (Nat.le_of_ble_eq_true rfl) ?_
    intro v τ h
    obtain ⟨rfl, rfl⟩ := h
    refine ru_aload_n d_Mo_sentence_166 rfl rfl ?_
    refine ru_iconst (v := 3) d_Mo_sentence_167 (by decide) ?_
    refine ru_callV (mc := 0) (ms := 0) d_Mo_sentence_168 lm_Mo_165 (sq_thing0 (wh := 3) hL hA hA2 (by decide) (nI_m1 (by omega))) (rx_recv_is (ly hL 398 9 0) kx_Mo) (by decide) rfl (Nat.le_of_ble_eq_true rfl) ?_
    rintro v τ ⟨rfl, ml3, rfl, hf2⟩
    refine ru_goto (tgt := 308) d_Mo_sentence_171 (by decide) ?_
    have hfr : fL (vRow A) ml ml3 := (hf.th (by decide)).trans (hf2.th (by decide)) (fun _ z => z) (fun _ z => z)
    exact ru_to (ru_post (fun v τ z => sn_bad hfr z) (se_bad308 hL hA hA2 (by decide) ((hf2.2 A (by omega)).trans ((hf.2 A (by omega)).trans h0.1)) (by omega) (by omega) (fL.refl _ _))) ⟨rfl, trivial⟩
  | inr q =>
    obtain ⟨o, j1⟩ := q
    rw [e1] at hT1
    have hk9 := pThing_lt.2 _ _ e1
    dsimp only
    have hX := fun ml => sq_expect (ml := ml) (j := j1) hL h wv_5 (by omega)
    by_cases h5 : isW n t j1 5
    · rw [cnd_t h5]
      have hT3 := fun ml => sq_thing (ml := ml) (wh := 3) (j := j1 + 1) hL h hN hA hA2 (by decide) (by omega)
      unfold thP at hT3
      simp only [cnd_t h5] at hX
      cases e2 : pThing N n t (j1 + 1) with
      | inl k =>
        simp only [e2] at hT3
        have hk8 := pThing_lt.1 k e2
        dsimp only
        refine ru_aload_n d_Mo_sentence_154 rfl rfl ?_
        refine ru_iconst (v := 1) d_Mo_sentence_155 (by decide) ?_
        refine ru_callV (mc := 0) (ms := 0) d_Mo_sentence_156 lm_Mo_165 hT1 (rx_recv_is (ly hL 398 9 0) kx_Mo) (by decide) rfl (Nat.le_of_ble_eq_true rfl) ?_
        rintro v τ ⟨rfl, ml2, rfl, hf, hkO, htO⟩
        refine ru_aload_n d_Mo_sentence_159 rfl rfl ?_
        refine ru_ldc2 d_Mo_sentence_160 lc_Mo_168 ?_
        refine ru_callV (mc := 0) (ms := 0) d_Mo_sentence_163 lm_Mo_97 (hX _) (rx_recv_is (ly hL 398 9 0) kx_Mo) (by decide) rfl (Nat.le_of_ble_eq_true rfl) ?_
        intro v τ h
        obtain ⟨rfl, rfl⟩ := h
        refine ru_aload_n d_Mo_sentence_166 rfl rfl ?_
        refine ru_iconst (v := 3) d_Mo_sentence_167 (by decide) ?_
        refine ru_callV (mc := 0) (ms := 0) d_Mo_sentence_168 lm_Mo_165 (hT3 _) (rx_recv_is (ly hL 398 9 0) kx_Mo) (by decide) rfl (Nat.le_of_ble_eq_true rfl) ?_
        rintro v τ ⟨rfl, ml3, w, rfl, hw, hf2⟩
        refine ru_goto (tgt := 308) d_Mo_sentence_171 (by decide) ?_
        have hfr : fL (vRow A) ml ml3 := (hf.th (by decide)).trans (hf2.th (by decide)) (fun _ z => z) (fun _ z => z)
        exact ru_to (ru_post (fun v τ z => sn_bad hfr z) (se_bad308 hL hA hA2 (by decide) ((hf2.2 A (by omega)).trans ((hf.2 A (by omega)).trans h0.1)) (by omega) (by omega) (fL.refl _ _))) ⟨rfl, trivial⟩
      | inr q =>
        obtain ⟨o2, j2⟩ := q
        simp only [e2] at hT3
        have hk8 := pThing_lt.2 _ _ e2
        dsimp only
        refine ru_aload_n d_Mo_sentence_154 rfl rfl ?_
        refine ru_iconst (v := 1) d_Mo_sentence_155 (by decide) ?_
        refine ru_callV (mc := 0) (ms := 0) d_Mo_sentence_156 lm_Mo_165 hT1 (rx_recv_is (ly hL 398 9 0) kx_Mo) (by decide) rfl (Nat.le_of_ble_eq_true rfl) ?_
        rintro v τ ⟨rfl, ml2, rfl, hf, hkO, htO⟩
        refine ru_aload_n d_Mo_sentence_159 rfl rfl ?_
        refine ru_ldc2 d_Mo_sentence_160 lc_Mo_168 ?_
        refine ru_callV (mc := 0) (ms := 0) d_Mo_sentence_163 lm_Mo_97 (hX _) (rx_recv_is (ly hL 398 9 0) kx_Mo) (by decide) rfl (Nat.le_of_ble_eq_true rfl) ?_
        intro v τ h
        obtain ⟨rfl, rfl⟩ := h
        refine ru_aload_n d_Mo_sentence_166 rfl rfl ?_
        refine ru_iconst (v := 3) d_Mo_sentence_167 (by decide) ?_
        refine ru_callV (mc := 0) (ms := 0) d_Mo_sentence_168 lm_Mo_165 (hT3 _) (rx_recv_is (ly hL 398 9 0) kx_Mo) (by decide) rfl (Nat.le_of_ble_eq_true rfl) ?_
        rintro v τ ⟨rfl, ml3, rfl, hf2, hkO2, htO2⟩
        refine ru_goto (tgt := 308) d_Mo_sentence_171 (by decide) ?_
        have hfr : fL (vRow A) ml ml3 := (hf.th (by decide)).trans (hf2.th (by decide)) (fun _ z => z) (fun _ z => z)
        have g : ∀ {y : Int64} x, (x < 1 ∨ 4 < x) → ml 404 (A + x) = y → ml3 404 (A + x) = y := fun x hx hy => (hf2.2 _ (by omega)).trans ((hf.2 _ (by omega)).trans hy)
        have hsc : scI ml3 A 12 (o, o2) ln := ⟨g 0 (by omega) h0.1, ⟨(hf2.2 _ (by omega)).trans hkO, (hf2.2 _ (by omega)).trans htO, hkO2, htO2⟩, g 10 (by omega) h0.2.2.2.2⟩
        exact ru_to (ru_post (fun v τ z => sn_of hfr hsc z) (se_end (q := (0, none, 0, (none, none))) hL h (by omega) (by omega) ⟨g 5 (by omega) h0.2.2.1, g 6 (by omega) (h0.2.1 6 (by omega) (by omega) (by omega) (by omega)), g 7 (by omega) h0.2.2.2.1, g 8 (by omega) (h0.2.1 8 (by omega) (by omega) (by omega) (by omega)), g 9 (by omega) (h0.2.1 9 (by omega) (by omega) (by omega) (by omega))⟩)) ⟨rfl, trivial⟩
    · rw [cnd_f h5]
      simp only [cnd_f h5] at hX
      dsimp only
      refine ru_aload_n d_Mo_sentence_154 rfl rfl ?_
      refine ru_iconst (v := 1) d_Mo_sentence_155 (by decide) ?_
      refine ru_callV (mc := 0) (ms := 0) d_Mo_sentence_156 lm_Mo_165 hT1 (rx_recv_is (ly hL 398 9 0) kx_Mo) (by decide) rfl (Nat.le_of_ble_eq_true rfl) ?_
      rintro v τ ⟨rfl, ml2, rfl, hf, hkO, htO⟩
      refine ru_aload_n d_Mo_sentence_159 rfl rfl ?_
      refine ru_ldc2 d_Mo_sentence_160 lc_Mo_168 ?_
      refine ru_callV (mc := 0) (ms := 0) d_Mo_sentence_163 lm_Mo_97 (hX _) (rx_recv_is (ly hL 398 9 0) kx_Mo) (by decide) rfl (Nat.le_of_ble_eq_true rfl) ?_
      intro v τ h
      obtain ⟨rfl, rfl⟩ := h
      refine ru_aload_n d_Mo_sentence_166 rfl rfl ?_
      refine ru_iconst (v := 3) d_Mo_sentence_167 (by decide) ?_
      refine ru_callV (mc := 0) (ms := 0) d_Mo_sentence_168 lm_Mo_165 (sq_thing0 (wh := 3) hL hA hA2 (by decide) (nI_m1 (by omega))) (rx_recv_is (ly hL 398 9 0) kx_Mo) (by decide) rfl (Nat.le_of_ble_eq_true rfl) ?_
      rintro v τ ⟨rfl, ml3, rfl, hf2⟩
      refine ru_goto (tgt := 308) d_Mo_sentence_171 (by decide) ?_
      have hfr : fL (vRow A) ml ml3 := (hf.th (by decide)).trans (hf2.th (by decide)) (fun _ z => z) (fun _ z => z)
      exact ru_to (ru_post (fun v τ z => sn_bad hfr z) (se_bad308 hL hA hA2 (by decide) ((hf2.2 A (by omega)).trans ((hf.2 A (by omega)).trans h0.1)) (by omega) (by omega) (fL.refl _ _))) ⟨rfl, trivial⟩
theorem se_two0 {N : nmS} {A j J ln : Nat} (hL : LAY nx ct mr) (h : PMs n m t m0) (hN : NmM N m0) (hA : m0 398 14 = nI A) (hA2 : A + 12 ≤ 1440) (h0 : iniI ml A 0 ln) (hj : j < 3200) (hJ : j + 18 ≤ J) : rx_W M_Mo_sentence 5 0 0 211 [(0, .ref 398), (1, .int (nI 0))] [] (nx, ct, mS m0 (nI j) (-1), ml, mr) (pR (snP (match pTwo N n t j with | .inl k => .inl k | .inr (s, j1) => ruM 0 s ln (rLayer N n t 0 j1)) J A nx ct m0 ml mr)) := by
  have hT1 := sq_thing (ml := ml) (wh := 1) (j := j) hL h hN hA hA2 (by decide) (by omega)
  unfold thP at hT1
  unfold pTwo
  cases e1 : pThing N n t j with
  | inl k =>
    rw [e1] at hT1
    have hk9 := pThing_lt.1 k e1
    dsimp only
    refine ru_aload_n d_Mo_sentence_211 rfl rfl ?_
    refine ru_iconst (v := 1) d_Mo_sentence_212 (by decide) ?_
    refine ru_callV (mc := 0) (ms := 0) d_Mo_sentence_213 lm_Mo_165 hT1 (rx_recv_is (ly hL 398 9 0) kx_Mo) (by decide) rfl (Nat.le_of_ble_eq_true rfl) ?_
    rintro v τ ⟨rfl, ml2, w, rfl, hw, hf⟩
    refine ru_iload_n d_Mo_sentence_216 rfl rfl ?_
    refine ru_if_ne (tgt := 232) d_Mo_sentence_217 (by decide) (fun h217 => absurd h217 (by decide)) (fun h217 => ?_)
    refine ru_aload_n d_Mo_sentence_220 rfl rfl ?_
    refine ru_ldc2 d_Mo_sentence_221 lc_Mo_168 ?_
    refine ru_callV (mc := 0) (ms := 0) d_Mo_sentence_224 lm_Mo_97 (sq_expect0 hL (nI_m1 (by omega))) (rx_recv_is (ly hL 398 9 0) kx_Mo) (by decide) rfl (Nat.le_of_ble_eq_true rfl) ?_
    intro v τ h
    obtain ⟨rfl, rfl⟩ := h
    refine ru_aload_n d_Mo_sentence_227 rfl rfl ?_
    refine ru_iconst (v := 3) d_Mo_sentence_228 (by decide) ?_
    refine ru_callV (mc := 0) (ms := 0) d_Mo_sentence_229 lm_Mo_165 (sq_thing0 (wh := 3) hL hA hA2 (by decide) (nI_m1 (by omega))) (rx_recv_is (ly hL 398 9 0) kx_Mo) (by decide) rfl (Nat.le_of_ble_eq_true rfl) ?_
    rintro v τ ⟨rfl, ml3, rfl, hf2⟩
    have hfr : fL (vRow A) ml ml3 := (hf.th (by decide)).trans (hf2.th (by decide)) (fun _ z => z) (fun _ z => z)
    exact ru_to (ru_post (fun v τ z => sn_bad hfr z) (se_bad232 hL hA hA2 (by decide) ((hf2.2 A (by omega)).trans ((hf.2 A (by omega)).trans h0.1)) (by omega) (by omega) (fL.refl _ _))) ⟨rfl, trivial⟩
  | inr q =>
    obtain ⟨o, j1⟩ := q
    rw [e1] at hT1
    have hk9 := pThing_lt.2 _ _ e1
    dsimp only
    have hX := fun ml => sq_expect (ml := ml) (j := j1) hL h wv_5 (by omega)
    by_cases h5 : isW n t j1 5
    · rw [cnd_t h5]
      have hT3 := fun ml => sq_thing (ml := ml) (wh := 3) (j := j1 + 1) hL h hN hA hA2 (by decide) (by omega)
      unfold thP at hT3
      simp only [cnd_t h5] at hX
      cases e2 : pThing N n t (j1 + 1) with
      | inl k =>
        simp only [e2] at hT3
        have hk8 := pThing_lt.1 k e2
        dsimp only
        refine ru_aload_n d_Mo_sentence_211 rfl rfl ?_
        refine ru_iconst (v := 1) d_Mo_sentence_212 (by decide) ?_
        refine ru_callV (mc := 0) (ms := 0) d_Mo_sentence_213 lm_Mo_165 hT1 (rx_recv_is (ly hL 398 9 0) kx_Mo) (by decide) rfl (Nat.le_of_ble_eq_true rfl) ?_
        rintro v τ ⟨rfl, ml2, rfl, hf, hkO, htO⟩
        refine ru_iload_n d_Mo_sentence_216 rfl rfl ?_
        refine ru_if_ne (tgt := 232) d_Mo_sentence_217 (by decide) (fun h217 => absurd h217 (by decide)) (fun h217 => ?_)
        refine ru_aload_n d_Mo_sentence_220 rfl rfl ?_
        refine ru_ldc2 d_Mo_sentence_221 lc_Mo_168 ?_
        refine ru_callV (mc := 0) (ms := 0) d_Mo_sentence_224 lm_Mo_97 (hX _) (rx_recv_is (ly hL 398 9 0) kx_Mo) (by decide) rfl (Nat.le_of_ble_eq_true rfl) ?_
        intro v τ h
        obtain ⟨rfl, rfl⟩ := h
        refine ru_aload_n d_Mo_sentence_227 rfl rfl ?_
        refine ru_iconst (v := 3) d_Mo_sentence_228 (by decide) ?_
        refine ru_callV (mc := 0) (ms := 0) d_Mo_sentence_229 lm_Mo_165 (hT3 _) (rx_recv_is (ly hL 398 9 0) kx_Mo) (by decide) rfl (Nat.le_of_ble_eq_true rfl) ?_
        rintro v τ ⟨rfl, ml3, w, rfl, hw, hf2⟩
        have hfr : fL (vRow A) ml ml3 := (hf.th (by decide)).trans (hf2.th (by decide)) (fun _ z => z) (fun _ z => z)
        exact ru_to (ru_post (fun v τ z => sn_bad hfr z) (se_bad232 hL hA hA2 (by decide) ((hf2.2 A (by omega)).trans ((hf.2 A (by omega)).trans h0.1)) (by omega) (by omega) (fL.refl _ _))) ⟨rfl, trivial⟩
      | inr q =>
        obtain ⟨o2, j2⟩ := q
        simp only [e2] at hT3
        have hk8 := pThing_lt.2 _ _ e2
        dsimp only
        refine ru_aload_n d_Mo_sentence_211 rfl rfl ?_
        refine ru_iconst (v := 1) d_Mo_sentence_212 (by decide) ?_
        refine ru_callV (mc := 0) (ms := 0) d_Mo_sentence_213 lm_Mo_165 hT1 (rx_recv_is (ly hL 398 9 0) kx_Mo) (by decide) rfl (Nat.le_of_ble_eq_true rfl) ?_
        rintro v τ ⟨rfl, ml2, rfl, hf, hkO, htO⟩
        refine ru_iload_n d_Mo_sentence_216 rfl rfl ?_
        refine ru_if_ne (tgt := 232) d_Mo_sentence_217 (by decide) (fun h217 => absurd h217 (by decide)) (fun h217 => ?_)
        refine ru_aload_n d_Mo_sentence_220 rfl rfl ?_
        refine ru_ldc2 d_Mo_sentence_221 lc_Mo_168 ?_
        refine ru_callV (mc := 0) (ms := 0) d_Mo_sentence_224 lm_Mo_97 (hX _) (rx_recv_is (ly hL 398 9 0) kx_Mo) (by decide) rfl (Nat.le_of_ble_eq_true rfl) ?_
        intro v τ h
        obtain ⟨rfl, rfl⟩ := h
        refine ru_aload_n d_Mo_sentence_227 rfl rfl ?_
        refine ru_iconst (v := 3) d_Mo_sentence_228 (by decide) ?_
        refine ru_callV (mc := 0) (ms := 0) d_Mo_sentence_229 lm_Mo_165 (hT3 _) (rx_recv_is (ly hL 398 9 0) kx_Mo) (by decide) rfl (Nat.le_of_ble_eq_true rfl) ?_
        rintro v τ ⟨rfl, ml3, rfl, hf2, hkO2, htO2⟩
        have hfr : fL (vRow A) ml ml3 := (hf.th (by decide)).trans (hf2.th (by decide)) (fun _ z => z) (fun _ z => z)
        have g : ∀ {y : Int64} x, (x < 1 ∨ 4 < x) → ml 404 (A + x) = y → ml3 404 (A + x) = y := fun x hx hy => (hf2.2 _ (by omega)).trans ((hf.2 _ (by omega)).trans hy)
        have hsc : scI ml3 A 0 (o, o2) ln := ⟨g 0 (by omega) h0.1, ⟨(hf2.2 _ (by omega)).trans hkO, (hf2.2 _ (by omega)).trans htO, hkO2, htO2⟩, g 10 (by omega) h0.2.2.2.2⟩
        exact ru_to (ru_post (fun v τ z => sn_of hfr hsc z) (se_layer (κ := 0) hL h hN hA hA2 (by decide) (g 0 (by omega) h0.1) (g 5 (by omega) h0.2.2.1) (g 6 (by omega) (h0.2.1 6 (by omega) (by omega) (by omega) (by omega))) (g 7 (by omega) h0.2.2.2.1) (by omega) (by omega))) ⟨rfl, trivial⟩
    · rw [cnd_f h5]
      simp only [cnd_f h5] at hX
      dsimp only
      refine ru_aload_n d_Mo_sentence_211 rfl rfl ?_
      refine ru_iconst (v := 1) d_Mo_sentence_212 (by decide) ?_
      refine ru_callV (mc := 0) (ms := 0) d_Mo_sentence_213 lm_Mo_165 hT1 (rx_recv_is (ly hL 398 9 0) kx_Mo) (by decide) rfl (Nat.le_of_ble_eq_true rfl) ?_
      rintro v τ ⟨rfl, ml2, rfl, hf, hkO, htO⟩
      refine ru_iload_n d_Mo_sentence_216 rfl rfl ?_
      refine ru_if_ne (tgt := 232) d_Mo_sentence_217 (by decide) (fun h217 => absurd h217 (by decide)) (fun h217 => ?_)
      refine ru_aload_n d_Mo_sentence_220 rfl rfl ?_
      refine ru_ldc2 d_Mo_sentence_221 lc_Mo_168 ?_
      refine ru_callV (mc := 0) (ms := 0) d_Mo_sentence_224 lm_Mo_97 (hX _) (rx_recv_is (ly hL 398 9 0) kx_Mo) (by decide) rfl (Nat.le_of_ble_eq_true rfl) ?_
      intro v τ h
      obtain ⟨rfl, rfl⟩ := h
      refine ru_aload_n d_Mo_sentence_227 rfl rfl ?_
      refine ru_iconst (v := 3) d_Mo_sentence_228 (by decide) ?_
      refine ru_callV (mc := 0) (ms := 0) d_Mo_sentence_229 lm_Mo_165 (sq_thing0 (wh := 3) hL hA hA2 (by decide) (nI_m1 (by omega))) (rx_recv_is (ly hL 398 9 0) kx_Mo) (by decide) rfl (Nat.le_of_ble_eq_true rfl) ?_
      rintro v τ ⟨rfl, ml3, rfl, hf2⟩
      have hfr : fL (vRow A) ml ml3 := (hf.th (by decide)).trans (hf2.th (by decide)) (fun _ z => z) (fun _ z => z)
      exact ru_to (ru_post (fun v τ z => sn_bad hfr z) (se_bad232 hL hA hA2 (by decide) ((hf2.2 A (by omega)).trans ((hf.2 A (by omega)).trans h0.1)) (by omega) (by omega) (fL.refl _ _))) ⟨rfl, trivial⟩
theorem se_scope {N : nmS} {A κ j J ln : Nat} (hL : LAY nx ct mr) (h : PMs n m t m0) (hN : NmM N m0) (hA : m0 398 14 = nI A) (hA2 : A + 12 ≤ 1440) (hκ : κ < 13) (h0 : iniI ml A κ ln) (hj : j < 3100) (hJ : j + 20 ≤ J) : rx_W M_Mo_sentence 5 0 0 148 [(0, .ref 398), (1, .int (nI κ))] [] (nx, ct, mS m0 (nI j) (-1), ml, mr) (pR (snP (scR N n t κ j ln) J A nx ct m0 ml mr)) := by
  have hsc0 := h0.sc
  have hlay := fun (κ' j' : Nat) (hκ' : κ' < 13) (hh : iniI ml A κ' ln) (hj' : j' < 3300) (hJ' : j' + 13 ≤ J) => se_layer (κ := κ') (j := j') (J := J) hL h hN hA hA2 hκ' hh.1 hh.2.2.1 (hh.2.1 6 (by omega) (by omega) (by omega) (by omega)) hh.2.2.2.1 hj' hJ'
  unfold scR pScope rRest
  by_cases h12 : κ = 12
  · subst h12
    rw [if_pos rfl]
    have E := se_two12 (j := j) (J := J) hL h hN hA hA2 h0 (by omega) (by omega)
    refine ru_iload_n d_Mo_sentence_148 rfl rfl ?_
    refine ru_bipush (v := 12) d_Mo_sentence_149 (by decide) ?_
    refine ru_icmp_ne (tgt := 174) d_Mo_sentence_151 (by decide) (fun h151 => absurd h151 (by decide)) (fun h151 => ?_)
    exact ru_to E ⟨rfl, rfl, trivial⟩
  · rw [if_neg h12]
    by_cases hk0 : κ = 0
    · subst hk0
      rw [if_pos rfl]
      have hT := sq_took (ml := ml) (j := j) hL h wv_0 (by omega)
      by_cases hb : isW n t j 0
      · rw [cnd_t hb]
        rw [bI_t hb, cnd_t hb] at hT
        have E := se_two0 (j := j + 1) (J := J) hL h hN hA hA2 h0 (by omega) (by omega)
        refine ru_iload_n d_Mo_sentence_148 rfl rfl ?_
        refine ru_bipush (v := 12) d_Mo_sentence_149 (by decide) ?_
        refine ru_icmp_ne (tgt := 174) d_Mo_sentence_151 (by decide) (fun h151 => ?_) (fun h151 => absurd h151 (by decide))
        refine ru_iload_n d_Mo_sentence_174 rfl rfl ?_
        refine ru_if_ne (tgt := 201) d_Mo_sentence_175 (by decide) (fun h175 => absurd h175 (by decide)) (fun h175 => ?_)
        refine ru_aload_n d_Mo_sentence_178 rfl rfl ?_
        refine ru_iconst (v := 2) d_Mo_sentence_179 (by decide) ?_
        refine ru_iconst (v := 5) d_Mo_sentence_180 (by decide) ?_
        refine ru_bipush (v := 20) d_Mo_sentence_181 (by decide) ?_
        refine ru_bipush (v := 23) d_Mo_sentence_183 (by decide) ?_
        refine ru_iconst (v := 5) d_Mo_sentence_185 (by decide) ?_
        refine ru_iconst (v := 5) d_Mo_sentence_186 (by decide) ?_
        refine ru_bipush (v := 14) d_Mo_sentence_187 (by decide) ?_
        refine ru_callS (mc := 0) (ms := 0) d_Mo_sentence_189 lm_Mo_68 (sp_Mo_word 2 5 20 23 5 5 14 _) (by decide) rfl (Nat.le_of_ble_eq_true rfl) ?_
        intro v τ h
        obtain ⟨rfl, rfl⟩ := h
        refine ru_callV (mc := 0) (ms := 0) d_Mo_sentence_192 lm_Mo_83 hT (rx_recv_is (ly hL 398 9 0) kx_Mo) (by decide) rfl (Nat.le_of_ble_eq_true rfl) ?_
        rintro v τ ⟨rfl, rfl⟩
        refine ru_if_eq (tgt := 232) d_Mo_sentence_195 (by decide) (fun h195 => absurd h195 (by decide)) (fun h195 => ?_)
        refine ru_goto (tgt := 211) d_Mo_sentence_198 (by decide) ?_
        exact ru_to E ⟨rfl, rfl, trivial⟩
      · rw [cnd_f hb]
        rw [bI_f hb, cnd_f hb] at hT
        refine ru_iload_n d_Mo_sentence_148 rfl rfl ?_
        refine ru_bipush (v := 12) d_Mo_sentence_149 (by decide) ?_
        refine ru_icmp_ne (tgt := 174) d_Mo_sentence_151 (by decide) (fun h151 => ?_) (fun h151 => absurd h151 (by decide))
        refine ru_iload_n d_Mo_sentence_174 rfl rfl ?_
        refine ru_if_ne (tgt := 201) d_Mo_sentence_175 (by decide) (fun h175 => absurd h175 (by decide)) (fun h175 => ?_)
        refine ru_aload_n d_Mo_sentence_178 rfl rfl ?_
        refine ru_iconst (v := 2) d_Mo_sentence_179 (by decide) ?_
        refine ru_iconst (v := 5) d_Mo_sentence_180 (by decide) ?_
        refine ru_bipush (v := 20) d_Mo_sentence_181 (by decide) ?_
        refine ru_bipush (v := 23) d_Mo_sentence_183 (by decide) ?_
        refine ru_iconst (v := 5) d_Mo_sentence_185 (by decide) ?_
        refine ru_iconst (v := 5) d_Mo_sentence_186 (by decide) ?_
        refine ru_bipush (v := 14) d_Mo_sentence_187 (by decide) ?_
        refine ru_callS (mc := 0) (ms := 0) d_Mo_sentence_189 lm_Mo_68 (sp_Mo_word 2 5 20 23 5 5 14 _) (by decide) rfl (Nat.le_of_ble_eq_true rfl) ?_
        intro v τ h
        obtain ⟨rfl, rfl⟩ := h
        refine ru_callV (mc := 0) (ms := 0) d_Mo_sentence_192 lm_Mo_83 hT (rx_recv_is (ly hL 398 9 0) kx_Mo) (by decide) rfl (Nat.le_of_ble_eq_true rfl) ?_
        rintro v τ ⟨rfl, rfl⟩
        refine ru_if_eq (tgt := 232) d_Mo_sentence_195 (by decide) (fun h195 => ?_) (fun h195 => absurd h195 (by decide))
        exact ru_to (ru_post (fun v τ z => sn_of (fL.refl _ _) hsc0 z) (hlay 0 j hκ h0 (by omega) (by omega))) ⟨rfl, trivial⟩
    · rw [if_neg hk0]
      have hT := sq_took (ml := ml) (j := j) hL h wv_1 (by omega)
      by_cases hb : isW n t j 1
      · rw [cnd_t hb]
        rw [bI_t hb, cnd_t hb] at hT
        have hT1 := sq_thing (ml := ml) (wh := 1) (j := j + 1) hL h hN hA hA2 (by decide) (by omega)
        unfold thP at hT1
        cases e1 : pThing N n t (j + 1) with
        | inl k =>
          rw [e1] at hT1
          have hk9 := pThing_lt.1 k e1
          dsimp only
          refine ru_iload_n d_Mo_sentence_148 rfl rfl ?_
          refine ru_bipush (v := 12) d_Mo_sentence_149 (by decide) ?_
          refine ru_icmp_ne (tgt := 174) d_Mo_sentence_151 (by decide) (fun h151 => ?_) (fun h151 => absurd (nm_eq (a := κ) (b := 12) (by omega) (by omega) h151) h12)
          replace h151 := nm_ne (a := κ) (b := 12) (by omega) (by omega) h151
          refine ru_iload_n d_Mo_sentence_174 rfl rfl ?_
          refine ru_if_ne (tgt := 201) d_Mo_sentence_175 (by decide) (fun h175 => ?_) (fun h175 => absurd (nm_eq (a := κ) (b := 0) (by omega) (by omega) h175) hk0)
          replace h175 := nm_ne (a := κ) (b := 0) (by omega) (by omega) h175
          refine ru_aload_n d_Mo_sentence_201 rfl rfl ?_
          refine ru_ldc2 d_Mo_sentence_202 lc_Mo_170 ?_
          refine ru_callV (mc := 0) (ms := 0) d_Mo_sentence_205 lm_Mo_83 hT (rx_recv_is (ly hL 398 9 0) kx_Mo) (by decide) rfl (Nat.le_of_ble_eq_true rfl) ?_
          rintro v τ ⟨rfl, rfl⟩
          refine ru_if_eq (tgt := 232) d_Mo_sentence_208 (by decide) (fun h208 => absurd h208 (by decide)) (fun h208 => ?_)
          refine ru_aload_n d_Mo_sentence_211 rfl rfl ?_
          refine ru_iconst (v := 1) d_Mo_sentence_212 (by decide) ?_
          refine ru_callV (mc := 0) (ms := 0) d_Mo_sentence_213 lm_Mo_165 hT1 (rx_recv_is (ly hL 398 9 0) kx_Mo) (by decide) rfl (Nat.le_of_ble_eq_true rfl) ?_
          rintro v τ ⟨rfl, ml2, w, rfl, hw, hf⟩
          refine ru_iload_n d_Mo_sentence_216 rfl rfl ?_
          refine ru_if_ne (tgt := 232) d_Mo_sentence_217 (by decide) (fun h217 => ?_) (fun h217 => absurd (nm_eq (a := κ) (b := 0) (by omega) (by omega) h217) hk0)
          replace h217 := nm_ne (a := κ) (b := 0) (by omega) (by omega) h217
          exact ru_to (ru_post (fun v τ z => sn_bad (hf.th (by decide)) z) (se_bad232 hL hA hA2 hκ ((hf.2 A (by omega)).trans h0.1) (by omega) (by omega) (fL.refl _ _))) ⟨rfl, trivial⟩
        | inr q =>
          obtain ⟨o, j1⟩ := q
          rw [e1] at hT1
          have hk9 := pThing_lt.2 _ _ e1
          dsimp only
          refine ru_iload_n d_Mo_sentence_148 rfl rfl ?_
          refine ru_bipush (v := 12) d_Mo_sentence_149 (by decide) ?_
          refine ru_icmp_ne (tgt := 174) d_Mo_sentence_151 (by decide) (fun h151 => ?_) (fun h151 => absurd (nm_eq (a := κ) (b := 12) (by omega) (by omega) h151) h12)
          replace h151 := nm_ne (a := κ) (b := 12) (by omega) (by omega) h151
          refine ru_iload_n d_Mo_sentence_174 rfl rfl ?_
          refine ru_if_ne (tgt := 201) d_Mo_sentence_175 (by decide) (fun h175 => ?_) (fun h175 => absurd (nm_eq (a := κ) (b := 0) (by omega) (by omega) h175) hk0)
          replace h175 := nm_ne (a := κ) (b := 0) (by omega) (by omega) h175
          refine ru_aload_n d_Mo_sentence_201 rfl rfl ?_
          refine ru_ldc2 d_Mo_sentence_202 lc_Mo_170 ?_
          refine ru_callV (mc := 0) (ms := 0) d_Mo_sentence_205 lm_Mo_83 hT (rx_recv_is (ly hL 398 9 0) kx_Mo) (by decide) rfl (Nat.le_of_ble_eq_true rfl) ?_
          rintro v τ ⟨rfl, rfl⟩
          refine ru_if_eq (tgt := 232) d_Mo_sentence_208 (by decide) (fun h208 => absurd h208 (by decide)) (fun h208 => ?_)
          refine ru_aload_n d_Mo_sentence_211 rfl rfl ?_
          refine ru_iconst (v := 1) d_Mo_sentence_212 (by decide) ?_
          refine ru_callV (mc := 0) (ms := 0) d_Mo_sentence_213 lm_Mo_165 hT1 (rx_recv_is (ly hL 398 9 0) kx_Mo) (by decide) rfl (Nat.le_of_ble_eq_true rfl) ?_
          rintro v τ ⟨rfl, ml2, rfl, hf, hkO, htO⟩
          refine ru_iload_n d_Mo_sentence_216 rfl rfl ?_
          refine ru_if_ne (tgt := 232) d_Mo_sentence_217 (by decide) (fun h217 => ?_) (fun h217 => absurd (nm_eq (a := κ) (b := 0) (by omega) (by omega) h217) hk0)
          replace h217 := nm_ne (a := κ) (b := 0) (by omega) (by omega) h217
          have g : ∀ {y : Int64} x, (x < 1 ∨ 2 < x) → ml 404 (A + x) = y → ml2 404 (A + x) = y := fun x hx hy => (hf.2 _ (by omega)).trans hy
          have hsc : scI ml2 A κ (o, none) ln := ⟨g 0 (by omega) h0.1, ⟨hkO, htO, g 3 (by omega) hsc0.2.1.2.2.1, g 4 (by omega) hsc0.2.1.2.2.2⟩, g 10 (by omega) h0.2.2.2.2⟩
          rw [if_neg h12]
          exact ru_to (ru_post (fun v τ z => sn_of (hf.th (by decide)) hsc z) (se_layer hL h hN hA hA2 hκ (g 0 (by omega) h0.1) (g 5 (by omega) h0.2.2.1) (g 6 (by omega) (h0.2.1 6 (by omega) (by omega) (by omega) (by omega))) (g 7 (by omega) h0.2.2.2.1) (by omega) (by omega))) ⟨rfl, trivial⟩
      · rw [cnd_f hb]
        rw [bI_f hb, cnd_f hb] at hT
        dsimp only
        rw [if_neg h12]
        refine ru_iload_n d_Mo_sentence_148 rfl rfl ?_
        refine ru_bipush (v := 12) d_Mo_sentence_149 (by decide) ?_
        refine ru_icmp_ne (tgt := 174) d_Mo_sentence_151 (by decide) (fun h151 => ?_) (fun h151 => absurd (nm_eq (a := κ) (b := 12) (by omega) (by omega) h151) h12)
        replace h151 := nm_ne (a := κ) (b := 12) (by omega) (by omega) h151
        refine ru_iload_n d_Mo_sentence_174 rfl rfl ?_
        refine ru_if_ne (tgt := 201) d_Mo_sentence_175 (by decide) (fun h175 => ?_) (fun h175 => absurd (nm_eq (a := κ) (b := 0) (by omega) (by omega) h175) hk0)
        replace h175 := nm_ne (a := κ) (b := 0) (by omega) (by omega) h175
        refine ru_aload_n d_Mo_sentence_201 rfl rfl ?_
        refine ru_ldc2 d_Mo_sentence_202 lc_Mo_170 ?_
        refine ru_callV (mc := 0) (ms := 0) d_Mo_sentence_205 lm_Mo_83 hT (rx_recv_is (ly hL 398 9 0) kx_Mo) (by decide) rfl (Nat.le_of_ble_eq_true rfl) ?_
        rintro v τ ⟨rfl, rfl⟩
        refine ru_if_eq (tgt := 232) d_Mo_sentence_208 (by decide) (fun h208 => ?_) (fun h208 => absurd h208 (by decide))
        exact ru_to (ru_post (fun v τ z => sn_of (fL.refl _ _) hsc0 z) (hlay κ j hκ h0 (by omega) (by omega))) ⟨rfl, trivial⟩
end
