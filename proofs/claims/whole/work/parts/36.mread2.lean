/-! The reference reads -/
section
variable {n m : Nat} {t : Nat → Int32}
theorem isW_in {j s : Nat} (he : tk n t m = (n, n)) (hs : 0 < (rx_tx s).length) (h : isW n t j s) : j < m := Nat.lt_of_not_le fun z => by
  have h1 := h.1
  rw [tk_end he j z] at h1
  omega
theorem tlen_in {j : Nat} (he : tk n t m = (n, n)) (h : 0 < tlen n t j) : j < m := Nat.lt_of_not_le fun z => by
  unfold tlen at h
  rw [tk_end he j z] at h
  omega
theorem fnd_in {N : nmS} {j a x : Nat} (he : tk n t m = (n, n)) (h : fnd N n t j a = some x) : j < m := by
  have := (nthF_some 16 0 x h).2
  exact tlen_in he (by have := this.1; omega)
theorem small_in {j lo hi x : Nat} (he : tk n t m = (n, n)) (h : smallR n t j lo hi = some x) : j < m := by
  refine tlen_in he ?_
  unfold smallR snm cnd at h
  split at h
  · cases h
  · next e =>
    split at e
    · next q => omega
    · cases e
theorem amt_in {j : Nat} {A : Nat × Nat} (he : tk n t m = (n, n)) (h : amt n t j = some A) : j < m := by
  refine tlen_in he ?_
  unfold amt at h
  dsimp only at h
  have hle := tk_le (n := n) (t := t) j
  have hd := de_le (tk n t j).2 t ((tk n t j).2 - (tk n t j).1) (tk n t j).1 (by omega)
  unfold tlen
  split at h
  · cases h
  · omega
theorem pNum_in {c : Prop} {j : Nat} {A : Nat × Nat} (he : tk n t m = (n, n)) (h : pNum n t c j = some A) : j < m := by
  unfold pNum at h
  split at h
  · cases h
  · next e => exact amt_in he e
theorem unt_in {j u : Nat} (he : tk n t m = (n, n)) (h : unt n t j = some u) : j < m := by
  have := nthF_some 5 0 u h
  refine isW_in he ?_ this.2
  have hu : ∀ u, u < 5 → 0 < (rx_tx (rx_uw u - 30)).length := by decide
  exact hu u (by omega)
theorem knd_in {j u : Nat} (he : tk n t m = (n, n)) (h : knd n t j = some u) : j < m := by
  have := nthF_some 13 0 u h
  refine isW_in he ?_ this.2
  have hu : ∀ u, u < 13 → 0 < (rx_tx (rx_kw u - 30)).length := by decide
  exact hu u (by omega)
/-- a wrong word, and the word behind what is read, stand at most behind the last -/
def inB {α : Type} (m : Nat) (r : Nat ⊕ (α × Nat)) : Prop := match r with
  | .inl k => k ≤ m
  | .inr q => q.2 ≤ m
theorem pThing_in {N : nmS} {j : Nat} (he : tk n t m = (n, n)) (hj : j ≤ m) : inB m (pThing N n t j) := by
  unfold pThing
  by_cases h2 : isW n t j 2
  · rw [cnd_t h2]; exact isW_in he (by decide) h2
  · rw [cnd_f h2]
    by_cases h3 : isW n t j 3
    · rw [cnd_t h3]
      have := isW_in he (by decide) h3
      cases e : fnd N n t (j + 1) 0 with
      | none => exact this
      | some x => exact fnd_in he e
    · rw [cnd_f h3]
      by_cases h4 : isW n t j 4
      · rw [cnd_t h4]
        have := isW_in he (by decide) h4
        cases e : fnd N n t (j + 1) 1 with
        | none => exact this
        | some x => exact fnd_in he e
      · rw [cnd_f h4]; exact hj
theorem pTwo_in {N : nmS} {j : Nat} (he : tk n t m = (n, n)) (hj : j ≤ m) : inB m (pTwo N n t j) := by
  unfold pTwo
  have h1 := pThing_in (N := N) he hj
  cases e : pThing N n t j with
  | inl k => rw [e] at h1; exact h1
  | inr q =>
    obtain ⟨o, j1⟩ := q
    rw [e] at h1
    dsimp only
    by_cases h5 : isW n t j1 5
    · rw [cnd_t h5]
      have h2 := pThing_in (N := N) he (j := j1 + 1) (isW_in he (by decide) h5)
      cases e2 : pThing N n t (j1 + 1) with
      | inl k => rw [e2] at h2; exact h2
      | inr q => rw [e2] at h2; exact h2
    · rw [cnd_f h5]; exact h1
theorem pScope_in {N : nmS} {κ j : Nat} (he : tk n t m = (n, n)) (hj : j ≤ m) : inB m (pScope N n t κ j) := by
  unfold pScope
  split
  · exact pTwo_in he hj
  · split
    · by_cases h0 : isW n t j 0
      · rw [cnd_t h0]; exact pTwo_in he (isW_in he (by decide) h0)
      · rw [cnd_f h0]; exact hj
    · by_cases h0 : isW n t j 1
      · rw [cnd_t h0]
        have h2 := pThing_in (N := N) he (j := j + 1) (isW_in he (by decide) h0)
        cases e2 : pThing N n t (j + 1) with
        | inl k => rw [e2] at h2; exact h2
        | inr q => rw [e2] at h2; exact h2
      · rw [cnd_f h0]; exact hj
theorem pEnds_in {c : Prop} {j1 j3 : Nat} {D : Nat × Nat} {o2 : Option (Nat × Nat)} (he : tk n t m = (n, n)) (h1 : j1 ≤ m) (h2 : ∀ B, o2 = some B → j1 + 2 ≤ m) (h3 : j3 ≤ m) : inB m (pEnds n t c j1 D o2 j3) := by
  unfold pEnds
  by_cases hc : c
  · rw [cnd_t hc]
    cases o2 with
    | none => exact h3
    | some B =>
      dsimp only
      split
      · exact h2 B rfl
      · exact h3
  · rw [cnd_f hc]
    cases eu : unt n t j3 with
    | none => exact h3
    | some u =>
      have hu := unt_in he eu
      dsimp only
      cases cvt D (unN u) 1000000000000 with
      | none => exact h1
      | some a =>
        cases o2 with
        | none => exact hu
        | some B =>
          dsimp only
          cases cvt B (unN u) 1000000000000 with
          | none => exact h2 B rfl
          | some b =>
            dsimp only
            split
            · exact h2 B rfl
            · exact hu
theorem pVal_in {c one : Prop} {j1 : Nat} (he : tk n t m = (n, n)) (h1 : j1 ≤ m) : inB m (pVal n t c one j1) := by
  unfold pVal
  cases e : pNum n t c j1 with
  | none => exact h1
  | some A =>
    have ha := pNum_in he e
    dsimp only
    by_cases h5 : ¬ one ∧ isW n t (j1 + 1) 15
    · rw [cnd_t h5]
      have hb := isW_in he (by decide) h5.2
      cases e2 : pNum n t c (j1 + 2) with
      | none => exact hb
      | some B =>
        have hc := pNum_in he e2
        exact pEnds_in he h1 (fun _ _ => by omega) (by omega)
    · rw [cnd_f h5]
      exact pEnds_in he h1 (fun _ z => by cases z) (by omega)
theorem pSpan_in {κ j : Nat} (he : tk n t m = (n, n)) (h1 : j ≤ m) : inB m (pSpan n t κ j) := by
  unfold pSpan
  by_cases h13 : isW n t j 13
  · rw [cnd_t h13]
    have := pVal_in (c := κ = 5 ∨ κ = 9) (one := True) he (j1 := j + 1) (isW_in he (by decide) h13)
    cases e : pVal n t (κ = 5 ∨ κ = 9) True (j + 1) with
    | inl k => rw [e] at this; exact this
    | inr k => rw [e] at this; exact this
  · rw [cnd_f h13]
    by_cases h14 : isW n t j 14
    · rw [cnd_t h14]
      have := pVal_in (c := κ = 5 ∨ κ = 9) (one := True) he (j1 := j + 1) (isW_in he (by decide) h14)
      cases e : pVal n t (κ = 5 ∨ κ = 9) True (j + 1) with
      | inl k => rw [e] at this; exact this
      | inr k => rw [e] at this; exact this
    · rw [cnd_f h14]
      have := pVal_in (c := κ = 5 ∨ κ = 9) (one := False) he (j1 := j) h1
      cases e : pVal n t (κ = 5 ∨ κ = 9) False j with
      | inl k => rw [e] at this; exact this
      | inr k => rw [e] at this; exact this
theorem semi_in {q : reS} {j : Nat} (he : tk n t m = (n, n)) (h1 : j ≤ m) : inB m (semi n t q j) := by
  unfold semi
  by_cases h : isW n t j 16
  · rw [cnd_t h]; exact isW_in he (by decide) h
  · rw [cnd_f h]; exact h1
theorem rSpan_in {κ l r j : Nat} {a : Option Nat} (he : tk n t m = (n, n)) (h1 : j ≤ m) : inB m (rSpan n t κ l a r j) := by
  unfold rSpan
  have := pSpan_in (κ := κ) he h1
  cases e : pSpan n t κ j with
  | inl k => rw [e] at this; exact this
  | inr k => rw [e] at this; exact semi_in he this
theorem rRank_in {κ l j : Nat} {a : Option Nat} (he : tk n t m = (n, n)) (h1 : j ≤ m) : inB m (rRank n t κ l a j) := by
  unfold rRank pRank
  by_cases h : isW n t j 12
  · rw [cnd_t h]
    have := isW_in he (by decide) h
    cases e : smallR n t (j + 1) 0 99 with
    | none => exact this
    | some r => exact rSpan_in he (small_in he e)
  · rw [cnd_f h]; exact rSpan_in he h1
theorem rArea_in {N : nmS} {κ l j : Nat} (he : tk n t m = (n, n)) (h1 : j ≤ m) : inB m (rArea N n t κ l j) := by
  unfold rArea pArea
  by_cases h : isW n t j 11
  · rw [cnd_t h]
    have := isW_in he (by decide) h
    cases e : fnd N n t (j + 1) 2 with
    | none => exact this
    | some r => exact rRank_in he (fnd_in he e)
  · rw [cnd_f h]; exact rRank_in he h1
theorem rLayer_in {N : nmS} {κ j : Nat} (he : tk n t m = (n, n)) (h1 : j ≤ m) : inB m (rLayer N n t κ j) := by
  unfold rLayer pLayer
  by_cases h6 : isW n t j 6
  · rw [cnd_t h6]
    have h6' := isW_in he (by decide) h6
    by_cases h7 : isW n t (j + 1) 7
    · rw [cnd_t h7]
      have h7' := isW_in he (by decide) h7
      cases e : smallR n t (j + 2) 1 32 with
      | none => exact h7'
      | some v => exact rArea_in he (small_in he e)
    · rw [cnd_f h7]
      by_cases h8 : isW n t (j + 1) 8
      · rw [cnd_t h8]; exact rArea_in he (isW_in he (by decide) h8)
      · rw [cnd_f h8]
        by_cases h9 : isW n t (j + 1) 9
        · rw [cnd_t h9]; exact rArea_in he (isW_in he (by decide) h9)
        · rw [cnd_f h9]
          by_cases h10 : isW n t (j + 1) 10
          · rw [cnd_t h10]; exact rArea_in he (isW_in he (by decide) h10)
          · rw [cnd_f h10]; exact h6'
  · rw [cnd_f h6]; exact rArea_in he h1
theorem pSent_in {N : nmS} {j : Nat} (he : tk n t m = (n, n)) (h1 : j ≤ m) : inB m (pSent N n t j) := by
  unfold pSent
  cases e : knd n t j with
  | none => exact h1
  | some κ =>
    dsimp only
    have h2 := pScope_in (N := N) (κ := κ) he (knd_in he e)
    cases e2 : pScope N n t κ (j + 1) with
    | inl k => rw [e2] at h2; exact h2
    | inr q =>
      obtain ⟨s, j1⟩ := q
      rw [e2] at h2
      dsimp only
      have h3 : inB m (rRest N n t κ j1) := by
        unfold rRest
        split
        · exact semi_in he h2
        · exact rLayer_in he h2
      cases e3 : rRest N n t κ j1 with
      | inl k => rw [e3] at h3; exact h3
      | inr k => rw [e3] at h3; exact h3
end
