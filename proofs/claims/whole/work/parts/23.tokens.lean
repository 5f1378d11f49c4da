/-! The text's words; the reference finds them -/
theorem d_Mo_findWords_0 : decode M_Mo_findWords.2.1 0 = .ok (.aload_n 0, 1) := by decide +kernel
theorem d_Mo_findWords_1 : decode M_Mo_findWords.2.1 1 = .ok (.iconst 0, 1) := by decide +kernel
theorem d_Mo_findWords_2 : decode M_Mo_findWords.2.1 2 = .ok (.putfield 53, 3) := by decide +kernel
theorem d_Mo_findWords_5 : decode M_Mo_findWords.2.1 5 = .ok (.iconst 0, 1) := by decide +kernel
theorem d_Mo_findWords_6 : decode M_Mo_findWords.2.1 6 = .ok (.istore_n 1, 1) := by decide +kernel
theorem d_Mo_findWords_7 : decode M_Mo_findWords.2.1 7 = .ok (.iload_n 1, 1) := by decide +kernel
theorem d_Mo_findWords_8 : decode M_Mo_findWords.2.1 8 = .ok (.aload_n 0, 1) := by decide +kernel
theorem d_Mo_findWords_9 : decode M_Mo_findWords.2.1 9 = .ok (.getfield 50, 3) := by decide +kernel
theorem d_Mo_findWords_12 : decode M_Mo_findWords.2.1 12 = .ok (.if_icmp .ge 94, 3) := by decide +kernel
theorem d_Mo_findWords_15 : decode M_Mo_findWords.2.1 15 = .ok (.iload_n 1, 1) := by decide +kernel
theorem d_Mo_findWords_16 : decode M_Mo_findWords.2.1 16 = .ok (.istore_n 2, 1) := by decide +kernel
theorem d_Mo_findWords_17 : decode M_Mo_findWords.2.1 17 = .ok (.iload_n 1, 1) := by decide +kernel
theorem d_Mo_findWords_18 : decode M_Mo_findWords.2.1 18 = .ok (.aload_n 0, 1) := by decide +kernel
theorem d_Mo_findWords_19 : decode M_Mo_findWords.2.1 19 = .ok (.getfield 50, 3) := by decide +kernel
theorem d_Mo_findWords_22 : decode M_Mo_findWords.2.1 22 = .ok (.if_icmp .ge 21, 3) := by decide +kernel
theorem d_Mo_findWords_25 : decode M_Mo_findWords.2.1 25 = .ok (.aload_n 0, 1) := by decide +kernel
theorem d_Mo_findWords_26 : decode M_Mo_findWords.2.1 26 = .ok (.getfield 7, 3) := by decide +kernel
theorem d_Mo_findWords_29 : decode M_Mo_findWords.2.1 29 = .ok (.iload_n 1, 1) := by decide +kernel
theorem d_Mo_findWords_30 : decode M_Mo_findWords.2.1 30 = .ok (.iaload, 1) := by decide +kernel
theorem d_Mo_findWords_31 : decode M_Mo_findWords.2.1 31 = .ok (.invokestatic 56, 3) := by decide +kernel
theorem d_Mo_findWords_34 : decode M_Mo_findWords.2.1 34 = .ok (.ifCond .eq 9, 3) := by decide +kernel
theorem d_Mo_findWords_37 : decode M_Mo_findWords.2.1 37 = .ok (.iinc 1 1, 3) := by decide +kernel
theorem d_Mo_findWords_40 : decode M_Mo_findWords.2.1 40 = .ok (.goto (-23), 3) := by decide +kernel
theorem d_Mo_findWords_43 : decode M_Mo_findWords.2.1 43 = .ok (.iload_n 1, 1) := by decide +kernel
theorem d_Mo_findWords_44 : decode M_Mo_findWords.2.1 44 = .ok (.iload_n 2, 1) := by decide +kernel
theorem d_Mo_findWords_45 : decode M_Mo_findWords.2.1 45 = .ok (.if_icmp .ne 17, 3) := by decide +kernel
theorem d_Mo_findWords_48 : decode M_Mo_findWords.2.1 48 = .ok (.aload_n 0, 1) := by decide +kernel
theorem d_Mo_findWords_49 : decode M_Mo_findWords.2.1 49 = .ok (.getfield 7, 3) := by decide +kernel
theorem d_Mo_findWords_52 : decode M_Mo_findWords.2.1 52 = .ok (.iload_n 1, 1) := by decide +kernel
theorem d_Mo_findWords_53 : decode M_Mo_findWords.2.1 53 = .ok (.iaload, 1) := by decide +kernel
theorem d_Mo_findWords_54 : decode M_Mo_findWords.2.1 54 = .ok (.bipush 59, 2) := by decide +kernel
theorem d_Mo_findWords_56 : decode M_Mo_findWords.2.1 56 = .ok (.if_icmp .ne 6, 3) := by decide +kernel
theorem d_Mo_findWords_59 : decode M_Mo_findWords.2.1 59 = .ok (.iinc 1 1, 3) := by decide +kernel
theorem d_Mo_findWords_62 : decode M_Mo_findWords.2.1 62 = .ok (.iload_n 1, 1) := by decide +kernel
theorem d_Mo_findWords_63 : decode M_Mo_findWords.2.1 63 = .ok (.iload_n 2, 1) := by decide +kernel
theorem d_Mo_findWords_64 : decode M_Mo_findWords.2.1 64 = .ok (.if_icmp .le 36, 3) := by decide +kernel
theorem d_Mo_findWords_67 : decode M_Mo_findWords.2.1 67 = .ok (.aload_n 0, 1) := by decide +kernel
theorem d_Mo_findWords_68 : decode M_Mo_findWords.2.1 68 = .ok (.getfield 30, 3) := by decide +kernel
theorem d_Mo_findWords_71 : decode M_Mo_findWords.2.1 71 = .ok (.aload_n 0, 1) := by decide +kernel
theorem d_Mo_findWords_72 : decode M_Mo_findWords.2.1 72 = .ok (.getfield 53, 3) := by decide +kernel
theorem d_Mo_findWords_75 : decode M_Mo_findWords.2.1 75 = .ok (.iload_n 2, 1) := by decide +kernel
theorem d_Mo_findWords_76 : decode M_Mo_findWords.2.1 76 = .ok (.iastore, 1) := by decide +kernel
theorem d_Mo_findWords_77 : decode M_Mo_findWords.2.1 77 = .ok (.aload_n 0, 1) := by decide +kernel
theorem d_Mo_findWords_78 : decode M_Mo_findWords.2.1 78 = .ok (.getfield 33, 3) := by decide +kernel
theorem d_Mo_findWords_81 : decode M_Mo_findWords.2.1 81 = .ok (.aload_n 0, 1) := by decide +kernel
theorem d_Mo_findWords_82 : decode M_Mo_findWords.2.1 82 = .ok (.getfield 53, 3) := by decide +kernel
theorem d_Mo_findWords_85 : decode M_Mo_findWords.2.1 85 = .ok (.iload_n 1, 1) := by decide +kernel
theorem d_Mo_findWords_86 : decode M_Mo_findWords.2.1 86 = .ok (.iastore, 1) := by decide +kernel
theorem d_Mo_findWords_87 : decode M_Mo_findWords.2.1 87 = .ok (.aload_n 0, 1) := by decide +kernel
theorem d_Mo_findWords_88 : decode M_Mo_findWords.2.1 88 = .ok (.dup, 1) := by decide +kernel
theorem d_Mo_findWords_89 : decode M_Mo_findWords.2.1 89 = .ok (.getfield 53, 3) := by decide +kernel
theorem d_Mo_findWords_92 : decode M_Mo_findWords.2.1 92 = .ok (.iconst 1, 1) := by decide +kernel
theorem d_Mo_findWords_93 : decode M_Mo_findWords.2.1 93 = .ok (.iadd, 1) := by decide +kernel
theorem d_Mo_findWords_94 : decode M_Mo_findWords.2.1 94 = .ok (.putfield 53, 3) := by decide +kernel
theorem d_Mo_findWords_97 : decode M_Mo_findWords.2.1 97 = .ok (.goto 6, 3) := by decide +kernel
theorem d_Mo_findWords_100 : decode M_Mo_findWords.2.1 100 = .ok (.iinc 1 1, 3) := by decide +kernel
theorem d_Mo_findWords_103 : decode M_Mo_findWords.2.1 103 = .ok (.goto (-96), 3) := by decide +kernel
theorem d_Mo_findWords_106 : decode M_Mo_findWords.2.1 106 = .ok (.return_, 1) := by decide +kernel
section
variable {n : Nat} {t : Nat → Int32}
theorem sk_step {i : Nat} (h : i < n) (hb : (t i).toInt ≤ 32) : sk n t (n - i) i = sk n t (n - (i + 1)) (i + 1) := by
  obtain ⟨f, hf⟩ : ∃ f, n - i = f + 1 := ⟨n - i - 1, by omega⟩
  rw [hf, show n - (i + 1) = f by omega]
  show (if i < n ∧ (t i).toInt ≤ 32 then _ else _) = _
  rw [if_pos ⟨h, hb⟩]
theorem sk_stop {i f : Nat} (h : ¬ (i < n ∧ (t i).toInt ≤ 32)) : sk n t f i = i := by
  cases f with
  | zero => rfl
  | succ f =>
    show (if i < n ∧ (t i).toInt ≤ 32 then _ else _) = _
    rw [if_neg h]
theorem we_step {i : Nat} (h : i < n) (hb : 32 < (t i).toInt ∧ (t i).toInt ≠ 59) : we n t (n - i) i = we n t (n - (i + 1)) (i + 1) := by
  obtain ⟨f, hf⟩ : ∃ f, n - i = f + 1 := ⟨n - i - 1, by omega⟩
  rw [hf, show n - (i + 1) = f by omega]
  show (if i < n ∧ 32 < (t i).toInt ∧ (t i).toInt ≠ 59 then _ else _) = _
  rw [if_pos ⟨h, hb⟩]
theorem we_stop {i f : Nat} (h : ¬ (i < n ∧ 32 < (t i).toInt ∧ (t i).toInt ≠ 59)) : we n t f i = i := by
  cases f with
  | zero => rfl
  | succ f =>
    show (if i < n ∧ 32 < (t i).toInt ∧ (t i).toInt ≠ 59 then _ else _) = _
    rw [if_neg h]
end
/-- the first word from b on -/
def tkF (n : Nat) (t : Nat → Int32) (b : Nat) : Nat × Nat := (sk n t (n - b) b, wordEnd n t (sk n t (n - b) b))
/-- word j: where it begins, where it ends -/
def tk (n : Nat) (t : Nat → Int32) : Nat → Nat × Nat
  | 0 => tkF n t 0
  | j + 1 => tkF n t (tk n t j).2
section
variable {n : Nat} {t : Nat → Int32}
theorem tkF_blank {p : Nat} (h : p < n) (hb : (t p).toInt ≤ 32) : tkF n t p = tkF n t (p + 1) := by
  unfold tkF
  rw [sk_step h hb]
theorem tkF_semi {p : Nat} (h : p < n) (hb : (t p).toInt = 59) : tkF n t p = (p, p + 1) := by
  unfold tkF wordEnd
  rw [sk_stop (by omega), if_pos ⟨h, hb⟩]
theorem tkF_sign {p : Nat} (h : p < n) (hb : 32 < (t p).toInt ∧ (t p).toInt ≠ 59) : tkF n t p = (p, we n t (n - p) p) := by
  unfold tkF wordEnd
  rw [sk_stop (by omega), if_neg (by omega)]
theorem tkF_end : tkF n t n = (n, n) := by
  unfold tkF wordEnd
  rw [sk_stop (by omega), if_neg (by omega), we_stop (by omega)]
theorem tkF_le {b : Nat} (h : b ≤ n) : b ≤ (tkF n t b).1 ∧ (tkF n t b).1 ≤ (tkF n t b).2 ∧ (tkF n t b).2 ≤ n := by
  have h1 := sk_le n t (n - b) b h
  have h2 := wordEnd_le t h1.2
  exact ⟨h1.1, h2.1, h2.2⟩
theorem tk_le : ∀ j, (tk n t j).1 ≤ (tk n t j).2 ∧ (tk n t j).2 ≤ n
  | 0 => (tkF_le (Nat.zero_le n)).2
  | j + 1 => (tkF_le (tk_le j).2).2
theorem tk_end {m : Nat} (h : tk n t m = (n, n)) : ∀ j, m ≤ j → tk n t j = (n, n) := by
  intro j hj
  induction j with
  | zero => rw [show m = 0 by omega] at h; exact h
  | succ j ih =>
    by_cases e : m = j + 1
    · subst e; exact h
    · show tkF n t (tk n t j).2 = _
      rw [ih (by omega)]
      exact tkF_end
end
theorem ws_iff {u : Int32} (h : isTC u) : isWS u ↔ 32 < u.toInt ∧ u.toInt ≠ 59 := by
  unfold isTC isLD at h
  unfold isWS isLet isDig
  omega
/-- how far the words are found -/
def fwI (n : Nat) (t : Nat → Int32) (mi m1 : Nat → Nat → Int32) (m p : Nat) : Prop :=
  (∀ r, r ≠ 398 → r ≠ 405 → r ≠ 406 → m1 r = mi r) ∧ (∀ k, k ≠ 9 → m1 398 k = mi 398 k) ∧ m1 398 9 = nI m ∧ m ≤ p ∧
  (∀ j, j < m → m1 405 j = nI (tk n t j).1 ∧ m1 406 j = nI (tk n t j).2 ∧ (tk n t j).1 < (tk n t j).2) ∧ tk n t m = tkF n t p
theorem fwI.rec_ {n : Nat} {t : Nat → Int32} {mi m1 : Nat → Nat → Int32} {m p p' : Nat} (h : fwI n t mi m1 m p) (e : tkF n t p = (p, p')) (hp : p < p') : fwI n t mi (rx_u (rx_u (rx_u m1 405 m (nI p)) 406 m (nI p')) 398 9 (nI (m + 1))) (m + 1) p' := by
  obtain ⟨h1, h2, h3, h4, h5, h6⟩ := h
  have h6' := h6.trans e
  refine ⟨fun r a b c => ?_, fun k hk => ?_, rx_u_same _ _ _ _, by omega, fun j hj => ?_, ?_⟩
  · rw [rx_u_r _ _ a, rx_u_r _ _ c, rx_u_r _ _ b]; exact h1 r a b c
  · rw [rx_u_k _ _ hk, rx_u_r _ _ (by decide), rx_u_r _ _ (by decide)]; exact h2 k hk
  · by_cases e2 : j = m
    · subst e2
      simp [rx_u, va_up, h6', hp]
    · have q := h5 j (by omega)
      simp [rx_u, va_up, e2, q]
  · show tkF n t (tk n t m).2 = _
    rw [h6']
section
variable {nx : Nat} {ct : Nat → Nat × Nat} {mi : Nat → Nat → Int32} {ml : Nat → Nat → Int64} {mr : Nat → Nat → Option Nat}
theorem sp_Mo_findWords {n : Nat} (hL : LAY nx ct mr) (hn : mi 398 2 = nI n) (hn2 : n ≤ 3000) (htc : ∀ i, i < n → isTC (mi 399 i)) : rx_Calls y_Mo_findWords M_Mo_findWords 2 0 0 [.ref 398] (nx, ct, mi, ml, mr) (fun v τ => v = none ∧ ∃ m m1, τ = (nx, ct, m1, ml, mr) ∧ fwI n (mi 399) mi m1 m n) := by
  refine rx_enter (by decide) rfl rfl (Nat.le_of_ble_eq_true rfl) ?_
  generalize ht : mi 399 = t at htc ⊢
  have inner : ∀ (m1 : Nat → Nat → Int32) (post : rx_End) (fr : Nat), m1 398 2 = nI n → m1 399 = t → ∀ f i, i ≤ n → f = n - i → rx_W M_Mo_findWords 2 0 0 43 [(0, .ref 398), (1, .int (nI (we n t (n - i) i))), (2, .int (nI fr))] [] (nx, ct, m1, ml, mr) post → rx_W M_Mo_findWords 2 0 0 17 [(0, .ref 398), (1, .int (nI i)), (2, .int (nI fr))] [] (nx, ct, m1, ml, mr) post := by
    intro m1 post fr h1 h2 f
    induction f with
    | zero =>
      intro i hi hf k
      rw [we_stop (by omega)] at k
      refine ru_iload_n d_Mo_findWords_17 rfl rfl ?_
      refine ru_aload_n d_Mo_findWords_18 rfl rfl ?_
      refine ru_getI d_Mo_findWords_19 lf_Mo_50 (ly hL 398 9 0) rfl ?_
      refine ru_eqi h1 ?_
      refine ru_icmp_ge (tgt := 43) d_Mo_findWords_22 (by decide) (fun h22 => ?_) (fun h22 => absurd (nI_le (by omega) (by omega)) h22)
      replace h22 := nm_le (a := n) (b := i) (by omega) (by omega) h22
      exact ru_to k ⟨rfl, rfl, rfl, trivial⟩
    | succ f ih =>
      intro i hi hf k
      have hw := ws_iff (htc i (by omega))
      refine ru_iload_n d_Mo_findWords_17 rfl rfl ?_
      refine ru_aload_n d_Mo_findWords_18 rfl rfl ?_
      refine ru_getI d_Mo_findWords_19 lf_Mo_50 (ly hL 398 9 0) rfl ?_
      refine ru_eqi h1 ?_
      refine ru_icmp_ge (tgt := 43) d_Mo_findWords_22 (by decide) (fun h22 => absurd h22 (nI_ge (by omega) (by omega))) (fun h22 => ?_)
      replace h22 := nm_nle (a := n) (b := i) (by omega) (by omega) h22
      refine ru_aload_n d_Mo_findWords_25 rfl rfl ?_
      refine ru_getR d_Mo_findWords_26 lf_Mo_7 (ly hL 398 9 0) rfl (lr hL 398 1 399) ?_
      refine ru_iload_n d_Mo_findWords_29 rfl rfl ?_
      refine ru_ialdN (j := i) d_Mo_findWords_30 (ly hL 399 100 3000) (by omega) (by decide) ?_
      rw [h2]
      refine ru_callS (mc := 0) (ms := 0) d_Mo_findWords_31 lm_Mo_56 (sp_Mo_isWordSign (t i) _) (by decide) rfl (Nat.le_of_ble_eq_true rfl) ?_
      intro v τ h
      obtain ⟨rfl, rfl⟩ := h
      refine ru_if_eq (tgt := 43) d_Mo_findWords_34 (by decide) (fun h34 => ?_) (fun h34 => ?_)
      · skip
        replace h34 := bI_eq0.mp h34
        rw [we_stop (fun q => h34 (hw.mpr q.2))] at k
        exact ru_to k ⟨rfl, rfl, rfl, trivial⟩
      · skip
        replace h34 := bI_ne0.mp h34
        refine ru_iinc (v := nI (i + 1)) d_Mo_findWords_37 rfl (nm_inc _ 1) (by decide) ?_
        refine ru_goto (tgt := 17) d_Mo_findWords_40 (by decide) ?_
        rw [we_step (by omega) (hw.mp h34)] at k
        exact ru_to (ih (i + 1) (by omega) (by omega) k) ⟨rfl, rfl, rfl, trivial⟩
  have outer : ∀ f p m (m1 : Nat → Nat → Int32), p ≤ n → n - p ≤ f → fwI n t mi m1 m p → rx_W M_Mo_findWords 2 0 0 7 [(0, .ref 398), (1, .int (nI p))] [] (nx, ct, m1, ml, mr) (pR (fun v τ => v = none ∧ ∃ m m1, τ = (nx, ct, m1, ml, mr) ∧ fwI n t mi m1 m n)) := by
    intro f
    induction f with
    | zero =>
      intro p m m1 hp hf I
      have e : p = n := by omega
      subst e
      have h1 : m1 398 2 = nI p := (I.2.1 2 (by decide)).trans hn
      refine ru_iload_n d_Mo_findWords_7 rfl rfl ?_
      refine ru_aload_n d_Mo_findWords_8 rfl rfl ?_
      refine ru_getI d_Mo_findWords_9 lf_Mo_50 (ly hL 398 9 0) rfl ?_
      refine ru_eqi h1 ?_
      refine ru_icmp_ge (tgt := 106) d_Mo_findWords_12 (by decide) (fun h12 => ?_) (fun h12 => absurd (nI_le (by omega) (by omega)) h12)
      replace h12 := nm_le (a := p) (b := p) (by omega) (by omega) h12
      refine ru_vret d_Mo_findWords_106 rfl ?_
      exact ⟨rfl, m, m1, rfl, I⟩
    | succ f ih =>
      intro p m m1 hp hf I
      have h1 : m1 398 2 = nI n := (I.2.1 2 (by decide)).trans hn
      have h2 : m1 399 = t := (I.1 399 (by decide) (by decide) (by decide)).trans ht
      have h9 : m1 398 9 = nI m := I.2.2.1
      have hmp : m ≤ p := I.2.2.2.1
      have mid : p < n → rx_W M_Mo_findWords 2 0 0 43 [(0, .ref 398), (1, .int (nI (we n t (n - p) p))), (2, .int (nI p))] [] (nx, ct, m1, ml, mr) (pR (fun v τ => v = none ∧ ∃ m m1, τ = (nx, ct, m1, ml, mr) ∧ fwI n t mi m1 m n)) := by
        intro hpn
        have hc := htc p hpn
        have rest : ∀ q', p < q' → q' ≤ n → tkF n t p = (p, q') → rx_W M_Mo_findWords 2 0 0 62 [(0, .ref 398), (1, .int (nI q')), (2, .int (nI p))] [] (nx, ct, m1, ml, mr) (pR (fun v τ => v = none ∧ ∃ m m1, τ = (nx, ct, m1, ml, mr) ∧ fwI n t mi m1 m n)) := by
          intro q' h3 h4 h5
          refine ru_iload_n d_Mo_findWords_62 rfl rfl ?_
          refine ru_iload_n d_Mo_findWords_63 rfl rfl ?_
          refine ru_icmp_le (tgt := 100) d_Mo_findWords_64 (by decide) (fun h64 => ?_) (fun h64 => ?_)
          · skip
            replace h64 := nm_le (a := q') (b := p) (by omega) (by omega) h64
            exfalso; omega
          · skip
            replace h64 := nm_nle (a := q') (b := p) (by omega) (by omega) h64
            refine ru_aload_n d_Mo_findWords_67 rfl rfl ?_
            refine ru_getR d_Mo_findWords_68 lf_Mo_30 (ly hL 398 9 0) rfl (lr hL 398 10 405) ?_
            refine ru_aload_n d_Mo_findWords_71 rfl rfl ?_
            refine ru_getI d_Mo_findWords_72 lf_Mo_53 (ly hL 398 9 0) rfl ?_
            refine ru_eqi h9 ?_
            refine ru_iload_n d_Mo_findWords_75 rfl rfl ?_
            refine ru_iastN (j := m) d_Mo_findWords_76 (ly hL 405 100 3001) (by omega) (by decide) ?_
            refine ru_aload_n d_Mo_findWords_77 rfl rfl ?_
            refine ru_getR d_Mo_findWords_78 lf_Mo_33 (ly hL 398 9 0) rfl (lr hL 398 11 406) ?_
            refine ru_aload_n d_Mo_findWords_81 rfl rfl ?_
            refine ru_getI d_Mo_findWords_82 lf_Mo_53 (ly hL 398 9 0) rfl ?_
            rw [rx_u_r _ _ (by decide)]
            refine ru_eqi h9 ?_
            refine ru_iload_n d_Mo_findWords_85 rfl rfl ?_
            refine ru_iastN (j := m) d_Mo_findWords_86 (ly hL 406 100 3001) (by omega) (by decide) ?_
            refine ru_aload_n d_Mo_findWords_87 rfl rfl ?_
            refine ru_dup d_Mo_findWords_88 rfl ?_
            refine ru_getI d_Mo_findWords_89 lf_Mo_53 (ly hL 398 9 0) rfl ?_
            rw [rx_u_r _ _ (by decide), rx_u_r _ _ (by decide)]
            refine ru_eqi h9 ?_
            refine ru_iconst (v := 1) d_Mo_findWords_92 (by decide) ?_
            refine ru_iadd d_Mo_findWords_93 ?_
            refine ru_eqi (nm_add m 1 : _ = nI (m + 1)) ?_
            refine ru_putI d_Mo_findWords_94 lf_Mo_53 (ly hL 398 9 0) rfl (fun q hq => by cases hq; exact Or.inl rfl) ⟨rfl, rfl⟩ ?_
            refine ru_goto (tgt := 103) d_Mo_findWords_97 (by decide) ?_
            refine ru_goto (tgt := 7) d_Mo_findWords_103 (by decide) ?_
            exact ru_to (ih q' (m + 1) _ h4 (by omega) (I.rec_ h5 h3)) ⟨rfl, rfl, trivial⟩
        by_cases hs : 32 < (t p).toInt ∧ (t p).toInt ≠ 59
        · have hlt : p < we n t (n - p) p := by
            rw [we_step hpn hs]
            exact (we_le n t (n - (p + 1)) (p + 1) (by omega)).1
          have hle := (we_le n t (n - p) p hp).2
          have e := tkF_sign hpn hs
          generalize we n t (n - p) p = q at hlt hle e ⊢
          refine ru_iload_n d_Mo_findWords_43 rfl rfl ?_
          refine ru_iload_n d_Mo_findWords_44 rfl rfl ?_
          refine ru_icmp_ne (tgt := 62) d_Mo_findWords_45 (by decide) (fun h45 => ?_) (fun h45 => ?_)
          · skip
            replace h45 := nm_ne (a := q) (b := p) (by omega) (by omega) h45
            exact ru_to (rest q hlt hle e) ⟨rfl, rfl, rfl, trivial⟩
          · skip
            replace h45 := nm_eq (a := q) (b := p) (by omega) (by omega) h45
            exfalso; omega
        · rw [we_stop (fun x => hs x.2)]
          by_cases h59 : (t p).toInt = 59
          · have e : t p = 59 := by rw [iq, i_59]; exact h59
            refine ru_iload_n d_Mo_findWords_43 rfl rfl ?_
            refine ru_iload_n d_Mo_findWords_44 rfl rfl ?_
            refine ru_icmp_ne (tgt := 62) d_Mo_findWords_45 (by decide) (fun h45 => absurd rfl h45) (fun h45 => ?_)
            replace h45 := nm_eq (a := p) (b := p) (by omega) (by omega) h45
            refine ru_aload_n d_Mo_findWords_48 rfl rfl ?_
            refine ru_getR d_Mo_findWords_49 lf_Mo_7 (ly hL 398 9 0) rfl (lr hL 398 1 399) ?_
            refine ru_iload_n d_Mo_findWords_52 rfl rfl ?_
            refine ru_ialdN (j := p) d_Mo_findWords_53 (ly hL 399 100 3000) (by omega) (by decide) ?_
            rw [h2, e]
            refine ru_bipush (v := 59) d_Mo_findWords_54 (by decide) ?_
            refine ru_icmp_ne (tgt := 62) d_Mo_findWords_56 (by decide) (fun h56 => absurd h56 (by decide)) (fun h56 => ?_)
            refine ru_iinc (v := nI (p + 1)) d_Mo_findWords_59 rfl (nm_inc _ 1) (by decide) ?_
            exact ru_to (rest (p + 1) (by omega) (by omega) (tkF_semi hpn h59)) ⟨rfl, rfl, rfl, trivial⟩
          · have e : ¬ t p = 59 := fun x => h59 (by rw [x, i_59])
            refine ru_iload_n d_Mo_findWords_43 rfl rfl ?_
            refine ru_iload_n d_Mo_findWords_44 rfl rfl ?_
            refine ru_icmp_ne (tgt := 62) d_Mo_findWords_45 (by decide) (fun h45 => absurd rfl h45) (fun h45 => ?_)
            replace h45 := nm_eq (a := p) (b := p) (by omega) (by omega) h45
            refine ru_aload_n d_Mo_findWords_48 rfl rfl ?_
            refine ru_getR d_Mo_findWords_49 lf_Mo_7 (ly hL 398 9 0) rfl (lr hL 398 1 399) ?_
            refine ru_iload_n d_Mo_findWords_52 rfl rfl ?_
            refine ru_ialdN (j := p) d_Mo_findWords_53 (ly hL 399 100 3000) (by omega) (by decide) ?_
            rw [h2]
            refine ru_bipush (v := 59) d_Mo_findWords_54 (by decide) ?_
            refine ru_icmp_ne (tgt := 62) d_Mo_findWords_56 (by decide) (fun h56 => ?_) (fun h56 => absurd h56 e)
            refine ru_iload_n d_Mo_findWords_62 rfl rfl ?_
            refine ru_iload_n d_Mo_findWords_63 rfl rfl ?_
            refine ru_icmp_le (tgt := 100) d_Mo_findWords_64 (by decide) (fun h64 => ?_) (fun h64 => absurd (nI_le (by omega) (by omega)) h64)
            replace h64 := nm_le (a := p) (b := p) (by omega) (by omega) h64
            refine ru_iinc (v := nI (p + 1)) d_Mo_findWords_100 rfl (nm_inc _ 1) (by decide) ?_
            refine ru_goto (tgt := 7) d_Mo_findWords_103 (by decide) ?_
            exact ru_to (ih (p + 1) m m1 (by omega) (by omega) ⟨I.1, I.2.1, h9, by omega, I.2.2.2.2.1, I.2.2.2.2.2.trans (tkF_blank hpn (by omega))⟩) ⟨rfl, rfl, trivial⟩
      refine ru_iload_n d_Mo_findWords_7 rfl rfl ?_
      refine ru_aload_n d_Mo_findWords_8 rfl rfl ?_
      refine ru_getI d_Mo_findWords_9 lf_Mo_50 (ly hL 398 9 0) rfl ?_
      refine ru_eqi h1 ?_
      refine ru_icmp_ge (tgt := 106) d_Mo_findWords_12 (by decide) (fun h12 => ?_) (fun h12 => ?_)
      · skip
        replace h12 := nm_le (a := n) (b := p) (by omega) (by omega) h12
        refine ru_vret d_Mo_findWords_106 rfl ?_
        have e : p = n := by omega
        subst e
        exact ⟨rfl, m, m1, rfl, I⟩
      · skip
        replace h12 := nm_nle (a := n) (b := p) (by omega) (by omega) h12
        refine ru_iload_n d_Mo_findWords_15 rfl rfl ?_
        refine ru_istore_n d_Mo_findWords_16 rfl (by decide) ?_
        exact ru_to (inner m1 _ p h1 h2 (n - p) p hp rfl (mid (by omega))) ⟨rfl, rfl, rfl, trivial⟩
  refine ru_aload_n d_Mo_findWords_0 rfl rfl ?_
  refine ru_iconst (v := 0) d_Mo_findWords_1 (by decide) ?_
  refine ru_putI d_Mo_findWords_2 lf_Mo_53 (ly hL 398 9 0) rfl (fun q hq => by cases hq; exact Or.inl rfl) ⟨rfl, rfl⟩ ?_
  refine ru_iconst (v := 0) d_Mo_findWords_5 (by decide) ?_
  refine ru_istore_n d_Mo_findWords_6 rfl (by decide) ?_
  refine ru_to (outer n 0 0 _ (by omega) (by omega) ?_) ⟨rfl, rfl, trivial⟩
  exact ⟨fun r a b c => rx_u_r _ _ a, fun k hk => rx_u_k _ _ hk, rx_u_same _ _ _ _, by omega, fun j hj => by omega, rfl⟩
end
