/-! The class reads: all rules -/
theorem d_RT_read_0 : decode M_RT_read.2.1 0 = .ok (.aload_n 0, 1) := by decide +kernel
theorem d_RT_read_1 : decode M_RT_read.2.1 1 = .ok (.getfield 35, 3) := by decide +kernel
theorem d_RT_read_4 : decode M_RT_read.2.1 4 = .ok (.aload_n 0, 1) := by decide +kernel
theorem d_RT_read_5 : decode M_RT_read.2.1 5 = .ok (.getfield 55, 3) := by decide +kernel
theorem d_RT_read_8 : decode M_RT_read.2.1 8 = .ok (.invokevirtual 80, 3) := by decide +kernel
theorem d_RT_read_11 : decode M_RT_read.2.1 11 = .ok (.istore_n 1, 1) := by decide +kernel
theorem d_RT_read_12 : decode M_RT_read.2.1 12 = .ok (.iload_n 1, 1) := by decide +kernel
theorem d_RT_read_13 : decode M_RT_read.2.1 13 = .ok (.ifCond .lt 26, 3) := by decide +kernel
theorem d_RT_read_16 : decode M_RT_read.2.1 16 = .ok (.aload_n 0, 1) := by decide +kernel
theorem d_RT_read_17 : decode M_RT_read.2.1 17 = .ok (.getfield 51, 3) := by decide +kernel
theorem d_RT_read_20 : decode M_RT_read.2.1 20 = .ok (.astore_n 2, 1) := by decide +kernel
theorem d_RT_read_21 : decode M_RT_read.2.1 21 = .ok (.aload_n 0, 1) := by decide +kernel
theorem d_RT_read_22 : decode M_RT_read.2.1 22 = .ok (.aload_n 0, 1) := by decide +kernel
theorem d_RT_read_23 : decode M_RT_read.2.1 23 = .ok (.getfield 55, 3) := by decide +kernel
theorem d_RT_read_26 : decode M_RT_read.2.1 26 = .ok (.putfield 51, 3) := by decide +kernel
theorem d_RT_read_29 : decode M_RT_read.2.1 29 = .ok (.aload_n 0, 1) := by decide +kernel
theorem d_RT_read_30 : decode M_RT_read.2.1 30 = .ok (.aload_n 2, 1) := by decide +kernel
theorem d_RT_read_31 : decode M_RT_read.2.1 31 = .ok (.putfield 55, 3) := by decide +kernel
theorem d_RT_read_34 : decode M_RT_read.2.1 34 = .ok (.aload_n 0, 1) := by decide +kernel
theorem d_RT_read_35 : decode M_RT_read.2.1 35 = .ok (.iconst 1, 1) := by decide +kernel
theorem d_RT_read_36 : decode M_RT_read.2.1 36 = .ok (.putfield 58, 3) := by decide +kernel
theorem d_RT_read_39 : decode M_RT_read.2.1 39 = .ok (.iload_n 1, 1) := by decide +kernel
theorem d_RT_read_40 : decode M_RT_read.2.1 40 = .ok (.ireturn, 1) := by decide +kernel
theorem d_Rd_readRules_0 : decode M_Rd_readRules.2.1 0 = .ok (.aload_n 0, 1) := by decide +kernel
theorem d_Rd_readRules_1 : decode M_Rd_readRules.2.1 1 = .ok (.iconst (-1), 1) := by decide +kernel
theorem d_Rd_readRules_2 : decode M_Rd_readRules.2.1 2 = .ok (.putfield 29, 3) := by decide +kernel
theorem d_Rd_readRules_5 : decode M_Rd_readRules.2.1 5 = .ok (.aload_n 0, 1) := by decide +kernel
theorem d_Rd_readRules_6 : decode M_Rd_readRules.2.1 6 = .ok (.getfield 21, 3) := by decide +kernel
theorem d_Rd_readRules_9 : decode M_Rd_readRules.2.1 9 = .ok (.invokevirtual 33, 3) := by decide +kernel
theorem d_Rd_readRules_12 : decode M_Rd_readRules.2.1 12 = .ok (.aload_n 1, 1) := by decide +kernel
theorem d_Rd_readRules_13 : decode M_Rd_readRules.2.1 13 = .ok (.iconst 0, 1) := by decide +kernel
theorem d_Rd_readRules_14 : decode M_Rd_readRules.2.1 14 = .ok (.putfield 38, 3) := by decide +kernel
theorem d_Rd_readRules_17 : decode M_Rd_readRules.2.1 17 = .ok (.aload_n 1, 1) := by decide +kernel
theorem d_Rd_readRules_18 : decode M_Rd_readRules.2.1 18 = .ok (.getfield 38, 3) := by decide +kernel
theorem d_Rd_readRules_21 : decode M_Rd_readRules.2.1 21 = .ok (.bipush 60, 2) := by decide +kernel
theorem d_Rd_readRules_23 : decode M_Rd_readRules.2.1 23 = .ok (.if_icmp .ge 72, 3) := by decide +kernel
theorem d_Rd_readRules_26 : decode M_Rd_readRules.2.1 26 = .ok (.aload_n 0, 1) := by decide +kernel
theorem d_Rd_readRules_27 : decode M_Rd_readRules.2.1 27 = .ok (.getfield 21, 3) := by decide +kernel
theorem d_Rd_readRules_30 : decode M_Rd_readRules.2.1 30 = .ok (.invokevirtual 43, 3) := by decide +kernel
theorem d_Rd_readRules_33 : decode M_Rd_readRules.2.1 33 = .ok (.ifCond .eq 8, 3) := by decide +kernel
theorem d_Rd_readRules_36 : decode M_Rd_readRules.2.1 36 = .ok (.aload_n 1, 1) := by decide +kernel
theorem d_Rd_readRules_37 : decode M_Rd_readRules.2.1 37 = .ok (.getfield 38, 3) := by decide +kernel
theorem d_Rd_readRules_40 : decode M_Rd_readRules.2.1 40 = .ok (.ireturn, 1) := by decide +kernel
theorem d_Rd_readRules_41 : decode M_Rd_readRules.2.1 41 = .ok (.aload_n 0, 1) := by decide +kernel
theorem d_Rd_readRules_42 : decode M_Rd_readRules.2.1 42 = .ok (.aload_n 1, 1) := by decide +kernel
theorem d_Rd_readRules_43 : decode M_Rd_readRules.2.1 43 = .ok (.getfield 47, 3) := by decide +kernel
theorem d_Rd_readRules_46 : decode M_Rd_readRules.2.1 46 = .ok (.aload_n 1, 1) := by decide +kernel
theorem d_Rd_readRules_47 : decode M_Rd_readRules.2.1 47 = .ok (.getfield 38, 3) := by decide +kernel
theorem d_Rd_readRules_50 : decode M_Rd_readRules.2.1 50 = .ok (.aaload, 1) := by decide +kernel
theorem d_Rd_readRules_51 : decode M_Rd_readRules.2.1 51 = .ok (.invokevirtual 51, 3) := by decide +kernel
theorem d_Rd_readRules_54 : decode M_Rd_readRules.2.1 54 = .ok (.ifCond .ne 28, 3) := by decide +kernel
theorem d_Rd_readRules_57 : decode M_Rd_readRules.2.1 57 = .ok (.iconst (-1), 1) := by decide +kernel
theorem d_Rd_readRules_58 : decode M_Rd_readRules.2.1 58 = .ok (.aload_n 0, 1) := by decide +kernel
theorem d_Rd_readRules_59 : decode M_Rd_readRules.2.1 59 = .ok (.getfield 29, 3) := by decide +kernel
theorem d_Rd_readRules_62 : decode M_Rd_readRules.2.1 62 = .ok (.iconst (-1), 1) := by decide +kernel
theorem d_Rd_readRules_63 : decode M_Rd_readRules.2.1 63 = .ok (.if_icmp .ne 13, 3) := by decide +kernel
theorem d_Rd_readRules_66 : decode M_Rd_readRules.2.1 66 = .ok (.aload_n 0, 1) := by decide +kernel
theorem d_Rd_readRules_67 : decode M_Rd_readRules.2.1 67 = .ok (.getfield 21, 3) := by decide +kernel
theorem d_Rd_readRules_70 : decode M_Rd_readRules.2.1 70 = .ok (.getfield 55, 3) := by decide +kernel
theorem d_Rd_readRules_73 : decode M_Rd_readRules.2.1 73 = .ok (.goto 7, 3) := by decide +kernel
theorem d_Rd_readRules_76 : decode M_Rd_readRules.2.1 76 = .ok (.aload_n 0, 1) := by decide +kernel
theorem d_Rd_readRules_77 : decode M_Rd_readRules.2.1 77 = .ok (.getfield 29, 3) := by decide +kernel
theorem d_Rd_readRules_80 : decode M_Rd_readRules.2.1 80 = .ok (.isub, 1) := by decide +kernel
theorem d_Rd_readRules_81 : decode M_Rd_readRules.2.1 81 = .ok (.ireturn, 1) := by decide +kernel
theorem d_Rd_readRules_82 : decode M_Rd_readRules.2.1 82 = .ok (.aload_n 1, 1) := by decide +kernel
theorem d_Rd_readRules_83 : decode M_Rd_readRules.2.1 83 = .ok (.dup, 1) := by decide +kernel
theorem d_Rd_readRules_84 : decode M_Rd_readRules.2.1 84 = .ok (.getfield 38, 3) := by decide +kernel
theorem d_Rd_readRules_87 : decode M_Rd_readRules.2.1 87 = .ok (.iconst 1, 1) := by decide +kernel
theorem d_Rd_readRules_88 : decode M_Rd_readRules.2.1 88 = .ok (.iadd, 1) := by decide +kernel
theorem d_Rd_readRules_89 : decode M_Rd_readRules.2.1 89 = .ok (.putfield 38, 3) := by decide +kernel
theorem d_Rd_readRules_92 : decode M_Rd_readRules.2.1 92 = .ok (.goto (-75), 3) := by decide +kernel
theorem d_Rd_readRules_95 : decode M_Rd_readRules.2.1 95 = .ok (.aload_n 0, 1) := by decide +kernel
theorem d_Rd_readRules_96 : decode M_Rd_readRules.2.1 96 = .ok (.getfield 21, 3) := by decide +kernel
theorem d_Rd_readRules_99 : decode M_Rd_readRules.2.1 99 = .ok (.invokevirtual 43, 3) := by decide +kernel
theorem d_Rd_readRules_102 : decode M_Rd_readRules.2.1 102 = .ok (.ifCond .eq 10, 3) := by decide +kernel
theorem d_Rd_readRules_105 : decode M_Rd_readRules.2.1 105 = .ok (.aload_n 1, 1) := by decide +kernel
theorem d_Rd_readRules_106 : decode M_Rd_readRules.2.1 106 = .ok (.getfield 38, 3) := by decide +kernel
theorem d_Rd_readRules_109 : decode M_Rd_readRules.2.1 109 = .ok (.goto 12, 3) := by decide +kernel
theorem d_Rd_readRules_112 : decode M_Rd_readRules.2.1 112 = .ok (.iconst (-1), 1) := by decide +kernel
theorem d_Rd_readRules_113 : decode M_Rd_readRules.2.1 113 = .ok (.aload_n 0, 1) := by decide +kernel
theorem d_Rd_readRules_114 : decode M_Rd_readRules.2.1 114 = .ok (.getfield 21, 3) := by decide +kernel
theorem d_Rd_readRules_117 : decode M_Rd_readRules.2.1 117 = .ok (.getfield 55, 3) := by decide +kernel
theorem d_Rd_readRules_120 : decode M_Rd_readRules.2.1 120 = .ok (.isub, 1) := by decide +kernel
theorem d_Rd_readRules_121 : decode M_Rd_readRules.2.1 121 = .ok (.ireturn, 1) := by decide +kernel
section
variable {n : Nat} {t : Nat → Int32} {N : nmS}
theorem sk_nb : ∀ f i, f = n - i → i ≤ n → sk n t f i < n → 32 < (t (sk n t f i)).toInt
  | 0, i, h1, h2, h3 => by
    have : sk n t 0 i = i := rfl
    rw [this] at h3
    omega
  | f + 1, i, h1, h2, h3 => by
    unfold sk at h3 ⊢
    by_cases h : i < n ∧ (t i).toInt ≤ 32
    · rw [if_pos h] at h3 ⊢
      exact sk_nb f (i + 1) (by omega) (by omega) h3
    · rw [if_neg h] at h3 ⊢
      omega
theorem tkF_two {b : Nat} (hb : b ≤ n) : tkF n t b = (n, n) ∨ (tkF n t b).1 < (tkF n t b).2 := by
  have h1 := sk_le n t (n - b) b hb
  have h2 := sk_nb (n := n) (t := t) (n - b) b rfl hb
  unfold tkF
  generalize sk n t (n - b) b = i at h1 h2
  by_cases hi : i < n
  · right
    have h3 := h2 hi
    show i < wordEnd n t i
    unfold wordEnd
    by_cases h59 : i < n ∧ (t i).toInt = 59
    · rw [if_pos h59]; omega
    · rw [if_neg h59, we_step hi ⟨h3, fun z => h59 ⟨hi, z⟩⟩]
      have := we_le n t (n - (i + 1)) (i + 1) (by omega)
      omega
  · left
    have : i = n := by omega
    subst this
    show (i, wordEnd i t i) = (i, i)
    unfold wordEnd
    rw [if_neg (by omega), we_stop (by omega)]
theorem tk_run : ∀ j, tk n t j = (n, n) ∨ j + 1 ≤ (tk n t j).2
  | 0 => by
    rcases tkF_two (n := n) (t := t) (b := 0) (by omega) with h | h
    · exact Or.inl h
    · right; show 0 + 1 ≤ (tkF n t 0).2; omega
  | j + 1 => by
    have l := tk_le (n := n) (t := t) j
    have l2 := tkF_le (t := t) l.2
    rcases tkF_two (n := n) (t := t) l.2 with h | h
    · exact Or.inl h
    · rcases tk_run j with q | q
      · have e : (tk n t j).2 = n := by rw [q]
        have : (tkF n t (tk n t j).2).2 ≤ n := l2.2.2
        omega
      · right; show j + 1 + 1 ≤ (tkF n t (tk n t j).2).2; omega
theorem tk_n : tk n t n = (n, n) := by
  rcases tk_run (n := n) (t := t) n with h | h
  · exact h
  · have := tk_le (n := n) (t := t) n
    omega
theorem pTwo_32 {j w : Nat} {s : Option Nat × Option Nat} (h : pTwo N n t j = .inr (s, w)) : (∀ x, s.1 = some x → x < 32) ∧ ∀ x, s.2 = some x → x < 32 := by
  unfold pTwo at h
  cases e : pThing N n t j with
  | inl k => rw [e] at h; cases h
  | inr q =>
    obtain ⟨o, w1⟩ := q
    rw [e] at h
    simp only at h
    by_cases c : isW n t w1 5
    · rw [cnd_t c] at h
      cases e2 : pThing N n t (w1 + 1) with
      | inl k => rw [e2] at h; cases h
      | inr q => obtain ⟨o2, w2⟩ := q; rw [e2] at h; cases h; exact ⟨pThing_32 e, pThing_32 e2⟩
    · rw [cnd_f c] at h; cases h
theorem pScope_ok {κ j w : Nat} {s : Option Nat × Option Nat} (h : pScope N n t κ j = .inr (s, w)) : ((∀ x, s.1 = some x → x < 32) ∧ ∀ x, s.2 = some x → x < 32) ∧ (κ ≠ 0 → κ ≠ 12 → s.2 = none) := by
  unfold pScope at h
  by_cases k12 : κ = 12
  · rw [if_pos k12] at h
    exact ⟨pTwo_32 h, fun _ z => absurd k12 z⟩
  · rw [if_neg k12] at h
    by_cases k0 : κ = 0
    · rw [if_pos k0] at h
      by_cases c : isW n t j 0
      · rw [cnd_t c] at h; exact ⟨pTwo_32 h, fun z _ => absurd k0 z⟩
      · rw [cnd_f c] at h; cases h; exact ⟨⟨(fun x z => by cases z), (fun x z => by cases z)⟩, fun _ _ => rfl⟩
    · rw [if_neg k0] at h
      by_cases c : isW n t j 1
      · rw [cnd_t c] at h
        cases e : pThing N n t (j + 1) with
        | inl k => rw [e] at h; cases h
        | inr q => obtain ⟨o, w1⟩ := q; rw [e] at h; cases h; exact ⟨⟨pThing_32 e, (fun x z => by cases z)⟩, fun _ _ => rfl⟩
      · rw [cnd_f c] at h; cases h; exact ⟨⟨(fun x z => by cases z), (fun x z => by cases z)⟩, fun _ _ => rfl⟩
theorem smallR_le {j lo hi v : Nat} (h : smallR n t j lo hi = some v) : v ≤ hi := by
  unfold smallR at h
  cases e : snm n t j with
  | none => rw [e] at h; cases h
  | some x =>
    rw [e] at h
    simp only at h
    by_cases c : lo ≤ x ∧ x ≤ hi
    · rw [if_pos c] at h; cases h; exact c.2
    · rw [if_neg c] at h; cases h
theorem pLayer_le {j l w : Nat} (h : pLayer n t j = .inr (l, w)) : l ≤ 35 := by
  unfold pLayer at h
  by_cases c : isW n t j 6
  · rw [cnd_t c] at h
    by_cases c1 : isW n t (j + 1) 7
    · rw [cnd_t c1] at h
      cases e : smallR n t (j + 2) 1 32 with
      | none => rw [e] at h; cases h
      | some v => rw [e] at h; cases h; have := smallR_le e; omega
    · rw [cnd_f c1] at h
      by_cases c2 : isW n t (j + 1) 8
      · rw [cnd_t c2] at h; cases h; omega
      · rw [cnd_f c2] at h
        by_cases c3 : isW n t (j + 1) 9
        · rw [cnd_t c3] at h; cases h; omega
        · rw [cnd_f c3] at h
          by_cases c4 : isW n t (j + 1) 10
          · rw [cnd_t c4] at h; cases h; omega
          · rw [cnd_f c4] at h; cases h
  · rw [cnd_f c] at h; cases h; omega
theorem pArea_lt {j w : Nat} {a : Option Nat} (h : pArea N n t j = .inr (a, w)) : ∀ x, a = some x → x < 16 := by
  unfold pArea at h
  by_cases c : isW n t j 11
  · rw [cnd_t c] at h
    cases e : fnd N n t (j + 1) 2 with
    | none => rw [e] at h; cases h
    | some v => rw [e] at h; cases h; intro x z; cases z; exact fnd_lt e
  · rw [cnd_f c] at h; cases h; intro x z; cases z
theorem pRank_le {j w r : Nat} (h : pRank n t j = .inr (r, w)) : r ≤ 99 := by
  unfold pRank at h
  by_cases c : isW n t j 12
  · rw [cnd_t c] at h
    cases e : smallR n t (j + 1) 0 99 with
    | none => rw [e] at h; cases h
    | some v => rw [e] at h; cases h; exact smallR_le e
  · rw [cnd_f c] at h; cases h; omega
theorem pEnds_ok {c : Prop} {j1 w w' : Nat} {A : Nat × Nat} {o2 : Option (Nat × Nat)} {e : Nat × Nat} (hA : c → A.1 ≤ 1000000) (hB : ∀ B, o2 = some B → c → B.1 ≤ 1000000) (h : pEnds n t c j1 A o2 w = .inr (e, w')) : e.1 ≤ e.2 ∧ e.2 ≤ 1000000000000 := by
  unfold pEnds at h
  by_cases hc : c
  · rw [cnd_t hc] at h
    have hA := hA hc
    cases o2 with
    | none => cases h; exact ⟨Nat.le_refl _, by show A.1 ≤ _; omega⟩
    | some B =>
      have hB := hB B rfl hc
      simp only at h
      by_cases q : B.1 < A.1
      · rw [if_pos q] at h; cases h
      · rw [if_neg q] at h; cases h; exact ⟨by show A.1 ≤ B.1; omega, by show B.1 ≤ _; omega⟩
  · rw [cnd_f hc] at h
    cases eu : unt n t w with
    | none => rw [eu] at h; cases h
    | some u =>
      rw [eu] at h
      simp only at h
      cases ec : cvt A (unN u) 1000000000000 with
      | none => rw [ec] at h; cases h
      | some a =>
        rw [ec] at h
        have ha := (cvt_some ec).2.1
        cases o2 with
        | none => cases h; exact ⟨Nat.le_refl _, ha⟩
        | some B =>
          simp only at h
          cases ed : cvt B (unN u) 1000000000000 with
          | none => rw [ed] at h; cases h
          | some b =>
            rw [ed] at h
            have hb := (cvt_some ed).2.1
            simp only at h
            by_cases q : b < a
            · rw [if_pos q] at h; cases h
            · rw [if_neg q] at h; cases h; exact ⟨by show a ≤ b; omega, hb⟩
theorem pVal_ok {c one : Prop} {j1 w : Nat} {e : Nat × Nat} (h : pVal n t c one j1 = .inr (e, w)) : e.1 ≤ e.2 ∧ e.2 ≤ 1000000000000 := by
  unfold pVal at h
  cases ea : pNum n t c j1 with
  | none => rw [ea] at h; cases h
  | some A =>
    rw [ea] at h
    simp only at h
    have hA := fun z => ((pNum_lt ea).2 z).2
    by_cases q : ¬ one ∧ isW n t (j1 + 1) 15
    · rw [cnd_t q] at h
      cases eb : pNum n t c (j1 + 2) with
      | none => rw [eb] at h; cases h
      | some B =>
        rw [eb] at h
        exact pEnds_ok hA (fun B' z k => by cases z; exact ((pNum_lt eb).2 k).2) h
    · rw [cnd_f q] at h
      exact pEnds_ok hA (fun B' z => by cases z) h
theorem pSpan_ok {κ j w : Nat} {e : Option Nat × Option Nat} (h : pSpan n t κ j = .inr (e, w)) : endsOK e := by
  unfold pSpan at h
  by_cases c : isW n t j 13
  · rw [cnd_t c] at h
    cases ev : pVal n t (κ = 5 ∨ κ = 9) True (j + 1) with
    | inl k => rw [ev] at h; cases h
    | inr q => obtain ⟨q, w1⟩ := q; rw [ev] at h; cases h; have := pVal_ok ev; show q.1 ≤ _; omega
  · rw [cnd_f c] at h
    by_cases c2 : isW n t j 14
    · rw [cnd_t c2] at h
      cases ev : pVal n t (κ = 5 ∨ κ = 9) True (j + 1) with
      | inl k => rw [ev] at h; cases h
      | inr q => obtain ⟨q, w1⟩ := q; rw [ev] at h; cases h; have := pVal_ok ev; show q.2 ≤ _; omega
    · rw [cnd_f c2] at h
      cases ev : pVal n t (κ = 5 ∨ κ = 9) False j with
      | inl k => rw [ev] at h; cases h
      | inr q => obtain ⟨q, w1⟩ := q; rw [ev] at h; cases h; exact pVal_ok ev
theorem semi_eq {q q' : reS} {j w : Nat} (h : semi n t q j = .inr (q', w)) : q' = q := by
  unfold semi at h
  by_cases c : isW n t j 16
  · rw [cnd_t c] at h; cases h; rfl
  · rw [cnd_f c] at h; cases h
theorem rRest_ok {κ j w : Nat} {q : reS} (h : rRest N n t κ j = .inr (q, w)) : q.1 ≤ 35 ∧ (∀ a, q.2.1 = some a → a < 16) ∧ q.2.2.1 ≤ 99 ∧ (κ ≠ 12 → endsOK q.2.2.2) := by
  unfold rRest at h
  by_cases k12 : κ = 12
  · rw [if_pos k12] at h
    have := semi_eq h
    subst this
    exact ⟨by decide, (fun a z => by cases z), by decide, fun z => absurd k12 z⟩
  · rw [if_neg k12] at h
    unfold rLayer at h
    cases e1 : pLayer n t j with
    | inl k => rw [e1] at h; cases h
    | inr p1 =>
      obtain ⟨l, j1⟩ := p1
      rw [e1] at h
      simp only at h
      unfold rArea at h
      cases e2 : pArea N n t j1 with
      | inl k => rw [e2] at h; cases h
      | inr p2 =>
        obtain ⟨a, j2⟩ := p2
        rw [e2] at h
        simp only at h
        unfold rRank at h
        cases e3 : pRank n t j2 with
        | inl k => rw [e3] at h; cases h
        | inr p3 =>
          obtain ⟨r, j3⟩ := p3
          rw [e3] at h
          simp only at h
          unfold rSpan at h
          cases e4 : pSpan n t κ j3 with
          | inl k => rw [e4] at h; cases h
          | inr p4 =>
            obtain ⟨e, j4⟩ := p4
            rw [e4] at h
            simp only at h
            have := semi_eq h
            subst this
            exact ⟨pLayer_le e1, pArea_lt e2, pRank_le e3, fun _ => pSpan_ok e4⟩
theorem pSent_ok {j w : Nat} {q : ruS} (hn : n ≤ 3000) (h : pSent N n t j = .inr (q, w)) : ruOK q := by
  unfold pSent at h
  cases e : knd n t j with
  | none => rw [e] at h; cases h
  | some κ =>
    rw [e] at h
    simp only at h
    cases e1 : pScope N n t κ (j + 1) with
    | inl k => rw [e1] at h; cases h
    | inr p1 =>
      obtain ⟨s, j1⟩ := p1
      rw [e1] at h
      simp only at h
      cases e2 : rRest N n t κ j1 with
      | inl k => rw [e2] at h; cases h
      | inr p2 =>
        obtain ⟨r, j2⟩ := p2
        rw [e2] at h
        cases h
        have a1 := pScope_ok e1
        have a2 := rRest_ok e2
        have a3 := lnF_le t (tk n t j).1
        have a4 := tk_le (n := n) (t := t) j
        exact ⟨knd_lt e, a1.1, a2.1, a2.2.1, a2.2.2.1, a2.2.2.2, by show lnF t (tk n t j).1 ≤ 3000; omega, a1.2⟩
end
/-- what reading all rules may change, the list at b among it -/
def rdZ (b x : Nat) : Prop := x = 266 ∨ x = 268 ∨ x = 269 ∨ x = 270 ∨ (b ≤ x ∧ x < b + 62 ∧ x ≠ b + 1)
def frB (b : Nat) (mi mi' : Nat → Nat → Int32) (ml ml' : Nat → Nat → Int64) (mr mr' : Nat → Nat → Option Nat) : Prop := (∀ x, ¬ rdZ b x → mi' x = mi x ∧ ml' x = ml x ∧ mr' x = mr x) ∧ mi' 266 1 = mi 266 1
def rrQ (b nx : Nat) (ct : Nat → Nat × Nat) (mi : Nat → Nat → Int32) (ml : Nat → Nat → Int64) (mr : Nat → Nat → Option Nat) (q : Nat ⊕ List ruS) : Option Value → rx_S → Prop := fun v τ => match q with
  | .inl k => v = some (.int (-1 - nI k)) ∧ ∃ mi' ml' mr', τ = (nx, ct, mi', ml', mr') ∧ frB b mi mi' ml ml' mr mr' ∧ LAY nx ct mr'
  | .inr L => v = some (.int (nI L.length)) ∧ ∃ mi' ml' mr', τ = (nx, ct, mi', ml', mr') ∧ frB b mi mi' ml ml' mr mr' ∧ LAY nx ct mr' ∧ LsI mi' ml' mr' b L
section
variable {nx : Nat} {ct : Nat → Nat × Nat} {mi mA : Nat → Nat → Int32} {ml mlA : Nat → Nat → Int64} {mr mrA : Nat → Nat → Option Nat} {n b w i : Nat} {t : Nat → Int32} {N : nmS} {L1 : List ruS}
theorem b_ne (hb : isLst b) : b ≠ 266 ∧ b ≠ 267 ∧ b ≠ 268 ∧ b ≠ 269 ∧ b ≠ 270 ∧ b ≠ 258 ∧ b ≠ 259 ∧ b ≠ 256 := by unfold isLst at hb; omega
/-- where the reading stands: L1 is read, word w is next -/
def rrI (N : nmS) (b nx : Nat) (ct : Nat → Nat × Nat) (mi mA : Nat → Nat → Int32) (ml mlA : Nat → Nat → Int64) (mr mrA : Nat → Nat → Option Nat) (n : Nat) (t : Nat → Int32) (L1 : List ruS) : Prop := frB b mi mA ml mlA mr mrA ∧ RdOK N n t mA ∧ LAY nx ct mrA ∧ mA b 1 = nI L1.length ∧ ∀ i q, L1[i]? = some q → clI mA mlA mrA (b + 2 + i) q ∧ ruOK q
theorem frB.tk (h : frB b mi mA ml mlA mr mrA) : frB b mi (tkM mA n t w) ml mlA mr mrA := ⟨fun x hx => ⟨(tkM_r (fun z => hx (Or.inl z))).trans (h.1 x hx).1, (h.1 x hx).2⟩, tkM_1.trans h.2⟩
theorem clI.tk {r : Nat} {q : ruS} (hr : r ≠ 266) (h : clI mA mlA mrA r q) : clI (tkM mA n t w) mlA mrA r q := by
  unfold clI
  rw [tkM_r hr]
  exact h
theorem clI.of {r : Nat} {q : ruS} {mB : Nat → Nat → Int32} {mlB : Nat → Nat → Int64} {mrB : Nat → Nat → Option Nat} (h : clI mA mlA mrA r q) (h1 : mB r = mA r) (h2 : mlB r = mlA r) (h3 : mrB r = mrA r) : clI mB mlB mrB r q := by
  unfold clI
  rw [h1, h2, h3]
  exact h
theorem rrI.ls (hb : isLst b) (h : rrI N b nx ct mi mA ml mlA mr mrA n t L1) (h60 : L1.length ≤ 60) : LsI (tkM mA n t w) mlA mrA b L1 := by
  obtain ⟨h1, h2, h3, h4, h5⟩ := h
  refine ⟨by rw [tkM_r (b_ne hb).1]; exact h4, h60, fun i q hq => ⟨(h5 i q hq).1.tk ?_, (h5 i q hq).2⟩⟩
  unfold isLst at hb
  omega
theorem rr_f1 {mi' : Nat → Nat → Int32} {ml' : Nat → Nat → Int64} {mr' : Nat → Nat → Option Nat} {k : Nat} (hL : LAY nx ct mr') (p1 : mi' 268 4 = -1) (p2 : mi' 266 4 = nI k) (hf : frB b mi mi' ml ml' mr mr') : rx_W M_Rd_readRules 10 0 0 57 [(0, .ref 268)] [] (nx, ct, mi', ml', mr') (pR (rrQ b nx ct mi ml mr (.inl k))) := by
  refine ru_iconst (v := (-1)) d_Rd_readRules_57 (by decide) ?_
  refine ru_aload_n d_Rd_readRules_58 rfl rfl ?_
  refine ru_getI d_Rd_readRules_59 lf_Rd_29 (ly hL 268 3 0) rfl ?_
  refine ru_eqi p1 ?_
  refine ru_iconst (v := (-1)) d_Rd_readRules_62 (by decide) ?_
  refine ru_icmp_ne (tgt := 76) d_Rd_readRules_63 (by decide) (fun h63 => absurd rfl h63) (fun h63 => ?_)
  refine ru_aload_n d_Rd_readRules_66 rfl rfl ?_
  refine ru_getR d_Rd_readRules_67 lf_Rd_21 (ly hL 268 3 0) rfl (lr hL 268 0 266) ?_
  refine ru_getI d_Rd_readRules_70 lf_Rd_55 (ly hL 266 7 0) rfl ?_
  refine ru_eqi p2 ?_
  refine ru_goto (tgt := 80) d_Rd_readRules_73 (by decide) ?_
  refine ru_isub d_Rd_readRules_80 ?_
  refine ru_iret d_Rd_readRules_81 rfl ?_
  exact ⟨rfl, _, _, _, rfl, hf, hL⟩
theorem rr_f2 {mi' : Nat → Nat → Int32} {ml' : Nat → Nat → Int64} {mr' : Nat → Nat → Option Nat} {k : Nat} (hL : LAY nx ct mr') (p1 : mi' 268 4 = nI k) (hk : k < 2 ^ 31) (hf : frB b mi mi' ml ml' mr mr') : rx_W M_Rd_readRules 10 0 0 57 [(0, .ref 268)] [] (nx, ct, mi', ml', mr') (pR (rrQ b nx ct mi ml mr (.inl k))) := by
  refine ru_iconst (v := (-1)) d_Rd_readRules_57 (by decide) ?_
  refine ru_aload_n d_Rd_readRules_58 rfl rfl ?_
  refine ru_getI d_Rd_readRules_59 lf_Rd_29 (ly hL 268 3 0) rfl ?_
  refine ru_eqi p1 ?_
  refine ru_iconst (v := (-1)) d_Rd_readRules_62 (by decide) ?_
  refine ru_icmp_ne (tgt := 76) d_Rd_readRules_63 (by decide) (fun h63 => ?_) (fun h63 => absurd h63 (nI_m1 hk))
  refine ru_aload_n d_Rd_readRules_76 rfl rfl ?_
  refine ru_getI d_Rd_readRules_77 lf_Rd_29 (ly hL 268 3 0) rfl ?_
  refine ru_eqi p1 ?_
  refine ru_isub d_Rd_readRules_80 ?_
  refine ru_iret d_Rd_readRules_81 rfl ?_
  exact ⟨rfl, _, _, _, rfl, hf, hL⟩
theorem rr_next {mB : Nat → Nat → Int32} {mlB : Nat → Nat → Int64} {mrB : Nat → Nat → Option Nat} {ru : ruS} {P : Nat ⊕ List ruS} (hL2 : LAY nx ct mrB) (hb : isLst b) (h60 : L1.length < 60) (h : rrI N b nx ct mi mA ml mlA mr mrA n t L1) (q1 : ∀ x, x ≠ 269 → x ≠ 270 → x ≠ b + 2 + L1.length → mB x = mA x ∧ mlB x = mlA x ∧ mrB x = mrA x) (q2 : clI mB mlB mrB (b + 2 + L1.length) ru) (ok : ruOK ru)
    (k : rrI N b nx ct mi (rx_u mB b 1 (nI (L1.length + 1))) ml mlB mr mrB n t (L1 ++ [ru]) → rx_W M_Rd_readRules 10 0 0 17 [(0, .ref 268), (1, .ref b)] [] (nx, ct, tkM (rx_u mB b 1 (nI (L1.length + 1))) n t w, mlB, mrB) (pR (rrQ b nx ct mi ml mr P))) : rx_W M_Rd_readRules 10 0 0 82 [(0, .ref 268), (1, .ref b)] [] (nx, ct, tkM mB n t w, mlB, mrB) (pR (rrQ b nx ct mi ml mr P)) := by
  have bb := b_ne hb
  obtain ⟨h1, h2, h3, h4, h5⟩ := h
  have hbr : b = 274 ∨ b = 336 := hb
  have eb : mB b 1 = nI L1.length := by rw [(q1 b (by omega) (by omega) (by omega)).1]; exact h4
  have eb2 : tkM mB n t w b 1 = nI L1.length := by rw [tkM_r bb.1]; exact eb
  have k' := k ⟨⟨fun x hx => ?_, ?_⟩, ⟨⟨?_, ?_, h2.1.2.2⟩, ?_, ?_⟩, hL2, ?_, fun i q hq => ?_⟩
  · skip
    refine ru_aload_n d_Rd_readRules_82 rfl rfl ?_
    refine ru_dup d_Rd_readRules_83 rfl ?_
    refine ru_getI d_Rd_readRules_84 lf_Rd_38 (ly_b hL2 hb) rfl ?_
    refine ru_eqi eb2 ?_
    refine ru_iconst (v := 1) d_Rd_readRules_87 (by decide) ?_
    refine ru_iadd d_Rd_readRules_88 ?_
    refine ru_eqi (nm_add L1.length 1 : _ = nI (L1.length + 1)) ?_
    refine ru_putI d_Rd_readRules_89 lf_Rd_38 (ly_b hL2 hb) rfl (fun q hq => by cases hq; exact Or.inl rfl) ⟨rfl, rfl⟩ ?_
    rw [tkM_u bb.1]
    refine ru_goto (tgt := 17) d_Rd_readRules_92 (by decide) ?_
    exact ru_to k' ⟨rfl, rfl, trivial⟩
  · have hx' : x ≠ b ∧ x ≠ 269 ∧ x ≠ 270 ∧ x ≠ b + 2 + L1.length := by unfold rdZ at hx; omega
    have q := q1 x hx'.2.1 hx'.2.2.1 hx'.2.2.2
    rw [rx_u_r _ _ hx'.1]
    exact ⟨q.1.trans (h1.1 x hx).1, q.2.1.trans (h1.1 x hx).2.1, q.2.2.trans (h1.1 x hx).2.2⟩
  · rw [rx_u_r _ _ (by omega), (q1 266 (by decide) (by decide) (by omega)).1]; exact h1.2
  · rw [rx_u_r _ _ (by omega), (q1 266 (by decide) (by decide) (by omega)).1]; exact h2.1.1
  · rw [rx_u_r _ _ (by omega), (q1 267 (by decide) (by decide) (by omega)).1]; exact h2.1.2.1
  · intro y hy
    rw [rx_u_r _ _ (by omega), rx_u_r _ _ (by omega), (q1 259 (by decide) (by decide) (by omega)).1, (q1 258 (by decide) (by decide) (by omega)).1]
    exact h2.2.1 y hy
  · rw [rx_u_r _ _ (by omega), (q1 268 (by decide) (by decide) (by omega)).1]; exact h2.2.2
  · rw [rx_u_same, List.length_append]; rfl
  · have hrr : b + 2 + i ≠ b := by omega
    by_cases hi : i < L1.length
    · rw [List.getElem?_append_left hi] at hq
      have q := q1 (b + 2 + i) (by omega) (by omega) (by omega)
      exact ⟨(h5 i _ hq).1.of ((rx_u_r _ _ hrr).trans q.1) q.2.1 q.2.2, (h5 i _ hq).2⟩
    · rw [List.getElem?_append_right (by omega)] at hq
      have hi2 : i = L1.length := by
        apply Classical.byContradiction
        intro z
        rw [List.getElem?_eq_none (by show 1 ≤ i - L1.length; omega)] at hq
        cases hq
      subst hi2
      rw [Nat.sub_self] at hq
      cases hq
      exact ⟨q2.of (rx_u_r _ _ hrr) rfl rfl, ok⟩
theorem rr_end (hL : LAY nx ct mr) (hb : isLst b) (hn : n ≤ 3000) : ∀ f w mA mlA mrA L1, w ≤ n → L1.length + f = 60 → rrI N b nx ct mi mA ml mlA mr mrA n t L1 → rx_W M_Rd_readRules 10 0 0 17 [(0, .ref 268), (1, .ref b)] [] (nx, ct, tkM mA n t w, mlA, mrA) (pR (rrQ b nx ct mi ml mr (match pAll N n t f w with | .inl k => .inl k | .inr L2 => .inr (L1 ++ L2)))) := by
  have b6 := (b_ne hb).1
  intro f
  induction f with
  | zero =>
    intro w mA mlA mrA L1 hw hf h
    have hL1 := h.2.2.1
    have cnt : tkM mA n t w b 1 = nI L1.length := by rw [tkM_r b6]; exact h.2.2.2.1
    unfold pAll
    by_cases h0 : tlen n t w = 0
    · rw [if_pos h0]
      refine ru_aload_n d_Rd_readRules_17 rfl rfl ?_
      refine ru_getI d_Rd_readRules_18 lf_Rd_38 (ly_b hL1 hb) rfl ?_
      refine ru_eqi cnt ?_
      refine ru_bipush (v := 60) d_Rd_readRules_21 (by decide) ?_
      refine ru_icmp_ge (tgt := 95) d_Rd_readRules_23 (by decide) (fun h23 => ?_) (fun h23 => absurd (nI_le (a := 60) (b := L1.length) (by omega) (by omega)) h23)
      replace h23 := nm_le (a := 60) (b := L1.length) (by omega) (by omega) h23
      refine ru_aload_n d_Rd_readRules_95 rfl rfl ?_
      refine ru_getR d_Rd_readRules_96 lf_Rd_21 (ly hL1 268 3 0) rfl (lr hL1 268 0 266) ?_
      refine ru_callV (mc := 0) (ms := 0) d_Rd_readRules_99 lm_Rd_43 (cl_atEnd hL1 h.2.1.1) (rx_recv_is (ly hL1 266 7 0) kx_Wo) (by decide) rfl (Nat.le_of_ble_eq_true rfl) ?_
      intro v τ h
      obtain ⟨rfl, rfl⟩ := h
      refine ru_if_eq (tgt := 112) d_Rd_readRules_102 (by decide) (fun h102 => absurd h102 (bI_ne0.mpr h0)) (fun h102 => ?_)
      refine ru_aload_n d_Rd_readRules_105 rfl rfl ?_
      refine ru_getI d_Rd_readRules_106 lf_Rd_38 (ly_b hL1 hb) rfl ?_
      refine ru_eqi cnt ?_
      refine ru_goto (tgt := 121) d_Rd_readRules_109 (by decide) ?_
      refine ru_iret d_Rd_readRules_121 rfl ?_
      refine ⟨by rw [List.append_nil], _, _, _, rfl, h.1.tk, hL1, ?_⟩
      rw [List.append_nil]
      exact h.ls hb (by omega)
    · rw [if_neg h0]
      refine ru_aload_n d_Rd_readRules_17 rfl rfl ?_
      refine ru_getI d_Rd_readRules_18 lf_Rd_38 (ly_b hL1 hb) rfl ?_
      refine ru_eqi cnt ?_
      refine ru_bipush (v := 60) d_Rd_readRules_21 (by decide) ?_
      refine ru_icmp_ge (tgt := 95) d_Rd_readRules_23 (by decide) (fun h23 => ?_) (fun h23 => absurd (nI_le (a := 60) (b := L1.length) (by omega) (by omega)) h23)
      replace h23 := nm_le (a := 60) (b := L1.length) (by omega) (by omega) h23
      refine ru_aload_n d_Rd_readRules_95 rfl rfl ?_
      refine ru_getR d_Rd_readRules_96 lf_Rd_21 (ly hL1 268 3 0) rfl (lr hL1 268 0 266) ?_
      refine ru_callV (mc := 0) (ms := 0) d_Rd_readRules_99 lm_Rd_43 (cl_atEnd hL1 h.2.1.1) (rx_recv_is (ly hL1 266 7 0) kx_Wo) (by decide) rfl (Nat.le_of_ble_eq_true rfl) ?_
      intro v τ h
      obtain ⟨rfl, rfl⟩ := h
      refine ru_if_eq (tgt := 112) d_Rd_readRules_102 (by decide) (fun h102 => ?_) (fun h102 => absurd (bI_f h0) h102)
      refine ru_iconst (v := (-1)) d_Rd_readRules_112 (by decide) ?_
      refine ru_aload_n d_Rd_readRules_113 rfl rfl ?_
      refine ru_getR d_Rd_readRules_114 lf_Rd_21 (ly hL1 268 3 0) rfl (lr hL1 268 0 266) ?_
      refine ru_getI d_Rd_readRules_117 lf_Rd_55 (ly hL1 266 7 0) rfl ?_
      refine ru_eqi tkM_4 ?_
      refine ru_isub d_Rd_readRules_120 ?_
      refine ru_iret d_Rd_readRules_121 rfl ?_
      exact ⟨rfl, _, _, _, rfl, h.1.tk, hL1⟩
  | succ f ih =>
    intro w mA mlA mrA L1 hw hf h
    have hL1 := h.2.2.1
    have cnt : tkM mA n t w b 1 = nI L1.length := by rw [tkM_r b6]; exact h.2.2.2.1
    have hru := isRu_b hb (show L1.length < 60 by omega)
    unfold pAll
    by_cases h0 : tlen n t w = 0
    · rw [if_pos h0]
      refine ru_aload_n d_Rd_readRules_17 rfl rfl ?_
      refine ru_getI d_Rd_readRules_18 lf_Rd_38 (ly_b hL1 hb) rfl ?_
      refine ru_eqi cnt ?_
      refine ru_bipush (v := 60) d_Rd_readRules_21 (by decide) ?_
      refine ru_icmp_ge (tgt := 95) d_Rd_readRules_23 (by decide) (fun h23 => absurd h23 (nI_ge (a := L1.length) (b := 60) (by omega) (by decide))) (fun h23 => ?_)
      replace h23 := nm_nle (a := 60) (b := L1.length) (by omega) (by omega) h23
      refine ru_aload_n d_Rd_readRules_26 rfl rfl ?_
      refine ru_getR d_Rd_readRules_27 lf_Rd_21 (ly hL1 268 3 0) rfl (lr hL1 268 0 266) ?_
      refine ru_callV (mc := 0) (ms := 0) d_Rd_readRules_30 lm_Rd_43 (cl_atEnd hL1 h.2.1.1) (rx_recv_is (ly hL1 266 7 0) kx_Wo) (by decide) rfl (Nat.le_of_ble_eq_true rfl) ?_
      intro v τ h
      obtain ⟨rfl, rfl⟩ := h
      refine ru_if_eq (tgt := 41) d_Rd_readRules_33 (by decide) (fun h33 => absurd h33 (bI_ne0.mpr h0)) (fun h33 => ?_)
      refine ru_aload_n d_Rd_readRules_36 rfl rfl ?_
      refine ru_getI d_Rd_readRules_37 lf_Rd_38 (ly_b hL1 hb) rfl ?_
      refine ru_eqi cnt ?_
      refine ru_iret d_Rd_readRules_40 rfl ?_
      refine ⟨by rw [List.append_nil], _, _, _, rfl, h.1.tk, hL1, ?_⟩
      rw [List.append_nil]
      exact h.ls hb (by omega)
    · rw [if_neg h0]
      have hin := pSent_in (N := N) (t := t) (tk_n (n := n)) hw
      cases e : pSent N n t w with
      | inl k =>
        have hk : k ≤ n := by rw [e] at hin; exact hin
        have fin : ∀ mi' ml' mr', RF (b + 2 + L1.length) mA mi' mlA ml' → (∀ x, x ≠ b + 2 + L1.length → mr' x = mrA x) → frB b mi mi' ml ml' mr mr' := by
          intro mi' ml' mr' q1 q2
          refine ⟨fun x hx => ?_, q1.2.trans h.1.2⟩
          have hx2 : ¬ rdX (b + 2 + L1.length) x := by unfold rdX; unfold rdZ at hx; omega
          have hx3 : x ≠ b + 2 + L1.length := by unfold rdZ at hx; omega
          exact ⟨(q1.1 x hx2).1.trans (h.1.1 x hx).1, (q1.1 x hx2).2.trans (h.1.1 x hx).2.1, (q2 x hx3).trans (h.1.1 x hx).2.2⟩
        refine ru_aload_n d_Rd_readRules_17 rfl rfl ?_
        refine ru_getI d_Rd_readRules_18 lf_Rd_38 (ly_b hL1 hb) rfl ?_
        refine ru_eqi cnt ?_
        refine ru_bipush (v := 60) d_Rd_readRules_21 (by decide) ?_
        refine ru_icmp_ge (tgt := 95) d_Rd_readRules_23 (by decide) (fun h23 => absurd h23 (nI_ge (a := L1.length) (b := 60) (by omega) (by decide))) (fun h23 => ?_)
        replace h23 := nm_nle (a := 60) (b := L1.length) (by omega) (by omega) h23
        refine ru_aload_n d_Rd_readRules_26 rfl rfl ?_
        refine ru_getR d_Rd_readRules_27 lf_Rd_21 (ly hL1 268 3 0) rfl (lr hL1 268 0 266) ?_
        refine ru_callV (mc := 0) (ms := 0) d_Rd_readRules_30 lm_Rd_43 (cl_atEnd hL1 h.2.1.1) (rx_recv_is (ly hL1 266 7 0) kx_Wo) (by decide) rfl (Nat.le_of_ble_eq_true rfl) ?_
        intro v τ h
        obtain ⟨rfl, rfl⟩ := h
        refine ru_if_eq (tgt := 41) d_Rd_readRules_33 (by decide) (fun h33 => ?_) (fun h33 => absurd (bI_f h0) h33)
        refine ru_aload_n d_Rd_readRules_41 rfl rfl ?_
        refine ru_aload_n d_Rd_readRules_42 rfl rfl ?_
        refine ru_getR d_Rd_readRules_43 lf_Rd_47 (ly_b hL1 hb) rfl (lr_b hL1 hb) ?_
        refine ru_aload_n d_Rd_readRules_46 rfl rfl ?_
        refine ru_getI d_Rd_readRules_47 lf_Rd_38 (ly_b hL1 hb) rfl ?_
        refine ru_eqi cnt ?_
        refine ru_aldq (Cn := "RuleText$Rule") d_Rd_readRules_50 (ly_bi hL1 hb) (by decide) (fun _ => rfl) (al_in (by omega)) (al_mr hL1 hb (by omega)) ?_
        refine ru_callV (mc := 0) (ms := 0) d_Rd_readRules_51 lm_Rd_51 (cl_readSentence hL1 h.2.1 hru) (rx_recv_is (ly hL1 268 3 0) kx_Rd) (by decide) rfl (Nat.le_of_ble_eq_true rfl) ?_
        rw [e]
        rintro v τ ⟨rfl, mi', ml', mr', rfl, q1, q2, q3, hL2⟩
        refine ru_if_ne (tgt := 82) d_Rd_readRules_54 (by decide) (fun h54 => absurd h54 (by decide)) (fun h54 => ?_)
        rcases q2 with ⟨p1, p2⟩ | p1
        exact ru_to (rr_f1 hL2 p1 p2 (fin _ _ _ q1 q3)) ⟨rfl, trivial⟩
        exact ru_to (rr_f2 hL2 p1 (by omega) (fin _ _ _ q1 q3)) ⟨rfl, trivial⟩
      | inr q =>
        obtain ⟨ru, w2⟩ := q
        have hw2 : w2 ≤ n := by rw [e] at hin; exact hin
        have ok := pSent_ok hn e
        show rx_W _ _ _ _ _ _ _ _ (pR (rrQ b nx ct mi ml mr (match ((match pAll N n t f w2 with | .inl k => .inl k | .inr l => .inr (ru :: l)) : Nat ⊕ List ruS) with | .inl k => .inl k | .inr L2 => .inr (L1 ++ L2))))
        have z := isRu_ne hru
        refine ru_aload_n d_Rd_readRules_17 rfl rfl ?_
        refine ru_getI d_Rd_readRules_18 lf_Rd_38 (ly_b hL1 hb) rfl ?_
        refine ru_eqi cnt ?_
        refine ru_bipush (v := 60) d_Rd_readRules_21 (by decide) ?_
        refine ru_icmp_ge (tgt := 95) d_Rd_readRules_23 (by decide) (fun h23 => absurd h23 (nI_ge (a := L1.length) (b := 60) (by omega) (by decide))) (fun h23 => ?_)
        replace h23 := nm_nle (a := 60) (b := L1.length) (by omega) (by omega) h23
        refine ru_aload_n d_Rd_readRules_26 rfl rfl ?_
        refine ru_getR d_Rd_readRules_27 lf_Rd_21 (ly hL1 268 3 0) rfl (lr hL1 268 0 266) ?_
        refine ru_callV (mc := 0) (ms := 0) d_Rd_readRules_30 lm_Rd_43 (cl_atEnd hL1 h.2.1.1) (rx_recv_is (ly hL1 266 7 0) kx_Wo) (by decide) rfl (Nat.le_of_ble_eq_true rfl) ?_
        intro v τ h
        obtain ⟨rfl, rfl⟩ := h
        refine ru_if_eq (tgt := 41) d_Rd_readRules_33 (by decide) (fun h33 => ?_) (fun h33 => absurd (bI_f h0) h33)
        refine ru_aload_n d_Rd_readRules_41 rfl rfl ?_
        refine ru_aload_n d_Rd_readRules_42 rfl rfl ?_
        refine ru_getR d_Rd_readRules_43 lf_Rd_47 (ly_b hL1 hb) rfl (lr_b hL1 hb) ?_
        refine ru_aload_n d_Rd_readRules_46 rfl rfl ?_
        refine ru_getI d_Rd_readRules_47 lf_Rd_38 (ly_b hL1 hb) rfl ?_
        refine ru_eqi cnt ?_
        refine ru_aldq (Cn := "RuleText$Rule") d_Rd_readRules_50 (ly_bi hL1 hb) (by decide) (fun _ => rfl) (al_in (by omega)) (al_mr hL1 hb (by omega)) ?_
        refine ru_callV (mc := 0) (ms := 0) d_Rd_readRules_51 lm_Rd_51 (cl_readSentence hL1 h.2.1 hru) (rx_recv_is (ly hL1 268 3 0) kx_Rd) (by decide) rfl (Nat.le_of_ble_eq_true rfl) ?_
        rw [e]
        rintro v τ ⟨rfl, mB, mlB, mrB, rfl, q1, hL2, q2⟩
        refine ru_if_ne (tgt := 82) d_Rd_readRules_54 (by decide) (fun h54 => ?_) (fun h54 => absurd h54 (by decide))
        exact ru_to (rr_next hL2 hb (by omega) h q1 q2 ok (fun hh => by have y := ih w2 _ mlB mrB (L1 ++ [ru]) hw2 (by rw [List.length_append]; show _ + 1 + f = 60; omega) hh; cases e3 : pAll N n t f w2 with | inl k => rw [e3] at y; exact y | inr l => rw [e3] at y; have a : L1 ++ [ru] ++ l = L1 ++ (ru :: l) := (List.append_assoc _ _ _).trans rfl; dsimp only at y; rw [a] at y; exact y)) ⟨rfl, rfl, trivial⟩
theorem cl_readRules (hL : LAY nx ct mr) (hb : isLst b) (h : TxC n t mi) (hN : NmC N mi) : rx_Calls y_Rd_readRules M_Rd_readRules 10 0 0 [.ref 268, .ref b] (nx, ct, mi, ml, mr) (rrQ b nx ct mi ml mr (pAll N n t 60 0)) := by
  refine rx_enter (by decide) rfl rfl (Nat.le_of_ble_eq_true rfl) ?_
  have bb := b_ne hb
  have h1 : TxC n t (rx_u mi 268 4 (-1)) := h.u (by decide) (by decide)
  have z := rr_end (N := N) (t := t) (mi := mi) (ml := ml) (mr := mr) hL hb h.2.2 60 0 (rx_u (rx_u mi 268 4 (-1)) b 1 0) ml mr [] (by omega) rfl ⟨⟨fun x hx => ?_, ?_⟩, ⟨h1.u bb.1 bb.2.1, (hN.u (by decide) (by decide)).u bb.2.2.2.2.2.1 bb.2.2.2.2.2.2.1, ?_⟩, hL, rx_u_same _ _ _ _, (fun i q hq => by cases hq)⟩
  · skip
    refine ru_aload_n d_Rd_readRules_0 rfl rfl ?_
    refine ru_iconst (v := (-1)) d_Rd_readRules_1 (by decide) ?_
    refine ru_putI d_Rd_readRules_2 lf_Rd_29 (ly hL 268 3 0) rfl (fun q hq => by cases hq; exact Or.inl rfl) ⟨rfl, rfl⟩ ?_
    refine ru_aload_n d_Rd_readRules_5 rfl rfl ?_
    refine ru_getR d_Rd_readRules_6 lf_Rd_21 (ly hL 268 3 0) rfl (lr hL 268 0 266) ?_
    refine ru_callV (mc := 0) (ms := 0) d_Rd_readRules_9 lm_Rd_33 (cl_goToFirst hL h1) (rx_recv_is (ly hL 266 7 0) kx_Wo) (by decide) rfl (Nat.le_of_ble_eq_true rfl) ?_
    intro v τ h
    obtain ⟨rfl, rfl⟩ := h
    refine ru_aload_n d_Rd_readRules_12 rfl rfl ?_
    refine ru_iconst (v := 0) d_Rd_readRules_13 (by decide) ?_
    refine ru_putI d_Rd_readRules_14 lf_Rd_38 (ly_b hL hb) rfl (fun q hq => by cases hq; exact Or.inl rfl) ⟨rfl, rfl⟩ ?_
    have y : (match pAll N n t 60 0 with | .inl k => .inl k | .inr L2 => .inr ([] ++ L2)) = pAll N n t 60 0 := by cases pAll N n t 60 0 <;> rfl
    rw [y] at z
    rw [tkM_u bb.1]
    exact ru_to z ⟨rfl, rfl, trivial⟩
  · have hx' : x ≠ b ∧ x ≠ 268 := by unfold rdZ at hx; have : b = 274 ∨ b = 336 := hb; omega
    exact ⟨by rw [rx_u_r _ _ hx'.1, rx_u_r _ _ hx'.2], rfl, rfl⟩
  · rw [rx_u_r _ _ (Ne.symm bb.1), rx_u_r _ _ (by decide)]
  · rw [rx_u_r _ _ (Ne.symm bb.2.2.1), rx_u_same]
def rtP (b b' nx : Nat) (ct : Nat → Nat × Nat) (mi : Nat → Nat → Int32) (ml : Nat → Nat → Int64) (mr : Nat → Nat → Option Nat) (q : Nat ⊕ List ruS) : Option Value → rx_S → Prop := fun v τ => match q with
  | .inl k => v = some (.int (-1 - nI k)) ∧ ∃ mi' ml' mr', τ = (nx, ct, mi', ml', mr') ∧ frB b' mi mi' ml ml' mr mr' ∧ LAY nx ct mr'
  | .inr L => v = some (.int (nI L.length)) ∧ ∃ mi' ml' mr', τ = (nx, ct, rx_u mi' 256 7 1, ml', rx_u (rx_u mr' 256 5 (some b')) 256 6 (some b)) ∧ frB b' mi mi' ml ml' mr mr' ∧ LAY nx ct mr' ∧ LsI mi' ml' mr' b' L
theorem pAll_le {f w k : Nat} (hw : w ≤ n) (h : pAll N n t f w = .inl k) : k ≤ n := by
  induction f generalizing w with
  | zero =>
    unfold pAll at h
    by_cases h0 : tlen n t w = 0
    · rw [if_pos h0] at h; cases h
    · rw [if_neg h0] at h; cases h; exact hw
  | succ f ih =>
    unfold pAll at h
    by_cases h0 : tlen n t w = 0
    · rw [if_pos h0] at h; cases h
    · rw [if_neg h0] at h
      have hin := pSent_in (N := N) (t := t) (tk_n (n := n)) hw
      cases e : pSent N n t w with
      | inl k' => rw [e] at h hin; cases h; exact hin
      | inr q =>
        obtain ⟨r, w2⟩ := q
        rw [e] at h hin
        simp only at h
        cases e2 : pAll N n t f w2 with
        | inl k' => rw [e2] at h; cases h; exact ih hin e2
        | inr l => rw [e2] at h; cases h
theorem pAll_len {f w : Nat} {L : List ruS} (h : pAll N n t f w = .inr L) : L.length ≤ f := by
  induction f generalizing w L with
  | zero =>
    unfold pAll at h
    by_cases h0 : tlen n t w = 0
    · rw [if_pos h0] at h; cases h; exact Nat.le_refl _
    · rw [if_neg h0] at h; cases h
  | succ f ih =>
    unfold pAll at h
    by_cases h0 : tlen n t w = 0
    · rw [if_pos h0] at h; cases h; exact Nat.zero_le _
    · rw [if_neg h0] at h
      cases e : pSent N n t w with
      | inl k' => rw [e] at h; cases h
      | inr q =>
        obtain ⟨r, w2⟩ := q
        rw [e] at h
        simp only at h
        cases e2 : pAll N n t f w2 with
        | inl k' => rw [e2] at h; cases h
        | inr l => rw [e2] at h; cases h; have := ih e2; show l.length + 1 ≤ f + 1; omega
theorem m1_neg {k : Nat} (h : k ≤ 3000) : (-1 - nI k : Int32) < 0 := by
  rw [il, i_0]
  obtain ⟨z, hz⟩ : ∃ z : Fin 3001, z.val = k := ⟨⟨k, by omega⟩, rfl⟩
  have : (-1 - nI k : Int32).toInt = -1 - k := by
    rw [Int32.toInt_sub, nI_toInt (by omega), i_m1]
    apply Int.bmod_eq_of_le <;> omega
  omega
theorem sp_read {b' : Nat} (hL : LAY nx ct mr) (h5 : mr 256 5 = some b) (h6 : mr 256 6 = some b') (hb : isLst b') (h : TxC n t mi) (hN : NmC N mi) : rx_Calls y_RT_read M_RT_read 11 0 0 [.ref 256] (nx, ct, mi, ml, mr) (rtP b b' nx ct mi ml mr (pAll N n t 60 0)) := by
  refine rx_enter (by decide) rfl rfl (Nat.le_of_ble_eq_true rfl) ?_
  have bb := b_ne hb
  have n256 : ¬ rdZ b' 256 := by unfold rdZ; have : b' = 274 ∨ b' = 336 := hb; omega
  have h2 := h.2.2
  cases e : pAll N n t 60 0 with
  | inl k =>
    have hk := pAll_le (Nat.zero_le n) e
    refine ru_aload_n d_RT_read_0 rfl rfl ?_
    refine ru_getR d_RT_read_1 lf_RT_35 (ly hL 256 0 0) rfl (lr hL 256 3 268) ?_
    refine ru_aload_n d_RT_read_4 rfl rfl ?_
    refine ru_getR d_RT_read_5 lf_RT_55 (ly hL 256 0 0) rfl h6 ?_
    refine ru_callV (mc := 0) (ms := 0) d_RT_read_8 lm_RT_80 (cl_readRules hL hb h hN) (rx_recv_is (ly hL 268 3 0) kx_Rd) (by decide) rfl (Nat.le_of_ble_eq_true rfl) ?_
    rw [e]
    rintro v τ ⟨rfl, mi', ml', mr', rfl, q1, hL2⟩
    refine ru_istore_n d_RT_read_11 rfl (by decide) ?_
    refine ru_iload_n d_RT_read_12 rfl rfl ?_
    refine ru_if_lt (tgt := 39) d_RT_read_13 (by decide) (fun h13 => ?_) (fun h13 => absurd (m1_neg (by omega)) h13)
    refine ru_iload_n d_RT_read_39 rfl rfl ?_
    refine ru_iret d_RT_read_40 rfl ?_
    exact ⟨rfl, _, _, _, rfl, q1, hL2⟩
  | inr L =>
    have hl := pAll_len e
    refine ru_aload_n d_RT_read_0 rfl rfl ?_
    refine ru_getR d_RT_read_1 lf_RT_35 (ly hL 256 0 0) rfl (lr hL 256 3 268) ?_
    refine ru_aload_n d_RT_read_4 rfl rfl ?_
    refine ru_getR d_RT_read_5 lf_RT_55 (ly hL 256 0 0) rfl h6 ?_
    refine ru_callV (mc := 0) (ms := 0) d_RT_read_8 lm_RT_80 (cl_readRules hL hb h hN) (rx_recv_is (ly hL 268 3 0) kx_Rd) (by decide) rfl (Nat.le_of_ble_eq_true rfl) ?_
    rw [e]
    rintro v τ ⟨rfl, mi', ml', mr', rfl, q1, hL2, q2⟩
    have g5 : mr' 256 5 = some b := by rw [(q1.1 256 n256).2.2]; exact h5
    have g6 : mr' 256 6 = some b' := by rw [(q1.1 256 n256).2.2]; exact h6
    have hL3 := hL2.put (r := 256) (k := 5) (some b') ⟨by decide, by decide, by decide⟩
    have hL4 := hL3.put (r := 256) (k := 6) (some b) ⟨by decide, by decide, by decide⟩
    refine ru_istore_n d_RT_read_11 rfl (by decide) ?_
    refine ru_iload_n d_RT_read_12 rfl rfl ?_
    refine ru_if_lt (tgt := 39) d_RT_read_13 (by decide) (fun h13 => absurd h13 (nI_pos (by omega))) (fun h13 => ?_)
    replace h13 := nm_nlt (a := L.length) (b := 0) (by omega) (by omega) h13
    refine ru_aload_n d_RT_read_16 rfl rfl ?_
    refine ru_getR d_RT_read_17 lf_RT_51 (ly hL2 256 0 0) rfl g5 ?_
    refine ru_astore_n d_RT_read_20 rfl (by decide) ?_
    refine ru_aload_n d_RT_read_21 rfl rfl ?_
    refine ru_aload_n d_RT_read_22 rfl rfl ?_
    refine ru_getR d_RT_read_23 lf_RT_55 (ly hL2 256 0 0) rfl g6 ?_
    refine ru_putR (a := some b') d_RT_read_26 lf_RT_51 (ly hL2 256 0 0) rfl (fun q hq => by cases hq; exact Or.inl rfl) ?_
    refine ru_aload_n d_RT_read_29 rfl rfl ?_
    refine ru_aload_n d_RT_read_30 rfl rfl ?_
    refine ru_putR (a := some b) d_RT_read_31 lf_RT_55 (ly hL2 256 0 0) rfl (fun q hq => by cases hq; exact Or.inl rfl) ?_
    refine ru_aload_n d_RT_read_34 rfl rfl ?_
    refine ru_iconst (v := 1) d_RT_read_35 (by decide) ?_
    refine ru_putI d_RT_read_36 lf_RT_58 (ly hL2 256 0 0) rfl (fun q hq => by cases hq; exact Or.inl rfl) ⟨rfl, rfl⟩ ?_
    refine ru_iload_n d_RT_read_39 rfl rfl ?_
    refine ru_iret d_RT_read_40 rfl ?_
    exact ⟨rfl, _, _, _, rfl, q1, hL2, q2⟩
end
