/-! The class reads: numbers and units -/
theorem d_Am_convert_0 : decode M_Am_convert.2.1 0 = .ok (.aload_n 0, 1) := by decide +kernel
theorem d_Am_convert_1 : decode M_Am_convert.2.1 1 = .ok (.getfield 35, 3) := by decide +kernel
theorem d_Am_convert_4 : decode M_Am_convert.2.1 4 = .ok (.lload_n 1, 1) := by decide +kernel
theorem d_Am_convert_5 : decode M_Am_convert.2.1 5 = .ok (.lmul, 1) := by decide +kernel
theorem d_Am_convert_6 : decode M_Am_convert.2.1 6 = .ok (.lstore 5, 2) := by decide +kernel
theorem d_Am_convert_8 : decode M_Am_convert.2.1 8 = .ok (.aload_n 0, 1) := by decide +kernel
theorem d_Am_convert_9 : decode M_Am_convert.2.1 9 = .ok (.aload_n 0, 1) := by decide +kernel
theorem d_Am_convert_10 : decode M_Am_convert.2.1 10 = .ok (.getfield 31, 3) := by decide +kernel
theorem d_Am_convert_13 : decode M_Am_convert.2.1 13 = .ok (.lload_n 1, 1) := by decide +kernel
theorem d_Am_convert_14 : decode M_Am_convert.2.1 14 = .ok (.lmul, 1) := by decide +kernel
theorem d_Am_convert_15 : decode M_Am_convert.2.1 15 = .ok (.lload 5, 2) := by decide +kernel
theorem d_Am_convert_17 : decode M_Am_convert.2.1 17 = .ok (.ldc2_w 47, 3) := by decide +kernel
theorem d_Am_convert_20 : decode M_Am_convert.2.1 20 = .ok (.ldiv, 1) := by decide +kernel
theorem d_Am_convert_21 : decode M_Am_convert.2.1 21 = .ok (.ladd, 1) := by decide +kernel
theorem d_Am_convert_22 : decode M_Am_convert.2.1 22 = .ok (.putfield 49, 3) := by decide +kernel
theorem d_Am_convert_25 : decode M_Am_convert.2.1 25 = .ok (.lload 5, 2) := by decide +kernel
theorem d_Am_convert_27 : decode M_Am_convert.2.1 27 = .ok (.ldc2_w 47, 3) := by decide +kernel
theorem d_Am_convert_30 : decode M_Am_convert.2.1 30 = .ok (.lrem, 1) := by decide +kernel
theorem d_Am_convert_31 : decode M_Am_convert.2.1 31 = .ok (.lconst 0, 1) := by decide +kernel
theorem d_Am_convert_32 : decode M_Am_convert.2.1 32 = .ok (.lcmp, 1) := by decide +kernel
theorem d_Am_convert_33 : decode M_Am_convert.2.1 33 = .ok (.ifCond .ne 16, 3) := by decide +kernel
theorem d_Am_convert_36 : decode M_Am_convert.2.1 36 = .ok (.aload_n 0, 1) := by decide +kernel
theorem d_Am_convert_37 : decode M_Am_convert.2.1 37 = .ok (.getfield 49, 3) := by decide +kernel
theorem d_Am_convert_40 : decode M_Am_convert.2.1 40 = .ok (.lload_n 3, 1) := by decide +kernel
theorem d_Am_convert_41 : decode M_Am_convert.2.1 41 = .ok (.lcmp, 1) := by decide +kernel
theorem d_Am_convert_42 : decode M_Am_convert.2.1 42 = .ok (.ifCond .gt 7, 3) := by decide +kernel
theorem d_Am_convert_45 : decode M_Am_convert.2.1 45 = .ok (.iconst 1, 1) := by decide +kernel
theorem d_Am_convert_46 : decode M_Am_convert.2.1 46 = .ok (.goto 4, 3) := by decide +kernel
theorem d_Am_convert_49 : decode M_Am_convert.2.1 49 = .ok (.iconst 0, 1) := by decide +kernel
theorem d_Am_convert_50 : decode M_Am_convert.2.1 50 = .ok (.ireturn, 1) := by decide +kernel
theorem d_Am_take_0 : decode M_Am_take.2.1 0 = .ok (.aload_n 0, 1) := by decide +kernel
theorem d_Am_take_1 : decode M_Am_take.2.1 1 = .ok (.aload_n 1, 1) := by decide +kernel
theorem d_Am_take_2 : decode M_Am_take.2.1 2 = .ok (.getfield 9, 3) := by decide +kernel
theorem d_Am_take_5 : decode M_Am_take.2.1 5 = .ok (.putfield 15, 3) := by decide +kernel
theorem d_Am_take_8 : decode M_Am_take.2.1 8 = .ok (.aload_n 1, 1) := by decide +kernel
theorem d_Am_take_9 : decode M_Am_take.2.1 9 = .ok (.aload_n 1, 1) := by decide +kernel
theorem d_Am_take_10 : decode M_Am_take.2.1 10 = .ok (.getfield 20, 3) := by decide +kernel
theorem d_Am_take_13 : decode M_Am_take.2.1 13 = .ok (.invokevirtual 23, 3) := by decide +kernel
theorem d_Am_take_16 : decode M_Am_take.2.1 16 = .ok (.istore_n 2, 1) := by decide +kernel
theorem d_Am_take_17 : decode M_Am_take.2.1 17 = .ok (.iload_n 2, 1) := by decide +kernel
theorem d_Am_take_18 : decode M_Am_take.2.1 18 = .ok (.aload_n 1, 1) := by decide +kernel
theorem d_Am_take_19 : decode M_Am_take.2.1 19 = .ok (.getfield 20, 3) := by decide +kernel
theorem d_Am_take_22 : decode M_Am_take.2.1 22 = .ok (.isub, 1) := by decide +kernel
theorem d_Am_take_23 : decode M_Am_take.2.1 23 = .ok (.istore_n 3, 1) := by decide +kernel
theorem d_Am_take_24 : decode M_Am_take.2.1 24 = .ok (.iload_n 3, 1) := by decide +kernel
theorem d_Am_take_25 : decode M_Am_take.2.1 25 = .ok (.iconst 1, 1) := by decide +kernel
theorem d_Am_take_26 : decode M_Am_take.2.1 26 = .ok (.if_icmp .lt 9, 3) := by decide +kernel
theorem d_Am_take_29 : decode M_Am_take.2.1 29 = .ok (.iload_n 3, 1) := by decide +kernel
theorem d_Am_take_30 : decode M_Am_take.2.1 30 = .ok (.bipush 9, 2) := by decide +kernel
theorem d_Am_take_32 : decode M_Am_take.2.1 32 = .ok (.if_icmp .le 5, 3) := by decide +kernel
theorem d_Am_take_35 : decode M_Am_take.2.1 35 = .ok (.iconst 0, 1) := by decide +kernel
theorem d_Am_take_36 : decode M_Am_take.2.1 36 = .ok (.ireturn, 1) := by decide +kernel
theorem d_Am_take_37 : decode M_Am_take.2.1 37 = .ok (.aload_n 0, 1) := by decide +kernel
theorem d_Am_take_38 : decode M_Am_take.2.1 38 = .ok (.aload_n 1, 1) := by decide +kernel
theorem d_Am_take_39 : decode M_Am_take.2.1 39 = .ok (.aload_n 1, 1) := by decide +kernel
theorem d_Am_take_40 : decode M_Am_take.2.1 40 = .ok (.getfield 20, 3) := by decide +kernel
theorem d_Am_take_43 : decode M_Am_take.2.1 43 = .ok (.iload_n 2, 1) := by decide +kernel
theorem d_Am_take_44 : decode M_Am_take.2.1 44 = .ok (.invokevirtual 27, 3) := by decide +kernel
theorem d_Am_take_47 : decode M_Am_take.2.1 47 = .ok (.i2l, 1) := by decide +kernel
theorem d_Am_take_48 : decode M_Am_take.2.1 48 = .ok (.putfield 31, 3) := by decide +kernel
theorem d_Am_take_51 : decode M_Am_take.2.1 51 = .ok (.aload_n 0, 1) := by decide +kernel
theorem d_Am_take_52 : decode M_Am_take.2.1 52 = .ok (.lconst 0, 1) := by decide +kernel
theorem d_Am_take_53 : decode M_Am_take.2.1 53 = .ok (.putfield 35, 3) := by decide +kernel
theorem d_Am_take_56 : decode M_Am_take.2.1 56 = .ok (.iload_n 2, 1) := by decide +kernel
theorem d_Am_take_57 : decode M_Am_take.2.1 57 = .ok (.aload_n 1, 1) := by decide +kernel
theorem d_Am_take_58 : decode M_Am_take.2.1 58 = .ok (.getfield 38, 3) := by decide +kernel
theorem d_Am_take_61 : decode M_Am_take.2.1 61 = .ok (.if_icmp .ne 5, 3) := by decide +kernel
theorem d_Am_take_64 : decode M_Am_take.2.1 64 = .ok (.iconst 1, 1) := by decide +kernel
theorem d_Am_take_65 : decode M_Am_take.2.1 65 = .ok (.ireturn, 1) := by decide +kernel
theorem d_Am_take_66 : decode M_Am_take.2.1 66 = .ok (.iload_n 2, 1) := by decide +kernel
theorem d_Am_take_67 : decode M_Am_take.2.1 67 = .ok (.iconst 1, 1) := by decide +kernel
theorem d_Am_take_68 : decode M_Am_take.2.1 68 = .ok (.iadd, 1) := by decide +kernel
theorem d_Am_take_69 : decode M_Am_take.2.1 69 = .ok (.istore 4, 2) := by decide +kernel
theorem d_Am_take_71 : decode M_Am_take.2.1 71 = .ok (.aload_n 1, 1) := by decide +kernel
theorem d_Am_take_72 : decode M_Am_take.2.1 72 = .ok (.iload 4, 2) := by decide +kernel
theorem d_Am_take_74 : decode M_Am_take.2.1 74 = .ok (.invokevirtual 23, 3) := by decide +kernel
theorem d_Am_take_77 : decode M_Am_take.2.1 77 = .ok (.istore 5, 2) := by decide +kernel
theorem d_Am_take_79 : decode M_Am_take.2.1 79 = .ok (.iload 5, 2) := by decide +kernel
theorem d_Am_take_81 : decode M_Am_take.2.1 81 = .ok (.iload 4, 2) := by decide +kernel
theorem d_Am_take_83 : decode M_Am_take.2.1 83 = .ok (.isub, 1) := by decide +kernel
theorem d_Am_take_84 : decode M_Am_take.2.1 84 = .ok (.istore 6, 2) := by decide +kernel
theorem d_Am_take_86 : decode M_Am_take.2.1 86 = .ok (.aload_n 1, 1) := by decide +kernel
theorem d_Am_take_87 : decode M_Am_take.2.1 87 = .ok (.getfield 41, 3) := by decide +kernel
theorem d_Am_take_90 : decode M_Am_take.2.1 90 = .ok (.iload_n 2, 1) := by decide +kernel
theorem d_Am_take_91 : decode M_Am_take.2.1 91 = .ok (.caload, 1) := by decide +kernel
theorem d_Am_take_92 : decode M_Am_take.2.1 92 = .ok (.bipush 46, 2) := by decide +kernel
theorem d_Am_take_94 : decode M_Am_take.2.1 94 = .ok (.if_icmp .ne 25, 3) := by decide +kernel
theorem d_Am_take_97 : decode M_Am_take.2.1 97 = .ok (.iload 5, 2) := by decide +kernel
theorem d_Am_take_99 : decode M_Am_take.2.1 99 = .ok (.aload_n 1, 1) := by decide +kernel
theorem d_Am_take_100 : decode M_Am_take.2.1 100 = .ok (.getfield 38, 3) := by decide +kernel
theorem d_Am_take_103 : decode M_Am_take.2.1 103 = .ok (.if_icmp .ne 16, 3) := by decide +kernel
theorem d_Am_take_106 : decode M_Am_take.2.1 106 = .ok (.iload 6, 2) := by decide +kernel
theorem d_Am_take_108 : decode M_Am_take.2.1 108 = .ok (.iconst 1, 1) := by decide +kernel
theorem d_Am_take_109 : decode M_Am_take.2.1 109 = .ok (.if_icmp .lt 10, 3) := by decide +kernel
theorem d_Am_take_112 : decode M_Am_take.2.1 112 = .ok (.iload 6, 2) := by decide +kernel
theorem d_Am_take_114 : decode M_Am_take.2.1 114 = .ok (.bipush 6, 2) := by decide +kernel
theorem d_Am_take_116 : decode M_Am_take.2.1 116 = .ok (.if_icmp .le 5, 3) := by decide +kernel
theorem d_Am_take_119 : decode M_Am_take.2.1 119 = .ok (.iconst 0, 1) := by decide +kernel
theorem d_Am_take_120 : decode M_Am_take.2.1 120 = .ok (.ireturn, 1) := by decide +kernel
theorem d_Am_take_121 : decode M_Am_take.2.1 121 = .ok (.aload_n 0, 1) := by decide +kernel
theorem d_Am_take_122 : decode M_Am_take.2.1 122 = .ok (.aload_n 1, 1) := by decide +kernel
theorem d_Am_take_123 : decode M_Am_take.2.1 123 = .ok (.iload 4, 2) := by decide +kernel
theorem d_Am_take_125 : decode M_Am_take.2.1 125 = .ok (.iload 5, 2) := by decide +kernel
theorem d_Am_take_127 : decode M_Am_take.2.1 127 = .ok (.invokevirtual 27, 3) := by decide +kernel
theorem d_Am_take_130 : decode M_Am_take.2.1 130 = .ok (.i2l, 1) := by decide +kernel
theorem d_Am_take_131 : decode M_Am_take.2.1 131 = .ok (.putfield 35, 3) := by decide +kernel
theorem d_Am_take_134 : decode M_Am_take.2.1 134 = .ok (.iload 6, 2) := by decide +kernel
theorem d_Am_take_136 : decode M_Am_take.2.1 136 = .ok (.istore 7, 2) := by decide +kernel
theorem d_Am_take_138 : decode M_Am_take.2.1 138 = .ok (.iload 7, 2) := by decide +kernel
theorem d_Am_take_140 : decode M_Am_take.2.1 140 = .ok (.bipush 6, 2) := by decide +kernel
theorem d_Am_take_142 : decode M_Am_take.2.1 142 = .ok (.if_icmp .ge 21, 3) := by decide +kernel
theorem d_Am_take_145 : decode M_Am_take.2.1 145 = .ok (.aload_n 0, 1) := by decide +kernel
theorem d_Am_take_146 : decode M_Am_take.2.1 146 = .ok (.dup, 1) := by decide +kernel
theorem d_Am_take_147 : decode M_Am_take.2.1 147 = .ok (.getfield 35, 3) := by decide +kernel
theorem d_Am_take_150 : decode M_Am_take.2.1 150 = .ok (.ldc2_w 45, 3) := by decide +kernel
theorem d_Am_take_153 : decode M_Am_take.2.1 153 = .ok (.lmul, 1) := by decide +kernel
theorem d_Am_take_154 : decode M_Am_take.2.1 154 = .ok (.putfield 35, 3) := by decide +kernel
theorem d_Am_take_157 : decode M_Am_take.2.1 157 = .ok (.iinc 7 1, 3) := by decide +kernel
theorem d_Am_take_160 : decode M_Am_take.2.1 160 = .ok (.goto (-22), 3) := by decide +kernel
theorem d_Am_take_163 : decode M_Am_take.2.1 163 = .ok (.iconst 1, 1) := by decide +kernel
theorem d_Am_take_164 : decode M_Am_take.2.1 164 = .ok (.ireturn, 1) := by decide +kernel
theorem d_Rd_blame_0 : decode M_Rd_blame.2.1 0 = .ok (.aload_n 0, 1) := by decide +kernel
theorem d_Rd_blame_1 : decode M_Rd_blame.2.1 1 = .ok (.aload_n 1, 1) := by decide +kernel
theorem d_Rd_blame_2 : decode M_Rd_blame.2.1 2 = .ok (.getfield 245, 3) := by decide +kernel
theorem d_Rd_blame_5 : decode M_Rd_blame.2.1 5 = .ok (.putfield 29, 3) := by decide +kernel
theorem d_Rd_blame_8 : decode M_Rd_blame.2.1 8 = .ok (.iconst 0, 1) := by decide +kernel
theorem d_Rd_blame_9 : decode M_Rd_blame.2.1 9 = .ok (.ireturn, 1) := by decide +kernel
def isAm (A : Nat) : Prop := A = 269 ∨ A = 270
section
variable {nx : Nat} {ct : Nat → Nat × Nat} {mi mi' : Nat → Nat → Int32} {ml ml' : Nat → Nat → Int64} {mr mr' : Nat → Nat → Option Nat} {n j r A a b u lim : Nat} {t : Nat → Int32} {N : nmS}
theorem ly_am (hL : LAY nx ct mr) (hA : isAm A) : rx_is (nx, ct, mi, ml, mr') A 1 0 := by
  rcases hA with rfl | rfl
  · exact ly hL 269 1 0
  · exact ly hL 270 1 0
theorem isAm_ne (hA : isAm A) : A ≠ 258 ∧ A ≠ 259 ∧ A ≠ 266 ∧ A ≠ 267 ∧ A ≠ 268 := by unfold isAm at hA; omega
theorem isAm_rd (hA : isAm A) : rdX r A := by unfold isAm at hA; unfold rdX; omega
theorem amt_eq {e p : Nat} (hb : (tk n t j).1 = b) (he : (tk n t j).2 = e) (hp : de e t (e - b) b = p) : amt n t j = if p - b < 1 ∨ 9 < p - b then none else if p = e then some (dvF t (p - b) b 0, 0) else if (t p).toInt = 46 ∧ de e t (e - (p + 1)) (p + 1) = e ∧ 1 ≤ e - (p + 1) ∧ e - (p + 1) ≤ 6 then some (dvF t (p - b) b 0, dvF t (e - (p + 1)) (p + 1) 0 * 10 ^ (6 - (e - (p + 1)))) else none := by
  subst hb he hp
  rfl
def tkP (A nx : Nat) (ct : Nat → Nat × Nat) (m1 : Nat → Nat → Int32) (ml : Nat → Nat → Int64) (mr : Nat → Nat → Option Nat) (o : Option (Nat × Nat)) : Option Value → rx_S → Prop := fun v τ => match o with
  | none => v = some (.int 0) ∧ ∃ ml', τ = (nx, ct, m1, ml', mr) ∧ ∀ x, x ≠ A → ml' x = ml x
  | some q => v = some (.int 1) ∧ ∃ ml', τ = (nx, ct, m1, ml', mr) ∧ (∀ x, x ≠ A → ml' x = ml x) ∧ ml' A 1 = Int64.ofNat q.1 ∧ ml' A 2 = Int64.ofNat q.2
theorem cl_take (hL : LAY nx ct mr) (h : TxC n t mi) (hA : isAm A) : rx_Calls y_Am_take M_Am_take 1 0 0 [.ref A, .ref 266] (nx, ct, tkM mi n t j, ml, mr) (tkP A nx ct (tkM (rx_u mi A 0 (nI j)) n t j) ml mr (amt n t j)) := by
  refine rx_enter (by decide) rfl rfl (Nat.le_of_ble_eq_true rfl) ?_
  have r6 := (isAm_ne hA).2.2.1
  have l := tk_le (n := n) (t := t) j
  have l2 := h.2.2
  obtain ⟨b, hb⟩ : ∃ b, (tk n t j).1 = b := ⟨_, rfl⟩
  obtain ⟨e, he⟩ : ∃ e, (tk n t j).2 = e := ⟨_, rfl⟩
  obtain ⟨p, hp⟩ : ∃ p, de e t (e - b) b = p := ⟨_, rfl⟩
  rw [hb, he] at l
  have lp := de_le e t (e - b) b l.1
  rw [hp] at lp
  rw [amt_eq hb he hp]
  have h' : TxC n t (rx_u mi A 0 (nI j)) := h.u r6 (isAm_ne hA).2.2.2.1
  have t2 : tkM (rx_u mi A 0 (nI j)) n t j 266 2 = nI b := tkM_2.trans (by rw [hb])
  have t3 : tkM (rx_u mi A 0 (nI j)) n t j 266 3 = nI e := tkM_3.trans (by rw [he])
  have ht : tkM (rx_u mi A 0 (nI j)) n t j 267 = t := (h'.tk (j := j)).2.1
  have s2 : tkM mi n t j 266 4 = nI j := tkM_4
  have u0 : rx_u (tkM mi n t j) A 0 (nI j) = tkM (rx_u mi A 0 (nI j)) n t j := tkM_u r6
  generalize tkM (rx_u mi A 0 (nI j)) n t j = m1 at t2 t3 ht u0 ⊢
  have ed1 := sp_endOfDigits (ml := ml) hL t3 (by omega) l.1
  rw [ht, hp] at ed1
  have tailF : ∀ mx : Nat → Nat → Int64, (∀ x, x ≠ A → mx x = ml x) → rx_W M_Am_take 1 0 0 119 [] [] (nx, ct, m1, mx, mr) (pR (tkP A nx ct m1 ml mr none)) := by
    intro mx hmx
    refine ru_iconst (v := 0) d_Am_take_119 (by decide) ?_
    refine ru_zret (ty := .boolean) d_Am_take_120 rfl rfl ?_
    exact ⟨rfl, mx, rfl, hmx⟩
  have loop : ∀ f i mx v w, i ≤ 6 → f = 6 - i → mx A 2 = Int64.ofNat v → mx A 1 = Int64.ofNat w → (∀ x, x ≠ A → mx x = ml x) → rx_W M_Am_take 1 0 0 138 [(0, .ref A), (7, .int (nI i))] [] (nx, ct, m1, mx, mr) (pR (tkP A nx ct m1 ml mr (some (w, v * 10 ^ f)))) := by
    intro f
    induction f with
    | zero =>
      intro i mx v w hi hf h1 h2 h3
      refine ru_iload d_Am_take_138 rfl ?_
      refine ru_bipush (v := 6) d_Am_take_140 (by decide) ?_
      refine ru_icmp_ge (tgt := 163) d_Am_take_142 (by decide) (fun h142 => ?_) (fun h142 => absurd (nI_le (a := 6) (b := i) (by omega) (by omega)) h142)
      replace h142 := nm_le (a := 6) (b := i) (by omega) (by omega) h142
      refine ru_iconst (v := 1) d_Am_take_163 (by decide) ?_
      refine ru_zret (ty := .boolean) d_Am_take_164 rfl rfl ?_
      exact ⟨rfl, mx, rfl, h3, h2, by rw [h1, Nat.pow_zero, Nat.mul_one]⟩
    | succ f ih =>
      intro i mx v w hi hf h1 h2 h3
      refine ru_iload d_Am_take_138 rfl ?_
      refine ru_bipush (v := 6) d_Am_take_140 (by decide) ?_
      refine ru_icmp_ge (tgt := 163) d_Am_take_142 (by decide) (fun h142 => absurd h142 (nI_ge (a := i) (b := 6) (by omega) (by decide))) (fun h142 => ?_)
      replace h142 := nm_nle (a := 6) (b := i) (by omega) (by omega) h142
      refine ru_aload_n d_Am_take_145 rfl rfl ?_
      refine ru_dup d_Am_take_146 rfl ?_
      refine ru_getL d_Am_take_147 lf_Am_35 (ly_am hL hA) rfl ?_
      refine ru_eql h1 ?_
      refine ru_ldc2 d_Am_take_150 lc_Am_45 ?_
      refine ru_lmul d_Am_take_153 ?_
      refine ru_eql (nl_mul v 10 : _ = Int64.ofNat (v * 10)) ?_
      refine ru_putL d_Am_take_154 lf_Am_35 (ly_am hL hA) rfl (fun q hq => by cases hq; exact Or.inl rfl) ?_
      refine ru_iinc (v := nI (i + 1)) d_Am_take_157 rfl (nm_inc _ 1) (by decide) ?_
      refine ru_goto (tgt := 138) d_Am_take_160 (by decide) ?_
      have z := ih (i + 1) (rx_u mx A 2 (Int64.ofNat (v * 10))) (v * 10) w (by omega) (by omega) (rx_u_same _ _ _ _) (by rw [rx_u_k _ _ (by decide)]; exact h2) (fun x hx => by rw [rx_u_r _ _ hx]; exact h3 x hx)
      rw [show v * 10 ^ (f + 1) = v * 10 * 10 ^ f by rw [Nat.pow_succ, Nat.mul_comm (10 ^ f) 10, Nat.mul_assoc]]
      exact ru_to z ⟨rfl, rfl, trivial⟩
  refine ru_aload_n d_Am_take_0 rfl rfl ?_
  refine ru_aload_n d_Am_take_1 rfl rfl ?_
  refine ru_getI d_Am_take_2 lf_Am_9 (ly hL 266 7 0) rfl ?_
  refine ru_eqi s2 ?_
  refine ru_putI d_Am_take_5 lf_Am_15 (ly_am hL hA) rfl (fun q hq => by cases hq; exact Or.inl rfl) ⟨rfl, rfl⟩ ?_
  rw [u0]
  refine ru_aload_n d_Am_take_8 rfl rfl ?_
  refine ru_aload_n d_Am_take_9 rfl rfl ?_
  refine ru_getI d_Am_take_10 lf_Am_20 (ly hL 266 7 0) rfl ?_
  refine ru_eqi t2 ?_
  refine ru_callV (mc := 0) (ms := 0) d_Am_take_13 lm_Am_23 ed1 (rx_recv_is (ly hL 266 7 0) kx_Wo) (by decide) rfl (Nat.le_of_ble_eq_true rfl) ?_
  rintro v τ ⟨rfl, rfl⟩
  refine ru_istore_n d_Am_take_16 rfl (by decide) ?_
  refine ru_iload_n d_Am_take_17 rfl rfl ?_
  refine ru_aload_n d_Am_take_18 rfl rfl ?_
  refine ru_getI d_Am_take_19 lf_Am_20 (ly hL 266 7 0) rfl ?_
  refine ru_eqi t2 ?_
  refine ru_isub d_Am_take_22 ?_
  refine ru_eqi (nm_sub (a := p) (b := b) (by omega) : _ = nI (p - b)) ?_
  refine ru_istore_n d_Am_take_23 rfl (by decide) ?_
  refine ru_iload_n d_Am_take_24 rfl rfl ?_
  refine ru_iconst (v := 1) d_Am_take_25 (by decide) ?_
  refine ru_icmp_lt (tgt := 35) d_Am_take_26 (by decide) (fun h26 => ?_) (fun h26 => ?_)
  · skip
    replace h26 := nm_lt (a := (p - b)) (b := 1) (by omega) (by omega) h26
    refine ru_iconst (v := 0) d_Am_take_35 (by decide) ?_
    refine ru_zret (ty := .boolean) d_Am_take_36 rfl rfl ?_
    rw [if_pos (by omega)]
    exact ⟨rfl, ml, rfl, fun _ _ => rfl⟩
  · skip
    replace h26 := nm_nlt (a := (p - b)) (b := 1) (by omega) (by omega) h26
    refine ru_iload_n d_Am_take_29 rfl rfl ?_
    refine ru_bipush (v := 9) d_Am_take_30 (by decide) ?_
    refine ru_icmp_le (tgt := 37) d_Am_take_32 (by decide) (fun h32 => ?_) (fun h32 => ?_)
    · skip
      replace h32 := nm_le (a := (p - b)) (b := 9) (by omega) (by omega) h32
      rw [if_neg (by omega)]
      refine ru_aload_n d_Am_take_37 rfl rfl ?_
      refine ru_aload_n d_Am_take_38 rfl rfl ?_
      refine ru_aload_n d_Am_take_39 rfl rfl ?_
      refine ru_getI d_Am_take_40 lf_Am_20 (ly hL 266 7 0) rfl ?_
      refine ru_eqi t2 ?_
      refine ru_iload_n d_Am_take_43 rfl rfl ?_
      refine ru_callV (mc := 0) (ms := 0) d_Am_take_44 lm_Am_27 (cl_digits hL ht (by omega) lp.1 (fun x c d => de_dig _ _ rfl l.1 x c (by rw [hp]; exact d))) (rx_recv_is (ly hL 266 7 0) kx_Wo) (by decide) rfl (Nat.le_of_ble_eq_true rfl) ?_
      rintro v τ ⟨rfl, rfl⟩
      have d9 := dvF_acc (t := t) (p - b) b 0 (fun x hx => de_dig _ _ rfl l.1 (b + x) (by omega) (by rw [hp]; omega))
      have d10 : 10 ^ (p - b) ≤ 10 ^ 9 := Nat.pow_le_pow_right (by decide) (by omega)
      refine ru_i2l d_Am_take_47 ?_
      refine ru_eql (nl_i2l (a := (dvF t (p - b) b 0)) (by omega)) ?_
      refine ru_putL d_Am_take_48 lf_Am_31 (ly_am hL hA) rfl (fun q hq => by cases hq; exact Or.inl rfl) ?_
      refine ru_aload_n d_Am_take_51 rfl rfl ?_
      refine ru_lconst (v := 0) d_Am_take_52 (by decide) ?_
      refine ru_putL d_Am_take_53 lf_Am_35 (ly_am hL hA) rfl (fun q hq => by cases hq; exact Or.inl rfl) ?_
      refine ru_iload_n d_Am_take_56 rfl rfl ?_
      refine ru_aload_n d_Am_take_57 rfl rfl ?_
      refine ru_getI d_Am_take_58 lf_Am_38 (ly hL 266 7 0) rfl ?_
      refine ru_eqi t3 ?_
      refine ru_icmp_ne (tgt := 66) d_Am_take_61 (by decide) (fun h61 => ?_) (fun h61 => ?_)
      · skip
        replace h61 := nm_ne (a := p) (b := e) (by omega) (by omega) h61
        rw [if_neg h61]
        refine ru_iload_n d_Am_take_66 rfl rfl ?_
        refine ru_iconst (v := 1) d_Am_take_67 (by decide) ?_
        refine ru_iadd d_Am_take_68 ?_
        refine ru_eqi (nm_add p 1 : _ = nI (p + 1)) ?_
        refine ru_istore d_Am_take_69 (by decide) ?_
        refine ru_aload_n d_Am_take_71 rfl rfl ?_
        refine ru_iload d_Am_take_72 rfl ?_
        refine ru_callV (mc := 0) (ms := 0) d_Am_take_74 lm_Am_23 (sp_endOfDigits hL t3 (by omega) (by omega)) (rx_recv_is (ly hL 266 7 0) kx_Wo) (by decide) rfl (Nat.le_of_ble_eq_true rfl) ?_
        rw [ht]
        rintro v τ ⟨rfl, rfl⟩
        have lt := de_le e t (e - (p + 1)) (p + 1) (by omega)
        obtain ⟨to, hto⟩ : ∃ to, de e t (e - (p + 1)) (p + 1) = to := ⟨_, rfl⟩
        rw [hto] at lt ⊢
        refine ru_istore d_Am_take_77 (by decide) ?_
        refine ru_iload d_Am_take_79 rfl ?_
        refine ru_iload d_Am_take_81 rfl ?_
        refine ru_isub d_Am_take_83 ?_
        refine ru_eqi (nm_sub (a := to) (b := (p + 1)) (by omega) : _ = nI (to - (p + 1))) ?_
        refine ru_istore d_Am_take_84 (by decide) ?_
        refine ru_aload_n d_Am_take_86 rfl rfl ?_
        refine ru_getR d_Am_take_87 lf_Am_41 (ly hL 266 7 0) rfl (lr hL 266 0 267) ?_
        refine ru_iload_n d_Am_take_90 rfl rfl ?_
        refine ru_caldN (j := p) d_Am_take_91 (ly hL 267 101 3000) (by omega) (by decide) ?_
        rw [ht]
        refine ru_bipush (v := 46) d_Am_take_92 (by decide) ?_
        refine ru_icmp_ne (tgt := 119) d_Am_take_94 (by decide) (fun h94 => ?_) (fun h94 => ?_)
        · skip
          first | rw [if_neg (fun q => h94 (iq.mpr (q.1.trans i_46.symm)))] | rw [if_neg (by omega)]
          exact ru_to (tailF _ (fun x hx => by rw [rx_u_r _ _ hx, rx_u_r _ _ hx])) trivial
        · skip
          replace h94 : (t p).toInt = 46 := by rw [h94]; rfl
          refine ru_iload d_Am_take_97 rfl ?_
          refine ru_aload_n d_Am_take_99 rfl rfl ?_
          refine ru_getI d_Am_take_100 lf_Am_38 (ly hL 266 7 0) rfl ?_
          refine ru_eqi t3 ?_
          refine ru_icmp_ne (tgt := 119) d_Am_take_103 (by decide) (fun h103 => ?_) (fun h103 => ?_)
          · skip
            replace h103 := nm_ne (a := to) (b := e) (by omega) (by omega) h103
            first | rw [if_neg (fun q => h94 (iq.mpr (q.1.trans i_46.symm)))] | rw [if_neg (by omega)]
            exact ru_to (tailF _ (fun x hx => by rw [rx_u_r _ _ hx, rx_u_r _ _ hx])) trivial
          · skip
            replace h103 := nm_eq (a := to) (b := e) (by omega) (by omega) h103
            refine ru_iload d_Am_take_106 rfl ?_
            refine ru_iconst (v := 1) d_Am_take_108 (by decide) ?_
            refine ru_icmp_lt (tgt := 119) d_Am_take_109 (by decide) (fun h109 => ?_) (fun h109 => ?_)
            · skip
              replace h109 := nm_lt (a := (to - (p + 1))) (b := 1) (by omega) (by omega) h109
              first | rw [if_neg (fun q => h94 (iq.mpr (q.1.trans i_46.symm)))] | rw [if_neg (by omega)]
              exact ru_to (tailF _ (fun x hx => by rw [rx_u_r _ _ hx, rx_u_r _ _ hx])) trivial
            · skip
              replace h109 := nm_nlt (a := (to - (p + 1))) (b := 1) (by omega) (by omega) h109
              refine ru_iload d_Am_take_112 rfl ?_
              refine ru_bipush (v := 6) d_Am_take_114 (by decide) ?_
              refine ru_icmp_le (tgt := 121) d_Am_take_116 (by decide) (fun h116 => ?_) (fun h116 => ?_)
              · skip
                replace h116 := nm_le (a := (to - (p + 1))) (b := 6) (by omega) (by omega) h116
                rw [if_pos ⟨h94, by omega, by omega, by omega⟩]
                refine ru_aload_n d_Am_take_121 rfl rfl ?_
                refine ru_aload_n d_Am_take_122 rfl rfl ?_
                refine ru_iload d_Am_take_123 rfl ?_
                refine ru_iload d_Am_take_125 rfl ?_
                refine ru_callV (mc := 0) (ms := 0) d_Am_take_127 lm_Am_27 (cl_digits hL ht (by omega) lt.1 (fun x c d => de_dig (e := e) _ (p + 1) rfl (by omega) x c (by rw [hto]; exact d))) (rx_recv_is (ly hL 266 7 0) kx_Wo) (by decide) rfl (Nat.le_of_ble_eq_true rfl) ?_
                rintro v τ ⟨rfl, rfl⟩
                have f9 := dvF_acc (t := t) (to - (p + 1)) (p + 1) 0 (fun x hx => de_dig (e := e) _ (p + 1) rfl (by omega) (p + 1 + x) (by omega) (by rw [hto]; omega))
                have f10 : 10 ^ (to - (p + 1)) ≤ 10 ^ 6 := Nat.pow_le_pow_right (by decide) (by omega)
                refine ru_i2l d_Am_take_130 ?_
                refine ru_eql (nl_i2l (a := (dvF t (to - (p + 1)) (p + 1) 0)) (by omega)) ?_
                refine ru_putL d_Am_take_131 lf_Am_35 (ly_am hL hA) rfl (fun q hq => by cases hq; exact Or.inl rfl) ?_
                refine ru_iload d_Am_take_134 rfl ?_
                refine ru_istore d_Am_take_136 (by decide) ?_
                have z := loop (6 - (to - (p + 1))) (to - (p + 1)) (rx_u (rx_u (rx_u ml A 1 (Int64.ofNat (dvF t (p - b) b 0))) A 2 0) A 2 (Int64.ofNat (dvF t (to - (p + 1)) (p + 1) 0))) _ (dvF t (p - b) b 0) (by omega) rfl (rx_u_same _ _ _ _) (by rw [rx_u_k _ _ (by decide), rx_u_k _ _ (by decide), rx_u_same]) (fun x hx => by rw [rx_u_r _ _ hx, rx_u_r _ _ hx, rx_u_r _ _ hx])
                rw [show e - (p + 1) = to - (p + 1) by omega]
                exact ru_to z ⟨rfl, rfl, trivial⟩
              · skip
                replace h116 := nm_nle (a := (to - (p + 1))) (b := 6) (by omega) (by omega) h116
                first | rw [if_neg (fun q => h94 (iq.mpr (q.1.trans i_46.symm)))] | rw [if_neg (by omega)]
                exact ru_to (tailF _ (fun x hx => by rw [rx_u_r _ _ hx, rx_u_r _ _ hx])) trivial
      · skip
        replace h61 := nm_eq (a := p) (b := e) (by omega) (by omega) h61
        rw [if_pos h61]
        refine ru_iconst (v := 1) d_Am_take_64 (by decide) ?_
        refine ru_zret (ty := .boolean) d_Am_take_65 rfl rfl ?_
        exact ⟨rfl, _, rfl, fun x hx => by rw [rx_u_r _ _ hx, rx_u_r _ _ hx], by rw [rx_u_k _ _ (by decide), rx_u_same], rx_u_same _ _ _ _⟩
    · skip
      replace h32 := nm_nle (a := (p - b)) (b := 9) (by omega) (by omega) h32
      refine ru_iconst (v := 0) d_Am_take_35 (by decide) ?_
      refine ru_zret (ty := .boolean) d_Am_take_36 rfl rfl ?_
      rw [if_pos (by omega)]
      exact ⟨rfl, ml, rfl, fun _ _ => rfl⟩
theorem cvt_none {q : Nat × Nat} : cvt q u lim = none ↔ ¬ (q.2 * u % 1000000 = 0 ∧ q.1 * u + q.2 * u / 1000000 ≤ lim) := by
  unfold cvt
  by_cases h : q.2 * u % 1000000 = 0 ∧ q.1 * u + q.2 * u / 1000000 ≤ lim
  · rw [if_pos h]; exact ⟨(fun z => by cases z), fun z => absurd h z⟩
  · rw [if_neg h]; exact ⟨fun _ => h, fun _ => rfl⟩
theorem cvt_some {q : Nat × Nat} {x : Nat} (h : cvt q u lim = some x) : x = q.1 * u + q.2 * u / 1000000 ∧ x ≤ lim ∧ q.2 * u % 1000000 = 0 := by
  unfold cvt at h
  by_cases c : q.2 * u % 1000000 = 0 ∧ q.1 * u + q.2 * u / 1000000 ≤ lim
  · rw [if_pos c] at h; cases h; exact ⟨rfl, c.2, c.1⟩
  · rw [if_neg c] at h; cases h
theorem cl_convert (hL : LAY nx ct mr) (hA : isAm A) (h1 : ml A 1 = Int64.ofNat a) (h2 : ml A 2 = Int64.ofNat b) (ha : a < 10 ^ 9) (hb : b < 10 ^ 6) (hu : u ≤ 25400000) (hl : lim < 2 ^ 63) : rx_Calls y_Am_convert M_Am_convert 0 0 0 [.ref A, .long (Int64.ofNat u), .long (Int64.ofNat lim)] (nx, ct, mi, ml, mr) (fun v τ => v = some (.int (bI (¬ cvt (a, b) u lim = none))) ∧ τ = (nx, ct, mi, rx_u ml A 3 (Int64.ofNat (a * u + b * u / 1000000)), mr)) := by
  refine rx_enter (by decide) rfl rfl (Nat.le_of_ble_eq_true rfl) ?_
  have p1 : a * u ≤ 10 ^ 9 * 25400000 := Nat.mul_le_mul (by omega) hu
  have p2 : b * u ≤ 10 ^ 6 * 25400000 := Nat.mul_le_mul (by omega) hu
  rw [show (¬ cvt (a, b) u lim = none) = (b * u % 1000000 = 0 ∧ a * u + b * u / 1000000 ≤ lim) by rw [propext cvt_none, Classical.not_not]]
  refine ru_aload_n d_Am_convert_0 rfl rfl ?_
  refine ru_getL d_Am_convert_1 lf_Am_35 (ly_am hL hA) rfl ?_
  refine ru_eql h2 ?_
  refine ru_lload_n d_Am_convert_4 rfl rfl ?_
  refine ru_lmul d_Am_convert_5 ?_
  refine ru_eql (nl_mul b u : _ = Int64.ofNat (b * u)) ?_
  refine ru_lstore d_Am_convert_6 (by decide) ?_
  refine ru_aload_n d_Am_convert_8 rfl rfl ?_
  refine ru_aload_n d_Am_convert_9 rfl rfl ?_
  refine ru_getL d_Am_convert_10 lf_Am_31 (ly_am hL hA) rfl ?_
  refine ru_eql h1 ?_
  refine ru_lload_n d_Am_convert_13 rfl rfl ?_
  refine ru_lmul d_Am_convert_14 ?_
  refine ru_eql (nl_mul a u : _ = Int64.ofNat (a * u)) ?_
  refine ru_lload d_Am_convert_15 rfl ?_
  refine ru_ldc2 d_Am_convert_17 lc_Am_47 ?_
  refine ru_ldiv d_Am_convert_20 (by decide) ?_
  refine ru_eql (nl_div (a := (b * u)) (b := 1000000) (by omega) (by omega) (by omega) : _ = Int64.ofNat ((b * u) / 1000000)) ?_
  refine ru_ladd d_Am_convert_21 ?_
  refine ru_eql (nl_add (a * u) ((b * u) / 1000000) : _ = Int64.ofNat ((a * u) + ((b * u) / 1000000))) ?_
  refine ru_putL d_Am_convert_22 lf_Am_49 (ly_am hL hA) rfl (fun q hq => by cases hq; exact Or.inl rfl) ?_
  refine ru_lload d_Am_convert_25 rfl ?_
  refine ru_ldc2 d_Am_convert_27 lc_Am_47 ?_
  refine ru_lrem d_Am_convert_30 (by decide) ?_
  refine ru_eql (nl_rem (a := (b * u)) (b := 1000000) (by omega) (by omega) (by omega) : _ = Int64.ofNat ((b * u) % 1000000)) ?_
  refine ru_lconst (v := 0) d_Am_convert_31 (by decide) ?_
  refine ru_lcmp d_Am_convert_32 ?_
  refine ru_if_ne (tgt := 49) d_Am_convert_33 (by decide) (fun h33 => ?_) (fun h33 => ?_)
  · skip
    replace h33 := fun q => h33 ((lg_cmp_eq _ _).mpr q)
    replace h33 := nl_ne (a := ((b * u) % 1000000)) (b := 0) (by omega) (by omega) h33
    refine ru_iconst (v := 0) d_Am_convert_49 (by decide) ?_
    refine ru_zret (ty := .boolean) d_Am_convert_50 rfl rfl ?_
    first | (rw [bI_t (by omega)]; exact ⟨rfl, rfl⟩) | (rw [bI_f (by omega)]; exact ⟨rfl, rfl⟩)
  · skip
    replace h33 := (lg_cmp_eq _ _).mp h33
    replace h33 := nl_eq (a := ((b * u) % 1000000)) (b := 0) (by omega) (by omega) h33
    refine ru_aload_n d_Am_convert_36 rfl rfl ?_
    refine ru_getL d_Am_convert_37 lf_Am_49 (ly_am hL hA) rfl ?_
    rw [rx_u_same]
    refine ru_lload_n d_Am_convert_40 rfl rfl ?_
    refine ru_lcmp d_Am_convert_41 ?_
    refine ru_if_gt (tgt := 49) d_Am_convert_42 (by decide) (fun h42 => ?_) (fun h42 => ?_)
    · skip
      replace h42 := (lg_cmp_gt _ _).mp h42
      replace h42 := nl_lt (a := lim) (b := (a*u+b*u/1000000)) (by omega) (by omega) h42
      refine ru_iconst (v := 0) d_Am_convert_49 (by decide) ?_
      refine ru_zret (ty := .boolean) d_Am_convert_50 rfl rfl ?_
      first | (rw [bI_t (by omega)]; exact ⟨rfl, rfl⟩) | (rw [bI_f (by omega)]; exact ⟨rfl, rfl⟩)
    · skip
      replace h42 := fun q => h42 ((lg_cmp_gt _ _).mpr q)
      replace h42 := nl_nlt (a := lim) (b := (a*u+b*u/1000000)) (by omega) (by omega) h42
      refine ru_iconst (v := 1) d_Am_convert_45 (by decide) ?_
      refine ru_goto (tgt := 50) d_Am_convert_46 (by decide) ?_
      refine ru_zret (ty := .boolean) d_Am_convert_50 rfl rfl ?_
      first | (rw [bI_t (by omega)]; exact ⟨rfl, rfl⟩) | (rw [bI_f (by omega)]; exact ⟨rfl, rfl⟩)
theorem cl_blame (hL : LAY nx ct mr) (hA : isAm A) : rx_Calls y_Rd_blame M_Rd_blame 0 0 0 [.ref 268, .ref A] (nx, ct, mi, ml, mr) (fun v τ => v = some (.int 0) ∧ τ = (nx, ct, rx_u mi 268 4 (mi A 0), ml, mr)) := by
  refine rx_enter (by decide) rfl rfl (Nat.le_of_ble_eq_true rfl) ?_
  refine ru_aload_n d_Rd_blame_0 rfl rfl ?_
  refine ru_aload_n d_Rd_blame_1 rfl rfl ?_
  refine ru_getI d_Rd_blame_2 lf_Rd_245 (ly_am hL hA) rfl ?_
  refine ru_putI d_Rd_blame_5 lf_Rd_29 (ly hL 268 3 0) rfl (fun q hq => by cases hq; exact Or.inl rfl) ⟨rfl, rfl⟩ ?_
  refine ru_iconst (v := 0) d_Rd_blame_8 (by decide) ?_
  refine ru_zret (ty := .boolean) d_Rd_blame_9 rfl rfl ?_
  exact ⟨rfl, rfl⟩
end
