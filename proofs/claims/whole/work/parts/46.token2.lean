/-! The class: its words one after the other, its names, a rule begun -/
theorem d_Na_find_0 : decode M_Na_find.2.1 0 = .ok (.aload_n 2, 1) := by decide +kernel
theorem d_Na_find_1 : decode M_Na_find.2.1 1 = .ok (.invokevirtual 23, 3) := by decide +kernel
theorem d_Na_find_4 : decode M_Na_find.2.1 4 = .ok (.ifCond .eq 5, 3) := by decide +kernel
theorem d_Na_find_7 : decode M_Na_find.2.1 7 = .ok (.iconst (-1), 1) := by decide +kernel
theorem d_Na_find_8 : decode M_Na_find.2.1 8 = .ok (.ireturn, 1) := by decide +kernel
theorem d_Na_find_9 : decode M_Na_find.2.1 9 = .ok (.iconst 0, 1) := by decide +kernel
theorem d_Na_find_10 : decode M_Na_find.2.1 10 = .ok (.istore_n 3, 1) := by decide +kernel
theorem d_Na_find_11 : decode M_Na_find.2.1 11 = .ok (.iload_n 3, 1) := by decide +kernel
theorem d_Na_find_12 : decode M_Na_find.2.1 12 = .ok (.bipush 16, 2) := by decide +kernel
theorem d_Na_find_14 : decode M_Na_find.2.1 14 = .ok (.if_icmp .ge 24, 3) := by decide +kernel
theorem d_Na_find_17 : decode M_Na_find.2.1 17 = .ok (.aload_n 0, 1) := by decide +kernel
theorem d_Na_find_18 : decode M_Na_find.2.1 18 = .ok (.iload_n 1, 1) := by decide +kernel
theorem d_Na_find_19 : decode M_Na_find.2.1 19 = .ok (.iload_n 3, 1) := by decide +kernel
theorem d_Na_find_20 : decode M_Na_find.2.1 20 = .ok (.invokestatic 29, 3) := by decide +kernel
theorem d_Na_find_23 : decode M_Na_find.2.1 23 = .ok (.aload_n 2, 1) := by decide +kernel
theorem d_Na_find_24 : decode M_Na_find.2.1 24 = .ok (.invokevirtual 33, 3) := by decide +kernel
theorem d_Na_find_27 : decode M_Na_find.2.1 27 = .ok (.ifCond .eq 5, 3) := by decide +kernel
theorem d_Na_find_30 : decode M_Na_find.2.1 30 = .ok (.iload_n 3, 1) := by decide +kernel
theorem d_Na_find_31 : decode M_Na_find.2.1 31 = .ok (.ireturn, 1) := by decide +kernel
theorem d_Na_find_32 : decode M_Na_find.2.1 32 = .ok (.iinc 3 1, 3) := by decide +kernel
theorem d_Na_find_35 : decode M_Na_find.2.1 35 = .ok (.goto (-24), 3) := by decide +kernel
theorem d_Na_find_38 : decode M_Na_find.2.1 38 = .ok (.iconst (-1), 1) := by decide +kernel
theorem d_Na_find_39 : decode M_Na_find.2.1 39 = .ok (.ireturn, 1) := by decide +kernel
theorem d_Na_isNamed_0 : decode M_Na_isNamed.2.1 0 = .ok (.aload_n 0, 1) := by decide +kernel
theorem d_Na_isNamed_1 : decode M_Na_isNamed.2.1 1 = .ok (.getfield 15, 3) := by decide +kernel
theorem d_Na_isNamed_4 : decode M_Na_isNamed.2.1 4 = .ok (.iload_n 1, 1) := by decide +kernel
theorem d_Na_isNamed_5 : decode M_Na_isNamed.2.1 5 = .ok (.iaload, 1) := by decide +kernel
theorem d_Na_isNamed_6 : decode M_Na_isNamed.2.1 6 = .ok (.istore_n 3, 1) := by decide +kernel
theorem d_Na_isNamed_7 : decode M_Na_isNamed.2.1 7 = .ok (.iload_n 3, 1) := by decide +kernel
theorem d_Na_isNamed_8 : decode M_Na_isNamed.2.1 8 = .ok (.aload_n 2, 1) := by decide +kernel
theorem d_Na_isNamed_9 : decode M_Na_isNamed.2.1 9 = .ok (.getfield 37, 3) := by decide +kernel
theorem d_Na_isNamed_12 : decode M_Na_isNamed.2.1 12 = .ok (.aload_n 2, 1) := by decide +kernel
theorem d_Na_isNamed_13 : decode M_Na_isNamed.2.1 13 = .ok (.getfield 41, 3) := by decide +kernel
theorem d_Na_isNamed_16 : decode M_Na_isNamed.2.1 16 = .ok (.isub, 1) := by decide +kernel
theorem d_Na_isNamed_17 : decode M_Na_isNamed.2.1 17 = .ok (.if_icmp .eq 5, 3) := by decide +kernel
theorem d_Na_isNamed_20 : decode M_Na_isNamed.2.1 20 = .ok (.iconst 0, 1) := by decide +kernel
theorem d_Na_isNamed_21 : decode M_Na_isNamed.2.1 21 = .ok (.ireturn, 1) := by decide +kernel
theorem d_Na_isNamed_22 : decode M_Na_isNamed.2.1 22 = .ok (.iconst 0, 1) := by decide +kernel
theorem d_Na_isNamed_23 : decode M_Na_isNamed.2.1 23 = .ok (.istore 4, 2) := by decide +kernel
theorem d_Na_isNamed_25 : decode M_Na_isNamed.2.1 25 = .ok (.iload 4, 2) := by decide +kernel
theorem d_Na_isNamed_27 : decode M_Na_isNamed.2.1 27 = .ok (.iload_n 3, 1) := by decide +kernel
theorem d_Na_isNamed_28 : decode M_Na_isNamed.2.1 28 = .ok (.if_icmp .ge 38, 3) := by decide +kernel
theorem d_Na_isNamed_31 : decode M_Na_isNamed.2.1 31 = .ok (.aload_n 0, 1) := by decide +kernel
theorem d_Na_isNamed_32 : decode M_Na_isNamed.2.1 32 = .ok (.getfield 9, 3) := by decide +kernel
theorem d_Na_isNamed_35 : decode M_Na_isNamed.2.1 35 = .ok (.iload_n 1, 1) := by decide +kernel
theorem d_Na_isNamed_36 : decode M_Na_isNamed.2.1 36 = .ok (.bipush 8, 2) := by decide +kernel
theorem d_Na_isNamed_38 : decode M_Na_isNamed.2.1 38 = .ok (.imul, 1) := by decide +kernel
theorem d_Na_isNamed_39 : decode M_Na_isNamed.2.1 39 = .ok (.iload 4, 2) := by decide +kernel
theorem d_Na_isNamed_41 : decode M_Na_isNamed.2.1 41 = .ok (.iadd, 1) := by decide +kernel
theorem d_Na_isNamed_42 : decode M_Na_isNamed.2.1 42 = .ok (.caload, 1) := by decide +kernel
theorem d_Na_isNamed_43 : decode M_Na_isNamed.2.1 43 = .ok (.aload_n 2, 1) := by decide +kernel
theorem d_Na_isNamed_44 : decode M_Na_isNamed.2.1 44 = .ok (.getfield 44, 3) := by decide +kernel
theorem d_Na_isNamed_47 : decode M_Na_isNamed.2.1 47 = .ok (.aload_n 2, 1) := by decide +kernel
theorem d_Na_isNamed_48 : decode M_Na_isNamed.2.1 48 = .ok (.getfield 41, 3) := by decide +kernel
theorem d_Na_isNamed_51 : decode M_Na_isNamed.2.1 51 = .ok (.iload 4, 2) := by decide +kernel
theorem d_Na_isNamed_53 : decode M_Na_isNamed.2.1 53 = .ok (.iadd, 1) := by decide +kernel
theorem d_Na_isNamed_54 : decode M_Na_isNamed.2.1 54 = .ok (.caload, 1) := by decide +kernel
theorem d_Na_isNamed_55 : decode M_Na_isNamed.2.1 55 = .ok (.if_icmp .eq 5, 3) := by decide +kernel
theorem d_Na_isNamed_58 : decode M_Na_isNamed.2.1 58 = .ok (.iconst 0, 1) := by decide +kernel
theorem d_Na_isNamed_59 : decode M_Na_isNamed.2.1 59 = .ok (.ireturn, 1) := by decide +kernel
theorem d_Na_isNamed_60 : decode M_Na_isNamed.2.1 60 = .ok (.iinc 4 1, 3) := by decide +kernel
theorem d_Na_isNamed_63 : decode M_Na_isNamed.2.1 63 = .ok (.goto (-38), 3) := by decide +kernel
theorem d_Na_isNamed_66 : decode M_Na_isNamed.2.1 66 = .ok (.iconst 1, 1) := by decide +kernel
theorem d_Na_isNamed_67 : decode M_Na_isNamed.2.1 67 = .ok (.ireturn, 1) := by decide +kernel
theorem d_Ru_begin_0 : decode M_Ru_begin.2.1 0 = .ok (.aload_n 0, 1) := by decide +kernel
theorem d_Ru_begin_1 : decode M_Ru_begin.2.1 1 = .ok (.aload_n 1, 1) := by decide +kernel
theorem d_Ru_begin_2 : decode M_Ru_begin.2.1 2 = .ok (.putfield 15, 3) := by decide +kernel
theorem d_Ru_begin_5 : decode M_Ru_begin.2.1 5 = .ok (.aload_n 0, 1) := by decide +kernel
theorem d_Ru_begin_6 : decode M_Ru_begin.2.1 6 = .ok (.iconst (-1), 1) := by decide +kernel
theorem d_Ru_begin_7 : decode M_Ru_begin.2.1 7 = .ok (.putfield 20, 3) := by decide +kernel
theorem d_Ru_begin_10 : decode M_Ru_begin.2.1 10 = .ok (.aload_n 0, 1) := by decide +kernel
theorem d_Ru_begin_11 : decode M_Ru_begin.2.1 11 = .ok (.iconst (-1), 1) := by decide +kernel
theorem d_Ru_begin_12 : decode M_Ru_begin.2.1 12 = .ok (.putfield 24, 3) := by decide +kernel
theorem d_Ru_begin_15 : decode M_Ru_begin.2.1 15 = .ok (.aload_n 0, 1) := by decide +kernel
theorem d_Ru_begin_16 : decode M_Ru_begin.2.1 16 = .ok (.iconst 0, 1) := by decide +kernel
theorem d_Ru_begin_17 : decode M_Ru_begin.2.1 17 = .ok (.putfield 27, 3) := by decide +kernel
theorem d_Ru_begin_20 : decode M_Ru_begin.2.1 20 = .ok (.aload_n 0, 1) := by decide +kernel
theorem d_Ru_begin_21 : decode M_Ru_begin.2.1 21 = .ok (.iconst (-1), 1) := by decide +kernel
theorem d_Ru_begin_22 : decode M_Ru_begin.2.1 22 = .ok (.putfield 30, 3) := by decide +kernel
theorem d_Ru_begin_25 : decode M_Ru_begin.2.1 25 = .ok (.aload_n 0, 1) := by decide +kernel
theorem d_Ru_begin_26 : decode M_Ru_begin.2.1 26 = .ok (.iconst 0, 1) := by decide +kernel
theorem d_Ru_begin_27 : decode M_Ru_begin.2.1 27 = .ok (.putfield 33, 3) := by decide +kernel
theorem d_Ru_begin_30 : decode M_Ru_begin.2.1 30 = .ok (.aload_n 0, 1) := by decide +kernel
theorem d_Ru_begin_31 : decode M_Ru_begin.2.1 31 = .ok (.ldc2_w 36, 3) := by decide +kernel
theorem d_Ru_begin_34 : decode M_Ru_begin.2.1 34 = .ok (.putfield 38, 3) := by decide +kernel
theorem d_Ru_begin_37 : decode M_Ru_begin.2.1 37 = .ok (.aload_n 0, 1) := by decide +kernel
theorem d_Ru_begin_38 : decode M_Ru_begin.2.1 38 = .ok (.ldc2_w 36, 3) := by decide +kernel
theorem d_Ru_begin_41 : decode M_Ru_begin.2.1 41 = .ok (.putfield 42, 3) := by decide +kernel
theorem d_Ru_begin_44 : decode M_Ru_begin.2.1 44 = .ok (.aload_n 0, 1) := by decide +kernel
theorem d_Ru_begin_45 : decode M_Ru_begin.2.1 45 = .ok (.iload_n 2, 1) := by decide +kernel
theorem d_Ru_begin_46 : decode M_Ru_begin.2.1 46 = .ok (.putfield 45, 3) := by decide +kernel
theorem d_Ru_begin_49 : decode M_Ru_begin.2.1 49 = .ok (.return_, 1) := by decide +kernel
def up4 (f : Nat → Nat → Int32) (a b c d : Int32) : Nat → Nat → Int32 := rx_u (rx_u (rx_u (rx_u f 266 5 a) 266 2 b) 266 3 c) 266 4 d
theorem up4_eq {f g : Nat → Nat → Int32} {a b c d : Int32} (h1 : ∀ r, r ≠ 266 → f r = g r) (h2 : ∀ k, k ≠ 2 → k ≠ 3 → k ≠ 4 → k ≠ 5 → f 266 k = g 266 k) : up4 f a b c d = up4 g a b c d := by
  funext r k
  by_cases hr : r = 266
  · subst hr
    by_cases k4 : k = 4
    · subst k4; unfold up4; rw [rx_u_same, rx_u_same]
    · by_cases k3 : k = 3
      · subst k3; unfold up4; rw [rx_u_k _ _ (by decide), rx_u_same, rx_u_k _ _ (by decide), rx_u_same]
      · by_cases k2 : k = 2
        · subst k2; unfold up4; rw [rx_u_k _ _ (by decide), rx_u_k _ _ (by decide), rx_u_same, rx_u_k _ _ (by decide), rx_u_k _ _ (by decide), rx_u_same]
        · by_cases k5 : k = 5
          · subst k5; unfold up4; rw [rx_u_k _ _ (by decide), rx_u_k _ _ (by decide), rx_u_k _ _ (by decide), rx_u_same, rx_u_k _ _ (by decide), rx_u_k _ _ (by decide), rx_u_k _ _ (by decide), rx_u_same]
          · unfold up4; rw [rx_u_k _ _ k4, rx_u_k _ _ k3, rx_u_k _ _ k2, rx_u_k _ _ k5, rx_u_k _ _ k4, rx_u_k _ _ k3, rx_u_k _ _ k2, rx_u_k _ _ k5]; exact h2 k k2 k3 k4 k5
  · unfold up4; rw [rx_u_r _ _ hr, rx_u_r _ _ hr, rx_u_r _ _ hr, rx_u_r _ _ hr, rx_u_r _ _ hr, rx_u_r _ _ hr, rx_u_r _ _ hr, rx_u_r _ _ hr, h1 r hr]
/-- the class's words stand at word j -/
def tkM (mi : Nat → Nat → Int32) (n : Nat) (t : Nat → Int32) (j : Nat) : Nat → Nat → Int32 := up4 mi (nI (lnF t (tk n t j).1)) (nI (tk n t j).1) (nI (tk n t j).2) (nI j)
section
variable {mi : Nat → Nat → Int32} {n j j' : Nat} {t : Nat → Int32}
theorem tkM_4 : tkM mi n t j 266 4 = nI j := by unfold tkM up4; rw [rx_u_same]
theorem tkM_3 : tkM mi n t j 266 3 = nI (tk n t j).2 := by unfold tkM up4; rw [rx_u_k _ _ (by decide), rx_u_same]
theorem tkM_2 : tkM mi n t j 266 2 = nI (tk n t j).1 := by unfold tkM up4; rw [rx_u_k _ _ (by decide), rx_u_k _ _ (by decide), rx_u_same]
theorem tkM_5 : tkM mi n t j 266 5 = nI (lnF t (tk n t j).1) := by unfold tkM up4; rw [rx_u_k _ _ (by decide), rx_u_k _ _ (by decide), rx_u_k _ _ (by decide), rx_u_same]
theorem tkM_1 : tkM mi n t j 266 1 = mi 266 1 := by unfold tkM up4; rw [rx_u_k _ _ (by decide), rx_u_k _ _ (by decide), rx_u_k _ _ (by decide), rx_u_k _ _ (by decide)]
theorem tkM_r {r : Nat} (h : r ≠ 266 := by decide) : tkM mi n t j r = mi r := by unfold tkM up4; rw [rx_u_r _ _ h, rx_u_r _ _ h, rx_u_r _ _ h, rx_u_r _ _ h]
theorem tkM_tkM : tkM (tkM mi n t j) n t j' = tkM mi n t j' := up4_eq (fun r h => tkM_r h) (fun k h2 h3 h4 h5 => by unfold tkM up4; rw [rx_u_k _ _ h4, rx_u_k _ _ h3, rx_u_k _ _ h2, rx_u_k _ _ h5])
theorem rx_u_c {α : Type} (f : Nat → Nat → α) {r k r' k' : Nat} (v w : α) (h : r ≠ r') : rx_u (rx_u f r k v) r' k' w = rx_u (rx_u f r' k' w) r k v := by
  funext q x
  by_cases h1 : q = r
  · subst h1
    rw [rx_u_r _ _ h]
    by_cases hx : x = k
    · subst hx; rw [rx_u_same, rx_u_same]
    · rw [rx_u_k _ _ hx, rx_u_k _ _ hx, rx_u_r _ _ h]
  · rw [rx_u_r (rx_u f r' k' w) _ h1]
    by_cases h2 : q = r'
    · subst h2
      by_cases hx : x = k'
      · subst hx; rw [rx_u_same, rx_u_same]
      · rw [rx_u_k _ _ hx, rx_u_k _ _ hx, rx_u_r _ _ h1]
    · rw [rx_u_r _ _ h2, rx_u_r _ _ h2, rx_u_r _ _ h1]
theorem tkM_u {r k : Nat} {v : Int32} (h : r ≠ 266) : rx_u (tkM mi n t j) r k v = tkM (rx_u mi r k v) n t j := by
  unfold tkM up4
  rw [rx_u_c _ _ _ (Ne.symm h), rx_u_c _ _ _ (Ne.symm h), rx_u_c _ _ _ (Ne.symm h), rx_u_c _ _ _ (Ne.symm h)]
/-- the text: its length and its letters -/
def TxC (n : Nat) (t : Nat → Int32) (mi : Nat → Nat → Int32) : Prop := mi 266 1 = nI n ∧ mi 267 = t ∧ n ≤ 3000
theorem TxC.tk (h : TxC n t mi) : TxC n t (tkM mi n t j) := ⟨tkM_1.trans h.1, (tkM_r (r := 267) (by decide)).trans h.2.1, h.2.2⟩
theorem TxC.u {r k : Nat} {v : Int32} (h : TxC n t mi) (h1 : r ≠ 266) (h2 : r ≠ 267) : TxC n t (rx_u mi r k v) := by
  refine ⟨?_, ?_, h.2.2⟩
  · rw [rx_u_r _ _ (Ne.symm h1)]; exact h.1
  · rw [rx_u_r _ _ (Ne.symm h2)]; exact h.2.1
theorem lnF_nls : ∀ f i, lnF t i + nls n t f i = lnF t (sk n t f i)
  | 0, i => rfl
  | f + 1, i => by
    unfold nls sk
    by_cases h : i < n ∧ (t i).toInt ≤ 32
    · rw [if_pos h, if_pos h, ← lnF_nls f (i + 1)]
      show _ = lnF t i + _ + _
      omega
    · rw [if_neg h, if_neg h]
      rfl
theorem lnF_we : ∀ f i, lnF t (we n t f i) = lnF t i
  | 0, i => rfl
  | f + 1, i => by
    unfold we
    by_cases h : i < n ∧ 32 < (t i).toInt ∧ (t i).toInt ≠ 59
    · rw [if_pos h, lnF_we f (i + 1)]
      show lnF t i + _ = _
      rw [if_neg (by omega)]
      rfl
    · rw [if_neg h]
theorem lnF_wordEnd {i : Nat} : lnF t (wordEnd n t i) = lnF t i := by
  unfold wordEnd
  by_cases h : i < n ∧ (t i).toInt = 59
  · rw [if_pos h]
    show lnF t i + _ = _
    rw [if_neg (by omega)]
    rfl
  · rw [if_neg h]
    exact lnF_we _ _
theorem lnF_tk : ∀ j, lnF t (tk n t j).2 = lnF t (tk n t j).1
  | 0 => lnF_wordEnd
  | j + 1 => lnF_wordEnd
end
section
variable {nx : Nat} {ct : Nat → Nat × Nat} {mi : Nat → Nat → Int32} {ml : Nat → Nat → Int64} {mr : Nat → Nat → Option Nat} {n j : Nat} {t : Nat → Int32}
theorem cl_goOn (hL : LAY nx ct mr) (h : TxC n t mi) : rx_Calls y_Wo_goOn M_Wo_goOn 0 0 0 [.ref 266] (nx, ct, tkM mi n t j, ml, mr) (fun v τ => v = none ∧ τ = (nx, ct, tkM mi n t (j + 1), ml, mr)) := by
  have z := sp_goOn (ml := ml) hL (h.tk (j := j)).1 h.2.2 tkM_3 (tk_le j).2
  rw [tkM_5, tkM_4, (h.tk (j := j)).2.1, ← lnF_tk, nI_add, lnF_nls, show (nI j + 1 : Int32) = nI (j + 1) from nI_add j 1] at z
  have e : (rx_u (rx_u (rx_u (rx_u (tkM mi n t j) 266 5 (nI (lnF t (sk n t (n - (tk n t j).2) (tk n t j).2)))) 266 2 (nI (sk n t (n - (tk n t j).2) (tk n t j).2))) 266 3 (nI (wordEnd n t (sk n t (n - (tk n t j).2) (tk n t j).2)))) 266 4 (nI (j + 1))) = tkM mi n t (j + 1) := tkM_tkM (j' := j + 1)
  rw [e] at z
  exact z
theorem cl_goToFirst (hL : LAY nx ct mr) (h : TxC n t mi) : rx_Calls y_Wo_goToFirst M_Wo_goToFirst 1 0 0 [.ref 266] (nx, ct, mi, ml, mr) (fun v τ => v = none ∧ τ = (nx, ct, tkM mi n t 0, ml, mr)) := by
  refine rx_enter (by decide) rfl rfl (Nat.le_of_ble_eq_true rfl) ?_
  have ht : rx_u (rx_u (rx_u mi 266 3 0) 266 4 (-1)) 266 5 0 267 = t := by rw [rx_u_r _ _ (by decide), rx_u_r _ _ (by decide), rx_u_r _ _ (by decide)]; exact h.2.1
  have h1 : rx_u (rx_u (rx_u mi 266 3 0) 266 4 (-1)) 266 5 0 266 1 = nI n := by rw [rx_u_k _ _ (by decide), rx_u_k _ _ (by decide), rx_u_k _ _ (by decide)]; exact h.1
  have h3 : rx_u (rx_u (rx_u mi 266 3 0) 266 4 (-1)) 266 5 0 266 3 = nI 0 := by rw [rx_u_k _ _ (by decide), rx_u_k _ _ (by decide), rx_u_same]; rfl
  have h4 : rx_u (rx_u (rx_u mi 266 3 0) 266 4 (-1)) 266 5 0 266 4 = -1 := by rw [rx_u_k _ _ (by decide), rx_u_same]
  have h5 : rx_u (rx_u (rx_u mi 266 3 0) 266 4 (-1)) 266 5 0 266 5 = 0 := by rw [rx_u_same]
  refine ru_aload_n d_Wo_goToFirst_0 rfl rfl ?_
  refine ru_iconst (v := 0) d_Wo_goToFirst_1 (by decide) ?_
  refine ru_putI d_Wo_goToFirst_2 lf_Wo_23 (ly hL 266 7 0) rfl (fun q hq => by cases hq; exact Or.inl rfl) ⟨rfl, rfl⟩ ?_
  refine ru_aload_n d_Wo_goToFirst_5 rfl rfl ?_
  refine ru_iconst (v := (-1)) d_Wo_goToFirst_6 (by decide) ?_
  refine ru_putI d_Wo_goToFirst_7 lf_Wo_26 (ly hL 266 7 0) rfl (fun q hq => by cases hq; exact Or.inl rfl) ⟨rfl, rfl⟩ ?_
  refine ru_aload_n d_Wo_goToFirst_10 rfl rfl ?_
  refine ru_iconst (v := 0) d_Wo_goToFirst_11 (by decide) ?_
  refine ru_putI d_Wo_goToFirst_12 lf_Wo_29 (ly hL 266 7 0) rfl (fun q hq => by cases hq; exact Or.inl rfl) ⟨rfl, rfl⟩ ?_
  refine ru_aload_n d_Wo_goToFirst_15 rfl rfl ?_
  refine ru_callV (mc := 0) (ms := 0) d_Wo_goToFirst_16 lm_Wo_32 (sp_goOn hL h1 h.2.2 h3 (Nat.zero_le n)) (rx_recv_is (ly hL 266 7 0) kx_Wo) (by decide) rfl (Nat.le_of_ble_eq_true rfl) ?_
  intro v τ q
  obtain ⟨rfl, rfl⟩ := q
  rw [h4, h5, ht]
  refine ru_vret d_Wo_goToFirst_19 rfl ?_
  refine ⟨rfl, ?_⟩
  have l : (0 : Int32) + nI (nls n t (n - 0) 0) = nI (lnF t (sk n t (n - 0) 0)) := by rw [Int32.zero_add, ← lnF_nls]; show nI _ = nI (0 + _); rw [Nat.zero_add]
  have e : up4 (rx_u (rx_u (rx_u mi 266 3 0) 266 4 (-1)) 266 5 0) (nI (lnF t (sk n t (n - 0) 0))) (nI (sk n t (n - 0) 0)) (nI (wordEnd n t (sk n t (n - 0) 0))) (nI 0) = tkM mi n t 0 := up4_eq (fun r hr => by rw [rx_u_r _ _ hr, rx_u_r _ _ hr, rx_u_r _ _ hr]) (fun k k2 k3 k4 k5 => by rw [rx_u_k _ _ k5, rx_u_k _ _ k4, rx_u_k _ _ k3])
  rw [l, ← e]
  rfl
theorem cl_atEnd (hL : LAY nx ct mr) (h : TxC n t mi) : rx_Calls y_Wo_atEnd M_Wo_atEnd 0 0 0 [.ref 266] (nx, ct, tkM mi n t j, ml, mr) (fun v τ => v = some (.int (bI (tlen n t j = 0))) ∧ τ = (nx, ct, tkM mi n t j, ml, mr)) := by
  have z := sp_atEnd (mi := tkM mi n t j) (ml := ml) hL
  rw [tkM_2, tkM_3] at z
  have l := tk_le (n := n) (t := t) j
  have l2 := h.2.2
  rw [show tlen n t j = 0 ↔ nI (tk n t j).1 = nI (tk n t j).2 from ⟨fun q => by unfold tlen at q; rw [show (tk n t j).1 = (tk n t j).2 by omega], fun q => by have := nm_eq (by omega) (by omega) q; unfold tlen; omega⟩]
  exact z
theorem nm_dig2 {v : Nat} {c : Int32} (hc : isDig c) : nI (v * 10) + (c - 48) = nI (10 * v + (c.toInt - 48).toNat) := by
  rw [← nm_dig hc, Nat.mul_comm, Int32.sub_eq_add_neg, Int32.sub_eq_add_neg, Int32.add_assoc]
theorem cl_digits {a e : Nat} (hL : LAY nx ct mr) (ht : mi 267 = t) (he : e ≤ 3000) (hae : a ≤ e) (hd : ∀ i, a ≤ i → i < e → isDig (t i)) : rx_Calls y_Wo_digitsAsNumber M_Wo_digitsAsNumber 0 0 0 [.ref 266, .int (nI a), .int (nI e)] (nx, ct, mi, ml, mr) (fun v τ => v = some (.int (nI (dvF t (e - a) a 0))) ∧ τ = (nx, ct, mi, ml, mr)) := by
  refine rx_enter (by decide) rfl rfl (Nat.le_of_ble_eq_true rfl) ?_
  have loop : ∀ f i v, i ≤ e → a ≤ i → f = e - i → rx_W M_Wo_digitsAsNumber 0 0 0 5 [(0, .ref 266), (2, .int (nI e)), (3, .int (nI v)), (4, .int (nI i))] [] (nx, ct, mi, ml, mr) (pR (fun w τ => w = some (.int (nI (dvF t f i v))) ∧ τ = (nx, ct, mi, ml, mr))) := by
    intro f
    induction f with
    | zero =>
      intro i v hi hai hf
      refine ru_iload d_Wo_digitsAsNumber_5 rfl ?_
      refine ru_iload_n d_Wo_digitsAsNumber_7 rfl rfl ?_
      refine ru_icmp_ge (tgt := 33) d_Wo_digitsAsNumber_8 (by decide) (fun h8 => ?_) (fun h8 => absurd (nI_le (by omega) (by omega)) h8)
      replace h8 := nm_le (a := e) (b := i) (by omega) (by omega) h8
      refine ru_iload_n d_Wo_digitsAsNumber_33 rfl rfl ?_
      refine ru_iret d_Wo_digitsAsNumber_34 rfl ?_
      exact ⟨rfl, rfl⟩
    | succ f ih =>
      intro i v hi hai hf
      unfold dvF
      refine ru_iload d_Wo_digitsAsNumber_5 rfl ?_
      refine ru_iload_n d_Wo_digitsAsNumber_7 rfl rfl ?_
      refine ru_icmp_ge (tgt := 33) d_Wo_digitsAsNumber_8 (by decide) (fun h8 => absurd h8 (nI_ge (by omega) (by omega))) (fun h8 => ?_)
      replace h8 := nm_nle (a := e) (b := i) (by omega) (by omega) h8
      refine ru_iload_n d_Wo_digitsAsNumber_11 rfl rfl ?_
      refine ru_bipush (v := 10) d_Wo_digitsAsNumber_12 (by decide) ?_
      refine ru_imul d_Wo_digitsAsNumber_14 ?_
      refine ru_eqi (nm_mul v 10 : _ = nI (v * 10)) ?_
      refine ru_aload_n d_Wo_digitsAsNumber_15 rfl rfl ?_
      refine ru_getR d_Wo_digitsAsNumber_16 lf_Wo_9 (ly hL 266 7 0) rfl (lr hL 266 0 267) ?_
      refine ru_iload d_Wo_digitsAsNumber_19 rfl ?_
      refine ru_caldN (j := i) d_Wo_digitsAsNumber_21 (ly hL 267 101 3000) (by omega) (by decide) ?_
      rw [ht]
      refine ru_bipush (v := 48) d_Wo_digitsAsNumber_22 (by decide) ?_
      refine ru_isub d_Wo_digitsAsNumber_24 ?_
      refine ru_iadd d_Wo_digitsAsNumber_25 ?_
      refine ru_eqi (nm_dig2 (hd i hai (by omega))) ?_
      refine ru_istore_n d_Wo_digitsAsNumber_26 rfl (by decide) ?_
      refine ru_iinc (v := nI (i + 1)) d_Wo_digitsAsNumber_27 rfl (nm_inc _ 1) (by decide) ?_
      refine ru_goto (tgt := 5) d_Wo_digitsAsNumber_30 (by decide) ?_
      exact ru_to (ih (i + 1) _ (by omega) (by omega) (by omega)) ⟨rfl, rfl, rfl, rfl, trivial⟩
  refine ru_iconst (v := 0) d_Wo_digitsAsNumber_0 (by decide) ?_
  refine ru_istore_n d_Wo_digitsAsNumber_1 rfl (by decide) ?_
  refine ru_iload_n d_Wo_digitsAsNumber_2 rfl rfl ?_
  refine ru_istore d_Wo_digitsAsNumber_3 (by decide) ?_
  exact ru_to (loop (e - a) a 0 hae (by omega) rfl) ⟨rfl, rfl, rfl, rfl, trivial⟩
def nmd0 (N : nmS) (n : Nat) (t : Nat → Int32) (j k : Nat) : Prop := N.1 k = tlen n t j ∧ ∀ i, i < N.1 k → N.2 k i = t ((tk n t j).1 + i)
theorem cl_isNamed {N : nmS} {k : Nat} (hL : LAY nx ct mr) (h : TxC n t mi) (hN : NmC N mi) (hk : k < 48) : rx_Calls y_Na_isNamed M_Na_isNamed 0 0 0 [.ref 257, .int (nI k), .ref 266] (nx, ct, tkM mi n t j, ml, mr) (fun v τ => v = some (.int (bI (nmd0 N n t j k))) ∧ τ = (nx, ct, tkM mi n t j, ml, mr)) := by
  refine rx_enter (by decide) rfl rfl (Nat.le_of_ble_eq_true rfl) ?_
  have l := tk_le (n := n) (t := t) j
  have l2 := h.2.2
  obtain ⟨n1, n2, n3⟩ := hN k hk
  have n1' : tkM mi n t j 259 k = nI (N.1 k) := by rw [tkM_r]; exact n1
  have n3' : ∀ i, i < N.1 k → tkM mi n t j 258 (k * 8 + i) = N.2 k i := by rw [tkM_r]; exact n3
  have ht := (h.tk (j := j)).2.1
  have loop : ∀ f i, i ≤ N.1 k → N.1 k = tlen n t j → f = N.1 k - i → (∀ x, x < i → N.2 k x = t ((tk n t j).1 + x)) → rx_W M_Na_isNamed 0 0 0 25 [(0, .ref 257), (1, .int (nI k)), (2, .ref 266), (3, .int (nI (N.1 k))), (4, .int (nI i))] [] (nx, ct, tkM mi n t j, ml, mr) (pR (fun v τ => v = some (.int (bI (nmd0 N n t j k))) ∧ τ = (nx, ct, tkM mi n t j, ml, mr))) := by
    intro f
    induction f with
    | zero =>
      intro i hi hq hf hx
      rw [bI_t ⟨hq, fun x a => hx x (by omega)⟩]
      refine ru_iload d_Na_isNamed_25 rfl ?_
      refine ru_iload_n d_Na_isNamed_27 rfl rfl ?_
      refine ru_icmp_ge (tgt := 66) d_Na_isNamed_28 (by decide) (fun h28 => ?_) (fun h28 => absurd (nI_le (by omega) (by omega)) h28)
      replace h28 := nm_le (a := (N.1 k)) (b := i) (by omega) (by omega) h28
      refine ru_iconst (v := 1) d_Na_isNamed_66 (by decide) ?_
      refine ru_zret (ty := .boolean) d_Na_isNamed_67 rfl rfl ?_
      exact ⟨rfl, rfl⟩
    | succ f ih =>
      intro i hi hq hf hx
      have l3 : (tk n t j).1 + i < 3000 := by unfold tlen at hq; omega
      refine ru_iload d_Na_isNamed_25 rfl ?_
      refine ru_iload_n d_Na_isNamed_27 rfl rfl ?_
      refine ru_icmp_ge (tgt := 66) d_Na_isNamed_28 (by decide) (fun h28 => absurd h28 (nI_ge (by omega) (by omega))) (fun h28 => ?_)
      replace h28 := nm_nle (a := (N.1 k)) (b := i) (by omega) (by omega) h28
      refine ru_aload_n d_Na_isNamed_31 rfl rfl ?_
      refine ru_getR d_Na_isNamed_32 lf_Na_9 (ly hL 257 2 0) rfl (lr hL 257 0 258) ?_
      refine ru_iload_n d_Na_isNamed_35 rfl rfl ?_
      refine ru_bipush (v := 8) d_Na_isNamed_36 (by decide) ?_
      refine ru_imul d_Na_isNamed_38 ?_
      refine ru_eqi (nm_mul k 8 : _ = nI (k * 8)) ?_
      refine ru_iload d_Na_isNamed_39 rfl ?_
      refine ru_iadd d_Na_isNamed_41 ?_
      refine ru_eqi (nm_add (k * 8) i : _ = nI ((k * 8) + i)) ?_
      refine ru_caldN (j := ((k * 8) + i)) d_Na_isNamed_42 (ly hL 258 101 384) (by omega) (by decide) ?_
      rw [n3' i (by omega)]
      refine ru_aload_n d_Na_isNamed_43 rfl rfl ?_
      refine ru_getR d_Na_isNamed_44 lf_Na_44 (ly hL 266 7 0) rfl (lr hL 266 0 267) ?_
      refine ru_aload_n d_Na_isNamed_47 rfl rfl ?_
      refine ru_getI d_Na_isNamed_48 lf_Na_41 (ly hL 266 7 0) rfl ?_
      refine ru_eqi tkM_2 ?_
      refine ru_iload d_Na_isNamed_51 rfl ?_
      refine ru_iadd d_Na_isNamed_53 ?_
      refine ru_eqi (nm_add (tk n t j).1 i : _ = nI ((tk n t j).1 + i)) ?_
      refine ru_caldN (j := ((tk n t j).1 + i)) d_Na_isNamed_54 (ly hL 267 101 3000) (by omega) (by decide) ?_
      rw [ht]
      refine ru_icmp_eq (tgt := 60) d_Na_isNamed_55 (by decide) (fun h55 => ?_) (fun h55 => ?_)
      · skip
        refine ru_iinc (v := nI (i + 1)) d_Na_isNamed_60 rfl (nm_inc _ 1) (by decide) ?_
        refine ru_goto (tgt := 25) d_Na_isNamed_63 (by decide) ?_
        exact ru_to (ih (i + 1) (by omega) hq (by omega) (fun x a => if z : x = i then z ▸ h55 else hx x (by omega))) ⟨rfl, rfl, rfl, rfl, rfl, trivial⟩
      · skip
        refine ru_iconst (v := 0) d_Na_isNamed_58 (by decide) ?_
        refine ru_zret (ty := .boolean) d_Na_isNamed_59 rfl rfl ?_
        rw [bI_f (fun z => h55 (z.2 i (by omega)))]
        exact ⟨rfl, rfl⟩
  refine ru_aload_n d_Na_isNamed_0 rfl rfl ?_
  refine ru_getR d_Na_isNamed_1 lf_Na_15 (ly hL 257 2 0) rfl (lr hL 257 1 259) ?_
  refine ru_iload_n d_Na_isNamed_4 rfl rfl ?_
  refine ru_ialdN (j := k) d_Na_isNamed_5 (ly hL 259 100 48) (by omega) (by decide) ?_
  refine ru_eqi n1' ?_
  refine ru_istore_n d_Na_isNamed_6 rfl (by decide) ?_
  refine ru_iload_n d_Na_isNamed_7 rfl rfl ?_
  refine ru_aload_n d_Na_isNamed_8 rfl rfl ?_
  refine ru_getI d_Na_isNamed_9 lf_Na_37 (ly hL 266 7 0) rfl ?_
  refine ru_eqi tkM_3 ?_
  refine ru_aload_n d_Na_isNamed_12 rfl rfl ?_
  refine ru_getI d_Na_isNamed_13 lf_Na_41 (ly hL 266 7 0) rfl ?_
  refine ru_eqi tkM_2 ?_
  refine ru_isub d_Na_isNamed_16 ?_
  refine ru_eqi (nm_sub (a := (tk n t j).2) (b := (tk n t j).1) (by omega) : _ = nI ((tk n t j).2 - (tk n t j).1)) ?_
  refine ru_icmp_eq (tgt := 22) d_Na_isNamed_17 (by decide) (fun h17 => ?_) (fun h17 => ?_)
  · skip
    replace h17 := nm_eq (a := (N.1 k)) (b := ((tk n t j).2 - (tk n t j).1)) (by omega) (by omega) h17
    refine ru_iconst (v := 0) d_Na_isNamed_22 (by decide) ?_
    refine ru_istore d_Na_isNamed_23 (by decide) ?_
    exact ru_to (loop (N.1 k) 0 (by omega) h17 rfl (fun x a => by omega)) ⟨rfl, rfl, rfl, rfl, rfl, trivial⟩
  · skip
    replace h17 := nm_ne (a := (N.1 k)) (b := ((tk n t j).2 - (tk n t j).1)) (by omega) (by omega) h17
    refine ru_iconst (v := 0) d_Na_isNamed_20 (by decide) ?_
    refine ru_zret (ty := .boolean) d_Na_isNamed_21 rfl rfl ?_
    rw [bI_f (fun z => h17 z.1)]
    exact ⟨rfl, rfl⟩
theorem nthF_no {P : Nat → Prop} : ∀ f i c, (∀ x, i ≤ x → x < i + f → ¬ P x) → nthF P f i c = none
  | 0, _, _, _ => rfl
  | f + 1, i, c, h => by
    unfold nthF
    rw [if_neg (h i (by omega) (by omega))]
    exact nthF_no f (i + 1) c (fun x a b => h x (by omega) (by omega))
theorem cl_find {N : nmS} {a : Nat} (hL : LAY nx ct mr) (h : TxC n t mi) (hN : NmC N mi) (ha : a < 3) : rx_Calls y_Na_find M_Na_find 1 0 0 [.ref 257, .int (nI a), .ref 266] (nx, ct, tkM mi n t j, ml, mr) (fun v τ => v = some (.int (oR (fnd N n t j a))) ∧ τ = (nx, ct, tkM mi n t j, ml, mr)) := by
  refine rx_enter (by decide) rfl rfl (Nat.le_of_ble_eq_true rfl) ?_
  by_cases h0 : tlen n t j = 0
  · rw [show fnd N n t j a = none from nthF_no 16 0 0 (fun x _ _ z => by have := z.1.1; have := z.1.2; omega)]
    refine ru_aload_n d_Na_find_0 rfl rfl ?_
    refine ru_callV (mc := 0) (ms := 0) d_Na_find_1 lm_Na_23 (cl_atEnd hL h) (rx_recv_is (ly hL 266 7 0) kx_Wo) (by decide) rfl (Nat.le_of_ble_eq_true rfl) ?_
    intro v τ h
    obtain ⟨rfl, rfl⟩ := h
    refine ru_if_eq (tgt := 9) d_Na_find_4 (by decide) (fun h4 => absurd h4 (bI_ne0.mpr h0)) (fun h4 => ?_)
    refine ru_iconst (v := (-1)) d_Na_find_7 (by decide) ?_
    refine ru_iret d_Na_find_8 rfl ?_
    exact ⟨rfl, rfl⟩
  · have loop : ∀ f i, i ≤ 16 → f = 16 - i → rx_W M_Na_find 1 0 0 11 [(0, .ref 257), (1, .int (nI a)), (2, .ref 266), (3, .int (nI i))] [] (nx, ct, tkM mi n t j, ml, mr) (pR (fun v τ => v = some (.int (oR (nthF (fun x => nmd N n t j (16 * a + x)) f i 0))) ∧ τ = (nx, ct, tkM mi n t j, ml, mr))) := by
      intro f
      induction f with
      | zero =>
        intro i hi hf
        refine ru_iload_n d_Na_find_11 rfl rfl ?_
        refine ru_bipush (v := 16) d_Na_find_12 (by decide) ?_
        refine ru_icmp_ge (tgt := 38) d_Na_find_14 (by decide) (fun h14 => ?_) (fun h14 => absurd (nI_le (a := 16) (b := i) (by omega) (by omega)) h14)
        replace h14 := nm_le (a := 16) (b := i) (by omega) (by omega) h14
        refine ru_iconst (v := (-1)) d_Na_find_38 (by decide) ?_
        refine ru_iret d_Na_find_39 rfl ?_
        exact ⟨rfl, rfl⟩
      | succ f ih =>
        intro i hi hf
        unfold nthF
        have e : nmd0 N n t j (a * 16 + i) ↔ nmd N n t j (16 * a + i) := by
          rw [Nat.mul_comm a 16]
          exact ⟨fun z => ⟨⟨by have := z.1; omega, z.1⟩, z.2⟩, fun z => ⟨z.1.2, z.2⟩⟩
        refine ru_iload_n d_Na_find_11 rfl rfl ?_
        refine ru_bipush (v := 16) d_Na_find_12 (by decide) ?_
        refine ru_icmp_ge (tgt := 38) d_Na_find_14 (by decide) (fun h14 => absurd h14 (nI_ge (a := i) (b := 16) (by omega) (by decide))) (fun h14 => ?_)
        replace h14 := nm_nle (a := 16) (b := i) (by omega) (by omega) h14
        refine ru_aload_n d_Na_find_17 rfl rfl ?_
        refine ru_iload_n d_Na_find_18 rfl rfl ?_
        refine ru_iload_n d_Na_find_19 rfl rfl ?_
        refine ru_callS (mc := 0) (ms := 0) d_Na_find_20 lm_Na_29 (sp_slotOf _ _ _) (by decide) rfl (Nat.le_of_ble_eq_true rfl) ?_
        rintro v τ ⟨rfl, rfl⟩
        refine ru_eqi (show _ = nI (a * 16 + i) by rw [← nI_add, ← nm_mul]; rfl) ?_
        refine ru_aload_n d_Na_find_23 rfl rfl ?_
        refine ru_callV (mc := 0) (ms := 0) d_Na_find_24 lm_Na_33 (cl_isNamed hL h hN (by omega)) (rx_recv_is (ly hL 257 2 0) kx_Na) (by decide) rfl (Nat.le_of_ble_eq_true rfl) ?_
        intro v τ h
        obtain ⟨rfl, rfl⟩ := h
        refine ru_if_eq (tgt := 32) d_Na_find_27 (by decide) (fun h27 => ?_) (fun h27 => ?_)
        · skip
          replace h27 := bI_eq0.mp h27
          refine ru_iinc (v := nI (i + 1)) d_Na_find_32 rfl (nm_inc _ 1) (by decide) ?_
          refine ru_goto (tgt := 11) d_Na_find_35 (by decide) ?_
          rw [if_neg (fun z => h27 (e.mpr z))]
          exact ru_to (ih (i + 1) (by omega) (by omega)) ⟨rfl, rfl, rfl, rfl, trivial⟩
        · skip
          replace h27 := bI_ne0.mp h27
          refine ru_iload_n d_Na_find_30 rfl rfl ?_
          refine ru_iret d_Na_find_31 rfl ?_
          rw [if_pos (e.mp h27)]
          exact ⟨rfl, rfl⟩
    refine ru_aload_n d_Na_find_0 rfl rfl ?_
    refine ru_callV (mc := 0) (ms := 0) d_Na_find_1 lm_Na_23 (cl_atEnd hL h) (rx_recv_is (ly hL 266 7 0) kx_Wo) (by decide) rfl (Nat.le_of_ble_eq_true rfl) ?_
    intro v τ h
    obtain ⟨rfl, rfl⟩ := h
    refine ru_if_eq (tgt := 9) d_Na_find_4 (by decide) (fun h4 => ?_) (fun h4 => absurd (bI_f h0) h4)
    refine ru_iconst (v := 0) d_Na_find_9 (by decide) ?_
    refine ru_istore_n d_Na_find_10 rfl (by decide) ?_
    exact ru_to (loop 16 0 (by omega) rfl) ⟨rfl, rfl, rfl, rfl, trivial⟩
/-- a rule begun: its ints -/
def bgI (mi : Nat → Nat → Int32) (r : Nat) (l : Int32) : Nat → Nat → Int32 := rx_u (rx_u (rx_u (rx_u (rx_u (rx_u mi r 1 (-1)) r 2 (-1)) r 3 0) r 4 (-1)) r 5 0) r 8 l
def bgL (ml : Nat → Nat → Int64) (r : Nat) : Nat → Nat → Int64 := rx_u (rx_u ml r 6 (-1)) r 7 (-1)
theorem cl_begin {r κ : Nat} {l : Int32} (hL : LAY nx ct mr) (hr : isRu r) : rx_Calls y_Ru_begin M_Ru_begin 0 0 0 [.ref r, .ref (1 + κ), .int l] (nx, ct, mi, ml, mr) (fun v τ => v = none ∧ τ = (nx, ct, bgI mi r l, bgL ml r, rx_u mr r 0 (some (1 + κ)))) := by
  refine rx_enter (by decide) rfl rfl (Nat.le_of_ble_eq_true rfl) ?_
  have hL2 := hL.ru (k := 0) (some (1 + κ)) hr
  refine ru_aload_n d_Ru_begin_0 rfl rfl ?_
  refine ru_aload_n d_Ru_begin_1 rfl rfl ?_
  refine ru_putR (a := some (1 + κ)) d_Ru_begin_2 lf_Ru_15 (ly_ru hL hr) rfl (fun q hq => by cases hq; exact Or.inl rfl) ?_
  refine ru_aload_n d_Ru_begin_5 rfl rfl ?_
  refine ru_iconst (v := (-1)) d_Ru_begin_6 (by decide) ?_
  refine ru_putI d_Ru_begin_7 lf_Ru_20 (ly_ru hL hr) rfl (fun q hq => by cases hq; exact Or.inl rfl) ⟨rfl, rfl⟩ ?_
  refine ru_aload_n d_Ru_begin_10 rfl rfl ?_
  refine ru_iconst (v := (-1)) d_Ru_begin_11 (by decide) ?_
  refine ru_putI d_Ru_begin_12 lf_Ru_24 (ly_ru hL hr) rfl (fun q hq => by cases hq; exact Or.inl rfl) ⟨rfl, rfl⟩ ?_
  refine ru_aload_n d_Ru_begin_15 rfl rfl ?_
  refine ru_iconst (v := 0) d_Ru_begin_16 (by decide) ?_
  refine ru_putI d_Ru_begin_17 lf_Ru_27 (ly_ru hL hr) rfl (fun q hq => by cases hq; exact Or.inl rfl) ⟨rfl, rfl⟩ ?_
  refine ru_aload_n d_Ru_begin_20 rfl rfl ?_
  refine ru_iconst (v := (-1)) d_Ru_begin_21 (by decide) ?_
  refine ru_putI d_Ru_begin_22 lf_Ru_30 (ly_ru hL hr) rfl (fun q hq => by cases hq; exact Or.inl rfl) ⟨rfl, rfl⟩ ?_
  refine ru_aload_n d_Ru_begin_25 rfl rfl ?_
  refine ru_iconst (v := 0) d_Ru_begin_26 (by decide) ?_
  refine ru_putI d_Ru_begin_27 lf_Ru_33 (ly_ru hL hr) rfl (fun q hq => by cases hq; exact Or.inl rfl) ⟨rfl, rfl⟩ ?_
  refine ru_aload_n d_Ru_begin_30 rfl rfl ?_
  refine ru_ldc2 d_Ru_begin_31 lc_Ru_36 ?_
  refine ru_putL d_Ru_begin_34 lf_Ru_38 (ly_ru hL hr) rfl (fun q hq => by cases hq; exact Or.inl rfl) ?_
  refine ru_aload_n d_Ru_begin_37 rfl rfl ?_
  refine ru_ldc2 d_Ru_begin_38 lc_Ru_36 ?_
  refine ru_putL d_Ru_begin_41 lf_Ru_42 (ly_ru hL hr) rfl (fun q hq => by cases hq; exact Or.inl rfl) ?_
  refine ru_aload_n d_Ru_begin_44 rfl rfl ?_
  refine ru_iload_n d_Ru_begin_45 rfl rfl ?_
  refine ru_putI d_Ru_begin_46 lf_Ru_45 (ly_ru hL hr) rfl (fun q hq => by cases hq; exact Or.inl rfl) ⟨rfl, rfl⟩ ?_
  refine ru_vret d_Ru_begin_49 rfl ?_
  exact ⟨rfl, rfl⟩
end
