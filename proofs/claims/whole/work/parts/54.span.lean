/-! The class reads: a rule's value -/
theorem d_Rd_readSpan_0 : decode M_Rd_readSpan.2.1 0 = .ok (.aload_n 1, 1) := by decide +kernel
theorem d_Rd_readSpan_1 : decode M_Rd_readSpan.2.1 1 = .ok (.getfield 183, 3) := by decide +kernel
theorem d_Rd_readSpan_4 : decode M_Rd_readSpan.2.1 4 = .ok (.getfield 187, 3) := by decide +kernel
theorem d_Rd_readSpan_7 : decode M_Rd_readSpan.2.1 7 = .ok (.istore_n 2, 1) := by decide +kernel
theorem d_Rd_readSpan_8 : decode M_Rd_readSpan.2.1 8 = .ok (.aload_n 0, 1) := by decide +kernel
theorem d_Rd_readSpan_9 : decode M_Rd_readSpan.2.1 9 = .ok (.ldc 191, 2) := by decide +kernel
theorem d_Rd_readSpan_11 : decode M_Rd_readSpan.2.1 11 = .ok (.invokevirtual 94, 3) := by decide +kernel
theorem d_Rd_readSpan_14 : decode M_Rd_readSpan.2.1 14 = .ok (.istore_n 3, 1) := by decide +kernel
theorem d_Rd_readSpan_15 : decode M_Rd_readSpan.2.1 15 = .ok (.iload_n 3, 1) := by decide +kernel
theorem d_Rd_readSpan_16 : decode M_Rd_readSpan.2.1 16 = .ok (.ifCond .ne 16, 3) := by decide +kernel
theorem d_Rd_readSpan_19 : decode M_Rd_readSpan.2.1 19 = .ok (.aload_n 0, 1) := by decide +kernel
theorem d_Rd_readSpan_20 : decode M_Rd_readSpan.2.1 20 = .ok (.ldc 193, 2) := by decide +kernel
theorem d_Rd_readSpan_22 : decode M_Rd_readSpan.2.1 22 = .ok (.invokevirtual 94, 3) := by decide +kernel
theorem d_Rd_readSpan_25 : decode M_Rd_readSpan.2.1 25 = .ok (.ifCond .eq 7, 3) := by decide +kernel
theorem d_Rd_readSpan_28 : decode M_Rd_readSpan.2.1 28 = .ok (.iconst 1, 1) := by decide +kernel
theorem d_Rd_readSpan_29 : decode M_Rd_readSpan.2.1 29 = .ok (.goto 4, 3) := by decide +kernel
theorem d_Rd_readSpan_32 : decode M_Rd_readSpan.2.1 32 = .ok (.iconst 0, 1) := by decide +kernel
theorem d_Rd_readSpan_33 : decode M_Rd_readSpan.2.1 33 = .ok (.istore 4, 2) := by decide +kernel
theorem d_Rd_readSpan_35 : decode M_Rd_readSpan.2.1 35 = .ok (.aload_n 0, 1) := by decide +kernel
theorem d_Rd_readSpan_36 : decode M_Rd_readSpan.2.1 36 = .ok (.aload_n 0, 1) := by decide +kernel
theorem d_Rd_readSpan_37 : decode M_Rd_readSpan.2.1 37 = .ok (.getfield 12, 3) := by decide +kernel
theorem d_Rd_readSpan_40 : decode M_Rd_readSpan.2.1 40 = .ok (.iload_n 2, 1) := by decide +kernel
theorem d_Rd_readSpan_41 : decode M_Rd_readSpan.2.1 41 = .ok (.invokevirtual 195, 3) := by decide +kernel
theorem d_Rd_readSpan_44 : decode M_Rd_readSpan.2.1 44 = .ok (.ifCond .ne 5, 3) := by decide +kernel
theorem d_Rd_readSpan_47 : decode M_Rd_readSpan.2.1 47 = .ok (.iconst 0, 1) := by decide +kernel
theorem d_Rd_readSpan_48 : decode M_Rd_readSpan.2.1 48 = .ok (.ireturn, 1) := by decide +kernel
theorem d_Rd_readSpan_49 : decode M_Rd_readSpan.2.1 49 = .ok (.iload_n 3, 1) := by decide +kernel
theorem d_Rd_readSpan_50 : decode M_Rd_readSpan.2.1 50 = .ok (.ifCond .ne 21, 3) := by decide +kernel
theorem d_Rd_readSpan_53 : decode M_Rd_readSpan.2.1 53 = .ok (.iload 4, 2) := by decide +kernel
theorem d_Rd_readSpan_55 : decode M_Rd_readSpan.2.1 55 = .ok (.ifCond .ne 16, 3) := by decide +kernel
theorem d_Rd_readSpan_58 : decode M_Rd_readSpan.2.1 58 = .ok (.aload_n 0, 1) := by decide +kernel
theorem d_Rd_readSpan_59 : decode M_Rd_readSpan.2.1 59 = .ok (.ldc 199, 2) := by decide +kernel
theorem d_Rd_readSpan_61 : decode M_Rd_readSpan.2.1 61 = .ok (.invokevirtual 94, 3) := by decide +kernel
theorem d_Rd_readSpan_64 : decode M_Rd_readSpan.2.1 64 = .ok (.ifCond .eq 7, 3) := by decide +kernel
theorem d_Rd_readSpan_67 : decode M_Rd_readSpan.2.1 67 = .ok (.iconst 1, 1) := by decide +kernel
theorem d_Rd_readSpan_68 : decode M_Rd_readSpan.2.1 68 = .ok (.goto 4, 3) := by decide +kernel
theorem d_Rd_readSpan_71 : decode M_Rd_readSpan.2.1 71 = .ok (.iconst 0, 1) := by decide +kernel
theorem d_Rd_readSpan_72 : decode M_Rd_readSpan.2.1 72 = .ok (.istore 5, 2) := by decide +kernel
theorem d_Rd_readSpan_74 : decode M_Rd_readSpan.2.1 74 = .ok (.iload 5, 2) := by decide +kernel
theorem d_Rd_readSpan_76 : decode M_Rd_readSpan.2.1 76 = .ok (.ifCond .eq 17, 3) := by decide +kernel
theorem d_Rd_readSpan_79 : decode M_Rd_readSpan.2.1 79 = .ok (.aload_n 0, 1) := by decide +kernel
theorem d_Rd_readSpan_80 : decode M_Rd_readSpan.2.1 80 = .ok (.aload_n 0, 1) := by decide +kernel
theorem d_Rd_readSpan_81 : decode M_Rd_readSpan.2.1 81 = .ok (.getfield 18, 3) := by decide +kernel
theorem d_Rd_readSpan_84 : decode M_Rd_readSpan.2.1 84 = .ok (.iload_n 2, 1) := by decide +kernel
theorem d_Rd_readSpan_85 : decode M_Rd_readSpan.2.1 85 = .ok (.invokevirtual 195, 3) := by decide +kernel
theorem d_Rd_readSpan_88 : decode M_Rd_readSpan.2.1 88 = .ok (.ifCond .ne 5, 3) := by decide +kernel
theorem d_Rd_readSpan_91 : decode M_Rd_readSpan.2.1 91 = .ok (.iconst 0, 1) := by decide +kernel
theorem d_Rd_readSpan_92 : decode M_Rd_readSpan.2.1 92 = .ok (.ireturn, 1) := by decide +kernel
theorem d_Rd_readSpan_93 : decode M_Rd_readSpan.2.1 93 = .ok (.iload_n 2, 1) := by decide +kernel
theorem d_Rd_readSpan_94 : decode M_Rd_readSpan.2.1 94 = .ok (.ifCond .ne 14, 3) := by decide +kernel
theorem d_Rd_readSpan_97 : decode M_Rd_readSpan.2.1 97 = .ok (.aload_n 0, 1) := by decide +kernel
theorem d_Rd_readSpan_98 : decode M_Rd_readSpan.2.1 98 = .ok (.iload 5, 2) := by decide +kernel
theorem d_Rd_readSpan_100 : decode M_Rd_readSpan.2.1 100 = .ok (.invokevirtual 201, 3) := by decide +kernel
theorem d_Rd_readSpan_103 : decode M_Rd_readSpan.2.1 103 = .ok (.ifCond .ne 5, 3) := by decide +kernel
theorem d_Rd_readSpan_106 : decode M_Rd_readSpan.2.1 106 = .ok (.iconst 0, 1) := by decide +kernel
theorem d_Rd_readSpan_107 : decode M_Rd_readSpan.2.1 107 = .ok (.ireturn, 1) := by decide +kernel
theorem d_Rd_readSpan_108 : decode M_Rd_readSpan.2.1 108 = .ok (.iload 5, 2) := by decide +kernel
theorem d_Rd_readSpan_110 : decode M_Rd_readSpan.2.1 110 = .ok (.ifCond .eq 30, 3) := by decide +kernel
theorem d_Rd_readSpan_113 : decode M_Rd_readSpan.2.1 113 = .ok (.aload_n 0, 1) := by decide +kernel
theorem d_Rd_readSpan_114 : decode M_Rd_readSpan.2.1 114 = .ok (.getfield 18, 3) := by decide +kernel
theorem d_Rd_readSpan_117 : decode M_Rd_readSpan.2.1 117 = .ok (.getfield 205, 3) := by decide +kernel
theorem d_Rd_readSpan_120 : decode M_Rd_readSpan.2.1 120 = .ok (.aload_n 0, 1) := by decide +kernel
theorem d_Rd_readSpan_121 : decode M_Rd_readSpan.2.1 121 = .ok (.getfield 12, 3) := by decide +kernel
theorem d_Rd_readSpan_124 : decode M_Rd_readSpan.2.1 124 = .ok (.getfield 205, 3) := by decide +kernel
theorem d_Rd_readSpan_127 : decode M_Rd_readSpan.2.1 127 = .ok (.lcmp, 1) := by decide +kernel
theorem d_Rd_readSpan_128 : decode M_Rd_readSpan.2.1 128 = .ok (.ifCond .ge 12, 3) := by decide +kernel
theorem d_Rd_readSpan_131 : decode M_Rd_readSpan.2.1 131 = .ok (.aload_n 0, 1) := by decide +kernel
theorem d_Rd_readSpan_132 : decode M_Rd_readSpan.2.1 132 = .ok (.aload_n 0, 1) := by decide +kernel
theorem d_Rd_readSpan_133 : decode M_Rd_readSpan.2.1 133 = .ok (.getfield 18, 3) := by decide +kernel
theorem d_Rd_readSpan_136 : decode M_Rd_readSpan.2.1 136 = .ok (.invokevirtual 209, 3) := by decide +kernel
theorem d_Rd_readSpan_139 : decode M_Rd_readSpan.2.1 139 = .ok (.ireturn, 1) := by decide +kernel
theorem d_Rd_readSpan_140 : decode M_Rd_readSpan.2.1 140 = .ok (.aload_n 1, 1) := by decide +kernel
theorem d_Rd_readSpan_141 : decode M_Rd_readSpan.2.1 141 = .ok (.iload 4, 2) := by decide +kernel
theorem d_Rd_readSpan_143 : decode M_Rd_readSpan.2.1 143 = .ok (.ifCond .eq 9, 3) := by decide +kernel
theorem d_Rd_readSpan_146 : decode M_Rd_readSpan.2.1 146 = .ok (.ldc2_w 213, 3) := by decide +kernel
theorem d_Rd_readSpan_149 : decode M_Rd_readSpan.2.1 149 = .ok (.goto 10, 3) := by decide +kernel
theorem d_Rd_readSpan_152 : decode M_Rd_readSpan.2.1 152 = .ok (.aload_n 0, 1) := by decide +kernel
theorem d_Rd_readSpan_153 : decode M_Rd_readSpan.2.1 153 = .ok (.getfield 12, 3) := by decide +kernel
theorem d_Rd_readSpan_156 : decode M_Rd_readSpan.2.1 156 = .ok (.getfield 205, 3) := by decide +kernel
theorem d_Rd_readSpan_159 : decode M_Rd_readSpan.2.1 159 = .ok (.putfield 215, 3) := by decide +kernel
theorem d_Rd_readSpan_162 : decode M_Rd_readSpan.2.1 162 = .ok (.aload_n 1, 1) := by decide +kernel
theorem d_Rd_readSpan_163 : decode M_Rd_readSpan.2.1 163 = .ok (.iload_n 3, 1) := by decide +kernel
theorem d_Rd_readSpan_164 : decode M_Rd_readSpan.2.1 164 = .ok (.ifCond .eq 9, 3) := by decide +kernel
theorem d_Rd_readSpan_167 : decode M_Rd_readSpan.2.1 167 = .ok (.ldc2_w 213, 3) := by decide +kernel
theorem d_Rd_readSpan_170 : decode M_Rd_readSpan.2.1 170 = .ok (.goto 25, 3) := by decide +kernel
theorem d_Rd_readSpan_173 : decode M_Rd_readSpan.2.1 173 = .ok (.iload 5, 2) := by decide +kernel
theorem d_Rd_readSpan_175 : decode M_Rd_readSpan.2.1 175 = .ok (.ifCond .eq 13, 3) := by decide +kernel
theorem d_Rd_readSpan_178 : decode M_Rd_readSpan.2.1 178 = .ok (.aload_n 0, 1) := by decide +kernel
theorem d_Rd_readSpan_179 : decode M_Rd_readSpan.2.1 179 = .ok (.getfield 18, 3) := by decide +kernel
theorem d_Rd_readSpan_182 : decode M_Rd_readSpan.2.1 182 = .ok (.getfield 205, 3) := by decide +kernel
theorem d_Rd_readSpan_185 : decode M_Rd_readSpan.2.1 185 = .ok (.goto 10, 3) := by decide +kernel
theorem d_Rd_readSpan_188 : decode M_Rd_readSpan.2.1 188 = .ok (.aload_n 0, 1) := by decide +kernel
theorem d_Rd_readSpan_189 : decode M_Rd_readSpan.2.1 189 = .ok (.getfield 12, 3) := by decide +kernel
theorem d_Rd_readSpan_192 : decode M_Rd_readSpan.2.1 192 = .ok (.getfield 205, 3) := by decide +kernel
theorem d_Rd_readSpan_195 : decode M_Rd_readSpan.2.1 195 = .ok (.putfield 217, 3) := by decide +kernel
theorem d_Rd_readSpan_198 : decode M_Rd_readSpan.2.1 198 = .ok (.iconst 1, 1) := by decide +kernel
theorem d_Rd_readSpan_199 : decode M_Rd_readSpan.2.1 199 = .ok (.ireturn, 1) := by decide +kernel
theorem kc_bI {κ : Nat} (h : κ < 13) : rx_kc κ = bI (κ = 5 ∨ κ = 9) := by
  by_cases c : κ = 5 ∨ κ = 9
  · rw [bI_t c]
    rcases c with rfl | rfl <;> rfl
  · rw [bI_f c]
    have z : ∀ κ, κ < 13 → ¬ (κ = 5 ∨ κ = 9) → rx_kc κ = 0 := by decide
    exact z κ h c
section
variable {nx : Nat} {ct : Nat → Nat × Nat} {mi mi' mA : Nat → Nat → Int32} {ml ml' mlA : Nat → Nat → Int64} {mr : Nat → Nat → Option Nat} {n j j1 w i r A κ : Nat} {t : Nat → Int32} {N : nmS} {c : Prop} {qa qb : Nat × Nat}
/-- a value read: its ends go to rule r -/
def veP (r nx : Nat) (ct : Nat → Nat × Nat) (mA : Nat → Nat → Int32) (mlA : Nat → Nat → Int64) (mr : Nat → Nat → Option Nat) (n : Nat) (t : Nat → Int32) (f : Nat × Nat → Option Nat × Option Nat) (q : Nat ⊕ ((Nat × Nat) × Nat)) : Option Value → rx_S → Prop := fun v τ => match q with
  | .inl k => flP r k nx ct mA mlA mr v τ
  | .inr (e, w) => v = some (.int 1) ∧ ∃ mlB, τ = (nx, ct, tkM mA n t w, mlB, mr) ∧ (∀ x, x ≠ 269 → x ≠ 270 → x ≠ r → mlB x = mlA x) ∧ mlB r 6 = oL (f e).1 ∧ mlB r 7 = oL (f e).2
theorem veP_ok {m1 m2 : Int64} {mlX : Nat → Nat → Int64} {f : Nat × Nat → Option Nat × Option Nat} {e : Nat × Nat} (hX : ∀ x, x ≠ 269 → x ≠ 270 → x ≠ r → mlX x = mlA x) (h6 : m1 = oL (f e).1) (h7 : m2 = oL (f e).2) : veP r nx ct mA mlA mr n t f (.inr (e, w)) (some (.int 1)) (nx, ct, tkM mA n t w, rx_u (rx_u mlX r 6 m1) r 7 m2, mr) := by
  refine ⟨rfl, _, rfl, fun x a b d => ?_, ?_, ?_⟩
  · rw [rx_u_r _ _ d, rx_u_r _ _ d]; exact hX x a b d
  · rw [rx_u_k _ _ (by decide), rx_u_same]; exact h6
  · rw [rx_u_same]; exact h7
def fLe (q : Nat × Nat) : Option Nat × Option Nat := (some q.1, none)
def fMo (q : Nat × Nat) : Option Nat × Option Nat := (none, some q.2)
def fBo (q : Nat × Nat) : Option Nat × Option Nat := (some q.1, some q.2)
theorem cl_endLe (hL : LAY nx ct mr) (h : RdOK N n t mA) (hr : isRu r) (hm0 : mA 269 0 = nI j1) (ha : mlA 269 1 = Int64.ofNat qa.1 ∧ mlA 269 2 = Int64.ofNat qa.2) (hq : qa.1 < 1000000000 ∧ qa.2 < 1000000) (hc3 : c → mlA 269 3 = Int64.ofNat qa.1) : rx_W M_Rd_readSpan 8 0 0 93 [(0, .ref 268), (1, .ref r), (2, .int (bI c)), (3, .int (nI 1)), (4, .int (nI 0)), (5, .int (nI 0))] [] (nx, ct, tkM mA n t w, mlA, mr) (pR (veP r nx ct mA mlA mr n t fLe (pEnds n t c j1 qa none w))) := by
  unfold pEnds
  by_cases hc : c
  · rw [cnd_t hc]
    refine ru_iload_n d_Rd_readSpan_93 rfl rfl ?_
    refine ru_if_ne (tgt := 108) d_Rd_readSpan_94 (by decide) (fun h94 => ?_) (fun h94 => absurd h94 (bI_ne0.mpr hc))
    refine ru_iload d_Rd_readSpan_108 rfl ?_
    refine ru_if_eq (tgt := 140) d_Rd_readSpan_110 (by decide) (fun h110 => ?_) (fun h110 => absurd h110 (by decide))
    refine ru_aload_n d_Rd_readSpan_140 rfl rfl ?_
    refine ru_iload d_Rd_readSpan_141 rfl ?_
    refine ru_if_eq (tgt := 152) d_Rd_readSpan_143 (by decide) (fun h143 => ?_) (fun h143 => absurd h143 (by decide))
    refine ru_aload_n d_Rd_readSpan_152 rfl rfl ?_
    refine ru_getR d_Rd_readSpan_153 lf_Rd_12 (ly hL 268 3 0) rfl (lr hL 268 2 269) ?_
    refine ru_getL d_Rd_readSpan_156 lf_Rd_205 (ly hL 269 1 0) rfl ?_
    refine ru_eql (hc3 hc) ?_
    refine ru_putL d_Rd_readSpan_159 lf_Rd_215 (ly_ru hL hr) rfl (fun q hq => by cases hq; exact Or.inl rfl) ?_
    refine ru_aload_n d_Rd_readSpan_162 rfl rfl ?_
    refine ru_iload_n d_Rd_readSpan_163 rfl rfl ?_
    refine ru_if_eq (tgt := 173) d_Rd_readSpan_164 (by decide) (fun h164 => absurd h164 (by decide)) (fun h164 => ?_)
    refine ru_ldc2 d_Rd_readSpan_167 lc_Rd_213 ?_
    refine ru_goto (tgt := 195) d_Rd_readSpan_170 (by decide) ?_
    refine ru_putL d_Rd_readSpan_195 lf_Rd_217 (ly_ru hL hr) rfl (fun q hq => by cases hq; exact Or.inl rfl) ?_
    refine ru_iconst (v := 1) d_Rd_readSpan_198 (by decide) ?_
    refine ru_zret (ty := .boolean) d_Rd_readSpan_199 rfl rfl ?_
    exact veP_ok (fun _ _ _ _ => rfl) rfl rfl
  · rw [cnd_f hc]
    cases e : unt n t w with
    | none =>
      refine ru_iload_n d_Rd_readSpan_93 rfl rfl ?_
      refine ru_if_ne (tgt := 108) d_Rd_readSpan_94 (by decide) (fun h94 => absurd (bI_f hc) h94) (fun h94 => ?_)
      refine ru_aload_n d_Rd_readSpan_97 rfl rfl ?_
      refine ru_iload d_Rd_readSpan_98 rfl ?_
      refine ru_callV (mc := 0) (ms := 0) d_Rd_readSpan_100 lm_Rd_201 (cl_readUnit1 (r := r) hL h hm0 ha hq) (rx_recv_is (ly hL 268 3 0) kx_Rd) (by decide) rfl (Nat.le_of_ble_eq_true rfl) ?_
      rw [e]
      rintro v τ ⟨rfl, a, b, rfl, hf, hw⟩
      refine ru_if_ne (tgt := 108) d_Rd_readSpan_103 (by decide) (fun h103 => absurd h103 (by decide)) (fun h103 => ?_)
      refine ru_iconst (v := 0) d_Rd_readSpan_106 (by decide) ?_
      refine ru_zret (ty := .boolean) d_Rd_readSpan_107 rfl rfl ?_
      exact ⟨rfl, a, b, rfl, hf, hw⟩
    | some u =>
      cases ec : cvt qa (unN u) 1000000000000 with
      | none =>
        simp only [ec]
        refine ru_iload_n d_Rd_readSpan_93 rfl rfl ?_
        refine ru_if_ne (tgt := 108) d_Rd_readSpan_94 (by decide) (fun h94 => absurd (bI_f hc) h94) (fun h94 => ?_)
        refine ru_aload_n d_Rd_readSpan_97 rfl rfl ?_
        refine ru_iload d_Rd_readSpan_98 rfl ?_
        refine ru_callV (mc := 0) (ms := 0) d_Rd_readSpan_100 lm_Rd_201 (cl_readUnit1 (r := r) hL h hm0 ha hq) (rx_recv_is (ly hL 268 3 0) kx_Rd) (by decide) rfl (Nat.le_of_ble_eq_true rfl) ?_
        simp only [e, ec]
        rintro v τ ⟨rfl, a, b, rfl, hf, hw⟩
        refine ru_if_ne (tgt := 108) d_Rd_readSpan_103 (by decide) (fun h103 => absurd h103 (by decide)) (fun h103 => ?_)
        refine ru_iconst (v := 0) d_Rd_readSpan_106 (by decide) ?_
        refine ru_zret (ty := .boolean) d_Rd_readSpan_107 rfl rfl ?_
        exact ⟨rfl, a, b, rfl, hf, hw⟩
      | some x =>
        simp only [ec]
        have hx := (cvt_some ec).2.1
        refine ru_iload_n d_Rd_readSpan_93 rfl rfl ?_
        refine ru_if_ne (tgt := 108) d_Rd_readSpan_94 (by decide) (fun h94 => absurd (bI_f hc) h94) (fun h94 => ?_)
        refine ru_aload_n d_Rd_readSpan_97 rfl rfl ?_
        refine ru_iload d_Rd_readSpan_98 rfl ?_
        refine ru_callV (mc := 0) (ms := 0) d_Rd_readSpan_100 lm_Rd_201 (cl_readUnit1 (r := r) hL h hm0 ha hq) (rx_recv_is (ly hL 268 3 0) kx_Rd) (by decide) rfl (Nat.le_of_ble_eq_true rfl) ?_
        simp only [e, ec]
        rintro v τ ⟨rfl, rfl⟩
        refine ru_if_ne (tgt := 108) d_Rd_readSpan_103 (by decide) (fun h103 => ?_) (fun h103 => absurd h103 (by decide))
        refine ru_iload d_Rd_readSpan_108 rfl ?_
        refine ru_if_eq (tgt := 140) d_Rd_readSpan_110 (by decide) (fun h110 => ?_) (fun h110 => absurd h110 (by decide))
        refine ru_aload_n d_Rd_readSpan_140 rfl rfl ?_
        refine ru_iload d_Rd_readSpan_141 rfl ?_
        refine ru_if_eq (tgt := 152) d_Rd_readSpan_143 (by decide) (fun h143 => ?_) (fun h143 => absurd h143 (by decide))
        refine ru_aload_n d_Rd_readSpan_152 rfl rfl ?_
        refine ru_getR d_Rd_readSpan_153 lf_Rd_12 (ly hL 268 3 0) rfl (lr hL 268 2 269) ?_
        refine ru_getL d_Rd_readSpan_156 lf_Rd_205 (ly hL 269 1 0) rfl ?_
        refine ru_eql (rx_u_same _ _ _ _) ?_
        refine ru_putL d_Rd_readSpan_159 lf_Rd_215 (ly_ru hL hr) rfl (fun q hq => by cases hq; exact Or.inl rfl) ?_
        refine ru_aload_n d_Rd_readSpan_162 rfl rfl ?_
        refine ru_iload_n d_Rd_readSpan_163 rfl rfl ?_
        refine ru_if_eq (tgt := 173) d_Rd_readSpan_164 (by decide) (fun h164 => absurd h164 (by decide)) (fun h164 => ?_)
        refine ru_ldc2 d_Rd_readSpan_167 lc_Rd_213 ?_
        refine ru_goto (tgt := 195) d_Rd_readSpan_170 (by decide) ?_
        refine ru_putL d_Rd_readSpan_195 lf_Rd_217 (ly_ru hL hr) rfl (fun q hq => by cases hq; exact Or.inl rfl) ?_
        refine ru_iconst (v := 1) d_Rd_readSpan_198 (by decide) ?_
        refine ru_zret (ty := .boolean) d_Rd_readSpan_199 rfl rfl ?_
        exact veP_ok (fun x a b d => rx_u_r _ _ a) rfl rfl
theorem cl_endMo (hL : LAY nx ct mr) (h : RdOK N n t mA) (hr : isRu r) (hm0 : mA 269 0 = nI j1) (ha : mlA 269 1 = Int64.ofNat qa.1 ∧ mlA 269 2 = Int64.ofNat qa.2) (hq : qa.1 < 1000000000 ∧ qa.2 < 1000000) (hc3 : c → mlA 269 3 = Int64.ofNat qa.1) : rx_W M_Rd_readSpan 8 0 0 93 [(0, .ref 268), (1, .ref r), (2, .int (bI c)), (3, .int (nI 0)), (4, .int (nI 1)), (5, .int (nI 0))] [] (nx, ct, tkM mA n t w, mlA, mr) (pR (veP r nx ct mA mlA mr n t fMo (pEnds n t c j1 qa none w))) := by
  unfold pEnds
  by_cases hc : c
  · rw [cnd_t hc]
    refine ru_iload_n d_Rd_readSpan_93 rfl rfl ?_
    refine ru_if_ne (tgt := 108) d_Rd_readSpan_94 (by decide) (fun h94 => ?_) (fun h94 => absurd h94 (bI_ne0.mpr hc))
    refine ru_iload d_Rd_readSpan_108 rfl ?_
    refine ru_if_eq (tgt := 140) d_Rd_readSpan_110 (by decide) (fun h110 => ?_) (fun h110 => absurd h110 (by decide))
    refine ru_aload_n d_Rd_readSpan_140 rfl rfl ?_
    refine ru_iload d_Rd_readSpan_141 rfl ?_
    refine ru_if_eq (tgt := 152) d_Rd_readSpan_143 (by decide) (fun h143 => absurd h143 (by decide)) (fun h143 => ?_)
    refine ru_ldc2 d_Rd_readSpan_146 lc_Rd_213 ?_
    refine ru_goto (tgt := 159) d_Rd_readSpan_149 (by decide) ?_
    refine ru_putL d_Rd_readSpan_159 lf_Rd_215 (ly_ru hL hr) rfl (fun q hq => by cases hq; exact Or.inl rfl) ?_
    refine ru_aload_n d_Rd_readSpan_162 rfl rfl ?_
    refine ru_iload_n d_Rd_readSpan_163 rfl rfl ?_
    refine ru_if_eq (tgt := 173) d_Rd_readSpan_164 (by decide) (fun h164 => ?_) (fun h164 => absurd h164 (by decide))
    refine ru_iload d_Rd_readSpan_173 rfl ?_
    refine ru_if_eq (tgt := 188) d_Rd_readSpan_175 (by decide) (fun h175 => ?_) (fun h175 => absurd h175 (by decide))
    refine ru_aload_n d_Rd_readSpan_188 rfl rfl ?_
    refine ru_getR d_Rd_readSpan_189 lf_Rd_12 (ly hL 268 3 0) rfl (lr hL 268 2 269) ?_
    refine ru_getL d_Rd_readSpan_192 lf_Rd_205 (ly hL 269 1 0) rfl ?_
    rw [rx_u_r _ _ (by have := isRu_ne hr; omega)]
    refine ru_eql (hc3 hc) ?_
    refine ru_putL d_Rd_readSpan_195 lf_Rd_217 (ly_ru hL hr) rfl (fun q hq => by cases hq; exact Or.inl rfl) ?_
    refine ru_iconst (v := 1) d_Rd_readSpan_198 (by decide) ?_
    refine ru_zret (ty := .boolean) d_Rd_readSpan_199 rfl rfl ?_
    exact veP_ok (fun _ _ _ _ => rfl) rfl rfl
  · rw [cnd_f hc]
    cases e : unt n t w with
    | none =>
      refine ru_iload_n d_Rd_readSpan_93 rfl rfl ?_
      refine ru_if_ne (tgt := 108) d_Rd_readSpan_94 (by decide) (fun h94 => absurd (bI_f hc) h94) (fun h94 => ?_)
      refine ru_aload_n d_Rd_readSpan_97 rfl rfl ?_
      refine ru_iload d_Rd_readSpan_98 rfl ?_
      refine ru_callV (mc := 0) (ms := 0) d_Rd_readSpan_100 lm_Rd_201 (cl_readUnit1 (r := r) hL h hm0 ha hq) (rx_recv_is (ly hL 268 3 0) kx_Rd) (by decide) rfl (Nat.le_of_ble_eq_true rfl) ?_
      rw [e]
      rintro v τ ⟨rfl, a, b, rfl, hf, hw⟩
      refine ru_if_ne (tgt := 108) d_Rd_readSpan_103 (by decide) (fun h103 => absurd h103 (by decide)) (fun h103 => ?_)
      refine ru_iconst (v := 0) d_Rd_readSpan_106 (by decide) ?_
      refine ru_zret (ty := .boolean) d_Rd_readSpan_107 rfl rfl ?_
      exact ⟨rfl, a, b, rfl, hf, hw⟩
    | some u =>
      cases ec : cvt qa (unN u) 1000000000000 with
      | none =>
        simp only [ec]
        refine ru_iload_n d_Rd_readSpan_93 rfl rfl ?_
        refine ru_if_ne (tgt := 108) d_Rd_readSpan_94 (by decide) (fun h94 => absurd (bI_f hc) h94) (fun h94 => ?_)
        refine ru_aload_n d_Rd_readSpan_97 rfl rfl ?_
        refine ru_iload d_Rd_readSpan_98 rfl ?_
        refine ru_callV (mc := 0) (ms := 0) d_Rd_readSpan_100 lm_Rd_201 (cl_readUnit1 (r := r) hL h hm0 ha hq) (rx_recv_is (ly hL 268 3 0) kx_Rd) (by decide) rfl (Nat.le_of_ble_eq_true rfl) ?_
        simp only [e, ec]
        rintro v τ ⟨rfl, a, b, rfl, hf, hw⟩
        refine ru_if_ne (tgt := 108) d_Rd_readSpan_103 (by decide) (fun h103 => absurd h103 (by decide)) (fun h103 => ?_)
        refine ru_iconst (v := 0) d_Rd_readSpan_106 (by decide) ?_
        refine ru_zret (ty := .boolean) d_Rd_readSpan_107 rfl rfl ?_
        exact ⟨rfl, a, b, rfl, hf, hw⟩
      | some x =>
        simp only [ec]
        have hx := (cvt_some ec).2.1
        refine ru_iload_n d_Rd_readSpan_93 rfl rfl ?_
        refine ru_if_ne (tgt := 108) d_Rd_readSpan_94 (by decide) (fun h94 => absurd (bI_f hc) h94) (fun h94 => ?_)
        refine ru_aload_n d_Rd_readSpan_97 rfl rfl ?_
        refine ru_iload d_Rd_readSpan_98 rfl ?_
        refine ru_callV (mc := 0) (ms := 0) d_Rd_readSpan_100 lm_Rd_201 (cl_readUnit1 (r := r) hL h hm0 ha hq) (rx_recv_is (ly hL 268 3 0) kx_Rd) (by decide) rfl (Nat.le_of_ble_eq_true rfl) ?_
        simp only [e, ec]
        rintro v τ ⟨rfl, rfl⟩
        refine ru_if_ne (tgt := 108) d_Rd_readSpan_103 (by decide) (fun h103 => ?_) (fun h103 => absurd h103 (by decide))
        refine ru_iload d_Rd_readSpan_108 rfl ?_
        refine ru_if_eq (tgt := 140) d_Rd_readSpan_110 (by decide) (fun h110 => ?_) (fun h110 => absurd h110 (by decide))
        refine ru_aload_n d_Rd_readSpan_140 rfl rfl ?_
        refine ru_iload d_Rd_readSpan_141 rfl ?_
        refine ru_if_eq (tgt := 152) d_Rd_readSpan_143 (by decide) (fun h143 => absurd h143 (by decide)) (fun h143 => ?_)
        refine ru_ldc2 d_Rd_readSpan_146 lc_Rd_213 ?_
        refine ru_goto (tgt := 159) d_Rd_readSpan_149 (by decide) ?_
        refine ru_putL d_Rd_readSpan_159 lf_Rd_215 (ly_ru hL hr) rfl (fun q hq => by cases hq; exact Or.inl rfl) ?_
        refine ru_aload_n d_Rd_readSpan_162 rfl rfl ?_
        refine ru_iload_n d_Rd_readSpan_163 rfl rfl ?_
        refine ru_if_eq (tgt := 173) d_Rd_readSpan_164 (by decide) (fun h164 => ?_) (fun h164 => absurd h164 (by decide))
        refine ru_iload d_Rd_readSpan_173 rfl ?_
        refine ru_if_eq (tgt := 188) d_Rd_readSpan_175 (by decide) (fun h175 => ?_) (fun h175 => absurd h175 (by decide))
        refine ru_aload_n d_Rd_readSpan_188 rfl rfl ?_
        refine ru_getR d_Rd_readSpan_189 lf_Rd_12 (ly hL 268 3 0) rfl (lr hL 268 2 269) ?_
        refine ru_getL d_Rd_readSpan_192 lf_Rd_205 (ly hL 269 1 0) rfl ?_
        rw [rx_u_r _ _ (by have := isRu_ne hr; omega)]
        refine ru_eql (rx_u_same _ _ _ _) ?_
        refine ru_putL d_Rd_readSpan_195 lf_Rd_217 (ly_ru hL hr) rfl (fun q hq => by cases hq; exact Or.inl rfl) ?_
        refine ru_iconst (v := 1) d_Rd_readSpan_198 (by decide) ?_
        refine ru_zret (ty := .boolean) d_Rd_readSpan_199 rfl rfl ?_
        exact veP_ok (fun x a b d => rx_u_r _ _ a) rfl rfl
theorem cl_endBo (hL : LAY nx ct mr) (h : RdOK N n t mA) (hr : isRu r) (hm0 : mA 269 0 = nI j1) (ha : mlA 269 1 = Int64.ofNat qa.1 ∧ mlA 269 2 = Int64.ofNat qa.2) (hq : qa.1 < 1000000000 ∧ qa.2 < 1000000) (hc3 : c → mlA 269 3 = Int64.ofNat qa.1) : rx_W M_Rd_readSpan 8 0 0 93 [(0, .ref 268), (1, .ref r), (2, .int (bI c)), (3, .int (nI 0)), (4, .int (nI 0)), (5, .int (nI 0))] [] (nx, ct, tkM mA n t w, mlA, mr) (pR (veP r nx ct mA mlA mr n t fBo (pEnds n t c j1 qa none w))) := by
  unfold pEnds
  by_cases hc : c
  · rw [cnd_t hc]
    refine ru_iload_n d_Rd_readSpan_93 rfl rfl ?_
    refine ru_if_ne (tgt := 108) d_Rd_readSpan_94 (by decide) (fun h94 => ?_) (fun h94 => absurd h94 (bI_ne0.mpr hc))
    refine ru_iload d_Rd_readSpan_108 rfl ?_
    refine ru_if_eq (tgt := 140) d_Rd_readSpan_110 (by decide) (fun h110 => ?_) (fun h110 => absurd h110 (by decide))
    refine ru_aload_n d_Rd_readSpan_140 rfl rfl ?_
    refine ru_iload d_Rd_readSpan_141 rfl ?_
    refine ru_if_eq (tgt := 152) d_Rd_readSpan_143 (by decide) (fun h143 => ?_) (fun h143 => absurd h143 (by decide))
    refine ru_aload_n d_Rd_readSpan_152 rfl rfl ?_
    refine ru_getR d_Rd_readSpan_153 lf_Rd_12 (ly hL 268 3 0) rfl (lr hL 268 2 269) ?_
    refine ru_getL d_Rd_readSpan_156 lf_Rd_205 (ly hL 269 1 0) rfl ?_
    refine ru_eql (hc3 hc) ?_
    refine ru_putL d_Rd_readSpan_159 lf_Rd_215 (ly_ru hL hr) rfl (fun q hq => by cases hq; exact Or.inl rfl) ?_
    refine ru_aload_n d_Rd_readSpan_162 rfl rfl ?_
    refine ru_iload_n d_Rd_readSpan_163 rfl rfl ?_
    refine ru_if_eq (tgt := 173) d_Rd_readSpan_164 (by decide) (fun h164 => ?_) (fun h164 => absurd h164 (by decide))
    refine ru_iload d_Rd_readSpan_173 rfl ?_
    refine ru_if_eq (tgt := 188) d_Rd_readSpan_175 (by decide) (fun h175 => ?_) (fun h175 => absurd h175 (by decide))
    refine ru_aload_n d_Rd_readSpan_188 rfl rfl ?_
    refine ru_getR d_Rd_readSpan_189 lf_Rd_12 (ly hL 268 3 0) rfl (lr hL 268 2 269) ?_
    refine ru_getL d_Rd_readSpan_192 lf_Rd_205 (ly hL 269 1 0) rfl ?_
    rw [rx_u_r _ _ (by have := isRu_ne hr; omega)]
    refine ru_eql (hc3 hc) ?_
    refine ru_putL d_Rd_readSpan_195 lf_Rd_217 (ly_ru hL hr) rfl (fun q hq => by cases hq; exact Or.inl rfl) ?_
    refine ru_iconst (v := 1) d_Rd_readSpan_198 (by decide) ?_
    refine ru_zret (ty := .boolean) d_Rd_readSpan_199 rfl rfl ?_
    exact veP_ok (fun _ _ _ _ => rfl) rfl rfl
  · rw [cnd_f hc]
    cases e : unt n t w with
    | none =>
      refine ru_iload_n d_Rd_readSpan_93 rfl rfl ?_
      refine ru_if_ne (tgt := 108) d_Rd_readSpan_94 (by decide) (fun h94 => absurd (bI_f hc) h94) (fun h94 => ?_)
      refine ru_aload_n d_Rd_readSpan_97 rfl rfl ?_
      refine ru_iload d_Rd_readSpan_98 rfl ?_
      refine ru_callV (mc := 0) (ms := 0) d_Rd_readSpan_100 lm_Rd_201 (cl_readUnit1 (r := r) hL h hm0 ha hq) (rx_recv_is (ly hL 268 3 0) kx_Rd) (by decide) rfl (Nat.le_of_ble_eq_true rfl) ?_
      rw [e]
      rintro v τ ⟨rfl, a, b, rfl, hf, hw⟩
      refine ru_if_ne (tgt := 108) d_Rd_readSpan_103 (by decide) (fun h103 => absurd h103 (by decide)) (fun h103 => ?_)
      refine ru_iconst (v := 0) d_Rd_readSpan_106 (by decide) ?_
      refine ru_zret (ty := .boolean) d_Rd_readSpan_107 rfl rfl ?_
      exact ⟨rfl, a, b, rfl, hf, hw⟩
    | some u =>
      cases ec : cvt qa (unN u) 1000000000000 with
      | none =>
        simp only [ec]
        refine ru_iload_n d_Rd_readSpan_93 rfl rfl ?_
        refine ru_if_ne (tgt := 108) d_Rd_readSpan_94 (by decide) (fun h94 => absurd (bI_f hc) h94) (fun h94 => ?_)
        refine ru_aload_n d_Rd_readSpan_97 rfl rfl ?_
        refine ru_iload d_Rd_readSpan_98 rfl ?_
        refine ru_callV (mc := 0) (ms := 0) d_Rd_readSpan_100 lm_Rd_201 (cl_readUnit1 (r := r) hL h hm0 ha hq) (rx_recv_is (ly hL 268 3 0) kx_Rd) (by decide) rfl (Nat.le_of_ble_eq_true rfl) ?_
        simp only [e, ec]
        rintro v τ ⟨rfl, a, b, rfl, hf, hw⟩
        refine ru_if_ne (tgt := 108) d_Rd_readSpan_103 (by decide) (fun h103 => absurd h103 (by decide)) (fun h103 => ?_)
        refine ru_iconst (v := 0) d_Rd_readSpan_106 (by decide) ?_
        refine ru_zret (ty := .boolean) d_Rd_readSpan_107 rfl rfl ?_
        exact ⟨rfl, a, b, rfl, hf, hw⟩
      | some x =>
        simp only [ec]
        have hx := (cvt_some ec).2.1
        refine ru_iload_n d_Rd_readSpan_93 rfl rfl ?_
        refine ru_if_ne (tgt := 108) d_Rd_readSpan_94 (by decide) (fun h94 => absurd (bI_f hc) h94) (fun h94 => ?_)
        refine ru_aload_n d_Rd_readSpan_97 rfl rfl ?_
        refine ru_iload d_Rd_readSpan_98 rfl ?_
        refine ru_callV (mc := 0) (ms := 0) d_Rd_readSpan_100 lm_Rd_201 (cl_readUnit1 (r := r) hL h hm0 ha hq) (rx_recv_is (ly hL 268 3 0) kx_Rd) (by decide) rfl (Nat.le_of_ble_eq_true rfl) ?_
        simp only [e, ec]
        rintro v τ ⟨rfl, rfl⟩
        refine ru_if_ne (tgt := 108) d_Rd_readSpan_103 (by decide) (fun h103 => ?_) (fun h103 => absurd h103 (by decide))
        refine ru_iload d_Rd_readSpan_108 rfl ?_
        refine ru_if_eq (tgt := 140) d_Rd_readSpan_110 (by decide) (fun h110 => ?_) (fun h110 => absurd h110 (by decide))
        refine ru_aload_n d_Rd_readSpan_140 rfl rfl ?_
        refine ru_iload d_Rd_readSpan_141 rfl ?_
        refine ru_if_eq (tgt := 152) d_Rd_readSpan_143 (by decide) (fun h143 => ?_) (fun h143 => absurd h143 (by decide))
        refine ru_aload_n d_Rd_readSpan_152 rfl rfl ?_
        refine ru_getR d_Rd_readSpan_153 lf_Rd_12 (ly hL 268 3 0) rfl (lr hL 268 2 269) ?_
        refine ru_getL d_Rd_readSpan_156 lf_Rd_205 (ly hL 269 1 0) rfl ?_
        refine ru_eql (rx_u_same _ _ _ _) ?_
        refine ru_putL d_Rd_readSpan_159 lf_Rd_215 (ly_ru hL hr) rfl (fun q hq => by cases hq; exact Or.inl rfl) ?_
        refine ru_aload_n d_Rd_readSpan_162 rfl rfl ?_
        refine ru_iload_n d_Rd_readSpan_163 rfl rfl ?_
        refine ru_if_eq (tgt := 173) d_Rd_readSpan_164 (by decide) (fun h164 => ?_) (fun h164 => absurd h164 (by decide))
        refine ru_iload d_Rd_readSpan_173 rfl ?_
        refine ru_if_eq (tgt := 188) d_Rd_readSpan_175 (by decide) (fun h175 => ?_) (fun h175 => absurd h175 (by decide))
        refine ru_aload_n d_Rd_readSpan_188 rfl rfl ?_
        refine ru_getR d_Rd_readSpan_189 lf_Rd_12 (ly hL 268 3 0) rfl (lr hL 268 2 269) ?_
        refine ru_getL d_Rd_readSpan_192 lf_Rd_205 (ly hL 269 1 0) rfl ?_
        rw [rx_u_r _ _ (by have := isRu_ne hr; omega)]
        refine ru_eql (rx_u_same _ _ _ _) ?_
        refine ru_putL d_Rd_readSpan_195 lf_Rd_217 (ly_ru hL hr) rfl (fun q hq => by cases hq; exact Or.inl rfl) ?_
        refine ru_iconst (v := 1) d_Rd_readSpan_198 (by decide) ?_
        refine ru_zret (ty := .boolean) d_Rd_readSpan_199 rfl rfl ?_
        exact veP_ok (fun x a b d => rx_u_r _ _ a) rfl rfl
theorem cl_endTw (hL : LAY nx ct mr) (h : RdOK N n t mA) (hr : isRu r) (hm0 : mA 269 0 = nI j1) (ha : mlA 269 1 = Int64.ofNat qa.1 ∧ mlA 269 2 = Int64.ofNat qa.2) (hq : qa.1 < 1000000000 ∧ qa.2 < 1000000) (hc3 : c → mlA 269 3 = Int64.ofNat qa.1) (hb0 : mA 270 0 = nI (j1 + 2)) (hb : mlA 270 1 = Int64.ofNat qb.1 ∧ mlA 270 2 = Int64.ofNat qb.2) (hqb : qb.1 < 1000000000 ∧ qb.2 < 1000000) (hcb : c → mlA 270 3 = Int64.ofNat qb.1) : rx_W M_Rd_readSpan 8 0 0 93 [(0, .ref 268), (1, .ref r), (2, .int (bI c)), (3, .int (nI 0)), (4, .int (nI 0)), (5, .int (nI 1))] [] (nx, ct, tkM mA n t w, mlA, mr) (pR (veP r nx ct mA mlA mr n t fBo (pEnds n t c j1 qa (some qb) w))) := by
  have b0 : tkM mA n t w 270 0 = nI (j1 + 2) := by rw [tkM_r]; exact hb0
  unfold pEnds
  by_cases hc : c
  · rw [cnd_t hc]
    show rx_W _ _ _ _ _ _ _ _ (pR (veP r nx ct mA mlA mr n t fBo (if qb.1 < qa.1 then .inl (j1 + 2) else .inr ((qa.1, qb.1), w))))
    refine ru_iload_n d_Rd_readSpan_93 rfl rfl ?_
    refine ru_if_ne (tgt := 108) d_Rd_readSpan_94 (by decide) (fun h94 => ?_) (fun h94 => absurd h94 (bI_ne0.mpr hc))
    refine ru_iload d_Rd_readSpan_108 rfl ?_
    refine ru_if_eq (tgt := 140) d_Rd_readSpan_110 (by decide) (fun h110 => absurd h110 (by decide)) (fun h110 => ?_)
    refine ru_aload_n d_Rd_readSpan_113 rfl rfl ?_
    refine ru_getR d_Rd_readSpan_114 lf_Rd_18 (ly hL 268 3 0) rfl (lr hL 268 3 270) ?_
    refine ru_getL d_Rd_readSpan_117 lf_Rd_205 (ly hL 270 1 0) rfl ?_
    refine ru_eql (hcb hc) ?_
    refine ru_aload_n d_Rd_readSpan_120 rfl rfl ?_
    refine ru_getR d_Rd_readSpan_121 lf_Rd_12 (ly hL 268 3 0) rfl (lr hL 268 2 269) ?_
    refine ru_getL d_Rd_readSpan_124 lf_Rd_205 (ly hL 269 1 0) rfl ?_
    refine ru_eql (hc3 hc) ?_
    refine ru_lcmp d_Rd_readSpan_127 ?_
    refine ru_if_ge (tgt := 140) d_Rd_readSpan_128 (by decide) (fun h128 => ?_) (fun h128 => ?_)
    · skip
      replace h128 := (lg_cmp_ge _ _).mp h128
      replace h128 := nl_le (a := qa.1) (b := qb.1) (by omega) (by omega) h128
      rw [if_neg (by omega)]
      refine ru_aload_n d_Rd_readSpan_140 rfl rfl ?_
      refine ru_iload d_Rd_readSpan_141 rfl ?_
      refine ru_if_eq (tgt := 152) d_Rd_readSpan_143 (by decide) (fun h143 => ?_) (fun h143 => absurd h143 (by decide))
      refine ru_aload_n d_Rd_readSpan_152 rfl rfl ?_
      refine ru_getR d_Rd_readSpan_153 lf_Rd_12 (ly hL 268 3 0) rfl (lr hL 268 2 269) ?_
      refine ru_getL d_Rd_readSpan_156 lf_Rd_205 (ly hL 269 1 0) rfl ?_
      refine ru_eql (hc3 hc) ?_
      refine ru_putL d_Rd_readSpan_159 lf_Rd_215 (ly_ru hL hr) rfl (fun q hq => by cases hq; exact Or.inl rfl) ?_
      refine ru_aload_n d_Rd_readSpan_162 rfl rfl ?_
      refine ru_iload_n d_Rd_readSpan_163 rfl rfl ?_
      refine ru_if_eq (tgt := 173) d_Rd_readSpan_164 (by decide) (fun h164 => ?_) (fun h164 => absurd h164 (by decide))
      refine ru_iload d_Rd_readSpan_173 rfl ?_
      refine ru_if_eq (tgt := 188) d_Rd_readSpan_175 (by decide) (fun h175 => absurd h175 (by decide)) (fun h175 => ?_)
      refine ru_aload_n d_Rd_readSpan_178 rfl rfl ?_
      refine ru_getR d_Rd_readSpan_179 lf_Rd_18 (ly hL 268 3 0) rfl (lr hL 268 3 270) ?_
      refine ru_getL d_Rd_readSpan_182 lf_Rd_205 (ly hL 270 1 0) rfl ?_
      rw [rx_u_r _ _ (by have := isRu_ne hr; omega)]
      refine ru_eql (hcb hc) ?_
      refine ru_goto (tgt := 195) d_Rd_readSpan_185 (by decide) ?_
      refine ru_putL d_Rd_readSpan_195 lf_Rd_217 (ly_ru hL hr) rfl (fun q hq => by cases hq; exact Or.inl rfl) ?_
      refine ru_iconst (v := 1) d_Rd_readSpan_198 (by decide) ?_
      refine ru_zret (ty := .boolean) d_Rd_readSpan_199 rfl rfl ?_
      exact veP_ok (fun _ _ _ _ => rfl) rfl rfl
    · skip
      replace h128 := fun q => h128 ((lg_cmp_ge _ _).mpr q)
      replace h128 := nl_nle (a := qa.1) (b := qb.1) (by omega) (by omega) h128
      rw [if_pos (by omega)]
      refine ru_aload_n d_Rd_readSpan_131 rfl rfl ?_
      refine ru_aload_n d_Rd_readSpan_132 rfl rfl ?_
      refine ru_getR d_Rd_readSpan_133 lf_Rd_18 (ly hL 268 3 0) rfl (lr hL 268 3 270) ?_
      refine ru_callV (mc := 0) (ms := 0) d_Rd_readSpan_136 lm_Rd_209 (cl_blame hL (Or.inr rfl)) (rx_recv_is (ly hL 268 3 0) kx_Rd) (by decide) rfl (Nat.le_of_ble_eq_true rfl) ?_
      rintro v τ ⟨rfl, rfl⟩
      rw [b0]
      refine ru_zret (ty := .boolean) d_Rd_readSpan_139 rfl rfl ?_
      exact fl_blame (RF.tk rfl)
  · rw [cnd_f hc]
    cases e : unt n t w with
    | none =>
      refine ru_iload_n d_Rd_readSpan_93 rfl rfl ?_
      refine ru_if_ne (tgt := 108) d_Rd_readSpan_94 (by decide) (fun h94 => absurd (bI_f hc) h94) (fun h94 => ?_)
      refine ru_aload_n d_Rd_readSpan_97 rfl rfl ?_
      refine ru_iload d_Rd_readSpan_98 rfl ?_
      refine ru_callV (mc := 0) (ms := 0) d_Rd_readSpan_100 lm_Rd_201 (cl_readUnit2 (r := r) hL h hm0 hb0 ha hq hb hqb) (rx_recv_is (ly hL 268 3 0) kx_Rd) (by decide) rfl (Nat.le_of_ble_eq_true rfl) ?_
      rw [e]
      rintro v τ ⟨rfl, a, b, rfl, hf, hw⟩
      refine ru_if_ne (tgt := 108) d_Rd_readSpan_103 (by decide) (fun h103 => absurd h103 (by decide)) (fun h103 => ?_)
      refine ru_iconst (v := 0) d_Rd_readSpan_106 (by decide) ?_
      refine ru_zret (ty := .boolean) d_Rd_readSpan_107 rfl rfl ?_
      exact ⟨rfl, a, b, rfl, hf, hw⟩
    | some u =>
      cases ec : cvt qa (unN u) 1000000000000 with
      | none =>
        simp only [ec]
        refine ru_iload_n d_Rd_readSpan_93 rfl rfl ?_
        refine ru_if_ne (tgt := 108) d_Rd_readSpan_94 (by decide) (fun h94 => absurd (bI_f hc) h94) (fun h94 => ?_)
        refine ru_aload_n d_Rd_readSpan_97 rfl rfl ?_
        refine ru_iload d_Rd_readSpan_98 rfl ?_
        refine ru_callV (mc := 0) (ms := 0) d_Rd_readSpan_100 lm_Rd_201 (cl_readUnit2 (r := r) hL h hm0 hb0 ha hq hb hqb) (rx_recv_is (ly hL 268 3 0) kx_Rd) (by decide) rfl (Nat.le_of_ble_eq_true rfl) ?_
        simp only [e, ec]
        rintro v τ ⟨rfl, a, b, rfl, hf, hw⟩
        refine ru_if_ne (tgt := 108) d_Rd_readSpan_103 (by decide) (fun h103 => absurd h103 (by decide)) (fun h103 => ?_)
        refine ru_iconst (v := 0) d_Rd_readSpan_106 (by decide) ?_
        refine ru_zret (ty := .boolean) d_Rd_readSpan_107 rfl rfl ?_
        exact ⟨rfl, a, b, rfl, hf, hw⟩
      | some x =>
        have hx := (cvt_some ec).2.1
        cases ed : cvt qb (unN u) 1000000000000 with
        | none =>
          simp only [ec, ed]
          refine ru_iload_n d_Rd_readSpan_93 rfl rfl ?_
          refine ru_if_ne (tgt := 108) d_Rd_readSpan_94 (by decide) (fun h94 => absurd (bI_f hc) h94) (fun h94 => ?_)
          refine ru_aload_n d_Rd_readSpan_97 rfl rfl ?_
          refine ru_iload d_Rd_readSpan_98 rfl ?_
          refine ru_callV (mc := 0) (ms := 0) d_Rd_readSpan_100 lm_Rd_201 (cl_readUnit2 (r := r) hL h hm0 hb0 ha hq hb hqb) (rx_recv_is (ly hL 268 3 0) kx_Rd) (by decide) rfl (Nat.le_of_ble_eq_true rfl) ?_
          simp only [e, ec, ed]
          rintro v τ ⟨rfl, a, b, rfl, hf, hw⟩
          refine ru_if_ne (tgt := 108) d_Rd_readSpan_103 (by decide) (fun h103 => absurd h103 (by decide)) (fun h103 => ?_)
          refine ru_iconst (v := 0) d_Rd_readSpan_106 (by decide) ?_
          refine ru_zret (ty := .boolean) d_Rd_readSpan_107 rfl rfl ?_
          exact ⟨rfl, a, b, rfl, hf, hw⟩
        | some y =>
          simp only [ec, ed]
          have hy := (cvt_some ed).2.1
          have b0' : tkM mA n t (w + 1) 270 0 = nI (j1 + 2) := by rw [tkM_r]; exact hb0
          refine ru_iload_n d_Rd_readSpan_93 rfl rfl ?_
          refine ru_if_ne (tgt := 108) d_Rd_readSpan_94 (by decide) (fun h94 => absurd (bI_f hc) h94) (fun h94 => ?_)
          refine ru_aload_n d_Rd_readSpan_97 rfl rfl ?_
          refine ru_iload d_Rd_readSpan_98 rfl ?_
          refine ru_callV (mc := 0) (ms := 0) d_Rd_readSpan_100 lm_Rd_201 (cl_readUnit2 (r := r) hL h hm0 hb0 ha hq hb hqb) (rx_recv_is (ly hL 268 3 0) kx_Rd) (by decide) rfl (Nat.le_of_ble_eq_true rfl) ?_
          simp only [e, ec, ed]
          rintro v τ ⟨rfl, rfl⟩
          refine ru_if_ne (tgt := 108) d_Rd_readSpan_103 (by decide) (fun h103 => ?_) (fun h103 => absurd h103 (by decide))
          refine ru_iload d_Rd_readSpan_108 rfl ?_
          refine ru_if_eq (tgt := 140) d_Rd_readSpan_110 (by decide) (fun h110 => absurd h110 (by decide)) (fun h110 => ?_)
          refine ru_aload_n d_Rd_readSpan_113 rfl rfl ?_
          refine ru_getR d_Rd_readSpan_114 lf_Rd_18 (ly hL 268 3 0) rfl (lr hL 268 3 270) ?_
          refine ru_getL d_Rd_readSpan_117 lf_Rd_205 (ly hL 270 1 0) rfl ?_
          refine ru_eql (rx_u_same _ _ _ _) ?_
          refine ru_aload_n d_Rd_readSpan_120 rfl rfl ?_
          refine ru_getR d_Rd_readSpan_121 lf_Rd_12 (ly hL 268 3 0) rfl (lr hL 268 2 269) ?_
          refine ru_getL d_Rd_readSpan_124 lf_Rd_205 (ly hL 269 1 0) rfl ?_
          refine ru_eql (by rw [rx_u_r _ _ (by decide), rx_u_same]) ?_
          refine ru_lcmp d_Rd_readSpan_127 ?_
          refine ru_if_ge (tgt := 140) d_Rd_readSpan_128 (by decide) (fun h128 => ?_) (fun h128 => ?_)
          · skip
            replace h128 := (lg_cmp_ge _ _).mp h128
            replace h128 := nl_le (a := x) (b := y) (by omega) (by omega) h128
            rw [if_neg (by omega)]
            refine ru_aload_n d_Rd_readSpan_140 rfl rfl ?_
            refine ru_iload d_Rd_readSpan_141 rfl ?_
            refine ru_if_eq (tgt := 152) d_Rd_readSpan_143 (by decide) (fun h143 => ?_) (fun h143 => absurd h143 (by decide))
            refine ru_aload_n d_Rd_readSpan_152 rfl rfl ?_
            refine ru_getR d_Rd_readSpan_153 lf_Rd_12 (ly hL 268 3 0) rfl (lr hL 268 2 269) ?_
            refine ru_getL d_Rd_readSpan_156 lf_Rd_205 (ly hL 269 1 0) rfl ?_
            refine ru_eql (by rw [rx_u_r _ _ (by decide), rx_u_same]) ?_
            refine ru_putL d_Rd_readSpan_159 lf_Rd_215 (ly_ru hL hr) rfl (fun q hq => by cases hq; exact Or.inl rfl) ?_
            refine ru_aload_n d_Rd_readSpan_162 rfl rfl ?_
            refine ru_iload_n d_Rd_readSpan_163 rfl rfl ?_
            refine ru_if_eq (tgt := 173) d_Rd_readSpan_164 (by decide) (fun h164 => ?_) (fun h164 => absurd h164 (by decide))
            refine ru_iload d_Rd_readSpan_173 rfl ?_
            refine ru_if_eq (tgt := 188) d_Rd_readSpan_175 (by decide) (fun h175 => absurd h175 (by decide)) (fun h175 => ?_)
            refine ru_aload_n d_Rd_readSpan_178 rfl rfl ?_
            refine ru_getR d_Rd_readSpan_179 lf_Rd_18 (ly hL 268 3 0) rfl (lr hL 268 3 270) ?_
            refine ru_getL d_Rd_readSpan_182 lf_Rd_205 (ly hL 270 1 0) rfl ?_
            rw [rx_u_r _ _ (by have := isRu_ne hr; omega)]
            refine ru_eql (rx_u_same _ _ _ _) ?_
            refine ru_goto (tgt := 195) d_Rd_readSpan_185 (by decide) ?_
            refine ru_putL d_Rd_readSpan_195 lf_Rd_217 (ly_ru hL hr) rfl (fun q hq => by cases hq; exact Or.inl rfl) ?_
            refine ru_iconst (v := 1) d_Rd_readSpan_198 (by decide) ?_
            refine ru_zret (ty := .boolean) d_Rd_readSpan_199 rfl rfl ?_
            exact veP_ok (fun x a b d => by rw [rx_u_r _ _ b, rx_u_r _ _ a]) rfl rfl
          · skip
            replace h128 := fun q => h128 ((lg_cmp_ge _ _).mpr q)
            replace h128 := nl_nle (a := x) (b := y) (by omega) (by omega) h128
            rw [if_pos (by omega)]
            refine ru_aload_n d_Rd_readSpan_131 rfl rfl ?_
            refine ru_aload_n d_Rd_readSpan_132 rfl rfl ?_
            refine ru_getR d_Rd_readSpan_133 lf_Rd_18 (ly hL 268 3 0) rfl (lr hL 268 3 270) ?_
            refine ru_callV (mc := 0) (ms := 0) d_Rd_readSpan_136 lm_Rd_209 (cl_blame hL (Or.inr rfl)) (rx_recv_is (ly hL 268 3 0) kx_Rd) (by decide) rfl (Nat.le_of_ble_eq_true rfl) ?_
            rintro v τ ⟨rfl, rfl⟩
            rw [b0']
            refine ru_zret (ty := .boolean) d_Rd_readSpan_139 rfl rfl ?_
            exact fl_blame (((RF.tk rfl).l (isAm_rd (Or.inl rfl))).l (isAm_rd (Or.inr rfl)))
end
