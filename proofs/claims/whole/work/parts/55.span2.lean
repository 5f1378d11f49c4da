/-! The class reads: a rule's value, from its words on -/
section
variable {nx : Nat} {ct : Nat → Nat × Nat} {mi mi' mA : Nat → Nat → Int32} {ml ml' mlA : Nat → Nat → Int64} {mr : Nat → Nat → Option Nat} {n j j1 w i r A κ : Nat} {t : Nat → Int32} {N : nmS} {c : Prop} {qa qb : Nat × Nat}
def spQ (r nx : Nat) (ct : Nat → Nat × Nat) (mi : Nat → Nat → Int32) (ml : Nat → Nat → Int64) (mr : Nat → Nat → Option Nat) (n : Nat) (t : Nat → Int32) {α : Type} (f : α → Option Nat × Option Nat) (q : Nat ⊕ (α × Nat)) : Option Value → rx_S → Prop := fun v τ => match q with
  | .inl k => flP r k nx ct mi ml mr v τ
  | .inr (e, w) => v = some (.int 1) ∧ ∃ mA mlA, τ = (nx, ct, tkM mA n t w, mlA, mr) ∧ (∀ x, x ≠ 269 → x ≠ 270 → mA x = mi x) ∧ (∀ x, x ≠ 269 → x ≠ 270 → x ≠ r → mlA x = ml x) ∧ mlA r 6 = oL (f e).1 ∧ mlA r 7 = oL (f e).2
theorem veP.sp {f : Nat × Nat → Option Nat × Option Nat} {q : Nat ⊕ ((Nat × Nat) × Nat)} {v : Option Value} {τ : rx_S} (hm : ∀ x, x ≠ 269 → x ≠ 270 → mA x = mi x) (hl : ∀ x, x ≠ 269 → x ≠ 270 → mlA x = ml x) (h : veP r nx ct mA mlA mr n t f q v τ) : spQ r nx ct mi ml mr n t f q v τ := by
  cases q with
  | inl k =>
    refine flP.of h ⟨fun x hx => ?_, by rw [hm 266 (by decide) (by decide)]⟩
    unfold rdX at hx
    exact ⟨hm x (by omega) (by omega), hl x (by omega) (by omega)⟩
  | inr q =>
    obtain ⟨e, w⟩ := q
    obtain ⟨h1, mlB, h2, h3, h4⟩ := h
    exact ⟨h1, mA, mlB, h2, hm, fun x a b d => (h3 x a b d).trans (hl x a b), h4⟩
theorem cl_valLe (hL : LAY nx ct mr) (h : RdOK N n t mi) (hr : isRu r) : rx_W M_Rd_readSpan 8 0 0 35 [(0, .ref 268), (1, .ref r), (2, .int (bI c)), (3, .int (nI 1)), (4, .int (nI 0))] [] (nx, ct, tkM mi n t j1, ml, mr) (pR (spQ r nx ct mi ml mr n t fLe (pVal n t c True j1))) := by
  unfold pVal
  cases e : pNum n t c j1 with
  | none =>
    refine ru_aload_n d_Rd_readSpan_35 rfl rfl ?_
    refine ru_aload_n d_Rd_readSpan_36 rfl rfl ?_
    refine ru_getR d_Rd_readSpan_37 lf_Rd_12 (ly hL 268 3 0) rfl (lr hL 268 2 269) ?_
    refine ru_iload_n d_Rd_readSpan_40 rfl rfl ?_
    refine ru_callV (mc := 0) (ms := 0) d_Rd_readSpan_41 lm_Rd_195 (cl_readAmount (r := r) hL h (Or.inl rfl)) (rx_recv_is (ly hL 268 3 0) kx_Rd) (by decide) rfl (Nat.le_of_ble_eq_true rfl) ?_
    rw [e]
    rintro v τ ⟨rfl, a, b, rfl, hf, hw⟩
    refine ru_if_ne (tgt := 49) d_Rd_readSpan_44 (by decide) (fun h44 => absurd h44 (by decide)) (fun h44 => ?_)
    refine ru_iconst (v := 0) d_Rd_readSpan_47 (by decide) ?_
    refine ru_zret (ty := .boolean) d_Rd_readSpan_48 rfl rfl ?_
    exact ⟨rfl, a, b, rfl, hf, hw⟩
  | some q =>
    have hq := (pNum_lt e).1
    have h1 : RdOK N n t (rx_u mi 269 0 (nI j1)) := h.u2 (Or.inl rfl)
    have fm : ∀ x, x ≠ 269 → x ≠ 270 → rx_u mi 269 0 (nI j1) x = mi x := fun x a b => rx_u_r _ _ a
    show rx_W _ _ _ _ _ _ _ _ (pR (spQ r nx ct mi ml mr n t fLe (cnd (¬ True ∧ isW n t (j1 + 1) 15) (match pNum n t c (j1 + 2) with | none => .inl (j1 + 2) | some B => pEnds n t c j1 q (some B) (j1 + 3)) (pEnds n t c j1 q none (j1 + 1)))))
    rw [cnd_f (fun z => z.1 trivial)]
    refine ru_aload_n d_Rd_readSpan_35 rfl rfl ?_
    refine ru_aload_n d_Rd_readSpan_36 rfl rfl ?_
    refine ru_getR d_Rd_readSpan_37 lf_Rd_12 (ly hL 268 3 0) rfl (lr hL 268 2 269) ?_
    refine ru_iload_n d_Rd_readSpan_40 rfl rfl ?_
    refine ru_callV (mc := 0) (ms := 0) d_Rd_readSpan_41 lm_Rd_195 (cl_readAmount (r := r) hL h (Or.inl rfl)) (rx_recv_is (ly hL 268 3 0) kx_Rd) (by decide) rfl (Nat.le_of_ble_eq_true rfl) ?_
    rw [e]
    rintro v τ ⟨rfl, ml1, rfl, hm, m1, m2, m3⟩
    refine ru_if_ne (tgt := 49) d_Rd_readSpan_44 (by decide) (fun h44 => ?_) (fun h44 => absurd h44 (by decide))
    refine ru_iload_n d_Rd_readSpan_49 rfl rfl ?_
    refine ru_if_ne (tgt := 71) d_Rd_readSpan_50 (by decide) (fun h50 => ?_) (fun h50 => absurd h50 (by decide))
    refine ru_iconst (v := 0) d_Rd_readSpan_71 (by decide) ?_
    refine ru_istore d_Rd_readSpan_72 (by decide) ?_
    refine ru_iload d_Rd_readSpan_74 rfl ?_
    refine ru_if_eq (tgt := 93) d_Rd_readSpan_76 (by decide) (fun h76 => ?_) (fun h76 => absurd h76 (by decide))
    refine ru_to (ru_post (fun v τ z => z.sp fm (fun x a b => hm x a)) (cl_endLe hL h1 hr (rx_u_same _ _ _ _) ⟨m1, m2⟩ hq m3)) ⟨rfl, rfl, rfl, rfl, rfl, rfl, trivial⟩
theorem cl_valMo (hL : LAY nx ct mr) (h : RdOK N n t mi) (hr : isRu r) : rx_W M_Rd_readSpan 8 0 0 35 [(0, .ref 268), (1, .ref r), (2, .int (bI c)), (3, .int (nI 0)), (4, .int (nI 1))] [] (nx, ct, tkM mi n t j1, ml, mr) (pR (spQ r nx ct mi ml mr n t fMo (pVal n t c True j1))) := by
  unfold pVal
  cases e : pNum n t c j1 with
  | none =>
    refine ru_aload_n d_Rd_readSpan_35 rfl rfl ?_
    refine ru_aload_n d_Rd_readSpan_36 rfl rfl ?_
    refine ru_getR d_Rd_readSpan_37 lf_Rd_12 (ly hL 268 3 0) rfl (lr hL 268 2 269) ?_
    refine ru_iload_n d_Rd_readSpan_40 rfl rfl ?_
    refine ru_callV (mc := 0) (ms := 0) d_Rd_readSpan_41 lm_Rd_195 (cl_readAmount (r := r) hL h (Or.inl rfl)) (rx_recv_is (ly hL 268 3 0) kx_Rd) (by decide) rfl (Nat.le_of_ble_eq_true rfl) ?_
    rw [e]
    rintro v τ ⟨rfl, a, b, rfl, hf, hw⟩
    refine ru_if_ne (tgt := 49) d_Rd_readSpan_44 (by decide) (fun h44 => absurd h44 (by decide)) (fun h44 => ?_)
    refine ru_iconst (v := 0) d_Rd_readSpan_47 (by decide) ?_
    refine ru_zret (ty := .boolean) d_Rd_readSpan_48 rfl rfl ?_
    exact ⟨rfl, a, b, rfl, hf, hw⟩
  | some q =>
    have hq := (pNum_lt e).1
    have h1 : RdOK N n t (rx_u mi 269 0 (nI j1)) := h.u2 (Or.inl rfl)
    have fm : ∀ x, x ≠ 269 → x ≠ 270 → rx_u mi 269 0 (nI j1) x = mi x := fun x a b => rx_u_r _ _ a
    show rx_W _ _ _ _ _ _ _ _ (pR (spQ r nx ct mi ml mr n t fMo (cnd (¬ True ∧ isW n t (j1 + 1) 15) (match pNum n t c (j1 + 2) with | none => .inl (j1 + 2) | some B => pEnds n t c j1 q (some B) (j1 + 3)) (pEnds n t c j1 q none (j1 + 1)))))
    rw [cnd_f (fun z => z.1 trivial)]
    refine ru_aload_n d_Rd_readSpan_35 rfl rfl ?_
    refine ru_aload_n d_Rd_readSpan_36 rfl rfl ?_
    refine ru_getR d_Rd_readSpan_37 lf_Rd_12 (ly hL 268 3 0) rfl (lr hL 268 2 269) ?_
    refine ru_iload_n d_Rd_readSpan_40 rfl rfl ?_
    refine ru_callV (mc := 0) (ms := 0) d_Rd_readSpan_41 lm_Rd_195 (cl_readAmount (r := r) hL h (Or.inl rfl)) (rx_recv_is (ly hL 268 3 0) kx_Rd) (by decide) rfl (Nat.le_of_ble_eq_true rfl) ?_
    rw [e]
    rintro v τ ⟨rfl, ml1, rfl, hm, m1, m2, m3⟩
    refine ru_if_ne (tgt := 49) d_Rd_readSpan_44 (by decide) (fun h44 => ?_) (fun h44 => absurd h44 (by decide))
    refine ru_iload_n d_Rd_readSpan_49 rfl rfl ?_
    refine ru_if_ne (tgt := 71) d_Rd_readSpan_50 (by decide) (fun h50 => absurd h50 (by decide)) (fun h50 => ?_)
    refine ru_iload d_Rd_readSpan_53 rfl ?_
    refine ru_if_ne (tgt := 71) d_Rd_readSpan_55 (by decide) (fun h55 => ?_) (fun h55 => absurd h55 (by decide))
    refine ru_iconst (v := 0) d_Rd_readSpan_71 (by decide) ?_
    refine ru_istore d_Rd_readSpan_72 (by decide) ?_
    refine ru_iload d_Rd_readSpan_74 rfl ?_
    refine ru_if_eq (tgt := 93) d_Rd_readSpan_76 (by decide) (fun h76 => ?_) (fun h76 => absurd h76 (by decide))
    refine ru_to (ru_post (fun v τ z => z.sp fm (fun x a b => hm x a)) (cl_endMo hL h1 hr (rx_u_same _ _ _ _) ⟨m1, m2⟩ hq m3)) ⟨rfl, rfl, rfl, rfl, rfl, rfl, trivial⟩
theorem cl_valBo (hL : LAY nx ct mr) (h : RdOK N n t mi) (hr : isRu r) : rx_W M_Rd_readSpan 8 0 0 35 [(0, .ref 268), (1, .ref r), (2, .int (bI c)), (3, .int (nI 0)), (4, .int (nI 0))] [] (nx, ct, tkM mi n t j1, ml, mr) (pR (spQ r nx ct mi ml mr n t fBo (pVal n t c False j1))) := by
  unfold pVal
  cases e : pNum n t c j1 with
  | none =>
    refine ru_aload_n d_Rd_readSpan_35 rfl rfl ?_
    refine ru_aload_n d_Rd_readSpan_36 rfl rfl ?_
    refine ru_getR d_Rd_readSpan_37 lf_Rd_12 (ly hL 268 3 0) rfl (lr hL 268 2 269) ?_
    refine ru_iload_n d_Rd_readSpan_40 rfl rfl ?_
    refine ru_callV (mc := 0) (ms := 0) d_Rd_readSpan_41 lm_Rd_195 (cl_readAmount (r := r) hL h (Or.inl rfl)) (rx_recv_is (ly hL 268 3 0) kx_Rd) (by decide) rfl (Nat.le_of_ble_eq_true rfl) ?_
    rw [e]
    rintro v τ ⟨rfl, a, b, rfl, hf, hw⟩
    refine ru_if_ne (tgt := 49) d_Rd_readSpan_44 (by decide) (fun h44 => absurd h44 (by decide)) (fun h44 => ?_)
    refine ru_iconst (v := 0) d_Rd_readSpan_47 (by decide) ?_
    refine ru_zret (ty := .boolean) d_Rd_readSpan_48 rfl rfl ?_
    exact ⟨rfl, a, b, rfl, hf, hw⟩
  | some q =>
    have hq := (pNum_lt e).1
    have h1 : RdOK N n t (rx_u mi 269 0 (nI j1)) := h.u2 (Or.inl rfl)
    have fm : ∀ x, x ≠ 269 → x ≠ 270 → rx_u mi 269 0 (nI j1) x = mi x := fun x a b => rx_u_r _ _ a
    by_cases h15 : isW n t (j1 + 1) 15
    · show rx_W _ _ _ _ _ _ _ _ (pR (spQ r nx ct mi ml mr n t fBo (cnd (¬ False ∧ isW n t (j1 + 1) 15) (match pNum n t c (j1 + 2) with | none => .inl (j1 + 2) | some B => pEnds n t c j1 q (some B) (j1 + 3)) (pEnds n t c j1 q none (j1 + 1)))))
      rw [cnd_t ⟨not_false, h15⟩]
      cases e2 : pNum n t c (j1 + 2) with
      | none =>
        refine ru_aload_n d_Rd_readSpan_35 rfl rfl ?_
        refine ru_aload_n d_Rd_readSpan_36 rfl rfl ?_
        refine ru_getR d_Rd_readSpan_37 lf_Rd_12 (ly hL 268 3 0) rfl (lr hL 268 2 269) ?_
        refine ru_iload_n d_Rd_readSpan_40 rfl rfl ?_
        refine ru_callV (mc := 0) (ms := 0) d_Rd_readSpan_41 lm_Rd_195 (cl_readAmount (r := r) hL h (Or.inl rfl)) (rx_recv_is (ly hL 268 3 0) kx_Rd) (by decide) rfl (Nat.le_of_ble_eq_true rfl) ?_
        rw [e]
        rintro v τ ⟨rfl, ml1, rfl, hm, m1, m2, m3⟩
        refine ru_if_ne (tgt := 49) d_Rd_readSpan_44 (by decide) (fun h44 => ?_) (fun h44 => absurd h44 (by decide))
        refine ru_iload_n d_Rd_readSpan_49 rfl rfl ?_
        refine ru_if_ne (tgt := 71) d_Rd_readSpan_50 (by decide) (fun h50 => absurd h50 (by decide)) (fun h50 => ?_)
        refine ru_iload d_Rd_readSpan_53 rfl ?_
        refine ru_if_ne (tgt := 71) d_Rd_readSpan_55 (by decide) (fun h55 => absurd h55 (by decide)) (fun h55 => ?_)
        refine ru_aload_n d_Rd_readSpan_58 rfl rfl ?_
        refine ru_ldcS (tx := "to") (r := 45) d_Rd_readSpan_59 (List.mem_of_getElem? (i := 15) rfl) ?_
        refine ru_callV (mc := 0) (ms := 0) d_Rd_readSpan_61 lm_Rd_94 (cl_accept (s := 15) hL h1.1 (by decide)) (rx_recv_is (ly hL 268 3 0) kx_Rd) (by decide) rfl (Nat.le_of_ble_eq_true rfl) ?_
        rintro v τ ⟨rfl, rfl⟩
        rw [cnd_t h15]
        refine ru_if_eq (tgt := 71) d_Rd_readSpan_64 (by decide) (fun h64 => absurd h64 (bI_ne0.mpr h15)) (fun h64 => ?_)
        refine ru_iconst (v := 1) d_Rd_readSpan_67 (by decide) ?_
        refine ru_goto (tgt := 72) d_Rd_readSpan_68 (by decide) ?_
        refine ru_istore d_Rd_readSpan_72 (by decide) ?_
        refine ru_iload d_Rd_readSpan_74 rfl ?_
        refine ru_if_eq (tgt := 93) d_Rd_readSpan_76 (by decide) (fun h76 => absurd h76 (by decide)) (fun h76 => ?_)
        refine ru_aload_n d_Rd_readSpan_79 rfl rfl ?_
        refine ru_aload_n d_Rd_readSpan_80 rfl rfl ?_
        refine ru_getR d_Rd_readSpan_81 lf_Rd_18 (ly hL 268 3 0) rfl (lr hL 268 3 270) ?_
        refine ru_iload_n d_Rd_readSpan_84 rfl rfl ?_
        refine ru_callV (mc := 0) (ms := 0) d_Rd_readSpan_85 lm_Rd_195 (cl_readAmount (r := r) hL h1 (Or.inr rfl)) (rx_recv_is (ly hL 268 3 0) kx_Rd) (by decide) rfl (Nat.le_of_ble_eq_true rfl) ?_
        rw [e2]
        rintro v τ ⟨rfl, a, b, rfl, hf, hw⟩
        refine ru_if_ne (tgt := 93) d_Rd_readSpan_88 (by decide) (fun h88 => absurd h88 (by decide)) (fun h88 => ?_)
        refine ru_iconst (v := 0) d_Rd_readSpan_91 (by decide) ?_
        refine ru_zret (ty := .boolean) d_Rd_readSpan_92 rfl rfl ?_
        refine flP.of ⟨rfl, a, b, rfl, hf, hw⟩ ⟨fun x hx => ?_, by rw [fm 266 (by decide) (by decide)]⟩
        unfold rdX at hx
        exact ⟨fm x (by omega) (by omega), hm x (by omega)⟩
      | some q2 =>
        have hq2 := (pNum_lt e2).1
        have h2 : RdOK N n t (rx_u (rx_u mi 269 0 (nI j1)) 270 0 (nI (j1 + 2))) := h1.u2 (Or.inr rfl)
        have fm2 : ∀ x, x ≠ 269 → x ≠ 270 → rx_u (rx_u mi 269 0 (nI j1)) 270 0 (nI (j1 + 2)) x = mi x := fun x a b => (rx_u_r _ _ b).trans (rx_u_r _ _ a)
        refine ru_aload_n d_Rd_readSpan_35 rfl rfl ?_
        refine ru_aload_n d_Rd_readSpan_36 rfl rfl ?_
        refine ru_getR d_Rd_readSpan_37 lf_Rd_12 (ly hL 268 3 0) rfl (lr hL 268 2 269) ?_
        refine ru_iload_n d_Rd_readSpan_40 rfl rfl ?_
        refine ru_callV (mc := 0) (ms := 0) d_Rd_readSpan_41 lm_Rd_195 (cl_readAmount (r := r) hL h (Or.inl rfl)) (rx_recv_is (ly hL 268 3 0) kx_Rd) (by decide) rfl (Nat.le_of_ble_eq_true rfl) ?_
        rw [e]
        rintro v τ ⟨rfl, ml1, rfl, hm, m1, m2, m3⟩
        refine ru_if_ne (tgt := 49) d_Rd_readSpan_44 (by decide) (fun h44 => ?_) (fun h44 => absurd h44 (by decide))
        refine ru_iload_n d_Rd_readSpan_49 rfl rfl ?_
        refine ru_if_ne (tgt := 71) d_Rd_readSpan_50 (by decide) (fun h50 => absurd h50 (by decide)) (fun h50 => ?_)
        refine ru_iload d_Rd_readSpan_53 rfl ?_
        refine ru_if_ne (tgt := 71) d_Rd_readSpan_55 (by decide) (fun h55 => absurd h55 (by decide)) (fun h55 => ?_)
        refine ru_aload_n d_Rd_readSpan_58 rfl rfl ?_
        refine ru_ldcS (tx := "to") (r := 45) d_Rd_readSpan_59 (List.mem_of_getElem? (i := 15) rfl) ?_
        refine ru_callV (mc := 0) (ms := 0) d_Rd_readSpan_61 lm_Rd_94 (cl_accept (s := 15) hL h1.1 (by decide)) (rx_recv_is (ly hL 268 3 0) kx_Rd) (by decide) rfl (Nat.le_of_ble_eq_true rfl) ?_
        rintro v τ ⟨rfl, rfl⟩
        rw [cnd_t h15]
        refine ru_if_eq (tgt := 71) d_Rd_readSpan_64 (by decide) (fun h64 => absurd h64 (bI_ne0.mpr h15)) (fun h64 => ?_)
        refine ru_iconst (v := 1) d_Rd_readSpan_67 (by decide) ?_
        refine ru_goto (tgt := 72) d_Rd_readSpan_68 (by decide) ?_
        refine ru_istore d_Rd_readSpan_72 (by decide) ?_
        refine ru_iload d_Rd_readSpan_74 rfl ?_
        refine ru_if_eq (tgt := 93) d_Rd_readSpan_76 (by decide) (fun h76 => absurd h76 (by decide)) (fun h76 => ?_)
        refine ru_aload_n d_Rd_readSpan_79 rfl rfl ?_
        refine ru_aload_n d_Rd_readSpan_80 rfl rfl ?_
        refine ru_getR d_Rd_readSpan_81 lf_Rd_18 (ly hL 268 3 0) rfl (lr hL 268 3 270) ?_
        refine ru_iload_n d_Rd_readSpan_84 rfl rfl ?_
        refine ru_callV (mc := 0) (ms := 0) d_Rd_readSpan_85 lm_Rd_195 (cl_readAmount (r := r) hL h1 (Or.inr rfl)) (rx_recv_is (ly hL 268 3 0) kx_Rd) (by decide) rfl (Nat.le_of_ble_eq_true rfl) ?_
        rw [e2]
        rintro v τ ⟨rfl, ml2, rfl, hm', n1, n2, n3⟩
        refine ru_if_ne (tgt := 93) d_Rd_readSpan_88 (by decide) (fun h88 => ?_) (fun h88 => absurd h88 (by decide))
        refine ru_to (ru_post (fun v τ z => z.sp fm2 (fun x a b => (hm' x b).trans (hm x a))) (cl_endTw (j1 := j1) hL h2 hr (by rw [rx_u_r _ _ (by decide), rx_u_same]) ⟨by rw [hm' 269 (by decide)]; exact m1, by rw [hm' 269 (by decide)]; exact m2⟩ hq (fun z => by rw [hm' 269 (by decide)]; exact m3 z) (rx_u_same _ _ _ _) ⟨n1, n2⟩ hq2 n3)) ⟨rfl, rfl, rfl, rfl, rfl, rfl, trivial⟩
    · show rx_W _ _ _ _ _ _ _ _ (pR (spQ r nx ct mi ml mr n t fBo (cnd (¬ False ∧ isW n t (j1 + 1) 15) (match pNum n t c (j1 + 2) with | none => .inl (j1 + 2) | some B => pEnds n t c j1 q (some B) (j1 + 3)) (pEnds n t c j1 q none (j1 + 1)))))
      rw [cnd_f (fun z => h15 z.2)]
      refine ru_aload_n d_Rd_readSpan_35 rfl rfl ?_
      refine ru_aload_n d_Rd_readSpan_36 rfl rfl ?_
      refine ru_getR d_Rd_readSpan_37 lf_Rd_12 (ly hL 268 3 0) rfl (lr hL 268 2 269) ?_
      refine ru_iload_n d_Rd_readSpan_40 rfl rfl ?_
      refine ru_callV (mc := 0) (ms := 0) d_Rd_readSpan_41 lm_Rd_195 (cl_readAmount (r := r) hL h (Or.inl rfl)) (rx_recv_is (ly hL 268 3 0) kx_Rd) (by decide) rfl (Nat.le_of_ble_eq_true rfl) ?_
      rw [e]
      rintro v τ ⟨rfl, ml1, rfl, hm, m1, m2, m3⟩
      refine ru_if_ne (tgt := 49) d_Rd_readSpan_44 (by decide) (fun h44 => ?_) (fun h44 => absurd h44 (by decide))
      refine ru_iload_n d_Rd_readSpan_49 rfl rfl ?_
      refine ru_if_ne (tgt := 71) d_Rd_readSpan_50 (by decide) (fun h50 => absurd h50 (by decide)) (fun h50 => ?_)
      refine ru_iload d_Rd_readSpan_53 rfl ?_
      refine ru_if_ne (tgt := 71) d_Rd_readSpan_55 (by decide) (fun h55 => absurd h55 (by decide)) (fun h55 => ?_)
      refine ru_aload_n d_Rd_readSpan_58 rfl rfl ?_
      refine ru_ldcS (tx := "to") (r := 45) d_Rd_readSpan_59 (List.mem_of_getElem? (i := 15) rfl) ?_
      refine ru_callV (mc := 0) (ms := 0) d_Rd_readSpan_61 lm_Rd_94 (cl_accept (s := 15) hL h1.1 (by decide)) (rx_recv_is (ly hL 268 3 0) kx_Rd) (by decide) rfl (Nat.le_of_ble_eq_true rfl) ?_
      rintro v τ ⟨rfl, rfl⟩
      rw [cnd_f h15]
      refine ru_if_eq (tgt := 71) d_Rd_readSpan_64 (by decide) (fun h64 => ?_) (fun h64 => absurd (bI_f h15) h64)
      refine ru_iconst (v := 0) d_Rd_readSpan_71 (by decide) ?_
      refine ru_istore d_Rd_readSpan_72 (by decide) ?_
      refine ru_iload d_Rd_readSpan_74 rfl ?_
      refine ru_if_eq (tgt := 93) d_Rd_readSpan_76 (by decide) (fun h76 => ?_) (fun h76 => absurd h76 (by decide))
      refine ru_to (ru_post (fun v τ z => z.sp fm (fun x a b => hm x a)) (cl_endBo hL h1 hr (rx_u_same _ _ _ _) ⟨m1, m2⟩ hq m3)) ⟨rfl, rfl, rfl, rfl, rfl, rfl, trivial⟩
theorem cl_readSpan (hL : LAY nx ct mr) (h : RdOK N n t mi) (hr : isRu r) (hk : mr r 0 = some (1 + κ)) (h13 : κ < 13) : rx_Calls y_Rd_readSpan M_Rd_readSpan 8 0 0 [.ref 268, .ref r] (nx, ct, tkM mi n t j, ml, mr) (spQ r nx ct mi ml mr n t (fun e => e) (pSpan n t κ j)) := by
  refine rx_enter (by decide) rfl rfl (Nat.le_of_ble_eq_true rfl) ?_
  have wrap : ∀ (f : Nat × Nat → Option Nat × Option Nat) (q : Nat ⊕ ((Nat × Nat) × Nat)) (v : Option Value) (τ : rx_S), spQ r nx ct mi ml mr n t f q v τ → spQ r nx ct mi ml mr n t (fun e => e) (match q with | .inl k => .inl k | .inr (e, w) => .inr (f e, w)) v τ := by
    intro f q v τ z
    cases q with
    | inl k => exact z
    | inr q => exact z
  unfold pSpan
  by_cases h13w : isW n t j 13
  · rw [cnd_t h13w]
    refine ru_aload_n d_Rd_readSpan_0 rfl rfl ?_
    refine ru_getR d_Rd_readSpan_1 lf_Rd_183 (ly_ru hL hr) rfl hk ?_
    refine ru_getO (v := .int (rx_kc κ)) d_Rd_readSpan_4 (rx_in (tm_6 (List.mem_of_getElem? (i := 179) rfl)) rfl) (fun ev U h => (h.2.1 κ h13).2.2) ?_
    refine ru_eqi (kc_bI h13) ?_
    refine ru_istore_n d_Rd_readSpan_7 rfl (by decide) ?_
    refine ru_aload_n d_Rd_readSpan_8 rfl rfl ?_
    refine ru_ldcS (tx := "least") (r := 43) d_Rd_readSpan_9 (List.mem_of_getElem? (i := 13) rfl) ?_
    refine ru_callV (mc := 0) (ms := 0) d_Rd_readSpan_11 lm_Rd_94 (cl_accept (s := 13) hL h.1 (by decide)) (rx_recv_is (ly hL 268 3 0) kx_Rd) (by decide) rfl (Nat.le_of_ble_eq_true rfl) ?_
    rintro v τ ⟨rfl, rfl⟩
    rw [cnd_t h13w, bI_t h13w]
    refine ru_istore_n d_Rd_readSpan_14 rfl (by decide) ?_
    refine ru_iload_n d_Rd_readSpan_15 rfl rfl ?_
    refine ru_if_ne (tgt := 32) d_Rd_readSpan_16 (by decide) (fun h16 => ?_) (fun h16 => absurd h16 (by decide))
    refine ru_iconst (v := 0) d_Rd_readSpan_32 (by decide) ?_
    refine ru_istore d_Rd_readSpan_33 (by decide) ?_
    exact ru_to (ru_post (wrap fLe _) (cl_valLe hL h hr)) ⟨rfl, rfl, rfl, rfl, rfl, trivial⟩
  · rw [cnd_f h13w]
    by_cases h14w : isW n t j 14
    · rw [cnd_t h14w]
      refine ru_aload_n d_Rd_readSpan_0 rfl rfl ?_
      refine ru_getR d_Rd_readSpan_1 lf_Rd_183 (ly_ru hL hr) rfl hk ?_
      refine ru_getO (v := .int (rx_kc κ)) d_Rd_readSpan_4 (rx_in (tm_6 (List.mem_of_getElem? (i := 179) rfl)) rfl) (fun ev U h => (h.2.1 κ h13).2.2) ?_
      refine ru_eqi (kc_bI h13) ?_
      refine ru_istore_n d_Rd_readSpan_7 rfl (by decide) ?_
      refine ru_aload_n d_Rd_readSpan_8 rfl rfl ?_
      refine ru_ldcS (tx := "least") (r := 43) d_Rd_readSpan_9 (List.mem_of_getElem? (i := 13) rfl) ?_
      refine ru_callV (mc := 0) (ms := 0) d_Rd_readSpan_11 lm_Rd_94 (cl_accept (s := 13) hL h.1 (by decide)) (rx_recv_is (ly hL 268 3 0) kx_Rd) (by decide) rfl (Nat.le_of_ble_eq_true rfl) ?_
      rintro v τ ⟨rfl, rfl⟩
      rw [cnd_f h13w, bI_f h13w]
      refine ru_istore_n d_Rd_readSpan_14 rfl (by decide) ?_
      refine ru_iload_n d_Rd_readSpan_15 rfl rfl ?_
      refine ru_if_ne (tgt := 32) d_Rd_readSpan_16 (by decide) (fun h16 => absurd h16 (by decide)) (fun h16 => ?_)
      refine ru_aload_n d_Rd_readSpan_19 rfl rfl ?_
      refine ru_ldcS (tx := "most") (r := 44) d_Rd_readSpan_20 (List.mem_of_getElem? (i := 14) rfl) ?_
      refine ru_callV (mc := 0) (ms := 0) d_Rd_readSpan_22 lm_Rd_94 (cl_accept (s := 14) hL h.1 (by decide)) (rx_recv_is (ly hL 268 3 0) kx_Rd) (by decide) rfl (Nat.le_of_ble_eq_true rfl) ?_
      rintro v τ ⟨rfl, rfl⟩
      rw [cnd_t h14w, bI_t h14w]
      refine ru_if_eq (tgt := 32) d_Rd_readSpan_25 (by decide) (fun h25 => absurd h25 (by decide)) (fun h25 => ?_)
      refine ru_iconst (v := 1) d_Rd_readSpan_28 (by decide) ?_
      refine ru_goto (tgt := 33) d_Rd_readSpan_29 (by decide) ?_
      refine ru_istore d_Rd_readSpan_33 (by decide) ?_
      exact ru_to (ru_post (wrap fMo _) (cl_valMo hL h hr)) ⟨rfl, rfl, rfl, rfl, rfl, trivial⟩
    · rw [cnd_f h14w]
      refine ru_aload_n d_Rd_readSpan_0 rfl rfl ?_
      refine ru_getR d_Rd_readSpan_1 lf_Rd_183 (ly_ru hL hr) rfl hk ?_
      refine ru_getO (v := .int (rx_kc κ)) d_Rd_readSpan_4 (rx_in (tm_6 (List.mem_of_getElem? (i := 179) rfl)) rfl) (fun ev U h => (h.2.1 κ h13).2.2) ?_
      refine ru_eqi (kc_bI h13) ?_
      refine ru_istore_n d_Rd_readSpan_7 rfl (by decide) ?_
      refine ru_aload_n d_Rd_readSpan_8 rfl rfl ?_
      refine ru_ldcS (tx := "least") (r := 43) d_Rd_readSpan_9 (List.mem_of_getElem? (i := 13) rfl) ?_
      refine ru_callV (mc := 0) (ms := 0) d_Rd_readSpan_11 lm_Rd_94 (cl_accept (s := 13) hL h.1 (by decide)) (rx_recv_is (ly hL 268 3 0) kx_Rd) (by decide) rfl (Nat.le_of_ble_eq_true rfl) ?_
      rintro v τ ⟨rfl, rfl⟩
      rw [cnd_f h13w, bI_f h13w]
      refine ru_istore_n d_Rd_readSpan_14 rfl (by decide) ?_
      refine ru_iload_n d_Rd_readSpan_15 rfl rfl ?_
      refine ru_if_ne (tgt := 32) d_Rd_readSpan_16 (by decide) (fun h16 => absurd h16 (by decide)) (fun h16 => ?_)
      refine ru_aload_n d_Rd_readSpan_19 rfl rfl ?_
      refine ru_ldcS (tx := "most") (r := 44) d_Rd_readSpan_20 (List.mem_of_getElem? (i := 14) rfl) ?_
      refine ru_callV (mc := 0) (ms := 0) d_Rd_readSpan_22 lm_Rd_94 (cl_accept (s := 14) hL h.1 (by decide)) (rx_recv_is (ly hL 268 3 0) kx_Rd) (by decide) rfl (Nat.le_of_ble_eq_true rfl) ?_
      rintro v τ ⟨rfl, rfl⟩
      rw [cnd_f h14w, bI_f h14w]
      refine ru_if_eq (tgt := 32) d_Rd_readSpan_25 (by decide) (fun h25 => ?_) (fun h25 => absurd h25 (by decide))
      refine ru_iconst (v := 0) d_Rd_readSpan_32 (by decide) ?_
      refine ru_istore d_Rd_readSpan_33 (by decide) ?_
      exact ru_to (ru_post (wrap fBo _) (cl_valBo hL h hr)) ⟨rfl, rfl, rfl, rfl, rfl, trivial⟩
end
