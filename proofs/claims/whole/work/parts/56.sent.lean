/-! The class reads: a sentence -/
theorem d_Rd_readSentence_0 : decode M_Rd_readSentence.2.1 0 = .ok (.aload_n 0, 1) := by decide +kernel
theorem d_Rd_readSentence_1 : decode M_Rd_readSentence.2.1 1 = .ok (.invokevirtual 58, 3) := by decide +kernel
theorem d_Rd_readSentence_4 : decode M_Rd_readSentence.2.1 4 = .ok (.astore_n 2, 1) := by decide +kernel
theorem d_Rd_readSentence_5 : decode M_Rd_readSentence.2.1 5 = .ok (.aload_n 2, 1) := by decide +kernel
theorem d_Rd_readSentence_6 : decode M_Rd_readSentence.2.1 6 = .ok (.ifnonnull 5, 3) := by decide +kernel
theorem d_Rd_readSentence_9 : decode M_Rd_readSentence.2.1 9 = .ok (.iconst 0, 1) := by decide +kernel
theorem d_Rd_readSentence_10 : decode M_Rd_readSentence.2.1 10 = .ok (.ireturn, 1) := by decide +kernel
theorem d_Rd_readSentence_11 : decode M_Rd_readSentence.2.1 11 = .ok (.aload_n 1, 1) := by decide +kernel
theorem d_Rd_readSentence_12 : decode M_Rd_readSentence.2.1 12 = .ok (.aload_n 2, 1) := by decide +kernel
theorem d_Rd_readSentence_13 : decode M_Rd_readSentence.2.1 13 = .ok (.aload_n 0, 1) := by decide +kernel
theorem d_Rd_readSentence_14 : decode M_Rd_readSentence.2.1 14 = .ok (.getfield 21, 3) := by decide +kernel
theorem d_Rd_readSentence_17 : decode M_Rd_readSentence.2.1 17 = .ok (.getfield 62, 3) := by decide +kernel
theorem d_Rd_readSentence_20 : decode M_Rd_readSentence.2.1 20 = .ok (.invokevirtual 65, 3) := by decide +kernel
theorem d_Rd_readSentence_23 : decode M_Rd_readSentence.2.1 23 = .ok (.aload_n 0, 1) := by decide +kernel
theorem d_Rd_readSentence_24 : decode M_Rd_readSentence.2.1 24 = .ok (.getfield 21, 3) := by decide +kernel
theorem d_Rd_readSentence_27 : decode M_Rd_readSentence.2.1 27 = .ok (.invokevirtual 71, 3) := by decide +kernel
theorem d_Rd_readSentence_30 : decode M_Rd_readSentence.2.1 30 = .ok (.aload_n 0, 1) := by decide +kernel
theorem d_Rd_readSentence_31 : decode M_Rd_readSentence.2.1 31 = .ok (.aload_n 1, 1) := by decide +kernel
theorem d_Rd_readSentence_32 : decode M_Rd_readSentence.2.1 32 = .ok (.invokevirtual 74, 3) := by decide +kernel
theorem d_Rd_readSentence_35 : decode M_Rd_readSentence.2.1 35 = .ok (.ifCond .ne 5, 3) := by decide +kernel
theorem d_Rd_readSentence_38 : decode M_Rd_readSentence.2.1 38 = .ok (.iconst 0, 1) := by decide +kernel
theorem d_Rd_readSentence_39 : decode M_Rd_readSentence.2.1 39 = .ok (.ireturn, 1) := by decide +kernel
theorem d_Rd_readSentence_40 : decode M_Rd_readSentence.2.1 40 = .ok (.aload_n 1, 1) := by decide +kernel
theorem d_Rd_readSentence_41 : decode M_Rd_readSentence.2.1 41 = .ok (.invokevirtual 77, 3) := by decide +kernel
theorem d_Rd_readSentence_44 : decode M_Rd_readSentence.2.1 44 = .ok (.ifCond .ne 35, 3) := by decide +kernel
theorem d_Rd_readSentence_47 : decode M_Rd_readSentence.2.1 47 = .ok (.aload_n 0, 1) := by decide +kernel
theorem d_Rd_readSentence_48 : decode M_Rd_readSentence.2.1 48 = .ok (.aload_n 1, 1) := by decide +kernel
theorem d_Rd_readSentence_49 : decode M_Rd_readSentence.2.1 49 = .ok (.invokevirtual 80, 3) := by decide +kernel
theorem d_Rd_readSentence_52 : decode M_Rd_readSentence.2.1 52 = .ok (.ifCond .eq 31, 3) := by decide +kernel
theorem d_Rd_readSentence_55 : decode M_Rd_readSentence.2.1 55 = .ok (.aload_n 0, 1) := by decide +kernel
theorem d_Rd_readSentence_56 : decode M_Rd_readSentence.2.1 56 = .ok (.aload_n 1, 1) := by decide +kernel
theorem d_Rd_readSentence_57 : decode M_Rd_readSentence.2.1 57 = .ok (.invokevirtual 83, 3) := by decide +kernel
theorem d_Rd_readSentence_60 : decode M_Rd_readSentence.2.1 60 = .ok (.ifCond .eq 23, 3) := by decide +kernel
theorem d_Rd_readSentence_63 : decode M_Rd_readSentence.2.1 63 = .ok (.aload_n 0, 1) := by decide +kernel
theorem d_Rd_readSentence_64 : decode M_Rd_readSentence.2.1 64 = .ok (.aload_n 1, 1) := by decide +kernel
theorem d_Rd_readSentence_65 : decode M_Rd_readSentence.2.1 65 = .ok (.invokevirtual 86, 3) := by decide +kernel
theorem d_Rd_readSentence_68 : decode M_Rd_readSentence.2.1 68 = .ok (.ifCond .eq 15, 3) := by decide +kernel
theorem d_Rd_readSentence_71 : decode M_Rd_readSentence.2.1 71 = .ok (.aload_n 0, 1) := by decide +kernel
theorem d_Rd_readSentence_72 : decode M_Rd_readSentence.2.1 72 = .ok (.aload_n 1, 1) := by decide +kernel
theorem d_Rd_readSentence_73 : decode M_Rd_readSentence.2.1 73 = .ok (.invokevirtual 89, 3) := by decide +kernel
theorem d_Rd_readSentence_76 : decode M_Rd_readSentence.2.1 76 = .ok (.ifCond .eq 7, 3) := by decide +kernel
theorem d_Rd_readSentence_79 : decode M_Rd_readSentence.2.1 79 = .ok (.iconst 1, 1) := by decide +kernel
theorem d_Rd_readSentence_80 : decode M_Rd_readSentence.2.1 80 = .ok (.goto 4, 3) := by decide +kernel
theorem d_Rd_readSentence_83 : decode M_Rd_readSentence.2.1 83 = .ok (.iconst 0, 1) := by decide +kernel
theorem d_Rd_readSentence_84 : decode M_Rd_readSentence.2.1 84 = .ok (.istore_n 3, 1) := by decide +kernel
theorem d_Rd_readSentence_85 : decode M_Rd_readSentence.2.1 85 = .ok (.iload_n 3, 1) := by decide +kernel
theorem d_Rd_readSentence_86 : decode M_Rd_readSentence.2.1 86 = .ok (.ifCond .eq 16, 3) := by decide +kernel
theorem d_Rd_readSentence_89 : decode M_Rd_readSentence.2.1 89 = .ok (.aload_n 0, 1) := by decide +kernel
theorem d_Rd_readSentence_90 : decode M_Rd_readSentence.2.1 90 = .ok (.ldc 92, 2) := by decide +kernel
theorem d_Rd_readSentence_92 : decode M_Rd_readSentence.2.1 92 = .ok (.invokevirtual 94, 3) := by decide +kernel
theorem d_Rd_readSentence_95 : decode M_Rd_readSentence.2.1 95 = .ok (.ifCond .eq 7, 3) := by decide +kernel
theorem d_Rd_readSentence_98 : decode M_Rd_readSentence.2.1 98 = .ok (.iconst 1, 1) := by decide +kernel
theorem d_Rd_readSentence_99 : decode M_Rd_readSentence.2.1 99 = .ok (.goto 4, 3) := by decide +kernel
theorem d_Rd_readSentence_102 : decode M_Rd_readSentence.2.1 102 = .ok (.iconst 0, 1) := by decide +kernel
theorem d_Rd_readSentence_103 : decode M_Rd_readSentence.2.1 103 = .ok (.ireturn, 1) := by decide +kernel
section
variable {nx : Nat} {ct : Nat → Nat × Nat} {mi m0 mX : Nat → Nat → Int32} {ml l0 lX : Nat → Nat → Int64} {mr : Nat → Nat → Option Nat} {n j w r κ line l rk : Nat} {t : Nat → Int32} {N : nmS} {s e : Option Nat × Option Nat} {a : Option Nat}
def s1P (r nx : Nat) (ct : Nat → Nat × Nat) (m0 : Nat → Nat → Int32) (l0 : Nat → Nat → Int64) (mr : Nat → Nat → Option Nat) (n : Nat) (t : Nat → Int32) (κ : Nat) (s : Option Nat × Option Nat) (line : Nat) (q : Nat ⊕ (reS × Nat)) : Option Value → rx_S → Prop := fun v τ => match q with
  | .inl k => flP r k nx ct m0 l0 mr v τ
  | .inr (q, w) => v = some (.int 1) ∧ ∃ mA mlA, τ = (nx, ct, tkM mA n t w, mlA, mr) ∧ (∀ x, x ≠ 269 → x ≠ 270 → x ≠ r → mA x = m0 x ∧ mlA x = l0 x) ∧ clI mA mlA mr r (κ, s, q.1, q.2.1, q.2.2.1, q.2.2.2, line)
def fr3 (r : Nat) (m0 mX : Nat → Nat → Int32) (l0 lX : Nat → Nat → Int64) : Prop := ∀ x, x ≠ 269 → x ≠ 270 → x ≠ r → mX x = m0 x ∧ lX x = l0 x
theorem fr3.rf (h : fr3 r m0 mX l0 lX) (hr : isRu r) : RF r m0 mX l0 lX := by
  have z := isRu_ne hr
  refine ⟨fun x hx => h x ?_ ?_ ?_, by rw [(h 266 (by decide) (by decide) (by omega)).1]⟩ <;> (unfold rdX at hx; omega)
theorem fr3.u {k : Nat} {v : Int32} (h : fr3 r m0 mX l0 lX) : fr3 r m0 (rx_u mX r k v) l0 lX := fun x a b c => ⟨by rw [rx_u_r _ _ c]; exact (h x a b c).1, (h x a b c).2⟩
def prt (r : Nat) (mX : Nat → Nat → Int32) (s : Option Nat × Option Nat) (line : Nat) : Prop := mX r 1 = oR s.1 ∧ mX r 2 = oR s.2 ∧ mX r 8 = nI line
theorem prt.u {k : Nat} {v : Int32} (h : prt r mX s line) (h1 : k ≠ 1 := by decide) (h2 : k ≠ 2 := by decide) (h8 : k ≠ 8 := by decide) : prt r (rx_u mX r k v) s line := ⟨by rw [rx_u_k _ _ (Ne.symm h1)]; exact h.1, by rw [rx_u_k _ _ (Ne.symm h2)]; exact h.2.1, by rw [rx_u_k _ _ (Ne.symm h8)]; exact h.2.2⟩
theorem se2_semi (hL : LAY nx ct mr) (hr : isRu r) (h : RdOK N n t mX) (hf : fr3 r m0 mX l0 lX) (hk : mr r 0 = some (1 + κ)) (h13 : κ < 13) (hp : prt r mX s line) (h3 : mX r 3 = nI l) (h4 : mX r 4 = oR a) (h5 : mX r 5 = nI rk) (h6 : lX r 6 = oL e.1 ∧ lX r 7 = oL e.2) : rx_W M_Rd_readSentence 9 0 0 85 [(0, .ref 268), (3, .int (nI 1))] [] (nx, ct, tkM mX n t w, lX, mr) (pR (s1P r nx ct m0 l0 mr n t κ s line (semi n t (l, a, rk, e) w))) := by
  unfold semi
  by_cases hw : isW n t w 16
  · rw [cnd_t hw]
    refine ru_iload_n d_Rd_readSentence_85 rfl rfl ?_
    refine ru_if_eq (tgt := 102) d_Rd_readSentence_86 (by decide) (fun h86 => absurd h86 (by decide)) (fun h86 => ?_)
    refine ru_aload_n d_Rd_readSentence_89 rfl rfl ?_
    refine ru_ldcS (tx := ";") (r := 46) d_Rd_readSentence_90 (List.mem_of_getElem? (i := 16) rfl) ?_
    refine ru_callV (mc := 0) (ms := 0) d_Rd_readSentence_92 lm_Rd_94 (cl_accept (s := 16) hL h.1 (by decide)) (rx_recv_is (ly hL 268 3 0) kx_Rd) (by decide) rfl (Nat.le_of_ble_eq_true rfl) ?_
    rintro v τ ⟨rfl, rfl⟩
    rw [cnd_t hw]
    refine ru_if_eq (tgt := 102) d_Rd_readSentence_95 (by decide) (fun h95 => absurd h95 (bI_ne0.mpr hw)) (fun h95 => ?_)
    refine ru_iconst (v := 1) d_Rd_readSentence_98 (by decide) ?_
    refine ru_goto (tgt := 103) d_Rd_readSentence_99 (by decide) ?_
    refine ru_zret (ty := .boolean) d_Rd_readSentence_103 rfl rfl ?_
    exact ⟨rfl, mX, lX, rfl, hf, hk, ⟨hp.1, hp.2.1⟩, h3, h4, h5, h6, hp.2.2⟩
  · rw [cnd_f hw]
    refine ru_iload_n d_Rd_readSentence_85 rfl rfl ?_
    refine ru_if_eq (tgt := 102) d_Rd_readSentence_86 (by decide) (fun h86 => absurd h86 (by decide)) (fun h86 => ?_)
    refine ru_aload_n d_Rd_readSentence_89 rfl rfl ?_
    refine ru_ldcS (tx := ";") (r := 46) d_Rd_readSentence_90 (List.mem_of_getElem? (i := 16) rfl) ?_
    refine ru_callV (mc := 0) (ms := 0) d_Rd_readSentence_92 lm_Rd_94 (cl_accept (s := 16) hL h.1 (by decide)) (rx_recv_is (ly hL 268 3 0) kx_Rd) (by decide) rfl (Nat.le_of_ble_eq_true rfl) ?_
    rintro v τ ⟨rfl, rfl⟩
    rw [cnd_f hw]
    refine ru_if_eq (tgt := 102) d_Rd_readSentence_95 (by decide) (fun h95 => ?_) (fun h95 => absurd (bI_f hw) h95)
    refine ru_iconst (v := 0) d_Rd_readSentence_102 (by decide) ?_
    refine ru_zret (ty := .boolean) d_Rd_readSentence_103 rfl rfl ?_
    exact flP.of (fl_tk h) (hf.rf hr)
theorem se2_span (hL : LAY nx ct mr) (hr : isRu r) (h : RdOK N n t mX) (hf : fr3 r m0 mX l0 lX) (hk : mr r 0 = some (1 + κ)) (h13 : κ < 13) (hp : prt r mX s line) (h3 : mX r 3 = nI l) (h4 : mX r 4 = oR a) (h5 : mX r 5 = nI rk) : rx_W M_Rd_readSentence 9 0 0 71 [(0, .ref 268), (1, .ref r)] [] (nx, ct, tkM mX n t w, lX, mr) (pR (s1P r nx ct m0 l0 mr n t κ s line (rSpan n t κ l a rk w))) := by
  unfold rSpan
  have z := isRu_ne hr
  cases e1 : pSpan n t κ w with
  | inl k =>
    refine ru_aload_n d_Rd_readSentence_71 rfl rfl ?_
    refine ru_aload_n d_Rd_readSentence_72 rfl rfl ?_
    refine ru_callV (mc := 0) (ms := 0) d_Rd_readSentence_73 lm_Rd_89 (cl_readSpan hL h hr hk h13) (rx_recv_is (ly hL 268 3 0) kx_Rd) (by decide) rfl (Nat.le_of_ble_eq_true rfl) ?_
    rw [e1]
    rintro v τ ⟨rfl, a, b, rfl, hf', hw⟩
    refine ru_if_eq (tgt := 83) d_Rd_readSentence_76 (by decide) (fun h76 => ?_) (fun h76 => absurd h76 (by decide))
    refine ru_iconst (v := 0) d_Rd_readSentence_83 (by decide) ?_
    refine ru_istore_n d_Rd_readSentence_84 rfl (by decide) ?_
    refine ru_iload_n d_Rd_readSentence_85 rfl rfl ?_
    refine ru_if_eq (tgt := 102) d_Rd_readSentence_86 (by decide) (fun h86 => ?_) (fun h86 => absurd h86 (by decide))
    refine ru_iconst (v := 0) d_Rd_readSentence_102 (by decide) ?_
    refine ru_zret (ty := .boolean) d_Rd_readSentence_103 rfl rfl ?_
    exact flP.of ⟨rfl, a, b, rfl, hf', hw⟩ (hf.rf hr)
  | inr q =>
    obtain ⟨e, w2⟩ := q
    refine ru_aload_n d_Rd_readSentence_71 rfl rfl ?_
    refine ru_aload_n d_Rd_readSentence_72 rfl rfl ?_
    refine ru_callV (mc := 0) (ms := 0) d_Rd_readSentence_73 lm_Rd_89 (cl_readSpan hL h hr hk h13) (rx_recv_is (ly hL 268 3 0) kx_Rd) (by decide) rfl (Nat.le_of_ble_eq_true rfl) ?_
    rw [e1]
    rintro v τ ⟨rfl, mA, mlA, rfl, f1, f2, g6, g7⟩
    refine ru_if_eq (tgt := 83) d_Rd_readSentence_76 (by decide) (fun h76 => absurd h76 (by decide)) (fun h76 => ?_)
    refine ru_iconst (v := 1) d_Rd_readSentence_79 (by decide) ?_
    refine ru_goto (tgt := 84) d_Rd_readSentence_80 (by decide) ?_
    refine ru_istore_n d_Rd_readSentence_84 rfl (by decide) ?_
    have q1 : mA r = mX r := f1 r (by omega) (by omega)
    refine ru_to (se2_semi (mX := mA) (lX := mlA) hL hr ⟨⟨by rw [f1 266 (by decide) (by decide)]; exact h.1.1, by rw [f1 267 (by decide) (by decide)]; exact h.1.2.1, h.1.2.2⟩, (fun y hy => by rw [f1 259 (by decide) (by decide), f1 258 (by decide) (by decide)]; exact h.2.1 y hy), by rw [f1 268 (by decide) (by decide)]; exact h.2.2⟩ (fun x a b c => ⟨(f1 x a b).trans (hf x a b c).1, (f2 x a b c).trans (hf x a b c).2⟩) hk h13 ?_ ?_ ?_ ?_ ⟨g6, g7⟩) ⟨rfl, rfl, trivial⟩
    · unfold prt; rw [q1]; exact hp
    · rw [q1]; exact h3
    · rw [q1]; exact h4
    · rw [q1]; exact h5
theorem se2_rank (hL : LAY nx ct mr) (hr : isRu r) (h : RdOK N n t mX) (hf : fr3 r m0 mX l0 lX) (hk : mr r 0 = some (1 + κ)) (h13 : κ < 13) (hp : prt r mX s line) (h3 : mX r 3 = nI l) (h4 : mX r 4 = oR a) (h5 : mX r 5 = 0) : rx_W M_Rd_readSentence 9 0 0 63 [(0, .ref 268), (1, .ref r)] [] (nx, ct, tkM mX n t w, lX, mr) (pR (s1P r nx ct m0 l0 mr n t κ s line (rRank n t κ l a w))) := by
  unfold rRank
  cases e1 : pRank n t w with
  | inl k =>
    refine ru_aload_n d_Rd_readSentence_63 rfl rfl ?_
    refine ru_aload_n d_Rd_readSentence_64 rfl rfl ?_
    refine ru_callV (mc := 0) (ms := 0) d_Rd_readSentence_65 lm_Rd_86 (cl_readRank hL h hr h5) (rx_recv_is (ly hL 268 3 0) kx_Rd) (by decide) rfl (Nat.le_of_ble_eq_true rfl) ?_
    rw [e1]
    rintro v τ ⟨rfl, a, b, rfl, hf', hw⟩
    refine ru_if_eq (tgt := 83) d_Rd_readSentence_68 (by decide) (fun h68 => ?_) (fun h68 => absurd h68 (by decide))
    refine ru_iconst (v := 0) d_Rd_readSentence_83 (by decide) ?_
    refine ru_istore_n d_Rd_readSentence_84 rfl (by decide) ?_
    refine ru_iload_n d_Rd_readSentence_85 rfl rfl ?_
    refine ru_if_eq (tgt := 102) d_Rd_readSentence_86 (by decide) (fun h86 => ?_) (fun h86 => absurd h86 (by decide))
    refine ru_iconst (v := 0) d_Rd_readSentence_102 (by decide) ?_
    refine ru_zret (ty := .boolean) d_Rd_readSentence_103 rfl rfl ?_
    exact flP.of ⟨rfl, a, b, rfl, hf', hw⟩ (hf.rf hr)
  | inr q =>
    obtain ⟨x, w2⟩ := q
    refine ru_aload_n d_Rd_readSentence_63 rfl rfl ?_
    refine ru_aload_n d_Rd_readSentence_64 rfl rfl ?_
    refine ru_callV (mc := 0) (ms := 0) d_Rd_readSentence_65 lm_Rd_86 (cl_readRank hL h hr h5) (rx_recv_is (ly hL 268 3 0) kx_Rd) (by decide) rfl (Nat.le_of_ble_eq_true rfl) ?_
    rw [e1]
    rintro v τ ⟨rfl, rfl⟩
    refine ru_if_eq (tgt := 83) d_Rd_readSentence_68 (by decide) (fun h68 => absurd h68 (by decide)) (fun h68 => ?_)
    exact ru_to (se2_span hL hr (h.u hr) hf.u hk h13 hp.u (by rw [rx_u_k _ _ (by decide)]; exact h3) (by rw [rx_u_k _ _ (by decide)]; exact h4) (rx_u_same _ _ _ _)) ⟨rfl, rfl, trivial⟩
theorem se2_area (hL : LAY nx ct mr) (hr : isRu r) (h : RdOK N n t mX) (hf : fr3 r m0 mX l0 lX) (hk : mr r 0 = some (1 + κ)) (h13 : κ < 13) (hp : prt r mX s line) (h3 : mX r 3 = nI l) (h4 : mX r 4 = -1) (h5 : mX r 5 = 0) : rx_W M_Rd_readSentence 9 0 0 55 [(0, .ref 268), (1, .ref r)] [] (nx, ct, tkM mX n t w, lX, mr) (pR (s1P r nx ct m0 l0 mr n t κ s line (rArea N n t κ l w))) := by
  unfold rArea
  cases e1 : pArea N n t w with
  | inl k =>
    refine ru_aload_n d_Rd_readSentence_55 rfl rfl ?_
    refine ru_aload_n d_Rd_readSentence_56 rfl rfl ?_
    refine ru_callV (mc := 0) (ms := 0) d_Rd_readSentence_57 lm_Rd_83 (cl_readArea hL h hr h4) (rx_recv_is (ly hL 268 3 0) kx_Rd) (by decide) rfl (Nat.le_of_ble_eq_true rfl) ?_
    rw [e1]
    rintro v τ ⟨rfl, a, b, rfl, hf', hw⟩
    refine ru_if_eq (tgt := 83) d_Rd_readSentence_60 (by decide) (fun h60 => ?_) (fun h60 => absurd h60 (by decide))
    refine ru_iconst (v := 0) d_Rd_readSentence_83 (by decide) ?_
    refine ru_istore_n d_Rd_readSentence_84 rfl (by decide) ?_
    refine ru_iload_n d_Rd_readSentence_85 rfl rfl ?_
    refine ru_if_eq (tgt := 102) d_Rd_readSentence_86 (by decide) (fun h86 => ?_) (fun h86 => absurd h86 (by decide))
    refine ru_iconst (v := 0) d_Rd_readSentence_102 (by decide) ?_
    refine ru_zret (ty := .boolean) d_Rd_readSentence_103 rfl rfl ?_
    exact flP.of ⟨rfl, a, b, rfl, hf', hw⟩ (hf.rf hr)
  | inr q =>
    obtain ⟨x, w2⟩ := q
    refine ru_aload_n d_Rd_readSentence_55 rfl rfl ?_
    refine ru_aload_n d_Rd_readSentence_56 rfl rfl ?_
    refine ru_callV (mc := 0) (ms := 0) d_Rd_readSentence_57 lm_Rd_83 (cl_readArea hL h hr h4) (rx_recv_is (ly hL 268 3 0) kx_Rd) (by decide) rfl (Nat.le_of_ble_eq_true rfl) ?_
    rw [e1]
    rintro v τ ⟨rfl, rfl⟩
    refine ru_if_eq (tgt := 83) d_Rd_readSentence_60 (by decide) (fun h60 => absurd h60 (by decide)) (fun h60 => ?_)
    exact ru_to (se2_rank hL hr (h.u hr) hf.u hk h13 hp.u (by rw [rx_u_k _ _ (by decide)]; exact h3) (rx_u_same _ _ _ _) (by rw [rx_u_k _ _ (by decide)]; exact h5)) ⟨rfl, rfl, trivial⟩
theorem se2_layer (hL : LAY nx ct mr) (hr : isRu r) (h : RdOK N n t mX) (hf : fr3 r m0 mX l0 lX) (hk : mr r 0 = some (1 + κ)) (h13 : κ < 13) (hp : prt r mX s line) (h3 : mX r 3 = 0) (h4 : mX r 4 = -1) (h5 : mX r 5 = 0) : rx_W M_Rd_readSentence 9 0 0 47 [(0, .ref 268), (1, .ref r)] [] (nx, ct, tkM mX n t w, lX, mr) (pR (s1P r nx ct m0 l0 mr n t κ s line (rLayer N n t κ w))) := by
  unfold rLayer
  cases e1 : pLayer n t w with
  | inl k =>
    refine ru_aload_n d_Rd_readSentence_47 rfl rfl ?_
    refine ru_aload_n d_Rd_readSentence_48 rfl rfl ?_
    refine ru_callV (mc := 0) (ms := 0) d_Rd_readSentence_49 lm_Rd_80 (cl_readLayer hL h hr h3) (rx_recv_is (ly hL 268 3 0) kx_Rd) (by decide) rfl (Nat.le_of_ble_eq_true rfl) ?_
    rw [e1]
    rintro v τ ⟨rfl, a, b, rfl, hf', hw⟩
    refine ru_if_eq (tgt := 83) d_Rd_readSentence_52 (by decide) (fun h52 => ?_) (fun h52 => absurd h52 (by decide))
    refine ru_iconst (v := 0) d_Rd_readSentence_83 (by decide) ?_
    refine ru_istore_n d_Rd_readSentence_84 rfl (by decide) ?_
    refine ru_iload_n d_Rd_readSentence_85 rfl rfl ?_
    refine ru_if_eq (tgt := 102) d_Rd_readSentence_86 (by decide) (fun h86 => ?_) (fun h86 => absurd h86 (by decide))
    refine ru_iconst (v := 0) d_Rd_readSentence_102 (by decide) ?_
    refine ru_zret (ty := .boolean) d_Rd_readSentence_103 rfl rfl ?_
    exact flP.of ⟨rfl, a, b, rfl, hf', hw⟩ (hf.rf hr)
  | inr q =>
    obtain ⟨x, w2⟩ := q
    refine ru_aload_n d_Rd_readSentence_47 rfl rfl ?_
    refine ru_aload_n d_Rd_readSentence_48 rfl rfl ?_
    refine ru_callV (mc := 0) (ms := 0) d_Rd_readSentence_49 lm_Rd_80 (cl_readLayer hL h hr h3) (rx_recv_is (ly hL 268 3 0) kx_Rd) (by decide) rfl (Nat.le_of_ble_eq_true rfl) ?_
    rw [e1]
    rintro v τ ⟨rfl, rfl⟩
    refine ru_if_eq (tgt := 83) d_Rd_readSentence_52 (by decide) (fun h52 => absurd h52 (by decide)) (fun h52 => ?_)
    exact ru_to (se2_area hL hr (h.u hr) hf.u hk h13 hp.u (rx_u_same _ _ _ _) (by rw [rx_u_k _ _ (by decide)]; exact h4) (by rw [rx_u_k _ _ (by decide)]; exact h5)) ⟨rfl, rfl, trivial⟩
/-- a rule begun: its things read, then the rest -/
theorem se2_rest (hL : LAY nx ct mr) (hr : isRu r) (h : RdOK N n t mX) (hf : fr3 r m0 mX l0 lX) (hk : mr r 0 = some (1 + κ)) (h13 : κ < 13) (hp : prt r mX s line) (h3 : mX r 3 = 0) (h4 : mX r 4 = -1) (h5 : mX r 5 = 0) (h6 : lX r 6 = -1 ∧ lX r 7 = -1) : rx_W M_Rd_readSentence 9 0 0 40 [(0, .ref 268), (1, .ref r)] [] (nx, ct, tkM mX n t w, lX, mr) (pR (s1P r nx ct m0 l0 mr n t κ s line (rRest N n t κ w))) := by
  unfold rRest
  by_cases k12 : κ = 12
  · rw [if_pos k12]
    refine ru_aload_n d_Rd_readSentence_40 rfl rfl ?_
    refine ru_callV (mc := 0) (ms := 0) d_Rd_readSentence_41 lm_Rd_77 (cl_isWaiver hL hr hk h13) (rx_recv_is (ly_ru hL hr) kx_Ru) (by decide) rfl (Nat.le_of_ble_eq_true rfl) ?_
    intro v τ h
    obtain ⟨rfl, rfl⟩ := h
    refine ru_if_ne (tgt := 79) d_Rd_readSentence_44 (by decide) (fun h44 => ?_) (fun h44 => absurd h44 (bI_ne0.mpr k12))
    refine ru_iconst (v := 1) d_Rd_readSentence_79 (by decide) ?_
    refine ru_goto (tgt := 84) d_Rd_readSentence_80 (by decide) ?_
    refine ru_istore_n d_Rd_readSentence_84 rfl (by decide) ?_
    exact ru_to (se2_semi (e := (none, none)) hL hr h hf hk h13 hp h3 h4 h5 h6) ⟨rfl, rfl, trivial⟩
  · rw [if_neg k12]
    refine ru_aload_n d_Rd_readSentence_40 rfl rfl ?_
    refine ru_callV (mc := 0) (ms := 0) d_Rd_readSentence_41 lm_Rd_77 (cl_isWaiver hL hr hk h13) (rx_recv_is (ly_ru hL hr) kx_Ru) (by decide) rfl (Nat.le_of_ble_eq_true rfl) ?_
    intro v τ h
    obtain ⟨rfl, rfl⟩ := h
    refine ru_if_ne (tgt := 79) d_Rd_readSentence_44 (by decide) (fun h44 => absurd (bI_f k12) h44) (fun h44 => ?_)
    exact ru_to (se2_layer hL hr h hf hk h13 hp h3 h4 h5) ⟨rfl, rfl, trivial⟩
theorem bg_tk {v : Int32} (hr : r ≠ 266) : bgI (tkM mi n t j) r v = tkM (bgI mi r v) n t j := by
  unfold bgI
  rw [tkM_u hr, tkM_u hr, tkM_u hr, tkM_u hr, tkM_u hr, tkM_u hr]
theorem bg_k {v : Int32} {k : Nat} (h1 : k ≠ 1) (h2 : k ≠ 2) (h3 : k ≠ 3) (h4 : k ≠ 4) (h5 : k ≠ 5) (h8 : k ≠ 8) : bgI mi r v r k = mi r k := by
  unfold bgI
  rw [rx_u_k _ _ h8, rx_u_k _ _ h5, rx_u_k _ _ h4, rx_u_k _ _ h3, rx_u_k _ _ h2, rx_u_k _ _ h1]
theorem bg_r {v : Int32} {x : Nat} (hx : x ≠ r) : bgI mi r v x = mi x := by
  unfold bgI
  rw [rx_u_r _ _ hx, rx_u_r _ _ hx, rx_u_r _ _ hx, rx_u_r _ _ hx, rx_u_r _ _ hx, rx_u_r _ _ hx]
theorem bl_r {x : Nat} (hx : x ≠ r) : bgL ml r x = ml x := by
  unfold bgL
  rw [rx_u_r _ _ hx, rx_u_r _ _ hx]
def snQ (r nx : Nat) (ct : Nat → Nat × Nat) (mi : Nat → Nat → Int32) (ml : Nat → Nat → Int64) (mr : Nat → Nat → Option Nat) (n : Nat) (t : Nat → Int32) (q : Nat ⊕ (ruS × Nat)) : Option Value → rx_S → Prop := fun v τ => match q with
  | .inl k => v = some (.int 0) ∧ ∃ mi' ml' mr', τ = (nx, ct, mi', ml', mr') ∧ RF r mi mi' ml ml' ∧ wrg k mi' ∧ (∀ x, x ≠ r → mr' x = mr x) ∧ LAY nx ct mr'
  | .inr (q, w) => v = some (.int 1) ∧ ∃ mA mlA mrA, τ = (nx, ct, tkM mA n t w, mlA, mrA) ∧ (∀ x, x ≠ 269 → x ≠ 270 → x ≠ r → mA x = mi x ∧ mlA x = ml x ∧ mrA x = mr x) ∧ LAY nx ct mrA ∧ clI mA mlA mrA r q
theorem cl_readSentence (hL : LAY nx ct mr) (h : RdOK N n t mi) (hr : isRu r) : rx_Calls y_Rd_readSentence M_Rd_readSentence 9 0 0 [.ref 268, .ref r] (nx, ct, tkM mi n t j, ml, mr) (snQ r nx ct mi ml mr n t (pSent N n t j)) := by
  refine rx_enter (by decide) rfl rfl (Nat.le_of_ble_eq_true rfl) ?_
  have z := isRu_ne hr
  unfold pSent
  cases e : knd n t j with
  | none =>
    refine ru_aload_n d_Rd_readSentence_0 rfl rfl ?_
    refine ru_callV (mc := 0) (ms := 0) d_Rd_readSentence_1 lm_Rd_58 (cl_findKind hL h.1) (rx_recv_is (ly hL 268 3 0) kx_Rd) (by decide) rfl (Nat.le_of_ble_eq_true rfl) ?_
    rw [e]
    rintro v τ ⟨rfl, rfl⟩
    refine ru_astore_nN d_Rd_readSentence_4 rfl (by decide) ?_
    refine ru_aload_nN d_Rd_readSentence_5 rfl rfl ?_
    refine ru_ifnonnullN d_Rd_readSentence_6 ?_
    refine ru_iconst (v := 0) d_Rd_readSentence_9 (by decide) ?_
    refine ru_zret (ty := .boolean) d_Rd_readSentence_10 rfl rfl ?_
    exact ⟨rfl, _, _, _, rfl, RF.tk rfl, wrg_tk h, fun _ _ => rfl, hL⟩
  | some κ =>
    have h13 := knd_lt e
    have hL1 : LAY nx ct (rx_u mr r 0 (some (1 + κ))) := hL.ru _ hr
    have hk : rx_u mr r 0 (some (1 + κ)) r 0 = some (1 + κ) := rx_u_same _ _ _ _
    have mrf : ∀ x, x ≠ r → rx_u mr r 0 (some (1 + κ)) x = mr x := fun x hx => rx_u_r _ _ hx
    obtain ⟨line, hln⟩ : ∃ line, lnF t (tk n t j).1 = line := ⟨_, rfl⟩
    have hb : RdOK N n t (bgI mi r (nI line)) := (((((h.u hr).u hr).u hr).u hr).u hr).u hr
    have f0 : fr3 r mi (bgI mi r (nI line)) ml (bgL ml r) := fun x a b c => ⟨bg_r c, bl_r c⟩
    have b1 : bgI mi r (nI line) r 1 = -1 := by unfold bgI; rw [rx_u_k _ _ (by decide), rx_u_k _ _ (by decide), rx_u_k _ _ (by decide), rx_u_k _ _ (by decide), rx_u_k _ _ (by decide), rx_u_same]
    have b2 : bgI mi r (nI line) r 2 = -1 := by unfold bgI; rw [rx_u_k _ _ (by decide), rx_u_k _ _ (by decide), rx_u_k _ _ (by decide), rx_u_k _ _ (by decide), rx_u_same]
    have b3 : bgI mi r (nI line) r 3 = 0 := by unfold bgI; rw [rx_u_k _ _ (by decide), rx_u_k _ _ (by decide), rx_u_k _ _ (by decide), rx_u_same]
    have b4 : bgI mi r (nI line) r 4 = -1 := by unfold bgI; rw [rx_u_k _ _ (by decide), rx_u_k _ _ (by decide), rx_u_same]
    have b5 : bgI mi r (nI line) r 5 = 0 := by unfold bgI; rw [rx_u_k _ _ (by decide), rx_u_same]
    have b8 : bgI mi r (nI line) r 8 = nI line := by unfold bgI; rw [rx_u_same]
    have b67 : bgL ml r r 6 = -1 ∧ bgL ml r r 7 = -1 := ⟨by unfold bgL; rw [rx_u_k _ _ (by decide), rx_u_same], by unfold bgL; rw [rx_u_same]⟩
    show rx_W _ _ _ _ _ _ _ _ (pR (snQ r nx ct mi ml mr n t (match pScope N n t κ (j + 1) with | .inl k => .inl k | .inr (s, j1) => match rRest N n t κ j1 with | .inl k => .inl k | .inr (q, j2) => .inr ((κ, s, q.1, q.2.1, q.2.2.1, q.2.2.2, lnF t (tk n t j).1), j2))))
    cases e1 : pScope N n t κ (j + 1) with
    | inl k =>
      refine ru_aload_n d_Rd_readSentence_0 rfl rfl ?_
      refine ru_callV (mc := 0) (ms := 0) d_Rd_readSentence_1 lm_Rd_58 (cl_findKind hL h.1) (rx_recv_is (ly hL 268 3 0) kx_Rd) (by decide) rfl (Nat.le_of_ble_eq_true rfl) ?_
      rw [e]
      rintro v τ ⟨rfl, rfl⟩
      refine ru_astore_n d_Rd_readSentence_4 rfl (by decide) ?_
      refine ru_aload_n d_Rd_readSentence_5 rfl rfl ?_
      refine ru_ifnonnull (tgt := 11) d_Rd_readSentence_6 (by decide) ?_
      refine ru_aload_n d_Rd_readSentence_11 rfl rfl ?_
      refine ru_aload_n d_Rd_readSentence_12 rfl rfl ?_
      refine ru_aload_n d_Rd_readSentence_13 rfl rfl ?_
      refine ru_getR d_Rd_readSentence_14 lf_Rd_21 (ly hL 268 3 0) rfl (lr hL 268 0 266) ?_
      refine ru_getI d_Rd_readSentence_17 lf_Rd_62 (ly hL 266 7 0) rfl ?_
      refine ru_eqi (tkM_5.trans (by rw [hln])) ?_
      refine ru_callV (mc := 0) (ms := 0) d_Rd_readSentence_20 lm_Rd_65 (cl_begin hL hr) (rx_recv_is (ly_ru hL1 hr) kx_Ru) (by decide) rfl (Nat.le_of_ble_eq_true rfl) ?_
      rintro v τ ⟨rfl, rfl⟩
      rw [bg_tk z.2.2.2.2.1]
      refine ru_aload_n d_Rd_readSentence_23 rfl rfl ?_
      refine ru_getR d_Rd_readSentence_24 lf_Rd_21 (ly hL1 268 3 0) rfl (lr hL1 268 0 266) ?_
      refine ru_callV (mc := 0) (ms := 0) d_Rd_readSentence_27 lm_Rd_71 (cl_goOn hL1 hb.1) (rx_recv_is (ly hL1 266 7 0) kx_Wo) (by decide) rfl (Nat.le_of_ble_eq_true rfl) ?_
      intro v τ h
      obtain ⟨rfl, rfl⟩ := h
      refine ru_aload_n d_Rd_readSentence_30 rfl rfl ?_
      refine ru_aload_n d_Rd_readSentence_31 rfl rfl ?_
      refine ru_callV (mc := 0) (ms := 0) d_Rd_readSentence_32 lm_Rd_74 (cl_readScope hL1 hb hr hk h13 b1 b2) (rx_recv_is (ly hL1 268 3 0) kx_Rd) (by decide) rfl (Nat.le_of_ble_eq_true rfl) ?_
      rw [e1]
      rintro v τ ⟨rfl, a, b, rfl, hf', hw⟩
      refine ru_if_ne (tgt := 40) d_Rd_readSentence_35 (by decide) (fun h35 => absurd h35 (by decide)) (fun h35 => ?_)
      refine ru_iconst (v := 0) d_Rd_readSentence_38 (by decide) ?_
      refine ru_zret (ty := .boolean) d_Rd_readSentence_39 rfl rfl ?_
      exact ⟨rfl, a, b, _, rfl, (f0.rf hr).trans hf', hw, mrf, hL1⟩
    | inr q =>
      obtain ⟨s, w⟩ := q
      show rx_W _ _ _ _ _ _ _ _ (pR (snQ r nx ct mi ml mr n t (match rRest N n t κ w with | .inl k => .inl k | .inr (q, j2) => .inr ((κ, s, q.1, q.2.1, q.2.2.1, q.2.2.2, lnF t (tk n t j).1), j2))))
      rw [hln]
      have fin : ∀ v τ, s1P r nx ct mi ml (rx_u mr r 0 (some (1 + κ))) n t κ s line (rRest N n t κ w) v τ → snQ r nx ct mi ml mr n t (match rRest N n t κ w with | .inl k => .inl k | .inr (q, j2) => .inr ((κ, s, q.1, q.2.1, q.2.2.1, q.2.2.2, line), j2)) v τ := by
        intro v τ y
        cases e2 : rRest N n t κ w with
        | inl k =>
          rw [e2] at y
          obtain ⟨y1, a, b, y2, y3, y4⟩ := y
          exact ⟨y1, a, b, _, y2, y3, y4, mrf, hL1⟩
        | inr q =>
          rw [e2] at y
          obtain ⟨y1, mA, mlA, y2, y3, y4⟩ := y
          exact ⟨y1, mA, mlA, _, y2, fun x a b c => ⟨(y3 x a b c).1, (y3 x a b c).2, mrf x c⟩, hL1, y4⟩
      refine ru_post fin ?_
      refine ru_aload_n d_Rd_readSentence_0 rfl rfl ?_
      refine ru_callV (mc := 0) (ms := 0) d_Rd_readSentence_1 lm_Rd_58 (cl_findKind hL h.1) (rx_recv_is (ly hL 268 3 0) kx_Rd) (by decide) rfl (Nat.le_of_ble_eq_true rfl) ?_
      rw [e]
      rintro v τ ⟨rfl, rfl⟩
      refine ru_astore_n d_Rd_readSentence_4 rfl (by decide) ?_
      refine ru_aload_n d_Rd_readSentence_5 rfl rfl ?_
      refine ru_ifnonnull (tgt := 11) d_Rd_readSentence_6 (by decide) ?_
      refine ru_aload_n d_Rd_readSentence_11 rfl rfl ?_
      refine ru_aload_n d_Rd_readSentence_12 rfl rfl ?_
      refine ru_aload_n d_Rd_readSentence_13 rfl rfl ?_
      refine ru_getR d_Rd_readSentence_14 lf_Rd_21 (ly hL 268 3 0) rfl (lr hL 268 0 266) ?_
      refine ru_getI d_Rd_readSentence_17 lf_Rd_62 (ly hL 266 7 0) rfl ?_
      refine ru_eqi (tkM_5.trans (by rw [hln])) ?_
      refine ru_callV (mc := 0) (ms := 0) d_Rd_readSentence_20 lm_Rd_65 (cl_begin hL hr) (rx_recv_is (ly_ru hL1 hr) kx_Ru) (by decide) rfl (Nat.le_of_ble_eq_true rfl) ?_
      rintro v τ ⟨rfl, rfl⟩
      rw [bg_tk z.2.2.2.2.1]
      refine ru_aload_n d_Rd_readSentence_23 rfl rfl ?_
      refine ru_getR d_Rd_readSentence_24 lf_Rd_21 (ly hL1 268 3 0) rfl (lr hL1 268 0 266) ?_
      refine ru_callV (mc := 0) (ms := 0) d_Rd_readSentence_27 lm_Rd_71 (cl_goOn hL1 hb.1) (rx_recv_is (ly hL1 266 7 0) kx_Wo) (by decide) rfl (Nat.le_of_ble_eq_true rfl) ?_
      intro v τ h
      obtain ⟨rfl, rfl⟩ := h
      refine ru_aload_n d_Rd_readSentence_30 rfl rfl ?_
      refine ru_aload_n d_Rd_readSentence_31 rfl rfl ?_
      refine ru_callV (mc := 0) (ms := 0) d_Rd_readSentence_32 lm_Rd_74 (cl_readScope hL1 hb hr hk h13 b1 b2) (rx_recv_is (ly hL1 268 3 0) kx_Rd) (by decide) rfl (Nat.le_of_ble_eq_true rfl) ?_
      rw [e1]
      rintro v τ ⟨rfl, rfl⟩
      refine ru_if_ne (tgt := 40) d_Rd_readSentence_35 (by decide) (fun h35 => ?_) (fun h35 => absurd h35 (by decide))
      exact ru_to (se2_rest hL1 hr ((hb.u hr).u hr) f0.u.u hk h13 ⟨by rw [rx_u_k _ _ (by decide), rx_u_same], rx_u_same _ _ _ _, by rw [rx_u_k _ _ (by decide), rx_u_k _ _ (by decide)]; exact b8⟩ (by rw [rx_u_k _ _ (by decide), rx_u_k _ _ (by decide)]; exact b3) (by rw [rx_u_k _ _ (by decide), rx_u_k _ _ (by decide)]; exact b4) (by rw [rx_u_k _ _ (by decide), rx_u_k _ _ (by decide)]; exact b5) b67) ⟨rfl, rfl, trivial⟩
end
