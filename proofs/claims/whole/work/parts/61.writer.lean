/-! The class writes: names and numbers -/
theorem d_Wr_writeName_0 : decode M_Wr_writeName.2.1 0 = .ok (.aload_n 0, 1) := by decide +kernel
theorem d_Wr_writeName_1 : decode M_Wr_writeName.2.1 1 = .ok (.getfield 12, 3) := by decide +kernel
theorem d_Wr_writeName_4 : decode M_Wr_writeName.2.1 4 = .ok (.bipush 32, 2) := by decide +kernel
theorem d_Wr_writeName_6 : decode M_Wr_writeName.2.1 6 = .ok (.invokevirtual 117, 3) := by decide +kernel
theorem d_Wr_writeName_9 : decode M_Wr_writeName.2.1 9 = .ok (.pop, 1) := by decide +kernel
theorem d_Wr_writeName_10 : decode M_Wr_writeName.2.1 10 = .ok (.iconst 0, 1) := by decide +kernel
theorem d_Wr_writeName_11 : decode M_Wr_writeName.2.1 11 = .ok (.istore_n 2, 1) := by decide +kernel
theorem d_Wr_writeName_12 : decode M_Wr_writeName.2.1 12 = .ok (.iload_n 2, 1) := by decide +kernel
theorem d_Wr_writeName_13 : decode M_Wr_writeName.2.1 13 = .ok (.aload_n 0, 1) := by decide +kernel
theorem d_Wr_writeName_14 : decode M_Wr_writeName.2.1 14 = .ok (.getfield 18, 3) := by decide +kernel
theorem d_Wr_writeName_17 : decode M_Wr_writeName.2.1 17 = .ok (.getfield 120, 3) := by decide +kernel
theorem d_Wr_writeName_20 : decode M_Wr_writeName.2.1 20 = .ok (.iload_n 1, 1) := by decide +kernel
theorem d_Wr_writeName_21 : decode M_Wr_writeName.2.1 21 = .ok (.iaload, 1) := by decide +kernel
theorem d_Wr_writeName_22 : decode M_Wr_writeName.2.1 22 = .ok (.if_icmp .ge 31, 3) := by decide +kernel
theorem d_Wr_writeName_25 : decode M_Wr_writeName.2.1 25 = .ok (.aload_n 0, 1) := by decide +kernel
theorem d_Wr_writeName_26 : decode M_Wr_writeName.2.1 26 = .ok (.getfield 12, 3) := by decide +kernel
theorem d_Wr_writeName_29 : decode M_Wr_writeName.2.1 29 = .ok (.aload_n 0, 1) := by decide +kernel
theorem d_Wr_writeName_30 : decode M_Wr_writeName.2.1 30 = .ok (.getfield 18, 3) := by decide +kernel
theorem d_Wr_writeName_33 : decode M_Wr_writeName.2.1 33 = .ok (.getfield 126, 3) := by decide +kernel
theorem d_Wr_writeName_36 : decode M_Wr_writeName.2.1 36 = .ok (.iload_n 1, 1) := by decide +kernel
theorem d_Wr_writeName_37 : decode M_Wr_writeName.2.1 37 = .ok (.bipush 8, 2) := by decide +kernel
theorem d_Wr_writeName_39 : decode M_Wr_writeName.2.1 39 = .ok (.imul, 1) := by decide +kernel
theorem d_Wr_writeName_40 : decode M_Wr_writeName.2.1 40 = .ok (.iload_n 2, 1) := by decide +kernel
theorem d_Wr_writeName_41 : decode M_Wr_writeName.2.1 41 = .ok (.iadd, 1) := by decide +kernel
theorem d_Wr_writeName_42 : decode M_Wr_writeName.2.1 42 = .ok (.caload, 1) := by decide +kernel
theorem d_Wr_writeName_43 : decode M_Wr_writeName.2.1 43 = .ok (.invokevirtual 117, 3) := by decide +kernel
theorem d_Wr_writeName_46 : decode M_Wr_writeName.2.1 46 = .ok (.pop, 1) := by decide +kernel
theorem d_Wr_writeName_47 : decode M_Wr_writeName.2.1 47 = .ok (.iinc 2 1, 3) := by decide +kernel
theorem d_Wr_writeName_50 : decode M_Wr_writeName.2.1 50 = .ok (.goto (-38), 3) := by decide +kernel
theorem d_Wr_writeName_53 : decode M_Wr_writeName.2.1 53 = .ok (.return_, 1) := by decide +kernel
theorem d_Wr_writeNumber_0 : decode M_Wr_writeNumber.2.1 0 = .ok (.aload_n 0, 1) := by decide +kernel
theorem d_Wr_writeNumber_1 : decode M_Wr_writeNumber.2.1 1 = .ok (.getfield 12, 3) := by decide +kernel
theorem d_Wr_writeNumber_4 : decode M_Wr_writeNumber.2.1 4 = .ok (.bipush 32, 2) := by decide +kernel
theorem d_Wr_writeNumber_6 : decode M_Wr_writeNumber.2.1 6 = .ok (.invokevirtual 117, 3) := by decide +kernel
theorem d_Wr_writeNumber_9 : decode M_Wr_writeNumber.2.1 9 = .ok (.pop, 1) := by decide +kernel
theorem d_Wr_writeNumber_10 : decode M_Wr_writeNumber.2.1 10 = .ok (.ldc2_w 174, 3) := by decide +kernel
theorem d_Wr_writeNumber_13 : decode M_Wr_writeNumber.2.1 13 = .ok (.lstore_n 3, 1) := by decide +kernel
theorem d_Wr_writeNumber_14 : decode M_Wr_writeNumber.2.1 14 = .ok (.lload_n 3, 1) := by decide +kernel
theorem d_Wr_writeNumber_15 : decode M_Wr_writeNumber.2.1 15 = .ok (.lconst 1, 1) := by decide +kernel
theorem d_Wr_writeNumber_16 : decode M_Wr_writeNumber.2.1 16 = .ok (.lcmp, 1) := by decide +kernel
theorem d_Wr_writeNumber_17 : decode M_Wr_writeNumber.2.1 17 = .ok (.ifCond .lt 45, 3) := by decide +kernel
theorem d_Wr_writeNumber_20 : decode M_Wr_writeNumber.2.1 20 = .ok (.lload_n 1, 1) := by decide +kernel
theorem d_Wr_writeNumber_21 : decode M_Wr_writeNumber.2.1 21 = .ok (.lload_n 3, 1) := by decide +kernel
theorem d_Wr_writeNumber_22 : decode M_Wr_writeNumber.2.1 22 = .ok (.lcmp, 1) := by decide +kernel
theorem d_Wr_writeNumber_23 : decode M_Wr_writeNumber.2.1 23 = .ok (.ifCond .ge 9, 3) := by decide +kernel
theorem d_Wr_writeNumber_26 : decode M_Wr_writeNumber.2.1 26 = .ok (.lload_n 3, 1) := by decide +kernel
theorem d_Wr_writeNumber_27 : decode M_Wr_writeNumber.2.1 27 = .ok (.lconst 1, 1) := by decide +kernel
theorem d_Wr_writeNumber_28 : decode M_Wr_writeNumber.2.1 28 = .ok (.lcmp, 1) := by decide +kernel
theorem d_Wr_writeNumber_29 : decode M_Wr_writeNumber.2.1 29 = .ok (.ifCond .ne 24, 3) := by decide +kernel
theorem d_Wr_writeNumber_32 : decode M_Wr_writeNumber.2.1 32 = .ok (.aload_n 0, 1) := by decide +kernel
theorem d_Wr_writeNumber_33 : decode M_Wr_writeNumber.2.1 33 = .ok (.getfield 12, 3) := by decide +kernel
theorem d_Wr_writeNumber_36 : decode M_Wr_writeNumber.2.1 36 = .ok (.ldc2_w 176, 3) := by decide +kernel
theorem d_Wr_writeNumber_39 : decode M_Wr_writeNumber.2.1 39 = .ok (.lload_n 1, 1) := by decide +kernel
theorem d_Wr_writeNumber_40 : decode M_Wr_writeNumber.2.1 40 = .ok (.lload_n 3, 1) := by decide +kernel
theorem d_Wr_writeNumber_41 : decode M_Wr_writeNumber.2.1 41 = .ok (.ldiv, 1) := by decide +kernel
theorem d_Wr_writeNumber_42 : decode M_Wr_writeNumber.2.1 42 = .ok (.ldc2_w 178, 3) := by decide +kernel
theorem d_Wr_writeNumber_45 : decode M_Wr_writeNumber.2.1 45 = .ok (.lrem, 1) := by decide +kernel
theorem d_Wr_writeNumber_46 : decode M_Wr_writeNumber.2.1 46 = .ok (.ladd, 1) := by decide +kernel
theorem d_Wr_writeNumber_47 : decode M_Wr_writeNumber.2.1 47 = .ok (.l2i, 1) := by decide +kernel
theorem d_Wr_writeNumber_48 : decode M_Wr_writeNumber.2.1 48 = .ok (.i2c, 1) := by decide +kernel
theorem d_Wr_writeNumber_49 : decode M_Wr_writeNumber.2.1 49 = .ok (.invokevirtual 117, 3) := by decide +kernel
theorem d_Wr_writeNumber_52 : decode M_Wr_writeNumber.2.1 52 = .ok (.pop, 1) := by decide +kernel
theorem d_Wr_writeNumber_53 : decode M_Wr_writeNumber.2.1 53 = .ok (.lload_n 3, 1) := by decide +kernel
theorem d_Wr_writeNumber_54 : decode M_Wr_writeNumber.2.1 54 = .ok (.ldc2_w 178, 3) := by decide +kernel
theorem d_Wr_writeNumber_57 : decode M_Wr_writeNumber.2.1 57 = .ok (.ldiv, 1) := by decide +kernel
theorem d_Wr_writeNumber_58 : decode M_Wr_writeNumber.2.1 58 = .ok (.lstore_n 3, 1) := by decide +kernel
theorem d_Wr_writeNumber_59 : decode M_Wr_writeNumber.2.1 59 = .ok (.goto (-45), 3) := by decide +kernel
theorem d_Wr_writeNumber_62 : decode M_Wr_writeNumber.2.1 62 = .ok (.return_, 1) := by decide +kernel
theorem cp_diff {c a b B : Nat} (h1 : a ≤ b) (h2 : b ≤ B) : cp c B - cp c a = (cp c b - cp c a) + (cp c B - cp c b) := by
  have := cp_mono (c := c) h1
  have := cp_mono (c := c) h2
  omega
section
variable {M M' : rx_M} {y : MethodName} {d d1 pc ix r B : Nat} {lo : List (Nat × Value)} {stk as st : List Value} {post : rx_End} {v0 : Option Value} {nx c0 : Nat} {ct : Nat → Nat × Nat} {mi : Nat → Nat → Int32} {ml : Nat → Nat → Int64} {mr : Nat → Nat → Option Nat} {l p : List Int32}
/-- a method puts p behind what the builder holds -/
def WC (c0 : Nat) (y : MethodName) (M : rx_M) (d : Nat) (as : List Value) (v0 : Option Value) (nx : Nat) (ct : Nat → Nat × Nat) (mi : Nat → Nat → Int32) (ml : Nat → Nat → Int64) (mr : Nat → Nat → Option Nat) (l p : List Int32) : Prop := rx_Calls y M d (cp c0 (l ++ p).length - cp c0 l.length) (2 * (cp c0 (l ++ p).length - cp c0 l.length)) as (nx, ct, mi, ml, mr) (sbP v0 nx ct mi ml mr (l ++ p) (cp c0 (l ++ p).length))
theorem ru_appV (hd : decode M.2.1 pc = .ok (.invokevirtual ix, 3)) (hL : rx_LV M.1 ix y M' as.length) (hc : WC c0 y M' d1 (.ref r :: as) v0 nx ct mi ml mr l p) (hv : rx_recv (nx, ct, mi, ml, mr) r y.cls) (hdd : d1 + 1 ≤ d) (hstk : stk = as.reverse ++ .ref r :: st) (hcat : (st.map fun v => v.category).sum ≤ 8) (hB : (l ++ p).length ≤ B)
    (k : ∀ nx' ct' mi' ml' mr' vb', frW nx nx' ct ct' mi mi' ml ml' mr mr' → LAY nx' ct' mr' → SbI nx' ct' mi' mr' vb' (l ++ p) (cp c0 (l ++ p).length) → rx_W M d (cp c0 B - cp c0 (l ++ p).length) (2 * (cp c0 B - cp c0 (l ++ p).length)) (pc + 3) lo (v0.toList ++ st) (nx', ct', mi', ml', mr') post) : rx_W M d (cp c0 B - cp c0 l.length) (2 * (cp c0 B - cp c0 l.length)) pc lo stk (nx, ct, mi, ml, mr) post := by
  have e := cp_diff (c := c0) (a := l.length) (b := (l ++ p).length) (B := B) (by rw [List.length_append]; omega) hB
  refine ru_mcs e (show _ = 2 * (cp c0 (l ++ p).length - cp c0 l.length) + 2 * (cp c0 B - cp c0 (l ++ p).length) by omega) (ru_callV hd hL hc hv hdd hstk hcat ?_)
  rintro v τ ⟨rfl, nx', ct', mi', ml', mr', vb', rfl, f1, hL1, s1⟩
  exact k nx' ct' mi' ml' mr' vb' f1 hL1 s1
theorem sbP.of {nx1 : Nat} {ct1 : Nat → Nat × Nat} {m1 : Nat → Nat → Int32} {l1 : Nat → Nat → Int64} {r1 : Nat → Nat → Option Nat} {C : Nat} {v : Option Value} {τ : rx_S} (f : frW nx nx1 ct ct1 mi m1 ml l1 mr r1) (h : sbP v0 nx1 ct1 m1 l1 r1 l C v τ) : sbP v0 nx ct mi ml mr l C v τ := by
  obtain ⟨h1, nx', ct', mi', ml', mr', vb, h2, h3, h4⟩ := h
  exact ⟨h1, nx', ct', mi', ml', mr', vb, h2, f.trans h3, h4⟩
theorem NmC.fr {N : nmS} {nx1 : Nat} {ct1 : Nat → Nat × Nat} {m1 : Nat → Nat → Int32} {l1 : Nat → Nat → Int64} {r1 : Nat → Nat → Option Nat} (h : NmC N mi) (f : frW nx nx1 ct ct1 mi m1 ml l1 mr r1) : NmC N m1 := by
  intro y hy
  rw [((f.2 259 (by decide)).2 (by decide) (by decide)).1, ((f.2 258 (by decide)).2 (by decide) (by decide)).1]
  exact h y hy
theorem clI.fr {q : ruS} {nx1 : Nat} {ct1 : Nat → Nat × Nat} {m1 : Nat → Nat → Int32} {l1 : Nat → Nat → Int64} {r1 : Nat → Nat → Option Nat} (h : clI mi ml mr r q) (hr : isRu r) (f : frW nx nx1 ct ct1 mi m1 ml l1 mr r1) : clI m1 l1 r1 r q := by
  unfold isRu at hr
  obtain ⟨a, b, c⟩ := (f.2 r (by omega)).2 (by omega) (by omega)
  exact h.of a b c
variable {vb : Nat} {u : Int32}
theorem w_C (hL : LAY nx ct mr) (h : SbI nx ct mi mr vb l (cp c0 l.length)) (hu : asc u) (hm3 : cp c0 (l ++ [u]).length ≤ 200000) : WC c0 y_SB_append_C M_SB_append_C 5 [.ref 272, .int u] (some (.ref 272)) nx ct mi ml mr l [u] := by
  have z := js_appendC (ml := ml) hL h hu (by rw [cp_comp (by omega)]; rw [List.length_append] at hm3; exact hm3)
  rw [cp_comp (by omega)] at z
  unfold WC
  rw [List.length_append]
  exact z
theorem w_S {s : Nat} (hL : LAY nx ct mr) (h : SbI nx ct mi mr vb l (cp c0 l.length)) (hs : s < 61) (h18 : rx_sl s ≤ 18) (hm3 : cp c0 (l ++ rx_tx s).length ≤ 200000) : WC c0 y_SB_append_LString M_SB_append_LString 5 [.ref 272, .ref (30 + s)] (some (.ref 272)) nx ct mi ml mr l (rx_tx s) := by
  rw [List.length_append] at hm3
  have z := js_appendS (ml := ml) hL h hs h18 (by rw [cp_comp (by omega)]; exact hm3)
  rw [cp_comp (by omega)] at z
  unfold WC
  rw [List.length_append]
  exact z
theorem w_I {k : Nat} (hL : LAY nx ct mr) (h : SbI nx ct mi mr vb l (cp c0 l.length)) (h1 : 1 ≤ k) (h2 : k < 100) (hm3 : cp c0 (l ++ dec k).length ≤ 200000) : WC c0 y_SB_append_I M_SB_append_I 5 [.ref 272, .int (nI k)] (some (.ref 272)) nx ct mi ml mr l (dec k) := by
  rw [List.length_append] at hm3
  have z := js_appendI (ml := ml) hL h h1 h2 (by rw [cp_comp (by omega)]; exact hm3)
  rw [cp_comp (by omega)] at z
  unfold WC
  rw [List.length_append]
  exact z
theorem isLD_asc (h : isLD u) : asc u := by unfold isLD at h; unfold asc; omega
theorem w_nameL {N : nmS} {k : Nat} (hO : NmOK N) (hk : k < 48) : ∀ f i nx ct mi ml mr vb l, i ≤ N.1 k → f = N.1 k - i → LAY nx ct mr → SbI nx ct mi mr vb l (cp c0 l.length) → NmC N mi → cp c0 (l ++ nmL N k f i).length ≤ 200000 → rx_W M_Wr_writeName 6 (cp c0 (l ++ nmL N k f i).length - cp c0 l.length) (2 * (cp c0 (l ++ nmL N k f i).length - cp c0 l.length)) 12 [(0, .ref 271), (1, .int (nI k)), (2, .int (nI i))] [] (nx, ct, mi, ml, mr) (pR (sbP none nx ct mi ml mr (l ++ nmL N k f i) (cp c0 (l ++ nmL N k f i).length))) := by
  have o1 := hO k hk
  intro f
  induction f with
  | zero =>
    intro i nx ct mi ml mr vb l hi hf hL h hN hm3
    have n1 := (hN k hk).1
    rw [show nmL N k 0 i = [] from rfl, List.append_nil] at *
    refine ru_iload_n d_Wr_writeName_12 rfl rfl ?_
    refine ru_aload_n d_Wr_writeName_13 rfl rfl ?_
    refine ru_getR d_Wr_writeName_14 lf_Wr_18 (ly hL 271 8 0) rfl (lr hL 271 1 257) ?_
    refine ru_getR d_Wr_writeName_17 lf_Wr_120 (ly hL 257 2 0) rfl (lr hL 257 1 259) ?_
    refine ru_iload_n d_Wr_writeName_20 rfl rfl ?_
    refine ru_ialdN (j := k) d_Wr_writeName_21 (ly hL 259 100 48) (by omega) (by decide) ?_
    refine ru_eqi n1 ?_
    refine ru_icmp_ge (tgt := 53) d_Wr_writeName_22 (by decide) (fun h22 => ?_) (fun h22 => absurd (nI_le (by omega) (by omega)) h22)
    replace h22 := nm_le (a := (N.1 k)) (b := i) (by omega) (by omega) h22
    refine ru_vret d_Wr_writeName_53 rfl ?_
    exact ⟨rfl, nx, ct, mi, ml, mr, vb, rfl, frW.refl, hL, h⟩
  | succ f ih =>
    intro i nx ct mi ml mr vb l hi hf hL h hN hm3
    have n1 := (hN k hk).1
    have n3 := (hN k hk).2.2 i (by omega)
    have e : l ++ nmL N k (f + 1) i = (l ++ [N.2 k i]) ++ nmL N k f (i + 1) := List.append_cons l (N.2 k i) _
    rw [e] at hm3 ⊢
    have hB : (l ++ [N.2 k i]).length ≤ ((l ++ [N.2 k i]) ++ nmL N k f (i + 1)).length := by rw [List.length_append (as := l ++ [N.2 k i])]; omega
    refine ru_iload_n d_Wr_writeName_12 rfl rfl ?_
    refine ru_aload_n d_Wr_writeName_13 rfl rfl ?_
    refine ru_getR d_Wr_writeName_14 lf_Wr_18 (ly hL 271 8 0) rfl (lr hL 271 1 257) ?_
    refine ru_getR d_Wr_writeName_17 lf_Wr_120 (ly hL 257 2 0) rfl (lr hL 257 1 259) ?_
    refine ru_iload_n d_Wr_writeName_20 rfl rfl ?_
    refine ru_ialdN (j := k) d_Wr_writeName_21 (ly hL 259 100 48) (by omega) (by decide) ?_
    refine ru_eqi n1 ?_
    refine ru_icmp_ge (tgt := 53) d_Wr_writeName_22 (by decide) (fun h22 => absurd h22 (nI_ge (by omega) (by omega))) (fun h22 => ?_)
    replace h22 := nm_nle (a := (N.1 k)) (b := i) (by omega) (by omega) h22
    refine ru_aload_n d_Wr_writeName_25 rfl rfl ?_
    refine ru_getR d_Wr_writeName_26 lf_Wr_12 (ly hL 271 8 0) rfl (lr hL 271 0 272) ?_
    refine ru_aload_n d_Wr_writeName_29 rfl rfl ?_
    refine ru_getR d_Wr_writeName_30 lf_Wr_18 (ly hL 271 8 0) rfl (lr hL 271 1 257) ?_
    refine ru_getR d_Wr_writeName_33 lf_Wr_126 (ly hL 257 2 0) rfl (lr hL 257 0 258) ?_
    refine ru_iload_n d_Wr_writeName_36 rfl rfl ?_
    refine ru_bipush (v := 8) d_Wr_writeName_37 (by decide) ?_
    refine ru_imul d_Wr_writeName_39 ?_
    refine ru_eqi (nm_mul k 8 : _ = nI (k * 8)) ?_
    refine ru_iload_n d_Wr_writeName_40 rfl rfl ?_
    refine ru_iadd d_Wr_writeName_41 ?_
    refine ru_eqi (nm_add (k * 8) i : _ = nI ((k * 8) + i)) ?_
    refine ru_caldN (j := ((k * 8) + i)) d_Wr_writeName_42 (ly hL 258 101 384) (by omega) (by decide) ?_
    rw [n3]
    refine ru_appV d_Wr_writeName_43 lm_Wr_117 (w_C hL h (isLD_asc (o1.2 i (by omega))) (Nat.le_trans (cp_mono hB) hm3)) (rx_recv_is (ly hL 272 10 0) kx_SB) (by decide) rfl (Nat.le_of_ble_eq_true rfl) hB ?_
    intro nx1 ct1 m1 l1 r1 vb1 f1 hL1 s1
    refine ru_pop d_Wr_writeName_46 rfl ?_
    refine ru_iinc (v := nI (i + 1)) d_Wr_writeName_47 rfl (nm_inc _ 1) (by decide) ?_
    refine ru_goto (tgt := 12) d_Wr_writeName_50 (by decide) ?_
    refine ru_to (ru_post (fun v τ z => sbP.of f1 z) (ih (i + 1) _ _ _ _ _ vb1 _ (by omega) (by omega) hL1 s1 (hN.fr f1) hm3)) ⟨rfl, rfl, rfl, trivial⟩
theorem w_name {N : nmS} {k : Nat} (hO : NmOK N) (hk : k < 48) (hL : LAY nx ct mr) (h : SbI nx ct mi mr vb l (cp c0 l.length)) (hN : NmC N mi) (hm3 : cp c0 (l ++ 32 :: nameL N k).length ≤ 200000) : WC c0 y_Wr_writeName M_Wr_writeName 6 [.ref 271, .int (nI k)] none nx ct mi ml mr l (32 :: nameL N k) := by
  unfold WC
  refine rx_enter (by decide) rfl rfl (Nat.le_of_ble_eq_true rfl) ?_
  rw [List.append_cons] at hm3 ⊢
  have hB : (l ++ [32]).length ≤ ((l ++ [32]) ++ nameL N k).length := by rw [List.length_append (as := l ++ [32])]; omega
  refine ru_aload_n d_Wr_writeName_0 rfl rfl ?_
  refine ru_getR d_Wr_writeName_1 lf_Wr_12 (ly hL 271 8 0) rfl (lr hL 271 0 272) ?_
  refine ru_bipush (v := 32) d_Wr_writeName_4 (by decide) ?_
  refine ru_appV d_Wr_writeName_6 lm_Wr_117 (w_C hL h ⟨by decide, by decide⟩ (Nat.le_trans (cp_mono hB) hm3)) (rx_recv_is (ly hL 272 10 0) kx_SB) (by decide) rfl (Nat.le_of_ble_eq_true rfl) hB ?_
  intro nx1 ct1 m1 l1 r1 vb1 f1 hL1 s1
  refine ru_pop d_Wr_writeName_9 rfl ?_
  refine ru_iconst (v := 0) d_Wr_writeName_10 (by decide) ?_
  refine ru_istore_n d_Wr_writeName_11 rfl (by decide) ?_
  refine ru_to (ru_post (fun v τ z => sbP.of f1 z) (w_nameL hO hk (N.1 k) 0 _ _ _ _ _ vb1 _ (by omega) rfl hL1 s1 (hN.fr f1) hm3)) ⟨rfl, rfl, rfl, trivial⟩
end
/-- the digits still to be written at the power j of ten -/
def rem10 (x : Nat) : Nat → List Int32
  | 0 => [nI (x / 10 ^ 0 % 10 + 48)]
  | j + 1 => if 10 ^ (j + 1) ≤ x then nI (x / 10 ^ (j + 1) % 10 + 48) :: rem10 x j else rem10 x j
theorem rem_succ (x j : Nat) : rem10 x (j + 1) = if 10 ^ (j + 1) ≤ x then nI (x / 10 ^ (j + 1) % 10 + 48) :: rem10 x j else rem10 x j := rfl
theorem rem_dgt {x : Nat} : ∀ j, (10 ^ j ≤ x ∨ j = 0) → rem10 x j = dgt x (j + 1)
  | 0, _ => rfl
  | j + 1, h => by
    have h1 : 10 ^ (j + 1) ≤ x := h.resolve_right (by omega)
    have h2 : 10 ^ j ≤ x := Nat.le_trans (Nat.pow_le_pow_right (by decide) (by omega)) h1
    rw [rem_succ, if_pos h1, rem_dgt j (Or.inl h2)]
    rfl
theorem rem_skip {x a : Nat} (h : x < 10 ^ (a + 1)) : ∀ b, rem10 x (a + b) = rem10 x a
  | 0 => rfl
  | b + 1 => by
    show rem10 x ((a + b) + 1) = _
    have : 10 ^ (a + 1) ≤ 10 ^ (a + b + 1) := Nat.pow_le_pow_right (by decide) (by omega)
    rw [rem_succ, if_neg (by omega)]
    exact rem_skip h b
theorem ndF_prop {x : Nat} : ∀ f k, (10 ^ k ≤ x ∨ k = 0) → x < 10 ^ (k + f + 1) → (x < 10 ^ ndF x f k ∧ (10 ^ (ndF x f k - 1) ≤ x ∨ ndF x f k = 1)) ∧ ndF x f k ≤ k + f + 1 ∧ 1 ≤ ndF x f k
  | 0, k, h1, h2 => by
    show (x < 10 ^ (k + 1) ∧ (10 ^ (k + 1 - 1) ≤ x ∨ k + 1 = 1)) ∧ k + 1 ≤ k + 0 + 1 ∧ 1 ≤ k + 1
    refine ⟨⟨h2, ?_⟩, by omega, by omega⟩
    rw [Nat.add_sub_cancel]
    exact h1.elim Or.inl (fun z => Or.inr (by omega))
  | f + 1, k, h1, h2 => by
    unfold ndF
    have hp : 0 < 10 ^ k := Nat.pow_pos (by decide)
    by_cases q : x / 10 ^ k < 10
    · rw [if_pos q]
      have : x < 10 * 10 ^ k := (Nat.div_lt_iff_lt_mul hp).mp q
      refine ⟨⟨by rw [Nat.pow_succ]; omega, ?_⟩, by omega, by omega⟩
      rw [Nat.add_sub_cancel]
      exact h1.elim Or.inl (fun z => Or.inr (by omega))
    · rw [if_neg q]
      have : 10 * 10 ^ k ≤ x := by
        apply Nat.le_of_not_lt
        intro z
        exact q ((Nat.div_lt_iff_lt_mul hp).mpr z)
      have r := ndF_prop (x := x) f (k + 1) (Or.inl (by rw [Nat.pow_succ]; omega)) (by rw [show k + 1 + f + 1 = k + (f + 1) + 1 by omega]; exact h2)
      exact ⟨r.1, by omega, r.2.2⟩
theorem rem_dec {x : Nat} (h : x ≤ 1000000000000) : rem10 x 12 = dec x := by
  have z := ndF_prop (x := x) 12 0 (Or.inr rfl) (by show x < 10 ^ 13; omega)
  unfold dec
  generalize ndF x 12 0 = n at z
  obtain ⟨⟨z1, z2⟩, z3, z4⟩ := z
  obtain ⟨m, rfl⟩ : ∃ m, n = m + 1 := ⟨n - 1, by omega⟩
  rw [Nat.add_sub_cancel] at z2
  rw [show 12 = m + (12 - m) by omega, rem_skip z1, rem_dgt m (z2.elim Or.inl (fun q => Or.inr (by omega)))]
section
variable {nx c0 : Nat} {ct : Nat → Nat × Nat} {mi : Nat → Nat → Int32} {ml : Nat → Nat → Int64} {mr : Nat → Nat → Option Nat} {l : List Int32} {vb : Nat}
theorem dg_asc {x : Nat} : asc (nI (x % 10 + 48)) := by
  unfold asc
  rw [nI_toInt (by omega)]
  omega
theorem dg_ch {x : Nat} : ((nI (48 + x % 10)).toUInt32 % 65536).toInt32 = nI (x % 10 + 48) := by
  rw [Nat.add_comm 48]
  exact (ch_nar dg_asc).2.1
theorem p10 {j : Nat} (h : j ≤ 12) : 10 ^ j ≤ 1000000000000 := (Nat.pow_le_pow_right (by decide) h : 10 ^ j ≤ 10 ^ 12)
theorem w_numL {x : Nat} (hx : x ≤ 1000000000000) : ∀ j nx ct mi ml mr vb l, j ≤ 12 → LAY nx ct mr → SbI nx ct mi mr vb l (cp c0 l.length) → cp c0 (l ++ rem10 x j).length ≤ 200000 → rx_W M_Wr_writeNumber 6 (cp c0 (l ++ rem10 x j).length - cp c0 l.length) (2 * (cp c0 (l ++ rem10 x j).length - cp c0 l.length)) 14 [(0, .ref 271), (1, .long (Int64.ofNat x)), (3, .long (Int64.ofNat (10 ^ j)))] [] (nx, ct, mi, ml, mr) (pR (sbP none nx ct mi ml mr (l ++ rem10 x j) (cp c0 (l ++ rem10 x j).length))) := by
  intro j
  induction j with
  | zero =>
    intro nx ct mi ml mr vb l hj hL h hm3
    have e : rem10 x 0 = [nI (x / 1 % 10 + 48)] := rfl
    rw [e] at hm3 ⊢
    have fin : ∀ nx1 ct1 m1 l1 r1 vb1 mc ms, frW nx nx1 ct ct1 mi m1 ml l1 mr r1 → LAY nx1 ct1 r1 → SbI nx1 ct1 m1 r1 vb1 (l ++ [nI (x / 1 % 10 + 48)]) (cp c0 (l ++ [nI (x / 1 % 10 + 48)]).length) → rx_W M_Wr_writeNumber 6 mc ms 53 [(3, .long (Int64.ofNat 1))] [] (nx1, ct1, m1, l1, r1) (pR (sbP none nx ct mi ml mr (l ++ [nI (x / 1 % 10 + 48)]) (cp c0 (l ++ [nI (x / 1 % 10 + 48)]).length))) := by
      intro nx1 ct1 m1 l1 r1 vb1 mc ms f1 hL1 s1
      refine ru_lload_n d_Wr_writeNumber_53 rfl rfl ?_
      refine ru_ldc2 d_Wr_writeNumber_54 lc_Wr_178 ?_
      refine ru_ldiv d_Wr_writeNumber_57 (by decide) ?_
      refine ru_eql (nl_div (a := 1) (b := 10) (by omega) (by omega) (by omega) : _ = Int64.ofNat (1 / 10)) ?_
      refine ru_lstore_n d_Wr_writeNumber_58 rfl (by decide) ?_
      refine ru_goto (tgt := 14) d_Wr_writeNumber_59 (by decide) ?_
      refine ru_to (?_ : rx_W M_Wr_writeNumber 6 mc ms 14 [(3, .long (Int64.ofNat 0))] [] (nx1, ct1, m1, l1, r1) _) ⟨rfl, trivial⟩
      refine ru_lload_n d_Wr_writeNumber_14 rfl rfl ?_
      refine ru_lconst (v := 1) d_Wr_writeNumber_15 (by decide) ?_
      refine ru_lcmp d_Wr_writeNumber_16 ?_
      refine ru_if_lt (tgt := 62) d_Wr_writeNumber_17 (by decide) (fun h17 => ?_) (fun h17 => absurd h17 (by decide))
      refine ru_vret d_Wr_writeNumber_62 rfl ?_
      exact ⟨rfl, _, _, _, _, _, vb1, rfl, f1, hL1, s1⟩
    refine ru_to (?_ : rx_W M_Wr_writeNumber 6 _ _ 14 [(0, .ref 271), (1, .long (Int64.ofNat x)), (3, .long (Int64.ofNat 1))] [] (nx, ct, mi, ml, mr) _) ⟨rfl, rfl, rfl, trivial⟩
    refine ru_lload_n d_Wr_writeNumber_14 rfl rfl ?_
    refine ru_lconst (v := 1) d_Wr_writeNumber_15 (by decide) ?_
    refine ru_lcmp d_Wr_writeNumber_16 ?_
    refine ru_if_lt (tgt := 62) d_Wr_writeNumber_17 (by decide) (fun h17 => absurd h17 (by decide)) (fun h17 => ?_)
    refine ru_lload_n d_Wr_writeNumber_20 rfl rfl ?_
    refine ru_lload_n d_Wr_writeNumber_21 rfl rfl ?_
    refine ru_lcmp d_Wr_writeNumber_22 ?_
    refine ru_if_ge (tgt := 32) d_Wr_writeNumber_23 (by decide) (fun h23 => ?_) (fun h23 => ?_)
    · skip
      replace h23 := (lg_cmp_ge _ _).mp h23
      replace h23 := nl_le (a := 1) (b := x) (by omega) (by omega) h23
      refine ru_aload_n d_Wr_writeNumber_32 rfl rfl ?_
      refine ru_getR d_Wr_writeNumber_33 lf_Wr_12 (ly hL 271 8 0) rfl (lr hL 271 0 272) ?_
      refine ru_ldc2 d_Wr_writeNumber_36 lc_Wr_176 ?_
      refine ru_lload_n d_Wr_writeNumber_39 rfl rfl ?_
      refine ru_lload_n d_Wr_writeNumber_40 rfl rfl ?_
      refine ru_ldiv d_Wr_writeNumber_41 (by decide) ?_
      refine ru_eql (nl_div (a := x) (b := 1) (by omega) (by omega) (by omega) : _ = Int64.ofNat (x / 1)) ?_
      refine ru_ldc2 d_Wr_writeNumber_42 lc_Wr_178 ?_
      refine ru_lrem d_Wr_writeNumber_45 (by decide) ?_
      refine ru_eql (nl_rem (a := (x / 1)) (b := 10) (by omega) (by omega) (by omega) : _ = Int64.ofNat ((x / 1) % 10)) ?_
      refine ru_ladd d_Wr_writeNumber_46 ?_
      refine ru_eql (nl_add 48 ((x / 1) % 10) : _ = Int64.ofNat (48 + ((x / 1) % 10))) ?_
      refine ru_l2i d_Wr_writeNumber_47 ?_
      refine ru_eqi (nl_l2i (48 + ((x / 1) % 10))) ?_
      refine ru_i2c d_Wr_writeNumber_48 ?_
      refine ru_eqi dg_ch ?_
      refine ru_appV d_Wr_writeNumber_49 lm_Wr_117 (w_C hL h dg_asc hm3) (rx_recv_is (ly hL 272 10 0) kx_SB) (by decide) rfl (Nat.le_of_ble_eq_true rfl) (Nat.le_refl _) ?_
      intro nx1 ct1 m1 l1 r1 vb1 f1 hL1 s1
      refine ru_pop d_Wr_writeNumber_52 rfl ?_
      exact ru_to (fin _ _ _ _ _ vb1 _ _ f1 hL1 s1) ⟨rfl, trivial⟩
    · skip
      replace h23 := fun q => h23 ((lg_cmp_ge _ _).mpr q)
      replace h23 := nl_nle (a := 1) (b := x) (by omega) (by omega) h23
      refine ru_lload_n d_Wr_writeNumber_26 rfl rfl ?_
      refine ru_lconst (v := 1) d_Wr_writeNumber_27 (by decide) ?_
      refine ru_lcmp d_Wr_writeNumber_28 ?_
      refine ru_if_ne (tgt := 53) d_Wr_writeNumber_29 (by decide) (fun h29 => absurd h29 (by decide)) (fun h29 => ?_)
      refine ru_aload_n d_Wr_writeNumber_32 rfl rfl ?_
      refine ru_getR d_Wr_writeNumber_33 lf_Wr_12 (ly hL 271 8 0) rfl (lr hL 271 0 272) ?_
      refine ru_ldc2 d_Wr_writeNumber_36 lc_Wr_176 ?_
      refine ru_lload_n d_Wr_writeNumber_39 rfl rfl ?_
      refine ru_lload_n d_Wr_writeNumber_40 rfl rfl ?_
      refine ru_ldiv d_Wr_writeNumber_41 (by decide) ?_
      refine ru_eql (nl_div (a := x) (b := 1) (by omega) (by omega) (by omega) : _ = Int64.ofNat (x / 1)) ?_
      refine ru_ldc2 d_Wr_writeNumber_42 lc_Wr_178 ?_
      refine ru_lrem d_Wr_writeNumber_45 (by decide) ?_
      refine ru_eql (nl_rem (a := (x / 1)) (b := 10) (by omega) (by omega) (by omega) : _ = Int64.ofNat ((x / 1) % 10)) ?_
      refine ru_ladd d_Wr_writeNumber_46 ?_
      refine ru_eql (nl_add 48 ((x / 1) % 10) : _ = Int64.ofNat (48 + ((x / 1) % 10))) ?_
      refine ru_l2i d_Wr_writeNumber_47 ?_
      refine ru_eqi (nl_l2i (48 + ((x / 1) % 10))) ?_
      refine ru_i2c d_Wr_writeNumber_48 ?_
      refine ru_eqi dg_ch ?_
      refine ru_appV d_Wr_writeNumber_49 lm_Wr_117 (w_C hL h dg_asc hm3) (rx_recv_is (ly hL 272 10 0) kx_SB) (by decide) rfl (Nat.le_of_ble_eq_true rfl) (Nat.le_refl _) ?_
      intro nx1 ct1 m1 l1 r1 vb1 f1 hL1 s1
      refine ru_pop d_Wr_writeNumber_52 rfl ?_
      exact ru_to (fin _ _ _ _ _ vb1 _ _ f1 hL1 s1) ⟨rfl, trivial⟩
  | succ j ih =>
    intro nx ct mi ml mr vb l hj hL h hm3
    have pw : 10 ^ (j + 1) / 10 = 10 ^ j := by rw [Nat.pow_succ]; exact Nat.mul_div_cancel _ (by decide)
    have pp := p10 hj
    have xd : x / 10 ^ (j + 1) ≤ x := Nat.div_le_self _ _
    have pq : 10 ≤ 10 ^ (j + 1) := by rw [Nat.pow_succ]; have : 0 < 10 ^ j := Nat.pow_pos (by decide); omega
    by_cases q : 10 ^ (j + 1) ≤ x
    · have e : l ++ rem10 x (j + 1) = (l ++ [nI (x / 10 ^ (j + 1) % 10 + 48)]) ++ rem10 x j := by
        rw [rem_succ, if_pos q, ← List.append_cons]
      rw [e] at hm3 ⊢
      have hB : (l ++ [nI (x / 10 ^ (j + 1) % 10 + 48)]).length ≤ ((l ++ [nI (x / 10 ^ (j + 1) % 10 + 48)]) ++ rem10 x j).length := by rw [List.length_append (as := l ++ _)]; omega
      refine ru_lload_n d_Wr_writeNumber_14 rfl rfl ?_
      refine ru_lconst (v := 1) d_Wr_writeNumber_15 (by decide) ?_
      refine ru_lcmp d_Wr_writeNumber_16 ?_
      refine ru_if_lt (tgt := 62) d_Wr_writeNumber_17 (by decide) (fun h17 => ?_) (fun h17 => ?_)
      · skip
        replace h17 := (lg_cmp_lt _ _).mp h17
        replace h17 := nl_lt (a := (10^(j+1))) (b := 1) (by omega) (by omega) h17
        exfalso; omega
      · skip
        replace h17 := fun q => h17 ((lg_cmp_lt _ _).mpr q)
        replace h17 := nl_nlt (a := (10^(j+1))) (b := 1) (by omega) (by omega) h17
        refine ru_lload_n d_Wr_writeNumber_20 rfl rfl ?_
        refine ru_lload_n d_Wr_writeNumber_21 rfl rfl ?_
        refine ru_lcmp d_Wr_writeNumber_22 ?_
        refine ru_if_ge (tgt := 32) d_Wr_writeNumber_23 (by decide) (fun h23 => ?_) (fun h23 => ?_)
        · skip
          replace h23 := (lg_cmp_ge _ _).mp h23
          replace h23 := nl_le (a := (10^(j+1))) (b := x) (by omega) (by omega) h23
          refine ru_aload_n d_Wr_writeNumber_32 rfl rfl ?_
          refine ru_getR d_Wr_writeNumber_33 lf_Wr_12 (ly hL 271 8 0) rfl (lr hL 271 0 272) ?_
          refine ru_ldc2 d_Wr_writeNumber_36 lc_Wr_176 ?_
          refine ru_lload_n d_Wr_writeNumber_39 rfl rfl ?_
          refine ru_lload_n d_Wr_writeNumber_40 rfl rfl ?_
          refine ru_ldiv d_Wr_writeNumber_41 (nl_ne0 (a := (10^(j+1))) (by omega) (by omega)) ?_
          refine ru_eql (nl_div (a := x) (b := (10^(j+1))) (by omega) (by omega) (by omega) : _ = Int64.ofNat (x / (10^(j+1)))) ?_
          refine ru_ldc2 d_Wr_writeNumber_42 lc_Wr_178 ?_
          refine ru_lrem d_Wr_writeNumber_45 (by decide) ?_
          refine ru_eql (nl_rem (a := (x / (10^(j+1)))) (b := 10) (by omega) (by omega) (by omega) : _ = Int64.ofNat ((x / (10^(j+1))) % 10)) ?_
          refine ru_ladd d_Wr_writeNumber_46 ?_
          refine ru_eql (nl_add 48 ((x / (10^(j+1))) % 10) : _ = Int64.ofNat (48 + ((x / (10^(j+1))) % 10))) ?_
          refine ru_l2i d_Wr_writeNumber_47 ?_
          refine ru_eqi (nl_l2i (48 + ((x / (10^(j+1))) % 10))) ?_
          refine ru_i2c d_Wr_writeNumber_48 ?_
          refine ru_eqi dg_ch ?_
          refine ru_appV d_Wr_writeNumber_49 lm_Wr_117 (w_C hL h dg_asc (Nat.le_trans (cp_mono hB) hm3)) (rx_recv_is (ly hL 272 10 0) kx_SB) (by decide) rfl (Nat.le_of_ble_eq_true rfl) hB ?_
          intro nx1 ct1 m1 l1 r1 vb1 f1 hL1 s1
          refine ru_pop d_Wr_writeNumber_52 rfl ?_
          refine ru_lload_n d_Wr_writeNumber_53 rfl rfl ?_
          refine ru_ldc2 d_Wr_writeNumber_54 lc_Wr_178 ?_
          refine ru_ldiv d_Wr_writeNumber_57 (by decide) ?_
          refine ru_eql (nl_div (a := (10^(j+1))) (b := 10) (by omega) (by omega) (by omega) : _ = Int64.ofNat ((10^(j+1)) / 10)) ?_
          rw [pw]
          refine ru_lstore_n d_Wr_writeNumber_58 rfl (by decide) ?_
          refine ru_goto (tgt := 14) d_Wr_writeNumber_59 (by decide) ?_
          refine ru_to (ru_post (fun v τ z => sbP.of f1 z) (ih _ _ _ _ _ vb1 _ (by omega) hL1 s1 hm3)) ⟨rfl, rfl, rfl, trivial⟩
        · skip
          replace h23 := fun q => h23 ((lg_cmp_ge _ _).mpr q)
          replace h23 := nl_nle (a := (10^(j+1))) (b := x) (by omega) (by omega) h23
          exfalso; omega
    · have e : rem10 x (j + 1) = rem10 x j := by
        show (if 10 ^ (j + 1) ≤ x then _ else _) = _
        rw [if_neg q]
      rw [e] at hm3 ⊢
      refine ru_lload_n d_Wr_writeNumber_14 rfl rfl ?_
      refine ru_lconst (v := 1) d_Wr_writeNumber_15 (by decide) ?_
      refine ru_lcmp d_Wr_writeNumber_16 ?_
      refine ru_if_lt (tgt := 62) d_Wr_writeNumber_17 (by decide) (fun h17 => ?_) (fun h17 => ?_)
      · skip
        replace h17 := (lg_cmp_lt _ _).mp h17
        replace h17 := nl_lt (a := (10^(j+1))) (b := 1) (by omega) (by omega) h17
        exfalso; omega
      · skip
        replace h17 := fun q => h17 ((lg_cmp_lt _ _).mpr q)
        replace h17 := nl_nlt (a := (10^(j+1))) (b := 1) (by omega) (by omega) h17
        refine ru_lload_n d_Wr_writeNumber_20 rfl rfl ?_
        refine ru_lload_n d_Wr_writeNumber_21 rfl rfl ?_
        refine ru_lcmp d_Wr_writeNumber_22 ?_
        refine ru_if_ge (tgt := 32) d_Wr_writeNumber_23 (by decide) (fun h23 => ?_) (fun h23 => ?_)
        · skip
          replace h23 := (lg_cmp_ge _ _).mp h23
          replace h23 := nl_le (a := (10^(j+1))) (b := x) (by omega) (by omega) h23
          exfalso; omega
        · skip
          replace h23 := fun q => h23 ((lg_cmp_ge _ _).mpr q)
          replace h23 := nl_nle (a := (10^(j+1))) (b := x) (by omega) (by omega) h23
          refine ru_lload_n d_Wr_writeNumber_26 rfl rfl ?_
          refine ru_lconst (v := 1) d_Wr_writeNumber_27 (by decide) ?_
          refine ru_lcmp d_Wr_writeNumber_28 ?_
          refine ru_if_ne (tgt := 53) d_Wr_writeNumber_29 (by decide) (fun h29 => ?_) (fun h29 => ?_)
          · skip
            replace h29 := fun q => h29 ((lg_cmp_eq _ _).mpr q)
            replace h29 := nl_ne (a := (10^(j+1))) (b := 1) (by omega) (by omega) h29
            refine ru_lload_n d_Wr_writeNumber_53 rfl rfl ?_
            refine ru_ldc2 d_Wr_writeNumber_54 lc_Wr_178 ?_
            refine ru_ldiv d_Wr_writeNumber_57 (by decide) ?_
            refine ru_eql (nl_div (a := (10^(j+1))) (b := 10) (by omega) (by omega) (by omega) : _ = Int64.ofNat ((10^(j+1)) / 10)) ?_
            rw [pw]
            refine ru_lstore_n d_Wr_writeNumber_58 rfl (by decide) ?_
            refine ru_goto (tgt := 14) d_Wr_writeNumber_59 (by decide) ?_
            refine ru_to (ih _ _ _ _ _ vb _ (by omega) hL h hm3) ⟨rfl, rfl, rfl, trivial⟩
          · skip
            replace h29 := (lg_cmp_eq _ _).mp h29
            replace h29 := nl_eq (a := (10^(j+1))) (b := 1) (by omega) (by omega) h29
            exfalso; omega
theorem w_num {x : Nat} (hx : x ≤ 1000000000000) (hL : LAY nx ct mr) (h : SbI nx ct mi mr vb l (cp c0 l.length)) (hm3 : cp c0 (l ++ 32 :: dec x).length ≤ 200000) : WC c0 y_Wr_writeNumber M_Wr_writeNumber 6 [.ref 271, .long (Int64.ofNat x)] none nx ct mi ml mr l (32 :: dec x) := by
  unfold WC
  refine rx_enter (by decide) rfl rfl (Nat.le_of_ble_eq_true rfl) ?_
  rw [← rem_dec hx] at hm3 ⊢
  rw [List.append_cons] at hm3 ⊢
  have hB : (l ++ [32]).length ≤ ((l ++ [32]) ++ rem10 x 12).length := by rw [List.length_append (as := l ++ [32])]; omega
  refine ru_aload_n d_Wr_writeNumber_0 rfl rfl ?_
  refine ru_getR d_Wr_writeNumber_1 lf_Wr_12 (ly hL 271 8 0) rfl (lr hL 271 0 272) ?_
  refine ru_bipush (v := 32) d_Wr_writeNumber_4 (by decide) ?_
  refine ru_appV d_Wr_writeNumber_6 lm_Wr_117 (w_C hL h ⟨by decide, by decide⟩ (Nat.le_trans (cp_mono hB) hm3)) (rx_recv_is (ly hL 272 10 0) kx_SB) (by decide) rfl (Nat.le_of_ble_eq_true rfl) hB ?_
  intro nx1 ct1 m1 l1 r1 vb1 f1 hL1 s1
  refine ru_pop d_Wr_writeNumber_9 rfl ?_
  refine ru_ldc2 d_Wr_writeNumber_10 lc_Wr_174 ?_
  refine ru_lstore_n d_Wr_writeNumber_13 rfl (by decide) ?_
  refine ru_to (ru_post (fun v τ z => sbP.of f1 z) (w_numL hx 12 _ _ _ _ _ vb1 _ (by omega) hL1 s1 hm3)) ⟨rfl, rfl, rfl, trivial⟩
end
