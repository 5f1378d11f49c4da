/-! The law: reading, writing; its loop -/
section
variable {Len : Nat} {scr : Nat → Int32} {N N' : nmS} {n n' : Nat} {t t' : Nat → Int32} {b b' : Nat} {L : List ruS} {vb : Nat} {lb : List Int32} {c : Nat} {nx nx' : Nat} {ct ct' : Nat → Nat × Nat} {mi mi' : Nat → Nat → Int32} {ml ml' : Nat → Nat → Int64} {mr mr' : Nat → Nat → Option Nat} {f i : Nat} {post : rx_End}
theorem INV.bad (h : INV Len scr N n t b b' L vb lb c nx ct mi ml mr) (q1 : frB b' mi mi' ml ml' mr mr') (hL : LAY nx ct mr') : INV Len scr N n t b b' L vb lb c nx ct mi' ml' mr' := by
  have a1 := h.vb_
  have a2 := h.bb
  refine h.same (Nat.le_refl _) hL (fun _ _ => rfl) (fun r k hr => ?_) (fun r k hr => ?_) (fun r k hr => ?_)
  · by_cases q : r = 266
    · subst q
      have : k = 1 := by unfold relI at hr; omega
      subst this
      exact q1.2
    · rw [(q1.1 r (by unfold relI at hr; unfold rdZ; omega)).1]
  · rw [(q1.1 r (by unfold relL at hr; unfold rdZ; omega)).2.1]
  · rw [(q1.1 r (by unfold relR at hr; unfold rdZ; omega)).2.2]
theorem INV.bad2 (h : INV Len scr N n t b b' L vb lb c nx ct mi ml mr) (f1 : fM mi mi') (f2 : mi' 398 2 = mi 398 2) (f3 : ∀ r, r ≠ 398 → r ≠ 404 → ml' r = ml r) (f4 : mi' 398 7 = mi 398 7) (f5 : ∀ i, i < 720 → ml' 404 i = ml 404 i) : INV Len scr N n t b b' L vb lb c nx ct mi' ml' mr := by
  have a1 := h.vb_
  have a2 := h.bb
  refine h.same (Nat.le_refl _) h.1 (fun _ _ => rfl) (fun r k hr => ?_) (fun r k hr => ?_) (fun _ _ _ => rfl)
  · by_cases q : r = 398
    · subst q
      have : k = 2 ∨ k = 7 := by unfold relI at hr; omega
      rcases this with rfl | rfl
      · exact f2
      · exact f4
    · rw [f1 r q (by unfold relI at hr; omega) (by unfold relI at hr; omega)]
  · by_cases q : r = 404
    · subst q
      exact f5 k (by unfold relL at hr; omega)
    · rw [f3 r (by unfold relL at hr; omega) q]
theorem INV.good {L' : List ruS} {m2 : Nat → Nat → Int32} {l2 : Nat → Nat → Int64} (h : INV Len scr N n t b b' L vb lb c nx ct mi ml mr) (q1 : frB b' mi mi' ml ml' mr mr') (hL : LAY nx ct mr') (q2 : LsI mi' ml' mr' b' L') (f1 : fM (rx_u mi' 256 7 1) m2) (f2 : m2 398 2 = rx_u mi' 256 7 1 398 2) (f3 : ∀ r, r ≠ 398 → r ≠ 404 → l2 r = ml' r) (f4 : m2 398 7 = nI L'.length) (f5 : ∀ i q, L'[i]? = some q → rowI l2 (12 * i) q) : INV Len scr N n t b' b L' vb lb c nx ct m2 l2 (rx_u (rx_u mr' 256 5 (some b')) 256 6 (some b)) := by
  have a1 := h.vb_
  have a2 := h.bb
  obtain ⟨h1, ⟨h2, h3⟩, ⟨⟨h4, h5⟩, h6, h7, h8⟩, ⟨⟨h9, h10, h11⟩, h12, h13, h14⟩, ⟨h15, h16, h17⟩, -, hs, ⟨h25, h26, h27⟩⟩ := h
  have mm : ∀ r, r ≠ 398 → r ≠ 405 → r ≠ 406 → r ≠ 256 → ¬ rdZ b' r → m2 r = mi r := fun r c1 c2 c3 c4 c5 => by rw [f1 r c1 c2 c3, rx_u_r _ _ c4, (q1.1 r c5).1]
  have ll : ∀ r, r ≠ 398 → r ≠ 404 → ¬ rdZ b' r → l2 r = ml r := fun r c1 c2 c3 => by rw [f3 r c1 c2, (q1.1 r c3).2.1]
  have hb2 : b' = 274 ∨ b' = 336 := h7
  have e266 : m2 266 1 = mi 266 1 := by rw [f1 266 (by decide) (by decide) (by decide), rx_u_r _ _ (by decide)]; exact q1.2
  have nz : ∀ r, (r < 266 ∨ r = 267 ∨ r = 272 ∨ 398 ≤ r) → ¬ rdZ b' r := fun r hr => by unfold rdZ; omega
  refine ⟨(hL.put (r := 256) (k := 5) (some b') ⟨by decide, by decide, by decide⟩).put (r := 256) (k := 6) (some b) ⟨by decide, by decide, by decide⟩, ⟨h2, by rw [mm 0 (by decide) (by decide) (by decide) (by decide) (nz 0 (by decide))]; exact h3⟩, ⟨⟨by rw [rx_u_k _ _ (by decide), rx_u_same], rx_u_same _ _ _ _⟩, h7, h6, fun z => h8 z.symm⟩, ⟨⟨e266.trans h9, ?_, h11⟩, ?_, ?_, h14⟩, ⟨h15.pt ?_ ?_, h16.pt ?_ ?_, h17⟩, ⟨⟨?_, q2.2.1, fun i q hq => ⟨?_, (q2.2.2 i q hq).2⟩⟩, f4, fun i q hq => ⟨f5 i q hq, (q2.2.2 i q hq).2⟩⟩, hs.pt ?_ ?_ ?_ ?_ ?_ ?_ ?_, ?_, h26, fun z => ?_⟩
  · rw [mm 267 (by decide) (by decide) (by decide) (by decide) (nz 267 (by decide))]; exact h10
  · rw [f2, rx_u_r _ _ (by decide), (q1.1 398 (nz 398 (by decide))).1]; exact h12
  · rw [mm 399 (by decide) (by decide) (by decide) (by decide) (nz 399 (by decide))]; exact h13
  · exact mm 259 (by decide) (by decide) (by decide) (by decide) (nz 259 (by decide))
  · exact mm 258 (by decide) (by decide) (by decide) (by decide) (nz 258 (by decide))
  · exact mm 400 (by decide) (by decide) (by decide) (by decide) (nz 400 (by decide))
  · exact mm 401 (by decide) (by decide) (by decide) (by decide) (nz 401 (by decide))
  · rw [f1 b' (by omega) (by omega) (by omega), rx_u_r _ _ (by omega)]; exact q2.1
  · have hq2 : i < L'.length := (List.getElem?_eq_some_iff.mp hq).1
    have := q2.2.1
    exact (q2.2.2 i q hq).1.of (by rw [f1 _ (by omega) (by omega) (by omega), rx_u_r _ _ (by omega)]) (f3 _ (by omega) (by omega)) (by rw [rx_u_r _ _ (by omega), rx_u_r _ _ (by omega)])
  · exact mm 402 (by decide) (by decide) (by decide) (by decide) (nz 402 (by decide))
  · exact mm 261 (by decide) (by decide) (by decide) (by decide) (nz 261 (by decide))
  · exact ll 403 (by decide) (by decide) (nz 403 (by decide))
  · exact ll 262 (by decide) (by decide) (nz 262 (by decide))
  · exact ll 263 (by decide) (by decide) (nz 263 (by decide))
  · exact ll 264 (by decide) (by decide) (nz 264 (by decide))
  · exact ll 265 (by decide) (by decide) (nz 265 (by decide))
  · obtain ⟨s1, s2, s3, s4, s5, s6, s7, s8, s9, s10⟩ := h25
    have e2 : m2 272 = mi 272 := mm 272 (by decide) (by decide) (by decide) (by decide) (nz 272 (by decide))
    have ev : m2 vb = mi vb := mm vb (by omega) (by omega) (by omega) (by omega) (by unfold rdZ; omega)
    exact ⟨by rw [rx_u_r _ _ (by decide), rx_u_r _ _ (by decide), (q1.1 272 (nz 272 (by decide))).2.2]; exact s1, s2, s3, s4, by rw [e2]; exact s5, by rw [e2]; exact s6, s7, s8, by rw [ev]; exact s9, by rw [ev]; exact s10⟩
  · rw [f1 256 (by decide) (by decide) (by decide), rx_u_same] at z
    exact absurd z (by decide)
theorem op_read (h : INV Len scr N n t b b' L vb lb c nx ct mi ml mr) (hi : i + 10 ≤ Len) (hLen : Len ≤ 5120) (k : KK Len scr f i post) : rx_W M_Lw_law 13 (f + 1 + (17400 - c)) (6 * (f + 1) + 2 * (17400 - c)) 220 [(0, .ref 0), (1, .ref 256), (2, .ref 398), (3, .ref 408), (4, .int (nI i))] [] (nx, ct, mi, ml, mr) post := by
  have hL := h.1
  have hS := h.2.1
  have hr := h.2.2.1.1.1
  have hb := h.2.2.1.2.1
  have hT := h.2.2.2.1
  have hN := h.2.2.2.2.1
  have hls := h.2.2.2.2.2.1
  have hsh := h.2.2.2.2.2.2.1
  have c17 := h.2.2.2.2.2.2.2.2.1
  have l60 := hls.1.2.1
  have n3 := hT.1.2.2
  cases e : pAll N n t 60 0 with
  | inl w =>
    refine ru_aload_n d_Lw_law_220 rfl rfl ?_
    refine ru_mcs (Nat.zero_add _).symm (Nat.zero_add _).symm ?_
    refine ru_callV (mc := _) (ms := _) d_Lw_law_221 lm_Lw_59 (sp_read hL hr h.2.2.1.1.2 h.2.2.1.2.2.1 hT.1 hN.1) (rx_recv_is (ly hL 256 0 0) kx_RT) (by decide) rfl (Nat.le_of_ble_eq_true rfl) ?_
    rw [e]
    rintro v τ ⟨rfl, m1, l1, r1, rfl, q1, hL1⟩
    have h1 := h.bad q1 hL1
    have hT1 := h1.2.2.2.1
    refine ru_aload_n d_Lw_law_224 rfl rfl ?_
    refine ru_mcs (Nat.zero_add _).symm (Nat.zero_add _).symm ?_
    refine ru_callV (mc := _) (ms := _) d_Lw_law_225 lm_Lw_62 (sq_read (N := N) hL1 hT1.2.1 n3 hT1.2.2.1 hT1.2.2.2 h1.2.2.2.2.1.2.1) (rx_recv_is (ly hL1 398 9 0) kx_Mo) (by decide) rfl (Nat.le_of_ble_eq_true rfl) ?_
    rw [e]
    rintro v τ ⟨m2, l2, rfl, f1, f0, f2, f3, rfl, f4, f5⟩
    refine ru_icmp_eq (tgt := 900) d_Lw_law_228 (by decide) (fun h228 => ?_) (fun h228 => absurd rfl h228)
    exact ru_to (ru_less (by omega) (by omega) (k _ _ _ _ _ _ _ _ _ _ _ _ _ _ (h1.bad2 f1 f2 f3 f4 f5))) ⟨rfl, rfl, rfl, rfl, rfl, trivial⟩
  | inr L' =>
    refine ru_aload_n d_Lw_law_220 rfl rfl ?_
    refine ru_mcs (Nat.zero_add _).symm (Nat.zero_add _).symm ?_
    refine ru_callV (mc := _) (ms := _) d_Lw_law_221 lm_Lw_59 (sp_read hL hr h.2.2.1.1.2 h.2.2.1.2.2.1 hT.1 hN.1) (rx_recv_is (ly hL 256 0 0) kx_RT) (by decide) rfl (Nat.le_of_ble_eq_true rfl) ?_
    rw [e]
    rintro v τ ⟨rfl, m1, l1, r1, rfl, q1, hL0, q2⟩
    have hL1 := (hL0.put (r := 256) (k := 5) (some b') ⟨by decide, by decide, by decide⟩).put (r := 256) (k := 6) (some b) ⟨by decide, by decide, by decide⟩
    have h1 := h.bad q1 hL0
    have hT1 := h1.2.2.2.1
    refine ru_aload_n d_Lw_law_224 rfl rfl ?_
    refine ru_mcs (Nat.zero_add _).symm (Nat.zero_add _).symm ?_
    refine ru_callV (mc := _) (ms := _) d_Lw_law_225 lm_Lw_62 (sq_read (N := N) (n := n) (t := t) hL1 (by rw [rx_u_r _ _ (by decide)]; exact hT1.2.1) n3 (by rw [rx_u_r _ _ (by decide)]; exact hT1.2.2.1) hT1.2.2.2 (h1.2.2.2.2.1.2.1.pt (by rw [rx_u_r _ _ (by decide)]) (by rw [rx_u_r _ _ (by decide)]))) (rx_recv_is (ly hL1 398 9 0) kx_Mo) (by decide) rfl (Nat.le_of_ble_eq_true rfl) ?_
    rw [e]
    rintro v τ ⟨m2, l2, rfl, f1, f0, f2, f3, rfl, f4, f6, f5⟩
    refine ru_icmp_eq (tgt := 900) d_Lw_law_228 (by decide) (fun h228 => ?_) (fun h228 => absurd rfl h228)
    exact ru_to (ru_less (by omega) (by omega) (k _ _ _ _ _ _ _ _ _ _ _ _ _ _ (h.good q1 hL0 q2 f1 f2 f3 f4 f5))) ⟨rfl, rfl, rfl, rfl, rfl, trivial⟩
theorem wAll_lt (h : INV Len scr N n t b b' L vb lb c nx ct mi ml mr) : (wAll N L).length ≤ 8700 ∧ cp c (wAll N L).length ≤ 17400 := by
  have l1 := wAll_len h.2.2.2.2.1.2.2 L (fun q hq => by
    obtain ⟨i, hi, e⟩ := List.getElem_of_mem hq
    exact (h.2.2.2.2.2.1.1.2.2 i q (by rw [List.getElem?_eq_getElem hi, e])).2)
  have l2 := h.2.2.2.2.2.1.1.2.1
  have l3 := cp_up c (wAll N L).length
  have l4 := h.2.2.2.2.2.2.2.2.1
  omega
theorem INV.wrote {vb' : Nat} (h : INV Len scr N n t b b' L vb lb c nx ct mi ml mr) (e1 : nx ≤ nx') (e2 : ∀ x, x < 409 → ct' x = ct x ∧ (x ≠ 272 → x ≠ 273 → (x ≠ 256 → mi' x = mi x) ∧ ml' x = ml x ∧ mr' x = mr x)) (e4 : LAY nx' ct' mr') (e5 : SbI nx' ct' mi' mr' vb' (wAll N L) (cp c (wAll N L).length)) : INV Len scr N n t b b' L vb' (wAll N L) (cp c (wAll N L).length) nx' ct' mi' ml' mr' := by
  have a2 := h.bb
  have a3 := wAll_lt h
  obtain ⟨h1, ⟨h2, h3⟩, ⟨⟨h4, h5⟩, h6, h7, h8⟩, ⟨⟨h9, h10, h11⟩, h12, h13, h14⟩, ⟨h15, h16, h17⟩, ⟨⟨h18, h19, h20⟩, h21, h22⟩, hs, -⟩ := h
  have mm : ∀ r, r < 409 → r ≠ 272 → r ≠ 273 → r ≠ 256 → mi' r = mi r := fun r c1 c2 c3 c4 => ((e2 r c1).2 c2 c3).1 c4
  have ll : ∀ r, r < 409 → r ≠ 272 → r ≠ 273 → ml' r = ml r := fun r c1 c2 c3 => ((e2 r c1).2 c2 c3).2.1
  have rr : ∀ r, r < 409 → r ≠ 272 → r ≠ 273 → mr' r = mr r := fun r c1 c2 c3 => ((e2 r c1).2 c2 c3).2.2
  refine ⟨e4, ⟨(e2 0 (by decide)).1.trans h2, (mm 0 (by decide) (by decide) (by decide) (by decide)).trans h3⟩, ⟨⟨by rw [rr 256 (by decide) (by decide) (by decide)]; exact h4, by rw [rr 256 (by decide) (by decide) (by decide)]; exact h5⟩, h6, h7, h8⟩, ⟨⟨?_, ?_, h11⟩, ?_, ?_, h14⟩, ⟨h15.pt (mm 259 (by decide) (by decide) (by decide) (by decide)) (mm 258 (by decide) (by decide) (by decide) (by decide)), h16.pt (mm 400 (by decide) (by decide) (by decide) (by decide)) (mm 401 (by decide) (by decide) (by decide) (by decide)), h17⟩, ⟨⟨?_, h19, fun i q hq => ⟨?_, (h20 i q hq).2⟩⟩, ?_, fun i q hq => ⟨?_, (h22 i q hq).2⟩⟩, hs.pt (mm 402 (by decide) (by decide) (by decide) (by decide)) (mm 261 (by decide) (by decide) (by decide) (by decide)) (ll 403 (by decide) (by decide) (by decide)) (ll 262 (by decide) (by decide) (by decide)) (ll 263 (by decide) (by decide) (by decide)) (ll 264 (by decide) (by decide) (by decide)) (ll 265 (by decide) (by decide) (by decide)), e5, a3.2, fun _ => rfl⟩
  · rw [mm 266 (by decide) (by decide) (by decide) (by decide)]; exact h9
  · rw [mm 267 (by decide) (by decide) (by decide) (by decide)]; exact h10
  · rw [mm 398 (by decide) (by decide) (by decide) (by decide)]; exact h12
  · rw [mm 399 (by decide) (by decide) (by decide) (by decide)]; exact h13
  · rw [mm b (by omega) (by omega) (by omega) (by omega)]; exact h18
  · have hq2 : i < L.length := (List.getElem?_eq_some_iff.mp hq).1
    exact (h20 i q hq).1.of (mm _ (by omega) (by omega) (by omega) (by omega)) (ll _ (by omega) (by omega) (by omega)) (rr _ (by omega) (by omega) (by omega))
  · rw [mm 398 (by decide) (by decide) (by decide) (by decide)]; exact h21
  · have hq2 : i < L.length := (List.getElem?_eq_some_iff.mp hq).1
    exact (h22 i q hq).1.pt (by omega) (fun k hk => by rw [ll 404 (by decide) (by decide) (by decide)])
theorem INV.said {W : List Int32} (h : INV Len scr N n t b b' L vb lb c nx ct mi ml mr) : INV Len scr N n t b b' L vb lb c nx ct (mO mi W) ml mr := by
  have a1 := h.vb_
  have a2 := h.bb
  refine h.same (Nat.le_refl _) h.1 (fun _ _ => rfl) (fun r k hr => ?_) (fun _ _ _ => rfl) (fun _ _ _ => rfl)
  unfold relI at hr
  by_cases q : r = 398
  · subst q
    exact mO_k (by omega)
  · rw [mO_r (by omega) q]
theorem op_write (h : INV Len scr N n t b b' L vb lb c nx ct mi ml mr) (hi : i + 10 ≤ Len) (hLen : Len ≤ 5120) (k : KK Len scr f i post) : rx_W M_Lw_law 13 (f + 1 + (17400 - c)) (6 * (f + 1) + 2 * (17400 - c)) 833 [(0, .ref 0), (1, .ref 256), (2, .ref 398), (3, .ref 408), (4, .int (nI i))] [] (nx, ct, mi, ml, mr) post := by
  have hL := h.1
  have hS := h.2.1
  have hr := h.2.2.1.1.1
  have hb := h.2.2.1.2.1
  have hT := h.2.2.2.1
  have hN := h.2.2.2.2.1
  have hls := h.2.2.2.2.2.1
  have hsh := h.2.2.2.2.2.2.1
  have c17 := h.2.2.2.2.2.2.2.2.1
  have l60 := hls.1.2.1
  have hsb := h.2.2.2.2.2.2.2
  have wl := wAll_lt h
  have cg := cp_ge c (wAll N L).length
  by_cases q0 : scr (i + 1) < 0
  · skip
    refine ru_aload_n d_Lw_law_833 rfl rfl ?_
    refine ru_aload_n d_Lw_law_834 rfl rfl ?_
    refine ru_iload d_Lw_law_835 rfl ?_
    refine ru_iconst (v := 1) d_Lw_law_837 (by decide) ?_
    refine ru_iadd d_Lw_law_838 ?_
    refine ru_eqi (nm_add i 1 : _ = nI (i + 1)) ?_
    refine ru_sldS (i := (i + 1)) d_Lw_law_839 hS (by omega) (by omega) ?_
    refine ru_aload_n d_Lw_law_840 rfl rfl ?_
    refine ru_mcs (mc' := 1 + (f + (17400 - c))) (ms' := 6 + (6 * f + 2 * (17400 - c))) (by omega) (by omega) ?_
    refine ru_callSW (mc := f + (17400 - c)) (ms := 6 * f + 2 * (17400 - c)) d_Lw_law_841 lm_Lw_94 (lt_write (th_write q0) hL) (by decide) rfl (Nat.le_of_ble_eq_true rfl) ?_
    rintro v τ ⟨rfl, rfl⟩
    unfold rx_new
    have h1 := h.new (tg := 95) (len := 0)
    have hL1 := h1.1
    have hS1 := h1.2.1
    have hls1 := h1.2.2.2.2.2.1
    refine ru_istore d_Lw_law_844 (by decide) ?_
    refine ru_aload_n d_Lw_law_846 rfl rfl ?_
    refine ru_aload_n d_Lw_law_847 rfl rfl ?_
    refine ru_iload d_Lw_law_848 rfl ?_
    refine ru_iconst (v := 1) d_Lw_law_850 (by decide) ?_
    refine ru_iadd d_Lw_law_851 ?_
    refine ru_eqi (nm_add i 1 : _ = nI (i + 1)) ?_
    refine ru_sldS (i := (i + 1)) d_Lw_law_852 hS1 (by omega) (by omega) ?_
    refine ru_mcs (Nat.zero_add _).symm (Nat.zero_add _).symm ?_
    refine ru_callV (mc := _) (ms := _) d_Lw_law_853 lm_Lw_96 (sq_write0 hL1 q0) (rx_recv_is (ly hL1 398 9 0) kx_Mo) (by decide) rfl (Nat.le_of_ble_eq_true rfl) ?_
    rintro v τ ⟨rfl, rfl⟩
    have h2 := h1.f0 (k := 0) 1
    have hL2 := h2.1
    have hS2 := h2.2.1
    refine ru_istore d_Lw_law_856 (by decide) ?_
    refine ru_aload_n d_Lw_law_858 rfl rfl ?_
    refine ru_mcs (Nat.zero_add _).symm (Nat.zero_add _).symm ?_
    refine ru_callV (mc := _) (ms := _) d_Lw_law_859 lm_Lw_55 (sp_Mo_thrown hL2) (rx_recv_is (ly hL2 398 9 0) kx_Mo) (by decide) rfl (Nat.le_of_ble_eq_true rfl) ?_
    rintro v τ ⟨rfl, rfl⟩
    rw [rx_u_same]
    refine ru_iload d_Lw_law_862 rfl ?_
    refine ru_icmp_eq (tgt := 869) d_Lw_law_864 (by decide) (fun h864 => ?_) (fun h864 => absurd h864 (by decide))
    refine ru_iload d_Lw_law_869 rfl ?_
    refine ru_if_ne (tgt := 886) d_Lw_law_871 (by decide) (fun h871 => ?_) (fun h871 => absurd h871 (by decide))
    refine ru_goto (tgt := 900) d_Lw_law_886 (by decide) ?_
    exact ru_to (ru_less (by omega) (by omega) (k _ _ _ _ _ _ _ _ _ _ _ _ _ _ h2)) ⟨rfl, rfl, rfl, rfl, rfl, trivial⟩
  · obtain ⟨k1, k2, k3, k4⟩ := nnI (x := scr (i + 1)) (by rw [il, i_0] at q0; omega)
    refine ru_aload_n d_Lw_law_833 rfl rfl ?_
    refine ru_aload_n d_Lw_law_834 rfl rfl ?_
    refine ru_iload d_Lw_law_835 rfl ?_
    refine ru_iconst (v := 1) d_Lw_law_837 (by decide) ?_
    refine ru_iadd d_Lw_law_838 ?_
    refine ru_eqi (nm_add i 1 : _ = nI (i + 1)) ?_
    refine ru_sldS (i := (i + 1)) d_Lw_law_839 hS (by omega) (by omega) ?_
    refine ru_eqi k3 ?_
    refine ru_aload_n d_Lw_law_840 rfl rfl ?_
    refine ru_mcs (mc' := (cp c (wAll N L).length - c) + (f + 1 + (17400 - cp c (wAll N L).length))) (ms' := 2 * (cp c (wAll N L).length - c) + (6 * (f + 1) + 2 * (17400 - cp c (wAll N L).length))) (by omega) (by omega) ?_
    refine ru_callSW (mc := f + 1 + (17400 - cp c (wAll N L).length)) (ms := 6 * (f + 1) + 2 * (17400 - cp c (wAll N L).length)) d_Lw_law_841 lm_Lw_94 (lw_write hL (sp_write hN.2.2 hL hr hb hsb.1 hN.1 hls.1 hsb.2.2 k2 (by omega)) (fun v τ z => ⟨⟨_, z.1⟩, by obtain ⟨-, a1, a2, a3, a4, a5, a6, z1, z2, z3, z4, z5, z6⟩ := z; exact ⟨a1, a2, a3, a4, a5, z1, z5⟩⟩)) (by decide) rfl (Nat.le_of_ble_eq_true rfl) ?_
    rintro v τ ⟨rfl, v1, nx1, ct1, m1, l1, r1, ⟨rfl, nx2, ct2, m2, l2, r2, vb2, hh, e1, e2, e3, e4, e5⟩, rfl⟩
    cases hh
    have h1 := (h.wrote e1 e2 e4 e5).o (k := 0) (cvI (some (.int (wAns (wAll N L) k1))))
    have hL1 := h1.1
    have hS1 := h1.2.1
    have hls1 := h1.2.2.2.2.2.1
    refine ru_istore d_Lw_law_844 (by decide) ?_
    refine ru_aload_n d_Lw_law_846 rfl rfl ?_
    refine ru_aload_n d_Lw_law_847 rfl rfl ?_
    refine ru_iload d_Lw_law_848 rfl ?_
    refine ru_iconst (v := 1) d_Lw_law_850 (by decide) ?_
    refine ru_iadd d_Lw_law_851 ?_
    refine ru_eqi (nm_add i 1 : _ = nI (i + 1)) ?_
    refine ru_sldS (i := (i + 1)) d_Lw_law_852 hS1 (by omega) (by omega) ?_
    refine ru_eqi k3 ?_
    refine ru_mcs (Nat.zero_add _).symm (Nat.zero_add _).symm ?_
    refine ru_callV (mc := _) (ms := _) d_Lw_law_853 lm_Lw_96 (sq_write hL1 h1.2.2.2.2.1.2.1 hN.2.2 hls1.2.1 l60 hls1.2.2 k2) (rx_recv_is (ly hL1 398 9 0) kx_Mo) (by decide) rfl (Nat.le_of_ble_eq_true rfl) ?_
    rintro v τ ⟨rfl, rfl⟩
    have h2 := (h1.f0 (k := 0) 0).said (W := wAll N L)
    have hL2 := h2.1
    refine ru_istore d_Lw_law_856 (by decide) ?_
    refine ru_aload_n d_Lw_law_858 rfl rfl ?_
    refine ru_mcs (Nat.zero_add _).symm (Nat.zero_add _).symm ?_
    refine ru_callV (mc := _) (ms := _) d_Lw_law_859 lm_Lw_55 (sp_Mo_thrown hL2) (rx_recv_is (ly hL2 398 9 0) kx_Mo) (by decide) rfl (Nat.le_of_ble_eq_true rfl) ?_
    rintro v τ ⟨rfl, rfl⟩
    rw [mO_k, rx_u_same]
    refine ru_iload d_Lw_law_862 rfl ?_
    refine ru_icmp_eq (tgt := 869) d_Lw_law_864 (by decide) (fun h864 => ?_) (fun h864 => absurd h864 (by decide))
    refine ru_iload d_Lw_law_869 rfl ?_
    refine ru_if_ne (tgt := 886) d_Lw_law_871 (by decide) (fun h871 => absurd h871 (by decide)) (fun h871 => ?_)
    refine ru_aload_n d_Lw_law_874 rfl rfl ?_
    refine ru_iconst (v := 0) d_Lw_law_875 (by decide) ?_
    refine ru_laldN (j := 0) d_Lw_law_876 (ly hL2 408 104 1) (by omega) (by decide) ?_
    refine ru_eql (rx_u_same _ _ _ _) ?_
    refine ru_iload d_Lw_law_877 rfl ?_
    refine ru_i2l d_Lw_law_879 ?_
    refine ru_lcmp d_Lw_law_880 ?_
    refine ru_if_eq (tgt := 886) d_Lw_law_881 (by decide) (fun h881 => ?_) (fun h881 => absurd ((lg_cmp_eq _ _).mpr rfl) h881)
    replace h881 := (lg_cmp_eq _ _).mp h881
    refine ru_goto (tgt := 900) d_Lw_law_886 (by decide) ?_
    exact ru_to (ru_less (by omega) (by omega) (k _ _ _ _ _ _ _ _ _ _ _ _ _ _ h2)) ⟨rfl, rfl, rfl, rfl, rfl, trivial⟩
theorem nm_10 {Len : Nat} (h : Len ≤ 5120) : (nI Len - nI 10).toInt = (Len : Int) - 10 := by
  rw [Int32.toInt_sub, nI_toInt (by omega), nI_toInt (by omega)]
  apply Int.bmod_eq_of_le <;> omega
theorem an_15 (x : Int32) : 0 ≤ (x &&& 15).toInt ∧ (x &&& 15).toInt < 16 := by
  have h1 : (x &&& 15).toBitVec = x.toBitVec &&& 15 := rfl
  have h2 : (x &&& 15).toBitVec.toNat = x.toBitVec.toNat % 16 := by
    rw [h1, BitVec.toNat_and]
    exact Nat.and_two_pow_sub_one_eq_mod _ 4
  have h3 : (x &&& 15).toInt = ((x &&& 15).toBitVec.toNat : Int) := by
    show (x &&& 15).toBitVec.toInt = _
    rw [BitVec.toInt_eq_toNat_of_lt (by omega)]
  rw [h3, h2]
  omega
theorem lw_loop (hLen : Len ≤ 5120) (hend : ∀ mc ms σ, rx_W M_Lw_law 13 mc ms 906 [] [] σ post) : ∀ f i N n t b b' L vb lb c nx ct mi ml mr, i ≤ Len → f = (Len - i) / 10 → INV Len scr N n t b b' L vb lb c nx ct mi ml mr → rx_W M_Lw_law 13 (f + (17400 - c)) (6 * f + 2 * (17400 - c)) 23 [(0, .ref 0), (1, .ref 256), (2, .ref 398), (3, .ref 408), (4, .int (nI i))] [] (nx, ct, mi, ml, mr) post := by
  intro f
  induction f with
  | zero =>
    intro i N n t b b' L vb lb c nx ct mi ml mr hi hf h
    have hL := h.1
    have hS := h.2.1
    refine ru_iload d_Lw_law_23 rfl ?_
    refine ru_aload_n d_Lw_law_25 rfl rfl ?_
    refine ru_slen d_Lw_law_26 hS.1 ?_
    refine ru_bipush (v := 10) d_Lw_law_27 (by decide) ?_
    refine ru_isub d_Lw_law_29 ?_
    refine ru_icmp_gt (tgt := 906) d_Lw_law_30 (by decide) (fun h30 => ?_) (fun h30 => absurd (show nI Len - nI 10 < nI i by rw [il, nm_10 hLen, nI_toInt (by omega)]; omega) h30)
    exact ru_to (hend _ _ _) trivial
  | succ f ih =>
    intro i N n t b b' L vb lb c nx ct mi ml mr hi hf h
    have hL := h.1
    have hS := h.2.1
    have hi2 : i + 10 ≤ Len := by omega
    have c17 := h.2.2.2.2.2.2.2.2.1
    have a15 := an_15 (scr i)
    have k : KK Len scr f i post := by
      intro N n t b b' L vb lb c nx ct mi ml mr h
      refine ru_iinc (v := nI (i + 10)) d_Lw_law_900 rfl (nm_inc _ 10) (by decide) ?_
      refine ru_goto (tgt := 23) d_Lw_law_903 (by decide) ?_
      exact ru_to (ih (i + 10) _ _ _ _ _ _ _ _ _ _ _ _ _ _ (by omega) (by omega) h) ⟨rfl, rfl, rfl, rfl, rfl, trivial⟩
    refine ru_iload d_Lw_law_23 rfl ?_
    refine ru_aload_n d_Lw_law_25 rfl rfl ?_
    refine ru_slen d_Lw_law_26 hS.1 ?_
    refine ru_bipush (v := 10) d_Lw_law_27 (by decide) ?_
    refine ru_isub d_Lw_law_29 ?_
    refine ru_icmp_gt (tgt := 906) d_Lw_law_30 (by decide) (fun h30 => absurd h30 (show ¬ nI Len - nI 10 < nI i by rw [il, nm_10 hLen, nI_toInt (by omega)]; omega)) (fun h30 => ?_)
    refine ru_aload_n d_Lw_law_33 rfl rfl ?_
    refine ru_iload d_Lw_law_34 rfl ?_
    refine ru_sldS (i := i) d_Lw_law_36 hS (by omega) (by omega) ?_
    refine ru_bipush (v := 15) d_Lw_law_37 (by decide) ?_
    refine ru_iand d_Lw_law_39 ?_
    by_cases h40 : (scr i &&& 15).toInt < 0 ∨ 12 < (scr i &&& 15).toInt
    · refine ru_tableOut (tgt := 900) d_Lw_law_40 h40 (by decide) ?_
      exact ru_to (ru_less (by omega) (by omega) (k _ _ _ _ _ _ _ _ _ _ _ _ _ _ h)) ⟨rfl, rfl, rfl, rfl, rfl, trivial⟩
    by_cases h40_0 : (scr i &&& 15).toInt = 0
    · refine ru_tableIn (tgt := 108) d_Lw_law_40 (by omega) (by omega) (by rw [h40_0]; rfl) (by decide) ?_
      exact ru_to (op_unit h hi2 hLen k) ⟨rfl, rfl, rfl, rfl, rfl, trivial⟩
    by_cases h40_1 : (scr i &&& 15).toInt = 1
    · refine ru_tableIn (tgt := 133) d_Lw_law_40 (by omega) (by omega) (by rw [h40_1]; rfl) (by decide) ?_
      exact ru_to (op_name h hi2 hLen k) ⟨rfl, rfl, rfl, rfl, rfl, trivial⟩
    by_cases h40_2 : (scr i &&& 15).toInt = 2
    · refine ru_tableIn (tgt := 220) d_Lw_law_40 (by omega) (by omega) (by rw [h40_2]; rfl) (by decide) ?_
      exact ru_to (op_read h hi2 hLen k) ⟨rfl, rfl, rfl, rfl, rfl, trivial⟩
    by_cases h40_3 : (scr i &&& 15).toInt = 3
    · refine ru_tableIn (tgt := 233) d_Lw_law_40 (by omega) (by omega) (by rw [h40_3]; rfl) (by decide) ?_
      exact ru_to (op_rule h hi2 hLen k) ⟨rfl, rfl, rfl, rfl, rfl, trivial⟩
    by_cases h40_4 : (scr i &&& 15).toInt = 4
    · refine ru_tableIn (tgt := 301) d_Lw_law_40 (by omega) (by omega) (by rw [h40_4]; rfl) (by decide) ?_
      exact ru_to (op_value h hi2 hLen k) ⟨rfl, rfl, rfl, rfl, rfl, trivial⟩
    by_cases h40_5 : (scr i &&& 15).toInt = 5
    · refine ru_tableIn (tgt := 368) d_Lw_law_40 (by omega) (by omega) (by rw [h40_5]; rfl) (by decide) ?_
      exact ru_to (op_rank h hi2 hLen k) ⟨rfl, rfl, rfl, rfl, rfl, trivial⟩
    by_cases h40_6 : (scr i &&& 15).toInt = 6
    · refine ru_tableIn (tgt := 424) d_Lw_law_40 (by omega) (by omega) (by rw [h40_6]; rfl) (by decide) ?_
      exact ru_to (op_shape h hi2 hLen k) ⟨rfl, rfl, rfl, rfl, rfl, trivial⟩
    by_cases h40_7 : (scr i &&& 15).toInt = 7
    · refine ru_tableIn (tgt := 671) d_Lw_law_40 (by omega) (by omega) (by rw [h40_7]; rfl) (by decide) ?_
      exact ru_to (op_never h hi2 hLen k) ⟨rfl, rfl, rfl, rfl, rfl, trivial⟩
    by_cases h40_8 : (scr i &&& 15).toInt = 8
    · refine ru_tableIn (tgt := 696) d_Lw_law_40 (by omega) (by omega) (by rw [h40_8]; rfl) (by decide) ?_
      exact ru_to (op_clash h hi2 hLen k) ⟨rfl, rfl, rfl, rfl, rfl, trivial⟩
    by_cases h40_9 : (scr i &&& 15).toInt = 9
    · refine ru_tableIn (tgt := 764) d_Lw_law_40 (by omega) (by omega) (by rw [h40_9]; rfl) (by decide) ?_
      exact ru_to (op_line h hi2 hLen k) ⟨rfl, rfl, rfl, rfl, rfl, trivial⟩
    by_cases h40_10 : (scr i &&& 15).toInt = 10
    · refine ru_tableIn (tgt := 820) d_Lw_law_40 (by omega) (by omega) (by rw [h40_10]; rfl) (by decide) ?_
      exact ru_to (op_kinds h hi2 hLen k) ⟨rfl, rfl, rfl, rfl, rfl, trivial⟩
    by_cases h40_11 : (scr i &&& 15).toInt = 11
    · refine ru_tableIn (tgt := 833) d_Lw_law_40 (by omega) (by omega) (by rw [h40_11]; rfl) (by decide) ?_
      exact ru_to (op_write h hi2 hLen k) ⟨rfl, rfl, rfl, rfl, rfl, trivial⟩
    by_cases h40_12 : (scr i &&& 15).toInt = 12
    · refine ru_tableIn (tgt := 889) d_Lw_law_40 (by omega) (by omega) (by rw [h40_12]; rfl) (by decide) ?_
      exact ru_to (op_clear h hi2 hLen k) ⟨rfl, rfl, rfl, rfl, rfl, trivial⟩
    exfalso; omega
end
