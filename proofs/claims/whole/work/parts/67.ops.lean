/-! The law: one call and its comparison -/
def KK (Len : Nat) (scr : Nat → Int32) (f i : Nat) (post : rx_End) : Prop := ∀ N n t b b' L vb lb c nx ct mi ml mr, INV Len scr N n t b b' L vb lb c nx ct mi ml mr → rx_W M_Lw_law 13 (f + (17400 - c)) (6 * f + 2 * (17400 - c)) 900 [(0, .ref 0), (1, .ref 256), (2, .ref 398), (3, .ref 408), (4, .int (nI i))] [] (nx, ct, mi, ml, mr) post
theorem nnI {x : Int32} (h : 0 ≤ x.toInt) : ∃ k, k < 2 ^ 31 ∧ x = nI k ∧ x.toInt = k := by
  obtain ⟨k, hk, e⟩ := nI_of (x := x) (by rw [il, i_0]; omega)
  exact ⟨k, hk, e, by rw [e, nI_toInt hk]⟩
section
variable {Len : Nat} {scr : Nat → Int32} {N N' : nmS} {n n' : Nat} {t t' : Nat → Int32} {b b' : Nat} {L : List ruS} {vb : Nat} {lb : List Int32} {c : Nat} {nx nx' : Nat} {ct ct' : Nat → Nat × Nat} {mi mi' : Nat → Nat → Int32} {ml ml' : Nat → Nat → Int64} {mr mr' : Nat → Nat → Option Nat} {f i : Nat} {post : rx_End}
theorem INV.upd (h : INV Len scr N n t b b' L vb lb c nx ct mi ml mr) (hT : TxC n' t' mi' ∧ mi' 398 2 = nI n' ∧ mi' 399 = t' ∧ ∀ i, i < n' → isTC (t' i)) (hN : NmC N' mi' ∧ NmM N' mi' ∧ NmOK N') (hs : shE mi' ml') (h7 : mi' 256 7 = 0 → lb = wAll N' L) (hi : ∀ r k, (r = 0 ∨ r = 272 ∨ r = vb ∨ (b ≤ r ∧ r < b + 62) ∨ (r = 398 ∧ k = 7)) → mi' r k = mi r k) (hl : ∀ r k, ((r = 404 ∧ k < 720) ∨ (b ≤ r ∧ r < b + 62)) → ml' r k = ml r k) : INV Len scr N' n' t' b b' L vb lb c nx ct mi' ml' mr := by
  obtain ⟨h1, ⟨h2, h3⟩, h4, -, -, ⟨⟨h18, h19, h20⟩, h21, h22⟩, -, ⟨h25, h26, -⟩⟩ := h
  have hb : b = 274 ∨ b = 336 := h4.2.1
  refine ⟨h1, ⟨h2, ?_⟩, h4, hT, hN, ⟨⟨?_, h19, fun i q hq => ⟨?_, (h20 i q hq).2⟩⟩, ?_, fun i q hq => ⟨?_, (h22 i q hq).2⟩⟩, hs, ?_, h26, h7⟩
  · funext k; rw [hi 0 k (by omega), h3]
  · rw [hi b 1 (by omega)]; exact h18
  · have hq2 : i < L.length := (List.getElem?_eq_some_iff.mp hq).1
    exact (h20 i q hq).1.pt (fun k => hi _ k (by omega)) (fun k => hl _ k (by omega)) (fun k => rfl)
  · rw [hi 398 7 (by omega)]; exact h21
  · have hq2 : i < L.length := (List.getElem?_eq_some_iff.mp hq).1
    exact (h22 i q hq).1.pt (by omega) (fun k hk => hl 404 k (by omega))
  · obtain ⟨s1, s2, s3, s4, s5, s6, s7, s8, s9, s10⟩ := h25
    exact ⟨s1, s2, s3, s4, (hi 272 1 (by omega)).trans s5, (hi 272 3 (by omega)).trans s6, s7, s8, fun i x hx => (hi vb i (by omega)).trans (s9 i x hx), fun i hi2 => by rw [hi vb i (by omega)]; exact s10 i hi2⟩
theorem op_rule (h : INV Len scr N n t b b' L vb lb c nx ct mi ml mr) (hi : i + 10 ≤ Len) (hLen : Len ≤ 5120) (k : KK Len scr f i post) : rx_W M_Lw_law 13 (f + 1 + (17400 - c)) (6 * (f + 1) + 2 * (17400 - c)) 233 [(0, .ref 0), (1, .ref 256), (2, .ref 398), (3, .ref 408), (4, .int (nI i))] [] (nx, ct, mi, ml, mr) post := by
  have hL := h.1
  have hS := h.2.1
  have hr := h.2.2.1.1.1
  have hb := h.2.2.1.2.1
  have hT := h.2.2.2.1
  have hN := h.2.2.2.2.1
  have hls := h.2.2.2.2.2.1
  have hsh := h.2.2.2.2.2.2.1
  have c17 := h.2.2.2.2.2.2.2.2.1
  have l60 := hls.1.2.1
  by_cases q : (0 ≤ (scr (i + 1)).toInt ∧ (scr (i + 1)).toInt < L.length) ∧ 0 ≤ (scr (i + 2)).toInt ∧ (scr (i + 2)).toInt < 8
  · obtain ⟨k1, k2, k3, k4⟩ := nnI q.1.1
    obtain ⟨w1, w2, w3, w4⟩ := nnI q.2.1
    obtain ⟨ru, hq⟩ := getL (L := L) (i := k1) (by omega)
    refine ru_aload_n d_Lw_law_233 rfl rfl ?_
    refine ru_aload_n d_Lw_law_234 rfl rfl ?_
    refine ru_iload d_Lw_law_235 rfl ?_
    refine ru_iconst (v := 1) d_Lw_law_237 (by decide) ?_
    refine ru_iadd d_Lw_law_238 ?_
    refine ru_eqi (nm_add i 1 : _ = nI (i + 1)) ?_
    refine ru_sldS (i := (i + 1)) d_Lw_law_239 hS (by omega) (by omega) ?_
    refine ru_eqi k3 ?_
    refine ru_aload_n d_Lw_law_240 rfl rfl ?_
    refine ru_iload d_Lw_law_241 rfl ?_
    refine ru_iconst (v := 2) d_Lw_law_243 (by decide) ?_
    refine ru_iadd d_Lw_law_244 ?_
    refine ru_eqi (nm_add i 2 : _ = nI (i + 2)) ?_
    refine ru_sldS (i := (i + 2)) d_Lw_law_245 hS (by omega) (by omega) ?_
    refine ru_eqi w3 ?_
    refine ru_aload_n d_Lw_law_246 rfl rfl ?_
    refine ru_mcs (Nat.zero_add _).symm (Nat.zero_add _).symm ?_
    refine ru_callSW (mc := _) (ms := _) d_Lw_law_247 lm_Lw_63 (lw_rule hL (sp_rule hL hr hb hls.1 hq (by omega)) (fun v τ z => ⟨⟨_, z.1⟩, _, _, _, _, _, z.2, hL⟩)) (by decide) rfl (Nat.le_of_ble_eq_true rfl) ?_
    rintro v τ ⟨rfl, v1, nx1, ct1, m1, l1, r1, ⟨rfl, hh⟩, rfl⟩
    cases hh
    have h1 := h.o (k := 0) (cvI (some (.int (ruV ru w1))))
    have hL1 := h1.1
    have hS1 := h1.2.1
    have hls1 := h1.2.2.2.2.2.1
    have hsh1 := h1.2.2.2.2.2.2.1
    refine ru_istore d_Lw_law_250 (by decide) ?_
    refine ru_aload_n d_Lw_law_252 rfl rfl ?_
    refine ru_aload_n d_Lw_law_253 rfl rfl ?_
    refine ru_iload d_Lw_law_254 rfl ?_
    refine ru_iconst (v := 1) d_Lw_law_256 (by decide) ?_
    refine ru_iadd d_Lw_law_257 ?_
    refine ru_eqi (nm_add i 1 : _ = nI (i + 1)) ?_
    refine ru_sldS (i := (i + 1)) d_Lw_law_258 hS1 (by omega) (by omega) ?_
    refine ru_eqi k3 ?_
    refine ru_aload_n d_Lw_law_259 rfl rfl ?_
    refine ru_iload d_Lw_law_260 rfl ?_
    refine ru_iconst (v := 2) d_Lw_law_262 (by decide) ?_
    refine ru_iadd d_Lw_law_263 ?_
    refine ru_eqi (nm_add i 2 : _ = nI (i + 2)) ?_
    refine ru_sldS (i := (i + 2)) d_Lw_law_264 hS1 (by omega) (by omega) ?_
    refine ru_eqi w3 ?_
    refine ru_mcs (Nat.zero_add _).symm (Nat.zero_add _).symm ?_
    refine ru_callV (mc := _) (ms := _) d_Lw_law_265 lm_Lw_66 (sp_Mo_rule hL1 hls1.2.1 l60 (show k1 < L.length by omega) (show w1 < 8 by omega)) (rx_recv_is (ly hL1 398 9 0) kx_Mo) (by decide) rfl (Nat.le_of_ble_eq_true rfl) ?_
    rintro v τ ⟨rfl, rfl⟩
    have h2 := h1.f0 (k := 0) 0
    have hL2 := h2.1
    have hS2 := h2.2.1
    refine ru_istore d_Lw_law_268 (by decide) ?_
    refine ru_aload_n d_Lw_law_270 rfl rfl ?_
    refine ru_mcs (Nat.zero_add _).symm (Nat.zero_add _).symm ?_
    refine ru_callV (mc := _) (ms := _) d_Lw_law_271 lm_Lw_55 (sp_Mo_thrown hL2) (rx_recv_is (ly hL2 398 9 0) kx_Mo) (by decide) rfl (Nat.le_of_ble_eq_true rfl) ?_
    rintro v τ ⟨rfl, rfl⟩
    rw [rx_u_same]
    refine ru_iload d_Lw_law_274 rfl ?_
    refine ru_icmp_eq (tgt := 281) d_Lw_law_276 (by decide) (fun h276 => ?_) (fun h276 => absurd h276 (by decide))
    refine ru_iload d_Lw_law_281 rfl ?_
    refine ru_if_ne (tgt := 298) d_Lw_law_283 (by decide) (fun h283 => absurd h283 (by decide)) (fun h283 => ?_)
    refine ru_aload_n d_Lw_law_286 rfl rfl ?_
    refine ru_iconst (v := 0) d_Lw_law_287 (by decide) ?_
    refine ru_laldN (j := 0) d_Lw_law_288 (ly hL2 408 104 1) (by omega) (by decide) ?_
    rw [rx_u_same]
    refine ru_iload d_Lw_law_289 rfl ?_
    refine ru_i2l d_Lw_law_291 ?_
    refine ru_lcmp d_Lw_law_292 ?_
    refine ru_if_eq (tgt := 298) d_Lw_law_293 (by decide) (fun h293 => ?_) (fun h293 => absurd ((lg_cmp_eq _ _).mpr (congrArg Int32.toInt64 (rule_eq hls1.2.2 hq (by omega))).symm) h293)
    replace h293 := (lg_cmp_eq _ _).mp h293
    refine ru_goto (tgt := 900) d_Lw_law_298 (by decide) ?_
    exact ru_to (ru_less (by omega) (by omega) (k _ _ _ _ _ _ _ _ _ _ _ _ _ _ h2)) ⟨rfl, rfl, rfl, rfl, rfl, trivial⟩
  · skip
    refine ru_aload_n d_Lw_law_233 rfl rfl ?_
    refine ru_aload_n d_Lw_law_234 rfl rfl ?_
    refine ru_iload d_Lw_law_235 rfl ?_
    refine ru_iconst (v := 1) d_Lw_law_237 (by decide) ?_
    refine ru_iadd d_Lw_law_238 ?_
    refine ru_eqi (nm_add i 1 : _ = nI (i + 1)) ?_
    refine ru_sldS (i := (i + 1)) d_Lw_law_239 hS (by omega) (by omega) ?_
    refine ru_aload_n d_Lw_law_240 rfl rfl ?_
    refine ru_iload d_Lw_law_241 rfl ?_
    refine ru_iconst (v := 2) d_Lw_law_243 (by decide) ?_
    refine ru_iadd d_Lw_law_244 ?_
    refine ru_eqi (nm_add i 2 : _ = nI (i + 2)) ?_
    refine ru_sldS (i := (i + 2)) d_Lw_law_245 hS (by omega) (by omega) ?_
    refine ru_aload_n d_Lw_law_246 rfl rfl ?_
    refine ru_mcs (mc' := 1 + (f + (17400 - c))) (ms' := 6 + (6 * f + 2 * (17400 - c))) (by omega) (by omega) ?_
    refine ru_callSW (mc := f + (17400 - c)) (ms := 6 * f + 2 * (17400 - c)) d_Lw_law_247 lm_Lw_63 (lt_rule (th_rule hL hr hb hls.1.1 l60 q) hL) (by decide) rfl (Nat.le_of_ble_eq_true rfl) ?_
    rintro v τ ⟨rfl, rfl⟩
    unfold rx_new
    have h1 := h.new (tg := 95) (len := 0)
    have hL1 := h1.1
    have hS1 := h1.2.1
    have hls1 := h1.2.2.2.2.2.1
    refine ru_istore d_Lw_law_250 (by decide) ?_
    refine ru_aload_n d_Lw_law_252 rfl rfl ?_
    refine ru_aload_n d_Lw_law_253 rfl rfl ?_
    refine ru_iload d_Lw_law_254 rfl ?_
    refine ru_iconst (v := 1) d_Lw_law_256 (by decide) ?_
    refine ru_iadd d_Lw_law_257 ?_
    refine ru_eqi (nm_add i 1 : _ = nI (i + 1)) ?_
    refine ru_sldS (i := (i + 1)) d_Lw_law_258 hS1 (by omega) (by omega) ?_
    refine ru_aload_n d_Lw_law_259 rfl rfl ?_
    refine ru_iload d_Lw_law_260 rfl ?_
    refine ru_iconst (v := 2) d_Lw_law_262 (by decide) ?_
    refine ru_iadd d_Lw_law_263 ?_
    refine ru_eqi (nm_add i 2 : _ = nI (i + 2)) ?_
    refine ru_sldS (i := (i + 2)) d_Lw_law_264 hS1 (by omega) (by omega) ?_
    refine ru_mcs (Nat.zero_add _).symm (Nat.zero_add _).symm ?_
    refine ru_callV (mc := _) (ms := _) d_Lw_law_265 lm_Lw_66 (sp_Mo_rule0 hL1 hls1.2.1 l60 q) (rx_recv_is (ly hL1 398 9 0) kx_Mo) (by decide) rfl (Nat.le_of_ble_eq_true rfl) ?_
    rintro v τ ⟨rfl, rfl⟩
    have h2 := h1.f0 (k := 0) 1
    have hL2 := h2.1
    have hS2 := h2.2.1
    refine ru_istore d_Lw_law_268 (by decide) ?_
    refine ru_aload_n d_Lw_law_270 rfl rfl ?_
    refine ru_mcs (Nat.zero_add _).symm (Nat.zero_add _).symm ?_
    refine ru_callV (mc := _) (ms := _) d_Lw_law_271 lm_Lw_55 (sp_Mo_thrown hL2) (rx_recv_is (ly hL2 398 9 0) kx_Mo) (by decide) rfl (Nat.le_of_ble_eq_true rfl) ?_
    rintro v τ ⟨rfl, rfl⟩
    rw [rx_u_same]
    refine ru_iload d_Lw_law_274 rfl ?_
    refine ru_icmp_eq (tgt := 281) d_Lw_law_276 (by decide) (fun h276 => ?_) (fun h276 => absurd h276 (by decide))
    refine ru_iload d_Lw_law_281 rfl ?_
    refine ru_if_ne (tgt := 298) d_Lw_law_283 (by decide) (fun h283 => ?_) (fun h283 => absurd h283 (by decide))
    refine ru_goto (tgt := 900) d_Lw_law_298 (by decide) ?_
    exact ru_to (ru_less (by omega) (by omega) (k _ _ _ _ _ _ _ _ _ _ _ _ _ _ h2)) ⟨rfl, rfl, rfl, rfl, rfl, trivial⟩
theorem op_value (h : INV Len scr N n t b b' L vb lb c nx ct mi ml mr) (hi : i + 10 ≤ Len) (hLen : Len ≤ 5120) (k : KK Len scr f i post) : rx_W M_Lw_law 13 (f + 1 + (17400 - c)) (6 * (f + 1) + 2 * (17400 - c)) 301 [(0, .ref 0), (1, .ref 256), (2, .ref 398), (3, .ref 408), (4, .int (nI i))] [] (nx, ct, mi, ml, mr) post := by
  have hL := h.1
  have hS := h.2.1
  have hr := h.2.2.1.1.1
  have hb := h.2.2.1.2.1
  have hT := h.2.2.2.1
  have hN := h.2.2.2.2.1
  have hls := h.2.2.2.2.2.1
  have hsh := h.2.2.2.2.2.2.1
  have c17 := h.2.2.2.2.2.2.2.2.1
  have l60 := hls.1.2.1
  by_cases q : (0 ≤ (scr (i + 1)).toInt ∧ (scr (i + 1)).toInt < L.length) ∧ 0 ≤ (scr (i + 2)).toInt ∧ (scr (i + 2)).toInt < 2
  · obtain ⟨k1, k2, k3, k4⟩ := nnI q.1.1
    obtain ⟨w1, w2, w3, w4⟩ := nnI q.2.1
    obtain ⟨ru, hq⟩ := getL (L := L) (i := k1) (by omega)
    refine ru_aload_n d_Lw_law_301 rfl rfl ?_
    refine ru_aload_n d_Lw_law_302 rfl rfl ?_
    refine ru_iload d_Lw_law_303 rfl ?_
    refine ru_iconst (v := 1) d_Lw_law_305 (by decide) ?_
    refine ru_iadd d_Lw_law_306 ?_
    refine ru_eqi (nm_add i 1 : _ = nI (i + 1)) ?_
    refine ru_sldS (i := (i + 1)) d_Lw_law_307 hS (by omega) (by omega) ?_
    refine ru_eqi k3 ?_
    refine ru_aload_n d_Lw_law_308 rfl rfl ?_
    refine ru_iload d_Lw_law_309 rfl ?_
    refine ru_iconst (v := 2) d_Lw_law_311 (by decide) ?_
    refine ru_iadd d_Lw_law_312 ?_
    refine ru_eqi (nm_add i 2 : _ = nI (i + 2)) ?_
    refine ru_sldS (i := (i + 2)) d_Lw_law_313 hS (by omega) (by omega) ?_
    refine ru_eqi w3 ?_
    refine ru_aload_n d_Lw_law_314 rfl rfl ?_
    refine ru_mcs (Nat.zero_add _).symm (Nat.zero_add _).symm ?_
    refine ru_callSW (mc := _) (ms := _) d_Lw_law_315 lm_Lw_67 (lw_value hL (sp_value hL hr hb hls.1 hq (by omega)) (fun v τ z => ⟨⟨_, z.1⟩, _, _, _, _, _, z.2, hL⟩)) (by decide) rfl (Nat.le_of_ble_eq_true rfl) ?_
    rintro v τ ⟨rfl, v1, nx1, ct1, m1, l1, r1, ⟨rfl, hh⟩, rfl⟩
    cases hh
    have h1 := h.o (k := 0) (cvL (some (.long (oL (if w1 = 0 then ru.2.2.2.2.2.1.1 else ru.2.2.2.2.2.1.2)))))
    have hL1 := h1.1
    have hS1 := h1.2.1
    have hls1 := h1.2.2.2.2.2.1
    have hsh1 := h1.2.2.2.2.2.2.1
    refine ru_istore d_Lw_law_318 (by decide) ?_
    refine ru_aload_n d_Lw_law_320 rfl rfl ?_
    refine ru_aload_n d_Lw_law_321 rfl rfl ?_
    refine ru_iload d_Lw_law_322 rfl ?_
    refine ru_iconst (v := 1) d_Lw_law_324 (by decide) ?_
    refine ru_iadd d_Lw_law_325 ?_
    refine ru_eqi (nm_add i 1 : _ = nI (i + 1)) ?_
    refine ru_sldS (i := (i + 1)) d_Lw_law_326 hS1 (by omega) (by omega) ?_
    refine ru_eqi k3 ?_
    refine ru_aload_n d_Lw_law_327 rfl rfl ?_
    refine ru_iload d_Lw_law_328 rfl ?_
    refine ru_iconst (v := 2) d_Lw_law_330 (by decide) ?_
    refine ru_iadd d_Lw_law_331 ?_
    refine ru_eqi (nm_add i 2 : _ = nI (i + 2)) ?_
    refine ru_sldS (i := (i + 2)) d_Lw_law_332 hS1 (by omega) (by omega) ?_
    refine ru_eqi w3 ?_
    refine ru_mcs (Nat.zero_add _).symm (Nat.zero_add _).symm ?_
    refine ru_callV (mc := _) (ms := _) d_Lw_law_333 lm_Lw_69 (sp_Mo_value hL1 hls1.2.1 l60 (show k1 < L.length by omega) (show w1 < 2 by omega)) (rx_recv_is (ly hL1 398 9 0) kx_Mo) (by decide) rfl (Nat.le_of_ble_eq_true rfl) ?_
    rintro v τ ⟨rfl, rfl⟩
    have h2 := h1.f0 (k := 0) 0
    have hL2 := h2.1
    have hS2 := h2.2.1
    refine ru_lstore d_Lw_law_336 (by decide) ?_
    refine ru_aload_n d_Lw_law_338 rfl rfl ?_
    refine ru_mcs (Nat.zero_add _).symm (Nat.zero_add _).symm ?_
    refine ru_callV (mc := _) (ms := _) d_Lw_law_339 lm_Lw_55 (sp_Mo_thrown hL2) (rx_recv_is (ly hL2 398 9 0) kx_Mo) (by decide) rfl (Nat.le_of_ble_eq_true rfl) ?_
    rintro v τ ⟨rfl, rfl⟩
    rw [rx_u_same]
    refine ru_iload d_Lw_law_342 rfl ?_
    refine ru_icmp_eq (tgt := 349) d_Lw_law_344 (by decide) (fun h344 => ?_) (fun h344 => absurd h344 (by decide))
    refine ru_iload d_Lw_law_349 rfl ?_
    refine ru_if_ne (tgt := 365) d_Lw_law_351 (by decide) (fun h351 => absurd h351 (by decide)) (fun h351 => ?_)
    refine ru_aload_n d_Lw_law_354 rfl rfl ?_
    refine ru_iconst (v := 0) d_Lw_law_355 (by decide) ?_
    refine ru_laldN (j := 0) d_Lw_law_356 (ly hL2 408 104 1) (by omega) (by decide) ?_
    rw [rx_u_same]
    refine ru_lload d_Lw_law_357 rfl ?_
    refine ru_lcmp d_Lw_law_359 ?_
    refine ru_if_eq (tgt := 365) d_Lw_law_360 (by decide) (fun h360 => ?_) (fun h360 => absurd ((lg_cmp_eq _ _).mpr (value_eq hls1.2.2 hq (by omega)).symm) h360)
    replace h360 := (lg_cmp_eq _ _).mp h360
    refine ru_goto (tgt := 900) d_Lw_law_365 (by decide) ?_
    exact ru_to (ru_less (by omega) (by omega) (k _ _ _ _ _ _ _ _ _ _ _ _ _ _ h2)) ⟨rfl, rfl, rfl, rfl, rfl, trivial⟩
  · skip
    refine ru_aload_n d_Lw_law_301 rfl rfl ?_
    refine ru_aload_n d_Lw_law_302 rfl rfl ?_
    refine ru_iload d_Lw_law_303 rfl ?_
    refine ru_iconst (v := 1) d_Lw_law_305 (by decide) ?_
    refine ru_iadd d_Lw_law_306 ?_
    refine ru_eqi (nm_add i 1 : _ = nI (i + 1)) ?_
    refine ru_sldS (i := (i + 1)) d_Lw_law_307 hS (by omega) (by omega) ?_
    refine ru_aload_n d_Lw_law_308 rfl rfl ?_
    refine ru_iload d_Lw_law_309 rfl ?_
    refine ru_iconst (v := 2) d_Lw_law_311 (by decide) ?_
    refine ru_iadd d_Lw_law_312 ?_
    refine ru_eqi (nm_add i 2 : _ = nI (i + 2)) ?_
    refine ru_sldS (i := (i + 2)) d_Lw_law_313 hS (by omega) (by omega) ?_
    refine ru_aload_n d_Lw_law_314 rfl rfl ?_
    refine ru_mcs (mc' := 1 + (f + (17400 - c))) (ms' := 6 + (6 * f + 2 * (17400 - c))) (by omega) (by omega) ?_
    refine ru_callSW (mc := f + (17400 - c)) (ms := 6 * f + 2 * (17400 - c)) d_Lw_law_315 lm_Lw_67 (lt_value (th_value hL hr hb hls.1.1 l60 q) hL) (by decide) rfl (Nat.le_of_ble_eq_true rfl) ?_
    rintro v τ ⟨rfl, rfl⟩
    unfold rx_new
    have h1 := h.new (tg := 95) (len := 0)
    have hL1 := h1.1
    have hS1 := h1.2.1
    have hls1 := h1.2.2.2.2.2.1
    refine ru_istore d_Lw_law_318 (by decide) ?_
    refine ru_aload_n d_Lw_law_320 rfl rfl ?_
    refine ru_aload_n d_Lw_law_321 rfl rfl ?_
    refine ru_iload d_Lw_law_322 rfl ?_
    refine ru_iconst (v := 1) d_Lw_law_324 (by decide) ?_
    refine ru_iadd d_Lw_law_325 ?_
    refine ru_eqi (nm_add i 1 : _ = nI (i + 1)) ?_
    refine ru_sldS (i := (i + 1)) d_Lw_law_326 hS1 (by omega) (by omega) ?_
    refine ru_aload_n d_Lw_law_327 rfl rfl ?_
    refine ru_iload d_Lw_law_328 rfl ?_
    refine ru_iconst (v := 2) d_Lw_law_330 (by decide) ?_
    refine ru_iadd d_Lw_law_331 ?_
    refine ru_eqi (nm_add i 2 : _ = nI (i + 2)) ?_
    refine ru_sldS (i := (i + 2)) d_Lw_law_332 hS1 (by omega) (by omega) ?_
    refine ru_mcs (Nat.zero_add _).symm (Nat.zero_add _).symm ?_
    refine ru_callV (mc := _) (ms := _) d_Lw_law_333 lm_Lw_69 (sp_Mo_value0 hL1 hls1.2.1 l60 q) (rx_recv_is (ly hL1 398 9 0) kx_Mo) (by decide) rfl (Nat.le_of_ble_eq_true rfl) ?_
    rintro v τ ⟨rfl, rfl⟩
    have h2 := h1.f0 (k := 0) 1
    have hL2 := h2.1
    have hS2 := h2.2.1
    refine ru_lstore d_Lw_law_336 (by decide) ?_
    refine ru_aload_n d_Lw_law_338 rfl rfl ?_
    refine ru_mcs (Nat.zero_add _).symm (Nat.zero_add _).symm ?_
    refine ru_callV (mc := _) (ms := _) d_Lw_law_339 lm_Lw_55 (sp_Mo_thrown hL2) (rx_recv_is (ly hL2 398 9 0) kx_Mo) (by decide) rfl (Nat.le_of_ble_eq_true rfl) ?_
    rintro v τ ⟨rfl, rfl⟩
    rw [rx_u_same]
    refine ru_iload d_Lw_law_342 rfl ?_
    refine ru_icmp_eq (tgt := 349) d_Lw_law_344 (by decide) (fun h344 => ?_) (fun h344 => absurd h344 (by decide))
    refine ru_iload d_Lw_law_349 rfl ?_
    refine ru_if_ne (tgt := 365) d_Lw_law_351 (by decide) (fun h351 => ?_) (fun h351 => absurd h351 (by decide))
    refine ru_goto (tgt := 900) d_Lw_law_365 (by decide) ?_
    exact ru_to (ru_less (by omega) (by omega) (k _ _ _ _ _ _ _ _ _ _ _ _ _ _ h2)) ⟨rfl, rfl, rfl, rfl, rfl, trivial⟩
theorem op_rank (h : INV Len scr N n t b b' L vb lb c nx ct mi ml mr) (hi : i + 10 ≤ Len) (hLen : Len ≤ 5120) (k : KK Len scr f i post) : rx_W M_Lw_law 13 (f + 1 + (17400 - c)) (6 * (f + 1) + 2 * (17400 - c)) 368 [(0, .ref 0), (1, .ref 256), (2, .ref 398), (3, .ref 408), (4, .int (nI i))] [] (nx, ct, mi, ml, mr) post := by
  have hL := h.1
  have hS := h.2.1
  have hr := h.2.2.1.1.1
  have hb := h.2.2.1.2.1
  have hT := h.2.2.2.1
  have hN := h.2.2.2.2.1
  have hls := h.2.2.2.2.2.1
  have hsh := h.2.2.2.2.2.2.1
  have c17 := h.2.2.2.2.2.2.2.2.1
  have l60 := hls.1.2.1
  by_cases q : 0 ≤ (scr (i + 1)).toInt ∧ (scr (i + 1)).toInt < L.length
  · obtain ⟨k1, k2, k3, k4⟩ := nnI q.1
    have hk1 : k1 < L.length := by omega
    refine ru_aload_n d_Lw_law_368 rfl rfl ?_
    refine ru_aload_n d_Lw_law_369 rfl rfl ?_
    refine ru_iload d_Lw_law_370 rfl ?_
    refine ru_iconst (v := 1) d_Lw_law_372 (by decide) ?_
    refine ru_iadd d_Lw_law_373 ?_
    refine ru_eqi (nm_add i 1 : _ = nI (i + 1)) ?_
    refine ru_sldS (i := (i + 1)) d_Lw_law_374 hS (by omega) (by omega) ?_
    refine ru_eqi k3 ?_
    refine ru_aload_n d_Lw_law_375 rfl rfl ?_
    refine ru_mcs (Nat.zero_add _).symm (Nat.zero_add _).symm ?_
    refine ru_callSW (mc := _) (ms := _) d_Lw_law_376 lm_Lw_70 (lw_rank hL (sp_rank hL hr hb hls.1 hk1) (fun v τ z => ⟨⟨_, z.1⟩, _, _, _, _, _, z.2, hL⟩)) (by decide) rfl (Nat.le_of_ble_eq_true rfl) ?_
    rintro v τ ⟨rfl, v1, nx1, ct1, m1, l1, r1, ⟨rfl, hh⟩, rfl⟩
    cases hh
    have h1 := h.o (k := 0) (cvI (some (.int (nI (cF (fun i => aheadL L i k1) L.length 0)))))
    have hL1 := h1.1
    have hS1 := h1.2.1
    have hls1 := h1.2.2.2.2.2.1
    have hsh1 := h1.2.2.2.2.2.2.1
    refine ru_istore d_Lw_law_379 (by decide) ?_
    refine ru_aload_n d_Lw_law_381 rfl rfl ?_
    refine ru_aload_n d_Lw_law_382 rfl rfl ?_
    refine ru_iload d_Lw_law_383 rfl ?_
    refine ru_iconst (v := 1) d_Lw_law_385 (by decide) ?_
    refine ru_iadd d_Lw_law_386 ?_
    refine ru_eqi (nm_add i 1 : _ = nI (i + 1)) ?_
    refine ru_sldS (i := (i + 1)) d_Lw_law_387 hS1 (by omega) (by omega) ?_
    refine ru_eqi k3 ?_
    refine ru_mcs (Nat.zero_add _).symm (Nat.zero_add _).symm ?_
    refine ru_callV (mc := _) (ms := _) d_Lw_law_388 lm_Lw_73 (sp_Mo_rank hL1 hls1.2.1 l60 hk1) (rx_recv_is (ly hL1 398 9 0) kx_Mo) (by decide) rfl (Nat.le_of_ble_eq_true rfl) ?_
    rintro v τ ⟨rfl, rfl⟩
    have h2 := h1.f0 (k := 0) 0
    have hL2 := h2.1
    have hS2 := h2.2.1
    refine ru_istore d_Lw_law_391 (by decide) ?_
    refine ru_aload_n d_Lw_law_393 rfl rfl ?_
    refine ru_mcs (Nat.zero_add _).symm (Nat.zero_add _).symm ?_
    refine ru_callV (mc := _) (ms := _) d_Lw_law_394 lm_Lw_55 (sp_Mo_thrown hL2) (rx_recv_is (ly hL2 398 9 0) kx_Mo) (by decide) rfl (Nat.le_of_ble_eq_true rfl) ?_
    rintro v τ ⟨rfl, rfl⟩
    rw [rx_u_same]
    refine ru_iload d_Lw_law_397 rfl ?_
    refine ru_icmp_eq (tgt := 404) d_Lw_law_399 (by decide) (fun h399 => ?_) (fun h399 => absurd h399 (by decide))
    refine ru_iload d_Lw_law_404 rfl ?_
    refine ru_if_ne (tgt := 421) d_Lw_law_406 (by decide) (fun h406 => absurd h406 (by decide)) (fun h406 => ?_)
    refine ru_aload_n d_Lw_law_409 rfl rfl ?_
    refine ru_iconst (v := 0) d_Lw_law_410 (by decide) ?_
    refine ru_laldN (j := 0) d_Lw_law_411 (ly hL2 408 104 1) (by omega) (by decide) ?_
    rw [rx_u_same]
    refine ru_iload d_Lw_law_412 rfl ?_
    refine ru_i2l d_Lw_law_414 ?_
    refine ru_lcmp d_Lw_law_415 ?_
    refine ru_if_eq (tgt := 421) d_Lw_law_416 (by decide) (fun h416 => ?_) (fun h416 => absurd ((lg_cmp_eq _ _).mpr (congrArg (fun z => (nI z).toInt64) (rank_eq hls1.2.2 hk1)).symm) h416)
    replace h416 := (lg_cmp_eq _ _).mp h416
    refine ru_goto (tgt := 900) d_Lw_law_421 (by decide) ?_
    exact ru_to (ru_less (by omega) (by omega) (k _ _ _ _ _ _ _ _ _ _ _ _ _ _ h2)) ⟨rfl, rfl, rfl, rfl, rfl, trivial⟩
  · skip
    refine ru_aload_n d_Lw_law_368 rfl rfl ?_
    refine ru_aload_n d_Lw_law_369 rfl rfl ?_
    refine ru_iload d_Lw_law_370 rfl ?_
    refine ru_iconst (v := 1) d_Lw_law_372 (by decide) ?_
    refine ru_iadd d_Lw_law_373 ?_
    refine ru_eqi (nm_add i 1 : _ = nI (i + 1)) ?_
    refine ru_sldS (i := (i + 1)) d_Lw_law_374 hS (by omega) (by omega) ?_
    refine ru_aload_n d_Lw_law_375 rfl rfl ?_
    refine ru_mcs (mc' := 1 + (f + (17400 - c))) (ms' := 6 + (6 * f + 2 * (17400 - c))) (by omega) (by omega) ?_
    refine ru_callSW (mc := f + (17400 - c)) (ms := 6 * f + 2 * (17400 - c)) d_Lw_law_376 lm_Lw_70 (lt_rank (th_rank hL hr hb hls.1.1 l60 q) hL) (by decide) rfl (Nat.le_of_ble_eq_true rfl) ?_
    rintro v τ ⟨rfl, rfl⟩
    unfold rx_new
    have h1 := h.new (tg := 95) (len := 0)
    have hL1 := h1.1
    have hS1 := h1.2.1
    have hls1 := h1.2.2.2.2.2.1
    refine ru_istore d_Lw_law_379 (by decide) ?_
    refine ru_aload_n d_Lw_law_381 rfl rfl ?_
    refine ru_aload_n d_Lw_law_382 rfl rfl ?_
    refine ru_iload d_Lw_law_383 rfl ?_
    refine ru_iconst (v := 1) d_Lw_law_385 (by decide) ?_
    refine ru_iadd d_Lw_law_386 ?_
    refine ru_eqi (nm_add i 1 : _ = nI (i + 1)) ?_
    refine ru_sldS (i := (i + 1)) d_Lw_law_387 hS1 (by omega) (by omega) ?_
    refine ru_mcs (Nat.zero_add _).symm (Nat.zero_add _).symm ?_
    refine ru_callV (mc := _) (ms := _) d_Lw_law_388 lm_Lw_73 (sp_Mo_rank0 hL1 hls1.2.1 l60 q) (rx_recv_is (ly hL1 398 9 0) kx_Mo) (by decide) rfl (Nat.le_of_ble_eq_true rfl) ?_
    rintro v τ ⟨rfl, rfl⟩
    have h2 := h1.f0 (k := 0) 1
    have hL2 := h2.1
    have hS2 := h2.2.1
    refine ru_istore d_Lw_law_391 (by decide) ?_
    refine ru_aload_n d_Lw_law_393 rfl rfl ?_
    refine ru_mcs (Nat.zero_add _).symm (Nat.zero_add _).symm ?_
    refine ru_callV (mc := _) (ms := _) d_Lw_law_394 lm_Lw_55 (sp_Mo_thrown hL2) (rx_recv_is (ly hL2 398 9 0) kx_Mo) (by decide) rfl (Nat.le_of_ble_eq_true rfl) ?_
    rintro v τ ⟨rfl, rfl⟩
    rw [rx_u_same]
    refine ru_iload d_Lw_law_397 rfl ?_
    refine ru_icmp_eq (tgt := 404) d_Lw_law_399 (by decide) (fun h399 => ?_) (fun h399 => absurd h399 (by decide))
    refine ru_iload d_Lw_law_404 rfl ?_
    refine ru_if_ne (tgt := 421) d_Lw_law_406 (by decide) (fun h406 => ?_) (fun h406 => absurd h406 (by decide))
    refine ru_goto (tgt := 900) d_Lw_law_421 (by decide) ?_
    exact ru_to (ru_less (by omega) (by omega) (k _ _ _ _ _ _ _ _ _ _ _ _ _ _ h2)) ⟨rfl, rfl, rfl, rfl, rfl, trivial⟩
theorem op_line (h : INV Len scr N n t b b' L vb lb c nx ct mi ml mr) (hi : i + 10 ≤ Len) (hLen : Len ≤ 5120) (k : KK Len scr f i post) : rx_W M_Lw_law 13 (f + 1 + (17400 - c)) (6 * (f + 1) + 2 * (17400 - c)) 764 [(0, .ref 0), (1, .ref 256), (2, .ref 398), (3, .ref 408), (4, .int (nI i))] [] (nx, ct, mi, ml, mr) post := by
  have hL := h.1
  have hS := h.2.1
  have hr := h.2.2.1.1.1
  have hb := h.2.2.1.2.1
  have hT := h.2.2.2.1
  have hN := h.2.2.2.2.1
  have hls := h.2.2.2.2.2.1
  have hsh := h.2.2.2.2.2.2.1
  have c17 := h.2.2.2.2.2.2.2.2.1
  have l60 := hls.1.2.1
  by_cases q : 0 ≤ (scr (i + 1)).toInt ∧ (scr (i + 1)).toInt < L.length
  · obtain ⟨k1, k2, k3, k4⟩ := nnI q.1
    have hk1 : k1 < L.length := by omega
    obtain ⟨ru, hq⟩ := getL hk1
    refine ru_aload_n d_Lw_law_764 rfl rfl ?_
    refine ru_aload_n d_Lw_law_765 rfl rfl ?_
    refine ru_iload d_Lw_law_766 rfl ?_
    refine ru_iconst (v := 1) d_Lw_law_768 (by decide) ?_
    refine ru_iadd d_Lw_law_769 ?_
    refine ru_eqi (nm_add i 1 : _ = nI (i + 1)) ?_
    refine ru_sldS (i := (i + 1)) d_Lw_law_770 hS (by omega) (by omega) ?_
    refine ru_eqi k3 ?_
    refine ru_aload_n d_Lw_law_771 rfl rfl ?_
    refine ru_mcs (Nat.zero_add _).symm (Nat.zero_add _).symm ?_
    refine ru_callSW (mc := _) (ms := _) d_Lw_law_772 lm_Lw_87 (lw_line hL (sp_line hL hr hb hls.1 hq) (fun v τ z => ⟨⟨_, z.1⟩, _, _, _, _, _, z.2, hL⟩)) (by decide) rfl (Nat.le_of_ble_eq_true rfl) ?_
    rintro v τ ⟨rfl, v1, nx1, ct1, m1, l1, r1, ⟨rfl, hh⟩, rfl⟩
    cases hh
    have h1 := h.o (k := 0) (cvI (some (.int (nI ru.2.2.2.2.2.2))))
    have hL1 := h1.1
    have hS1 := h1.2.1
    have hls1 := h1.2.2.2.2.2.1
    have hsh1 := h1.2.2.2.2.2.2.1
    refine ru_istore d_Lw_law_775 (by decide) ?_
    refine ru_aload_n d_Lw_law_777 rfl rfl ?_
    refine ru_aload_n d_Lw_law_778 rfl rfl ?_
    refine ru_iload d_Lw_law_779 rfl ?_
    refine ru_iconst (v := 1) d_Lw_law_781 (by decide) ?_
    refine ru_iadd d_Lw_law_782 ?_
    refine ru_eqi (nm_add i 1 : _ = nI (i + 1)) ?_
    refine ru_sldS (i := (i + 1)) d_Lw_law_783 hS1 (by omega) (by omega) ?_
    refine ru_eqi k3 ?_
    refine ru_mcs (Nat.zero_add _).symm (Nat.zero_add _).symm ?_
    refine ru_callV (mc := _) (ms := _) d_Lw_law_784 lm_Lw_89 (sp_Mo_line hL1 hls1.2.1 l60 hk1) (rx_recv_is (ly hL1 398 9 0) kx_Mo) (by decide) rfl (Nat.le_of_ble_eq_true rfl) ?_
    rintro v τ ⟨rfl, rfl⟩
    have h2 := h1.f0 (k := 0) 0
    have hL2 := h2.1
    have hS2 := h2.2.1
    refine ru_istore d_Lw_law_787 (by decide) ?_
    refine ru_aload_n d_Lw_law_789 rfl rfl ?_
    refine ru_mcs (Nat.zero_add _).symm (Nat.zero_add _).symm ?_
    refine ru_callV (mc := _) (ms := _) d_Lw_law_790 lm_Lw_55 (sp_Mo_thrown hL2) (rx_recv_is (ly hL2 398 9 0) kx_Mo) (by decide) rfl (Nat.le_of_ble_eq_true rfl) ?_
    rintro v τ ⟨rfl, rfl⟩
    rw [rx_u_same]
    refine ru_iload d_Lw_law_793 rfl ?_
    refine ru_icmp_eq (tgt := 800) d_Lw_law_795 (by decide) (fun h795 => ?_) (fun h795 => absurd h795 (by decide))
    refine ru_iload d_Lw_law_800 rfl ?_
    refine ru_if_ne (tgt := 817) d_Lw_law_802 (by decide) (fun h802 => absurd h802 (by decide)) (fun h802 => ?_)
    refine ru_aload_n d_Lw_law_805 rfl rfl ?_
    refine ru_iconst (v := 0) d_Lw_law_806 (by decide) ?_
    refine ru_laldN (j := 0) d_Lw_law_807 (ly hL2 408 104 1) (by omega) (by decide) ?_
    rw [rx_u_same]
    refine ru_iload d_Lw_law_808 rfl ?_
    refine ru_i2l d_Lw_law_810 ?_
    refine ru_lcmp d_Lw_law_811 ?_
    refine ru_if_eq (tgt := 817) d_Lw_law_812 (by decide) (fun h812 => ?_) (fun h812 => absurd ((lg_cmp_eq _ _).mpr (congrArg Int32.toInt64 (line_eq hls1.2.2 hq)).symm) h812)
    replace h812 := (lg_cmp_eq _ _).mp h812
    refine ru_goto (tgt := 900) d_Lw_law_817 (by decide) ?_
    exact ru_to (ru_less (by omega) (by omega) (k _ _ _ _ _ _ _ _ _ _ _ _ _ _ h2)) ⟨rfl, rfl, rfl, rfl, rfl, trivial⟩
  · skip
    refine ru_aload_n d_Lw_law_764 rfl rfl ?_
    refine ru_aload_n d_Lw_law_765 rfl rfl ?_
    refine ru_iload d_Lw_law_766 rfl ?_
    refine ru_iconst (v := 1) d_Lw_law_768 (by decide) ?_
    refine ru_iadd d_Lw_law_769 ?_
    refine ru_eqi (nm_add i 1 : _ = nI (i + 1)) ?_
    refine ru_sldS (i := (i + 1)) d_Lw_law_770 hS (by omega) (by omega) ?_
    refine ru_aload_n d_Lw_law_771 rfl rfl ?_
    refine ru_mcs (mc' := 1 + (f + (17400 - c))) (ms' := 6 + (6 * f + 2 * (17400 - c))) (by omega) (by omega) ?_
    refine ru_callSW (mc := f + (17400 - c)) (ms := 6 * f + 2 * (17400 - c)) d_Lw_law_772 lm_Lw_87 (lt_line (th_line hL hr hb hls.1.1 l60 q) hL) (by decide) rfl (Nat.le_of_ble_eq_true rfl) ?_
    rintro v τ ⟨rfl, rfl⟩
    unfold rx_new
    have h1 := h.new (tg := 95) (len := 0)
    have hL1 := h1.1
    have hS1 := h1.2.1
    have hls1 := h1.2.2.2.2.2.1
    refine ru_istore d_Lw_law_775 (by decide) ?_
    refine ru_aload_n d_Lw_law_777 rfl rfl ?_
    refine ru_aload_n d_Lw_law_778 rfl rfl ?_
    refine ru_iload d_Lw_law_779 rfl ?_
    refine ru_iconst (v := 1) d_Lw_law_781 (by decide) ?_
    refine ru_iadd d_Lw_law_782 ?_
    refine ru_eqi (nm_add i 1 : _ = nI (i + 1)) ?_
    refine ru_sldS (i := (i + 1)) d_Lw_law_783 hS1 (by omega) (by omega) ?_
    refine ru_mcs (Nat.zero_add _).symm (Nat.zero_add _).symm ?_
    refine ru_callV (mc := _) (ms := _) d_Lw_law_784 lm_Lw_89 (sp_Mo_line0 hL1 hls1.2.1 l60 q) (rx_recv_is (ly hL1 398 9 0) kx_Mo) (by decide) rfl (Nat.le_of_ble_eq_true rfl) ?_
    rintro v τ ⟨rfl, rfl⟩
    have h2 := h1.f0 (k := 0) 1
    have hL2 := h2.1
    have hS2 := h2.2.1
    refine ru_istore d_Lw_law_787 (by decide) ?_
    refine ru_aload_n d_Lw_law_789 rfl rfl ?_
    refine ru_mcs (Nat.zero_add _).symm (Nat.zero_add _).symm ?_
    refine ru_callV (mc := _) (ms := _) d_Lw_law_790 lm_Lw_55 (sp_Mo_thrown hL2) (rx_recv_is (ly hL2 398 9 0) kx_Mo) (by decide) rfl (Nat.le_of_ble_eq_true rfl) ?_
    rintro v τ ⟨rfl, rfl⟩
    rw [rx_u_same]
    refine ru_iload d_Lw_law_793 rfl ?_
    refine ru_icmp_eq (tgt := 800) d_Lw_law_795 (by decide) (fun h795 => ?_) (fun h795 => absurd h795 (by decide))
    refine ru_iload d_Lw_law_800 rfl ?_
    refine ru_if_ne (tgt := 817) d_Lw_law_802 (by decide) (fun h802 => ?_) (fun h802 => absurd h802 (by decide))
    refine ru_goto (tgt := 900) d_Lw_law_817 (by decide) ?_
    exact ru_to (ru_less (by omega) (by omega) (k _ _ _ _ _ _ _ _ _ _ _ _ _ _ h2)) ⟨rfl, rfl, rfl, rfl, rfl, trivial⟩
theorem op_clash (h : INV Len scr N n t b b' L vb lb c nx ct mi ml mr) (hi : i + 10 ≤ Len) (hLen : Len ≤ 5120) (k : KK Len scr f i post) : rx_W M_Lw_law 13 (f + 1 + (17400 - c)) (6 * (f + 1) + 2 * (17400 - c)) 696 [(0, .ref 0), (1, .ref 256), (2, .ref 398), (3, .ref 408), (4, .int (nI i))] [] (nx, ct, mi, ml, mr) post := by
  have hL := h.1
  have hS := h.2.1
  have hr := h.2.2.1.1.1
  have hb := h.2.2.1.2.1
  have hT := h.2.2.2.1
  have hN := h.2.2.2.2.1
  have hls := h.2.2.2.2.2.1
  have hsh := h.2.2.2.2.2.2.1
  have c17 := h.2.2.2.2.2.2.2.2.1
  have l60 := hls.1.2.1
  by_cases q : scr (i + 2) = 0 ∨ scr (i + 2) = 1
  · obtain ⟨w1, w2, w3⟩ : ∃ w1, w1 < 2 ∧ scr (i + 2) = nI w1 := q.elim (fun z => ⟨0, by decide, z⟩) (fun z => ⟨1, by decide, z⟩)
    by_cases q0 : scr (i + 1) < 0
    · skip
      refine ru_aload_n d_Lw_law_696 rfl rfl ?_
      refine ru_aload_n d_Lw_law_697 rfl rfl ?_
      refine ru_iload d_Lw_law_698 rfl ?_
      refine ru_iconst (v := 1) d_Lw_law_700 (by decide) ?_
      refine ru_iadd d_Lw_law_701 ?_
      refine ru_eqi (nm_add i 1 : _ = nI (i + 1)) ?_
      refine ru_sldS (i := (i + 1)) d_Lw_law_702 hS (by omega) (by omega) ?_
      refine ru_aload_n d_Lw_law_703 rfl rfl ?_
      refine ru_iload d_Lw_law_704 rfl ?_
      refine ru_iconst (v := 2) d_Lw_law_706 (by decide) ?_
      refine ru_iadd d_Lw_law_707 ?_
      refine ru_eqi (nm_add i 2 : _ = nI (i + 2)) ?_
      refine ru_sldS (i := (i + 2)) d_Lw_law_708 hS (by omega) (by omega) ?_
      refine ru_eqi w3 ?_
      refine ru_aload_n d_Lw_law_709 rfl rfl ?_
      refine ru_mcs (Nat.zero_add _).symm (Nat.zero_add _).symm ?_
      refine ru_callSW (mc := _) (ms := _) d_Lw_law_710 lm_Lw_84 (lw_clash hL (sp_clashN hL hr hb hls.1 q0 w2) (fun v τ z => ⟨⟨_, z.1⟩, _, _, _, _, _, z.2, hL⟩)) (by decide) rfl (Nat.le_of_ble_eq_true rfl) ?_
      rintro v τ ⟨rfl, v1, nx1, ct1, m1, l1, r1, ⟨rfl, hh⟩, rfl⟩
      cases hh
      have h1 := h.o (k := 0) (cvI (some (.int (-1))))
      have hL1 := h1.1
      have hS1 := h1.2.1
      have hls1 := h1.2.2.2.2.2.1
      have hsh1 := h1.2.2.2.2.2.2.1
      refine ru_istore d_Lw_law_713 (by decide) ?_
      refine ru_aload_n d_Lw_law_715 rfl rfl ?_
      refine ru_aload_n d_Lw_law_716 rfl rfl ?_
      refine ru_iload d_Lw_law_717 rfl ?_
      refine ru_iconst (v := 1) d_Lw_law_719 (by decide) ?_
      refine ru_iadd d_Lw_law_720 ?_
      refine ru_eqi (nm_add i 1 : _ = nI (i + 1)) ?_
      refine ru_sldS (i := (i + 1)) d_Lw_law_721 hS1 (by omega) (by omega) ?_
      refine ru_aload_n d_Lw_law_722 rfl rfl ?_
      refine ru_iload d_Lw_law_723 rfl ?_
      refine ru_iconst (v := 2) d_Lw_law_725 (by decide) ?_
      refine ru_iadd d_Lw_law_726 ?_
      refine ru_eqi (nm_add i 2 : _ = nI (i + 2)) ?_
      refine ru_sldS (i := (i + 2)) d_Lw_law_727 hS1 (by omega) (by omega) ?_
      refine ru_eqi w3 ?_
      refine ru_mcs (Nat.zero_add _).symm (Nat.zero_add _).symm ?_
      refine ru_callV (mc := _) (ms := _) d_Lw_law_728 lm_Lw_86 (sp_Mo_clashN hL1 hls1.2.1 q0 w2) (rx_recv_is (ly hL1 398 9 0) kx_Mo) (by decide) rfl (Nat.le_of_ble_eq_true rfl) ?_
      rintro v τ ⟨rfl, rfl⟩
      have h2 := h1.f0 (k := 0) 0
      have hL2 := h2.1
      have hS2 := h2.2.1
      refine ru_istore d_Lw_law_731 (by decide) ?_
      refine ru_aload_n d_Lw_law_733 rfl rfl ?_
      refine ru_mcs (Nat.zero_add _).symm (Nat.zero_add _).symm ?_
      refine ru_callV (mc := _) (ms := _) d_Lw_law_734 lm_Lw_55 (sp_Mo_thrown hL2) (rx_recv_is (ly hL2 398 9 0) kx_Mo) (by decide) rfl (Nat.le_of_ble_eq_true rfl) ?_
      rintro v τ ⟨rfl, rfl⟩
      rw [rx_u_same]
      refine ru_iload d_Lw_law_737 rfl ?_
      refine ru_icmp_eq (tgt := 744) d_Lw_law_739 (by decide) (fun h739 => ?_) (fun h739 => absurd h739 (by decide))
      refine ru_iload d_Lw_law_744 rfl ?_
      refine ru_if_ne (tgt := 761) d_Lw_law_746 (by decide) (fun h746 => absurd h746 (by decide)) (fun h746 => ?_)
      refine ru_aload_n d_Lw_law_749 rfl rfl ?_
      refine ru_iconst (v := 0) d_Lw_law_750 (by decide) ?_
      refine ru_laldN (j := 0) d_Lw_law_751 (ly hL2 408 104 1) (by omega) (by decide) ?_
      rw [rx_u_same]
      refine ru_iload d_Lw_law_752 rfl ?_
      refine ru_i2l d_Lw_law_754 ?_
      refine ru_lcmp d_Lw_law_755 ?_
      refine ru_if_eq (tgt := 761) d_Lw_law_756 (by decide) (fun h756 => ?_) (fun h756 => absurd ((lg_cmp_eq _ _).mpr rfl) h756)
      replace h756 := (lg_cmp_eq _ _).mp h756
      refine ru_goto (tgt := 900) d_Lw_law_761 (by decide) ?_
      exact ru_to (ru_less (by omega) (by omega) (k _ _ _ _ _ _ _ _ _ _ _ _ _ _ h2)) ⟨rfl, rfl, rfl, rfl, rfl, trivial⟩
    · obtain ⟨k1, k2, k3, k4⟩ := nnI (x := scr (i + 1)) (by rw [il, i_0] at q0; omega)
      refine ru_aload_n d_Lw_law_696 rfl rfl ?_
      refine ru_aload_n d_Lw_law_697 rfl rfl ?_
      refine ru_iload d_Lw_law_698 rfl ?_
      refine ru_iconst (v := 1) d_Lw_law_700 (by decide) ?_
      refine ru_iadd d_Lw_law_701 ?_
      refine ru_eqi (nm_add i 1 : _ = nI (i + 1)) ?_
      refine ru_sldS (i := (i + 1)) d_Lw_law_702 hS (by omega) (by omega) ?_
      refine ru_eqi k3 ?_
      refine ru_aload_n d_Lw_law_703 rfl rfl ?_
      refine ru_iload d_Lw_law_704 rfl ?_
      refine ru_iconst (v := 2) d_Lw_law_706 (by decide) ?_
      refine ru_iadd d_Lw_law_707 ?_
      refine ru_eqi (nm_add i 2 : _ = nI (i + 2)) ?_
      refine ru_sldS (i := (i + 2)) d_Lw_law_708 hS (by omega) (by omega) ?_
      refine ru_eqi w3 ?_
      refine ru_aload_n d_Lw_law_709 rfl rfl ?_
      refine ru_mcs (Nat.zero_add _).symm (Nat.zero_add _).symm ?_
      refine ru_callSW (mc := _) (ms := _) d_Lw_law_710 lm_Lw_84 (lw_clash hL (sp_clash hL hr hb hls.1 k2 w2) (fun v τ z => ⟨⟨_, z.1⟩, _, _, _, _, _, z.2, hL⟩)) (by decide) rfl (Nat.le_of_ble_eq_true rfl) ?_
      rintro v τ ⟨rfl, v1, nx1, ct1, m1, l1, r1, ⟨rfl, hh⟩, rfl⟩
      cases hh
      have h1 := h.o (k := 0) (cvI (some (.int (oP w1 (nthA (oddsL (shT mi) (shQ ml) L) L.length L.length 0 k1)))))
      have hL1 := h1.1
      have hS1 := h1.2.1
      have hls1 := h1.2.2.2.2.2.1
      have hsh1 := h1.2.2.2.2.2.2.1
      refine ru_istore d_Lw_law_713 (by decide) ?_
      refine ru_aload_n d_Lw_law_715 rfl rfl ?_
      refine ru_aload_n d_Lw_law_716 rfl rfl ?_
      refine ru_iload d_Lw_law_717 rfl ?_
      refine ru_iconst (v := 1) d_Lw_law_719 (by decide) ?_
      refine ru_iadd d_Lw_law_720 ?_
      refine ru_eqi (nm_add i 1 : _ = nI (i + 1)) ?_
      refine ru_sldS (i := (i + 1)) d_Lw_law_721 hS1 (by omega) (by omega) ?_
      refine ru_eqi k3 ?_
      refine ru_aload_n d_Lw_law_722 rfl rfl ?_
      refine ru_iload d_Lw_law_723 rfl ?_
      refine ru_iconst (v := 2) d_Lw_law_725 (by decide) ?_
      refine ru_iadd d_Lw_law_726 ?_
      refine ru_eqi (nm_add i 2 : _ = nI (i + 2)) ?_
      refine ru_sldS (i := (i + 2)) d_Lw_law_727 hS1 (by omega) (by omega) ?_
      refine ru_eqi w3 ?_
      refine ru_mcs (Nat.zero_add _).symm (Nat.zero_add _).symm ?_
      refine ru_callV (mc := _) (ms := _) d_Lw_law_728 lm_Lw_86 (sp_Mo_clash (z := zL L) hL1 hls1.2.1 l60 k2 w2 (zL_ok hls1.2.2)) (rx_recv_is (ly hL1 398 9 0) kx_Mo) (by decide) rfl (Nat.le_of_ble_eq_true rfl) ?_
      rintro v τ ⟨rfl, rfl⟩
      have h2 := h1.f0 (k := 0) 0
      have hL2 := h2.1
      have hS2 := h2.2.1
      refine ru_istore d_Lw_law_731 (by decide) ?_
      refine ru_aload_n d_Lw_law_733 rfl rfl ?_
      refine ru_mcs (Nat.zero_add _).symm (Nat.zero_add _).symm ?_
      refine ru_callV (mc := _) (ms := _) d_Lw_law_734 lm_Lw_55 (sp_Mo_thrown hL2) (rx_recv_is (ly hL2 398 9 0) kx_Mo) (by decide) rfl (Nat.le_of_ble_eq_true rfl) ?_
      rintro v τ ⟨rfl, rfl⟩
      rw [rx_u_same]
      refine ru_iload d_Lw_law_737 rfl ?_
      refine ru_icmp_eq (tgt := 744) d_Lw_law_739 (by decide) (fun h739 => ?_) (fun h739 => absurd h739 (by decide))
      refine ru_iload d_Lw_law_744 rfl ?_
      refine ru_if_ne (tgt := 761) d_Lw_law_746 (by decide) (fun h746 => absurd h746 (by decide)) (fun h746 => ?_)
      refine ru_aload_n d_Lw_law_749 rfl rfl ?_
      refine ru_iconst (v := 0) d_Lw_law_750 (by decide) ?_
      refine ru_laldN (j := 0) d_Lw_law_751 (ly hL2 408 104 1) (by omega) (by decide) ?_
      rw [rx_u_same]
      refine ru_iload d_Lw_law_752 rfl ?_
      refine ru_i2l d_Lw_law_754 ?_
      refine ru_lcmp d_Lw_law_755 ?_
      refine ru_if_eq (tgt := 761) d_Lw_law_756 (by decide) (fun h756 => ?_) (fun h756 => absurd ((lg_cmp_eq _ _).mpr (congrArg (fun z => (oP w1 z).toInt64) (clash_eq hsh1 hls1.2.2)).symm) h756)
      replace h756 := (lg_cmp_eq _ _).mp h756
      refine ru_goto (tgt := 900) d_Lw_law_761 (by decide) ?_
      exact ru_to (ru_less (by omega) (by omega) (k _ _ _ _ _ _ _ _ _ _ _ _ _ _ h2)) ⟨rfl, rfl, rfl, rfl, rfl, trivial⟩
  · skip
    refine ru_aload_n d_Lw_law_696 rfl rfl ?_
    refine ru_aload_n d_Lw_law_697 rfl rfl ?_
    refine ru_iload d_Lw_law_698 rfl ?_
    refine ru_iconst (v := 1) d_Lw_law_700 (by decide) ?_
    refine ru_iadd d_Lw_law_701 ?_
    refine ru_eqi (nm_add i 1 : _ = nI (i + 1)) ?_
    refine ru_sldS (i := (i + 1)) d_Lw_law_702 hS (by omega) (by omega) ?_
    refine ru_aload_n d_Lw_law_703 rfl rfl ?_
    refine ru_iload d_Lw_law_704 rfl ?_
    refine ru_iconst (v := 2) d_Lw_law_706 (by decide) ?_
    refine ru_iadd d_Lw_law_707 ?_
    refine ru_eqi (nm_add i 2 : _ = nI (i + 2)) ?_
    refine ru_sldS (i := (i + 2)) d_Lw_law_708 hS (by omega) (by omega) ?_
    refine ru_aload_n d_Lw_law_709 rfl rfl ?_
    refine ru_mcs (mc' := 1 + (f + (17400 - c))) (ms' := 6 + (6 * f + 2 * (17400 - c))) (by omega) (by omega) ?_
    refine ru_callSW (mc := f + (17400 - c)) (ms := 6 * f + 2 * (17400 - c)) d_Lw_law_710 lm_Lw_84 (lt_clash (th_clash q) hL) (by decide) rfl (Nat.le_of_ble_eq_true rfl) ?_
    rintro v τ ⟨rfl, rfl⟩
    unfold rx_new
    have h1 := h.new (tg := 95) (len := 0)
    have hL1 := h1.1
    have hS1 := h1.2.1
    have hls1 := h1.2.2.2.2.2.1
    refine ru_istore d_Lw_law_713 (by decide) ?_
    refine ru_aload_n d_Lw_law_715 rfl rfl ?_
    refine ru_aload_n d_Lw_law_716 rfl rfl ?_
    refine ru_iload d_Lw_law_717 rfl ?_
    refine ru_iconst (v := 1) d_Lw_law_719 (by decide) ?_
    refine ru_iadd d_Lw_law_720 ?_
    refine ru_eqi (nm_add i 1 : _ = nI (i + 1)) ?_
    refine ru_sldS (i := (i + 1)) d_Lw_law_721 hS1 (by omega) (by omega) ?_
    refine ru_aload_n d_Lw_law_722 rfl rfl ?_
    refine ru_iload d_Lw_law_723 rfl ?_
    refine ru_iconst (v := 2) d_Lw_law_725 (by decide) ?_
    refine ru_iadd d_Lw_law_726 ?_
    refine ru_eqi (nm_add i 2 : _ = nI (i + 2)) ?_
    refine ru_sldS (i := (i + 2)) d_Lw_law_727 hS1 (by omega) (by omega) ?_
    refine ru_mcs (Nat.zero_add _).symm (Nat.zero_add _).symm ?_
    refine ru_callV (mc := _) (ms := _) d_Lw_law_728 lm_Lw_86 (sp_Mo_clash0 hL1 hls1.2.1 q) (rx_recv_is (ly hL1 398 9 0) kx_Mo) (by decide) rfl (Nat.le_of_ble_eq_true rfl) ?_
    rintro v τ ⟨rfl, rfl⟩
    have h2 := h1.f0 (k := 0) 1
    have hL2 := h2.1
    have hS2 := h2.2.1
    refine ru_istore d_Lw_law_731 (by decide) ?_
    refine ru_aload_n d_Lw_law_733 rfl rfl ?_
    refine ru_mcs (Nat.zero_add _).symm (Nat.zero_add _).symm ?_
    refine ru_callV (mc := _) (ms := _) d_Lw_law_734 lm_Lw_55 (sp_Mo_thrown hL2) (rx_recv_is (ly hL2 398 9 0) kx_Mo) (by decide) rfl (Nat.le_of_ble_eq_true rfl) ?_
    rintro v τ ⟨rfl, rfl⟩
    rw [rx_u_same]
    refine ru_iload d_Lw_law_737 rfl ?_
    refine ru_icmp_eq (tgt := 744) d_Lw_law_739 (by decide) (fun h739 => ?_) (fun h739 => absurd h739 (by decide))
    refine ru_iload d_Lw_law_744 rfl ?_
    refine ru_if_ne (tgt := 761) d_Lw_law_746 (by decide) (fun h746 => ?_) (fun h746 => absurd h746 (by decide))
    refine ru_goto (tgt := 900) d_Lw_law_761 (by decide) ?_
    exact ru_to (ru_less (by omega) (by omega) (k _ _ _ _ _ _ _ _ _ _ _ _ _ _ h2)) ⟨rfl, rfl, rfl, rfl, rfl, trivial⟩
theorem op_never (h : INV Len scr N n t b b' L vb lb c nx ct mi ml mr) (hi : i + 10 ≤ Len) (hLen : Len ≤ 5120) (k : KK Len scr f i post) : rx_W M_Lw_law 13 (f + 1 + (17400 - c)) (6 * (f + 1) + 2 * (17400 - c)) 671 [(0, .ref 0), (1, .ref 256), (2, .ref 398), (3, .ref 408), (4, .int (nI i))] [] (nx, ct, mi, ml, mr) post := by
  have hL := h.1
  have hS := h.2.1
  have hr := h.2.2.1.1.1
  have hb := h.2.2.1.2.1
  have hT := h.2.2.2.1
  have hN := h.2.2.2.2.1
  have hls := h.2.2.2.2.2.1
  have hsh := h.2.2.2.2.2.2.1
  have c17 := h.2.2.2.2.2.2.2.2.1
  have l60 := hls.1.2.1
  by_cases q0 : scr (i + 1) < 0
  · skip
    refine ru_aload_n d_Lw_law_671 rfl rfl ?_
    refine ru_aload_n d_Lw_law_672 rfl rfl ?_
    refine ru_iload d_Lw_law_673 rfl ?_
    refine ru_iconst (v := 1) d_Lw_law_675 (by decide) ?_
    refine ru_iadd d_Lw_law_676 ?_
    refine ru_eqi (nm_add i 1 : _ = nI (i + 1)) ?_
    refine ru_sldS (i := (i + 1)) d_Lw_law_677 hS (by omega) (by omega) ?_
    refine ru_mcs (Nat.zero_add _).symm (Nat.zero_add _).symm ?_
    refine ru_callV (mc := _) (ms := _) d_Lw_law_678 lm_Lw_80 (sp_neverN hL hr hb hls.1 q0) (rx_recv_is (ly hL 256 0 0) kx_RT) (by decide) rfl (Nat.le_of_ble_eq_true rfl) ?_
    intro v τ h
    obtain ⟨rfl, rfl⟩ := h
    refine ru_aload_n d_Lw_law_681 rfl rfl ?_
    refine ru_aload_n d_Lw_law_682 rfl rfl ?_
    refine ru_iload d_Lw_law_683 rfl ?_
    refine ru_iconst (v := 1) d_Lw_law_685 (by decide) ?_
    refine ru_iadd d_Lw_law_686 ?_
    refine ru_eqi (nm_add i 1 : _ = nI (i + 1)) ?_
    refine ru_sldS (i := (i + 1)) d_Lw_law_687 hS (by omega) (by omega) ?_
    refine ru_mcs (Nat.zero_add _).symm (Nat.zero_add _).symm ?_
    refine ru_callV (mc := _) (ms := _) d_Lw_law_688 lm_Lw_83 (sp_Mo_never0 hL hls.2.1 q0) (rx_recv_is (ly hL 398 9 0) kx_Mo) (by decide) rfl (Nat.le_of_ble_eq_true rfl) ?_
    rintro v τ ⟨rfl, rfl⟩
    have h2 := h.f0 (k := 0) 0
    refine ru_icmp_eq (tgt := 900) d_Lw_law_691 (by decide) (fun h691 => ?_) (fun h691 => absurd rfl h691)
    exact ru_to (ru_less (by omega) (by omega) (k _ _ _ _ _ _ _ _ _ _ _ _ _ _ h2)) ⟨rfl, rfl, rfl, rfl, rfl, trivial⟩
  · obtain ⟨k1, k2, k3, k4⟩ := nnI (x := scr (i + 1)) (by rw [il, i_0] at q0; omega)
    refine ru_aload_n d_Lw_law_671 rfl rfl ?_
    refine ru_aload_n d_Lw_law_672 rfl rfl ?_
    refine ru_iload d_Lw_law_673 rfl ?_
    refine ru_iconst (v := 1) d_Lw_law_675 (by decide) ?_
    refine ru_iadd d_Lw_law_676 ?_
    refine ru_eqi (nm_add i 1 : _ = nI (i + 1)) ?_
    refine ru_sldS (i := (i + 1)) d_Lw_law_677 hS (by omega) (by omega) ?_
    refine ru_eqi k3 ?_
    refine ru_mcs (Nat.zero_add _).symm (Nat.zero_add _).symm ?_
    refine ru_callV (mc := _) (ms := _) d_Lw_law_678 lm_Lw_80 (sp_never hL hr hb hls.1 k2) (rx_recv_is (ly hL 256 0 0) kx_RT) (by decide) rfl (Nat.le_of_ble_eq_true rfl) ?_
    intro v τ h
    obtain ⟨rfl, rfl⟩ := h
    refine ru_aload_n d_Lw_law_681 rfl rfl ?_
    refine ru_aload_n d_Lw_law_682 rfl rfl ?_
    refine ru_iload d_Lw_law_683 rfl ?_
    refine ru_iconst (v := 1) d_Lw_law_685 (by decide) ?_
    refine ru_iadd d_Lw_law_686 ?_
    refine ru_eqi (nm_add i 1 : _ = nI (i + 1)) ?_
    refine ru_sldS (i := (i + 1)) d_Lw_law_687 hS (by omega) (by omega) ?_
    refine ru_eqi k3 ?_
    refine ru_mcs (Nat.zero_add _).symm (Nat.zero_add _).symm ?_
    refine ru_callV (mc := _) (ms := _) d_Lw_law_688 lm_Lw_83 (sp_Mo_never (z := zL L) hL hls.2.1 l60 k2 (zL_ok hls.2.2)) (rx_recv_is (ly hL 398 9 0) kx_Mo) (by decide) rfl (Nat.le_of_ble_eq_true rfl) ?_
    rintro v τ ⟨rfl, rfl⟩
    have h2 := h.f0 (k := 0) 0
    refine ru_icmp_eq (tgt := 900) d_Lw_law_691 (by decide) (fun h691 => ?_) (fun h691 => absurd (congrArg oR (never_eq hsh hls.2.2)).symm h691)
    exact ru_to (ru_less (by omega) (by omega) (k _ _ _ _ _ _ _ _ _ _ _ _ _ _ h2)) ⟨rfl, rfl, rfl, rfl, rfl, trivial⟩
theorem op_kinds (h : INV Len scr N n t b b' L vb lb c nx ct mi ml mr) (hi : i + 10 ≤ Len) (hLen : Len ≤ 5120) (k : KK Len scr f i post) : rx_W M_Lw_law 13 (f + 1 + (17400 - c)) (6 * (f + 1) + 2 * (17400 - c)) 820 [(0, .ref 0), (1, .ref 256), (2, .ref 398), (3, .ref 408), (4, .int (nI i))] [] (nx, ct, mi, ml, mr) post := by
  have hL := h.1
  have hS := h.2.1
  have hr := h.2.2.1.1.1
  have hb := h.2.2.1.2.1
  have hT := h.2.2.2.1
  have hN := h.2.2.2.2.1
  have hls := h.2.2.2.2.2.1
  have hsh := h.2.2.2.2.2.2.1
  have c17 := h.2.2.2.2.2.2.2.2.1
  have l60 := hls.1.2.1
  refine ru_aload_n d_Lw_law_820 rfl rfl ?_
  refine ru_mcs (Nat.zero_add _).symm (Nat.zero_add _).symm ?_
  refine ru_callV (mc := _) (ms := _) d_Lw_law_821 lm_Lw_90 (sp_kinds hL hr hb hls.1) (rx_recv_is (ly hL 256 0 0) kx_RT) (by decide) rfl (Nat.le_of_ble_eq_true rfl) ?_
  intro v τ h
  obtain ⟨rfl, rfl⟩ := h
  refine ru_aload_n d_Lw_law_824 rfl rfl ?_
  refine ru_mcs (Nat.zero_add _).symm (Nat.zero_add _).symm ?_
  refine ru_callV (mc := _) (ms := _) d_Lw_law_825 lm_Lw_93 (sp_Mo_kinds (κ := kL L) hL hls.2.1 l60 (kinds_ok hls.2.2)) (rx_recv_is (ly hL 398 9 0) kx_Mo) (by decide) rfl (Nat.le_of_ble_eq_true rfl) ?_
  rintro v τ ⟨rfl, rfl⟩
  have h2 := h.f0 (k := 0) 0
  refine ru_icmp_eq (tgt := 900) d_Lw_law_828 (by decide) (fun h828 => ?_) (fun h828 => absurd rfl h828)
  exact ru_to (ru_less (by omega) (by omega) (k _ _ _ _ _ _ _ _ _ _ _ _ _ _ h2)) ⟨rfl, rfl, rfl, rfl, rfl, trivial⟩
end
