/-! The law: the calls that change what is held -/
section
variable {Len : Nat} {scr : Nat → Int32} {N N' : nmS} {n n' : Nat} {t t' : Nat → Int32} {b b' : Nat} {L : List ruS} {vb : Nat} {lb : List Int32} {c : Nat} {nx nx' : Nat} {ct ct' : Nat → Nat × Nat} {mi mi' : Nat → Nat → Int32} {ml ml' : Nat → Nat → Int64} {mr mr' : Nat → Nat → Option Nat} {f i : Nat} {post : rx_End}
theorem NmC.pt (h : NmC N mi) (h1 : mi' 259 = mi 259) (h2 : mi' 258 = mi 258) : NmC N mi' := by unfold NmC; rw [h1, h2]; exact h
theorem NmM.pt (h : NmM N mi) (h1 : mi' 400 = mi 400) (h2 : mi' 401 = mi 401) : NmM N mi' := by unfold NmM; rw [h1, h2]; exact h
theorem shE.pt (h : shE mi ml) (h1 : mi' 402 = mi 402) (h2 : mi' 261 = mi 261) (h3 : ml' 403 = ml 403) (h4 : ml' 262 = ml 262) (h5 : ml' 263 = ml 263) (h6 : ml' 264 = ml 264) (h7 : ml' 265 = ml 265) : shE mi' ml' := by unfold shE; rw [h1, h2, h3, h4, h5, h6, h7]; exact h
theorem INV.unit {u : Int32} (h : INV Len scr N n t b b' L vb lb c nx ct mi ml mr) (hu : isTC u) (hn : n < 3000) : INV Len scr N (n + 1) (va_up t n u) b b' L vb lb c nx ct (rx_u (rx_u (rx_u (rx_u (rx_u mi 267 n u) 266 1 (nI (n + 1))) 398 0 0) 399 n u) 398 2 (nI (n + 1))) ml mr := by
  have a1 := h.vb_
  have a2 := h.bb
  obtain ⟨hT1, hT2, hT3, hT4⟩ := h.2.2.2.1
  refine h.upd (n' := n + 1) (t' := va_up t n u) ⟨⟨?_, ?_, by omega⟩, rx_u_same _ _ _ _, ?_, fun i hi => ?_⟩ ⟨h.2.2.2.2.1.1.pt ?_ ?_, h.2.2.2.2.1.2.1.pt ?_ ?_, h.2.2.2.2.1.2.2⟩ (h.2.2.2.2.2.2.1.pt ?_ ?_ rfl rfl rfl rfl rfl) (fun z => h.2.2.2.2.2.2.2.2.2 ?_) (fun r k hr => ?_) (fun _ _ _ => rfl)
  · rw [rx_u_r _ _ (by decide), rx_u_r _ _ (by decide), rx_u_r _ _ (by decide), rx_u_same]
  · rw [rx_u_r _ _ (by decide), rx_u_r _ _ (by decide), rx_u_r _ _ (by decide), rx_u_r _ _ (by decide), rx_u_at, hT1.2.1]
  · rw [rx_u_r _ _ (by decide), rx_u_at, rx_u_r _ _ (by decide), rx_u_r _ _ (by decide), rx_u_r _ _ (by decide), hT3]
  · by_cases q : i = n
    · subst q; simp only [va_up, if_true]; exact hu
    · rw [va_up_ne _ _ q]; exact hT4 i (by omega)
  · rw [rx_u_r _ _ (by decide), rx_u_r _ _ (by decide), rx_u_r _ _ (by decide), rx_u_r _ _ (by decide), rx_u_r _ _ (by decide)]
  · rw [rx_u_r _ _ (by decide), rx_u_r _ _ (by decide), rx_u_r _ _ (by decide), rx_u_r _ _ (by decide), rx_u_r _ _ (by decide)]
  · rw [rx_u_r _ _ (by decide), rx_u_r _ _ (by decide), rx_u_r _ _ (by decide), rx_u_r _ _ (by decide), rx_u_r _ _ (by decide)]
  · rw [rx_u_r _ _ (by decide), rx_u_r _ _ (by decide), rx_u_r _ _ (by decide), rx_u_r _ _ (by decide), rx_u_r _ _ (by decide)]
  · rw [rx_u_r _ _ (by decide), rx_u_r _ _ (by decide), rx_u_r _ _ (by decide), rx_u_r _ _ (by decide), rx_u_r _ _ (by decide)]
  · rw [rx_u_r _ _ (by decide), rx_u_r _ _ (by decide), rx_u_r _ _ (by decide), rx_u_r _ _ (by decide), rx_u_r _ _ (by decide)]
  · rw [rx_u_r _ _ (by decide), rx_u_r _ _ (by decide), rx_u_r _ _ (by decide), rx_u_r _ _ (by decide), rx_u_r _ _ (by decide)] at z; exact z
  · by_cases q : r = 398
    · subst q
      rw [rx_u_k _ _ (by omega), rx_u_r _ _ (by decide), rx_u_k _ _ (by omega), rx_u_r _ _ (by decide), rx_u_r _ _ (by decide)]
    · rw [rx_u_r _ _ q, rx_u_r _ _ (by omega), rx_u_r _ _ q, rx_u_r _ _ (by omega), rx_u_r _ _ (by omega)]
theorem op_unit (h : INV Len scr N n t b b' L vb lb c nx ct mi ml mr) (hi : i + 10 ≤ Len) (hLen : Len ≤ 5120) (k : KK Len scr f i post) : rx_W M_Lw_law 13 (f + 1 + (17400 - c)) (6 * (f + 1) + 2 * (17400 - c)) 108 [(0, .ref 0), (1, .ref 256), (2, .ref 398), (3, .ref 408), (4, .int (nI i))] [] (nx, ct, mi, ml, mr) post := by
  have hL := h.1
  have hS := h.2.1
  have hr := h.2.2.1.1.1
  have hb := h.2.2.1.2.1
  have hT := h.2.2.2.1
  have hN := h.2.2.2.2.1
  have hls := h.2.2.2.2.2.1
  have hsh := h.2.2.2.2.2.2.1
  have c17 := h.2.2.2.2.2.2.2.2.1
  have l60 := hls.1.2.1
  have n3 := hT.1.2.2
  by_cases q : isTC (scr (i + 1)) ∧ n < 3000
  · have hL' := hL
    refine ru_aload_n d_Lw_law_108 rfl rfl ?_
    refine ru_aload_n d_Lw_law_109 rfl rfl ?_
    refine ru_iload d_Lw_law_110 rfl ?_
    refine ru_iconst (v := 1) d_Lw_law_112 (by decide) ?_
    refine ru_iadd d_Lw_law_113 ?_
    refine ru_eqi (nm_add i 1 : _ = nI (i + 1)) ?_
    refine ru_sldS (i := (i + 1)) d_Lw_law_114 hS (by omega) (by omega) ?_
    refine ru_mcs (Nat.zero_add _).symm (Nat.zero_add _).symm ?_
    refine ru_callV (mc := _) (ms := _) d_Lw_law_115 lm_Lw_44 (sp_unit _ hL hT.1.1 n3) (rx_recv_is (ly hL 256 0 0) kx_RT) (by decide) rfl (Nat.le_of_ble_eq_true rfl) ?_
    rintro v τ ⟨rfl, rfl⟩
    rw [if_pos q]
    have hS1 : ct 0 = (100, Len) ∧ rx_u (rx_u mi 267 n (scr (i + 1))) 266 1 (nI (n + 1)) 0 = scr := ⟨hS.1, by rw [rx_u_r _ _ (by decide), rx_u_r _ _ (by decide)]; exact hS.2⟩
    have hL1 := hL
    refine ru_aload_n d_Lw_law_118 rfl rfl ?_
    refine ru_aload_n d_Lw_law_119 rfl rfl ?_
    refine ru_iload d_Lw_law_120 rfl ?_
    refine ru_iconst (v := 1) d_Lw_law_122 (by decide) ?_
    refine ru_iadd d_Lw_law_123 ?_
    refine ru_eqi (nm_add i 1 : _ = nI (i + 1)) ?_
    refine ru_sldS (i := (i + 1)) d_Lw_law_124 hS1 (by omega) (by omega) ?_
    refine ru_mcs (Nat.zero_add _).symm (Nat.zero_add _).symm ?_
    refine ru_callV (mc := _) (ms := _) d_Lw_law_125 lm_Lw_48 (sp_Mo_unit (n := n) _ hL1 (by rw [rx_u_r _ _ (by decide), rx_u_r _ _ (by decide)]; exact hT.2.1) n3) (rx_recv_is (ly hL1 398 9 0) kx_Mo) (by decide) rfl (Nat.le_of_ble_eq_true rfl) ?_
    rintro v τ ⟨rfl, rfl⟩
    rw [if_pos q]
    refine ru_icmp_eq (tgt := 900) d_Lw_law_128 (by decide) (fun h128 => ?_) (fun h128 => absurd rfl h128)
    exact ru_to (ru_less (by omega) (by omega) (k _ _ _ _ _ _ _ _ _ _ _ _ _ _ (h.unit q.1 q.2))) ⟨rfl, rfl, rfl, rfl, rfl, trivial⟩
  · skip
    refine ru_aload_n d_Lw_law_108 rfl rfl ?_
    refine ru_aload_n d_Lw_law_109 rfl rfl ?_
    refine ru_iload d_Lw_law_110 rfl ?_
    refine ru_iconst (v := 1) d_Lw_law_112 (by decide) ?_
    refine ru_iadd d_Lw_law_113 ?_
    refine ru_eqi (nm_add i 1 : _ = nI (i + 1)) ?_
    refine ru_sldS (i := (i + 1)) d_Lw_law_114 hS (by omega) (by omega) ?_
    refine ru_mcs (Nat.zero_add _).symm (Nat.zero_add _).symm ?_
    refine ru_callV (mc := _) (ms := _) d_Lw_law_115 lm_Lw_44 (sp_unit _ hL hT.1.1 n3) (rx_recv_is (ly hL 256 0 0) kx_RT) (by decide) rfl (Nat.le_of_ble_eq_true rfl) ?_
    rintro v τ ⟨rfl, rfl⟩
    rw [if_neg q]
    refine ru_aload_n d_Lw_law_118 rfl rfl ?_
    refine ru_aload_n d_Lw_law_119 rfl rfl ?_
    refine ru_iload d_Lw_law_120 rfl ?_
    refine ru_iconst (v := 1) d_Lw_law_122 (by decide) ?_
    refine ru_iadd d_Lw_law_123 ?_
    refine ru_eqi (nm_add i 1 : _ = nI (i + 1)) ?_
    refine ru_sldS (i := (i + 1)) d_Lw_law_124 hS (by omega) (by omega) ?_
    refine ru_mcs (Nat.zero_add _).symm (Nat.zero_add _).symm ?_
    refine ru_callV (mc := _) (ms := _) d_Lw_law_125 lm_Lw_48 (sp_Mo_unit (n := n) _ hL hT.2.1 n3) (rx_recv_is (ly hL 398 9 0) kx_Mo) (by decide) rfl (Nat.le_of_ble_eq_true rfl) ?_
    rintro v τ ⟨rfl, rfl⟩
    rw [if_neg q]
    refine ru_icmp_eq (tgt := 900) d_Lw_law_128 (by decide) (fun h128 => ?_) (fun h128 => absurd rfl h128)
    exact ru_to (ru_less (by omega) (by omega) (k _ _ _ _ _ _ _ _ _ _ _ _ _ _ (h.f0 (k := 0) 0))) ⟨rfl, rfl, rfl, rfl, rfl, trivial⟩
theorem INV.clear (h : INV Len scr N n t b b' L vb lb c nx ct mi ml mr) : INV Len scr N 0 t b b' L vb lb c nx ct (rx_u (rx_u (rx_u mi 266 1 0) 398 0 0) 398 2 0) ml mr := by
  have a1 := h.vb_
  have a2 := h.bb
  obtain ⟨hT1, hT2, hT3, hT4⟩ := h.2.2.2.1
  refine h.upd (n' := 0) (t' := t) ⟨⟨?_, ?_, by omega⟩, rx_u_same _ _ _ _, ?_, fun i hi => by omega⟩ ⟨h.2.2.2.2.1.1.pt ?_ ?_, h.2.2.2.2.1.2.1.pt ?_ ?_, h.2.2.2.2.1.2.2⟩ (h.2.2.2.2.2.2.1.pt ?_ ?_ rfl rfl rfl rfl rfl) (fun z => h.2.2.2.2.2.2.2.2.2 ?_) (fun r k hr => ?_) (fun _ _ _ => rfl)
  · rw [rx_u_r _ _ (by decide), rx_u_r _ _ (by decide), rx_u_same]; rfl
  · rw [rx_u_r _ _ (by decide), rx_u_r _ _ (by decide), rx_u_r _ _ (by decide), hT1.2.1]
  · rw [rx_u_r _ _ (by decide), rx_u_r _ _ (by decide), rx_u_r _ _ (by decide), hT3]
  · rw [rx_u_r _ _ (by decide), rx_u_r _ _ (by decide), rx_u_r _ _ (by decide)]
  · rw [rx_u_r _ _ (by decide), rx_u_r _ _ (by decide), rx_u_r _ _ (by decide)]
  · rw [rx_u_r _ _ (by decide), rx_u_r _ _ (by decide), rx_u_r _ _ (by decide)]
  · rw [rx_u_r _ _ (by decide), rx_u_r _ _ (by decide), rx_u_r _ _ (by decide)]
  · rw [rx_u_r _ _ (by decide), rx_u_r _ _ (by decide), rx_u_r _ _ (by decide)]
  · rw [rx_u_r _ _ (by decide), rx_u_r _ _ (by decide), rx_u_r _ _ (by decide)]
  · rw [rx_u_r _ _ (by decide), rx_u_r _ _ (by decide), rx_u_r _ _ (by decide)] at z; exact z
  · by_cases q : r = 398
    · subst q
      rw [rx_u_k _ _ (by omega), rx_u_k _ _ (by omega), rx_u_r _ _ (by decide)]
    · rw [rx_u_r _ _ q, rx_u_r _ _ q, rx_u_r _ _ (by omega)]
theorem op_clear (h : INV Len scr N n t b b' L vb lb c nx ct mi ml mr) (hi : i + 10 ≤ Len) (hLen : Len ≤ 5120) (k : KK Len scr f i post) : rx_W M_Lw_law 13 (f + 1 + (17400 - c)) (6 * (f + 1) + 2 * (17400 - c)) 889 [(0, .ref 0), (1, .ref 256), (2, .ref 398), (3, .ref 408), (4, .int (nI i))] [] (nx, ct, mi, ml, mr) post := by
  have hL := h.1
  have hS := h.2.1
  have hr := h.2.2.1.1.1
  have hb := h.2.2.1.2.1
  have hT := h.2.2.2.1
  have hN := h.2.2.2.2.1
  have hls := h.2.2.2.2.2.1
  have hsh := h.2.2.2.2.2.2.1
  have c17 := h.2.2.2.2.2.2.2.2.1
  have l60 := hls.1.2.1
  refine ru_aload_n d_Lw_law_889 rfl rfl ?_
  refine ru_mcs (Nat.zero_add _).symm (Nat.zero_add _).symm ?_
  refine ru_callV (mc := _) (ms := _) d_Lw_law_890 lm_Lw_97 (sp_clear hL) (rx_recv_is (ly hL 256 0 0) kx_RT) (by decide) rfl (Nat.le_of_ble_eq_true rfl) ?_
  intro v τ h
  obtain ⟨rfl, rfl⟩ := h
  refine ru_aload_n d_Lw_law_893 rfl rfl ?_
  refine ru_mcs (Nat.zero_add _).symm (Nat.zero_add _).symm ?_
  refine ru_callV (mc := _) (ms := _) d_Lw_law_894 lm_Lw_100 (sp_Mo_clear hL) (rx_recv_is (ly hL 398 9 0) kx_Mo) (by decide) rfl (Nat.le_of_ble_eq_true rfl) ?_
  intro v τ h
  obtain ⟨rfl, rfl⟩ := h
  refine ru_goto (tgt := 900) d_Lw_law_897 (by decide) ?_
  exact ru_to (ru_less (by omega) (by omega) (k _ _ _ _ _ _ _ _ _ _ _ _ _ _ h.clear)) ⟨rfl, rfl, rfl, rfl, rfl, trivial⟩
theorem INV.name {x : Nat} {u : Int32} (h : INV Len scr N n t b b' L vb lb c nx ct mi ml mr) (hx : x < 48) (h8 : N.1 x < 8) (hu : isLD u) : INV Len scr (nmAdd N x u) n t b b' L vb lb c nx ct (rx_u (rx_u (rx_u (rx_u (rx_u (rx_u mi 258 (x * 8 + N.1 x) u) 259 x (nI (N.1 x + 1))) 256 7 1) 398 0 0) 401 (8 * x + N.1 x) u) 400 x (nI (N.1 x + 1))) ml mr := by
  have a1 := h.vb_
  have a2 := h.bb
  obtain ⟨hT1, hT2, hT3, hT4⟩ := h.2.2.2.1
  obtain ⟨hC, hM, hO⟩ := h.2.2.2.2.1
  have hC' := hC.add (k := x) (u := u) hx h8
  have hM' := (hM.pt (mi' := rx_u (rx_u (rx_u (rx_u mi 258 (x * 8 + N.1 x) u) 259 x (nI (N.1 x + 1))) 256 7 1) 398 0 0) (by rw [rx_u_r _ _ (by decide), rx_u_r _ _ (by decide), rx_u_r _ _ (by decide), rx_u_r _ _ (by decide)]) (by rw [rx_u_r _ _ (by decide), rx_u_r _ _ (by decide), rx_u_r _ _ (by decide), rx_u_r _ _ (by decide)])).add (k := x) (u := u) hx h8
  have r6 : ∀ r, r ≠ 258 → r ≠ 259 → r ≠ 256 → r ≠ 398 → r ≠ 401 → r ≠ 400 → (rx_u (rx_u (rx_u (rx_u (rx_u (rx_u mi 258 (x * 8 + N.1 x) u) 259 x (nI (N.1 x + 1))) 256 7 1) 398 0 0) 401 (8 * x + N.1 x) u) 400 x (nI (N.1 x + 1))) r = mi r := fun r c1 c2 c3 c4 c5 c6 => by rw [rx_u_r _ _ c6, rx_u_r _ _ c5, rx_u_r _ _ c4, rx_u_r _ _ c3, rx_u_r _ _ c2, rx_u_r _ _ c1]
  refine h.upd (n' := n) (t' := t) ⟨⟨?_, ?_, hT1.2.2⟩, ?_, ?_, hT4⟩ ⟨hC'.pt ?_ ?_, hM', hO.add h8 hu⟩ (h.2.2.2.2.2.2.1.pt (r6 402 (by decide) (by decide) (by decide) (by decide) (by decide) (by decide)) (r6 261 (by decide) (by decide) (by decide) (by decide) (by decide) (by decide)) rfl rfl rfl rfl rfl) (fun z => ?_) (fun r k hr => ?_) (fun _ _ _ => rfl)
  · rw [r6 266 (by decide) (by decide) (by decide) (by decide) (by decide) (by decide)]; exact hT1.1
  · rw [r6 267 (by decide) (by decide) (by decide) (by decide) (by decide) (by decide)]; exact hT1.2.1
  · rw [rx_u_r _ _ (by decide), rx_u_r _ _ (by decide), rx_u_k _ _ (by decide), rx_u_r _ _ (by decide), rx_u_r _ _ (by decide), rx_u_r _ _ (by decide)]; exact hT2
  · rw [r6 399 (by decide) (by decide) (by decide) (by decide) (by decide) (by decide)]; exact hT3
  · rw [rx_u_r _ _ (by decide), rx_u_r _ _ (by decide), rx_u_r _ _ (by decide), rx_u_r _ _ (by decide)]
  · rw [rx_u_r _ _ (by decide), rx_u_r _ _ (by decide), rx_u_r _ _ (by decide), rx_u_r _ _ (by decide)]
  · rw [rx_u_r _ _ (by decide), rx_u_r _ _ (by decide), rx_u_r _ _ (by decide), rx_u_same] at z
    exact absurd z (by decide)
  · by_cases q : r = 398
    · subst q
      rw [rx_u_r _ _ (by decide), rx_u_r _ _ (by decide), rx_u_k _ _ (by omega), rx_u_r _ _ (by decide), rx_u_r _ _ (by decide), rx_u_r _ _ (by decide)]
    · rw [r6 r (by omega) (by omega) (by omega) q (by omega) (by omega)]
theorem op_name (h : INV Len scr N n t b b' L vb lb c nx ct mi ml mr) (hi : i + 10 ≤ Len) (hLen : Len ≤ 5120) (k : KK Len scr f i post) : rx_W M_Lw_law 13 (f + 1 + (17400 - c)) (6 * (f + 1) + 2 * (17400 - c)) 133 [(0, .ref 0), (1, .ref 256), (2, .ref 398), (3, .ref 408), (4, .int (nI i))] [] (nx, ct, mi, ml, mr) post := by
  have hL := h.1
  have hS := h.2.1
  have hr := h.2.2.1.1.1
  have hb := h.2.2.1.2.1
  have hT := h.2.2.2.1
  have hN := h.2.2.2.2.1
  have hls := h.2.2.2.2.2.1
  have hsh := h.2.2.2.2.2.2.1
  have c17 := h.2.2.2.2.2.2.2.2.1
  have l60 := hls.1.2.1
  by_cases q : (0 ≤ (scr (i + 1)).toInt ∧ (scr (i + 1)).toInt < 3) ∧ 0 ≤ (scr (i + 2)).toInt ∧ (scr (i + 2)).toInt < 16
  · obtain ⟨k1, k2, k3, k4⟩ := nnI q.1.1
    obtain ⟨w1, w2, w3, w4⟩ := nnI q.2.1
    have hx : 16 * k1 + w1 < 48 := by omega
    have hm := (hN.2.1 _ hx).1
    have h8 := (hN.2.1 _ hx).2.1
    by_cases p : isLD (scr (i + 3)) ∧ N.1 (16 * k1 + w1) < 8
    · have hS1 : ct 0 = (100, Len) ∧ rx_u (rx_u (rx_u mi 258 ((16 * k1 + w1) * 8 + N.1 (16 * k1 + w1)) (scr (i + 3))) 259 (16 * k1 + w1) (nI (N.1 (16 * k1 + w1) + 1))) 256 7 1 0 = scr := ⟨hS.1, by rw [rx_u_r _ _ (by decide), rx_u_r _ _ (by decide), rx_u_r _ _ (by decide)]; exact hS.2⟩
      refine ru_aload_n d_Lw_law_133 rfl rfl ?_
      refine ru_aload_n d_Lw_law_134 rfl rfl ?_
      refine ru_iload d_Lw_law_135 rfl ?_
      refine ru_iconst (v := 1) d_Lw_law_137 (by decide) ?_
      refine ru_iadd d_Lw_law_138 ?_
      refine ru_eqi (nm_add i 1 : _ = nI (i + 1)) ?_
      refine ru_sldS (i := (i + 1)) d_Lw_law_139 hS (by omega) (by omega) ?_
      refine ru_eqi k3 ?_
      refine ru_aload_n d_Lw_law_140 rfl rfl ?_
      refine ru_iload d_Lw_law_141 rfl ?_
      refine ru_iconst (v := 2) d_Lw_law_143 (by decide) ?_
      refine ru_iadd d_Lw_law_144 ?_
      refine ru_eqi (nm_add i 2 : _ = nI (i + 2)) ?_
      refine ru_sldS (i := (i + 2)) d_Lw_law_145 hS (by omega) (by omega) ?_
      refine ru_eqi w3 ?_
      refine ru_aload_n d_Lw_law_146 rfl rfl ?_
      refine ru_iload d_Lw_law_147 rfl ?_
      refine ru_iconst (v := 3) d_Lw_law_149 (by decide) ?_
      refine ru_iadd d_Lw_law_150 ?_
      refine ru_eqi (nm_add i 3 : _ = nI (i + 3)) ?_
      refine ru_sldS (i := (i + 3)) d_Lw_law_151 hS (by omega) (by omega) ?_
      refine ru_aload_n d_Lw_law_152 rfl rfl ?_
      refine ru_mcs (Nat.zero_add _).symm (Nat.zero_add _).symm ?_
      refine ru_callSW (mc := _) (ms := _) d_Lw_law_153 lm_Lw_49 (lw_name hL (sp_name hL hN.1 (show k1 < 3 by omega) (show w1 < 16 by omega)) (fun v τ z => ⟨⟨_, z.1⟩, _, _, _, _, _, z.2, hL⟩)) (by decide) rfl (Nat.le_of_ble_eq_true rfl) ?_
      rintro v τ ⟨rfl, v1, nx1, ct1, m1, l1, r1, ⟨rfl, hh⟩, rfl⟩
      rw [cnd_t p] at hh
      cases hh
      have hL1 := hL
      refine ru_istore d_Lw_law_156 (by decide) ?_
      refine ru_aload_n d_Lw_law_158 rfl rfl ?_
      refine ru_aload_n d_Lw_law_159 rfl rfl ?_
      refine ru_iload d_Lw_law_160 rfl ?_
      refine ru_iconst (v := 1) d_Lw_law_162 (by decide) ?_
      refine ru_iadd d_Lw_law_163 ?_
      refine ru_eqi (nm_add i 1 : _ = nI (i + 1)) ?_
      refine ru_sldS (i := (i + 1)) d_Lw_law_164 hS1 (by omega) (by omega) ?_
      refine ru_eqi k3 ?_
      refine ru_aload_n d_Lw_law_165 rfl rfl ?_
      refine ru_iload d_Lw_law_166 rfl ?_
      refine ru_iconst (v := 2) d_Lw_law_168 (by decide) ?_
      refine ru_iadd d_Lw_law_169 ?_
      refine ru_eqi (nm_add i 2 : _ = nI (i + 2)) ?_
      refine ru_sldS (i := (i + 2)) d_Lw_law_170 hS1 (by omega) (by omega) ?_
      refine ru_eqi w3 ?_
      refine ru_aload_n d_Lw_law_171 rfl rfl ?_
      refine ru_iload d_Lw_law_172 rfl ?_
      refine ru_iconst (v := 3) d_Lw_law_174 (by decide) ?_
      refine ru_iadd d_Lw_law_175 ?_
      refine ru_eqi (nm_add i 3 : _ = nI (i + 3)) ?_
      refine ru_sldS (i := (i + 3)) d_Lw_law_176 hS1 (by omega) (by omega) ?_
      refine ru_mcs (Nat.zero_add _).symm (Nat.zero_add _).symm ?_
      refine ru_callV (mc := _) (ms := _) d_Lw_law_177 lm_Lw_54 (sp_Mo_name (L := N.1 (16 * k1 + w1)) hL1 (show k1 < 3 by omega) (show w1 < 16 by omega) (by rw [rx_u_r _ _ (by decide), rx_u_r _ _ (by decide), rx_u_r _ _ (by decide)]; exact hm) h8) (rx_recv_is (ly hL1 398 9 0) kx_Mo) (by decide) rfl (Nat.le_of_ble_eq_true rfl) ?_
      rintro v τ ⟨rfl, rfl⟩
      rw [if_pos p]
      have h2 := (h.o (k := 0) (cvZ (some (.int (bI (isLD (scr (i + 3)) ∧ N.1 (16 * k1 + w1) < 8)))))).name hx p.2 p.1
      have hL2 := h2.1
      refine ru_istore d_Lw_law_180 (by decide) ?_
      refine ru_aload_n d_Lw_law_182 rfl rfl ?_
      refine ru_mcs (Nat.zero_add _).symm (Nat.zero_add _).symm ?_
      refine ru_callV (mc := _) (ms := _) d_Lw_law_183 lm_Lw_55 (sp_Mo_thrown hL2) (rx_recv_is (ly hL2 398 9 0) kx_Mo) (by decide) rfl (Nat.le_of_ble_eq_true rfl) ?_
      rintro v τ ⟨rfl, rfl⟩
      rw [rx_u_r _ _ (by decide), rx_u_r _ _ (by decide), rx_u_same]
      refine ru_iload d_Lw_law_186 rfl ?_
      refine ru_icmp_eq (tgt := 193) d_Lw_law_188 (by decide) (fun h188 => ?_) (fun h188 => absurd h188 (by decide))
      refine ru_iload d_Lw_law_193 rfl ?_
      refine ru_if_ne (tgt := 217) d_Lw_law_195 (by decide) (fun h195 => absurd h195 (by decide)) (fun h195 => ?_)
      refine ru_aload_n d_Lw_law_198 rfl rfl ?_
      refine ru_iconst (v := 0) d_Lw_law_199 (by decide) ?_
      refine ru_laldN (j := 0) d_Lw_law_200 (ly hL2 408 104 1) (by omega) (by decide) ?_
      refine ru_eql ((rx_u_same _ _ _ _).trans (cvZ_t p)) ?_
      refine ru_iload d_Lw_law_201 rfl ?_
      refine ru_if_eq (tgt := 210) d_Lw_law_203 (by decide) (fun h203 => absurd h203 (bI_ne0.mpr p)) (fun h203 => ?_)
      refine ru_lconst (v := 1) d_Lw_law_206 (by decide) ?_
      refine ru_goto (tgt := 211) d_Lw_law_207 (by decide) ?_
      refine ru_lcmp d_Lw_law_211 ?_
      refine ru_if_eq (tgt := 217) d_Lw_law_212 (by decide) (fun h212 => ?_) (fun h212 => absurd ((lg_cmp_eq _ _).mpr rfl) h212)
      replace h212 := (lg_cmp_eq _ _).mp h212
      refine ru_goto (tgt := 900) d_Lw_law_217 (by decide) ?_
      exact ru_to (ru_less (by omega) (by omega) (k _ _ _ _ _ _ _ _ _ _ _ _ _ _ h2)) ⟨rfl, rfl, rfl, rfl, rfl, trivial⟩
    · have hS1 := hS
      refine ru_aload_n d_Lw_law_133 rfl rfl ?_
      refine ru_aload_n d_Lw_law_134 rfl rfl ?_
      refine ru_iload d_Lw_law_135 rfl ?_
      refine ru_iconst (v := 1) d_Lw_law_137 (by decide) ?_
      refine ru_iadd d_Lw_law_138 ?_
      refine ru_eqi (nm_add i 1 : _ = nI (i + 1)) ?_
      refine ru_sldS (i := (i + 1)) d_Lw_law_139 hS (by omega) (by omega) ?_
      refine ru_eqi k3 ?_
      refine ru_aload_n d_Lw_law_140 rfl rfl ?_
      refine ru_iload d_Lw_law_141 rfl ?_
      refine ru_iconst (v := 2) d_Lw_law_143 (by decide) ?_
      refine ru_iadd d_Lw_law_144 ?_
      refine ru_eqi (nm_add i 2 : _ = nI (i + 2)) ?_
      refine ru_sldS (i := (i + 2)) d_Lw_law_145 hS (by omega) (by omega) ?_
      refine ru_eqi w3 ?_
      refine ru_aload_n d_Lw_law_146 rfl rfl ?_
      refine ru_iload d_Lw_law_147 rfl ?_
      refine ru_iconst (v := 3) d_Lw_law_149 (by decide) ?_
      refine ru_iadd d_Lw_law_150 ?_
      refine ru_eqi (nm_add i 3 : _ = nI (i + 3)) ?_
      refine ru_sldS (i := (i + 3)) d_Lw_law_151 hS (by omega) (by omega) ?_
      refine ru_aload_n d_Lw_law_152 rfl rfl ?_
      refine ru_mcs (Nat.zero_add _).symm (Nat.zero_add _).symm ?_
      refine ru_callSW (mc := _) (ms := _) d_Lw_law_153 lm_Lw_49 (lw_name hL (sp_name hL hN.1 (show k1 < 3 by omega) (show w1 < 16 by omega)) (fun v τ z => ⟨⟨_, z.1⟩, _, _, _, _, _, z.2, hL⟩)) (by decide) rfl (Nat.le_of_ble_eq_true rfl) ?_
      rintro v τ ⟨rfl, v1, nx1, ct1, m1, l1, r1, ⟨rfl, hh⟩, rfl⟩
      rw [cnd_f p] at hh
      cases hh
      have hL1 := hL
      refine ru_istore d_Lw_law_156 (by decide) ?_
      refine ru_aload_n d_Lw_law_158 rfl rfl ?_
      refine ru_aload_n d_Lw_law_159 rfl rfl ?_
      refine ru_iload d_Lw_law_160 rfl ?_
      refine ru_iconst (v := 1) d_Lw_law_162 (by decide) ?_
      refine ru_iadd d_Lw_law_163 ?_
      refine ru_eqi (nm_add i 1 : _ = nI (i + 1)) ?_
      refine ru_sldS (i := (i + 1)) d_Lw_law_164 hS1 (by omega) (by omega) ?_
      refine ru_eqi k3 ?_
      refine ru_aload_n d_Lw_law_165 rfl rfl ?_
      refine ru_iload d_Lw_law_166 rfl ?_
      refine ru_iconst (v := 2) d_Lw_law_168 (by decide) ?_
      refine ru_iadd d_Lw_law_169 ?_
      refine ru_eqi (nm_add i 2 : _ = nI (i + 2)) ?_
      refine ru_sldS (i := (i + 2)) d_Lw_law_170 hS1 (by omega) (by omega) ?_
      refine ru_eqi w3 ?_
      refine ru_aload_n d_Lw_law_171 rfl rfl ?_
      refine ru_iload d_Lw_law_172 rfl ?_
      refine ru_iconst (v := 3) d_Lw_law_174 (by decide) ?_
      refine ru_iadd d_Lw_law_175 ?_
      refine ru_eqi (nm_add i 3 : _ = nI (i + 3)) ?_
      refine ru_sldS (i := (i + 3)) d_Lw_law_176 hS1 (by omega) (by omega) ?_
      refine ru_mcs (Nat.zero_add _).symm (Nat.zero_add _).symm ?_
      refine ru_callV (mc := _) (ms := _) d_Lw_law_177 lm_Lw_54 (sp_Mo_name (L := N.1 (16 * k1 + w1)) hL1 (show k1 < 3 by omega) (show w1 < 16 by omega) hm h8) (rx_recv_is (ly hL1 398 9 0) kx_Mo) (by decide) rfl (Nat.le_of_ble_eq_true rfl) ?_
      rintro v τ ⟨rfl, rfl⟩
      rw [if_neg p]
      have h2 := (h.o (k := 0) (cvZ (some (.int (bI (isLD (scr (i + 3)) ∧ N.1 (16 * k1 + w1) < 8)))))).f0 (k := 0) 0
      have hL2 := h2.1
      refine ru_istore d_Lw_law_180 (by decide) ?_
      refine ru_aload_n d_Lw_law_182 rfl rfl ?_
      refine ru_mcs (Nat.zero_add _).symm (Nat.zero_add _).symm ?_
      refine ru_callV (mc := _) (ms := _) d_Lw_law_183 lm_Lw_55 (sp_Mo_thrown hL2) (rx_recv_is (ly hL2 398 9 0) kx_Mo) (by decide) rfl (Nat.le_of_ble_eq_true rfl) ?_
      rintro v τ ⟨rfl, rfl⟩
      rw [rx_u_same]
      refine ru_iload d_Lw_law_186 rfl ?_
      refine ru_icmp_eq (tgt := 193) d_Lw_law_188 (by decide) (fun h188 => ?_) (fun h188 => absurd h188 (by decide))
      refine ru_iload d_Lw_law_193 rfl ?_
      refine ru_if_ne (tgt := 217) d_Lw_law_195 (by decide) (fun h195 => absurd h195 (by decide)) (fun h195 => ?_)
      refine ru_aload_n d_Lw_law_198 rfl rfl ?_
      refine ru_iconst (v := 0) d_Lw_law_199 (by decide) ?_
      refine ru_laldN (j := 0) d_Lw_law_200 (ly hL2 408 104 1) (by omega) (by decide) ?_
      refine ru_eql ((rx_u_same _ _ _ _).trans (cvZ_f p)) ?_
      refine ru_iload d_Lw_law_201 rfl ?_
      refine ru_if_eq (tgt := 210) d_Lw_law_203 (by decide) (fun h203 => ?_) (fun h203 => absurd (bI_f p) h203)
      refine ru_lconst (v := 0) d_Lw_law_210 (by decide) ?_
      refine ru_lcmp d_Lw_law_211 ?_
      refine ru_if_eq (tgt := 217) d_Lw_law_212 (by decide) (fun h212 => ?_) (fun h212 => absurd ((lg_cmp_eq _ _).mpr rfl) h212)
      replace h212 := (lg_cmp_eq _ _).mp h212
      refine ru_goto (tgt := 900) d_Lw_law_217 (by decide) ?_
      exact ru_to (ru_less (by omega) (by omega) (k _ _ _ _ _ _ _ _ _ _ _ _ _ _ h2)) ⟨rfl, rfl, rfl, rfl, rfl, trivial⟩
  · skip
    refine ru_aload_n d_Lw_law_133 rfl rfl ?_
    refine ru_aload_n d_Lw_law_134 rfl rfl ?_
    refine ru_iload d_Lw_law_135 rfl ?_
    refine ru_iconst (v := 1) d_Lw_law_137 (by decide) ?_
    refine ru_iadd d_Lw_law_138 ?_
    refine ru_eqi (nm_add i 1 : _ = nI (i + 1)) ?_
    refine ru_sldS (i := (i + 1)) d_Lw_law_139 hS (by omega) (by omega) ?_
    refine ru_aload_n d_Lw_law_140 rfl rfl ?_
    refine ru_iload d_Lw_law_141 rfl ?_
    refine ru_iconst (v := 2) d_Lw_law_143 (by decide) ?_
    refine ru_iadd d_Lw_law_144 ?_
    refine ru_eqi (nm_add i 2 : _ = nI (i + 2)) ?_
    refine ru_sldS (i := (i + 2)) d_Lw_law_145 hS (by omega) (by omega) ?_
    refine ru_aload_n d_Lw_law_146 rfl rfl ?_
    refine ru_iload d_Lw_law_147 rfl ?_
    refine ru_iconst (v := 3) d_Lw_law_149 (by decide) ?_
    refine ru_iadd d_Lw_law_150 ?_
    refine ru_eqi (nm_add i 3 : _ = nI (i + 3)) ?_
    refine ru_sldS (i := (i + 3)) d_Lw_law_151 hS (by omega) (by omega) ?_
    refine ru_aload_n d_Lw_law_152 rfl rfl ?_
    refine ru_mcs (mc' := 1 + (f + (17400 - c))) (ms' := 6 + (6 * f + 2 * (17400 - c))) (by omega) (by omega) ?_
    refine ru_callSW (mc := f + (17400 - c)) (ms := 6 * f + 2 * (17400 - c)) d_Lw_law_153 lm_Lw_49 (lt_name (th_name q) hL) (by decide) rfl (Nat.le_of_ble_eq_true rfl) ?_
    rintro v τ ⟨rfl, rfl⟩
    unfold rx_new
    have h1 := h.new (tg := 95) (len := 0)
    have hL1 := h1.1
    have hS1 := h1.2.1
    have hls1 := h1.2.2.2.2.2.1
    refine ru_istore d_Lw_law_156 (by decide) ?_
    refine ru_aload_n d_Lw_law_158 rfl rfl ?_
    refine ru_aload_n d_Lw_law_159 rfl rfl ?_
    refine ru_iload d_Lw_law_160 rfl ?_
    refine ru_iconst (v := 1) d_Lw_law_162 (by decide) ?_
    refine ru_iadd d_Lw_law_163 ?_
    refine ru_eqi (nm_add i 1 : _ = nI (i + 1)) ?_
    refine ru_sldS (i := (i + 1)) d_Lw_law_164 hS1 (by omega) (by omega) ?_
    refine ru_aload_n d_Lw_law_165 rfl rfl ?_
    refine ru_iload d_Lw_law_166 rfl ?_
    refine ru_iconst (v := 2) d_Lw_law_168 (by decide) ?_
    refine ru_iadd d_Lw_law_169 ?_
    refine ru_eqi (nm_add i 2 : _ = nI (i + 2)) ?_
    refine ru_sldS (i := (i + 2)) d_Lw_law_170 hS1 (by omega) (by omega) ?_
    refine ru_aload_n d_Lw_law_171 rfl rfl ?_
    refine ru_iload d_Lw_law_172 rfl ?_
    refine ru_iconst (v := 3) d_Lw_law_174 (by decide) ?_
    refine ru_iadd d_Lw_law_175 ?_
    refine ru_eqi (nm_add i 3 : _ = nI (i + 3)) ?_
    refine ru_sldS (i := (i + 3)) d_Lw_law_176 hS1 (by omega) (by omega) ?_
    refine ru_mcs (Nat.zero_add _).symm (Nat.zero_add _).symm ?_
    refine ru_callV (mc := _) (ms := _) d_Lw_law_177 lm_Lw_54 (sp_Mo_name0 hL1 q) (rx_recv_is (ly hL1 398 9 0) kx_Mo) (by decide) rfl (Nat.le_of_ble_eq_true rfl) ?_
    rintro v τ ⟨rfl, rfl⟩
    have h2 := h1.f0 (k := 0) 1
    have hL2 := h2.1
    have hS2 := h2.2.1
    refine ru_istore d_Lw_law_180 (by decide) ?_
    refine ru_aload_n d_Lw_law_182 rfl rfl ?_
    refine ru_mcs (Nat.zero_add _).symm (Nat.zero_add _).symm ?_
    refine ru_callV (mc := _) (ms := _) d_Lw_law_183 lm_Lw_55 (sp_Mo_thrown hL2) (rx_recv_is (ly hL2 398 9 0) kx_Mo) (by decide) rfl (Nat.le_of_ble_eq_true rfl) ?_
    rintro v τ ⟨rfl, rfl⟩
    rw [rx_u_same]
    refine ru_iload d_Lw_law_186 rfl ?_
    refine ru_icmp_eq (tgt := 193) d_Lw_law_188 (by decide) (fun h188 => ?_) (fun h188 => absurd h188 (by decide))
    refine ru_iload d_Lw_law_193 rfl ?_
    refine ru_if_ne (tgt := 217) d_Lw_law_195 (by decide) (fun h195 => ?_) (fun h195 => absurd h195 (by decide))
    refine ru_goto (tgt := 900) d_Lw_law_217 (by decide) ?_
    exact ru_to (ru_less (by omega) (by omega) (k _ _ _ _ _ _ _ _ _ _ _ _ _ _ h2)) ⟨rfl, rfl, rfl, rfl, rfl, trivial⟩
theorem INV.shape {x : Nat} {x0 y0 x1 y1 : Int64} (h : INV Len scr N n t b b' L vb lb c nx ct mi ml mr) (hx : x < 16) : INV Len scr N n t b b' L vb lb c nx ct (rx_u (rx_u (rx_u mi 261 x 1) 398 0 0) 402 x 1) (rx_u (rx_u (rx_u (rx_u (rx_u (rx_u (rx_u (rx_u ml 262 x x0) 263 x y0) 264 x x1) 265 x y1) 403 (4 * x) x0) 403 (4 * x + 1) y0) 403 (4 * x + 2) x1) 403 (4 * x + 3) y1) mr := by
  have a1 := h.vb_
  have a2 := h.bb
  obtain ⟨hT1, hT2, hT3, hT4⟩ := h.2.2.2.1
  obtain ⟨hC, hM, hO⟩ := h.2.2.2.2.1
  have hs := h.2.2.2.2.2.2.1
  refine h.upd (n' := n) (t' := t) ⟨⟨?_, ?_, hT1.2.2⟩, ?_, ?_, hT4⟩ ⟨hC.pt ?_ ?_, hM.pt ?_ ?_, hO⟩ ⟨fun y hy => ?_, fun y hy => ?_⟩ (fun z => h.2.2.2.2.2.2.2.2.2 ?_) (fun r k hr => ?_) (fun r k hr => ?_)
  · rw [rx_u_r _ _ (by decide), rx_u_r _ _ (by decide), rx_u_r _ _ (by decide)]; exact hT1.1
  · rw [rx_u_r _ _ (by decide), rx_u_r _ _ (by decide), rx_u_r _ _ (by decide)]; exact hT1.2.1
  · rw [rx_u_r _ _ (by decide), rx_u_k _ _ (by decide), rx_u_r _ _ (by decide)]; exact hT2
  · rw [rx_u_r _ _ (by decide), rx_u_r _ _ (by decide), rx_u_r _ _ (by decide)]; exact hT3
  · rw [rx_u_r _ _ (by decide), rx_u_r _ _ (by decide), rx_u_r _ _ (by decide)]
  · rw [rx_u_r _ _ (by decide), rx_u_r _ _ (by decide), rx_u_r _ _ (by decide)]
  · rw [rx_u_r _ _ (by decide), rx_u_r _ _ (by decide), rx_u_r _ _ (by decide)]
  · rw [rx_u_r _ _ (by decide), rx_u_r _ _ (by decide), rx_u_r _ _ (by decide)]
  · have e : rx_u (rx_u (rx_u mi 261 x 1) 398 0 0) 402 x 1 261 = rx_u mi 261 x 1 261 := by rw [rx_u_r _ _ (by decide), rx_u_r _ _ (by decide)]
    rw [e]
    by_cases q : y = x
    · subst q; rw [rx_u_same, rx_u_same]
    · rw [rx_u_k _ _ q, rx_u_k _ _ q, rx_u_r _ _ (by decide), rx_u_r _ _ (by decide)]; exact hs.1 y hy
  · have e3 : ∀ k, (rx_u (rx_u (rx_u (rx_u (rx_u (rx_u (rx_u (rx_u ml 262 x x0) 263 x y0) 264 x x1) 265 x y1) 403 (4 * x) x0) 403 (4 * x + 1) y0) 403 (4 * x + 2) x1) 403 (4 * x + 3) y1) 403 k = if k = 4 * x + 3 then y1 else if k = 4 * x + 2 then x1 else if k = 4 * x + 1 then y0 else if k = 4 * x then x0 else ml 403 k := fun k => by simp [rx_u, va_up]
    have e4 : ∀ k, (rx_u (rx_u (rx_u (rx_u (rx_u (rx_u (rx_u (rx_u ml 262 x x0) 263 x y0) 264 x x1) 265 x y1) 403 (4 * x) x0) 403 (4 * x + 1) y0) 403 (4 * x + 2) x1) 403 (4 * x + 3) y1) 262 k = if k = x then x0 else ml 262 k := fun k => by simp [rx_u, va_up]
    have e5 : ∀ k, (rx_u (rx_u (rx_u (rx_u (rx_u (rx_u (rx_u (rx_u ml 262 x x0) 263 x y0) 264 x x1) 265 x y1) 403 (4 * x) x0) 403 (4 * x + 1) y0) 403 (4 * x + 2) x1) 403 (4 * x + 3) y1) 263 k = if k = x then y0 else ml 263 k := fun k => by simp [rx_u, va_up]
    have e6 : ∀ k, (rx_u (rx_u (rx_u (rx_u (rx_u (rx_u (rx_u (rx_u ml 262 x x0) 263 x y0) 264 x x1) 265 x y1) 403 (4 * x) x0) 403 (4 * x + 1) y0) 403 (4 * x + 2) x1) 403 (4 * x + 3) y1) 264 k = if k = x then x1 else ml 264 k := fun k => by simp [rx_u, va_up]
    have e7 : ∀ k, (rx_u (rx_u (rx_u (rx_u (rx_u (rx_u (rx_u (rx_u ml 262 x x0) 263 x y0) 264 x x1) 265 x y1) 403 (4 * x) x0) 403 (4 * x + 1) y0) 403 (4 * x + 2) x1) 403 (4 * x + 3) y1) 265 k = if k = x then y1 else ml 265 k := fun k => by simp [rx_u, va_up]
    rw [e3, e3, e3, e3, e4, e5, e6, e7]
    obtain ⟨s1, s2, s3, s4⟩ := hs.2 y hy
    by_cases q : y = x
    · subst q
      refine ⟨?_, ?_, ?_, ?_⟩
      · rw [if_neg (by omega), if_neg (by omega), if_neg (by omega), if_pos rfl, if_pos rfl]
      · rw [if_neg (by omega), if_neg (by omega), if_pos rfl, if_pos rfl]
      · rw [if_neg (by omega), if_pos rfl, if_pos rfl]
      · rw [if_pos rfl, if_pos rfl]
    · refine ⟨?_, ?_, ?_, ?_⟩
      · rw [if_neg (by omega), if_neg (by omega), if_neg (by omega), if_neg (by omega), if_neg q]; exact s1
      · rw [if_neg (by omega), if_neg (by omega), if_neg (by omega), if_neg (by omega), if_neg q]; exact s2
      · rw [if_neg (by omega), if_neg (by omega), if_neg (by omega), if_neg (by omega), if_neg q]; exact s3
      · rw [if_neg (by omega), if_neg (by omega), if_neg (by omega), if_neg (by omega), if_neg q]; exact s4
  · rw [rx_u_r _ _ (by decide), rx_u_r _ _ (by decide), rx_u_r _ _ (by decide)] at z; exact z
  · by_cases q : r = 398
    · subst q
      rw [rx_u_r _ _ (by decide), rx_u_k _ _ (by omega), rx_u_r _ _ (by decide)]
    · rw [rx_u_r _ _ (by omega), rx_u_r _ _ q, rx_u_r _ _ (by omega)]
  · rw [rx_u_r _ _ (by omega), rx_u_r _ _ (by omega), rx_u_r _ _ (by omega), rx_u_r _ _ (by omega), rx_u_r _ _ (by omega), rx_u_r _ _ (by omega), rx_u_r _ _ (by omega), rx_u_r _ _ (by omega)]
theorem op_shape (h : INV Len scr N n t b b' L vb lb c nx ct mi ml mr) (hi : i + 10 ≤ Len) (hLen : Len ≤ 5120) (k : KK Len scr f i post) : rx_W M_Lw_law 13 (f + 1 + (17400 - c)) (6 * (f + 1) + 2 * (17400 - c)) 424 [(0, .ref 0), (1, .ref 256), (2, .ref 398), (3, .ref 408), (4, .int (nI i))] [] (nx, ct, mi, ml, mr) post := by
  have hL := h.1
  have hS := h.2.1
  have hr := h.2.2.1.1.1
  have hb := h.2.2.1.2.1
  have hT := h.2.2.2.1
  have hN := h.2.2.2.2.1
  have hls := h.2.2.2.2.2.1
  have hsh := h.2.2.2.2.2.2.1
  have c17 := h.2.2.2.2.2.2.2.2.1
  have l60 := hls.1.2.1
  by_cases q : 0 ≤ (scr (i + 1)).toInt ∧ (scr (i + 1)).toInt < 16
  · obtain ⟨k1, k2, k3, k4⟩ := nnI q.1
    have hk1 : k1 < 16 := by omega
    by_cases p : (((scr (i + 2)).toInt64 <<< ((32 : Int32).toInt64 &&& 63)) ||| ((scr (i + 3)).toInt64 &&& 4294967295)) ≤ (((scr (i + 6)).toInt64 <<< ((32 : Int32).toInt64 &&& 63)) ||| ((scr (i + 7)).toInt64 &&& 4294967295)) ∧ (((scr (i + 4)).toInt64 <<< ((32 : Int32).toInt64 &&& 63)) ||| ((scr (i + 5)).toInt64 &&& 4294967295)) ≤ (((scr (i + 8)).toInt64 <<< ((32 : Int32).toInt64 &&& 63)) ||| ((scr (i + 9)).toInt64 &&& 4294967295))
    · have hS1 : ct 0 = (100, Len) ∧ rx_u mi 261 k1 1 0 = scr := ⟨hS.1, by rw [rx_u_r _ _ (by decide)]; exact hS.2⟩
      refine ru_aload_n d_Lw_law_424 rfl rfl ?_
      refine ru_aload_n d_Lw_law_425 rfl rfl ?_
      refine ru_iload d_Lw_law_426 rfl ?_
      refine ru_iconst (v := 1) d_Lw_law_428 (by decide) ?_
      refine ru_iadd d_Lw_law_429 ?_
      refine ru_eqi (nm_add i 1 : _ = nI (i + 1)) ?_
      refine ru_sldS (i := (i + 1)) d_Lw_law_430 hS (by omega) (by omega) ?_
      refine ru_eqi k3 ?_
      refine ru_aload_n d_Lw_law_431 rfl rfl ?_
      refine ru_iload d_Lw_law_432 rfl ?_
      refine ru_iconst (v := 2) d_Lw_law_434 (by decide) ?_
      refine ru_iadd d_Lw_law_435 ?_
      refine ru_eqi (nm_add i 2 : _ = nI (i + 2)) ?_
      refine ru_sldS (i := (i + 2)) d_Lw_law_436 hS (by omega) (by omega) ?_
      refine ru_i2l d_Lw_law_437 ?_
      refine ru_bipush (v := 32) d_Lw_law_438 (by decide) ?_
      refine ru_lshl d_Lw_law_440 ?_
      refine ru_aload_n d_Lw_law_441 rfl rfl ?_
      refine ru_iload d_Lw_law_442 rfl ?_
      refine ru_iconst (v := 3) d_Lw_law_444 (by decide) ?_
      refine ru_iadd d_Lw_law_445 ?_
      refine ru_eqi (nm_add i 3 : _ = nI (i + 3)) ?_
      refine ru_sldS (i := (i + 3)) d_Lw_law_446 hS (by omega) (by omega) ?_
      refine ru_i2l d_Lw_law_447 ?_
      refine ru_ldc2 d_Lw_law_448 lc_Lw_74 ?_
      refine ru_land d_Lw_law_451 ?_
      refine ru_lor d_Lw_law_452 ?_
      refine ru_aload_n d_Lw_law_453 rfl rfl ?_
      refine ru_iload d_Lw_law_454 rfl ?_
      refine ru_iconst (v := 4) d_Lw_law_456 (by decide) ?_
      refine ru_iadd d_Lw_law_457 ?_
      refine ru_eqi (nm_add i 4 : _ = nI (i + 4)) ?_
      refine ru_sldS (i := (i + 4)) d_Lw_law_458 hS (by omega) (by omega) ?_
      refine ru_i2l d_Lw_law_459 ?_
      refine ru_bipush (v := 32) d_Lw_law_460 (by decide) ?_
      refine ru_lshl d_Lw_law_462 ?_
      refine ru_aload_n d_Lw_law_463 rfl rfl ?_
      refine ru_iload d_Lw_law_464 rfl ?_
      refine ru_iconst (v := 5) d_Lw_law_466 (by decide) ?_
      refine ru_iadd d_Lw_law_467 ?_
      refine ru_eqi (nm_add i 5 : _ = nI (i + 5)) ?_
      refine ru_sldS (i := (i + 5)) d_Lw_law_468 hS (by omega) (by omega) ?_
      refine ru_i2l d_Lw_law_469 ?_
      refine ru_ldc2 d_Lw_law_470 lc_Lw_74 ?_
      refine ru_land d_Lw_law_473 ?_
      refine ru_lor d_Lw_law_474 ?_
      refine ru_aload_n d_Lw_law_475 rfl rfl ?_
      refine ru_iload d_Lw_law_476 rfl ?_
      refine ru_bipush (v := 6) d_Lw_law_478 (by decide) ?_
      refine ru_iadd d_Lw_law_480 ?_
      refine ru_eqi (nm_add i 6 : _ = nI (i + 6)) ?_
      refine ru_sldS (i := (i + 6)) d_Lw_law_481 hS (by omega) (by omega) ?_
      refine ru_i2l d_Lw_law_482 ?_
      refine ru_bipush (v := 32) d_Lw_law_483 (by decide) ?_
      refine ru_lshl d_Lw_law_485 ?_
      refine ru_aload_n d_Lw_law_486 rfl rfl ?_
      refine ru_iload d_Lw_law_487 rfl ?_
      refine ru_bipush (v := 7) d_Lw_law_489 (by decide) ?_
      refine ru_iadd d_Lw_law_491 ?_
      refine ru_eqi (nm_add i 7 : _ = nI (i + 7)) ?_
      refine ru_sldS (i := (i + 7)) d_Lw_law_492 hS (by omega) (by omega) ?_
      refine ru_i2l d_Lw_law_493 ?_
      refine ru_ldc2 d_Lw_law_494 lc_Lw_74 ?_
      refine ru_land d_Lw_law_497 ?_
      refine ru_lor d_Lw_law_498 ?_
      refine ru_aload_n d_Lw_law_499 rfl rfl ?_
      refine ru_iload d_Lw_law_500 rfl ?_
      refine ru_bipush (v := 8) d_Lw_law_502 (by decide) ?_
      refine ru_iadd d_Lw_law_504 ?_
      refine ru_eqi (nm_add i 8 : _ = nI (i + 8)) ?_
      refine ru_sldS (i := (i + 8)) d_Lw_law_505 hS (by omega) (by omega) ?_
      refine ru_i2l d_Lw_law_506 ?_
      refine ru_bipush (v := 32) d_Lw_law_507 (by decide) ?_
      refine ru_lshl d_Lw_law_509 ?_
      refine ru_aload_n d_Lw_law_510 rfl rfl ?_
      refine ru_iload d_Lw_law_511 rfl ?_
      refine ru_bipush (v := 9) d_Lw_law_513 (by decide) ?_
      refine ru_iadd d_Lw_law_515 ?_
      refine ru_eqi (nm_add i 9 : _ = nI (i + 9)) ?_
      refine ru_sldS (i := (i + 9)) d_Lw_law_516 hS (by omega) (by omega) ?_
      refine ru_i2l d_Lw_law_517 ?_
      refine ru_ldc2 d_Lw_law_518 lc_Lw_74 ?_
      refine ru_land d_Lw_law_521 ?_
      refine ru_lor d_Lw_law_522 ?_
      refine ru_aload_n d_Lw_law_523 rfl rfl ?_
      refine ru_mcs (Nat.zero_add _).symm (Nat.zero_add _).symm ?_
      refine ru_callSW (mc := _) (ms := _) d_Lw_law_524 lm_Lw_76 (lw_shape hL (sp_shape hL hk1) (fun v τ z => ⟨⟨_, z.1⟩, _, _, _, _, _, z.2, hL⟩)) (by decide) rfl (Nat.le_of_ble_eq_true rfl) ?_
      rintro v τ ⟨rfl, v1, nx1, ct1, m1, l1, r1, ⟨rfl, hh⟩, rfl⟩
      rw [cnd_t p, cnd_t p] at hh
      cases hh
      have hL1 := hL
      refine ru_istore d_Lw_law_527 (by decide) ?_
      refine ru_aload_n d_Lw_law_529 rfl rfl ?_
      refine ru_aload_n d_Lw_law_530 rfl rfl ?_
      refine ru_iload d_Lw_law_531 rfl ?_
      refine ru_iconst (v := 1) d_Lw_law_533 (by decide) ?_
      refine ru_iadd d_Lw_law_534 ?_
      refine ru_eqi (nm_add i 1 : _ = nI (i + 1)) ?_
      refine ru_sldS (i := (i + 1)) d_Lw_law_535 hS1 (by omega) (by omega) ?_
      refine ru_eqi k3 ?_
      refine ru_aload_n d_Lw_law_536 rfl rfl ?_
      refine ru_iload d_Lw_law_537 rfl ?_
      refine ru_iconst (v := 2) d_Lw_law_539 (by decide) ?_
      refine ru_iadd d_Lw_law_540 ?_
      refine ru_eqi (nm_add i 2 : _ = nI (i + 2)) ?_
      refine ru_sldS (i := (i + 2)) d_Lw_law_541 hS1 (by omega) (by omega) ?_
      refine ru_i2l d_Lw_law_542 ?_
      refine ru_bipush (v := 32) d_Lw_law_543 (by decide) ?_
      refine ru_lshl d_Lw_law_545 ?_
      refine ru_aload_n d_Lw_law_546 rfl rfl ?_
      refine ru_iload d_Lw_law_547 rfl ?_
      refine ru_iconst (v := 3) d_Lw_law_549 (by decide) ?_
      refine ru_iadd d_Lw_law_550 ?_
      refine ru_eqi (nm_add i 3 : _ = nI (i + 3)) ?_
      refine ru_sldS (i := (i + 3)) d_Lw_law_551 hS1 (by omega) (by omega) ?_
      refine ru_i2l d_Lw_law_552 ?_
      refine ru_ldc2 d_Lw_law_553 lc_Lw_74 ?_
      refine ru_land d_Lw_law_556 ?_
      refine ru_lor d_Lw_law_557 ?_
      refine ru_aload_n d_Lw_law_558 rfl rfl ?_
      refine ru_iload d_Lw_law_559 rfl ?_
      refine ru_iconst (v := 4) d_Lw_law_561 (by decide) ?_
      refine ru_iadd d_Lw_law_562 ?_
      refine ru_eqi (nm_add i 4 : _ = nI (i + 4)) ?_
      refine ru_sldS (i := (i + 4)) d_Lw_law_563 hS1 (by omega) (by omega) ?_
      refine ru_i2l d_Lw_law_564 ?_
      refine ru_bipush (v := 32) d_Lw_law_565 (by decide) ?_
      refine ru_lshl d_Lw_law_567 ?_
      refine ru_aload_n d_Lw_law_568 rfl rfl ?_
      refine ru_iload d_Lw_law_569 rfl ?_
      refine ru_iconst (v := 5) d_Lw_law_571 (by decide) ?_
      refine ru_iadd d_Lw_law_572 ?_
      refine ru_eqi (nm_add i 5 : _ = nI (i + 5)) ?_
      refine ru_sldS (i := (i + 5)) d_Lw_law_573 hS1 (by omega) (by omega) ?_
      refine ru_i2l d_Lw_law_574 ?_
      refine ru_ldc2 d_Lw_law_575 lc_Lw_74 ?_
      refine ru_land d_Lw_law_578 ?_
      refine ru_lor d_Lw_law_579 ?_
      refine ru_aload_n d_Lw_law_580 rfl rfl ?_
      refine ru_iload d_Lw_law_581 rfl ?_
      refine ru_bipush (v := 6) d_Lw_law_583 (by decide) ?_
      refine ru_iadd d_Lw_law_585 ?_
      refine ru_eqi (nm_add i 6 : _ = nI (i + 6)) ?_
      refine ru_sldS (i := (i + 6)) d_Lw_law_586 hS1 (by omega) (by omega) ?_
      refine ru_i2l d_Lw_law_587 ?_
      refine ru_bipush (v := 32) d_Lw_law_588 (by decide) ?_
      refine ru_lshl d_Lw_law_590 ?_
      refine ru_aload_n d_Lw_law_591 rfl rfl ?_
      refine ru_iload d_Lw_law_592 rfl ?_
      refine ru_bipush (v := 7) d_Lw_law_594 (by decide) ?_
      refine ru_iadd d_Lw_law_596 ?_
      refine ru_eqi (nm_add i 7 : _ = nI (i + 7)) ?_
      refine ru_sldS (i := (i + 7)) d_Lw_law_597 hS1 (by omega) (by omega) ?_
      refine ru_i2l d_Lw_law_598 ?_
      refine ru_ldc2 d_Lw_law_599 lc_Lw_74 ?_
      refine ru_land d_Lw_law_602 ?_
      refine ru_lor d_Lw_law_603 ?_
      refine ru_aload_n d_Lw_law_604 rfl rfl ?_
      refine ru_iload d_Lw_law_605 rfl ?_
      refine ru_bipush (v := 8) d_Lw_law_607 (by decide) ?_
      refine ru_iadd d_Lw_law_609 ?_
      refine ru_eqi (nm_add i 8 : _ = nI (i + 8)) ?_
      refine ru_sldS (i := (i + 8)) d_Lw_law_610 hS1 (by omega) (by omega) ?_
      refine ru_i2l d_Lw_law_611 ?_
      refine ru_bipush (v := 32) d_Lw_law_612 (by decide) ?_
      refine ru_lshl d_Lw_law_614 ?_
      refine ru_aload_n d_Lw_law_615 rfl rfl ?_
      refine ru_iload d_Lw_law_616 rfl ?_
      refine ru_bipush (v := 9) d_Lw_law_618 (by decide) ?_
      refine ru_iadd d_Lw_law_620 ?_
      refine ru_eqi (nm_add i 9 : _ = nI (i + 9)) ?_
      refine ru_sldS (i := (i + 9)) d_Lw_law_621 hS1 (by omega) (by omega) ?_
      refine ru_i2l d_Lw_law_622 ?_
      refine ru_ldc2 d_Lw_law_623 lc_Lw_74 ?_
      refine ru_land d_Lw_law_626 ?_
      refine ru_lor d_Lw_law_627 ?_
      refine ru_mcs (Nat.zero_add _).symm (Nat.zero_add _).symm ?_
      refine ru_callV (mc := _) (ms := _) d_Lw_law_628 lm_Lw_79 (sp_Mo_shape hL1 hk1) (rx_recv_is (ly hL1 398 9 0) kx_Mo) (by decide) rfl (Nat.le_of_ble_eq_true rfl) ?_
      rintro v τ ⟨rfl, rfl⟩
      rw [if_pos p, if_pos p]
      have h2 := (h.shape (x0 := (((scr (i + 2)).toInt64 <<< ((32 : Int32).toInt64 &&& 63)) ||| ((scr (i + 3)).toInt64 &&& 4294967295))) (y0 := (((scr (i + 4)).toInt64 <<< ((32 : Int32).toInt64 &&& 63)) ||| ((scr (i + 5)).toInt64 &&& 4294967295))) (x1 := (((scr (i + 6)).toInt64 <<< ((32 : Int32).toInt64 &&& 63)) ||| ((scr (i + 7)).toInt64 &&& 4294967295))) (y1 := (((scr (i + 8)).toInt64 <<< ((32 : Int32).toInt64 &&& 63)) ||| ((scr (i + 9)).toInt64 &&& 4294967295))) hk1).o (k := 0) (cvZ (some (.int (bI ((((scr (i + 2)).toInt64 <<< ((32 : Int32).toInt64 &&& 63)) ||| ((scr (i + 3)).toInt64 &&& 4294967295)) ≤ (((scr (i + 6)).toInt64 <<< ((32 : Int32).toInt64 &&& 63)) ||| ((scr (i + 7)).toInt64 &&& 4294967295)) ∧ (((scr (i + 4)).toInt64 <<< ((32 : Int32).toInt64 &&& 63)) ||| ((scr (i + 5)).toInt64 &&& 4294967295)) ≤ (((scr (i + 8)).toInt64 <<< ((32 : Int32).toInt64 &&& 63)) ||| ((scr (i + 9)).toInt64 &&& 4294967295))))))); rw [← rx_u_c _ _ _ (by decide : (403 : Nat) ≠ 408), ← rx_u_c _ _ _ (by decide : (403 : Nat) ≠ 408), ← rx_u_c _ _ _ (by decide : (403 : Nat) ≠ 408), ← rx_u_c _ _ _ (by decide : (403 : Nat) ≠ 408)]
      have hL2 := hL
      refine ru_istore d_Lw_law_631 (by decide) ?_
      refine ru_aload_n d_Lw_law_633 rfl rfl ?_
      refine ru_mcs (Nat.zero_add _).symm (Nat.zero_add _).symm ?_
      refine ru_callV (mc := _) (ms := _) d_Lw_law_634 lm_Lw_55 (sp_Mo_thrown hL2) (rx_recv_is (ly hL2 398 9 0) kx_Mo) (by decide) rfl (Nat.le_of_ble_eq_true rfl) ?_
      rintro v τ ⟨rfl, rfl⟩
      rw [rx_u_r _ _ (by decide), rx_u_same]
      refine ru_iload d_Lw_law_637 rfl ?_
      refine ru_icmp_eq (tgt := 644) d_Lw_law_639 (by decide) (fun h639 => ?_) (fun h639 => absurd h639 (by decide))
      refine ru_iload d_Lw_law_644 rfl ?_
      refine ru_if_ne (tgt := 668) d_Lw_law_646 (by decide) (fun h646 => absurd h646 (by decide)) (fun h646 => ?_)
      refine ru_aload_n d_Lw_law_649 rfl rfl ?_
      refine ru_iconst (v := 0) d_Lw_law_650 (by decide) ?_
      refine ru_laldN (j := 0) d_Lw_law_651 (ly hL2 408 104 1) (by omega) (by decide) ?_
      refine ru_eql ((rx_u_same _ _ _ _).trans (cvZ_t p)) ?_
      refine ru_iload d_Lw_law_652 rfl ?_
      refine ru_if_eq (tgt := 661) d_Lw_law_654 (by decide) (fun h654 => absurd h654 (bI_ne0.mpr p)) (fun h654 => ?_)
      refine ru_lconst (v := 1) d_Lw_law_657 (by decide) ?_
      refine ru_goto (tgt := 662) d_Lw_law_658 (by decide) ?_
      refine ru_lcmp d_Lw_law_662 ?_
      refine ru_if_eq (tgt := 668) d_Lw_law_663 (by decide) (fun h663 => ?_) (fun h663 => absurd ((lg_cmp_eq _ _).mpr rfl) h663)
      replace h663 := (lg_cmp_eq _ _).mp h663
      refine ru_goto (tgt := 900) d_Lw_law_668 (by decide) ?_
      exact ru_to (ru_less (by omega) (by omega) (k _ _ _ _ _ _ _ _ _ _ _ _ _ _ h2)) ⟨rfl, rfl, rfl, rfl, rfl, trivial⟩
    · have hS1 := hS
      refine ru_aload_n d_Lw_law_424 rfl rfl ?_
      refine ru_aload_n d_Lw_law_425 rfl rfl ?_
      refine ru_iload d_Lw_law_426 rfl ?_
      refine ru_iconst (v := 1) d_Lw_law_428 (by decide) ?_
      refine ru_iadd d_Lw_law_429 ?_
      refine ru_eqi (nm_add i 1 : _ = nI (i + 1)) ?_
      refine ru_sldS (i := (i + 1)) d_Lw_law_430 hS (by omega) (by omega) ?_
      refine ru_eqi k3 ?_
      refine ru_aload_n d_Lw_law_431 rfl rfl ?_
      refine ru_iload d_Lw_law_432 rfl ?_
      refine ru_iconst (v := 2) d_Lw_law_434 (by decide) ?_
      refine ru_iadd d_Lw_law_435 ?_
      refine ru_eqi (nm_add i 2 : _ = nI (i + 2)) ?_
      refine ru_sldS (i := (i + 2)) d_Lw_law_436 hS (by omega) (by omega) ?_
      refine ru_i2l d_Lw_law_437 ?_
      refine ru_bipush (v := 32) d_Lw_law_438 (by decide) ?_
      refine ru_lshl d_Lw_law_440 ?_
      refine ru_aload_n d_Lw_law_441 rfl rfl ?_
      refine ru_iload d_Lw_law_442 rfl ?_
      refine ru_iconst (v := 3) d_Lw_law_444 (by decide) ?_
      refine ru_iadd d_Lw_law_445 ?_
      refine ru_eqi (nm_add i 3 : _ = nI (i + 3)) ?_
      refine ru_sldS (i := (i + 3)) d_Lw_law_446 hS (by omega) (by omega) ?_
      refine ru_i2l d_Lw_law_447 ?_
      refine ru_ldc2 d_Lw_law_448 lc_Lw_74 ?_
      refine ru_land d_Lw_law_451 ?_
      refine ru_lor d_Lw_law_452 ?_
      refine ru_aload_n d_Lw_law_453 rfl rfl ?_
      refine ru_iload d_Lw_law_454 rfl ?_
      refine ru_iconst (v := 4) d_Lw_law_456 (by decide) ?_
      refine ru_iadd d_Lw_law_457 ?_
      refine ru_eqi (nm_add i 4 : _ = nI (i + 4)) ?_
      refine ru_sldS (i := (i + 4)) d_Lw_law_458 hS (by omega) (by omega) ?_
      refine ru_i2l d_Lw_law_459 ?_
      refine ru_bipush (v := 32) d_Lw_law_460 (by decide) ?_
      refine ru_lshl d_Lw_law_462 ?_
      refine ru_aload_n d_Lw_law_463 rfl rfl ?_
      refine ru_iload d_Lw_law_464 rfl ?_
      refine ru_iconst (v := 5) d_Lw_law_466 (by decide) ?_
      refine ru_iadd d_Lw_law_467 ?_
      refine ru_eqi (nm_add i 5 : _ = nI (i + 5)) ?_
      refine ru_sldS (i := (i + 5)) d_Lw_law_468 hS (by omega) (by omega) ?_
      refine ru_i2l d_Lw_law_469 ?_
      refine ru_ldc2 d_Lw_law_470 lc_Lw_74 ?_
      refine ru_land d_Lw_law_473 ?_
      refine ru_lor d_Lw_law_474 ?_
      refine ru_aload_n d_Lw_law_475 rfl rfl ?_
      refine ru_iload d_Lw_law_476 rfl ?_
      refine ru_bipush (v := 6) d_Lw_law_478 (by decide) ?_
      refine ru_iadd d_Lw_law_480 ?_
      refine ru_eqi (nm_add i 6 : _ = nI (i + 6)) ?_
      refine ru_sldS (i := (i + 6)) d_Lw_law_481 hS (by omega) (by omega) ?_
      refine ru_i2l d_Lw_law_482 ?_
      refine ru_bipush (v := 32) d_Lw_law_483 (by decide) ?_
      refine ru_lshl d_Lw_law_485 ?_
      refine ru_aload_n d_Lw_law_486 rfl rfl ?_
      refine ru_iload d_Lw_law_487 rfl ?_
      refine ru_bipush (v := 7) d_Lw_law_489 (by decide) ?_
      refine ru_iadd d_Lw_law_491 ?_
      refine ru_eqi (nm_add i 7 : _ = nI (i + 7)) ?_
      refine ru_sldS (i := (i + 7)) d_Lw_law_492 hS (by omega) (by omega) ?_
      refine ru_i2l d_Lw_law_493 ?_
      refine ru_ldc2 d_Lw_law_494 lc_Lw_74 ?_
      refine ru_land d_Lw_law_497 ?_
      refine ru_lor d_Lw_law_498 ?_
      refine ru_aload_n d_Lw_law_499 rfl rfl ?_
      refine ru_iload d_Lw_law_500 rfl ?_
      refine ru_bipush (v := 8) d_Lw_law_502 (by decide) ?_
      refine ru_iadd d_Lw_law_504 ?_
      refine ru_eqi (nm_add i 8 : _ = nI (i + 8)) ?_
      refine ru_sldS (i := (i + 8)) d_Lw_law_505 hS (by omega) (by omega) ?_
      refine ru_i2l d_Lw_law_506 ?_
      refine ru_bipush (v := 32) d_Lw_law_507 (by decide) ?_
      refine ru_lshl d_Lw_law_509 ?_
      refine ru_aload_n d_Lw_law_510 rfl rfl ?_
      refine ru_iload d_Lw_law_511 rfl ?_
      refine ru_bipush (v := 9) d_Lw_law_513 (by decide) ?_
      refine ru_iadd d_Lw_law_515 ?_
      refine ru_eqi (nm_add i 9 : _ = nI (i + 9)) ?_
      refine ru_sldS (i := (i + 9)) d_Lw_law_516 hS (by omega) (by omega) ?_
      refine ru_i2l d_Lw_law_517 ?_
      refine ru_ldc2 d_Lw_law_518 lc_Lw_74 ?_
      refine ru_land d_Lw_law_521 ?_
      refine ru_lor d_Lw_law_522 ?_
      refine ru_aload_n d_Lw_law_523 rfl rfl ?_
      refine ru_mcs (Nat.zero_add _).symm (Nat.zero_add _).symm ?_
      refine ru_callSW (mc := _) (ms := _) d_Lw_law_524 lm_Lw_76 (lw_shape hL (sp_shape hL hk1) (fun v τ z => ⟨⟨_, z.1⟩, _, _, _, _, _, z.2, hL⟩)) (by decide) rfl (Nat.le_of_ble_eq_true rfl) ?_
      rintro v τ ⟨rfl, v1, nx1, ct1, m1, l1, r1, ⟨rfl, hh⟩, rfl⟩
      rw [cnd_f p, cnd_f p] at hh
      cases hh
      have hL1 := hL
      refine ru_istore d_Lw_law_527 (by decide) ?_
      refine ru_aload_n d_Lw_law_529 rfl rfl ?_
      refine ru_aload_n d_Lw_law_530 rfl rfl ?_
      refine ru_iload d_Lw_law_531 rfl ?_
      refine ru_iconst (v := 1) d_Lw_law_533 (by decide) ?_
      refine ru_iadd d_Lw_law_534 ?_
      refine ru_eqi (nm_add i 1 : _ = nI (i + 1)) ?_
      refine ru_sldS (i := (i + 1)) d_Lw_law_535 hS1 (by omega) (by omega) ?_
      refine ru_eqi k3 ?_
      refine ru_aload_n d_Lw_law_536 rfl rfl ?_
      refine ru_iload d_Lw_law_537 rfl ?_
      refine ru_iconst (v := 2) d_Lw_law_539 (by decide) ?_
      refine ru_iadd d_Lw_law_540 ?_
      refine ru_eqi (nm_add i 2 : _ = nI (i + 2)) ?_
      refine ru_sldS (i := (i + 2)) d_Lw_law_541 hS1 (by omega) (by omega) ?_
      refine ru_i2l d_Lw_law_542 ?_
      refine ru_bipush (v := 32) d_Lw_law_543 (by decide) ?_
      refine ru_lshl d_Lw_law_545 ?_
      refine ru_aload_n d_Lw_law_546 rfl rfl ?_
      refine ru_iload d_Lw_law_547 rfl ?_
      refine ru_iconst (v := 3) d_Lw_law_549 (by decide) ?_
      refine ru_iadd d_Lw_law_550 ?_
      refine ru_eqi (nm_add i 3 : _ = nI (i + 3)) ?_
      refine ru_sldS (i := (i + 3)) d_Lw_law_551 hS1 (by omega) (by omega) ?_
      refine ru_i2l d_Lw_law_552 ?_
      refine ru_ldc2 d_Lw_law_553 lc_Lw_74 ?_
      refine ru_land d_Lw_law_556 ?_
      refine ru_lor d_Lw_law_557 ?_
      refine ru_aload_n d_Lw_law_558 rfl rfl ?_
      refine ru_iload d_Lw_law_559 rfl ?_
      refine ru_iconst (v := 4) d_Lw_law_561 (by decide) ?_
      refine ru_iadd d_Lw_law_562 ?_
      refine ru_eqi (nm_add i 4 : _ = nI (i + 4)) ?_
      refine ru_sldS (i := (i + 4)) d_Lw_law_563 hS1 (by omega) (by omega) ?_
      refine ru_i2l d_Lw_law_564 ?_
      refine ru_bipush (v := 32) d_Lw_law_565 (by decide) ?_
      refine ru_lshl d_Lw_law_567 ?_
      refine ru_aload_n d_Lw_law_568 rfl rfl ?_
      refine ru_iload d_Lw_law_569 rfl ?_
      refine ru_iconst (v := 5) d_Lw_law_571 (by decide) ?_
      refine ru_iadd d_Lw_law_572 ?_
      refine ru_eqi (nm_add i 5 : _ = nI (i + 5)) ?_
      refine ru_sldS (i := (i + 5)) d_Lw_law_573 hS1 (by omega) (by omega) ?_
      refine ru_i2l d_Lw_law_574 ?_
      refine ru_ldc2 d_Lw_law_575 lc_Lw_74 ?_
      refine ru_land d_Lw_law_578 ?_
      refine ru_lor d_Lw_law_579 ?_
      refine ru_aload_n d_Lw_law_580 rfl rfl ?_
      refine ru_iload d_Lw_law_581 rfl ?_
      refine ru_bipush (v := 6) d_Lw_law_583 (by decide) ?_
      refine ru_iadd d_Lw_law_585 ?_
      refine ru_eqi (nm_add i 6 : _ = nI (i + 6)) ?_
      refine ru_sldS (i := (i + 6)) d_Lw_law_586 hS1 (by omega) (by omega) ?_
      refine ru_i2l d_Lw_law_587 ?_
      refine ru_bipush (v := 32) d_Lw_law_588 (by decide) ?_
      refine ru_lshl d_Lw_law_590 ?_
      refine ru_aload_n d_Lw_law_591 rfl rfl ?_
      refine ru_iload d_Lw_law_592 rfl ?_
      refine ru_bipush (v := 7) d_Lw_law_594 (by decide) ?_
      refine ru_iadd d_Lw_law_596 ?_
      refine ru_eqi (nm_add i 7 : _ = nI (i + 7)) ?_
      refine ru_sldS (i := (i + 7)) d_Lw_law_597 hS1 (by omega) (by omega) ?_
      refine ru_i2l d_Lw_law_598 ?_
      refine ru_ldc2 d_Lw_law_599 lc_Lw_74 ?_
      refine ru_land d_Lw_law_602 ?_
      refine ru_lor d_Lw_law_603 ?_
      refine ru_aload_n d_Lw_law_604 rfl rfl ?_
      refine ru_iload d_Lw_law_605 rfl ?_
      refine ru_bipush (v := 8) d_Lw_law_607 (by decide) ?_
      refine ru_iadd d_Lw_law_609 ?_
      refine ru_eqi (nm_add i 8 : _ = nI (i + 8)) ?_
      refine ru_sldS (i := (i + 8)) d_Lw_law_610 hS1 (by omega) (by omega) ?_
      refine ru_i2l d_Lw_law_611 ?_
      refine ru_bipush (v := 32) d_Lw_law_612 (by decide) ?_
      refine ru_lshl d_Lw_law_614 ?_
      refine ru_aload_n d_Lw_law_615 rfl rfl ?_
      refine ru_iload d_Lw_law_616 rfl ?_
      refine ru_bipush (v := 9) d_Lw_law_618 (by decide) ?_
      refine ru_iadd d_Lw_law_620 ?_
      refine ru_eqi (nm_add i 9 : _ = nI (i + 9)) ?_
      refine ru_sldS (i := (i + 9)) d_Lw_law_621 hS1 (by omega) (by omega) ?_
      refine ru_i2l d_Lw_law_622 ?_
      refine ru_ldc2 d_Lw_law_623 lc_Lw_74 ?_
      refine ru_land d_Lw_law_626 ?_
      refine ru_lor d_Lw_law_627 ?_
      refine ru_mcs (Nat.zero_add _).symm (Nat.zero_add _).symm ?_
      refine ru_callV (mc := _) (ms := _) d_Lw_law_628 lm_Lw_79 (sp_Mo_shape hL1 hk1) (rx_recv_is (ly hL1 398 9 0) kx_Mo) (by decide) rfl (Nat.le_of_ble_eq_true rfl) ?_
      rintro v τ ⟨rfl, rfl⟩
      rw [if_neg p, if_neg p]
      have h2 := (h.o (k := 0) (cvZ (some (.int (bI ((((scr (i + 2)).toInt64 <<< ((32 : Int32).toInt64 &&& 63)) ||| ((scr (i + 3)).toInt64 &&& 4294967295)) ≤ (((scr (i + 6)).toInt64 <<< ((32 : Int32).toInt64 &&& 63)) ||| ((scr (i + 7)).toInt64 &&& 4294967295)) ∧ (((scr (i + 4)).toInt64 <<< ((32 : Int32).toInt64 &&& 63)) ||| ((scr (i + 5)).toInt64 &&& 4294967295)) ≤ (((scr (i + 8)).toInt64 <<< ((32 : Int32).toInt64 &&& 63)) ||| ((scr (i + 9)).toInt64 &&& 4294967295)))))))).f0 (k := 0) 0
      have hL2 := hL
      refine ru_istore d_Lw_law_631 (by decide) ?_
      refine ru_aload_n d_Lw_law_633 rfl rfl ?_
      refine ru_mcs (Nat.zero_add _).symm (Nat.zero_add _).symm ?_
      refine ru_callV (mc := _) (ms := _) d_Lw_law_634 lm_Lw_55 (sp_Mo_thrown hL2) (rx_recv_is (ly hL2 398 9 0) kx_Mo) (by decide) rfl (Nat.le_of_ble_eq_true rfl) ?_
      rintro v τ ⟨rfl, rfl⟩
      rw [rx_u_same]
      refine ru_iload d_Lw_law_637 rfl ?_
      refine ru_icmp_eq (tgt := 644) d_Lw_law_639 (by decide) (fun h639 => ?_) (fun h639 => absurd h639 (by decide))
      refine ru_iload d_Lw_law_644 rfl ?_
      refine ru_if_ne (tgt := 668) d_Lw_law_646 (by decide) (fun h646 => absurd h646 (by decide)) (fun h646 => ?_)
      refine ru_aload_n d_Lw_law_649 rfl rfl ?_
      refine ru_iconst (v := 0) d_Lw_law_650 (by decide) ?_
      refine ru_laldN (j := 0) d_Lw_law_651 (ly hL2 408 104 1) (by omega) (by decide) ?_
      refine ru_eql ((rx_u_same _ _ _ _).trans (cvZ_f p)) ?_
      refine ru_iload d_Lw_law_652 rfl ?_
      refine ru_if_eq (tgt := 661) d_Lw_law_654 (by decide) (fun h654 => ?_) (fun h654 => absurd (bI_f p) h654)
      refine ru_lconst (v := 0) d_Lw_law_661 (by decide) ?_
      refine ru_lcmp d_Lw_law_662 ?_
      refine ru_if_eq (tgt := 668) d_Lw_law_663 (by decide) (fun h663 => ?_) (fun h663 => absurd ((lg_cmp_eq _ _).mpr rfl) h663)
      replace h663 := (lg_cmp_eq _ _).mp h663
      refine ru_goto (tgt := 900) d_Lw_law_668 (by decide) ?_
      exact ru_to (ru_less (by omega) (by omega) (k _ _ _ _ _ _ _ _ _ _ _ _ _ _ h2)) ⟨rfl, rfl, rfl, rfl, rfl, trivial⟩
  · skip
    refine ru_aload_n d_Lw_law_424 rfl rfl ?_
    refine ru_aload_n d_Lw_law_425 rfl rfl ?_
    refine ru_iload d_Lw_law_426 rfl ?_
    refine ru_iconst (v := 1) d_Lw_law_428 (by decide) ?_
    refine ru_iadd d_Lw_law_429 ?_
    refine ru_eqi (nm_add i 1 : _ = nI (i + 1)) ?_
    refine ru_sldS (i := (i + 1)) d_Lw_law_430 hS (by omega) (by omega) ?_
    refine ru_aload_n d_Lw_law_431 rfl rfl ?_
    refine ru_iload d_Lw_law_432 rfl ?_
    refine ru_iconst (v := 2) d_Lw_law_434 (by decide) ?_
    refine ru_iadd d_Lw_law_435 ?_
    refine ru_eqi (nm_add i 2 : _ = nI (i + 2)) ?_
    refine ru_sldS (i := (i + 2)) d_Lw_law_436 hS (by omega) (by omega) ?_
    refine ru_i2l d_Lw_law_437 ?_
    refine ru_bipush (v := 32) d_Lw_law_438 (by decide) ?_
    refine ru_lshl d_Lw_law_440 ?_
    refine ru_aload_n d_Lw_law_441 rfl rfl ?_
    refine ru_iload d_Lw_law_442 rfl ?_
    refine ru_iconst (v := 3) d_Lw_law_444 (by decide) ?_
    refine ru_iadd d_Lw_law_445 ?_
    refine ru_eqi (nm_add i 3 : _ = nI (i + 3)) ?_
    refine ru_sldS (i := (i + 3)) d_Lw_law_446 hS (by omega) (by omega) ?_
    refine ru_i2l d_Lw_law_447 ?_
    refine ru_ldc2 d_Lw_law_448 lc_Lw_74 ?_
    refine ru_land d_Lw_law_451 ?_
    refine ru_lor d_Lw_law_452 ?_
    refine ru_aload_n d_Lw_law_453 rfl rfl ?_
    refine ru_iload d_Lw_law_454 rfl ?_
    refine ru_iconst (v := 4) d_Lw_law_456 (by decide) ?_
    refine ru_iadd d_Lw_law_457 ?_
    refine ru_eqi (nm_add i 4 : _ = nI (i + 4)) ?_
    refine ru_sldS (i := (i + 4)) d_Lw_law_458 hS (by omega) (by omega) ?_
    refine ru_i2l d_Lw_law_459 ?_
    refine ru_bipush (v := 32) d_Lw_law_460 (by decide) ?_
    refine ru_lshl d_Lw_law_462 ?_
    refine ru_aload_n d_Lw_law_463 rfl rfl ?_
    refine ru_iload d_Lw_law_464 rfl ?_
    refine ru_iconst (v := 5) d_Lw_law_466 (by decide) ?_
    refine ru_iadd d_Lw_law_467 ?_
    refine ru_eqi (nm_add i 5 : _ = nI (i + 5)) ?_
    refine ru_sldS (i := (i + 5)) d_Lw_law_468 hS (by omega) (by omega) ?_
    refine ru_i2l d_Lw_law_469 ?_
    refine ru_ldc2 d_Lw_law_470 lc_Lw_74 ?_
    refine ru_land d_Lw_law_473 ?_
    refine ru_lor d_Lw_law_474 ?_
    refine ru_aload_n d_Lw_law_475 rfl rfl ?_
    refine ru_iload d_Lw_law_476 rfl ?_
    refine ru_bipush (v := 6) d_Lw_law_478 (by decide) ?_
    refine ru_iadd d_Lw_law_480 ?_
    refine ru_eqi (nm_add i 6 : _ = nI (i + 6)) ?_
    refine ru_sldS (i := (i + 6)) d_Lw_law_481 hS (by omega) (by omega) ?_
    refine ru_i2l d_Lw_law_482 ?_
    refine ru_bipush (v := 32) d_Lw_law_483 (by decide) ?_
    refine ru_lshl d_Lw_law_485 ?_
    refine ru_aload_n d_Lw_law_486 rfl rfl ?_
    refine ru_iload d_Lw_law_487 rfl ?_
    refine ru_bipush (v := 7) d_Lw_law_489 (by decide) ?_
    refine ru_iadd d_Lw_law_491 ?_
    refine ru_eqi (nm_add i 7 : _ = nI (i + 7)) ?_
    refine ru_sldS (i := (i + 7)) d_Lw_law_492 hS (by omega) (by omega) ?_
    refine ru_i2l d_Lw_law_493 ?_
    refine ru_ldc2 d_Lw_law_494 lc_Lw_74 ?_
    refine ru_land d_Lw_law_497 ?_
    refine ru_lor d_Lw_law_498 ?_
    refine ru_aload_n d_Lw_law_499 rfl rfl ?_
    refine ru_iload d_Lw_law_500 rfl ?_
    refine ru_bipush (v := 8) d_Lw_law_502 (by decide) ?_
    refine ru_iadd d_Lw_law_504 ?_
    refine ru_eqi (nm_add i 8 : _ = nI (i + 8)) ?_
    refine ru_sldS (i := (i + 8)) d_Lw_law_505 hS (by omega) (by omega) ?_
    refine ru_i2l d_Lw_law_506 ?_
    refine ru_bipush (v := 32) d_Lw_law_507 (by decide) ?_
    refine ru_lshl d_Lw_law_509 ?_
    refine ru_aload_n d_Lw_law_510 rfl rfl ?_
    refine ru_iload d_Lw_law_511 rfl ?_
    refine ru_bipush (v := 9) d_Lw_law_513 (by decide) ?_
    refine ru_iadd d_Lw_law_515 ?_
    refine ru_eqi (nm_add i 9 : _ = nI (i + 9)) ?_
    refine ru_sldS (i := (i + 9)) d_Lw_law_516 hS (by omega) (by omega) ?_
    refine ru_i2l d_Lw_law_517 ?_
    refine ru_ldc2 d_Lw_law_518 lc_Lw_74 ?_
    refine ru_land d_Lw_law_521 ?_
    refine ru_lor d_Lw_law_522 ?_
    refine ru_aload_n d_Lw_law_523 rfl rfl ?_
    refine ru_mcs (mc' := 1 + (f + (17400 - c))) (ms' := 6 + (6 * f + 2 * (17400 - c))) (by omega) (by omega) ?_
    refine ru_callSW (mc := f + (17400 - c)) (ms := 6 * f + 2 * (17400 - c)) d_Lw_law_524 lm_Lw_76 (lt_shape (th_shape q) hL) (by decide) rfl (Nat.le_of_ble_eq_true rfl) ?_
    rintro v τ ⟨rfl, rfl⟩
    unfold rx_new
    have h1 := h.new (tg := 95) (len := 0)
    have hL1 := h1.1
    have hS1 := h1.2.1
    have hls1 := h1.2.2.2.2.2.1
    refine ru_istore d_Lw_law_527 (by decide) ?_
    refine ru_aload_n d_Lw_law_529 rfl rfl ?_
    refine ru_aload_n d_Lw_law_530 rfl rfl ?_
    refine ru_iload d_Lw_law_531 rfl ?_
    refine ru_iconst (v := 1) d_Lw_law_533 (by decide) ?_
    refine ru_iadd d_Lw_law_534 ?_
    refine ru_eqi (nm_add i 1 : _ = nI (i + 1)) ?_
    refine ru_sldS (i := (i + 1)) d_Lw_law_535 hS1 (by omega) (by omega) ?_
    refine ru_aload_n d_Lw_law_536 rfl rfl ?_
    refine ru_iload d_Lw_law_537 rfl ?_
    refine ru_iconst (v := 2) d_Lw_law_539 (by decide) ?_
    refine ru_iadd d_Lw_law_540 ?_
    refine ru_eqi (nm_add i 2 : _ = nI (i + 2)) ?_
    refine ru_sldS (i := (i + 2)) d_Lw_law_541 hS1 (by omega) (by omega) ?_
    refine ru_i2l d_Lw_law_542 ?_
    refine ru_bipush (v := 32) d_Lw_law_543 (by decide) ?_
    refine ru_lshl d_Lw_law_545 ?_
    refine ru_aload_n d_Lw_law_546 rfl rfl ?_
    refine ru_iload d_Lw_law_547 rfl ?_
    refine ru_iconst (v := 3) d_Lw_law_549 (by decide) ?_
    refine ru_iadd d_Lw_law_550 ?_
    refine ru_eqi (nm_add i 3 : _ = nI (i + 3)) ?_
    refine ru_sldS (i := (i + 3)) d_Lw_law_551 hS1 (by omega) (by omega) ?_
    refine ru_i2l d_Lw_law_552 ?_
    refine ru_ldc2 d_Lw_law_553 lc_Lw_74 ?_
    refine ru_land d_Lw_law_556 ?_
    refine ru_lor d_Lw_law_557 ?_
    refine ru_aload_n d_Lw_law_558 rfl rfl ?_
    refine ru_iload d_Lw_law_559 rfl ?_
    refine ru_iconst (v := 4) d_Lw_law_561 (by decide) ?_
    refine ru_iadd d_Lw_law_562 ?_
    refine ru_eqi (nm_add i 4 : _ = nI (i + 4)) ?_
    refine ru_sldS (i := (i + 4)) d_Lw_law_563 hS1 (by omega) (by omega) ?_
    refine ru_i2l d_Lw_law_564 ?_
    refine ru_bipush (v := 32) d_Lw_law_565 (by decide) ?_
    refine ru_lshl d_Lw_law_567 ?_
    refine ru_aload_n d_Lw_law_568 rfl rfl ?_
    refine ru_iload d_Lw_law_569 rfl ?_
    refine ru_iconst (v := 5) d_Lw_law_571 (by decide) ?_
    refine ru_iadd d_Lw_law_572 ?_
    refine ru_eqi (nm_add i 5 : _ = nI (i + 5)) ?_
    refine ru_sldS (i := (i + 5)) d_Lw_law_573 hS1 (by omega) (by omega) ?_
    refine ru_i2l d_Lw_law_574 ?_
    refine ru_ldc2 d_Lw_law_575 lc_Lw_74 ?_
    refine ru_land d_Lw_law_578 ?_
    refine ru_lor d_Lw_law_579 ?_
    refine ru_aload_n d_Lw_law_580 rfl rfl ?_
    refine ru_iload d_Lw_law_581 rfl ?_
    refine ru_bipush (v := 6) d_Lw_law_583 (by decide) ?_
    refine ru_iadd d_Lw_law_585 ?_
    refine ru_eqi (nm_add i 6 : _ = nI (i + 6)) ?_
    refine ru_sldS (i := (i + 6)) d_Lw_law_586 hS1 (by omega) (by omega) ?_
    refine ru_i2l d_Lw_law_587 ?_
    refine ru_bipush (v := 32) d_Lw_law_588 (by decide) ?_
    refine ru_lshl d_Lw_law_590 ?_
    refine ru_aload_n d_Lw_law_591 rfl rfl ?_
    refine ru_iload d_Lw_law_592 rfl ?_
    refine ru_bipush (v := 7) d_Lw_law_594 (by decide) ?_
    refine ru_iadd d_Lw_law_596 ?_
    refine ru_eqi (nm_add i 7 : _ = nI (i + 7)) ?_
    refine ru_sldS (i := (i + 7)) d_Lw_law_597 hS1 (by omega) (by omega) ?_
    refine ru_i2l d_Lw_law_598 ?_
    refine ru_ldc2 d_Lw_law_599 lc_Lw_74 ?_
    refine ru_land d_Lw_law_602 ?_
    refine ru_lor d_Lw_law_603 ?_
    refine ru_aload_n d_Lw_law_604 rfl rfl ?_
    refine ru_iload d_Lw_law_605 rfl ?_
    refine ru_bipush (v := 8) d_Lw_law_607 (by decide) ?_
    refine ru_iadd d_Lw_law_609 ?_
    refine ru_eqi (nm_add i 8 : _ = nI (i + 8)) ?_
    refine ru_sldS (i := (i + 8)) d_Lw_law_610 hS1 (by omega) (by omega) ?_
    refine ru_i2l d_Lw_law_611 ?_
    refine ru_bipush (v := 32) d_Lw_law_612 (by decide) ?_
    refine ru_lshl d_Lw_law_614 ?_
    refine ru_aload_n d_Lw_law_615 rfl rfl ?_
    refine ru_iload d_Lw_law_616 rfl ?_
    refine ru_bipush (v := 9) d_Lw_law_618 (by decide) ?_
    refine ru_iadd d_Lw_law_620 ?_
    refine ru_eqi (nm_add i 9 : _ = nI (i + 9)) ?_
    refine ru_sldS (i := (i + 9)) d_Lw_law_621 hS1 (by omega) (by omega) ?_
    refine ru_i2l d_Lw_law_622 ?_
    refine ru_ldc2 d_Lw_law_623 lc_Lw_74 ?_
    refine ru_land d_Lw_law_626 ?_
    refine ru_lor d_Lw_law_627 ?_
    refine ru_mcs (Nat.zero_add _).symm (Nat.zero_add _).symm ?_
    refine ru_callV (mc := _) (ms := _) d_Lw_law_628 lm_Lw_79 (sp_Mo_shape0 hL1 q) (rx_recv_is (ly hL1 398 9 0) kx_Mo) (by decide) rfl (Nat.le_of_ble_eq_true rfl) ?_
    rintro v τ ⟨rfl, rfl⟩
    have h2 := h1.f0 (k := 0) 1
    have hL2 := h2.1
    have hS2 := h2.2.1
    refine ru_istore d_Lw_law_631 (by decide) ?_
    refine ru_aload_n d_Lw_law_633 rfl rfl ?_
    refine ru_mcs (Nat.zero_add _).symm (Nat.zero_add _).symm ?_
    refine ru_callV (mc := _) (ms := _) d_Lw_law_634 lm_Lw_55 (sp_Mo_thrown hL2) (rx_recv_is (ly hL2 398 9 0) kx_Mo) (by decide) rfl (Nat.le_of_ble_eq_true rfl) ?_
    rintro v τ ⟨rfl, rfl⟩
    rw [rx_u_same]
    refine ru_iload d_Lw_law_637 rfl ?_
    refine ru_icmp_eq (tgt := 644) d_Lw_law_639 (by decide) (fun h639 => ?_) (fun h639 => absurd h639 (by decide))
    refine ru_iload d_Lw_law_644 rfl ?_
    refine ru_if_ne (tgt := 668) d_Lw_law_646 (by decide) (fun h646 => ?_) (fun h646 => absurd h646 (by decide))
    refine ru_goto (tgt := 900) d_Lw_law_668 (by decide) ?_
    exact ru_to (ru_less (by omega) (by omega) (k _ _ _ _ _ _ _ _ _ _ _ _ _ _ h2)) ⟨rfl, rfl, rfl, rfl, rfl, trivial⟩
end
