/-! The law: what holds between two calls -/
abbrev M_Lw_law : String × ByteArray × Nat × Option FieldType × String × List (Nat × Nat × Nat × Nat) := ("RuleTextLaw", code, 8, some .boolean, "law", [])
section
variable {M : rx_M} {d mc ms pc : Nat} {lo : List (Nat × Value)} {st : List Value} {σ : rx_S} {nx : Nat} {ct : Nat → Nat × Nat} {mi : Nat → Nat → Int32} {ml : Nat → Nat → Int64} {mr : Nat → Nat → Option Nat} {post : rx_End}
theorem ru_less {mc' ms' : Nat} (h1 : mc' ≤ mc) (h2 : ms' ≤ ms) (k : rx_W M d mc' ms' pc lo st σ post) : rx_W M d mc ms pc lo st σ post := by
  intro l ev p e s m args below meth c C R H locs cells slots mt sst ls A
  obtain ⟨a1, a2, a3, a4, a5, a6, a7, a8, a9⟩ := A
  exact k l ev p e s m args below meth c C R H locs cells slots mt sst ls ⟨a1, a2, a3, a4, a5, by omega, by omega, a8, a9⟩
theorem ru_sldS {L i : Nat} {scr : Nat → Int32} (hd : decode M.2.1 pc = .ok (.iaload, 1)) (hS : ct 0 = (100, L) ∧ mi 0 = scr) (hi : i < L) (hN : L < 2 ^ 31) (k : rx_W M d mc ms (pc + 1) lo (.int (scr i) :: st) (nx, ct, mi, ml, mr) post) : rx_W M d mc ms pc lo (.int (nI i) :: .ref 0 :: st) (nx, ct, mi, ml, mr) post := by
  refine ru_sld hd hS.1 hi hN ?_
  rw [hS.2]
  exact k
end
/-- what holds between two calls: the class and the reference hold the same -/
def INV (Len : Nat) (scr : Nat → Int32) (N : nmS) (n : Nat) (t : Nat → Int32) (b b' : Nat) (L : List ruS) (vb : Nat) (lb : List Int32) (c : Nat) (nx : Nat) (ct : Nat → Nat × Nat) (mi : Nat → Nat → Int32) (ml : Nat → Nat → Int64) (mr : Nat → Nat → Option Nat) : Prop :=
  LAY nx ct mr ∧ (ct 0 = (100, Len) ∧ mi 0 = scr) ∧ ((mr 256 5 = some b ∧ mr 256 6 = some b') ∧ isLst b ∧ isLst b' ∧ b ≠ b') ∧ (TxC n t mi ∧ mi 398 2 = nI n ∧ mi 399 = t ∧ ∀ i, i < n → isTC (t i)) ∧ (NmC N mi ∧ NmM N mi ∧ NmOK N) ∧ (LsI mi ml mr b L ∧ mi 398 7 = nI L.length ∧ roE ml L) ∧ shE mi ml ∧ (SbI nx ct mi mr vb lb c ∧ c ≤ 17400 ∧ (mi 256 7 = 0 → lb = wAll N L))
/-- the ints that count -/
def relI (b vb r k : Nat) : Prop := r = 0 ∨ (r = 256 ∧ k = 7) ∨ r = 258 ∨ r = 259 ∨ r = 261 ∨ (r = 266 ∧ k = 1) ∨ r = 267 ∨ r = 272 ∨ r = vb ∨ (b ≤ r ∧ r < b + 62) ∨ (r = 398 ∧ (k = 2 ∨ k = 7)) ∨ r = 399 ∨ r = 400 ∨ r = 401 ∨ r = 402
def relL (b r k : Nat) : Prop := (262 ≤ r ∧ r ≤ 265) ∨ r = 403 ∨ (r = 404 ∧ k < 720) ∨ (b ≤ r ∧ r < b + 62)
def relR (b r : Nat) : Prop := r = 256 ∨ r = 272 ∨ (b ≤ r ∧ r < b + 62)
section
variable {Len : Nat} {scr : Nat → Int32} {N : nmS} {n : Nat} {t : Nat → Int32} {b b' : Nat} {L : List ruS} {vb : Nat} {lb : List Int32} {c : Nat} {nx nx' : Nat} {ct ct' : Nat → Nat × Nat} {mi mi' : Nat → Nat → Int32} {ml ml' : Nat → Nat → Int64} {mr mr' : Nat → Nat → Option Nat}
theorem clI.pt {r : Nat} {q : ruS} (h : clI mi ml mr r q) (h1 : ∀ k, mi' r k = mi r k) (h2 : ∀ k, ml' r k = ml r k) (h3 : ∀ k, mr' r k = mr r k) : clI mi' ml' mr' r q := h.of (funext h1) (funext h2) (funext h3)
theorem rowI.pt {i : Nat} {q : ruS} (hi : i < 60) (h : rowI ml (12 * i) q) (h2 : ∀ k, k < 720 → ml' 404 k = ml 404 k) : rowI ml' (12 * i) q := h.copy (fun x hx => h2 _ (by omega))
theorem INV.same (h : INV Len scr N n t b b' L vb lb c nx ct mi ml mr) (hx : nx ≤ nx') (hL : LAY nx' ct' mr') (hc : ∀ r, r = 0 ∨ r = vb → ct' r = ct r) (hi : ∀ r k, relI b vb r k → mi' r k = mi r k) (hl : ∀ r k, relL b r k → ml' r k = ml r k) (hr : ∀ r k, relR b r → mr' r k = mr r k) : INV Len scr N n t b b' L vb lb c nx' ct' mi' ml' mr' := by
  obtain ⟨h1, ⟨h2, h3⟩, ⟨⟨h4, h5⟩, h6, h7, h8⟩, ⟨⟨h9, h10, h11⟩, h12, h13, h14⟩, ⟨h15, h16, h17⟩, ⟨⟨h18, h19, h20⟩, h21, h22⟩, ⟨h23, h24⟩, ⟨h25, h26, h27⟩⟩ := h
  have hb : b = 274 ∨ b = 336 := h6
  refine ⟨hL, ⟨(hc 0 (Or.inl rfl)).trans h2, ?_⟩, ⟨⟨(hr 256 5 (Or.inl rfl)).trans h4, (hr 256 6 (Or.inl rfl)).trans h5⟩, h6, h7, h8⟩, ⟨⟨?_, ?_, h11⟩, ?_, ?_, h14⟩, ⟨?_, ?_, h17⟩, ⟨⟨?_, h19, fun i q hq => ⟨?_, (h20 i q hq).2⟩⟩, ?_, fun i q hq => ⟨?_, (h22 i q hq).2⟩⟩, ⟨fun x hx => ?_, fun x hx => ?_⟩, ?_, h26, fun z => ?_⟩
  · funext k; rw [hi 0 k (by unfold relI; omega), h3]
  · rw [hi 266 1 (by unfold relI; omega)]; exact h9
  · funext k; rw [hi 267 k (by unfold relI; omega), h10]
  · rw [hi 398 2 (by unfold relI; omega)]; exact h12
  · funext k; rw [hi 399 k (by unfold relI; omega), h13]
  · intro k hk
    obtain ⟨a1, a2, a3⟩ := h15 k hk
    exact ⟨(hi 259 k (by unfold relI; omega)).trans a1, a2, fun i hi2 => (hi 258 _ (by unfold relI; omega)).trans (a3 i hi2)⟩
  · intro k hk
    obtain ⟨a1, a2, a3⟩ := h16 k hk
    exact ⟨(hi 400 k (by unfold relI; omega)).trans a1, a2, fun i hi2 => (hi 401 _ (by unfold relI; omega)).trans (a3 i hi2)⟩
  · rw [hi b 1 (by unfold relI; omega)]; exact h18
  · have hq2 : i < L.length := (List.getElem?_eq_some_iff.mp hq).1
    exact (h20 i q hq).1.pt (fun k => hi _ k (by unfold relI; omega)) (fun k => hl _ k (by unfold relL; omega)) (fun k => hr _ k (by unfold relR; omega))
  · rw [hi 398 7 (by unfold relI; omega)]; exact h21
  · have hq2 : i < L.length := (List.getElem?_eq_some_iff.mp hq).1
    exact (h22 i q hq).1.pt (by omega) (fun k hk => hl 404 k (by unfold relL; omega))
  · rw [hi 402 x (by unfold relI; omega), hi 261 x (by unfold relI; omega)]; exact h23 x hx
  · obtain ⟨a1, a2, a3, a4⟩ := h24 x hx
    rw [hl 403 _ (by unfold relL; omega), hl 403 _ (by unfold relL; omega), hl 403 _ (by unfold relL; omega), hl 403 _ (by unfold relL; omega), hl 262 _ (by unfold relL; omega), hl 263 _ (by unfold relL; omega), hl 264 _ (by unfold relL; omega), hl 265 _ (by unfold relL; omega)]
    exact ⟨a1, a2, a3, a4⟩
  · obtain ⟨s1, s2, s3, s4, s5, s6, s7, s8, s9, s10⟩ := h25
    exact ⟨(hr 272 0 (by unfold relR; omega)).trans s1, s2, by omega, (hc vb (Or.inr rfl)).trans s4, (hi 272 1 (by unfold relI; omega)).trans s5, (hi 272 3 (by unfold relI; omega)).trans s6, s7, s8, fun i x hx => (hi vb i (by unfold relI; omega)).trans (s9 i x hx), fun i hi2 => by rw [hi vb i (by unfold relI; omega)]; exact s10 i hi2⟩
  · exact h27 (by rw [← hi 256 7 (by unfold relI; omega)]; exact z)
theorem INV.vb_ (h : INV Len scr N n t b b' L vb lb c nx ct mi ml mr) : vb = 273 ∨ 409 ≤ vb := h.2.2.2.2.2.2.2.1.2.1
theorem INV.bb (h : INV Len scr N n t b b' L vb lb c nx ct mi ml mr) : (b = 274 ∨ b = 336) ∧ (b' = 274 ∨ b' = 336) ∧ b ≠ b' := h.2.2.1.2
theorem INV.f0 {k : Nat} (v : Int32) (h : INV Len scr N n t b b' L vb lb c nx ct mi ml mr) (h2 : k ≠ 2 := by decide) (h7 : k ≠ 7 := by decide) : INV Len scr N n t b b' L vb lb c nx ct (rx_u mi 398 k v) ml mr := by
  have a1 := h.vb_
  have a2 := h.bb
  refine h.same (Nat.le_refl _) h.1 (fun _ _ => rfl) (fun r j hr => ?_) (fun _ _ _ => rfl) (fun _ _ _ => rfl)
  by_cases q : r = 398
  · subst q
    unfold relI at hr
    exact rx_u_k _ _ (by omega)
  · rw [rx_u_r _ _ q]
theorem INV.o {k : Nat} (v : Int64) (h : INV Len scr N n t b b' L vb lb c nx ct mi ml mr) : INV Len scr N n t b b' L vb lb c nx ct mi (rx_u ml 408 k v) mr := by
  have a2 := h.bb
  refine h.same (Nat.le_refl _) h.1 (fun _ _ => rfl) (fun _ _ _ => rfl) (fun r j hr => ?_) (fun _ _ _ => rfl)
  unfold relL at hr
  rw [rx_u_r _ _ (by omega)]
theorem INV.nx_ (h : INV Len scr N n t b b' L vb lb c nx ct mi ml mr) : 409 ≤ nx ∧ vb < nx := ⟨h.1.1, h.2.2.2.2.2.2.2.1.2.2.1⟩
theorem INV.new {tg len : Nat} (h : INV Len scr N n t b b' L vb lb c nx ct mi ml mr) : INV Len scr N n t b b' L vb lb c (nx + 1) (va_up ct nx (tg, len)) (va_up mi nx (fun _ => 0)) (va_up ml nx (fun _ => 0)) (va_up mr nx (fun _ => none)) := by
  have a0 := h.nx_
  have a1 := h.vb_
  have a2 := h.bb
  refine h.same (Nat.le_succ _) (h.1.grow tg len _) (fun r hr => va_up_ne _ _ (by omega)) (fun r j hr => ?_) (fun r j hr => ?_) (fun r j hr => ?_)
  · unfold relI at hr; rw [va_up_ne _ _ (by omega)]
  · unfold relL at hr; rw [va_up_ne _ _ (by omega)]
  · unfold relR at hr; rw [va_up_ne _ _ (by omega)]
end
