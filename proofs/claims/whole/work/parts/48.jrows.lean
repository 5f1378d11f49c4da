/-! ROWS: a wide constant; bytes copied -/
theorem rx_acn : Cond.native arraycopyName ∈ rx_TB := (rx_in (tm_4 (List.mem_of_getElem? (i := 89) rfl)) rfl)
theorem rx_acs : Cond.static arraycopyName ∈ rx_TB := (rx_in (tm_4 (List.mem_of_getElem? (i := 88) rfl)) rfl)
theorem rx_aci : Cond.initialized "java/lang/System" ∈ rx_TB := (rx_in (tm_1 (List.mem_of_getElem? (i := 28) rfl)) rfl)
theorem ac_Ar_150 : Cond.methodLink "java/util/Arrays" 150 arraycopyName ∈ rx_TB := (rx_in (tm_4 (List.mem_of_getElem? (i := 87) rfl)) rfl)
theorem ac_St_212 : Cond.methodLink "java/lang/String" 212 arraycopyName ∈ rx_TB := (rx_in (tm_4 (List.mem_of_getElem? (i := 143) rfl)) rfl)
section
variable {M : rx_M} {d mc ms pc ix : Nat} {lo : List (Nat × Value)} {st : List Value} {σ : rx_S} {nx : Nat} {ct : Nat → Nat × Nat} {mi : Nat → Nat → Int32} {ml : Nat → Nat → Int64} {mr : Nat → Nat → Option Nat} {post : rx_End}
theorem ru_ldcw {v : Int32} (hd : decode M.2.1 pc = .ok (.ldc_w ix, 3)) (hw : Cond.constant M.1 ix v ∈ rx_TB) (k : rx_W M d mc ms (pc + 3) lo (.int v :: st) σ post) : rx_W M d mc ms pc lo st σ post := by
  intro l ev p e s m args below meth c C R H locs cells slots mt sst ls A
  exact lv_ldcw C.1 C.2.1 C.2.2.2.1 (C.2.2.2.2.1 _ hw) hd (k l ev p e s m args below meth c C R H locs cells slots mt sst ls A)
/-- bytes that stand at r -/
def rx_src (σ : rx_S) (r n : Nat) (f : Nat → Int32) : Prop := ∀ (ev : rx_E) (s : State) (H : Heap), rx_Ok ev s → rx_R ev σ H → ∃ (cs : Cell) (k : Class) (cm : ClassId), H[rx_ea ev r]? = some cs ∧ (∀ q, cs.vm ≠ .statics q) ∧ cs.vm ≠ .unknown ∧ s.vm.classes[cs.cls]? = some k ∧ k.kind = .array cm .byte ∧ n ≤ cs.slots.size ∧ ∀ j : Nat, j < n → cs.slots[j]? = some (.int (f j))
theorem tx_src {s : Nat} (hs : s < 61) : rx_src σ (100 + s) (rx_sl s) (rx_sb s) := by
  intro ev U H hOk hR
  obtain ⟨-, -, -, scr, h1, ⟨h6, k0, hk0, cm0, hkk0⟩, h3, h4, -, h5, h7⟩ := hOk.2.2.2.2.2.1 s hs
  exact ⟨scr, k0, cm0, by rw [hR.2.2.1 _ ((Array.getElem?_eq_some_iff.mp h1).1)]; exact h1, h6, h3, hk0, hkk0, h4, h5⟩
theorem ar_src {r n : Nat} (hi : rx_is (nx, ct, mi, ml, mr) r 103 n) : rx_src (nx, ct, mi, ml, mr) r n (mi r) := by
  intro ev U H hOk hR
  have hP : H[rx_ea ev r]? = some (vp_cell (ev.2.1 103) (n, .inl (mi r))) := hR.ar hi (by decide)
  obtain ⟨-, k0, hk0, cm0, hkk0⟩ := (hOk.1.2 3 _ rfl).1 n (fun j => .int (mi r j))
  refine ⟨_, k0, cm0, hP, (fun _ h => by cases h), (fun h => by cases h), hk0, hkk0, Nat.le_of_eq (arrV_size _ _ _).symm, fun j hj => ?_⟩
  show (arrV _ n (fun j => .int (mi r j))).slots[j]? = _
  rw [arrV_read _ _ hj]
theorem ru_acopy {r0 r1 n0 n1 sp dp n : Nat} {f : Nat → Int32} (hd : decode M.2.1 pc = .ok (.invokestatic ix, 3)) (hl : Cond.methodLink M.1 ix arraycopyName ∈ rx_TB) (hsrc : rx_src (nx, ct, mi, ml, mr) r0 n0 f) (hi : rx_is (nx, ct, mi, ml, mr) r1 103 n1) (h4 : sp + n ≤ n0) (h5 : dp + n ≤ n1) (hn0 : n0 < 2 ^ 31) (hn1 : n1 < 2 ^ 31) (hfit : ∀ i, i < n → fits .byte (.int (f (sp + i))) = true) (hdd : 1 ≤ d) (hcat : (st.map fun v => v.category).sum ≤ 8)
    (kk : rx_W M d mc ms (pc + 3) lo st (nx, ct, va_up mi r1 (va_cpy f (mi r1) sp dp n), ml, mr) post) : rx_W M d mc ms pc lo (.int (nI n) :: .int (nI dp) :: .ref r1 :: .int (nI sp) :: .ref r0 :: st) (nx, ct, mi, ml, mr) post := by
  intro l ev p e s m args below meth c C R H locs cells slots mt sst ls A
  have hts := C.2.2.2.2.1
  have hOk := C.2.2.2.2.2.2.2.2.1
  obtain ⟨cs, k0, cm0, c1, c2, c3, c4, c5, c6, c7⟩ := hsrc ev s H hOk A.2.2.1
  have hP : H[rx_ea ev r1]? = some (vp_cell (ev.2.1 103) (n1, .inl (mi r1))) := A.2.2.1.ar hi (by decide)
  obtain ⟨-, k1, hk1, cm1, hkk1⟩ := (hOk.1.2 3 _ rfl).1 n1 (fun j => .int (mi r1 j))
  intro T hT X
  have hwords : nativeFrameWords "java/lang/System" "arraycopy" 5 ≤ 20 := by decide +kernel
  have hcat2 : ((st.map (rx_tv ev)).map fun v => v.category).sum ≤ 8 := by rw [rx_cats]; exact hcat
  have hfr := A.1
  have hlo := A.2.1
  obtain ⟨vm', X', step⟩ := X.arraycopy C.1 C.2.2.2.1 (hts _ hl) (hts _ rx_acn) (hts _ rx_acs) (hts _ rx_aci) (src := rx_ea ev r0) (dst := rx_ea ev r1) (cs := cs) (cd := vp_cell (ev.2.1 103) (n1, .inl (mi r1))) (srcPos := nI sp) (destPos := nI dp) (n := nI n) (by rw [hT]; exact c1) (by rw [hT]; exact hP)
    c2 (fun _ h => by cases h) c3 (fun h => by cases h) c4 hk1 c5 hkk1 (by simp [refKind]) (nI_pos (by omega)) (nI_pos (by omega)) (nI_pos (by omega))
    (by rw [nI_toInt (by omega), nI_toInt (by omega)]; omega)
    (by rw [nI_toInt (by omega), nI_toInt (by omega)]; show ¬ _ > ((arrV _ n1 (fun j => .int (mi r1 j))).slots.size : Int); rw [arrV_size]; omega)
    (fun vm1 _ i hi2 => by
      rw [nI_clamp (by omega)] at hi2
      rw [nI_clamp (by omega)]
      have e2 : cs.slots.getD (sp + i) .null = .int (f (sp + i)) := by
        rw [Array.getD_eq_getD_getElem?, c7 _ (by omega)]
        rfl
      rw [e2]
      exact ⟨hfit i hi2, trivial⟩)
    (g := F0 m pc ls (.int (nI n) :: .int (nI dp) :: .ref (rx_ea ev r1) :: .int (nI sp) :: .ref (rx_ea ev r0) :: st.map (rx_tv ev))) rfl (by rw [C.2.2.1]; exact A.2.2.2.1.1) (rest := st.map (rx_tv ev)) rfl (by rw [C.2.1]; exact hd) (by omega) (by show 2 * 0 + _ + _ ≤ _; omega)
  have e1 : copied cs (vp_cell (ev.2.1 103) (n1, .inl (mi r1))) (nI sp) (nI dp) (nI n) = vp_cell (ev.2.1 103) (n1, .inl (va_cpy f (mi r1) sp dp n)) := by
    have z := va_copiedX (fun z => Value.int z) cs (ev.2.1 103) (n0 := n0) (n1 := n1) (sp := sp) (dp := dp) (n := n) f (mi r1) c7 h4
    unfold copied
    rw [nI_clamp (by omega), nI_clamp (by omega), nI_clamp (by omega)]
    exact z
  rw [e1] at X' step
  have hlt : rx_ea ev r1 < H.size := (Array.getElem?_eq_some_iff.mp hP).1
  have hheap : ((T.setVm vm').setCell (rx_ea ev r1) (vp_cell (ev.2.1 103) (n1, .inl (va_cpy f (mi r1) sp dp n)))).heap = H.setIfInBounds (rx_ea ev r1) (vp_cell (ev.2.1 103) (n1, .inl (va_cpy f (mi r1) sp dp n))) := by rw [← hT]; rfl
  have oq : ∀ q : Nat, q ≠ rx_ea ev r1 → (H.setIfInBounds (rx_ea ev r1) (vp_cell (ev.2.1 103) (n1, .inl (va_cpy f (mi r1) sp dp n))))[q]? = H[q]? := fun q hq => by simp [Array.getElem?_setIfInBounds, Ne.symm hq]
  have oe : (H.setIfInBounds (rx_ea ev r1) (vp_cell (ev.2.1 103) (n1, .inl (va_cpy f (mi r1) sp dp n))))[rx_ea ev r1]? = some (vp_cell (ev.2.1 103) (n1, .inl (va_cpy f (mi r1) sp dp n))) := by simp [Array.getElem?_setIfInBounds, hlt]
  obtain ⟨a1, a2, a3, a4, a5, a6⟩ := A
  have K := kk l ev p e s m args below meth c C R (H.setIfInBounds (rx_ea ev r1) (vp_cell (ev.2.1 103) (n1, .inl (va_cpy f (mi r1) sp dp n)))) (locs ++ (cs.stretch (nI sp).toNatClampNeg (nI n).toNatClampNeg).zipIdx.map fun q => ⟨rx_ea ev r1, (nI dp).toNatClampNeg + q.2⟩) cells slots mt sst ls ⟨a1, a2, ?_, a4, ?_, a6⟩
  · obtain ⟨t, b1, b2⟩ := K _ hheap X'
    exact ⟨t, step t b1, b2⟩
  · refine a3.upd (r := r1) hi.1 hi.2.1 rfl (by simp) oq (fun q hq => ⟨rfl, va_up_ne _ _ hq, rfl, rfl⟩) ⟨fun ci' n' e' h9 => ?_, fun tg n' e' _ => ?_, ⟨_, oe, rfl⟩⟩
    · have e2 : ci' = 103 := congrArg Prod.fst (e'.symm.trans hi.2.2)
      omega
    · have e2 : (103, n1) = (tg, n') := hi.2.2.symm.trans e'
      cases e2
      rw [oe]
      show some _ = some (vp_cell _ (n1, .inl (va_up mi r1 (va_cpy f (mi r1) sp dp n) r1)))
      rw [show va_up mi r1 (va_cpy f (mi r1) sp dp n) r1 = va_cpy f (mi r1) sp dp n by simp [va_up]]
  · intro q hq
    rcases List.mem_append.mp hq with h | h
    · exact a5 q h
    · obtain ⟨z, -, hz⟩ := List.mem_map.mp h
      rw [← hz]
      show _ ≤ rx_ea ev r1
      rw [rx_ea_in hi.1]
      omega
end
