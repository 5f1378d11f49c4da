/-! THROWS: pure calls, a new exception thrown, a call that throws, the catch -/
section
variable {M M' : rx_M} {y : MethodName} {d d1 mc ms pc ix r : Nat} {lo : List (Nat × Value)} {st stk as : List Value} {σ : rx_S} {post : rx_End} {nx : Nat} {ct : Nat → Nat × Nat} {mi : Nat → Nat → Int32} {ml : Nat → Nat → Int64} {mr : Nat → Nat → Option Nat}
theorem rx_enterP {post : Option Value → Prop} (hy : plainFor y = true) (hM : y.cls = M.1) (hnm : y.name = M.2.2.2.2.1) (hn : (lg_sl as).length ≤ M.2.2.1) (k : rx_V M d 0 0 0 (lv_args 0 as) [] σ (pP post)) (hh : M.2.2.2.2.2 = [] := by rfl) : rx_Pure y M d as σ post := by
  intro l htr ev
  refine va_MetF (cc := M.2.1) (maxL := M.2.2.1) (ret := M.2.2.2.1) hy rfl ?_
  intro p e s m args below meth c s₁ B hml hv
  obtain ⟨rfl, hR, hOk⟩ := hv
  have hts := atoms_spec (ws := rx_ws y M) B.pre
  have hown : s.vm.findClass M.1 = some m.cls := by rw [← hM]; exact findClass_of_methodNamed B.named
  have htab : c.exceptionTable.toList.map (fun h => (h.startPc, h.endPc, h.handlerPc, h.catchType)) = M.2.2.2.2.2 := by
    have h1 := BodyLoose.noHandlers B (hts _ List.mem_cons_self)
    rw [hh]
    simp [Array.isEmpty_iff.mp h1]
  have hl := lv_entry (as.map (rx_tv ev)) (n := M.2.2.1) (by rw [rx_sl_map]; exact hn)
  rw [lg_entry_eq]
  generalize (lg_sl (as.map (rx_tv ev)) ++ List.replicate (M.2.2.1 - (lg_sl (as.map (rx_tv ev))).length) Slot.unset).toArray = ls at hl ⊢
  rw [rx_args_map] at hl
  refine k l ev p e s m _ below meth c ⟨B.exec, B.bytes, hml, hown, fun w h => hts w (List.mem_cons_of_mem _ h), B.returns, B.notSynchronized, (name_of_methodNamed B.named B.method).1.trans hnm, hOk, ⟨?_, hR.2.2.1⟩, htr, hR.ns, htab⟩ _ 0 0 ls ⟨Nat.le_refl _, Nat.le_refl _, hR, hl, (fun q h => by cases h), by omega, by omega, Nat.le_refl _, Nat.le_refl _⟩
  rw [hR.2.1]
  omega
theorem rx_Pure.calls {post : Option Value → Prop} (h : rx_Pure y M d as σ post) : rx_Calls y M d 0 0 as σ (fun v τ => post v ∧ τ = σ) := by
  intro l htr ev
  intro p e ha hc hk s m args below hf happ hP hK
  obtain ⟨n, o, h1, h2, h3, ⟨v, hv, hp, hh⟩, L, hF, hL⟩ := h l htr ev p e ha hc hk s m args below hf happ hP hK
  exact ⟨n, o, h1, h2, h3, ⟨v, σ, hv, ⟨hp, rfl⟩, by rw [hh]; exact hP.2.1⟩, L, hF, fun q hq => (hL q hq).elim⟩
theorem rv_get {ci k n : Nat} {v : Value} (hd : decode M.2.1 pc = .ok (.getfield ix, 3)) (hF : rx_F M.1 ix ci k) (hi : rx_is (nx, ct, mi, ml, mr) r ci n) (hv : ∀ ev, rx_fv ev mi ml mr r (rx_ty ci k) k = rx_tv ev v) (kk : rx_V M d mc ms (pc + 3) lo (v :: st) (nx, ct, mi, ml, mr) post) : rx_V M d mc ms pc lo (.ref r :: st) (nx, ct, mi, ml, mr) post := by
  intro l ev p e s m args below meth c C R mt sst ls A
  obtain ⟨q, hc, hk, hlk⟩ := hF
  obtain ⟨cell, q1, q2, q3, q4⟩ := A.2.2.1.ob hi hc
  have hOk := C.2.2.2.2.2.2.2.2.1
  obtain ⟨hS, hfc, kC, hkC, hkind⟩ := hOk.1.1 ci _ hc.1
  obtain ⟨cf, kf, fi, f, hfi, hsl⟩ := hS k hk
  have hsv : cell.slots[f.slot]? = some (rx_tv ev v) := by rw [hsl, q4 k hk]; exact congrArg some (hv ev)
  have hst := (u_facts hfc hkC (u_lays C.2.2.2.2.1 hc.2.2.1 hk) hfi).1
  have hkn : cell.vm ≠ .unknown := by rw [q3]; exact fun h => by cases h
  have K := kk l ev p e s m args below meth c C R mt sst ls A
  rcases hlk with h | ⟨host, h⟩
  · exact W.getf C.1 C.2.1 C.2.2.2.1 (C.2.2.2.2.1 _ h) hfi hst q1 hkn (v := rx_tv ev v) hsv rfl rfl hd K
  · exact va_Wgetf C.1 C.2.1 C.2.2.2.1 (va_Nw.use rfl (hOk.2.1 _ h)) hfi hst q1 hkn (v := rx_tv ev v) hsv rfl rfl hd K
theorem rv_getI {ci k n : Nat} (hd : decode M.2.1 pc = .ok (.getfield ix, 3)) (hF : rx_F M.1 ix ci k) (hi : rx_is (nx, ct, mi, ml, mr) r ci n) (hk : rx_kd (rx_ty ci k) = 0) (kk : rx_V M d mc ms (pc + 3) lo (.int (mi r k) :: st) (nx, ct, mi, ml, mr) post) : rx_V M d mc ms pc lo (.ref r :: st) (nx, ct, mi, ml, mr) post :=
  rv_get hd hF hi (fun _ => rx_fv_i hk) kk
theorem rv_getL {ci k n : Nat} (hd : decode M.2.1 pc = .ok (.getfield ix, 3)) (hF : rx_F M.1 ix ci k) (hi : rx_is (nx, ct, mi, ml, mr) r ci n) (hk : rx_kd (rx_ty ci k) = 1) (kk : rx_V M d mc ms (pc + 3) lo (.long (ml r k) :: st) (nx, ct, mi, ml, mr) post) : rx_V M d mc ms pc lo (.ref r :: st) (nx, ct, mi, ml, mr) post :=
  rv_get hd hF hi (fun _ => rx_fv_l hk) kk
theorem rv_getR {ci k n a : Nat} (hd : decode M.2.1 pc = .ok (.getfield ix, 3)) (hF : rx_F M.1 ix ci k) (hi : rx_is (nx, ct, mi, ml, mr) r ci n) (hk : rx_kd (rx_ty ci k) = 2) (ha : mr r k = some a) (kk : rx_V M d mc ms (pc + 3) lo (.ref a :: st) (nx, ct, mi, ml, mr) post) : rx_V M d mc ms pc lo (.ref r :: st) (nx, ct, mi, ml, mr) post :=
  rv_get hd hF hi (fun _ => by rw [rx_fv_r hk, ha]; rfl) kk
theorem rv_callV {post1 : Option Value → Prop} (hd : decode M.2.1 pc = .ok (.invokevirtual ix, 3)) (hL : rx_LV M.1 ix y M' as.length) (hc : rx_Pure y M' d1 (.ref r :: as) σ post1) (hv : rx_recv σ r y.cls) (hdd : d1 + 1 ≤ d) (hstk : stk = as.reverse ++ .ref r :: st) (hcat : (st.map fun v => v.category).sum ≤ 8)
    (k : ∀ v, post1 v → rx_V M d mc ms (pc + 3) lo (v.toList ++ st) σ post) : rx_V M d mc ms pc lo stk σ post := by
  intro l ev p e s m args below meth c C R mt sst ls A
  obtain ⟨⟨w1, w2, w3, w4, w5, w6⟩, w7, w8⟩ := hL
  have A' := A
  obtain ⟨a1, a2, a3, a4, a5, a6, a7, a8, a9⟩ := A
  have hts := C.2.2.2.2.1
  have hOk := C.2.2.2.2.2.2.2.2.1
  have hws := pay_in hts (rx_goodIn (y := y) (M := M') w1)
  have hlen : ∀ sig, parseMethodDescriptor y.desc = some sig → as.length = sig.parameters.length := fun sig h => by
    rw [h] at w4
    exact (Option.some.inj w4).symm
  have hpre : PreV s s.heap y.cls (rx_ea ev r) (rx_P ev (.ref r :: as) σ) (as.map (rx_tv ev)) := ⟨rx_blind _ _ _, hv ev s s.heap hOk a3, fun U hU hW => ⟨rfl, by rw [hU]; exact a3, rx_Ok_warm hW hOk⟩⟩
  have hst : (F0 m pc ls (stk.map (rx_tv ev))).stack = (as.map (rx_tv ev)).reverse ++ .ref (rx_ea ev r) :: st.map (rx_tv ev) := by
    show stk.map (rx_tv ev) = _
    rw [hstk, List.map_append, List.map_reverse]
    rfl
  have hroom : 2 * (F0 m pc ls (stk.map (rx_tv ev))).monitorRoom + ((st.map (rx_tv ev)).map fun v => v.category).sum ≤ 8 := lv_room (by rw [rx_cats]; exact hcat)
  have fin : va_Run p l e R s m args below meth c s.heap [] 0 0 0 0 (F0 m pc ls (stk.map (rx_tv ev))) (st.map (rx_tv ev)) ((fun (_ : Array Value) (st : State) (o : Outcome) (t : State) => ∃ v : Option Value, o = .returned (v.map (rx_tv ev)) ∧ post1 v ∧ t.heap = st.heap) (Value.ref (rx_ea ev r) :: as.map (rx_tv ev)).toArray) (fun _ => False) → W p l e R s m args below meth c s.heap [] 0 0 (post below ev args s mt sst) (F0 m pc ls (stk.map (rx_tv ev))) := by
    intro hr T hT X
    obtain ⟨v, st₀, t, T', L, h0, X', hL, e1, e2, ⟨v', hv', hp, hh⟩, stp⟩ := hr T hT X
    cases hv'
    have K := k v' hp l ev p e s m args below meth c C R mt sst ls A'
    rw [rx_toList] at K
    obtain ⟨t2, b1, b2⟩ := K T' (by rw [e1, hh, h0]) (Stand.forget X' (fun q h => (hL q h).elim))
    exact ⟨t2, stp t2 b1, b2⟩
  rcases w6 with w6 | ⟨host, w6⟩
  · exact fin (va_runV ⟨C.1, C.2.1, C.2.2.1, C.2.2.2.1, hts⟩ (hc l C.2.2.2.2.2.2.2.2.2.2.1 ev) ⟨⟨rfl, rfl, by show d1 + 1 ≤ _; omega, by show 8 + (M'.2.2.1 + 11) + 40 * d1 ≤ _; omega, hws, List.mem_cons_self, hts _ w1, hts _ w2, w3, hlen, hts _ w6⟩, hts _ w7, hts _ w8⟩ hpre rfl (List.length_map _) a4.1 hst hroom hd ⟨by omega, by omega⟩)
  · exact fin (va_runVN ⟨C.1, C.2.1, C.2.2.1, C.2.2.2.1, hts⟩ (hc l C.2.2.2.2.2.2.2.2.2.2.1 ev) ⟨⟨⟨rfl, rfl, by show d1 + 1 ≤ _; omega, by show 8 + (M'.2.2.1 + 11) + 40 * d1 ≤ _; omega, hws, List.mem_cons_self⟩, hts _ w1, hts _ w2, w3, hlen, va_Nw.use rfl (hOk.2.1 _ w6)⟩, hts _ w7, hts _ w8⟩ hpre rfl (List.length_map _) a4.1 hst hroom hd ⟨by omega, by omega⟩)
end
/-- it throws so -/
def rx_QT (ev : rx_E) (f : Nat → rx_S → Prop) (mc ms : Nat) : Array Value → State → Outcome → State → Prop := fun _ st o t => ∃ (x : Nat) (τ : rx_S), o = .threw (rx_ea ev x) ∧ f x τ ∧ 256 ≤ x ∧ x < τ.1 ∧ rx_R ev τ t.heap ∧ st.WarmedH t.vm ∧ (∃ ce : Cell, t.heap[rx_ea ev x]? = some ce ∧ ce.vm = .none ∧ st.vm.findClass "java/lang/IndexOutOfBoundsException" = some ce.cls) ∧ ∃ L : List Loc, st.sameButNew ({ t with vm := st.vm } : State) L mc ms ∧ ∀ q ∈ L, ev.2.2.2.1.size ≤ q.base
def pT (f : Nat → rx_S → Prop) : rx_End := fun below ev args s mt sst t => ∃ o, t.status = .running ∧ Ended t below o ∧ rx_QT ev f mt sst args s o t
def rx_Throws (y : MethodName) (M : rx_M) (d mc ms : Nat) (as : List Value) (σ : rx_S) (f : Nat → rx_S → Prop) : Prop :=
  ∀ (l : Launch), l.stackTraces = false → ∀ (ev : rx_E), MetFree l y (headSpec (rx_ws y M) { frames := d, cells := mc, slots := ms, locals := 40 * d }) (rx_P ev as σ) (fun _ _ _ _ _ => True) (rx_QT ev f mc ms)
theorem rx_enterT {y : MethodName} {M : rx_M} {d mc ms : Nat} {as : List Value} {σ : rx_S} {f : Nat → rx_S → Prop} (hy : plainFor y = true) (hM : y.cls = M.1) (hnm : y.name = M.2.2.2.2.1) (hn : (lg_sl as).length ≤ M.2.2.1) (k : rx_V M d mc ms 0 (lv_args 0 as) [] σ (pT f)) (hh : M.2.2.2.2.2 = [] := by rfl) : rx_Throws y M d mc ms as σ f := by
  intro l htr ev
  refine MetFree.of_bodySF (code := M.2.1) (maxLocals := M.2.2.1) (ret := M.2.2.2.1) hy ?_ ?_
  · intro args s m h hn
    obtain ⟨meth, c, h1, h2, h3, h4, h5, h6, -, -⟩ := Cond.code_spec hn (atoms_spec (ws := rx_ws y M) h _ List.mem_cons_self)
    exact ⟨meth, c, h1, h2, h3, h4, h5, h6⟩
  · intro p e s m args below meth c s₁ B hml hv _
    obtain ⟨rfl, hR, hOk⟩ := hv
    have hts := atoms_spec (ws := rx_ws y M) B.pre
    have hown : s.vm.findClass M.1 = some m.cls := by rw [← hM]; exact findClass_of_methodNamed B.named
    have htab : c.exceptionTable.toList.map (fun h => (h.startPc, h.endPc, h.handlerPc, h.catchType)) = M.2.2.2.2.2 := by
      have h1 := BodyLoose.noHandlers B (hts _ List.mem_cons_self)
      rw [hh]
      simp [Array.isEmpty_iff.mp h1]
    have hl := lv_entry (as.map (rx_tv ev)) (n := M.2.2.1) (by rw [rx_sl_map]; exact hn)
    have hsz : ev.2.2.2.1.size ≤ s.heap.size := by rw [hR.2.1]; omega
    rw [rx_args_map] at hl
    have K := k l ev p e s m (as.map (rx_tv ev)).toArray below meth c ⟨B.exec, B.bytes, hml, hown, fun w h => hts w (List.mem_cons_of_mem _ h), B.returns, B.notSynchronized, (name_of_methodNamed B.named B.method).1.trans hnm, hOk, ⟨hsz, hR.2.2.1⟩, htr, hR.ns, htab⟩ { frames := d, cells := mc, slots := ms, locals := 40 * d } mc ms _ ⟨Nat.le_refl _, Nat.le_refl _, hR, hl, (fun q h => by cases h), by omega, by omega, Nat.le_refl _, Nat.le_refl _⟩
    have hh0 : s₁.heap = s.heap := by rw [B.state]; rfl
    have K2 := K s₁ hh0 (Stand.of_body B)
    rw [List.map_nil, ← lg_entry_eq] at K2
    obtain ⟨t, a1, o, b1, b2, b3⟩ := K2
    exact ⟨t, o, a1, b1, b2, b3⟩
