/-! Methods with a handler; methods of a superclass; a static that is a reference or null -/
def rx_CallsW (y : MethodName) (M : rx_M) (d mc ms : Nat) (as : List Value) (σ : rx_S) (post : Option Value → rx_S → Prop) : Prop :=
  ∀ (l : Launch), l.stackTraces = false → ∀ (ev : rx_E), Met l y (rx_wsW y M) { frames := d, cells := mc, slots := ms, locals := 40 * d } (rx_P ev as σ) (rx_Q ev post) mc ms (fun q => ev.2.2.2.1.size ≤ q)
theorem rx_enterW {y : MethodName} {M : rx_M} {d mc ms : Nat} {as : List Value} {σ : rx_S} {post : Option Value → rx_S → Prop} (hy : plainName y.cls = true) (hM : y.cls = M.1) (hnm : y.name = M.2.2.2.2.1) (hn : (lg_sl as).length ≤ M.2.2.1) (k : rx_W M d mc ms 0 (lv_args 0 as) [] σ (pR post)) : rx_CallsW y M d mc ms as σ post := by
  intro l htr ev
  refine va_MetW (cc := M.2.1) (maxL := M.2.2.1) (ret := M.2.2.2.1) (hh := M.2.2.2.2.2) hy rfl ?_
  intro p e s m args below meth c s₁ B hml hv
  obtain ⟨rfl, hR, hOk⟩ := hv
  have hts := atoms_spec (ws := rx_wsW y M) B.pre
  have hown : s.vm.findClass M.1 = some m.cls := by rw [← hM]; exact findClass_of_methodNamed B.named
  have htab : c.exceptionTable.toList.map (fun h => (h.startPc, h.endPc, h.handlerPc, h.catchType)) = M.2.2.2.2.2 := by
    obtain ⟨m9, meth9, c9, h1, h2, h3, -, -, h4, -⟩ := Cond.codeWith_spec (hts _ List.mem_cons_self)
    cases B.named.symm.trans h1
    cases B.method.symm.trans h2
    cases (Stand.of_body B).code.symm.trans h3
    exact h4
  refine rx_enter0 (d := d) (mc := mc) (ms := ms) (post := pR post) (R := { frames := d, cells := mc, slots := ms, locals := 40 * d }) hn hR ⟨Nat.le_refl _, Nat.le_refl _, Nat.le_refl _, Nat.le_refl _⟩ ⟨B.exec, B.bytes, hml, hown, fun w h => hts w (List.mem_cons_of_mem _ h), B.returns, B.notSynchronized, (name_of_methodNamed B.named B.method).1.trans hnm, hOk, ⟨?_, hR.2.2.1⟩, htr, hR.ns, htab⟩ k
  rw [hR.2.1]
  omega
def rx_LW (own : String) (ix : Nat) (y : MethodName) (M : rx_M) (n : Nat) : Prop :=
  Cond.codeWith y M.2.1 M.2.2.1 M.2.2.2.1 M.2.2.2.2.2 ∈ rx_TB ∧ Cond.initialized y.cls ∈ rx_TB ∧ (y.cls ≠ "java/lang/invoke/MethodHandle" ∧ y.cls ≠ "java/lang/invoke/VarHandle") ∧ (parseMethodDescriptor y.desc).map (fun d => d.parameters.length) = some n ∧ M.2.2.1 ≤ 21 ∧ Cond.methodLink own ix y ∈ rx_TB ∧ Cond.static y ∈ rx_TB
/-- a method of a superclass, by super or by inheritance: own's pool place ix names y; the receiver's class is Cn -/
def rx_LU (own : String) (ix : Nat) (y : MethodName) (M : rx_M) (n : Nat) (Cn : String) : Prop := rx_L own ix y M n ∧ Cond.methodLink own ix y ∈ rx_TB ∧ Cond.sameMethod y.cls y.cls y.name y.desc ∈ rx_TB ∧ Cond.selects Cn y y ∈ rx_TB ∧ Cond.instanceMethod y ∈ rx_TB
def rx_LSU (own : String) (ix : Nat) (y : MethodName) (M : rx_M) (n : Nat) : Prop := rx_L own ix y M n ∧ Cond.methodLink own ix y ∈ rx_TB ∧ Cond.sameMethod y.cls y.cls y.name y.desc ∈ rx_TB ∧ Cond.superclass own y.cls ∈ rx_TB ∧ Cond.instanceMethod y ∈ rx_TB ∧ y.name ≠ "<init>"
section
variable {M M' : rx_M} {y : MethodName} {d d1 mc ms mc1 ms1 pc ix r : Nat} {lo : List (Nat × Value)} {st stk as : List Value} {σ : rx_S} {post : rx_End} {post1 : Option Value → rx_S → Prop}
theorem ru_callSW (hd : decode M.2.1 pc = .ok (.invokestatic ix, 3)) (hL : rx_LW M.1 ix y M' as.length) (hc : rx_CallsW y M' d1 mc1 ms1 as σ post1) (hdd : d1 + 1 ≤ d) (hstk : stk = as.reverse ++ st) (hcat : (st.map fun v => v.category).sum ≤ 8)
    (k : ∀ v τ, post1 v τ → rx_W M d mc ms (pc + 3) lo (v.toList ++ st) τ post) : rx_W M d (mc1 + mc) (ms1 + ms) pc lo stk σ post := by
  intro l ev p e s m args below meth c C R H locs cells slots mt sst ls A
  obtain ⟨w1, w2, w3, w4, w5, w6, w7⟩ := hL
  obtain ⟨a1, a2, a3, a4, a5, a6, a7, a8, a9⟩ := A
  have hts := C.2.2.2.2.1
  have hOk := C.2.2.2.2.2.2.2.2.1
  have hG : GoodIn rx_TB (rx_wsW y M') := by
    intro w hw
    rcases List.mem_cons.mp hw with e | e
    · subst e
      exact ⟨w1, good_of_word (rx_good _ w1)⟩
    · exact ⟨e, good_of_word (rx_good _ e)⟩
  have hws := pay_in hts hG
  have hini := hts _ w2
  have hK : Back l R p e below s args y 3 8 (PreOf R mc1 ms1 (rx_P ev as σ)) (PostOf (rx_Q ev post1) mc1 ms1 (fun q => ev.2.2.2.1.size ≤ q)) :=
    va_backW (hh := M'.2.2.2.2.2) (bytes := M'.2.1) (maxL := M'.2.2.1) (ret := M'.2.2.2.1) (hc l C.2.2.2.2.2.2.2.2.2.2.1 ev) (rx_blind _ _ _) rfl rfl (by show d1 + 1 ≤ _; omega) (by show 8 + (M'.2.2.1 + 11) + 40 * d1 ≤ _; omega) hws List.mem_cons_self (fun a' U hW => word_at hW (Or.inl (by first | rfl | simp [Cond.onTables, Cond.keeps, Cond.steady])) hini)
  have hst : (F0 m pc ls (stk.map (rx_tv ev))).stack = (as.map (rx_tv ev)).reverse ++ st.map (rx_tv ev) := by
    show stk.map (rx_tv ev) = _
    rw [hstk, List.map_append, List.map_reverse]
  have hroom : 2 * (F0 m pc ls (stk.map (rx_tv ev))).monitorRoom + ((st.map (rx_tv ev)).map fun v => v.category).sum ≤ 8 := lv_room (by rw [rx_cats]; exact hcat)
  obtain ⟨mk, methM, cM, hnamed, hmethM, -, -, -, -, -, -, hsigM⟩ := Cond.codeWith_spec (hts _ w1)
  have hlen : (as.map (rx_tv ev)).length = methM.sig.parameters.length := by
    rw [hsigM] at w4
    rw [List.length_map]
    exact (Option.some.inj w4).symm
  have hstatic : methM.isStatic = true := Cond.static_spec hnamed hmethM (hts _ w7)
  obtain ⟨kP, hkP, -⟩ := className_of_methodNamed hnamed
  have hinitP : kP.init = .initialized := Cond.initialized_spec (findClass_of_methodNamed hnamed) hkP hini
  intro T hT X
  obtain ⟨vm₁, X₁, hstep₁⟩ := X.invokestatic C.1 C.2.2.2.1 (hts _ w6) hnamed hmethM hstatic hkP hinitP w3 (g := F0 m pc ls (stk.map (rx_tv ev))) rfl (argsL := as.map (rx_tv ev)) (rest := st.map (rx_tv ev)) hlen hst (by rw [C.2.1]; exact hd)
  obtain ⟨v, ⟨U', l2, c2, s2⟩, X', ⟨g', mk', t, L, e1, e2, ⟨v', τ, hv, hp, hR⟩, h1, hL, h2, h3⟩, hsteps⟩ := hK m meth c ⟨T.setVm vm₁, locs, cells, slots⟩ { F0 m pc ls (stk.map (rx_tv ev)) with stack := st.map (rx_tv ev) } (.invokestatic ix) mk (as.map (rx_tv ev)).toArray X₁ rfl (by rw [C.2.2.1]; exact a4.1) (by rw [C.2.1]; exact hd) hroom (X₁.named hnamed)
    ⟨by show cells + mc1 ≤ _; omega, by show slots + ms1 ≤ _; omega, rfl, by show rx_R ev σ T.heap; rw [hT]; exact a3, rx_Ok_warm (s := s) X₁.warmed hOk⟩
  dsimp only [Pt.U, Pt.locs, Pt.cells, Pt.slots] at X' e1 e2 h1 h2 h3 hsteps
  subst h1; subst h2; subst h3
  cases hv
  have K := k v' τ hp l ev p e s m args below meth c C R U'.heap (locs ++ L) (cells + mc1) (slots + ms1) mt sst ls ⟨a1, a2, by rw [e1]; exact hR, a4, t_lL a5 hL, by omega, by omega, a8, a9⟩
  rw [rx_toList] at K
  obtain ⟨t2, b1, b2⟩ := K U' rfl X'
  exact ⟨t2, hstep₁ t2 (fun acts => by rw [doInvoke_state]; exact hsteps.trans b1), b2⟩
theorem ru_callU {Cn : String} (hd : decode M.2.1 pc = .ok (.invokevirtual ix, 3)) (hL : rx_LU M.1 ix y M' as.length Cn) (hc : rx_Calls y M' d1 mc1 ms1 (.ref r :: as) σ post1) (hv : rx_recv σ r Cn) (hdd : d1 + 1 ≤ d) (hstk : stk = as.reverse ++ .ref r :: st) (hcat : (st.map fun v => v.category).sum ≤ 8)
    (k : ∀ v τ, post1 v τ → rx_W M d mc ms (pc + 3) lo (v.toList ++ st) τ post) : rx_W M d (mc1 + mc) (ms1 + ms) pc lo stk σ post := by
  intro l ev p e s m args below meth c C R H locs cells slots mt sst ls A
  obtain ⟨⟨w1, w2, w3, w4, w5, -⟩, w6, w7, w8, w9⟩ := hL
  obtain ⟨a1, a2, a3, a4, a5, a6, a7, a8, a9⟩ := A
  have hts := C.2.2.2.2.1
  have hOk := C.2.2.2.2.2.2.2.2.1
  have hws := pay_in hts (rx_goodIn (y := y) (M := M') w1)
  have hlen : ∀ sig, parseMethodDescriptor y.desc = some sig → as.length = sig.parameters.length := fun sig h => by
    rw [h] at w4
    exact (Option.some.inj w4).symm
  have hpre : PreV s H Cn (rx_ea ev r) (rx_P ev (.ref r :: as) σ) (as.map (rx_tv ev)) := ⟨rx_blind _ _ _, hv ev s H hOk a3, fun U hU hW => ⟨rfl, by rw [hU]; exact a3, rx_Ok_warm hW hOk⟩⟩
  have hst : (F0 m pc ls (stk.map (rx_tv ev))).stack = (as.map (rx_tv ev)).reverse ++ .ref (rx_ea ev r) :: st.map (rx_tv ev) := by
    show stk.map (rx_tv ev) = _
    rw [hstk, List.map_append, List.map_reverse]
    rfl
  have hroom : 2 * (F0 m pc ls (stk.map (rx_tv ev))).monitorRoom + ((st.map (rx_tv ev)).map fun v => v.category).sum ≤ 8 := lv_room (by rw [rx_cats]; exact hcat)
  refine rx_after (va_runU (x := y) (owner := y.cls) (C := Cn) ⟨C.1, C.2.1, C.2.2.1, C.2.2.2.1, hts⟩ (hc l C.2.2.2.2.2.2.2.2.2.2.1 ev) ⟨⟨rfl, rfl, by show d1 + 1 ≤ _; omega, by show 8 + (M'.2.2.1 + 11) + 40 * d1 ≤ _; omega, hws, List.mem_cons_self⟩, hts _ w1, hts _ w2, w3, hlen, hts _ w6, hts _ w7, va_Decl.of (hts _ w9) (hts _ w1), hts _ w8, hts _ w9⟩ hpre rfl (List.length_map _) a4.1 hst hroom hd ⟨by omega, by omega⟩) ?_
  intro v τ H1 L h1 h2 h3
  have K := k v τ h1 l ev p e s m args below meth c C R H1 (locs ++ L) (cells + mc1) (slots + ms1) mt sst ls ⟨a1, a2, h2, a4, t_lL a5 h3, by omega, by omega, a8, a9⟩
  rw [rx_toList] at K
  exact K
theorem ru_callSU {ci nn : Nat} {q : vw_C} (hd : decode M.2.1 pc = .ok (.invokespecial ix, 3)) (hL : rx_LSU M.1 ix y M' as.length) (hc : rx_Calls y M' d1 mc1 ms1 (.ref r :: as) σ post1) (hi : rx_is σ r ci nn) (hq : rx_cls ci q) (hdd : d1 + 1 ≤ d) (hstk : stk = as.reverse ++ .ref r :: st) (hcat : (st.map fun v => v.category).sum ≤ 8)
    (k : ∀ v τ, post1 v τ → rx_W M d mc ms (pc + 3) lo (v.toList ++ st) τ post) : rx_W M d (mc1 + mc) (ms1 + ms) pc lo stk σ post := by
  intro l ev p e s m args below meth c C R H locs cells slots mt sst ls A
  obtain ⟨⟨w1, w2, w3, w4, w5, -⟩, w6, w7, w8, w9, w10⟩ := hL
  obtain ⟨a1, a2, a3, a4, a5, a6, a7, a8, a9⟩ := A
  have hts := C.2.2.2.2.1
  have hOk := C.2.2.2.2.2.2.2.2.1
  have hws := pay_in hts (rx_goodIn (y := y) (M := M') w1)
  have hlen : ∀ sig, parseMethodDescriptor y.desc = some sig → as.length = sig.parameters.length := fun sig h => by
    rw [h] at w4
    exact (Option.some.inj w4).symm
  have hpre : PreV s H q.1 (rx_ea ev r) (rx_P ev (.ref r :: as) σ) (as.map (rx_tv ev)) := ⟨rx_blind _ _ _, rx_recv_is hi hq ev s H hOk a3, fun U hU hW => ⟨rfl, by rw [hU]; exact a3, rx_Ok_warm hW hOk⟩⟩
  have hst : (F0 m pc ls (stk.map (rx_tv ev))).stack = (as.map (rx_tv ev)).reverse ++ .ref (rx_ea ev r) :: st.map (rx_tv ev) := by
    show stk.map (rx_tv ev) = _
    rw [hstk, List.map_append, List.map_reverse]
    rfl
  have hroom : 2 * (F0 m pc ls (stk.map (rx_tv ev))).monitorRoom + ((st.map (rx_tv ev)).map fun v => v.category).sum ≤ 8 := lv_room (by rw [rx_cats]; exact hcat)
  refine rx_after (va_runSU (hOk.1.1 ci _ hq.1).2 ⟨C.1, C.2.1, C.2.2.1, C.2.2.2.1, hts⟩ (hc l C.2.2.2.2.2.2.2.2.2.2.1 ev) ⟨⟨rfl, rfl, by show d1 + 1 ≤ _; omega, by show 8 + (M'.2.2.1 + 11) + 40 * d1 ≤ _; omega, hws, List.mem_cons_self⟩, hts _ w6, hts _ w7, hts _ w8, hts _ w9, hts _ w2, hts _ w1, w10, hlen⟩ hpre rfl (List.length_map _) a4.1 hst hroom hd ⟨by omega, by omega⟩) ?_
  intro v τ H1 L h1 h2 h3
  have K := k v τ h1 l ev p e s m args below meth c C R H1 (locs ++ L) (cells + mc1) (slots + ms1) mt sst ls ⟨a1, a2, h2, a4, t_lL a5 h3, by omega, by omega, a8, a9⟩
  rw [rx_toList] at K
  exact K
/-- the formatter: a reference or null -/
theorem ru_getsF {ix : Nat} (hd : decode M.2.1 pc = .ok (.getstatic ix, 3)) (hw : Cond.fieldLink M.1 ix "jdk/internal/util/Preconditions" "SIOOBE_FORMATTER" "Ljava/util/function/BiFunction;" ∈ rx_TB) (k1 : rx_W M d mc ms (pc + 3) lo (.null :: st) σ post) (k2 : rx_W M d mc ms (pc + 3) lo (.ref 23 :: st) σ post) : rx_W M d mc ms pc lo st σ post := by
  intro l ev p e s m args below meth c C R H locs cells slots mt sst ls A
  have hOk := C.2.2.2.2.2.2.2.2.1
  have hT : rx_ExtT ev s := hOk.2.2.2.2.2.2.2.2.2.2.2.2.2.2.2
  rcases hT.2.2.2 with hZ | hZ
  · obtain ⟨cf, kf, fi, f, a, cell, h1, h2, h3, h4, h5, h6, h7, h8⟩ := hZ.kept (rx_low A)
    exact W.gets C.1 C.2.1 C.2.2.2.1 (C.2.2.2.2.1 _ hw) h1 h2 h3 h4 h5 (fun e => by rw [e] at h6; cases h6) h7 rfl hd (k1 l ev p e s m args below meth c C R H locs cells slots mt sst ls A)
  · obtain ⟨cf, kf, fi, f, a, cell, h1, h2, h3, h4, h5, h6, h7, h8⟩ := hZ.kept (rx_low A)
    exact W.gets C.1 C.2.1 C.2.2.2.1 (C.2.2.2.2.1 _ hw) h1 h2 h3 h4 h5 (fun e => by rw [e] at h6; cases h6) h7 rfl hd (k2 l ev p e s m args below meth c C R H locs cells slots mt sst ls A)
end
