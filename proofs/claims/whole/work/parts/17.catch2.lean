/-! A call throws, and the caller's handler takes it -/
theorem rx_stepCatch {e : Env} {s : State} {a : Addr} {f : JFrame} {r : List Frame} {pc : Nat} {vm' : Vm} (hfind : ∀ (Q : Handler → Pre) (E : CtlPost) (d : Bool) (acts : List Action), wp (findHandler f a) Q E e d acts s ↔ Q (.found pc) d acts (s.setVm vm')) :
    (stepThrowing e s a (.java f :: r)).Is ((s.setVm vm').setFrames (.java { f with pc := pc, stack := [.ref a] } :: r)) [] := by
  simp only [stepThrowing, searchFrame, vmDo]
  generalize hr : Sem.go _ e false [] s = res
  obtain ⟨as, rfl, ha⟩ := Sem.eq_ok_of hr (a := Handler.found pc) (s' := s.setVm vm') (acts' := []) (by simp [hfind _ _ _ _])
  exact ⟨rfl, ha⟩
theorem rx_stepsCatch {tb : Tables} {e : Env} {s target : State} {g : JFrame} {c : Code} {below : List Frame} {a : Addr} {vm' : Vm} (h : At s g.method c below) {pc : Nat} (hfind : ∀ (Q : Handler → Pre) (E : CtlPost) (d : Bool) (acts : List Action), wp (findHandler g a) Q E e d acts ((s.setTop g).pushFrame (.throwing a)) ↔ Q (.found pc) d acts (((s.setTop g).pushFrame (.throwing a)).setVm vm'))
    (hrest : Steps tb e below ((s.setVm vm').setTop { g with pc := pc, stack := [.ref a] }) target) : Steps tb e below ((s.setTop g).pushFrame (.throwing a)) target := by
  obtain ⟨hgo, hw⟩ := h.throwing a
  refine Steps.head hgo hw ?_
  rw [stepThread_throwing (frames_entered h.top _), (rx_stepCatch (s := (s.setTop g).pushFrame (.throwing a)) hfind).1]
  obtain ⟨g₀, hg⟩ := Option.isSome_iff_exists.mp h.top
  obtain ⟨r, hr⟩ := State.topJava?_eq_some.mp hg
  have hr' : (s.setVm vm').frames = .java g₀ :: r := hr
  rw [State.setTop_of_frames _ hr'] at hrest
  rw [State.pushFrame, State.setTop_of_frames _ hr, State.setFrames_setFrames, hr]
  show Steps tb e below (((s.setVm vm').setFrames _).setFrames _) target
  rw [State.setFrames_setFrames]
  exact hrest
/-- the call of a method that throws: the state behind it, with the note over the caller's frame -/
theorem rx_backT {l : Launch} {R : Room} {p : Program} {e : Env} {below : List Frame} {s : State} {sargs : Array Value} {m : MethodId} {meth : Method} {c : Code} {U : State} {Ls : List Loc} {c0 s0 len : Nat} {y : MethodName} {M : rx_M} {d mc ms : Nat} {as : List Value} {σ : rx_S} {f : Nat → rx_S → Prop} {ev : rx_E} {g : JFrame} {ig : Instr} {mk : MethodId}
    (hM : rx_Throws y M d mc ms as σ f) (htr : l.stackTraces = false) (X : Stand p l e R s m sargs below meth c U Ls c0 s0) (hg : g.method = m) (hsize : g.locals.size = c.maxLocals) (hdg : decode c.code g.pc = .ok (ig, len)) (hW : 2 * g.monitorRoom + (g.stack.map fun v => v.category).sum ≤ 8) (hn : U.methodNamed? y = some mk)
    (hfr : d + 1 ≤ R.frames) (hlo : 8 + (M.2.2.1 + 11) + 40 * d ≤ R.locals) (hce : c0 + mc ≤ R.cells) (hsl : s0 + ms ≤ R.slots) (hws : ∀ w ∈ rx_ws y M, ∀ (a' : Array Value) (U : State), s.WarmedH U.vm → w.before a' U = true) (hini : (Cond.initialized y.cls).before sargs s = true)
    (hP : rx_P ev as σ (as.map (rx_tv ev)).toArray (U.calling g mk (as.map (rx_tv ev)).toArray)) :
    ∃ (x : Nat) (τ : rx_S) (T' : State) (L : List Loc), f x τ ∧ 256 ≤ x ∧ x < τ.1 ∧ rx_R ev τ T'.heap ∧ (∀ q ∈ L, ev.2.2.2.1.size ≤ q.base) ∧ Stand p l e R s m sargs below meth c T' (Ls ++ L) (c0 + mc) (s0 + ms) ∧ (∃ ce : Cell, T'.heap[rx_ea ev x]? = some ce ∧ ce.vm = .none ∧ U.vm.findClass "java/lang/IndexOutOfBoundsException" = some ce.cls) ∧
      Steps p.tables e below (doInvoke e (U.setTop g) [] mk (as.map (rx_tv ev)).toArray).1 ((T'.setTop g).pushFrame (.throwing (rx_ea ev x))) := by
  have hM' := hM l htr ev
  have hcode := hws _ List.mem_cons_self (as.map (rx_tv ev)).toArray U X.warmed
  obtain ⟨methY, cY, hmY, hcY, -, hlY, -, -, -, -⟩ := Cond.code_spec hn hcode
  obtain ⟨kY, hkY, -⟩ := className_of_methodNamed hn
  have hini' : (Cond.initialized y.cls).before (as.map (rx_tv ev)).toArray U = true := word_at X.warmed (Or.inl (by first | rfl | simp [Cond.onTables, Cond.keeps, Cond.steady])) hini
  have hinitY : kY.init = .initialized := Cond.initialized_spec (findClass_of_methodNamed hn) hkY hini'
  have h : At U g.method c below := by rw [hg]; exact X.here
  have happ : (headSpec (rx_ws y M) { frames := d, cells := mc, slots := ms, locals := 40 * d }).appliesLoose y e.platform (U.calling g mk (as.map (rx_tv ev)).toArray) = true :=
    Spec.appliesLoose_calling (g := g) h hdg hn hkY hinitY
      (X.room_calling (g := g) (R' := { frames := d, cells := mc, slots := ms, locals := 40 * d }) hsize hmY hcY hfr (by rw [hlY]; show _ + _ + 40 * d ≤ _; omega) hce hsl) (atoms_intro fun w hw => hws w hw _ _ X.warmed)
  obtain ⟨mid, hmid⟩ := h.above
  have hfr2 : (U.setTop g).frames = (.java g :: mid) ++ below := by rw [State.frames_setTop' g h.top, hmid]; rfl
  obtain ⟨o, s₂, hsteps, -, hend, hq⟩ := Steps.callFree hM' p X.admits X.cas X.clock (acts := []) hfr2 happ hP trivial
  rw [State.frames_setTop' g h.top, X.tail] at hend
  obtain ⟨x, τ, ho, hf, hx1, hx2, hR, hWm, ⟨ce, hc1, hc2, hc3⟩, L, hsame, hL⟩ := hq
  subst ho
  obtain ⟨T', X', -, -, ht⟩ := X.outOfThrown hg hend hWm hsame
  have hh : T'.heap = s₂.heap := by
    rw [ht]
    exact (Stand.throwing_heap T' g _).symm
  refine ⟨x, τ, T', L, hf, hx1, hx2, by rw [hh]; exact hR, hL, X', ⟨ce, by rw [hh]; exact hc1, hc2, hc3⟩, ?_⟩
  rw [← ht]
  exact hsteps
theorem rx_hs1 {vm vm' : Vm} (h : vm.Alike vm') : vm'.classes.size ≤ vm.classes.size := by
  first
    | exact Nat.le_of_eq h.2.1
    | exact Nat.le_of_eq h.2.1.symm
    | exact Nat.le_of_eq h.1
    | exact Nat.le_of_eq h.1.symm
section
variable {M M' : rx_M} {y : MethodName} {d d1 mc ms mc1 ms1 pc ix r : Nat} {lo : List (Nat × Value)} {st stk as : List Value} {σ : rx_S} {post : rx_End} {f : Nat → rx_S → Prop}
theorem ru_callVT {p0 p1 hp ci : Nat} (hd : decode M.2.1 pc = .ok (.invokevirtual ix, 3)) (hL : rx_LV M.1 ix y M' as.length) (hc : rx_Throws y M' d1 mc1 ms1 (.ref r :: as) σ f) (hv : rx_recv σ r y.cls) (hdd : d1 + 1 ≤ d) (hstk : stk = as.reverse ++ .ref r :: st) (hcat : (st.map fun v => v.category).sum ≤ 8)
    (hh : M.2.2.2.2.2 = [(p0, p1, hp, ci)]) (hcov : p0 ≤ pc ∧ pc < p1 ∧ ci ≠ 0) (hcl : Cond.classLink M.1 ci rx_IO ∈ rx_TB)
    (k : ∀ x τ, f x τ → rx_W M d mc ms hp lo [.ref x] τ post) : rx_W M d (mc1 + mc) (ms1 + ms) pc lo stk σ post := by
  intro l ev p e s m args below meth c C R H locs cells slots mt sst ls A
  obtain ⟨⟨w1, w2, w3, w4, w5, w6⟩, w7, w8⟩ := hL
  obtain ⟨a1, a2, a3, a4, a5, a6, a7, a8, a9⟩ := A
  have hts := C.2.2.2.2.1
  have hOk := C.2.2.2.2.2.2.2.2.1
  have hws := pay_in hts (rx_goodIn (y := y) (M := M') w1)
  have hlen : ∀ sig, parseMethodDescriptor y.desc = some sig → as.length = sig.parameters.length := fun sig h => by
    rw [h] at w4
    exact (Option.some.inj w4).symm
  obtain ⟨cellB, hcB, hoB, hclB⟩ := hv ev s H hOk a3
  have hst : (F0 m pc ls (stk.map (rx_tv ev))).stack = (as.map (rx_tv ev)).reverse ++ .ref (rx_ea ev r) :: st.map (rx_tv ev) := by
    show stk.map (rx_tv ev) = _
    rw [hstk, List.map_append, List.map_reverse]
    rfl
  have hroom : 2 * (F0 m pc ls (st.map (rx_tv ev))).monitorRoom + ((st.map (rx_tv ev)).map fun v => v.category).sum ≤ 8 := lv_room (by rw [rx_cats]; exact hcat)
  intro T hT X
  obtain ⟨mk, methM, hnamed, hmethM, hstM, habM⟩ := Cond.instanceMethod_spec (hts _ w7)
  obtain ⟨methM', cM, hmethM', -, -, -, -, -, -, hsigM⟩ := Cond.code_spec hnamed (hts _ w1)
  cases hmethM.symm.trans hmethM'
  obtain ⟨c2, r2, m2, q1, q2, q3, q4, kP, hkP, hkPi⟩ := Cond.selects_spec (hts _ w8)
  cases hclB.symm.trans q1
  cases (State.methodFound?_of_named hnamed w3).symm.trans q2
  cases hnamed.symm.trans q3
  have hselP : selectMethod e.platform s.vm cellB.cls mk = .method mk := by rw [Launch.admits_selectMethod X.admits]; exact q4
  have hcB' : T.heap[rx_ea ev r]? = some cellB := by rw [hT]; exact hcB
  have key : ∃ vm₁, Stand p l e R s m args below meth c (T.setVm vm₁) locs cells slots ∧ ∀ target, (∀ acts, Steps p.tables e below (doInvoke e ((T.setVm vm₁).setTop (F0 m pc ls (st.map (rx_tv ev)))) acts mk (Value.ref (rx_ea ev r) :: as.map (rx_tv ev)).toArray).1 target) → Steps p.tables e below (T.setTop (F0 m pc ls (stk.map (rx_tv ev)))) target := by
    rcases w6 with w6 | ⟨host, w6⟩
    · exact X.invokevirtual C.1 C.2.2.2.1 (hts _ w6) hnamed hmethM hstM hkP hkPi w3 (a := rx_ea ev r) (cell := cellB) hcB'
        (fun z h => by rw [h] at hoB; cases hoB) hselP hmethM habM hkP hkPi (g := F0 m pc ls (stk.map (rx_tv ev))) rfl (argsL := as.map (rx_tv ev)) (rest := st.map (rx_tv ev)) ((List.length_map _).trans (hlen _ hsigM)) hst (by rw [C.2.1]; exact hd)
    · exact X.invokevirtualNest C.1 C.2.2.2.1 (va_Nw.use rfl (hOk.2.1 _ w6)) hnamed hmethM hstM hkP hkPi w3 (a := rx_ea ev r) (cell := cellB) hcB'
        (fun z h => by rw [h] at hoB; cases hoB) hselP hmethM habM hkP hkPi (g := F0 m pc ls (stk.map (rx_tv ev))) rfl (argsL := as.map (rx_tv ev)) (rest := st.map (rx_tv ev)) ((List.length_map _).trans (hlen _ hsigM)) hst (by rw [C.2.1]; exact hd)
  obtain ⟨vm₁, X₁, hstep₁⟩ := key
  obtain ⟨x, τ, T', L, hf, hx1, hx2, hR', hL', X', ⟨ce, hc1, hc2, hc3⟩, hsteps⟩ := rx_backT (as := .ref r :: as) (ev := ev) (g := F0 m pc ls (st.map (rx_tv ev))) (ig := .invokevirtual ix) (len := 3) (mk := mk) hc C.2.2.2.2.2.2.2.2.2.2.1 X₁ rfl (by rw [C.2.2.1]; exact a4.1) (by rw [C.2.1]; exact hd) hroom (X₁.named hnamed) (by omega) (by omega) (by omega) (by omega) hws (hts _ w2)
    ⟨rfl, by show rx_R ev σ T.heap; rw [hT]; exact a3, rx_Ok_same (u := T.setVm vm₁) rfl (rx_Ok_warm (s := s) X₁.warmed hOk)⟩
  -- the handler
  have hpl : e.platform.magicAccessors = ({} : Platform).magicAccessors := by rw [X.admits.platform]
  obtain ⟨cc', hfcc, hcl'⟩ := Cond.classLink_spec C.2.2.2.1 (hts _ hcl) e.platform hpl
  obtain ⟨hg₁, hwarm₁, hready₁⟩ := State.classEntry (e := e) X'.warmed hcl'
  generalize T'.vm.noted m.cls ci (.cls cc') = vm₂ at hg₁ hwarm₁ hready₁
  have hal : s.vm.Alike vm₂ := hwarm₁.alike
  have hclc : s.vm.findClass rx_IO = some ce.cls := by
    rw [← X₁.warmed.alike.findClass]
    exact hc3
  have hcc : cc' = ce.cls := Option.some.inj (hfcc.symm.trans hclc)
  subst hcc
  have X₂ := X'.noted hwarm₁
  obtain ⟨kC, hkC⟩ := Vm.classAt_of_findClass (show vm₂.findClass rx_IO = some ce.cls by rw [hal.findClass]; exact hclc)
  have htab := C.2.2.2.2.2.2.2.2.2.2.2.2
  rw [hh] at htab
  obtain ⟨ent, hent⟩ : ∃ ent : ExceptionTableEntry, c.exceptionTable.toList = [ent] := by
    cases ht : c.exceptionTable.toList with
    | nil => rw [ht] at htab; cases htab
    | cons a t => cases t with
      | nil => exact ⟨a, rfl⟩
      | cons b t => rw [ht] at htab; simp at htab
  rw [hent] at htab
  simp only [List.map_cons, List.map_nil, List.cons.injEq, Prod.mk.injEq, and_true] at htab
  obtain ⟨t1, t2, t3, t4⟩ := htab
  have K := k x τ hf l ev p e s m args below meth c C R T'.heap (locs ++ L) (cells + mc1) (slots + ms1) mt sst ls ⟨a1, a2, hR', a4, t_lL a5 hL', by omega, by omega, a8, a9⟩
  obtain ⟨t, b1, b2⟩ := K (T'.setVm vm₂) rfl X₂
  refine ⟨t, hstep₁ t (fun acts => ?_), b2⟩
  rw [doInvoke_state]
  refine hsteps.trans ?_
  refine rx_stepsCatch (vm' := vm₂) (pc := hp) (g := F0 m pc ls (st.map (rx_tv ev))) X'.here (fun Q E dd acts => ?_) b1
  have hm2 : ((T'.setTop (F0 m pc ls (st.map (rx_tv ev)))).pushFrame (.throwing (rx_ea ev x))).vm.method? m = some meth := by
    rw [Stand.throwing_vm]
    exact X'.method'
  rw [W.findHandler_eq (f := F0 m pc ls (st.map (rx_tv ev))) hm2 X'.code, hent, ← t3]
  refine rx_goCold (cell := ce) (vm' := vm₂) (by simp [covers, t1, t2, hcov.1, hcov.2.1]) (by rw [t4]; exact hcov.2.2) ?_ ?_ ?_ (fun z h => by rw [hc2] at h; cases h) ⟨kC, hkC⟩ ⟨kC, hkC⟩ ?_ Q E dd acts
  · rw [Stand.throwing_vm, t4]
    exact hg₁
  · rw [Stand.throwing_vm]
    exact rx_hs1 (X'.warmed.alike.symm.trans hal)
  · rw [Stand.throwing_heap]
    exact hc1
  · first
      | exact va_asg _ _
      | simp [Vm.assignable, Vm.assignableAux]
end
