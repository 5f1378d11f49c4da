/-! An exception is made and thrown; a call throws, and the caller's handler takes it -/
theorem rx_lS.kept {C n d : String} {U : State} {H H1 : Heap} (h : rx_lS C n d U H) (hq : ∀ a : Nat, a < H.size → H1[a]? = H[a]?) : rx_lS C n d U H1 := by
  obtain ⟨c, k, i, f, a, cell, h1, h2, h3, h4, h5, h6⟩ := h
  exact ⟨c, k, i, f, a, cell, h1, h2, h3, h4, by rw [hq a (Array.getElem?_eq_some_iff.mp h5).1]; exact h5, h6⟩
def rx_sp : List Cond := [.laysStatic "java/lang/Throwable" "UNASSIGNED_STACK" "[Ljava/lang/StackTraceElement;", .laysStatic "java/lang/Throwable" "SUPPRESSED_SENTINEL" "Ljava/util/List;", .isRef (.static "java/lang/Throwable" "UNASSIGNED_STACK" "[Ljava/lang/StackTraceElement;"), .isRef (.static "java/lang/Throwable" "SUPPRESSED_SENTINEL" "Ljava/util/List;")]
abbrev rx_IO : String := "java/lang/IndexOutOfBoundsException"
abbrev rx_IOn : List String := ["java/lang/RuntimeException", "java/lang/Exception"]
theorem rx_own_in : (Bundle.ownAtoms "RuleText" 70 rx_IO rx_IOn).all (fun a => (decide (a ∈ lw_tbl) && goodWord a) || decide (a ∈ rx_DW) || decide (a ∈ rx_sp)) = true := by decide +kernel
theorem rx_own {l : Launch} {ev : rx_E} {M : rx_M} {p : Program} {s : State} {m : MethodId} {args : Array Value} {meth : Method} {c : Code} (C : rx_C l ev M p s m args meth c) : ∀ a ∈ Bundle.ownAtoms "RuleText" 70 rx_IO rx_IOn, a.before args s = true := by
  intro a ha
  have h := List.all_eq_true.mp rx_own_in a ha
  have hOk := C.2.2.2.2.2.2.2.2.1
  have hT : rx_ExtT ev s := hOk.2.2.2.2.2.2.2.2.2.2.2.2.2.2.2
  have hlow : ∀ q : Nat, q < ev.2.2.2.1.size → s.heap[q]? = ev.2.2.2.1[q]? := C.2.2.2.2.2.2.2.2.2.1.2
  simp only [Bool.or_eq_true, Bool.and_eq_true, decide_eq_true_eq] at h
  rcases h with (h | h) | h
  · exact C.2.2.2.2.1 a (List.mem_filter.mpr ⟨List.mem_append_right _ h.1, h.2⟩)
  · have hw := hT.1 a h
    rcases rx_DW_kinds a h with ⟨x, e⟩ | ⟨x, z, e⟩
    · subst e; exact va_Nw.use rfl hw
    · subst e; exact va_Nw.use rfl hw
  · unfold rx_sp at h
    simp only [List.mem_cons, List.not_mem_nil, or_false] at h
    rcases h with rfl | rfl | rfl | rfl
    · exact (hT.2.1.1.kept hlow).cond
    · exact (hT.2.1.2.kept hlow).cond
    · exact rx_Zq.cond (hT.2.2.1.1.kept (fun a h _ => hlow a h))
    · exact rx_Zq.cond (hT.2.2.1.2.kept (fun a h _ => hlow a h))
theorem rx_IO1 : Cond.classLink "RuleText" 66 rx_IO ∈ rx_TB := (rx_in (tm_3 (List.mem_of_getElem? (i := 107) rfl)) rfl)
theorem rx_IO2 : Cond.instantiable rx_IO 6 ∈ rx_TB := (rx_in (tm_3 (List.mem_of_getElem? (i := 108) rfl)) rfl)
theorem rx_IO3 : Cond.initialized rx_IO ∈ rx_TB := (rx_in (tm_1 (List.mem_of_getElem? (i := 20) rfl)) rfl)
theorem rv_throw {M : rx_M} {d mc ms pc ixS r : Nat} {tx : String} {lo : List (Nat × Value)} {nx : Nat} {ct : Nat → Nat × Nat} {mi : Nat → Nat → Int32} {ml : Nat → Nat → Int64} {mr : Nat → Nat → Option Nat} {f : Nat → rx_S → Prop}
    (hd0 : decode M.2.1 pc = .ok (.new 66, 3)) (hd1 : decode M.2.1 (pc + 3) = .ok (.dup, 1)) (hd2 : decode M.2.1 (pc + 4) = .ok (.ldc ixS, 2)) (hd3 : decode M.2.1 (pc + 6) = .ok (.invokespecial 70, 3)) (hd4 : decode M.2.1 (pc + 9) = .ok (.athrow, 1))
    (hM : M.1 = "RuleText") (hS : (M.1, ixS, tx, r) ∈ rx_SR) (hh : M.2.2.2.2.2 = []) (hdd : 6 ≤ d) (hf : f nx (rx_new nx ct mi ml mr 95 0)) : rx_V M d (mc + 1) (ms + 6) pc lo [] (nx, ct, mi, ml, mr) (pT f) := by
  intro l ev p e s m args below meth c C R mt sst ls A
  obtain ⟨a1, a2, a3, a4, a5, a6, a7, a8, a9⟩ := A
  have hts := C.2.2.2.2.1
  have hown : s.vm.findClass "RuleText" = some m.cls := by rw [← hM]; exact C.2.2.2.1
  have hOk := C.2.2.2.2.2.2.2.2.1
  obtain ⟨cX, kX, hfc, hkX, -⟩ := Cond.instantiable_spec (hts _ rx_IO2)
  refine W.newcK C.1 C.2.1 hown (hts _ rx_IO1) (hts _ rx_IO2) (hts _ rx_IO3) rfl hd0 (by omega) (by omega) hfc rfl fun H1 kC hkC e1 z1 o1 => ?_
  refine lv_dup C.1 C.2.1 hd1 rfl ?_
  refine va_ldcS C.1 C.2.1 C.2.2.2.1 (hOk.2.2.2.2.2.2.2.2.2.2.1 _ hS) hd2 ?_
  intro T hT X
  have htr : e.platform.stackTraces = false := by
    have h1 := X.admits.2.2.2.2.1
    rw [h1]
    exact C.2.2.2.2.2.2.2.2.2.2.1
  have hte : c.exceptionTable.toList = [] := by
    have h1 := C.2.2.2.2.2.2.2.2.2.2.2.2
    rw [hh] at h1
    exact List.map_eq_nil_iff.mp h1
  obtain ⟨U, hsteps, hrun, hend, hwarm, hsame, ce, hce, hoc⟩ := X.ctorThrowS C.1 htr (own := "RuleText") (cls := rx_IO) (names := rx_IOn) (ic := 70) hown (by decide +kernel) (by decide +kernel) (rx_own C) (fun x hx => by cases hx) hfc hkC
    (a := s.heap.size) (by rw [hT]; exact e1) (Nat.le_refl _) (msg := .ref (rx_ea ev r)) rfl (g := F0 m (pc + 6) ls [.ref (rx_ea ev r), .ref s.heap.size, .ref s.heap.size]) rfl (by rw [C.2.2.1]; exact a4.1) rfl rfl (rest := []) rfl (by rw [C.2.1]; exact hd3) (by rw [C.2.1]; exact hd4) (fun x hx => by rw [hte] at hx; cases hx)
    (by show 2 + 3 < R.frames; omega) (by show 2 * 0 + 1 + 81 ≤ R.locals; omega) C.2.2.2.2.2.2.1
  have hea : rx_ea ev nx = s.heap.size := a3.new
  have hold : ∀ q : Nat, q < s.heap.size → U.heap[q]? = s.heap[q]? := fun q hq => by
    have h1 : s.heap[q]? = some s.heap[q] := Array.getElem?_eq_getElem hq
    rw [h1]
    exact hsame.old_cell h1
  have hz : U.heap.size = s.heap.size + 1 := by
    have h1 : s.heap.size < U.heap.size := (Array.getElem?_eq_some_iff.mp hce).1
    have h2 : U.heap.size ≤ s.heap.size + (0 + 1) := hsame.2.2.1
    omega
  refine ⟨U, hsteps, .threw s.heap.size, hrun, hend, nx, rx_new nx ct mi ml mr 95 0, by rw [hea], hf, a3.1, Nat.lt_succ_self nx, ?_, hwarm, ⟨ce, by rw [hea]; exact hce, hoc.vm, hoc.cls⟩, [], hsame.mono (by omega) (by omega), fun q hq => by cases hq⟩
  refine a3.grow rfl hz hold (fun x hx => ⟨va_up_ne _ _ hx, va_up_ne _ _ hx, va_up_ne _ _ hx, va_up_ne _ _ hx⟩) ⟨fun ci' n' e' h9 => ?_, fun tg' n' e' h9 => ?_, ⟨ce, by show U.heap[rx_ea ev nx]? = _; rw [hea]; exact hce, by rw [hoc.vm]; rfl⟩⟩
  · have e2 : (95, 0) = (ci', n') := (va_up_self ct nx (95, 0)).symm.trans e'
    cases e2
    omega
  · have e2 : (95, 0) = (tg', n') := (va_up_self ct nx (95, 0)).symm.trans e'
    cases e2
    omega
/-! the catch, its class resolved or not yet -/
theorem rx_goCold {e : Env} {s : State} {f : JFrame} {a : Addr} {x : ExceptionTableEntry} {t : List ExceptionTableEntry} {c : ClassId} {cell : Cell} {vm' : Vm} (hx : covers x f.pc = true) (h0 : x.catchType ≠ 0)
    (hg : (Jvm.resolveClass f.method.cls x.catchType).Gives e.toSetting s.vm (.ok c) vm') (hsz : vm'.classes.size ≤ s.vm.classes.size) (hcell : s.heap[a]? = some cell) (hobj : ∀ k, cell.vm ≠ .statics k)
    (hk : ∃ k, vm'.classes[cell.cls]? = some k) (hc : ∃ k, vm'.classes[c]? = some k) (hfit : vm'.assignable cell.cls c = true) (Q : Handler → Pre) (E : CtlPost) (d : Bool) (acts : List Action) :
    wp (findHandler.go f a (x :: t)) Q E e d acts s ↔ Q (.found x.handlerPc) d acts (s.setVm vm') := by
  simp only [covers] at hx
  obtain ⟨ha, ht⟩ := hg.op (op := VmOp.resolveClass f.method.cls x.catchType) rfl
  have hcell' : (s.setVm vm').heap[a]? = some cell := hcell
  simp [findHandler.go, hx, h0, ha, ht, hsz, hcell, hobj, hk, hc, hfit, VmOp.dirties, VmOp.acts]
