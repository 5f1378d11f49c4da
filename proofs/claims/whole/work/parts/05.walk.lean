/-! A METHOD'S WALK over the memory -/
/-- a method: its class, its code, its locals, what it returns, its name -/
abbrev rx_M : Type := String × ByteArray × Nat × Option FieldType × String × List (Nat × Nat × Nat × Nat)
def rx_lo (ev : rx_E) (lo : List (Nat × Value)) : List (Nat × Value) := lo.map (fun q => (q.1, rx_tv ev q.2))
def rx_get (i : Nat) : List (Nat × Value) → Option Value
  | [] => none
  | q :: t => match Nat.beq q.1 i with
    | true => some q.2
    | false => rx_get i t
def rx_st1 (i : Nat) (v : Value) (lo : List (Nat × Value)) : List (Nat × Value) := (i, v) :: lo.filter (fun q => !(q.1 == i) && !(q.1 + 1 == i && q.2.category == 2))
def rx_st2 (i : Nat) (v : Value) (lo : List (Nat × Value)) : List (Nat × Value) := (i, v) :: lo.filter (fun q => !(q.1 == i) && (!(q.1 == i + 1) && !(q.1 + 1 == i && q.2.category == 2)))
def rx_sub : List (Nat × Value) → List (Nat × Value) → Prop
  | [], _ => True
  | q :: t, lo => rx_get q.1 lo = some q.2 ∧ rx_sub t lo
theorem rx_tv_cat (ev : rx_E) (v : Value) : (rx_tv ev v).category = v.category := by cases v <;> rfl
theorem rx_get_in : ∀ {i : Nat} {lo : List (Nat × Value)} {v : Value}, rx_get i lo = some v → (i, v) ∈ lo
  | i, [], v, h => by cases h
  | i, q :: t, v, h => by
    unfold rx_get at h
    cases hb : Nat.beq q.1 i with
    | true =>
      rw [hb] at h
      have h2 : q.1 = i := Nat.eq_of_beq_eq_true hb
      have h3 : q.2 = v := Option.some.inj h
      rw [← h2, ← h3]
      exact List.mem_cons_self
    | false =>
      rw [hb] at h
      exact List.mem_cons_of_mem _ (rx_get_in h)
theorem rx_get_mem {ev : rx_E} {i : Nat} {lo : List (Nat × Value)} {v : Value} (h : rx_get i lo = some v) : (i, rx_tv ev v) ∈ rx_lo ev lo := List.mem_map.mpr ⟨(i, v), rx_get_in h, rfl⟩
theorem rx_filter_map (ev : rx_E) (P : Nat → Nat → Bool) (lo : List (Nat × Value)) : (rx_lo ev lo).filter (fun q => P q.1 q.2.category) = rx_lo ev (lo.filter (fun q => P q.1 q.2.category)) := by
  unfold rx_lo
  rw [List.filter_map]
  congr 1
  apply List.filter_congr
  intro q _
  simp only [Function.comp, rx_tv_cat]
theorem rx_st1_map {ev : rx_E} {ls : Array Slot} {nL i : Nat} {v : Value} {lo : List (Nat × Value)} (h : lv_has ls nL ((i, rx_tv ev v) :: (rx_lo ev lo).filter (fun q => !(q.1 == i) && !(q.1 + 1 == i && q.2.category == 2)))) : lv_has ls nL (rx_lo ev (rx_st1 i v lo)) := by
  rw [rx_filter_map ev (fun a b => !(a == i) && !(a + 1 == i && b == 2))] at h
  exact h
theorem rx_st2_map {ev : rx_E} {ls : Array Slot} {nL i : Nat} {v : Value} {lo : List (Nat × Value)} (h : lv_has ls nL ((i, rx_tv ev v) :: (rx_lo ev lo).filter (fun q => !(q.1 == i) && (!(q.1 == i + 1) && !(q.1 + 1 == i && q.2.category == 2))))) : lv_has ls nL (rx_lo ev (rx_st2 i v lo)) := by
  rw [rx_filter_map ev (fun a b => !(a == i) && (!(a == i + 1) && !(a + 1 == i && b == 2)))] at h
  exact h
theorem rx_sub_in : ∀ {lo' lo : List (Nat × Value)}, rx_sub lo' lo → ∀ q ∈ lo', q ∈ lo
  | [], _, _, q, hq => by cases hq
  | a :: t, lo, h, q, hq => by
    rcases List.mem_cons.mp hq with e | e
    · subst e
      exact rx_get_in h.1
    · exact rx_sub_in h.2 q e
theorem rx_sub_has {ev : rx_E} {ls : Array Slot} {nL : Nat} {lo' lo : List (Nat × Value)} (h : rx_sub lo' lo) (hl : lv_has ls nL (rx_lo ev lo)) : lv_has ls nL (rx_lo ev lo') := by
  refine ⟨hl.1, hl.2.1, fun q hq => ?_⟩
  obtain ⟨a, ha, rfl⟩ := List.mem_map.mp hq
  exact hl.2.2 _ (List.mem_map.mpr ⟨a, rx_sub_in h a ha, rfl⟩)
/-- what a method's end is -/
def rx_Q (ev : rx_E) (post : Option Value → rx_S → Prop) : Array Value → State → Outcome → State → Prop := fun _ _ o t => ∃ (v : Option Value) (τ : rx_S), o = .returned (v.map (rx_tv ev)) ∧ post v τ ∧ rx_R ev τ t.heap
/-- what a walk comes to -/
abbrev rx_End : Type := List Frame → rx_E → Array Value → State → Nat → Nat → State → Prop
/-- it returns so -/
def pR (post : Option Value → rx_S → Prop) : rx_End := fun below ev args s mt sst => MQ below (rx_Q ev post) args s mt sst (fun q => ev.2.2.2.1.size ≤ q)
abbrev rx_C (l : Launch) (ev : rx_E) (M : rx_M) (p : Program) (s : State) (m : MethodId) (args : Array Value) (meth : Method) (c : Code) : Prop :=
  p.tables.exec = Jvm.exec ∧ c.code = M.2.1 ∧ c.maxLocals = M.2.2.1 ∧ s.vm.findClass M.1 = some m.cls ∧ (∀ w ∈ rx_TB, w.before args s = true) ∧ meth.sig.returnType = M.2.2.2.1 ∧ meth.locks = false ∧ meth.name = M.2.2.2.2.1 ∧ rx_Ok ev s ∧
    (ev.2.2.2.1.size ≤ s.heap.size ∧ ∀ q : Nat, q < ev.2.2.2.1.size → s.heap[q]? = ev.2.2.2.1[q]?) ∧ l.stackTraces = false ∧ (∀ (q : Nat) (cell : Cell), ev.2.2.2.1.size ≤ q → s.heap[q]? = some cell → cell.vm.isStatics = false) ∧ c.exceptionTable.toList.map (fun h => (h.startPc, h.endPc, h.handlerPc, h.catchType)) = M.2.2.2.2.2
def rx_at (ev : rx_E) (M : rx_M) (d mc ms : Nat) (lo : List (Nat × Value)) (σ : rx_S) (R : Room) (H : Heap) (locs : List Loc) (cells slots mt sst : Nat) (ls : Array Slot) : Prop :=
  d ≤ R.frames ∧ 40 * d ≤ R.locals ∧ rx_R ev σ H ∧ lv_has ls M.2.2.1 (rx_lo ev lo) ∧ (∀ q ∈ locs, ev.2.2.2.1.size ≤ q.base) ∧ cells + mc ≤ mt ∧ slots + ms ≤ sst ∧ mt ≤ R.cells ∧ sst ≤ R.slots
def rx_W (M : rx_M) (d mc ms pc : Nat) (lo : List (Nat × Value)) (st : List Value) (σ : rx_S) (post : rx_End) : Prop :=
  ∀ (l : Launch) (ev : rx_E) (p : Program) (e : Env) (s : State) (m : MethodId) (args : Array Value) (below : List Frame) (meth : Method) (c : Code), rx_C l ev M p s m args meth c →
    ∀ (R : Room) (H : Heap) (locs : List Loc) (cells slots mt sst : Nat) (ls : Array Slot), rx_at ev M d mc ms lo σ R H locs cells slots mt sst ls →
      W p l e R s m args below meth c H locs cells slots (post below ev args s mt sst) (F0 m pc ls (st.map (rx_tv ev)))
theorem rx_at.lo {ev : rx_E} {M : rx_M} {d mc ms : Nat} {lo lo' : List (Nat × Value)} {σ : rx_S} {R : Room} {H : Heap} {locs : List Loc} {cells slots mt sst : Nat} {ls ls' : Array Slot} (A : rx_at ev M d mc ms lo σ R H locs cells slots mt sst ls) (h : lv_has ls' M.2.2.1 (rx_lo ev lo')) : rx_at ev M d mc ms lo' σ R H locs cells slots mt sst ls' := by
  obtain ⟨a1, a2, a3, a4, a5, a6⟩ := A
  exact ⟨a1, a2, a3, h, a5, a6⟩
theorem rx_ld {ev : rx_E} {M : rx_M} {d mc ms : Nat} {lo : List (Nat × Value)} {σ : rx_S} {R : Room} {H : Heap} {locs : List Loc} {cells slots mt sst : Nat} {ls : Array Slot} (A : rx_at ev M d mc ms lo σ R H locs cells slots mt sst ls) {i : Nat} {v : Value} (h : rx_get i lo = some v) : ls[i]? = some (.val (rx_tv ev v)) := A.2.2.2.1.2.2 _ (rx_get_mem h)
/-- a method's contract -/
def rx_ws (y : MethodName) (M : rx_M) : List Cond := Cond.code y M.2.1 M.2.2.1 M.2.2.2.1 :: rx_TB
def rx_wsW (y : MethodName) (M : rx_M) : List Cond := Cond.codeWith y M.2.1 M.2.2.1 M.2.2.2.1 M.2.2.2.2.2 :: rx_TB
def rx_P (ev : rx_E) (as : List Value) (σ : rx_S) : Array Value → State → Prop := fun v U => v = (as.map (rx_tv ev)).toArray ∧ rx_R ev σ U.heap ∧ rx_Ok ev U
def rx_Calls (y : MethodName) (M : rx_M) (d mc ms : Nat) (as : List Value) (σ : rx_S) (post : Option Value → rx_S → Prop) : Prop :=
  ∀ (l : Launch), l.stackTraces = false → ∀ (ev : rx_E), Met l y (rx_ws y M) { frames := d, cells := mc, slots := ms, locals := 40 * d } (rx_P ev as σ) (rx_Q ev post) mc ms (fun q => ev.2.2.2.1.size ≤ q)
theorem rx_args_map (ev : rx_E) : ∀ (as : List Value) (i : Nat), lv_args i (as.map (rx_tv ev)) = rx_lo ev (lv_args i as)
  | [], _ => rfl
  | v :: vs, i => by
    show (i, rx_tv ev v) :: lv_args (if (rx_tv ev v).category = 2 then i + 2 else i + 1) (vs.map (rx_tv ev)) = (i, rx_tv ev v) :: rx_lo ev (lv_args (if v.category = 2 then i + 2 else i + 1) vs)
    rw [rx_tv_cat, rx_args_map ev vs]
theorem rx_sl_map (ev : rx_E) : ∀ (as : List Value), (lg_sl (as.map (rx_tv ev))).length = (lg_sl as).length
  | [] => rfl
  | v :: vs => by
    have ih := rx_sl_map ev vs
    unfold lg_sl at ih ⊢
    rw [List.map_cons, List.flatMap_cons, List.flatMap_cons, List.length_append, List.length_append, ih, rx_tv_cat]
    congr 1
    split <;> rfl
theorem rx_R.ns {ev : rx_E} {σ : rx_S} {H : Heap} (h : rx_R ev σ H) : ∀ (q : Nat) (cell : Cell), ev.2.2.2.1.size ≤ q → H[q]? = some cell → cell.vm.isStatics = false := by
  intro q cell hq hc
  have hlt : q < H.size := (Array.getElem?_eq_some_iff.mp hc).1
  rw [h.2.1] at hlt
  obtain ⟨cell', h1, h2⟩ := (h.2.2.2.1 (256 + (q - ev.2.2.2.1.size)) (by omega) (by have := h.1; omega)).2.2
  rw [rx_ea_in (by omega), show ev.2.2.2.1.size + (256 + (q - ev.2.2.2.1.size) - 256) = q by omega] at h1
  cases hc.symm.trans h1
  exact h2
theorem rx_enter0 {l : Launch} {ev : rx_E} {M : rx_M} {d mc ms : Nat} {as : List Value} {σ : rx_S} {post : rx_End} {p : Program} {e : Env} {s : State} {m : MethodId} {below : List Frame} {meth : Method} {c : Code} {R : Room} (hn : (lg_sl as).length ≤ M.2.2.1) (hR : rx_R ev σ s.heap) (hd : d ≤ R.frames ∧ 40 * d ≤ R.locals ∧ mc ≤ R.cells ∧ ms ≤ R.slots)
    (C : rx_C l ev M p s m (as.map (rx_tv ev)).toArray meth c) (k : rx_W M d mc ms 0 (lv_args 0 as) [] σ post) : W p l e R s m (as.map (rx_tv ev)).toArray below meth c s.heap [] 0 0 (post below ev (as.map (rx_tv ev)).toArray s mc ms) (entryFrame m (as.map (rx_tv ev)).toArray M.2.2.1) := by
  have hl := lv_entry (as.map (rx_tv ev)) (n := M.2.2.1) (by rw [rx_sl_map]; exact hn)
  rw [lg_entry_eq]
  generalize (lg_sl (as.map (rx_tv ev)) ++ List.replicate (M.2.2.1 - (lg_sl (as.map (rx_tv ev))).length) Slot.unset).toArray = ls at hl ⊢
  rw [rx_args_map] at hl
  exact k l ev p e s m _ below meth c C R s.heap [] 0 0 mc ms ls ⟨hd.1, hd.2.1, hR, hl, (fun q h => by cases h), by omega, by omega, hd.2.2.1, hd.2.2.2⟩
theorem rx_enter {y : MethodName} {M : rx_M} {d mc ms : Nat} {as : List Value} {σ : rx_S} {post : Option Value → rx_S → Prop} (hy : plainFor y = true) (hM : y.cls = M.1) (hnm : y.name = M.2.2.2.2.1) (hn : (lg_sl as).length ≤ M.2.2.1) (k : rx_W M d mc ms 0 (lv_args 0 as) [] σ (pR post)) (hh : M.2.2.2.2.2 = [] := by rfl) : rx_Calls y M d mc ms as σ post := by
  intro l htr ev
  refine va_MetF (cc := M.2.1) (maxL := M.2.2.1) (ret := M.2.2.2.1) hy rfl ?_
  intro p e s m args below meth c s₁ B hml hv
  obtain ⟨rfl, hR, hOk⟩ := hv
  have hts := atoms_spec (ws := rx_ws y M) B.pre
  have hown : s.vm.findClass M.1 = some m.cls := by rw [← hM]; exact findClass_of_methodNamed B.named
  have htab : c.exceptionTable.toList.map (fun h => (h.startPc, h.endPc, h.handlerPc, h.catchType)) = M.2.2.2.2.2 := by
    have h1 := BodyLoose.noHandlers B (hts _ List.mem_cons_self)
    rw [hh]
    simp [Array.isEmpty_iff.mp h1]
  refine rx_enter0 (d := d) (mc := mc) (ms := ms) (post := pR post) (R := { frames := d, cells := mc, slots := ms, locals := 40 * d }) hn hR ⟨Nat.le_refl _, Nat.le_refl _, Nat.le_refl _, Nat.le_refl _⟩ ⟨B.exec, B.bytes, hml, hown, fun w h => hts w (List.mem_cons_of_mem _ h), B.returns, B.notSynchronized, (name_of_methodNamed B.named B.method).1.trans hnm, hOk, ⟨?_, hR.2.2.1⟩, htr, hR.ns, htab⟩ k
  rw [hR.2.1]
  omega
