/-! THE ENVIRONMENT: what stands from the start: constants of enums, tables, texts, the script -/
def rx_kw (i : Nat) : Nat := ([73, 75, 76, 77, 78, 79, 80, 81, 82, 83, 84, 85, 74] : List Nat).getD i 0
def rx_kc (i : Nat) : Int32 := ([0, 0, 0, 0, 0, 1, 0, 0, 0, 1, 0, 0, 0] : List Int32).getD i 0
def rx_uw (i : Nat) : Nat := ([86, 87, 88, 89, 90] : List Nat).getD i 0
def rx_un (i : Nat) : Int64 := ([1, 1000, 1000000, 25400, 25400000] : List Int64).getD i 0
/-- the texts, by their bytes -/
def rx_tx (s : Nat) : List Int32 := ([[98, 101, 116, 119, 101, 101, 110], [111, 102], [97, 110, 121], [99, 108, 97, 115, 115], [110, 101, 116], [97, 110, 100], [111, 110], [108, 97, 121, 101, 114], [116, 111, 112], [98, 111, 116, 116, 111, 109], [105, 110, 110, 101, 114], [105, 110], [114, 97, 110, 107], [108, 101, 97, 115, 116], [109, 111, 115, 116], [116, 111], [59], [110, 111, 32, 115, 117, 99, 104, 32, 107, 105, 110, 100, 32, 111, 114, 32, 116, 104, 105, 110, 103], [110, 111, 32, 115, 117, 99, 104, 32, 114, 117, 108, 101, 32, 111, 114, 32, 112, 97, 114, 116], [110, 111, 32, 115, 117, 99, 104, 32, 114, 117, 108, 101, 32, 111, 114, 32, 101, 110, 100], [110, 111, 32, 115, 117, 99, 104, 32, 114, 117, 108, 101], [110, 111, 32, 115, 117, 99, 104, 32, 97, 114, 101, 97], [110, 111, 32, 115, 117, 99, 104, 32, 111, 110, 101, 32, 111, 102, 32, 116, 119, 111], [110, 111, 32, 99, 104, 97, 114, 97, 99, 116, 101, 114, 32, 97, 104, 101, 97, 100, 32, 111, 102, 32, 116, 104, 101, 32, 102, 105, 114, 115, 116], [83, 116, 114, 105, 110, 103, 32, 105, 110, 100, 101, 120, 32, 111, 117, 116, 32, 111, 102, 32, 114, 97, 110, 103, 101, 58, 32], [65, 114, 114, 97, 121, 32, 105, 110, 100, 101, 120, 32, 111, 117, 116, 32, 111, 102, 32, 114, 97, 110, 103, 101, 58, 32], [32, 98, 101, 116, 119, 101, 101, 110], [32, 111, 102], [32, 97, 110, 121], [32, 99, 108, 97, 115, 115], [32, 110, 101, 116], [32, 97, 110, 100], [32, 111, 110, 32, 116, 111, 112], [32, 111, 110, 32, 98, 111, 116, 116, 111, 109], [32, 111, 110, 32, 105, 110, 110, 101, 114], [32, 111, 110, 32, 108, 97, 121, 101, 114, 32], [32, 105, 110], [32, 114, 97, 110, 107, 32], [32, 108, 101, 97, 115, 116], [32, 109, 111, 115, 116], [32, 116, 111], [32, 110, 109], [32, 59, 10], [103, 97, 112], [119, 97, 105, 118, 101], [119, 105, 100, 116, 104], [118, 105, 97], [108, 101, 110, 103, 116, 104], [115, 107, 101, 119], [116, 117, 114, 110, 115], [104, 101, 105, 103, 104, 116], [109, 97, 115, 107], [115, 105, 108, 107], [116, 101, 115, 116], [112, 108, 97, 110, 101], [114, 105, 110, 103], [110, 109], [117, 109], [109, 109], [109, 105, 108], [105, 110, 99, 104]] : List (List Int32)).getD s []
def rx_sl (s : Nat) : Nat := (rx_tx s).length
def rx_sb (s j : Nat) : Int32 := (rx_tx s).getD j 0
def rx_d1 (j : Nat) : Int32 := nI (48 + j % 10)
def rx_d10 (j : Nat) : Int32 := nI (48 + j / 10)
def rx_SR : List (String × Nat × String × Nat) := [("RuleText$Reader", 114, "between", 30), ("RuleText$Reader", 116, "of", 31), ("RuleText$Reader", 130, "any", 32), ("RuleText$Reader", 132, "class", 33), ("RuleText$Reader", 134, "net", 34), ("RuleText$Reader", 125, "and", 35), ("RuleText$Reader", 146, "on", 36), ("RuleText$Reader", 148, "layer", 37), ("RuleText$Reader", 155, "top", 38), ("RuleText$Reader", 157, "bottom", 39), ("RuleText$Reader", 159, "inner", 40), ("RuleText$Reader", 161, "in", 41), ("RuleText$Reader", 166, "rank", 42), ("RuleText$Reader", 191, "least", 43), ("RuleText$Reader", 193, "most", 44), ("RuleText$Reader", 199, "to", 45), ("RuleText$Reader", 92, ";", 46), ("RuleText", 68, "no such kind or thing", 47), ("RuleText", 87, "no such rule or part", 48), ("RuleText", 127, "no such rule or end", 49), ("RuleText", 136, "no such rule", 50), ("RuleText", 141, "no such area", 51), ("RuleText", 154, "no such one of two", 52), ("RuleText", 168, "no character ahead of the first", 53), ("java/lang/StringIndexOutOfBoundsException", 13, "String index out of range: ", 54), ("java/lang/ArrayIndexOutOfBoundsException", 13, "Array index out of range: ", 55), ("RuleText$Writer", 89, " between", 56), ("RuleText$Writer", 91, " of", 57), ("RuleText$Writer", 104, " any", 58), ("RuleText$Writer", 110, " class", 59), ("RuleText$Writer", 112, " net", 60), ("RuleText$Writer", 99, " and", 61), ("RuleText$Writer", 130, " on top", 62), ("RuleText$Writer", 132, " on bottom", 63), ("RuleText$Writer", 134, " on inner", 64), ("RuleText$Writer", 136, " on layer ", 65), ("RuleText$Writer", 141, " in", 66), ("RuleText$Writer", 147, " rank ", 67), ("RuleText$Writer", 155, " least", 68), ("RuleText$Writer", 160, " most", 69), ("RuleText$Writer", 166, " to", 70), ("RuleText$Writer", 172, " nm", 71), ("RuleText$Writer", 84, " ;\n", 72), ("RuleText$Kind", 75, "gap", 73), ("RuleText$Kind", 114, "waive", 74), ("RuleText$Kind", 81, "width", 75), ("RuleText$Kind", 84, "via", 76), ("RuleText$Kind", 87, "length", 77), ("RuleText$Kind", 90, "skew", 78), ("RuleText$Kind", 93, "turns", 79), ("RuleText$Kind", 96, "height", 80), ("RuleText$Kind", 99, "mask", 81), ("RuleText$Kind", 102, "silk", 82), ("RuleText$Kind", 105, "test", 83), ("RuleText$Kind", 108, "plane", 84), ("RuleText$Kind", 111, "ring", 85), ("RuleText$Unit", 47, "nm", 86), ("RuleText$Unit", 52, "um", 87), ("RuleText$Unit", 57, "mm", 88), ("RuleText$Unit", 62, "mil", 89), ("RuleText$Unit", 67, "inch", 90)]
def rx_ST : List (String × String × String × Value) := [("RuleText$Kind", "GAP", "LRuleText$Kind;", .ref 1), ("RuleText$Kind", "WAIVER", "LRuleText$Kind;", .ref 13), ("RuleText", "KINDS", "[LRuleText$Kind;", .ref 19), ("RuleText", "UNITS", "[LRuleText$Unit;", .ref 20), ("java/lang/String", "COMPACT_STRINGS", "Z", .int 1), ("java/lang/Integer", "DigitOnes", "[B", .ref 21), ("java/lang/Integer", "DigitTens", "[B", .ref 22)]
def rx_tys (ev : rx_E) : List (ClassId × FieldType) := [(ev.2.1 100, .int), (ev.2.1 101, .char), (ev.2.1 102, .boolean), (ev.2.1 103, .byte), (ev.2.1 104, .long), (ev.2.1 105, .object "RuleText$Rule")]
abbrev rx_A (ev : rx_E) : Nat → Prop := fun q => ev.2.2.2.1.size ≤ q
/-- what an exception's making asks beside the good words -/
def rx_DW : List Cond := [(Jvm.Cond.declares ({ cls := "java/lang/RuntimeException", name := "<init>", desc := "(Ljava/lang/String;)V" } : Jvm.MethodName)), (Jvm.Cond.declares ({ cls := "java/lang/Exception", name := "<init>", desc := "(Ljava/lang/String;)V" } : Jvm.MethodName)), (Jvm.Cond.declares ({ cls := "java/lang/Throwable", name := "<init>", desc := "(Ljava/lang/String;)V" } : Jvm.MethodName)), (Jvm.Cond.castable "java/lang/IndexOutOfBoundsException" "java/lang/IndexOutOfBoundsException")]
def rx_lS (C n d : String) (U : State) (H : Heap) : Prop := ∃ (c : ClassId) (k : Class) (i : Nat) (f : Field) (a : Nat) (cell : Cell), U.vm.findClass C = some c ∧ U.fieldFound? C n d = some (c, k, i, f) ∧ f.isStatic = true ∧ k.statics = some a ∧ H[a]? = some cell ∧ cell.vm.isStatics = true ∧ cell.cls = c ∧ f.slot < cell.slots.size ∧ k.staticTypes[f.slot]? = some f.type
theorem rx_lS.moved {C n d : String} {u U : State} {H : Heap} (hvm : u.vm.Alike U.vm) (h : rx_lS C n d u H) : rx_lS C n d U H := by
  obtain ⟨c, k, i, f, a, cell, h1, h2, h3, h4, h5, h6, h7, h8, h9⟩ := h
  obtain ⟨k', hi', he⟩ := State.fieldFound?_setVm hvm h2
  exact ⟨c, k', i, f, a, cell, by rw [hvm.findClass]; exact h1, hi', h3, by rw [he]; exact h4, h5, h6, h7, h8, by rw [he]; exact h9⟩
theorem rx_lS.cond {C n d : String} {s : State} {args : Array Value} (h : rx_lS C n d s s.heap) : (Cond.laysStatic C n d).before args s = true := by
  obtain ⟨c, k, i, f, a, cell, h1, h2, h3, h4, h5, h6, h7, h8, h9⟩ := h
  simp [Cond.before, Cond.holds, Cond.value, h1, h2, h3, h4, h5, h6, h7, h8, h9]
theorem rx_Zq.cond {C n d : String} {A : Nat → Prop} {s : State} {args : Array Value} (h : va_Zq C n d A s s.heap) : (Cond.isRef (.static C n d)).before args s = true := by
  rcases h with h | ⟨t, h⟩
  · obtain ⟨cf, kf, fi, f, a, cell, h1, h2, h3, h4, h5, h6, h7, h8⟩ := h
    simp [Cond.before, Cond.holds, Cond.value, Term.eval, State.fieldNamed?, h1, h2, h4, h5, h6, h7]
  · obtain ⟨cf, kf, fi, f, a, cell, h1, h2, h3, h4, h5, h6, h7, h8⟩ := h
    simp [Cond.before, Cond.holds, Cond.value, Term.eval, State.fieldNamed?, h1, h2, h4, h5, h6, h7]
def rx_ExtT (ev : rx_E) (U : State) : Prop :=
  (∀ w ∈ rx_DW, va_Nw w U) ∧ (rx_lS "java/lang/Throwable" "UNASSIGNED_STACK" "[Ljava/lang/StackTraceElement;" U ev.2.2.2.1 ∧ rx_lS "java/lang/Throwable" "SUPPRESSED_SENTINEL" "Ljava/util/List;" U ev.2.2.2.1) ∧
  (va_Zq "java/lang/Throwable" "UNASSIGNED_STACK" "[Ljava/lang/StackTraceElement;" (rx_A ev) U ev.2.2.2.1 ∧ va_Zq "java/lang/Throwable" "SUPPRESSED_SENTINEL" "Ljava/util/List;" (rx_A ev) U ev.2.2.2.1) ∧ (va_Z "jdk/internal/util/Preconditions" "SIOOBE_FORMATTER" "Ljava/util/function/BiFunction;" .null (rx_A ev) U ev.2.2.2.1 ∨ va_Z "jdk/internal/util/Preconditions" "SIOOBE_FORMATTER" "Ljava/util/function/BiFunction;" (.ref (rx_ea ev 23)) (rx_A ev) U ev.2.2.2.1)
theorem rx_ExtT_of {ev : rx_E} {s U : State} (hvm : s.vm.Alike U.vm) (hw : ∀ w ∈ rx_DW, va_Nw w U) (h : rx_ExtT ev s) : rx_ExtT ev U :=
  ⟨hw, ⟨h.2.1.1.moved hvm, h.2.1.2.moved hvm⟩, ⟨h.2.2.1.1.moved hvm, h.2.2.1.2.moved hvm⟩, h.2.2.2.elim (fun q => Or.inl (va_Z.moved hvm q)) (fun q => Or.inr (va_Z.moved hvm q))⟩
theorem rx_DW_kinds : ∀ w ∈ rx_DW, (∃ x, w = Cond.declares x) ∨ ∃ a b, w = Cond.castable a b := by
  unfold rx_DW
  simp
theorem rx_ExtT_warm {ev : rx_E} {s U : State} (hW : s.WarmedH U.vm) (h : rx_ExtT ev s) : rx_ExtT ev U := by
  refine rx_ExtT_of hW.alike (fun w hw => ?_) h
  rcases rx_DW_kinds w hw with ⟨x, e⟩ | ⟨a, b, e⟩
  · subst e; exact va_Nw.warmD hW (h.1 _ hw)
  · subst e; exact va_Nw.warmC hW (h.1 _ hw)
theorem rx_ExtT_same {ev : rx_E} {u U : State} (hv : U.vm = u.vm) (h : rx_ExtT ev u) : rx_ExtT ev U := by
  refine rx_ExtT_of (by rw [hv]; exact Vm.Alike.refl _) (fun w hw => ?_) h
  rcases rx_DW_kinds w hw with ⟨x, e⟩ | ⟨a, b, e⟩
  · subst e; exact va_Nw.same rfl hv.symm (h.1 _ hw)
  · subst e; exact va_Nw.same rfl hv.symm (h.1 _ hw)
def rx_Ext (ev : rx_E) (U : State) : Prop :=
  (∀ q ∈ rx_ST, va_Z q.1 q.2.1 q.2.2.1 (rx_tv ev q.2.2.2) (rx_A ev) U ev.2.2.2.1) ∧
  (∀ i, i < 13 → va_OF "RuleText$Kind" "number" "I" (.int (nI i)) (rx_ea ev (1 + i)) (rx_A ev) U ev.2.2.2.1 ∧ va_OF "RuleText$Kind" "word" "Ljava/lang/String;" (.ref (rx_ea ev (rx_kw i))) (rx_ea ev (1 + i)) (rx_A ev) U ev.2.2.2.1 ∧ va_OF "RuleText$Kind" "counted" "Z" (.int (rx_kc i)) (rx_ea ev (1 + i)) (rx_A ev) U ev.2.2.2.1) ∧
  (∀ j, j < 5 → va_OF "RuleText$Unit" "word" "Ljava/lang/String;" (.ref (rx_ea ev (rx_uw j))) (rx_ea ev (14 + j)) (rx_A ev) U ev.2.2.2.1 ∧ va_OF "RuleText$Unit" "nm" "J" (.long (rx_un j)) (rx_ea ev (14 + j)) (rx_A ev) U ev.2.2.2.1) ∧
  (∀ s, s < 61 → va_O "java/lang/String" (rx_ea ev (30 + s)) (rx_A ev) U ev.2.2.2.1 ∧ va_OF "java/lang/String" "coder" "B" (.int 0) (rx_ea ev (30 + s)) (rx_A ev) U ev.2.2.2.1 ∧ va_OF "java/lang/String" "value" "[B" (.ref (rx_ea ev (100 + s))) (rx_ea ev (30 + s)) (rx_A ev) U ev.2.2.2.1 ∧ va_T .byte (rx_ea ev (100 + s)) (rx_sl s) (fun j => .int (rx_sb s j)) (rx_A ev) U ev.2.2.2.1) ∧
  va_T (.object "RuleText$Kind") (rx_ea ev 19) 13 (fun j => .ref (rx_ea ev (1 + j))) (rx_A ev) U ev.2.2.2.1 ∧ va_T (.object "RuleText$Unit") (rx_ea ev 20) 5 (fun j => .ref (rx_ea ev (14 + j))) (rx_A ev) U ev.2.2.2.1 ∧
  va_T .byte (rx_ea ev 21) 100 (fun j => .int (rx_d1 j)) (rx_A ev) U ev.2.2.2.1 ∧ va_T .byte (rx_ea ev 22) 100 (fun j => .int (rx_d10 j)) (rx_A ev) U ev.2.2.2.1 ∧
  (∀ q ∈ rx_SR, vk_R q.1 q.2.1 q.2.2.1 (rx_ea ev q.2.2.2) U) ∧ va_X (rx_ea ev 0) ev.2.2.2.2.1 ev.2.2.2.2.2 U ev.2.2.2.1 ∧ rx_ea ev 0 < ev.2.2.2.1.size ∧
  (∀ i j, 1 ≤ i → i ≤ 18 → 1 ≤ j → j ≤ 18 → rx_ea ev i = rx_ea ev j → i = j) ∧ va_AO "RuleText$Rule" U ∧ rx_ExtT ev U
def rx_Ok (ev : rx_E) (U : State) : Prop := va_K ev.1 vwCl (rx_tys ev) U ∧ (∀ w ∈ rx_NB, va_Nw w U) ∧ rx_Ext ev U
theorem rx_NB_warm {s U : State} (hW : s.WarmedH U.vm) (h : ∀ w ∈ rx_NB, va_Nw w s) : ∀ w ∈ rx_NB, va_Nw w U := by
  have key : ∀ w ∈ rx_NB, (∃ a i x q, w = Cond.methodLinkNest a i x q) ∨ ∃ a i b n d q, w = Cond.fieldLinkNest a i b n d q := by
    unfold rx_NB
    simp
  intro w hw
  rcases key w hw with ⟨a, i, x, q, e⟩ | ⟨a, i, b, n, d, q, e⟩
  · subst e
    exact va_Nw.warmM hW (h _ hw)
  · subst e
    exact va_Nw.warmF hW (h _ hw)
theorem rx_Ext_moved {ev : rx_E} {s U : State} (hvm : s.vm.Alike U.vm) (hR : ∀ q ∈ rx_SR, vk_R q.1 q.2.1 q.2.2.1 (rx_ea ev q.2.2.2) U) (hT : rx_ExtT ev s → rx_ExtT ev U) (h : rx_Ext ev s) : rx_Ext ev U := by
  obtain ⟨h1, h2, h3, h4, h5, h6, h7, h8, h9, h10, h11, h12, h13, h14⟩ := h
  exact ⟨fun q hq => va_Z.moved hvm (h1 q hq), fun i hi => ⟨va_OF.moved hvm (h2 i hi).1, va_OF.moved hvm (h2 i hi).2.1, va_OF.moved hvm (h2 i hi).2.2⟩, fun j hj => ⟨va_OF.moved hvm (h3 j hj).1, va_OF.moved hvm (h3 j hj).2⟩,
    fun s hs => ⟨va_O.moved hvm (h4 s hs).1, va_OF.moved hvm (h4 s hs).2.1, va_OF.moved hvm (h4 s hs).2.2.1, va_T.moved hvm (h4 s hs).2.2.2⟩, va_T.moved hvm h5, va_T.moved hvm h6, va_T.moved hvm h7, va_T.moved hvm h8, hR, va_X.moved hvm h10, h11, h12, h13.moved hvm, hT h14⟩
theorem rx_Ok_warm {ev : rx_E} {s U : State} (hW : s.WarmedH U.vm) (h : rx_Ok ev s) : rx_Ok ev U :=
  ⟨va_K.moved hW.alike h.1, rx_NB_warm hW h.2.1, rx_Ext_moved hW.alike (fun q hq => vk_R.warm hW (h.2.2.2.2.2.2.2.2.2.2.1 q hq)) (rx_ExtT_warm hW) h.2.2⟩
theorem rx_Nw_same {w : Cond} {u U : State} (hw : w ∈ rx_NB) (hv : u.vm = U.vm) (h : va_Nw w u) : va_Nw w U := by
  have key : ∀ w ∈ rx_NB, (∃ a i x q, w = Cond.methodLinkNest a i x q) ∨ ∃ a i b n d q, w = Cond.fieldLinkNest a i b n d q := by
    unfold rx_NB
    simp
  rcases key w hw with ⟨a, i, x, q, e⟩ | ⟨a, i, b, n, d, q, e⟩
  · subst e
    exact va_Nw.same rfl hv h
  · subst e
    exact va_Nw.same rfl hv h
theorem rx_Ok_same {ev : rx_E} {u U : State} (hv : U.vm = u.vm) (h : rx_Ok ev u) : rx_Ok ev U := by
  have hal : u.vm.Alike U.vm := by rw [hv]; exact Vm.Alike.refl _
  exact ⟨va_K.moved hal h.1, fun w hw => rx_Nw_same hw hv.symm (h.2.1 w hw), rx_Ext_moved hal (fun q hq => vk_R.same hv (h.2.2.2.2.2.2.2.2.2.2.1 q hq)) (rx_ExtT_same hv) h.2.2⟩
