/-! ROWS OF THE LAYER: calls -/
theorem rx_goodIn {y : MethodName} {M : rx_M} (h : Cond.code y M.2.1 M.2.2.1 M.2.2.2.1 ∈ rx_TB) : GoodIn rx_TB (rx_ws y M) := by
  intro w hw
  rcases List.mem_cons.mp hw with e | e
  · subst e
    exact ⟨h, good_of_word (rx_good _ h)⟩
  · exact ⟨e, good_of_word (rx_good _ e)⟩
/-- what every call needs: the callee's code, its class is there, its place in the caller's pool -/
def rx_L (own : String) (ix : Nat) (y : MethodName) (M : rx_M) (n : Nat) : Prop :=
  Cond.code y M.2.1 M.2.2.1 M.2.2.2.1 ∈ rx_TB ∧ Cond.initialized y.cls ∈ rx_TB ∧ (y.cls ≠ "java/lang/invoke/MethodHandle" ∧ y.cls ≠ "java/lang/invoke/VarHandle") ∧ (parseMethodDescriptor y.desc).map (fun d => d.parameters.length) = some n ∧ M.2.2.1 ≤ 21 ∧
    (Cond.methodLink own ix y ∈ rx_TB ∨ ∃ host, Cond.methodLinkNest own ix y host ∈ rx_NB)
def rx_LV (own : String) (ix : Nat) (y : MethodName) (M : rx_M) (n : Nat) : Prop := rx_L own ix y M n ∧ Cond.instanceMethod y ∈ rx_TB ∧ Cond.selects y.cls y y ∈ rx_TB
def rx_LS (own : String) (ix : Nat) (y : MethodName) (M : rx_M) (n : Nat) : Prop := rx_L own ix y M n ∧ Cond.static y ∈ rx_TB
def rx_LI (own : String) (ix : Nat) (y : MethodName) (M : rx_M) (n : Nat) : Prop := rx_L own ix y M n ∧ M.2.2.2.1 = none ∧ y.name = "<init>" ∧ Cond.instanceMethod y ∈ rx_TB
/-- cell r is an object of class Cn -/
def rx_recv (σ : rx_S) (r : Nat) (Cn : String) : Prop := ∀ (ev : rx_E) (s : State) (H : Heap), rx_Ok ev s → rx_R ev σ H → ∃ cell : Cell, H[rx_ea ev r]? = some cell ∧ cell.vm.isStatics = false ∧ s.vm.findClass Cn = some cell.cls
theorem rx_recv_is {σ : rx_S} {r ci n : Nat} {q : vw_C} (hi : rx_is σ r ci n) (hc : rx_cls ci q) : rx_recv σ r q.1 := by
  intro ev s H hOk hR
  obtain ⟨cell, q1, q2, q3, -⟩ := hR.ob hi hc
  exact ⟨cell, q1, by rw [q3]; rfl, by rw [q2]; exact (hOk.1.1 ci _ hc.1).2.1⟩
theorem rx_blind (ev : rx_E) (as : List Value) (σ : rx_S) : FrameBlind (rx_P ev as σ) := fun a U g mk h => ⟨h.1, h.2.1, rx_Ok_same (u := U) (U := U.calling g mk a) rfl h.2.2⟩
theorem rx_toList (ev : rx_E) (v : Option Value) (st : List Value) : (v.toList ++ st).map (rx_tv ev) = (v.map (rx_tv ev)).toList ++ st.map (rx_tv ev) := by cases v <;> rfl
theorem rx_cats (ev : rx_E) (st : List Value) : ((st.map (rx_tv ev)).map fun v => v.category) = st.map fun v => v.category := by
  rw [List.map_map]
  apply List.map_congr_left
  intro v _
  exact rx_tv_cat ev v
section
variable {p : Program} {l : Launch} {e : Env} {R : Room} {s : State} {m : MethodId} {args : Array Value} {below : List Frame} {meth : Method} {c : Code} {H : Heap} {locs : List Loc} {cells slots : Nat} {Q : State → Prop} {pc : Nat} {ls : Array Slot} {rest st0 : List Value} {a : Array Value} {mc1 ms1 : Nat} {ev : rx_E} {post1 : Option Value → rx_S → Prop}
theorem rx_after (hr : va_Run p l e R s m args below meth c H locs cells slots mc1 ms1 (F0 m pc ls st0) rest (rx_Q ev post1 a) (fun q => ev.2.2.2.1.size ≤ q))
    (kk : ∀ (v : Option Value) (τ : rx_S) (H1 : Heap) (L : List Loc), post1 v τ → rx_R ev τ H1 → (∀ q ∈ L, ev.2.2.2.1.size ≤ q.base) → W p l e R s m args below meth c H1 (locs ++ L) (cells + mc1) (slots + ms1) Q (F0 m (pc + 3) ls ((v.map (rx_tv ev)).toList ++ rest))) : W p l e R s m args below meth c H locs cells slots Q (F0 m pc ls st0) := by
  intro T hT X
  obtain ⟨v, st₀, t, T', L, h0, X', hL, e1, e2, ⟨v', τ, hv, hp, hR⟩, st⟩ := hr T hT X
  cases hv
  obtain ⟨t2, a1, b1⟩ := kk v' τ T'.heap L hp (by rw [e1]; exact hR) hL T' rfl X'
  exact ⟨t2, st t2 a1, b1⟩
end
section
variable {M M' : rx_M} {y : MethodName} {d d1 mc ms mc1 ms1 pc ix r : Nat} {lo : List (Nat × Value)} {st stk as : List Value} {σ : rx_S} {post : rx_End} {post1 : Option Value → rx_S → Prop}
theorem ru_callV (hd : decode M.2.1 pc = .ok (.invokevirtual ix, 3)) (hL : rx_LV M.1 ix y M' as.length) (hc : rx_Calls y M' d1 mc1 ms1 (.ref r :: as) σ post1) (hv : rx_recv σ r y.cls) (hdd : d1 + 1 ≤ d) (hstk : stk = as.reverse ++ .ref r :: st) (hcat : (st.map fun v => v.category).sum ≤ 8)
    (k : ∀ v τ, post1 v τ → rx_W M d mc ms (pc + 3) lo (v.toList ++ st) τ post) : rx_W M d (mc1 + mc) (ms1 + ms) pc lo stk σ post := by
  intro l ev p e s m args below meth c C R H locs cells slots mt sst ls A
  obtain ⟨⟨w1, w2, w3, w4, w5, w6⟩, w7, w8⟩ := hL
  obtain ⟨a1, a2, a3, a4, a5, a6, a7, a8, a9⟩ := A
  have hts := C.2.2.2.2.1
  have hOk := C.2.2.2.2.2.2.2.2.1
  have hws := pay_in hts (rx_goodIn (y := y) (M := M') w1)
  have hlen : ∀ sig, parseMethodDescriptor y.desc = some sig → as.length = sig.parameters.length := fun sig h => by
    rw [h] at w4
    exact (Option.some.inj w4).symm
  have hpre : PreV s H y.cls (rx_ea ev r) (rx_P ev (.ref r :: as) σ) (as.map (rx_tv ev)) := ⟨rx_blind _ _ _, hv ev s H hOk a3, fun U hU hW => ⟨rfl, by rw [hU]; exact a3, rx_Ok_warm hW hOk⟩⟩
  have hst : (F0 m pc ls (stk.map (rx_tv ev))).stack = (as.map (rx_tv ev)).reverse ++ .ref (rx_ea ev r) :: st.map (rx_tv ev) := by
    show stk.map (rx_tv ev) = _
    rw [hstk, List.map_append, List.map_reverse]
    rfl
  have hroom : 2 * (F0 m pc ls (stk.map (rx_tv ev))).monitorRoom + ((st.map (rx_tv ev)).map fun v => v.category).sum ≤ 8 := lv_room (by rw [rx_cats]; exact hcat)
  have fin : ∀ (v : Option Value) (τ : rx_S) (H1 : Heap) (L : List Loc), post1 v τ → rx_R ev τ H1 → (∀ q ∈ L, ev.2.2.2.1.size ≤ q.base) → W p l e R s m args below meth c H1 (locs ++ L) (cells + mc1) (slots + ms1) (post below ev args s mt sst) (F0 m (pc + 3) ls ((v.map (rx_tv ev)).toList ++ st.map (rx_tv ev))) := by
    intro v τ H1 L h1 h2 h3
    have K := k v τ h1 l ev p e s m args below meth c C R H1 (locs ++ L) (cells + mc1) (slots + ms1) mt sst ls ⟨a1, a2, h2, a4, t_lL a5 h3, by omega, by omega, a8, a9⟩
    rw [rx_toList] at K
    exact K
  rcases w6 with w6 | ⟨host, w6⟩
  · exact rx_after (va_runV ⟨C.1, C.2.1, C.2.2.1, C.2.2.2.1, hts⟩ (hc l C.2.2.2.2.2.2.2.2.2.2.1 ev) ⟨⟨rfl, rfl, by show d1 + 1 ≤ _; omega, by show 8 + (M'.2.2.1 + 11) + 40 * d1 ≤ _; omega, hws, List.mem_cons_self, hts _ w1, hts _ w2, w3, hlen, hts _ w6⟩, hts _ w7, hts _ w8⟩ hpre rfl (List.length_map _) a4.1 hst hroom hd ⟨by omega, by omega⟩) fin
  · exact rx_after (va_runVN ⟨C.1, C.2.1, C.2.2.1, C.2.2.2.1, hts⟩ (hc l C.2.2.2.2.2.2.2.2.2.2.1 ev) ⟨⟨⟨rfl, rfl, by show d1 + 1 ≤ _; omega, by show 8 + (M'.2.2.1 + 11) + 40 * d1 ≤ _; omega, hws, List.mem_cons_self⟩, hts _ w1, hts _ w2, w3, hlen, va_Nw.use rfl (hOk.2.1 _ w6)⟩, hts _ w7, hts _ w8⟩ hpre rfl (List.length_map _) a4.1 hst hroom hd ⟨by omega, by omega⟩) fin
theorem ru_callS (hd : decode M.2.1 pc = .ok (.invokestatic ix, 3)) (hL : rx_LS M.1 ix y M' as.length) (hc : rx_Calls y M' d1 mc1 ms1 as σ post1) (hdd : d1 + 1 ≤ d) (hstk : stk = as.reverse ++ st) (hcat : (st.map fun v => v.category).sum ≤ 8)
    (k : ∀ v τ, post1 v τ → rx_W M d mc ms (pc + 3) lo (v.toList ++ st) τ post) : rx_W M d (mc1 + mc) (ms1 + ms) pc lo stk σ post := by
  intro l ev p e s m args below meth c C R H locs cells slots mt sst ls A
  obtain ⟨⟨w1, w2, w3, w4, w5, w6⟩, w7⟩ := hL
  obtain ⟨a1, a2, a3, a4, a5, a6, a7, a8, a9⟩ := A
  have hts := C.2.2.2.2.1
  have hOk := C.2.2.2.2.2.2.2.2.1
  have hws := pay_in hts (rx_goodIn (y := y) (M := M') w1)
  have hlen : ∀ sig, parseMethodDescriptor y.desc = some sig → as.length = sig.parameters.length := fun sig h => by
    rw [h] at w4
    exact (Option.some.inj w4).symm
  have hpre : PreS s H (rx_P ev as σ) (as.map (rx_tv ev)) := ⟨rx_blind _ _ _, fun U hU hW => ⟨rfl, by rw [hU]; exact a3, rx_Ok_warm hW hOk⟩⟩
  have hst : (F0 m pc ls (stk.map (rx_tv ev))).stack = (as.map (rx_tv ev)).reverse ++ st.map (rx_tv ev) := by
    show stk.map (rx_tv ev) = _
    rw [hstk, List.map_append, List.map_reverse]
  have hroom : 2 * (F0 m pc ls (stk.map (rx_tv ev))).monitorRoom + ((st.map (rx_tv ev)).map fun v => v.category).sum ≤ 8 := lv_room (by rw [rx_cats]; exact hcat)
  have fin : ∀ (v : Option Value) (τ : rx_S) (H1 : Heap) (L : List Loc), post1 v τ → rx_R ev τ H1 → (∀ q ∈ L, ev.2.2.2.1.size ≤ q.base) → W p l e R s m args below meth c H1 (locs ++ L) (cells + mc1) (slots + ms1) (post below ev args s mt sst) (F0 m (pc + 3) ls ((v.map (rx_tv ev)).toList ++ st.map (rx_tv ev))) := by
    intro v τ H1 L h1 h2 h3
    have K := k v τ h1 l ev p e s m args below meth c C R H1 (locs ++ L) (cells + mc1) (slots + ms1) mt sst ls ⟨a1, a2, h2, a4, t_lL a5 h3, by omega, by omega, a8, a9⟩
    rw [rx_toList] at K
    exact K
  rcases w6 with w6 | ⟨host, w6⟩
  · exact rx_after (va_runS ⟨C.1, C.2.1, C.2.2.1, C.2.2.2.1, hts⟩ (hc l C.2.2.2.2.2.2.2.2.2.2.1 ev) ⟨⟨rfl, rfl, by show d1 + 1 ≤ _; omega, by show 8 + (M'.2.2.1 + 11) + 40 * d1 ≤ _; omega, hws, List.mem_cons_self, hts _ w1, hts _ w2, w3, hlen, hts _ w6⟩, hts _ w7⟩ hpre rfl (List.length_map _) a4.1 hst hroom hd ⟨by omega, by omega⟩) fin
  · exact rx_after (va_runSN ⟨C.1, C.2.1, C.2.2.1, C.2.2.2.1, hts⟩ (hc l C.2.2.2.2.2.2.2.2.2.2.1 ev) ⟨⟨⟨rfl, rfl, by show d1 + 1 ≤ _; omega, by show 8 + (M'.2.2.1 + 11) + 40 * d1 ≤ _; omega, hws, List.mem_cons_self⟩, hts _ w1, hts _ w2, w3, hlen, va_Nw.use rfl (hOk.2.1 _ w6)⟩, hts _ w7, trivial⟩ hpre rfl (List.length_map _) a4.1 hst hroom hd ⟨by omega, by omega⟩) fin
theorem ru_callI (hd : decode M.2.1 pc = .ok (.invokespecial ix, 3)) (hL : rx_LI M.1 ix y M' as.length) (hc : rx_Calls y M' d1 mc1 ms1 (.ref r :: as) σ post1) (hdd : d1 + 1 ≤ d) (hstk : stk = as.reverse ++ .ref r :: st) (hcat : (st.map fun v => v.category).sum ≤ 8)
    (k : ∀ v τ, post1 v τ → rx_W M d mc ms (pc + 3) lo (v.toList ++ st) τ post) : rx_W M d (mc1 + mc) (ms1 + ms) pc lo stk σ post := by
  intro l ev p e s m args below meth c C R H locs cells slots mt sst ls A
  obtain ⟨⟨w1, w2, w3, w4, w5, w6⟩, w7, w8, w9⟩ := hL
  obtain ⟨a1, a2, a3, a4, a5, a6, a7, a8, a9⟩ := A
  have hts := C.2.2.2.2.1
  have hOk := C.2.2.2.2.2.2.2.2.1
  have hws := pay_in hts (rx_goodIn (y := y) (M := M') w1)
  have hlen : ∀ sig, parseMethodDescriptor y.desc = some sig → as.length = sig.parameters.length := fun sig h => by
    rw [h] at w4
    exact (Option.some.inj w4).symm
  have hpre : PreS s H (rx_P ev (.ref r :: as) σ) (.ref (rx_ea ev r) :: as.map (rx_tv ev)) := ⟨rx_blind _ _ _, fun U hU hW => ⟨rfl, by rw [hU]; exact a3, rx_Ok_warm hW hOk⟩⟩
  have hst : (F0 m pc ls (stk.map (rx_tv ev))).stack = (as.map (rx_tv ev)).reverse ++ .ref (rx_ea ev r) :: st.map (rx_tv ev) := by
    show stk.map (rx_tv ev) = _
    rw [hstk, List.map_append, List.map_reverse]
    rfl
  have hroom : 2 * (F0 m pc ls (stk.map (rx_tv ev))).monitorRoom + ((st.map (rx_tv ev)).map fun v => v.category).sum ≤ 8 := lv_room (by rw [rx_cats]; exact hcat)
  have fin : ∀ (v : Option Value) (τ : rx_S) (H1 : Heap) (L : List Loc), post1 v τ → rx_R ev τ H1 → (∀ q ∈ L, ev.2.2.2.1.size ≤ q.base) → W p l e R s m args below meth c H1 (locs ++ L) (cells + mc1) (slots + ms1) (post below ev args s mt sst) (F0 m (pc + 3) ls ((v.map (rx_tv ev)).toList ++ st.map (rx_tv ev))) := by
    intro v τ H1 L h1 h2 h3
    have K := k v τ h1 l ev p e s m args below meth c C R H1 (locs ++ L) (cells + mc1) (slots + ms1) mt sst ls ⟨a1, a2, h2, a4, t_lL a5 h3, by omega, by omega, a8, a9⟩
    rw [rx_toList] at K
    exact K
  rw [w7] at w1
  have w1' := w1
  rcases w6 with w6 | ⟨host, w6⟩
  · exact rx_after (va_runI ⟨C.1, C.2.1, C.2.2.1, C.2.2.2.1, hts⟩ (hc l C.2.2.2.2.2.2.2.2.2.2.1 ev) ⟨⟨rfl, rfl, by show d1 + 1 ≤ _; omega, by show 8 + (M'.2.2.1 + 11) + 40 * d1 ≤ _; omega, hws, by rw [← w7]; exact List.mem_cons_self, hts _ w1, hts _ w2, w3, hlen, hts _ w6⟩, w8, hts _ w9⟩ hpre rfl (List.length_map _) a4.1 hst hroom hd ⟨by omega, by omega⟩) fin
  · exact rx_after (va_runIN ⟨C.1, C.2.1, C.2.2.1, C.2.2.2.1, hts⟩ (hc l C.2.2.2.2.2.2.2.2.2.2.1 ev) ⟨⟨⟨rfl, rfl, by show d1 + 1 ≤ _; omega, by show 8 + (M'.2.2.1 + 11) + 40 * d1 ≤ _; omega, hws, by rw [← w7]; exact List.mem_cons_self⟩, hts _ w1, hts _ w2, w3, hlen, va_Nw.use rfl (hOk.2.1 _ w6)⟩, w8, hts _ w9⟩ hpre rfl (List.length_map _) a4.1 hst hroom hd ⟨by omega, by omega⟩) fin
end
