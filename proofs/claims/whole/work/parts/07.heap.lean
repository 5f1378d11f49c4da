/-! ROWS OF THE LAYER: fields, arrays, new cells -/
def rx_kd : FieldType → Nat
  | .long => 1
  | .object _ => 2
  | .array _ => 2
  | _ => 0
/-- class ci is this one, with these fields -/
def rx_cls (ci : Nat) (q : vw_C) : Prop := vwCl[ci]? = some q ∧ ci < 90 ∧ (∀ w ∈ u_ws q.1 q.2.1 q.2.2, w ∈ rx_TB) ∧ (∀ k, k < q.2.2 → parseFieldDescriptor (q.2.1 k).2.2.1 = some (rx_ty ci k)) ∧ (∀ a, a < q.2.2 → ∀ b, b < q.2.2 → a ≠ b → (q.2.1 a).2.1 ≠ (q.2.1 b).2.1)
/-- place ix of class own's pool is field k of class ci -/
def rx_F (own : String) (ix ci k : Nat) : Prop := ∃ q : vw_C, rx_cls ci q ∧ k < q.2.2 ∧ (Cond.fieldLink own ix (q.2.1 k).1 (q.2.1 k).2.1 (q.2.1 k).2.2.1 ∈ rx_TB ∨ ∃ host, Cond.fieldLinkNest own ix (q.2.1 k).1 (q.2.1 k).2.1 (q.2.1 k).2.2.1 host ∈ rx_NB)
theorem rx_fv_i {ev : rx_E} {mi : Nat → Nat → Int32} {ml : Nat → Nat → Int64} {mr : Nat → Nat → Option Nat} {r k : Nat} {t : FieldType} (h : rx_kd t = 0) : rx_fv ev mi ml mr r t k = .int (mi r k) := by
  cases t <;> first | rfl | cases h
theorem rx_fv_l {ev : rx_E} {mi : Nat → Nat → Int32} {ml : Nat → Nat → Int64} {mr : Nat → Nat → Option Nat} {r k : Nat} {t : FieldType} (h : rx_kd t = 1) : rx_fv ev mi ml mr r t k = .long (ml r k) := by
  cases t <;> first | rfl | cases h
theorem rx_fv_r {ev : rx_E} {mi : Nat → Nat → Int32} {ml : Nat → Nat → Int64} {mr : Nat → Nat → Option Nat} {r k : Nat} {t : FieldType} (h : rx_kd t = 2) : rx_fv ev mi ml mr r t k = rx_tv ev (va_rf (mr r k)) := by
  cases t <;> first | rfl | cases h
theorem rx_R.ob {ev : rx_E} {σ : rx_S} {H : Heap} {r ci n : Nat} {q : vw_C} (h : rx_R ev σ H) (hi : rx_is σ r ci n) (hc : rx_cls ci q) : t_OB (rx_ea ev r) (ev.1.1 ci) q.2.2 (ev.1.2 ci) H (fun k => rx_fv ev σ.2.2.1 σ.2.2.2.1 σ.2.2.2.2 r (rx_ty ci k) k) := by
  obtain ⟨q', h1, h2⟩ := (h.2.2.2.1 r hi.1 hi.2.1).1 ci n hi.2.2 hc.2.1
  cases hc.1.symm.trans h1
  exact h2
theorem rx_R.ar {ev : rx_E} {σ : rx_S} {H : Heap} {r tg n : Nat} (h : rx_R ev σ H) (hi : rx_is σ r tg n) (ht : 100 ≤ tg) : H[rx_ea ev r]? = some (vp_cell (ev.2.1 tg) (n, rx_con ev σ.2.2.1 σ.2.2.2.1 σ.2.2.2.2 tg r)) := (h.2.2.2.1 r hi.1 hi.2.1).2.1 tg n hi.2.2 ht
theorem rx_one {D : va_G} {cl : List vw_C} {a : Nat} {e : va_E} {H : Heap} (h : va_at D cl (a, e) H) : va_P D cl [(a, e)] H := by
  intro k q hk
  match k, hk with
  | 0, hk => cases hk; exact h
  | k + 1, hk => simp at hk
section
variable {M : rx_M} {d mc ms pc : Nat} {lo : List (Nat × Value)} {st : List Value} {nx : Nat} {ct : Nat → Nat × Nat} {mi : Nat → Nat → Int32} {ml : Nat → Nat → Int64} {mr : Nat → Nat → Option Nat} {post : rx_End}
theorem ru_get {ix ci k r n : Nat} {v : Value} (hd : decode M.2.1 pc = .ok (.getfield ix, 3)) (hF : rx_F M.1 ix ci k) (hi : rx_is (nx, ct, mi, ml, mr) r ci n) (hv : ∀ ev, rx_fv ev mi ml mr r (rx_ty ci k) k = rx_tv ev v) (kk : rx_W M d mc ms (pc + 3) lo (v :: st) (nx, ct, mi, ml, mr) post) : rx_W M d mc ms pc lo (.ref r :: st) (nx, ct, mi, ml, mr) post := by
  intro l ev p e s m args below meth c C R H locs cells slots mt sst ls A
  obtain ⟨q, hc, hk, hlk⟩ := hF
  have hob := A.2.2.1.ob hi hc
  obtain ⟨cell, q1, q2, q3, q4⟩ := hob
  have hOk := C.2.2.2.2.2.2.2.2.1
  obtain ⟨hS, hfc, kC, hkC, hkind⟩ := hOk.1.1 ci _ hc.1
  obtain ⟨cf, kf, fi, f, hfi, hsl⟩ := hS k hk
  have hsv : cell.slots[f.slot]? = some (rx_tv ev v) := by rw [hsl, q4 k hk]; exact congrArg some (hv ev)
  have hst := (u_facts hfc hkC (u_lays C.2.2.2.2.1 hc.2.2.1 hk) hfi).1
  have hkn : cell.vm ≠ .unknown := by rw [q3]; exact fun h => by cases h
  have K := kk l ev p e s m args below meth c C R H locs cells slots mt sst ls A
  rcases hlk with h | ⟨host, h⟩
  · exact W.getf C.1 C.2.1 C.2.2.2.1 (C.2.2.2.2.1 _ h) hfi hst q1 hkn (v := rx_tv ev v) hsv rfl rfl hd K
  · exact va_Wgetf C.1 C.2.1 C.2.2.2.1 (va_Nw.use rfl (hOk.2.1 _ h)) hfi hst q1 hkn (v := rx_tv ev v) hsv rfl rfl hd K
theorem ru_getI {ix ci k r n : Nat} (hd : decode M.2.1 pc = .ok (.getfield ix, 3)) (hF : rx_F M.1 ix ci k) (hi : rx_is (nx, ct, mi, ml, mr) r ci n) (hk : rx_kd (rx_ty ci k) = 0) (kk : rx_W M d mc ms (pc + 3) lo (.int (mi r k) :: st) (nx, ct, mi, ml, mr) post) : rx_W M d mc ms pc lo (.ref r :: st) (nx, ct, mi, ml, mr) post :=
  ru_get hd hF hi (fun _ => rx_fv_i hk) kk
theorem ru_getL {ix ci k r n : Nat} (hd : decode M.2.1 pc = .ok (.getfield ix, 3)) (hF : rx_F M.1 ix ci k) (hi : rx_is (nx, ct, mi, ml, mr) r ci n) (hk : rx_kd (rx_ty ci k) = 1) (kk : rx_W M d mc ms (pc + 3) lo (.long (ml r k) :: st) (nx, ct, mi, ml, mr) post) : rx_W M d mc ms pc lo (.ref r :: st) (nx, ct, mi, ml, mr) post :=
  ru_get hd hF hi (fun _ => rx_fv_l hk) kk
theorem ru_getR {ix ci k r n a : Nat} (hd : decode M.2.1 pc = .ok (.getfield ix, 3)) (hF : rx_F M.1 ix ci k) (hi : rx_is (nx, ct, mi, ml, mr) r ci n) (hk : rx_kd (rx_ty ci k) = 2) (ha : mr r k = some a) (kk : rx_W M d mc ms (pc + 3) lo (.ref a :: st) (nx, ct, mi, ml, mr) post) : rx_W M d mc ms pc lo (.ref r :: st) (nx, ct, mi, ml, mr) post :=
  ru_get hd hF hi (fun _ => by rw [rx_fv_r hk, ha]; rfl) kk
theorem ru_getN {ix ci k r n : Nat} (hd : decode M.2.1 pc = .ok (.getfield ix, 3)) (hF : rx_F M.1 ix ci k) (hi : rx_is (nx, ct, mi, ml, mr) r ci n) (hk : rx_kd (rx_ty ci k) = 2) (ha : mr r k = none) (kk : rx_W M d mc ms (pc + 3) lo (.null :: st) (nx, ct, mi, ml, mr) post) : rx_W M d mc ms pc lo (.ref r :: st) (nx, ct, mi, ml, mr) post :=
  ru_get hd hF hi (fun _ => by rw [rx_fv_r hk, ha]; rfl) kk
/-- a field is written; fin: a final one, in its class's own constructor -/
theorem ru_put {ix ci k r n : Nat} {v : Value} {mi' : Nat → Nat → Int32} {ml' : Nat → Nat → Int64} {mr' : Nat → Nat → Option Nat} (hd : decode M.2.1 pc = .ok (.putfield ix, 3)) (hF : rx_F M.1 ix ci k) (hi : rx_is (nx, ct, mi, ml, mr) r ci n)
    (hfin : ∀ q, vwCl[ci]? = some q → (q.2.1 k).2.2.2 = false ∨ ((q.2.1 k).2.2.2 = true ∧ M.2.2.2.2.1 = "<init>" ∧ (q.2.1 k).1 = M.1)) (hn : ∀ ev, narrow (rx_ty ci k) (rx_tv ev v) = rx_tv ev v ∧ fits (rx_ty ci k) (rx_tv ev v) = true)
    (hv : ∀ ev j, rx_fv ev mi' ml' mr' r (rx_ty ci j) j = if j = k then rx_tv ev v else rx_fv ev mi ml mr r (rx_ty ci j) j) (ho : ∀ q : Nat, q ≠ r → mi' q = mi q ∧ ml' q = ml q ∧ mr' q = mr q)
    (kk : rx_W M d mc ms (pc + 3) lo st (nx, ct, mi', ml', mr') post) : rx_W M d mc ms pc lo (v :: .ref r :: st) (nx, ct, mi, ml, mr) post := by
  intro l ev p e s m args below meth c C R H locs cells slots mt sst ls A
  obtain ⟨q, hc, hk, hlk⟩ := hF
  have hob := A.2.2.1.ob hi hc
  obtain ⟨cell, q1, q2, q3, q4⟩ := hob
  have hOk := C.2.2.2.2.2.2.2.2.1
  have hts := C.2.2.2.2.1
  have hap := va_apart (own := M.1) hts hc.2.2.1 (rx_ty ci) hc.2.2.2.1 hc.2.2.2.2 hOk.1 hc.1
  obtain ⟨hS, hfc, kC, hkC, hkind⟩ := hOk.1.1 ci _ hc.1
  obtain ⟨cf, kf, fi, f, hfi, hsl⟩ := hS k hk
  have hst := (u_facts hfc hkC (u_lays hts hc.2.2.1 hk) hfi).1
  have hkn : cell.vm ≠ .unknown := by rw [q3]; exact fun h => by cases h
  have hlay := hts _ (hc.2.2.1 _ (u_in_lay hk))
  have h6 := u_fits hfc hkC hkind (u_lays hts hc.2.2.1 hk) hfi (hc.2.2.2.1 k hk) (hn ev).1 (hn ev).2
  have hacc : hasFlag f.accessFlags Acc.final = false ∨ (m.cls = cf ∧ meth.name = "<init>") := by
    rcases hfin q hc.1 with h | ⟨h, h', h''⟩
    · unfold u_lay at hlay
      rw [if_neg (by rw [h]; decide)] at hlay
      exact Or.inl (u_store hfc hkC hkind hlay hfi (hc.2.2.2.1 k hk) (hn ev).1 (hn ev).2).1
    · unfold u_lay at hlay
      rw [if_pos h] at hlay
      have hcf : m.cls = cf := by
        obtain ⟨_, _, c', _, _, _, -, -, hf', -, -, -, hown2, -⟩ := Cond.laysFinal_spec hlay
        have e1 : c' = cf := by have := hfi.symm.trans hf'; simp at this; exact this.1.symm
        rw [h''] at hown2
        rw [← e1]; exact Option.some.inj (C.2.2.2.1.symm.trans hown2)
      exact Or.inr ⟨hcf, C.2.2.2.2.2.2.2.1.trans h'⟩
  have hlt : f.slot < cell.slots.size := by rw [hsl]; exact k2_hasslot (q4 k hk)
  have ha : rx_ea ev r < H.size := (Array.getElem?_eq_some_iff.mp q1).1
  have K := kk l ev p e s m args below meth c C R (H.setIfInBounds (rx_ea ev r) (cell.setSlot f.slot (rx_tv ev v))) (locs ++ [⟨rx_ea ev r, f.slot⟩]) cells slots mt sst ls (by
    obtain ⟨a1, a2, a3, a4, a5, a6⟩ := A
    refine ⟨a1, a2, ?_, a4, t_lc a5 (by rw [rx_ea_in hi.1]; omega), a6⟩
    refine a3.upd (r := r) hi.1 hi.2.1 rfl (by simp) (fun q hq => by simp [Array.getElem?_setIfInBounds, Ne.symm hq]) (fun q hq => ⟨rfl, ho q hq⟩) ⟨fun ci' n' e' _ => ?_, fun tg n' e' h9 => ?_, ⟨cell.setSlot f.slot (rx_tv ev v), by simp [Array.getElem?_setIfInBounds, ha], by show cell.vm.isStatics = false; rw [q3]; rfl⟩⟩
    · have e2 : ci' = ci := congrArg Prod.fst (e'.symm.trans hi.2.2)
      subst e2
      refine ⟨q, hc.1, ⟨cell.setSlot f.slot (rx_tv ev v), by simp [Array.getElem?_setIfInBounds, ha], q2, q3, fun j hj => ?_⟩⟩
      rw [hsl]
      have := t_set q4 hap hk (rx_tv ev v) j hj
      rw [this]
      show some (updV _ _ _ _) = some (rx_fv _ _ _ _ _ _ _)
      rw [hv ev j]
      simp only [updV]
    · have e2 : tg = ci := congrArg Prod.fst (e'.symm.trans hi.2.2)
      exact absurd hc.2.1 (by omega))
  rcases hlk with h | ⟨host, h⟩
  · exact W.putf C.1 C.2.1 C.2.2.2.1 (hts _ h) hfi hst hacc q1 hkn hlt h6.1 (by rw [q2, q3]; exact h6.2) rfl rfl hd K
  · exact va_Wputf C.1 C.2.1 C.2.2.2.1 (va_Nw.use rfl (hOk.2.1 _ h)) hfi hst hacc q1 hkn hlt h6.1 (by rw [q2, q3]; exact h6.2) rfl rfl hd K
theorem ru_putI {ix ci k r n : Nat} {x : Int32} (hd : decode M.2.1 pc = .ok (.putfield ix, 3)) (hF : rx_F M.1 ix ci k) (hi : rx_is (nx, ct, mi, ml, mr) r ci n) (hk : rx_kd (rx_ty ci k) = 0)
    (hfin : ∀ q, vwCl[ci]? = some q → (q.2.1 k).2.2.2 = false ∨ ((q.2.1 k).2.2.2 = true ∧ M.2.2.2.2.1 = "<init>" ∧ (q.2.1 k).1 = M.1)) (hn : narrow (rx_ty ci k) (.int x) = .int x ∧ fits (rx_ty ci k) (.int x) = true)
    (kk : rx_W M d mc ms (pc + 3) lo st (nx, ct, rx_u mi r k x, ml, mr) post) : rx_W M d mc ms pc lo (.int x :: .ref r :: st) (nx, ct, mi, ml, mr) post := by
  refine ru_put hd hF hi hfin (fun _ => hn) (fun ev j => ?_) (fun q hq => ⟨rx_u_r _ _ hq, rfl, rfl⟩) kk
  by_cases h : j = k
  · subst h
    rw [if_pos rfl, rx_fv_i hk, rx_u_same]
    rfl
  · rw [if_neg h]
    unfold rx_fv
    split <;> simp only [rx_u_k _ _ h]
theorem ru_putL {ix ci k r n : Nat} {x : Int64} (hd : decode M.2.1 pc = .ok (.putfield ix, 3)) (hF : rx_F M.1 ix ci k) (hi : rx_is (nx, ct, mi, ml, mr) r ci n) (hk : rx_ty ci k = .long)
    (hfin : ∀ q, vwCl[ci]? = some q → (q.2.1 k).2.2.2 = false ∨ ((q.2.1 k).2.2.2 = true ∧ M.2.2.2.2.1 = "<init>" ∧ (q.2.1 k).1 = M.1))
    (kk : rx_W M d mc ms (pc + 3) lo st (nx, ct, mi, rx_u ml r k x, mr) post) : rx_W M d mc ms pc lo (.long x :: .ref r :: st) (nx, ct, mi, ml, mr) post := by
  refine ru_put hd hF hi hfin (fun _ => by rw [hk]; exact ⟨rfl, rfl⟩) (fun ev j => ?_) (fun q hq => ⟨rfl, rx_u_r _ _ hq, rfl⟩) kk
  by_cases h : j = k
  · subst h
    rw [if_pos rfl, rx_fv_l (by rw [hk]; rfl), rx_u_same]
    rfl
  · rw [if_neg h]
    unfold rx_fv
    split <;> simp only [rx_u_k _ _ h]
theorem ru_putR {ix ci k r n : Nat} {a : Option Nat} (hd : decode M.2.1 pc = .ok (.putfield ix, 3)) (hF : rx_F M.1 ix ci k) (hi : rx_is (nx, ct, mi, ml, mr) r ci n) (hk : rx_kd (rx_ty ci k) = 2)
    (hfin : ∀ q, vwCl[ci]? = some q → (q.2.1 k).2.2.2 = false ∨ ((q.2.1 k).2.2.2 = true ∧ M.2.2.2.2.1 = "<init>" ∧ (q.2.1 k).1 = M.1))
    (kk : rx_W M d mc ms (pc + 3) lo st (nx, ct, mi, ml, rx_u mr r k a) post) : rx_W M d mc ms pc lo (va_rf a :: .ref r :: st) (nx, ct, mi, ml, mr) post := by
  have hnf : ∀ (t : FieldType) (ev : rx_E), rx_kd t = 2 → narrow t (rx_tv ev (va_rf a)) = rx_tv ev (va_rf a) ∧ fits t (rx_tv ev (va_rf a)) = true := by
    intro t ev ht
    cases t <;> first | (cases ht; done) | (cases a <;> exact ⟨rfl, rfl⟩)
  refine ru_put hd hF hi hfin (fun ev => hnf _ ev hk) (fun ev j => ?_) (fun q hq => ⟨rfl, rfl, rx_u_r _ _ hq⟩) kk
  by_cases h : j = k
  · subst h
    rw [if_pos rfl, rx_fv_r hk, rx_u_same]
  · rw [if_neg h]
    unfold rx_fv
    split <;> simp only [rx_u_k _ _ h]
end
