/-! ROWS OF THE LAYER: what stands from the start; Object's constructor; arrays of rules -/
section
variable {M : rx_M} {d mc ms pc : Nat} {lo : List (Nat × Value)} {st : List Value} {σ : rx_S} {nx : Nat} {ct : Nat → Nat × Nat} {mi : Nat → Nat → Int32} {ml : Nat → Nat → Int64} {mr : Nat → Nat → Option Nat} {post : rx_End}
theorem rx_obj1 : Cond.instanceMethod Lib.objectInit ∈ rx_TB := rx_in (tm_1 (List.mem_of_getElem? (i := 36) rfl)) rfl
theorem rx_obj2 : Cond.code Lib.objectInit ⟨#[0xb1]⟩ 1 none ∈ rx_TB := rx_in (tm_1 (List.mem_of_getElem? (i := 37) rfl)) rfl
theorem ru_objInit {ix r : Nat} (hd : decode M.2.1 pc = .ok (.invokespecial ix, 3)) (hw : Cond.methodLink M.1 ix Lib.objectInit ∈ rx_TB) (hdd : 1 ≤ d) (hcat : (st.map fun v => v.category).sum ≤ 8) (k : rx_W M d mc ms (pc + 3) lo st σ post) : rx_W M d mc ms pc lo (.ref r :: st) σ post := by
  intro l ev p e s m args below meth c C R H locs cells slots mt sst ls A
  have hts := C.2.2.2.2.1
  refine W.objInit C.1 C.2.1 C.2.2.2.1 (hts _ hw) (hts _ rx_obj1) (hts _ rx_obj2) rfl (by rw [C.2.2.1]; exact A.2.2.2.1.1) (a := rx_ea ev r) (rest := st.map (rx_tv ev)) rfl hd (by have := A.1; omega) ?_ (k l ev p e s m args below meth c C R H locs cells slots mt sst ls A)
  have h1 : 2 * (F0 m pc ls ((Value.ref r :: st).map (rx_tv ev))).monitorRoom + ((st.map (rx_tv ev)).map fun v => v.category).sum ≤ 8 := lv_room (by rw [rx_cats]; exact hcat)
  have h2 := A.2.1
  omega
theorem rx_low {ev : rx_E} {M : rx_M} {lo : List (Nat × Value)} {R : Room} {H : Heap} {locs : List Loc} {cells slots mt sst : Nat} {ls : Array Slot} (A : rx_at ev M d mc ms lo σ R H locs cells slots mt sst ls) : ∀ a : Nat, a < ev.2.2.2.1.size → ¬ rx_A ev a → H[a]? = ev.2.2.2.1[a]? := fun a ha _ => A.2.2.1.2.2.1 a ha
/-- a static of the start -/
theorem ru_gets {ix : Nat} {Cn n dd : String} {v : Value} (hd : decode M.2.1 pc = .ok (.getstatic ix, 3)) (hw : Cond.fieldLink M.1 ix Cn n dd ∈ rx_TB ∨ ∃ host, Cond.fieldLinkNest M.1 ix Cn n dd host ∈ rx_NB) (hq : (Cn, n, dd, v) ∈ rx_ST) (k : rx_W M d mc ms (pc + 3) lo (v :: st) σ post) : rx_W M d mc ms pc lo st σ post := by
  intro l ev p e s m args below meth c C R H locs cells slots mt sst ls A
  have hOk := C.2.2.2.2.2.2.2.2.1
  obtain ⟨cf, kf, fi, f, a, cell, h1, h2, h3, h4, h5, h6, h7, h8⟩ := (hOk.2.2.1 _ hq).kept (rx_low A)
  have K := k l ev p e s m args below meth c C R H locs cells slots mt sst ls A
  have hkn : cell.vm ≠ .unknown := fun e => by rw [e] at h6; cases h6
  rcases hw with w | ⟨host, w⟩
  · exact W.gets C.1 C.2.1 C.2.2.2.1 (C.2.2.2.2.1 _ w) h1 h2 h3 h4 h5 hkn h7 rfl hd K
  · exact va_WgetsN C.1 C.2.1 C.2.2.2.1 (va_Nw.use rfl (hOk.2.1 _ w)) h1 h2 h3 h4 h5 hkn h7 rfl hd K
/-- a field of an object of the start -/
theorem ru_getO {ix r : Nat} {o n dd : String} {v : Value} (hd : decode M.2.1 pc = .ok (.getfield ix, 3)) (hw : Cond.fieldLink M.1 ix o n dd ∈ rx_TB) (hq : ∀ ev U, rx_Ext ev U → va_OF o n dd (rx_tv ev v) (rx_ea ev r) (rx_A ev) U ev.2.2.2.1) (k : rx_W M d mc ms (pc + 3) lo (v :: st) σ post) : rx_W M d mc ms pc lo (.ref r :: st) σ post := by
  intro l ev p e s m args below meth c C R H locs cells slots mt sst ls A
  have hOk := C.2.2.2.2.2.2.2.2.1
  obtain ⟨cf, kk, fi, f, cell, h1, h2, h3, h4, h5, h6⟩ := (hq ev s hOk.2.2).kept (rx_low A)
  exact W.getf C.1 C.2.1 C.2.2.2.1 (C.2.2.2.2.1 _ hw) h1 h2 h3 h4 (v := rx_tv ev v) h5 rfl rfl hd (k l ev p e s m args below meth c C R H locs cells slots mt sst ls A)
/-- a place of a table of references -/
theorem ru_taa {r N i : Nat} {Cn : String} {f : Nat → Nat} (hd : decode M.2.1 pc = .ok (.aaload, 1)) (hq : ∀ ev U, rx_Ext ev U → va_T (.object Cn) (rx_ea ev r) N (fun j => .ref (rx_ea ev (f j))) (rx_A ev) U ev.2.2.2.1) (hi : i < N) (hN : N < 2 ^ 31) (k : rx_W M d mc ms (pc + 1) lo (.ref (f i) :: st) σ post) : rx_W M d mc ms pc lo (.int (nI i) :: .ref r :: st) σ post := by
  intro l ev p e s m args below meth c C R H locs cells slots mt sst ls A
  have hOk := C.2.2.2.2.2.2.2.2.1
  obtain ⟨cell, h1, h2, h3, h4, h5, h6, h7⟩ := (hq ev s hOk.2.2).kept (rx_low A)
  have hc : (nI i).toNatClampNeg = i := nI_clamp (by omega)
  exact W.aald (v := .ref (rx_ea ev (f i))) (ty := .object Cn) C.1 C.2.1 h1 h2 rfl h3 (by rw [hc]; intro q; rcases q with q | q; exact nI_pos (by omega) q; omega) (by rw [hc]; exact h6 i hi) rfl rfl hd (k l ev p e s m args below meth c C R H locs cells slots mt sst ls A)
theorem ru_tb {r N i : Nat} {f : Nat → Int32} (hd : decode M.2.1 pc = .ok (.baload, 1)) (hq : ∀ ev U, rx_Ext ev U → va_T .byte (rx_ea ev r) N (fun j => .int (f j)) (rx_A ev) U ev.2.2.2.1) (hi : i < N) (hN : N < 2 ^ 31) (k : rx_W M d mc ms (pc + 1) lo (.int (f i) :: st) σ post) : rx_W M d mc ms pc lo (.int (nI i) :: .ref r :: st) σ post := by
  intro l ev p e s m args below meth c C R H locs cells slots mt sst ls A
  have hOk := C.2.2.2.2.2.2.2.2.1
  obtain ⟨cell, h1, h2, h3, h4, h5, h6, h7⟩ := (hq ev s hOk.2.2).kept (rx_low A)
  have hc : (nI i).toNatClampNeg = i := nI_clamp (by omega)
  exact W.bald (v := .int (f i)) C.1 C.2.1 h1 h2 h3 (by rw [hc]; intro q; rcases q with q | q; exact nI_pos (by omega) q; omega) (by rw [hc]; exact h6 i hi) rfl rfl hd (k l ev p e s m args below meth c C R H locs cells slots mt sst ls A)
theorem ru_tlen {r N : Nat} {ty : FieldType} {f : rx_E → Nat → Value} (hd : decode M.2.1 pc = .ok (.arraylength, 1)) (hq : ∀ ev U, rx_Ext ev U → va_T ty (rx_ea ev r) N (f ev) (rx_A ev) U ev.2.2.2.1) (k : rx_W M d mc ms (pc + 1) lo (.int (nI N) :: st) σ post) : rx_W M d mc ms pc lo (.ref r :: st) σ post := by
  intro l ev p e s m args below meth c C R H locs cells slots mt sst ls A
  have hOk := C.2.2.2.2.2.2.2.2.1
  obtain ⟨cell, h1, h2, h3, h4, h5, h6, h7⟩ := (hq ev s hOk.2.2).kept (rx_low A)
  exact W.alen (n := nI N) C.1 C.2.1 h1 h2 h5 rfl rfl hd (k l ev p e s m args below meth c C R H locs cells slots mt sst ls A)
/-- a text -/
theorem ru_ldcS {ix r : Nat} {tx : String} (hd : decode M.2.1 pc = .ok (.ldc ix, 2)) (hq : (M.1, ix, tx, r) ∈ rx_SR) (k : rx_W M d mc ms (pc + 2) lo (.ref r :: st) σ post) : rx_W M d mc ms pc lo st σ post := by
  intro l ev p e s m args below meth c C R H locs cells slots mt sst ls A
  exact va_ldcS C.1 C.2.1 C.2.2.2.1 (C.2.2.2.2.2.2.2.2.1.2.2.2.2.2.2.2.2.2.2.1 _ hq) hd (k l ev p e s m args below meth c C R H locs cells slots mt sst ls A)
/-- two constants, compared -/
theorem ru_acmp_eq {a b : Nat} {off : Int} {tgt : Nat} (hd : decode M.2.1 pc = .ok (.if_acmp .eq off, 3)) (ht : (pc : Int) + off = (tgt : Int)) (ha : 1 ≤ a ∧ a ≤ 18) (hb : 1 ≤ b ∧ b ≤ 18) (kt : a = b → rx_W M d mc ms tgt lo st σ post) (kf : ¬ a = b → rx_W M d mc ms (pc + 3) lo st σ post) : rx_W M d mc ms pc lo (.ref b :: .ref a :: st) σ post := by
  intro l ev p e s m args below meth c C R H locs cells slots mt sst ls A
  have hinj := C.2.2.2.2.2.2.2.2.1.2.2.2.2.2.2.2.2.2.2.2.2.2.1 a b ha.1 ha.2 hb.1 hb.2
  exact lv_acmp_eq (rx := some (rx_ea ev a)) (ry := some (rx_ea ev b)) C.1 C.2.1 hd ht (fun h => kt (hinj (Option.some.inj h)) l ev p e s m args below meth c C R H locs cells slots mt sst ls A) (fun h => kf (fun q => h (by rw [q])) l ev p e s m args below meth c C R H locs cells slots mt sst ls A)
theorem ru_acmp_ne {a b : Nat} {off : Int} {tgt : Nat} (hd : decode M.2.1 pc = .ok (.if_acmp .ne off, 3)) (ht : (pc : Int) + off = (tgt : Int)) (ha : 1 ≤ a ∧ a ≤ 18) (hb : 1 ≤ b ∧ b ≤ 18) (kt : ¬ a = b → rx_W M d mc ms tgt lo st σ post) (kf : a = b → rx_W M d mc ms (pc + 3) lo st σ post) : rx_W M d mc ms pc lo (.ref b :: .ref a :: st) σ post := by
  intro l ev p e s m args below meth c C R H locs cells slots mt sst ls A
  have hinj := C.2.2.2.2.2.2.2.2.1.2.2.2.2.2.2.2.2.2.2.2.2.2.1 a b ha.1 ha.2 hb.1 hb.2
  exact lv_acmp_ne (rx := some (rx_ea ev a)) (ry := some (rx_ea ev b)) C.1 C.2.1 hd ht (fun h => kt (fun q => h (by rw [q])) l ev p e s m args below meth c C R H locs cells slots mt sst ls A) (fun h => kf (hinj (Option.some.inj h)) l ev p e s m args below meth c C R H locs cells slots mt sst ls A)
/-- the script -/
theorem ru_sld {L i : Nat} (hd : decode M.2.1 pc = .ok (.iaload, 1)) (hL : ct 0 = (100, L)) (hi : i < L) (hN : L < 2 ^ 31) (k : rx_W M d mc ms (pc + 1) lo (.int (mi 0 i) :: st) (nx, ct, mi, ml, mr) post) : rx_W M d mc ms pc lo (.int (nI i) :: .ref 0 :: st) (nx, ct, mi, ml, mr) post := by
  intro l ev p e s m args below meth c C R H locs cells slots mt sst ls A
  have hOk := C.2.2.2.2.2.2.2.2.1
  obtain ⟨scr, h1, h2, h3, h4, h5⟩ := hOk.2.2.2.2.2.2.2.2.2.2.2.1
  have hb := hOk.2.2.2.2.2.2.2.2.2.2.2.2.1
  obtain ⟨z1, z2⟩ := A.2.2.1.2.2.2.2
  have eL : L = ev.2.2.2.2.1 := congrArg Prod.snd (hL.symm.trans z1)
  subst eL
  have hc : (nI i).toNatClampNeg = i := nI_clamp (by omega)
  have hv : mi 0 i = ev.2.2.2.2.2 i := z2 i hi
  exact W.iald (v := .int (mi 0 i)) C.1 C.2.1 (by rw [A.2.2.1.2.2.1 _ hb]; exact h1) h2 h3 (by rw [hc]; intro q; rcases q with q | q; exact nI_pos (by omega) q; omega) (by rw [hc, hv]; exact h5 i hi) rfl rfl hd (k l ev p e s m args below meth c C R H locs cells slots mt sst ls A)
theorem ru_slen {L : Nat} (hd : decode M.2.1 pc = .ok (.arraylength, 1)) (hL : ct 0 = (100, L)) (k : rx_W M d mc ms (pc + 1) lo (.int (nI L) :: st) (nx, ct, mi, ml, mr) post) : rx_W M d mc ms pc lo (.ref 0 :: st) (nx, ct, mi, ml, mr) post := by
  intro l ev p e s m args below meth c C R H locs cells slots mt sst ls A
  have hOk := C.2.2.2.2.2.2.2.2.1
  obtain ⟨scr, h1, h2, h3, h4, h5⟩ := hOk.2.2.2.2.2.2.2.2.2.2.2.1
  have hb := hOk.2.2.2.2.2.2.2.2.2.2.2.2.1
  obtain ⟨z1, z2⟩ := A.2.2.1.2.2.2.2
  have eL : L = ev.2.2.2.2.1 := congrArg Prod.snd (hL.symm.trans z1)
  subst eL
  exact W.alen (n := nI _) C.1 C.2.1 (by rw [A.2.2.1.2.2.1 _ hb]; exact h1) h2 (by rw [h4]; rfl) rfl rfl hd (k l ev p e s m args below meth c C R H locs cells slots mt sst ls A)
/-- arrays of rules -/
theorem ru_newq {ix N : Nat} {n : Int32} (hd : decode M.2.1 pc = .ok (.anewarray ix, 3)) (hw : Cond.classLink M.1 ix "RuleText$Rule" ∈ rx_TB) (hn : ¬ n < 0) (hN : n.toNatClampNeg = N) (hb : N * 4 ≤ 536870912) (kk : rx_W M d mc ms (pc + 3) lo (.ref nx :: st) (rx_new nx ct mi ml mr 105 N) post) : rx_W M d (mc + 1) (ms + N) pc lo (.int n :: st) (nx, ct, mi, ml, mr) post := by
  intro l ev p e s m args below meth c C R H locs cells slots mt sst ls A
  subst hN
  obtain ⟨a1, a2, a3, a4, a5, a6, a7, a8, a9⟩ := A
  have hts := C.2.2.2.2.1
  have hea : rx_ea ev nx = H.size := a3.new
  refine W.anew C.1 C.2.1 C.2.2.2.1 (hts _ hw) (va_AO.use C.2.2.2.2.2.2.2.2.1.2.2.2.2.2.2.2.2.2.2.2.2.2.2.1) rfl hd rfl hn hb (by omega) (by omega) fun cA kA comp f1 f2 f3 f4 => ?_
  obtain ⟨kA', comp', g1, g2, g3, g4⟩ := (C.2.2.2.2.2.2.2.2.1.1.2 5 _ rfl).2
  have hcA : cA = ev.2.1 105 := Option.some.inj (f1.symm.trans g4)
  subst hcA
  generalize hH1 : H.push ({ cls := ev.2.1 105, slots := Array.replicate n.toNatClampNeg .null, vm := .none } : Cell) = H1
  have z1 : H1.size = H.size + 1 := by rw [← hH1, Array.size_push]
  have o1 : ∀ q : Nat, q < H.size → H1[q]? = H[q]? := fun q hq => by rw [← hH1, Array.getElem?_push, if_neg (Nat.ne_of_lt hq)]
  have e1 : H1[H.size]? = some (arrV (ev.2.1 105) n.toNatClampNeg (fun _ => .null)) := by rw [← hH1, ← arrV_new]; simp
  have K := kk l ev p e s m args below meth c C R H1 locs (cells + 1) (slots + n.toNatClampNeg) mt sst ls ⟨a1, a2, ?_, a4, a5, by omega, by omega, a8, a9⟩
  · rw [List.map_cons, show rx_tv ev (.ref nx) = .ref H.size by rw [← hea]; rfl] at K
    exact K
  · refine a3.grow rfl z1 o1 (fun x hx => ⟨va_up_ne _ _ hx, va_up_ne _ _ hx, va_up_ne _ _ hx, va_up_ne _ _ hx⟩) ⟨fun ci' n' e' h9 => ?_, fun tg' n' e' h9 => ?_, ⟨_, by show H1[rx_ea ev nx]? = _; rw [hea]; exact e1, rfl⟩⟩
    · have e2 : (105, n.toNatClampNeg) = (ci', n') := (va_up_self ct nx (105, n.toNatClampNeg)).symm.trans e'
      cases e2
      omega
    · have e2 : (105, n.toNatClampNeg) = (tg', n') := (va_up_self ct nx (105, n.toNatClampNeg)).symm.trans e'
      cases e2
      show H1[rx_ea ev nx]? = some (vp_cell _ (_, rx_con ev _ _ _ 105 nx))
      rw [hea, e1]
      show _ = some (arrV _ _ (fun j => va_rf ((va_up mr nx (fun _ => none) nx j).map (rx_ea ev))))
      simp [va_up, va_rf]
theorem ru_astq {r n q j nn : Nat} (hd : decode M.2.1 pc = .ok (.aastore, 1)) (hi : rx_is (nx, ct, mi, ml, mr) r 105 n) (hq : rx_is (nx, ct, mi, ml, mr) q 4 nn) (hj : j < n) (hn : n < 2 ^ 31) (kk : rx_W M d mc ms (pc + 1) lo st (nx, ct, mi, ml, rx_u mr r j (some q)) post) : rx_W M d mc ms pc lo (.ref q :: .int (nI j) :: .ref r :: st) (nx, ct, mi, ml, mr) post := by
  intro l ev p e s m args below meth c C R H locs cells slots mt sst ls A
  have hP : H[rx_ea ev r]? = some (vp_cell (ev.2.1 105) (n, .inr (.inr (.inr (.inr (fun i => (mr r i).map (rx_ea ev))))))) := A.2.2.1.ar hi (by decide)
  obtain ⟨cellV, g1, g2, g3, -⟩ := A.2.2.1.ob hq kx_Ru
  have hK := C.2.2.2.2.2.2.2.2.1.1
  have hcls := (hK.1 4 _ rfl).2
  obtain ⟨kA, comp, k1, k2, k3, -⟩ := (hK.2 5 _ rfl).2
  have hcomp : comp = ev.1.1 4 := Option.some.inj (k3.symm.trans hcls.1)
  subst hcomp
  obtain ⟨kC, hkC, -⟩ := hcls.2
  have hc : (nI j).toNatClampNeg = j := nI_clamp (by omega)
  refine W.aast C.1 C.2.1 hP (fun q h => by cases h) (fun h => by cases h) k1 k2 rfl hkC ⟨nI_pos (by omega), by rw [hc]; show _ < (arrV _ _ _).slots.size; rw [arrV_size]; exact hj⟩ g1 (fun q h => by rw [g3] at h; cases h) (by rw [g2]; exact hkC) (by rw [g2]; exact va_assign hcls) rfl rfl hd fun H1 e1 z1 o1 => ?_
  refine kk l ev p e s m args below meth c C R H1 _ cells slots mt sst ls ?_
  obtain ⟨a1, a2, a3, a4, a5, a6⟩ := A
  refine ⟨a1, a2, ?_, a4, t_lc a5 (by rw [rx_ea_in hi.1]; omega), a6⟩
  refine a3.upd (r := r) hi.1 hi.2.1 rfl z1 o1 (fun q hq => ⟨rfl, rfl, rfl, rx_u_r _ _ hq⟩) ⟨fun ci' n' e' h9 => ?_, fun tg n' e' _ => ?_, ⟨_, e1, rfl⟩⟩
  · have e2 : ci' = 105 := congrArg Prod.fst (e'.symm.trans hi.2.2)
    omega
  · have e2 : (105, n) = (tg, n') := hi.2.2.symm.trans e'
    cases e2
    rw [e1]
    show some _ = some (vp_cell _ (n, .inr (.inr (.inr (.inr (fun i => (rx_u mr r j (some q) r i).map (rx_ea ev)))))))
    rw [vp_cell_q, vp_cell_q, arrV_store, hc]
    congr 2
    funext x
    by_cases hx : x = j
    · subst hx
      rw [rx_u_same]
      simp [updV, va_rf]
    · rw [rx_u_k _ _ hx]
      simp [updV, hx]
end
