/-! ROWS OF THE LAYER: arrays, new cells -/
section
variable {M : rx_M} {d mc ms pc : Nat} {lo : List (Nat × Value)} {st : List Value} {nx : Nat} {ct : Nat → Nat × Nat} {mi : Nat → Nat → Int32} {ml : Nat → Nat → Int64} {mr : Nat → Nat → Option Nat} {post : rx_End}
theorem ru_iald {r n : Nat} {i : Int32} (hd : decode M.2.1 pc = .ok (.iaload, 1)) (hi : rx_is (nx, ct, mi, ml, mr) r 100 n) (hin : vp_in i n) (kk : rx_W M d mc ms (pc + 1) lo (.int (mi r i.toNatClampNeg) :: st) (nx, ct, mi, ml, mr) post) : rx_W M d mc ms pc lo (.int i :: .ref r :: st) (nx, ct, mi, ml, mr) post := by
  intro l ev p e s m args below meth c C R H locs cells slots mt sst ls A
  have hP : va_at ev.1 vwCl (rx_ea ev r, .inl (ev.2.1 100, n, .inl (mi r))) H := A.2.2.1.ar hi (by decide)
  exact va_iald C.1 C.2.1 C.2.2.2.2.2.2.2.2.1.1 (rx_one hP) 0 0 rfl rfl hin hd (kk l ev p e s m args below meth c C R H locs cells slots mt sst ls A)
theorem ru_ialdN {r n j : Nat} (hd : decode M.2.1 pc = .ok (.iaload, 1)) (hi : rx_is (nx, ct, mi, ml, mr) r 100 n) (hj : j < n) (hn : n < 2 ^ 31) (kk : rx_W M d mc ms (pc + 1) lo (.int (mi r j) :: st) (nx, ct, mi, ml, mr) post) : rx_W M d mc ms pc lo (.int (nI j) :: .ref r :: st) (nx, ct, mi, ml, mr) post := by
  refine ru_iald hd hi (vp_in_nI hj hn) ?_
  rw [nI_clamp (by omega)]
  exact kk
theorem ru_cald {r n : Nat} {i : Int32} (hd : decode M.2.1 pc = .ok (.caload, 1)) (hi : rx_is (nx, ct, mi, ml, mr) r 101 n) (hin : vp_in i n) (kk : rx_W M d mc ms (pc + 1) lo (.int (mi r i.toNatClampNeg) :: st) (nx, ct, mi, ml, mr) post) : rx_W M d mc ms pc lo (.int i :: .ref r :: st) (nx, ct, mi, ml, mr) post := by
  intro l ev p e s m args below meth c C R H locs cells slots mt sst ls A
  have hP : va_at ev.1 vwCl (rx_ea ev r, .inl (ev.2.1 101, n, .inl (mi r))) H := A.2.2.1.ar hi (by decide)
  exact va_cald C.1 C.2.1 C.2.2.2.2.2.2.2.2.1.1 (rx_one hP) 0 1 rfl rfl hin hd (kk l ev p e s m args below meth c C R H locs cells slots mt sst ls A)
theorem ru_caldN {r n j : Nat} (hd : decode M.2.1 pc = .ok (.caload, 1)) (hi : rx_is (nx, ct, mi, ml, mr) r 101 n) (hj : j < n) (hn : n < 2 ^ 31) (kk : rx_W M d mc ms (pc + 1) lo (.int (mi r j) :: st) (nx, ct, mi, ml, mr) post) : rx_W M d mc ms pc lo (.int (nI j) :: .ref r :: st) (nx, ct, mi, ml, mr) post := by
  refine ru_cald hd hi (vp_in_nI hj hn) ?_
  rw [nI_clamp (by omega)]
  exact kk
theorem ru_zald {r n : Nat} {i : Int32} (hd : decode M.2.1 pc = .ok (.baload, 1)) (hi : rx_is (nx, ct, mi, ml, mr) r 102 n) (hin : vp_in i n) (kk : rx_W M d mc ms (pc + 1) lo (.int (mi r i.toNatClampNeg) :: st) (nx, ct, mi, ml, mr) post) : rx_W M d mc ms pc lo (.int i :: .ref r :: st) (nx, ct, mi, ml, mr) post := by
  intro l ev p e s m args below meth c C R H locs cells slots mt sst ls A
  have hP : va_at ev.1 vwCl (rx_ea ev r, .inl (ev.2.1 102, n, .inl (mi r))) H := A.2.2.1.ar hi (by decide)
  exact va_zald C.1 C.2.1 C.2.2.2.2.2.2.2.2.1.1 (rx_one hP) 0 2 rfl rfl hin hd (kk l ev p e s m args below meth c C R H locs cells slots mt sst ls A)
theorem ru_zaldN {r n j : Nat} (hd : decode M.2.1 pc = .ok (.baload, 1)) (hi : rx_is (nx, ct, mi, ml, mr) r 102 n) (hj : j < n) (hn : n < 2 ^ 31) (kk : rx_W M d mc ms (pc + 1) lo (.int (mi r j) :: st) (nx, ct, mi, ml, mr) post) : rx_W M d mc ms pc lo (.int (nI j) :: .ref r :: st) (nx, ct, mi, ml, mr) post := by
  refine ru_zald hd hi (vp_in_nI hj hn) ?_
  rw [nI_clamp (by omega)]
  exact kk
theorem ru_bald {r n : Nat} {i : Int32} (hd : decode M.2.1 pc = .ok (.baload, 1)) (hi : rx_is (nx, ct, mi, ml, mr) r 103 n) (hin : vp_in i n) (kk : rx_W M d mc ms (pc + 1) lo (.int (mi r i.toNatClampNeg) :: st) (nx, ct, mi, ml, mr) post) : rx_W M d mc ms pc lo (.int i :: .ref r :: st) (nx, ct, mi, ml, mr) post := by
  intro l ev p e s m args below meth c C R H locs cells slots mt sst ls A
  have hP : va_at ev.1 vwCl (rx_ea ev r, .inl (ev.2.1 103, n, .inl (mi r))) H := A.2.2.1.ar hi (by decide)
  exact va_bald C.1 C.2.1 C.2.2.2.2.2.2.2.2.1.1 (rx_one hP) 0 3 rfl rfl hin hd (kk l ev p e s m args below meth c C R H locs cells slots mt sst ls A)
theorem ru_baldN {r n j : Nat} (hd : decode M.2.1 pc = .ok (.baload, 1)) (hi : rx_is (nx, ct, mi, ml, mr) r 103 n) (hj : j < n) (hn : n < 2 ^ 31) (kk : rx_W M d mc ms (pc + 1) lo (.int (mi r j) :: st) (nx, ct, mi, ml, mr) post) : rx_W M d mc ms pc lo (.int (nI j) :: .ref r :: st) (nx, ct, mi, ml, mr) post := by
  refine ru_bald hd hi (vp_in_nI hj hn) ?_
  rw [nI_clamp (by omega)]
  exact kk
theorem ru_lald {r n : Nat} {i : Int32} (hd : decode M.2.1 pc = .ok (.laload, 1)) (hi : rx_is (nx, ct, mi, ml, mr) r 104 n) (hin : vp_in i n) (kk : rx_W M d mc ms (pc + 1) lo (.long (ml r i.toNatClampNeg) :: st) (nx, ct, mi, ml, mr) post) : rx_W M d mc ms pc lo (.int i :: .ref r :: st) (nx, ct, mi, ml, mr) post := by
  intro l ev p e s m args below meth c C R H locs cells slots mt sst ls A
  have hP : va_at ev.1 vwCl (rx_ea ev r, .inl (ev.2.1 104, n, .inr (.inl (ml r)))) H := A.2.2.1.ar hi (by decide)
  exact va_lald C.1 C.2.1 C.2.2.2.2.2.2.2.2.1.1 (rx_one hP) 0 4 rfl rfl hin hd (kk l ev p e s m args below meth c C R H locs cells slots mt sst ls A)
theorem ru_laldN {r n j : Nat} (hd : decode M.2.1 pc = .ok (.laload, 1)) (hi : rx_is (nx, ct, mi, ml, mr) r 104 n) (hj : j < n) (hn : n < 2 ^ 31) (kk : rx_W M d mc ms (pc + 1) lo (.long (ml r j) :: st) (nx, ct, mi, ml, mr) post) : rx_W M d mc ms pc lo (.int (nI j) :: .ref r :: st) (nx, ct, mi, ml, mr) post := by
  refine ru_lald hd hi (vp_in_nI hj hn) ?_
  rw [nI_clamp (by omega)]
  exact kk
theorem ru_aldq {r n tg a : Nat} {i : Int32} {Cn : String} (hd : decode M.2.1 pc = .ok (.aaload, 1)) (hi : rx_is (nx, ct, mi, ml, mr) r tg n) (htg : 104 < tg) (hty : ∀ ev, (rx_tys ev)[tg - 100]? = some (ev.2.1 tg, .object Cn)) (hin : vp_in i n) (ha : mr r i.toNatClampNeg = some a) (kk : rx_W M d mc ms (pc + 1) lo (.ref a :: st) (nx, ct, mi, ml, mr) post) : rx_W M d mc ms pc lo (.int i :: .ref r :: st) (nx, ct, mi, ml, mr) post := by
  intro l ev p e s m args below meth c C R H locs cells slots mt sst ls A
  have hP : va_at ev.1 vwCl (rx_ea ev r, .inl (ev.2.1 tg, n, .inr (.inr (.inr (.inr (fun i => (mr r i).map (rx_ea ev))))))) H := by
    have h := A.2.2.1.ar hi (by omega)
    simp only [rx_con, if_neg (show ¬ tg < 104 by omega), if_neg (show ¬ tg = 104 by omega)] at h
    exact h
  refine va_aldq C.1 C.2.1 C.2.2.2.2.2.2.2.2.1.1 (rx_one hP) 0 (tg - 100) rfl (hty ev) hin hd ?_
  have K := kk l ev p e s m args below meth c C R H locs cells slots mt sst ls A
  rw [ha]
  exact K
theorem ru_alen {r n tg : Nat} {v : Int32} {ty : FieldType} (hd : decode M.2.1 pc = .ok (.arraylength, 1)) (hi : rx_is (nx, ct, mi, ml, mr) r tg n) (htg : 100 ≤ tg) (hty : ∀ ev, (rx_tys ev)[tg - 100]? = some (ev.2.1 tg, ty)) (hv : nI n = v) (kk : rx_W M d mc ms (pc + 1) lo (.int v :: st) (nx, ct, mi, ml, mr) post) : rx_W M d mc ms pc lo (.ref r :: st) (nx, ct, mi, ml, mr) post := by
  intro l ev p e s m args below meth c C R H locs cells slots mt sst ls A
  have hP : va_at ev.1 vwCl (rx_ea ev r, .inl (ev.2.1 tg, n, rx_con ev mi ml mr tg r)) H := A.2.2.1.ar hi htg
  exact va_alen C.1 C.2.1 C.2.2.2.2.2.2.2.2.1.1 (rx_one hP) 0 (tg - 100) rfl (hty ev) hv hd (kk l ev p e s m args below meth c C R H locs cells slots mt sst ls A)
theorem ru_iast {r n : Nat} {i : Int32} {x : Int32} (hd : decode M.2.1 pc = .ok (.iastore, 1)) (hi : rx_is (nx, ct, mi, ml, mr) r 100 n) (hin : vp_in i n) (kk : rx_W M d mc ms (pc + 1) lo st (nx, ct, rx_u mi r i.toNatClampNeg x, ml, mr) post) : rx_W M d mc ms pc lo (.int x :: .int i :: .ref r :: st) (nx, ct, mi, ml, mr) post := by
  intro l ev p e s m args below meth c C R H locs cells slots mt sst ls A
  have hP : H[rx_ea ev r]? = some (vp_cell (ev.2.1 100) (n, .inl (mi r))) := A.2.2.1.ar hi (by decide)
  refine W.iast C.1 C.2.1 hP ((C.2.2.2.2.2.2.2.2.1.1.2 0 _ rfl).1 n (fun j => .int (mi r j))) (fun q => by cases q) (by show ¬ (i < 0 ∨ (arrV _ _ _).slots.size ≤ _); rw [arrV_size]; exact hin) rfl rfl hd fun H1 e1 z1 o1 => ?_
  refine kk l ev p e s m args below meth c C R H1 _ cells slots mt sst ls ?_
  obtain ⟨a1, a2, a3, a4, a5, a6⟩ := A
  refine ⟨a1, a2, ?_, a4, t_lc a5 (by rw [rx_ea_in hi.1]; omega), a6⟩
  refine a3.upd (r := r) hi.1 hi.2.1 rfl z1 o1 (fun q hq => ⟨rfl, rx_u_r _ _ hq, rfl, rfl⟩) ⟨fun ci' n' e' h9 => ?_, fun tg n' e' _ => ?_, ⟨_, e1, rfl⟩⟩
  · have e2 : ci' = 100 := congrArg Prod.fst (e'.symm.trans hi.2.2)
    omega
  · have e2 : (100, n) = (tg, n') := hi.2.2.symm.trans e'
    cases e2
    rw [e1]
    show some _ = some (vp_cell _ (n, .inl (rx_u mi r i.toNatClampNeg x r)))
    rw [vp_cell_i, vp_cell_i, arrV_store, rx_u_at]
    congr 2
    funext q
    by_cases hq : q = i.toNatClampNeg
    · subst hq
      simp [updV, va_up, vp_nar]
      try rfl
    · simp [updV, va_up, hq]
theorem ru_iastN {r n j : Nat} {x : Int32} (hd : decode M.2.1 pc = .ok (.iastore, 1)) (hi : rx_is (nx, ct, mi, ml, mr) r 100 n) (hj : j < n) (hn : n < 2 ^ 31) (kk : rx_W M d mc ms (pc + 1) lo st (nx, ct, rx_u mi r j x, ml, mr) post) : rx_W M d mc ms pc lo (.int x :: .int (nI j) :: .ref r :: st) (nx, ct, mi, ml, mr) post := by
  refine ru_iast hd hi (vp_in_nI hj hn) ?_
  rw [nI_clamp (by omega)]
  exact kk
theorem ru_cast {r n : Nat} {i : Int32} {x : Int32} (hd : decode M.2.1 pc = .ok (.castore, 1)) (hi : rx_is (nx, ct, mi, ml, mr) r 101 n) (hin : vp_in i n) (kk : rx_W M d mc ms (pc + 1) lo st (nx, ct, rx_u mi r i.toNatClampNeg (vp_nar .char x), ml, mr) post) : rx_W M d mc ms pc lo (.int x :: .int i :: .ref r :: st) (nx, ct, mi, ml, mr) post := by
  intro l ev p e s m args below meth c C R H locs cells slots mt sst ls A
  have hP : H[rx_ea ev r]? = some (vp_cell (ev.2.1 101) (n, .inl (mi r))) := A.2.2.1.ar hi (by decide)
  refine W.cast C.1 C.2.1 hP ((C.2.2.2.2.2.2.2.2.1.1.2 1 _ rfl).1 n (fun j => .int (mi r j))) (fun q => by cases q) (by show ¬ (i < 0 ∨ (arrV _ _ _).slots.size ≤ _); rw [arrV_size]; exact hin) rfl rfl hd fun H1 e1 z1 o1 => ?_
  refine kk l ev p e s m args below meth c C R H1 _ cells slots mt sst ls ?_
  obtain ⟨a1, a2, a3, a4, a5, a6⟩ := A
  refine ⟨a1, a2, ?_, a4, t_lc a5 (by rw [rx_ea_in hi.1]; omega), a6⟩
  refine a3.upd (r := r) hi.1 hi.2.1 rfl z1 o1 (fun q hq => ⟨rfl, rx_u_r _ _ hq, rfl, rfl⟩) ⟨fun ci' n' e' h9 => ?_, fun tg n' e' _ => ?_, ⟨_, e1, rfl⟩⟩
  · have e2 : ci' = 101 := congrArg Prod.fst (e'.symm.trans hi.2.2)
    omega
  · have e2 : (101, n) = (tg, n') := hi.2.2.symm.trans e'
    cases e2
    rw [e1]
    show some _ = some (vp_cell _ (n, .inl (rx_u mi r i.toNatClampNeg (vp_nar .char x) r)))
    rw [vp_cell_i, vp_cell_i, arrV_store, rx_u_at]
    congr 2
    funext q
    by_cases hq : q = i.toNatClampNeg
    · subst hq
      simp [updV, va_up, vp_nar]
      try rfl
    · simp [updV, va_up, hq]
theorem ru_castN {r n j : Nat} {x : Int32} (hd : decode M.2.1 pc = .ok (.castore, 1)) (hi : rx_is (nx, ct, mi, ml, mr) r 101 n) (hj : j < n) (hn : n < 2 ^ 31) (kk : rx_W M d mc ms (pc + 1) lo st (nx, ct, rx_u mi r j (vp_nar .char x), ml, mr) post) : rx_W M d mc ms pc lo (.int x :: .int (nI j) :: .ref r :: st) (nx, ct, mi, ml, mr) post := by
  refine ru_cast hd hi (vp_in_nI hj hn) ?_
  rw [nI_clamp (by omega)]
  exact kk
theorem ru_zast {r n : Nat} {i : Int32} {x : Int32} (hd : decode M.2.1 pc = .ok (.bastore, 1)) (hi : rx_is (nx, ct, mi, ml, mr) r 102 n) (hin : vp_in i n) (kk : rx_W M d mc ms (pc + 1) lo st (nx, ct, rx_u mi r i.toNatClampNeg (vp_nar .boolean x), ml, mr) post) : rx_W M d mc ms pc lo (.int x :: .int i :: .ref r :: st) (nx, ct, mi, ml, mr) post := by
  intro l ev p e s m args below meth c C R H locs cells slots mt sst ls A
  have hP : H[rx_ea ev r]? = some (vp_cell (ev.2.1 102) (n, .inl (mi r))) := A.2.2.1.ar hi (by decide)
  refine W.zast C.1 C.2.1 hP ((C.2.2.2.2.2.2.2.2.1.1.2 2 _ rfl).1 n (fun j => .int (mi r j))) (fun q => by cases q) (by show ¬ (i < 0 ∨ (arrV _ _ _).slots.size ≤ _); rw [arrV_size]; exact hin) rfl rfl hd fun H1 e1 z1 o1 => ?_
  refine kk l ev p e s m args below meth c C R H1 _ cells slots mt sst ls ?_
  obtain ⟨a1, a2, a3, a4, a5, a6⟩ := A
  refine ⟨a1, a2, ?_, a4, t_lc a5 (by rw [rx_ea_in hi.1]; omega), a6⟩
  refine a3.upd (r := r) hi.1 hi.2.1 rfl z1 o1 (fun q hq => ⟨rfl, rx_u_r _ _ hq, rfl, rfl⟩) ⟨fun ci' n' e' h9 => ?_, fun tg n' e' _ => ?_, ⟨_, e1, rfl⟩⟩
  · have e2 : ci' = 102 := congrArg Prod.fst (e'.symm.trans hi.2.2)
    omega
  · have e2 : (102, n) = (tg, n') := hi.2.2.symm.trans e'
    cases e2
    rw [e1]
    show some _ = some (vp_cell _ (n, .inl (rx_u mi r i.toNatClampNeg (vp_nar .boolean x) r)))
    rw [vp_cell_i, vp_cell_i, arrV_store, rx_u_at]
    congr 2
    funext q
    by_cases hq : q = i.toNatClampNeg
    · subst hq
      simp [updV, va_up, vp_nar]
      try rfl
    · simp [updV, va_up, hq]
theorem ru_zastN {r n j : Nat} {x : Int32} (hd : decode M.2.1 pc = .ok (.bastore, 1)) (hi : rx_is (nx, ct, mi, ml, mr) r 102 n) (hj : j < n) (hn : n < 2 ^ 31) (kk : rx_W M d mc ms (pc + 1) lo st (nx, ct, rx_u mi r j (vp_nar .boolean x), ml, mr) post) : rx_W M d mc ms pc lo (.int x :: .int (nI j) :: .ref r :: st) (nx, ct, mi, ml, mr) post := by
  refine ru_zast hd hi (vp_in_nI hj hn) ?_
  rw [nI_clamp (by omega)]
  exact kk
theorem ru_bast {r n : Nat} {i : Int32} {x : Int32} (hd : decode M.2.1 pc = .ok (.bastore, 1)) (hi : rx_is (nx, ct, mi, ml, mr) r 103 n) (hin : vp_in i n) (kk : rx_W M d mc ms (pc + 1) lo st (nx, ct, rx_u mi r i.toNatClampNeg (vp_nar .byte x), ml, mr) post) : rx_W M d mc ms pc lo (.int x :: .int i :: .ref r :: st) (nx, ct, mi, ml, mr) post := by
  intro l ev p e s m args below meth c C R H locs cells slots mt sst ls A
  have hP : H[rx_ea ev r]? = some (vp_cell (ev.2.1 103) (n, .inl (mi r))) := A.2.2.1.ar hi (by decide)
  refine W.bast C.1 C.2.1 hP ((C.2.2.2.2.2.2.2.2.1.1.2 3 _ rfl).1 n (fun j => .int (mi r j))) (fun q => by cases q) (by show ¬ (i < 0 ∨ (arrV _ _ _).slots.size ≤ _); rw [arrV_size]; exact hin) rfl rfl hd fun H1 e1 z1 o1 => ?_
  refine kk l ev p e s m args below meth c C R H1 _ cells slots mt sst ls ?_
  obtain ⟨a1, a2, a3, a4, a5, a6⟩ := A
  refine ⟨a1, a2, ?_, a4, t_lc a5 (by rw [rx_ea_in hi.1]; omega), a6⟩
  refine a3.upd (r := r) hi.1 hi.2.1 rfl z1 o1 (fun q hq => ⟨rfl, rx_u_r _ _ hq, rfl, rfl⟩) ⟨fun ci' n' e' h9 => ?_, fun tg n' e' _ => ?_, ⟨_, e1, rfl⟩⟩
  · have e2 : ci' = 103 := congrArg Prod.fst (e'.symm.trans hi.2.2)
    omega
  · have e2 : (103, n) = (tg, n') := hi.2.2.symm.trans e'
    cases e2
    rw [e1]
    show some _ = some (vp_cell _ (n, .inl (rx_u mi r i.toNatClampNeg (vp_nar .byte x) r)))
    rw [vp_cell_i, vp_cell_i, arrV_store, rx_u_at]
    congr 2
    funext q
    by_cases hq : q = i.toNatClampNeg
    · subst hq
      simp [updV, va_up, vp_nar]
      try rfl
    · simp [updV, va_up, hq]
theorem ru_bastN {r n j : Nat} {x : Int32} (hd : decode M.2.1 pc = .ok (.bastore, 1)) (hi : rx_is (nx, ct, mi, ml, mr) r 103 n) (hj : j < n) (hn : n < 2 ^ 31) (kk : rx_W M d mc ms (pc + 1) lo st (nx, ct, rx_u mi r j (vp_nar .byte x), ml, mr) post) : rx_W M d mc ms pc lo (.int x :: .int (nI j) :: .ref r :: st) (nx, ct, mi, ml, mr) post := by
  refine ru_bast hd hi (vp_in_nI hj hn) ?_
  rw [nI_clamp (by omega)]
  exact kk
theorem ru_last {r n : Nat} {i : Int32} {x : Int64} (hd : decode M.2.1 pc = .ok (.lastore, 1)) (hi : rx_is (nx, ct, mi, ml, mr) r 104 n) (hin : vp_in i n) (kk : rx_W M d mc ms (pc + 1) lo st (nx, ct, mi, rx_u ml r i.toNatClampNeg x, mr) post) : rx_W M d mc ms pc lo (.long x :: .int i :: .ref r :: st) (nx, ct, mi, ml, mr) post := by
  intro l ev p e s m args below meth c C R H locs cells slots mt sst ls A
  have hP : H[rx_ea ev r]? = some (vp_cell (ev.2.1 104) (n, .inr (.inl (ml r)))) := A.2.2.1.ar hi (by decide)
  refine W.last C.1 C.2.1 hP ((C.2.2.2.2.2.2.2.2.1.1.2 4 _ rfl).1 n (fun j => .long (ml r j))) (fun q => by cases q) (by show ¬ (i < 0 ∨ (arrV _ _ _).slots.size ≤ _); rw [arrV_size]; exact hin) rfl rfl hd fun H1 e1 z1 o1 => ?_
  refine kk l ev p e s m args below meth c C R H1 _ cells slots mt sst ls ?_
  obtain ⟨a1, a2, a3, a4, a5, a6⟩ := A
  refine ⟨a1, a2, ?_, a4, t_lc a5 (by rw [rx_ea_in hi.1]; omega), a6⟩
  refine a3.upd (r := r) hi.1 hi.2.1 rfl z1 o1 (fun q hq => ⟨rfl, rfl, rx_u_r _ _ hq, rfl⟩) ⟨fun ci' n' e' h9 => ?_, fun tg n' e' _ => ?_, ⟨_, e1, rfl⟩⟩
  · have e2 : ci' = 104 := congrArg Prod.fst (e'.symm.trans hi.2.2)
    omega
  · have e2 : (104, n) = (tg, n') := hi.2.2.symm.trans e'
    cases e2
    rw [e1]
    show some _ = some (vp_cell _ (n, .inr (.inl (rx_u ml r i.toNatClampNeg x r))))
    rw [vp_cell_l, vp_cell_l, arrV_store, rx_u_at]
    congr 2
    funext q
    by_cases hq : q = i.toNatClampNeg
    · subst hq
      simp [updV, va_up, vp_nar]
      try rfl
    · simp [updV, va_up, hq]
theorem ru_lastN {r n j : Nat} {x : Int64} (hd : decode M.2.1 pc = .ok (.lastore, 1)) (hi : rx_is (nx, ct, mi, ml, mr) r 104 n) (hj : j < n) (hn : n < 2 ^ 31) (kk : rx_W M d mc ms (pc + 1) lo st (nx, ct, mi, rx_u ml r j x, mr) post) : rx_W M d mc ms pc lo (.long x :: .int (nI j) :: .ref r :: st) (nx, ct, mi, ml, mr) post := by
  refine ru_last hd hi (vp_in_nI hj hn) ?_
  rw [nI_clamp (by omega)]
  exact kk
/-- the memory with one more cell -/
def rx_new (nx : Nat) (ct : Nat → Nat × Nat) (mi : Nat → Nat → Int32) (ml : Nat → Nat → Int64) (mr : Nat → Nat → Option Nat) (tg n : Nat) : rx_S := (nx + 1, va_up ct nx (tg, n), va_up mi nx (fun _ => 0), va_up ml nx (fun _ => 0), va_up mr nx (fun _ => none))
/-- place ix of class own's pool is the class ci, which can be made -/
def rx_N (own : String) (ix ci N : Nat) : Prop := ∃ q : vw_C, rx_cls ci q ∧ q.2.2 = N ∧ Cond.classLink own ix q.1 ∈ rx_TB ∧ Cond.instantiable q.1 N ∈ rx_TB ∧ Cond.initialized q.1 ∈ rx_TB ∧ ∀ k, k < N → rx_ty ci k ≠ .float ∧ rx_ty ci k ≠ .double
theorem rx_dflt {ev : rx_E} {mi : Nat → Nat → Int32} {ml : Nat → Nat → Int64} {mr : Nat → Nat → Option Nat} {nx k : Nat} {t : FieldType} (h1 : t ≠ .float) (h2 : t ≠ .double) : defaultValue t = rx_fv ev (va_up mi nx (fun _ => 0)) (va_up ml nx (fun _ => 0)) (va_up mr nx (fun _ => none)) nx t k := by
  cases t <;> first | (exact absurd rfl h1) | (exact absurd rfl h2) | (simp [rx_fv, va_up, defaultValue, va_rf, rx_tv])
theorem rx_up_o {α : Type} (f : Nat → α) {k j : Nat} (v : α) (h : j ≠ k) : va_up f k v j = f j := va_up_ne f v h
theorem ru_new {ix ci N : Nat} (hd : decode M.2.1 pc = .ok (.new ix, 3)) (hN : rx_N M.1 ix ci N) (kk : rx_W M d mc ms (pc + 3) lo (.ref nx :: st) (rx_new nx ct mi ml mr ci 0) post) : rx_W M d (mc + 1) (ms + N) pc lo st (nx, ct, mi, ml, mr) post := by
  intro l ev p e s m args below meth c C R H locs cells slots mt sst ls A
  obtain ⟨q, hc, hq, w1, w2, w3, hnf⟩ := hN
  obtain ⟨a1, a2, a3, a4, a5, a6, a7, a8, a9⟩ := A
  have hts := C.2.2.2.2.1
  have hKn := C.2.2.2.2.2.2.2.2.1.1.1 ci _ hc.1
  have hea : rx_ea ev nx = H.size := a3.new
  refine W.newcK C.1 C.2.1 C.2.2.2.1 (hts _ w1) (hts _ w2) (hts _ w3) rfl hd (by omega) (by omega) hKn.2.1 rfl fun H1 kC hkC e1 z1 o1 => ?_
  have K := kk l ev p e s m args below meth c C R H1 locs (cells + 1) (slots + N) mt sst ls ⟨a1, a2, ?_, a4, a5, by omega, by omega, a8, a9⟩
  · rw [List.map_cons, show rx_tv ev (.ref nx) = .ref H.size by rw [← hea]; rfl] at K
    exact K
  · refine a3.grow rfl z1 o1 (fun x hx => ⟨va_up_ne _ _ hx, va_up_ne _ _ hx, va_up_ne _ _ hx, va_up_ne _ _ hx⟩) ⟨fun ci' n' e' h9 => ?_, fun tg n' e' h9 => ?_, ⟨_, by show H1[rx_ea ev nx]? = _; rw [hea]; exact e1, rfl⟩⟩
    · have e2 : (ci, 0) = (ci', n') := (va_up_self ct nx (ci, 0)).symm.trans e'
      cases e2
      refine ⟨q, hc.1, ?_⟩
      show t_OB (rx_ea ev nx) _ _ _ _ _
      rw [hea]
      exact (u_born (rx_ty ci) hts hc.2.2.1 hKn hkC e1 hc.2.2.2.1).to (fun k hk => rx_dflt (hnf k (by omega)).1 (hnf k (by omega)).2)
    · have e2 : (ci, 0) = (tg, n') := (va_up_self ct nx (ci, 0)).symm.trans e'
      cases e2
      exact absurd hc.2.1 (by omega)
theorem ru_newa {at_ : ArrayType} {ty : FieldType} {tg N : Nat} {n : Int32} (hd : decode M.2.1 pc = .ok (.newarray at_, 2)) (hty : newarray.typeOf at_ = ty) (hw : Cond.arrayClass ty ∈ rx_TB) (ht : ∀ ev, (rx_tys ev)[tg - 100]? = some (ev.2.1 tg, ty)) (htg : 100 ≤ tg) (hRA : ∀ U cA, va_RA U cA ty → U.vm.findClass ("[" ++ ty.toString) = some cA) (hcon : ∀ (ev : rx_E) (cA : ClassId), vp_cell cA (N, rx_con ev (va_up mi nx (fun _ => 0)) (va_up ml nx (fun _ => 0)) (va_up mr nx (fun _ => none)) tg nx) = arrV cA N (fun _ => defaultValue ty)) (hn : ¬ n < 0) (hN : n.toNatClampNeg = N) (hb : N * componentBytes ty ≤ 536870912) (kk : rx_W M d mc ms (pc + 2) lo (.ref nx :: st) (rx_new nx ct mi ml mr tg N) post) : rx_W M d (mc + 1) (ms + N) pc lo (.int n :: st) (nx, ct, mi, ml, mr) post := by
  intro l ev p e s m args below meth c C R H locs cells slots mt sst ls A
  subst hty
  obtain ⟨a1, a2, a3, a4, a5, a6, a7, a8, a9⟩ := A
  have hea : rx_ea ev nx = H.size := a3.new
  refine va_newaK C.1 C.2.1 (C.2.2.2.2.1 _ hw) rfl hd rfl hn hN hb (by omega) (by omega) rfl fun H1 cA e1 z1 o1 hAr hNm => ?_
  have hcA : cA = ev.2.1 tg := Option.some.inj (hNm.symm.trans (hRA _ _ (C.2.2.2.2.2.2.2.2.1.1.2 _ _ (ht ev)).2))
  subst hcA
  have K := kk l ev p e s m args below meth c C R H1 locs (cells + 1) (slots + N) mt sst ls ⟨a1, a2, ?_, a4, a5, by omega, by omega, a8, a9⟩
  · rw [List.map_cons, show rx_tv ev (.ref nx) = .ref H.size by rw [← hea]; rfl] at K
    exact K
  · refine a3.grow rfl z1 o1 (fun x hx => ⟨va_up_ne _ _ hx, va_up_ne _ _ hx, va_up_ne _ _ hx, va_up_ne _ _ hx⟩) ⟨fun ci' n' e' h9 => ?_, fun tg' n' e' h9 => ?_, ⟨_, by show H1[rx_ea ev nx]? = _; rw [hea]; exact e1, rfl⟩⟩
    · have e2 : (tg, N) = (ci', n') := (va_up_self ct nx (tg, N)).symm.trans e'
      cases e2
      omega
    · have e2 : (tg, N) = (tg', n') := (va_up_self ct nx (tg, N)).symm.trans e'
      cases e2
      show H1[rx_ea ev nx]? = some (vp_cell _ (N, rx_con ev _ _ _ tg nx))
      rw [hea]
      exact e1.trans (congrArg some (hcon ev _).symm)
end
