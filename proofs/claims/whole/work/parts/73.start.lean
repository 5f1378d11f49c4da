/-! THE START: all that stands there -/
theorem rx_selP {y y0 : MethodName} {Cn : String} {s : State} {args : Array Value} (h0 : y0.cls = y.cls) (hy : y.cls ≠ "java/lang/invoke/MethodHandle" ∧ y.cls ≠ "java/lang/invoke/VarHandle") (hsel : (Cond.selects Cn y0 y0).before args s = true) (hpriv : (Cond.privateMethod y).before args s = true) (hinst : (Cond.instanceMethod y).before args s = true) : (Cond.selects Cn y y).before args s = true := by
  obtain ⟨mk, methM, hnamed, hmethM, -, -⟩ := Cond.instanceMethod_spec hinst
  have hfound : s.methodFound? y.cls y.name y.desc = some mk := State.methodFound?_of_named hnamed hy
  have hc1 := findClass_of_methodNamed hnamed
  simp only [Cond.before, Cond.holds, Cond.value] at hsel
  cases hc : s.vm.findClass Cn with
  | none => simp [hc] at hsel
  | some c =>
    cases hf : s.methodFound? y0.cls y0.name y0.desc with
    | none => simp [hc, hf] at hsel
    | some r =>
      cases hn : s.methodNamed? y0 with
      | none => simp [hc, hf, hn] at hsel
      | some m =>
        have hcl : m.cls = mk.cls := Option.some.inj ((findClass_of_methodNamed hn).symm.trans (h0 ▸ hc1))
        have hp : selectMethod {} s.vm c mk = .method mk := selectMethod_private hmethM (Cond.privateMethod_at hpriv mk methM hnamed hmethM)
        simp only [hc, hf, hn] at hsel
        simp only [Cond.before, Cond.holds, Cond.value, hc, hfound, hnamed, hp, decide_true, Bool.true_and]
        cases hs : selectMethod {} s.vm c r with
        | method m' =>
          simp only [hs] at hsel
          rw [← hcl]
          simp only [beq_iff_eq, Option.some.injEq, Bool.and_eq_true] at hsel ⊢
          first | exact hsel.2 | simpa using hsel.2
        | _ => simp [hs] at hsel
section
variable {s : State} {args : Array Value}
theorem in_1 {w : Cond} (h : w ∈ tables_1) : w ∈ lw_tbl := List.mem_append_right _ h
theorem ht_TB (hts : ∀ w ∈ lw_tbl, w.before args s = true) : ∀ w ∈ rx_TB, w.before args s = true := by
  intro w hw
  rcases List.mem_append.mp (List.mem_filter.mp hw).1 with h | h
  · unfold rx_X at h
    simp only [List.mem_cons, List.not_mem_nil, or_false] at h
    rcases h with rfl | rfl | rfl | rfl
    · exact rx_selP (y0 := y_AB_isLatin1) rfl ⟨by decide, by decide⟩ (hts _ (in_1 (tm_4 (List.mem_of_getElem? (i := 93) rfl)))) (hts _ (in_1 (tm_4 (List.mem_of_getElem? (i := 56) rfl)))) (hts _ (in_1 (tm_4 (List.mem_of_getElem? (i := 57) rfl))))
    · exact rx_selP (y0 := y_AB_isLatin1) rfl ⟨by decide, by decide⟩ (hts _ (in_1 (tm_4 (List.mem_of_getElem? (i := 93) rfl)))) (hts _ (in_1 (tm_4 (List.mem_of_getElem? (i := 60) rfl)))) (hts _ (in_1 (tm_4 (List.mem_of_getElem? (i := 61) rfl))))
    · exact rx_selP (y0 := y_AB_isLatin1) rfl ⟨by decide, by decide⟩ (hts _ (in_1 (tm_4 (List.mem_of_getElem? (i := 93) rfl)))) (hts _ (in_1 (tm_4 (List.mem_of_getElem? (i := 112) rfl)))) (hts _ (in_1 (tm_4 (List.mem_of_getElem? (i := 113) rfl))))
    · exact rx_selP (y0 := y_AB_isLatin1) rfl ⟨by decide, by decide⟩ (hts _ (in_1 (tm_4 (List.mem_of_getElem? (i := 93) rfl)))) (hts _ (in_1 (tm_4 (List.mem_of_getElem? (i := 116) rfl)))) (hts _ (in_1 (tm_4 (List.mem_of_getElem? (i := 117) rfl))))
  · exact hts w h
variable {A : Nat → Prop}
theorem st_one (h : (Jvm.Cond.and given_1 narrow_1).before args s = true) (hA : ∀ a : Nat, a < s.heap.size → ¬ A a) : ∀ i : Nat, ∃ q : Nat × Nat, i < 61 → (sTm i).eval args s none [] s = some (.ref q.1) ∧ va_O "java/lang/String" q.1 A s s.heap ∧ va_OF "java/lang/String" "coder" "B" (.int 0) q.1 A s s.heap ∧ va_OF "java/lang/String" "value" "[B" (.ref q.2) q.1 A s s.heap ∧ va_T .byte q.2 (rx_sl i) (fun j => .int (rx_sb i j)) A s s.heap := by
  intro i
  by_cases hi : i < 61
  · obtain ⟨a, c, cA, kA, q1, q2, q3, q4, q5, q6, -⟩ := Cond.exactly_spec (args := args) (first := s) (o := none) (s := s) (idx := []) (t := sTm i) (cls := "java/lang/String") (nf h (n_ex i hi))
    obtain ⟨t, ht, hT⟩ := va_Tof (f := fun j => .int (rx_sb i j)) (A := A) (Nat.lt_trans (tx_len2 i hi) (by decide)) (nf h (n_ar i hi)) (va_eqt (nf h (n_le i hi))) (fun j hj => va_eqt (nf h (n_el i hi j hj))) hA
    exact ⟨(a, t), fun _ => ⟨q1, ⟨cA, q3, q5, by rw [q6]; exact q2, hA a (Array.getElem?_eq_some_iff.mp q3).1⟩, vk_OFof q1 (va_eqt (nf h (n_co i hi))) hA, vk_OFof q1 ht hA, hT⟩⟩
  · exact ⟨(0, 0), fun z => absurd z hi⟩
theorem ob_one {tm : Term} {cls : String} (hex : (Cond.exactly tm cls).before args s = true) : ∃ a : Nat, tm.eval args s none [] s = some (.ref a) := by
  obtain ⟨a, c, cA, kA, q1, -⟩ := Cond.exactly_spec (args := args) (first := s) (o := none) (s := s) (idx := []) (t := tm) (cls := cls) hex
  exact ⟨a, q1⟩
theorem ki_one (h : (Jvm.Cond.and given_1 narrow_1).before args s = true) : ∀ i : Nat, ∃ a : Nat, i < 13 → (kTm i).eval args s none [] s = some (.ref a) := by
  intro i
  by_cases hi : i < 13
  · obtain ⟨a, ha⟩ := ob_one (nf h (n_kx i hi))
    exact ⟨a, fun _ => ha⟩
  · exact ⟨0, fun z => absurd z hi⟩
theorem un_one (h : (Jvm.Cond.and given_1 narrow_1).before args s = true) : ∀ i : Nat, ∃ a : Nat, i < 5 → (uTm i).eval args s none [] s = some (.ref a) := by
  intro i
  by_cases hi : i < 5
  · obtain ⟨a, ha⟩ := ob_one (nf h (n_ux i hi))
    exact ⟨a, fun _ => ha⟩
  · exact ⟨0, fun z => absurd z hi⟩
theorem rf_one {tm : Term} (h : (Cond.isRef tm).before args s = true) : tm.eval args s none [] s = some .null ∨ ∃ a : Nat, tm.eval args s none [] s = some (.ref a) := by
  obtain ⟨v, h1, h2⟩ := Cond.isRef_spec (args := args) (first := s) (o := none) (s := s) (idx := []) h
  cases v with
  | null => exact Or.inl h1
  | ref a => exact Or.inr ⟨a, h1⟩
  | _ => cases h2
theorem ar_one {ty : FieldType} (h : (Cond.arrayClass ty).before args s = true) : ∃ cA : ClassId, ArrOfT s cA ty ∧ s.vm.findClass ("[" ++ ty.toString) = some cA := by
  obtain ⟨c, k, comp, h1, h2, h3⟩ := Cond.arrayClass_spec (args := args) (first := s) (o := none) (s := s) (idx := []) h
  exact ⟨c, fun n z => ⟨fun k h => (by cases h), k, h2, comp, h3⟩, h1⟩
theorem ao_one {C : String} (h : (Cond.arrayOver (.object C)).before args s = true) : ∃ cA : ClassId, ArrOfT s cA (.object C) ∧ va_RA s cA (.object C) := by
  obtain ⟨comp, c, k, h1, -, h3, h4, h5⟩ := Cond.arrayOver_spec (args := args) (first := s) (o := none) (s := s) (idx := []) h
  exact ⟨c, fun n z => ⟨fun k h => (by cases h), k, h3, comp, h4⟩, ⟨k, comp, h3, h4, h1, h5⟩⟩
theorem cl_one (hts : ∀ w ∈ lw_tbl, w.before args s = true) : ∀ c : Nat, ∃ q : ClassId × (Nat → Nat), ∀ x, vwCl[c]? = some x → u_Kn s x.1 x.2.1 x.2.2 q.1 q.2 := by
  intro c
  match c with
  | 0 =>
    obtain ⟨a, b, hk⟩ := u_known (ht_TB hts) kx_RT.2.2.1 (ht_TB hts _ (rx_in (tm_1 (List.mem_of_getElem? (i := 31) rfl)) rfl))
    exact ⟨(a, b), fun x hx => by cases kx_RT.1.symm.trans hx; exact hk⟩
  | 1 =>
    obtain ⟨a, b, hk⟩ := u_known (ht_TB hts) kx_Am.2.2.1 (ht_TB hts _ (rx_in (tm_1 (List.mem_of_getElem? (i := 123) rfl)) rfl))
    exact ⟨(a, b), fun x hx => by cases kx_Am.1.symm.trans hx; exact hk⟩
  | 2 =>
    obtain ⟨a, b, hk⟩ := u_known (ht_TB hts) kx_Na.2.2.1 (ht_TB hts _ (rx_in (tm_1 (List.mem_of_getElem? (i := 39) rfl)) rfl))
    exact ⟨(a, b), fun x hx => by cases kx_Na.1.symm.trans hx; exact hk⟩
  | 3 =>
    obtain ⟨a, b, hk⟩ := u_known (ht_TB hts) kx_Rd.2.2.1 (ht_TB hts _ (rx_in (tm_1 (List.mem_of_getElem? (i := 117) rfl)) rfl))
    exact ⟨(a, b), fun x hx => by cases kx_Rd.1.symm.trans hx; exact hk⟩
  | 4 =>
    obtain ⟨a, b, hk⟩ := u_known (ht_TB hts) kx_Ru.2.2.1 (ht_TB hts _ (rx_in (tm_1 (List.mem_of_getElem? (i := 214) rfl)) rfl))
    exact ⟨(a, b), fun x hx => by cases kx_Ru.1.symm.trans hx; exact hk⟩
  | 5 =>
    obtain ⟨a, b, hk⟩ := u_known (ht_TB hts) kx_RL.2.2.1 (ht_TB hts _ (rx_in (tm_1 (List.mem_of_getElem? (i := 207) rfl)) rfl))
    exact ⟨(a, b), fun x hx => by cases kx_RL.1.symm.trans hx; exact hk⟩
  | 6 =>
    obtain ⟨a, b, hk⟩ := u_known (ht_TB hts) kx_Sh.2.2.1 (ht_TB hts _ (rx_in (tm_1 (List.mem_of_getElem? (i := 56) rfl)) rfl))
    exact ⟨(a, b), fun x hx => by cases kx_Sh.1.symm.trans hx; exact hk⟩
  | 7 =>
    obtain ⟨a, b, hk⟩ := u_known (ht_TB hts) kx_Wo.2.2.1 (ht_TB hts _ (rx_in (tm_1 (List.mem_of_getElem? (i := 80) rfl)) rfl))
    exact ⟨(a, b), fun x hx => by cases kx_Wo.1.symm.trans hx; exact hk⟩
  | 8 =>
    obtain ⟨a, b, hk⟩ := u_known (ht_TB hts) kx_Wr.2.2.1 (ht_TB hts _ (rx_in (tm_1 (List.mem_of_getElem? (i := 160) rfl)) rfl))
    exact ⟨(a, b), fun x hx => by cases kx_Wr.1.symm.trans hx; exact hk⟩
  | 9 =>
    obtain ⟨a, b, hk⟩ := u_known (ht_TB hts) kx_Mo.2.2.1 (ht_TB hts _ (rx_in (tm_5 (List.mem_of_getElem? (i := 115) rfl)) rfl))
    exact ⟨(a, b), fun x hx => by cases kx_Mo.1.symm.trans hx; exact hk⟩
  | 10 =>
    obtain ⟨a, b, hk⟩ := u_known (ht_TB hts) kx_SB.2.2.1 (ht_TB hts _ (rx_in (tm_1 (List.mem_of_getElem? (i := 166) rfl)) rfl))
    exact ⟨(a, b), fun x hx => by cases kx_SB.1.symm.trans hx; exact hk⟩
  | c + 11 => exact ⟨(0, fun _ => 0), fun x hx => by cases hx⟩
/-- where what stands from the start lies -/
def locF (b : Nat) (adK adU : Nat → Nat) (tK tU t1 t2 tF : Nat) (adS : Nat → Nat × Nat) (r : Nat) : Nat := if r = 0 then b else if r ≤ 13 then adK (r - 1) else if r ≤ 18 then adU (r - 14) else if r = 19 then tK else if r = 20 then tU else if r = 21 then t1 else if r = 22 then t2 else if r = 23 then tF else if r < 100 then (adS (r - 30)).1 else (adS (r - 100)).2
variable {b tK tU t1 t2 tF : Nat} {adK adU : Nat → Nat} {adS : Nat → Nat × Nat}
theorem loc_k {i : Nat} (hi : i < 13) : locF b adK adU tK tU t1 t2 tF adS (1 + i) = adK i := by
  unfold locF; rw [if_neg (by omega), if_pos (by omega), show 1 + i - 1 = i by omega]
theorem loc_u {i : Nat} (hi : i < 5) : locF b adK adU tK tU t1 t2 tF adS (14 + i) = adU i := by
  unfold locF; rw [if_neg (by omega), if_neg (by omega), if_pos (by omega), show 14 + i - 14 = i by omega]
theorem loc_s {i : Nat} (hi : i < 61) : locF b adK adU tK tU t1 t2 tF adS (30 + i) = (adS i).1 := by
  unfold locF; rw [if_neg (by omega), if_neg (by omega), if_neg (by omega), if_neg (by omega), if_neg (by omega), if_neg (by omega), if_neg (by omega), if_neg (by omega), if_pos (by omega), show 30 + i - 30 = i by omega]
theorem loc_v {i : Nat} (hi : i < 61) : locF b adK adU tK tU t1 t2 tF adS (100 + i) = (adS i).2 := by
  unfold locF; rw [if_neg (by omega), if_neg (by omega), if_neg (by omega), if_neg (by omega), if_neg (by omega), if_neg (by omega), if_neg (by omega), if_neg (by omega), if_neg (by omega), show 100 + i - 100 = i by omega]
theorem ea_lo (ev : rx_E) {r : Nat} (h : r < 256) : rx_ea ev r = ev.2.2.1 r := if_pos h
def clsF (cI cC cZ cB cJ cR : ClassId) (tg : Nat) : ClassId := if tg = 100 then cI else if tg = 101 then cC else if tg = 102 then cZ else if tg = 103 then cB else if tg = 104 then cJ else cR
theorem NB_on : ∀ w ∈ rx_NB, w.onTables = true := by decide +kernel
theorem DW_on : ∀ w ∈ rx_DW, w.onTables = true := by decide +kernel
theorem DW_in : ∀ w ∈ rx_DW, w ∈ tables_1 := by
  intro w hw
  unfold rx_DW at hw
  simp only [List.mem_cons, List.not_mem_nil, or_false] at hw
  rcases hw with rfl | rfl | rfl | rfl
  · exact (tm_3 (List.mem_of_getElem? (i := 111) rfl))
  · exact (tm_3 (List.mem_of_getElem? (i := 113) rfl))
  · exact (tm_3 (List.mem_of_getElem? (i := 115) rfl))
  · exact (tm_3 (List.mem_of_getElem? (i := 109) rfl))
theorem SR_n : ∀ q ∈ rx_SR, ∃ i, i < 61 ∧ q.2.2.2 = 30 + i ∧ sTm i = .string q.1 q.2.1 := by
  intro q hq
  obtain ⟨i, hi, rfl⟩ := List.getElem_of_mem hq
  have h61 : i < 61 := hi
  have z : ∀ i, i < 61 → (rx_SR.getD i ("", 0, "", 0)).2.2.2 = 30 + i := by decide +kernel
  have e : rx_SR.getD i ("", 0, "", 0) = rx_SR[i] := by rw [List.getD_eq_getElem?_getD, List.getElem?_eq_getElem hi]; rfl
  have z1 := z i h61
  have z2 : sTm i = .string (rx_SR.getD i ("", 0, "", 0)).1 (rx_SR.getD i ("", 0, "", 0)).2.1 := rfl
  rw [e] at z1 z2
  exact ⟨i, h61, z1, z2⟩
theorem SR_in : ∀ q ∈ rx_SR, Cond.stringRef q.1 q.2.1 q.2.2.1 ∈ tables_1 := by
  intro q hq
  unfold rx_SR at hq
  simp only [List.mem_cons, List.not_mem_nil, or_false] at hq
  rcases hq with rfl | rfl | rfl | rfl | rfl | rfl | rfl | rfl | rfl | rfl | rfl | rfl | rfl | rfl | rfl | rfl | rfl | rfl | rfl | rfl | rfl | rfl | rfl | rfl | rfl | rfl | rfl | rfl | rfl | rfl | rfl | rfl | rfl | rfl | rfl | rfl | rfl | rfl | rfl | rfl | rfl | rfl | rfl | rfl | rfl | rfl | rfl | rfl | rfl | rfl | rfl | rfl | rfl | rfl | rfl | rfl | rfl | rfl | rfl | rfl | rfl
  · exact (tm_2 (List.mem_of_getElem? (i := 185) rfl))
  · exact (tm_2 (List.mem_of_getElem? (i := 186) rfl))
  · exact (tm_2 (List.mem_of_getElem? (i := 195) rfl))
  · exact (tm_2 (List.mem_of_getElem? (i := 196) rfl))
  · exact (tm_2 (List.mem_of_getElem? (i := 197) rfl))
  · exact (tm_2 (List.mem_of_getElem? (i := 211) rfl))
  · exact (tm_2 (List.mem_of_getElem? (i := 216) rfl))
  · exact (tm_2 (List.mem_of_getElem? (i := 217) rfl))
  · exact (tm_2 (List.mem_of_getElem? (i := 230) rfl))
  · exact (tm_2 (List.mem_of_getElem? (i := 231) rfl))
  · exact (tm_2 (List.mem_of_getElem? (i := 232) rfl))
  · exact (tm_2 (List.mem_of_getElem? (i := 237) rfl))
  · exact (tm_3 (List.mem_of_getElem? (i := 2) rfl))
  · exact (tm_3 (List.mem_of_getElem? (i := 7) rfl))
  · exact (tm_3 (List.mem_of_getElem? (i := 8) rfl))
  · exact (tm_3 (List.mem_of_getElem? (i := 30) rfl))
  · exact (tm_3 (List.mem_of_getElem? (i := 43) rfl))
  · exact (tm_3 (List.mem_of_getElem? (i := 148) rfl))
  · exact (tm_3 (List.mem_of_getElem? (i := 191) rfl))
  · exact (tm_3 (List.mem_of_getElem? (i := 205) rfl))
  · exact (tm_3 (List.mem_of_getElem? (i := 213) rfl))
  · exact (tm_3 (List.mem_of_getElem? (i := 225) rfl))
  · exact (tm_3 (List.mem_of_getElem? (i := 237) rfl))
  · exact (tm_4 (List.mem_of_getElem? (i := 24) rfl))
  · exact (tm_4 (List.mem_of_getElem? (i := 43) rfl))
  · exact (tm_5 (List.mem_of_getElem? (i := 11) rfl))
  · exact (tm_5 (List.mem_of_getElem? (i := 38) rfl))
  · exact (tm_5 (List.mem_of_getElem? (i := 39) rfl))
  · exact (tm_5 (List.mem_of_getElem? (i := 44) rfl))
  · exact (tm_5 (List.mem_of_getElem? (i := 46) rfl))
  · exact (tm_5 (List.mem_of_getElem? (i := 47) rfl))
  · exact (tm_5 (List.mem_of_getElem? (i := 65) rfl))
  · exact (tm_5 (List.mem_of_getElem? (i := 70) rfl))
  · exact (tm_5 (List.mem_of_getElem? (i := 71) rfl))
  · exact (tm_5 (List.mem_of_getElem? (i := 72) rfl))
  · exact (tm_5 (List.mem_of_getElem? (i := 73) rfl))
  · exact (tm_5 (List.mem_of_getElem? (i := 79) rfl))
  · exact (tm_5 (List.mem_of_getElem? (i := 85) rfl))
  · exact (tm_5 (List.mem_of_getElem? (i := 91) rfl))
  · exact (tm_5 (List.mem_of_getElem? (i := 92) rfl))
  · exact (tm_5 (List.mem_of_getElem? (i := 100) rfl))
  · exact (tm_5 (List.mem_of_getElem? (i := 101) rfl))
  · exact (tm_5 (List.mem_of_getElem? (i := 102) rfl))
  · exact (tm_6 (List.mem_of_getElem? (i := 185) rfl))
  · exact (tm_6 (List.mem_of_getElem? (i := 197) rfl))
  · exact (tm_6 (List.mem_of_getElem? (i := 203) rfl))
  · exact (tm_6 (List.mem_of_getElem? (i := 204) rfl))
  · exact (tm_6 (List.mem_of_getElem? (i := 205) rfl))
  · exact (tm_6 (List.mem_of_getElem? (i := 206) rfl))
  · exact (tm_6 (List.mem_of_getElem? (i := 207) rfl))
  · exact (tm_6 (List.mem_of_getElem? (i := 208) rfl))
  · exact (tm_6 (List.mem_of_getElem? (i := 209) rfl))
  · exact (tm_6 (List.mem_of_getElem? (i := 210) rfl))
  · exact (tm_6 (List.mem_of_getElem? (i := 211) rfl))
  · exact (tm_6 (List.mem_of_getElem? (i := 212) rfl))
  · exact (tm_6 (List.mem_of_getElem? (i := 213) rfl))
  · exact (tm_6 (List.mem_of_getElem? (i := 214) rfl))
  · exact (tm_6 (List.mem_of_getElem? (i := 215) rfl))
  · exact (tm_6 (List.mem_of_getElem? (i := 216) rfl))
  · exact (tm_6 (List.mem_of_getElem? (i := 217) rfl))
  · exact (tm_6 (List.mem_of_getElem? (i := 218) rfl))
theorem st_env {bb Len : Nat} {xs : Nat → Int32} (hts : ∀ w ∈ lw_tbl, w.before args s = true) (h : (Jvm.Cond.and given_1 narrow_1).before args s = true) (hX : va_X bb Len xs s s.heap) (hbl : bb < s.heap.size) : ∃ ev : rx_E, ev.2.2.2 = (s.heap, Len, xs) ∧ rx_ea ev 0 = bb ∧ rx_Ok ev s := by
  have ht1 : ∀ w ∈ tables_1, w.before args s = true := fun w hw => hts w (in_1 hw)
  have hA : ∀ a : Nat, a < s.heap.size → ¬ (fun q : Nat => s.heap.size ≤ q) a := fun a h1 h2 => Nat.not_le.mpr h1 h2
  obtain ⟨adS, hadS⟩ := Classical.axiomOfChoice (st_one h hA)
  obtain ⟨adK, hadK⟩ := Classical.axiomOfChoice (ki_one h)
  obtain ⟨adU, hadU⟩ := Classical.axiomOfChoice (un_one h)
  obtain ⟨tK, eK, TK⟩ := va_Tof (f := fun j => .ref (adK j)) (by decide) (nf h n_Ka) (va_eqt (nf h n_Kl)) (fun j hj => va_eqv (nf h (n_Ke j hj)) (hadK j hj)) hA
  obtain ⟨tU, eU, TU⟩ := va_Tof (f := fun j => .ref (adU j)) (by decide) (nf h n_Ua) (va_eqt (nf h n_Ul)) (fun j hj => va_eqv (nf h (n_Ue j hj)) (hadU j hj)) hA
  obtain ⟨t1, e1, T1⟩ := va_Tof (f := fun j => .int (rx_d1 j)) (by decide) (nf h n_1a) (va_eqt (nf h n_1l)) (fun j hj => va_eqt (nf h (n_1e j hj))) hA
  obtain ⟨t2, e2, T2⟩ := va_Tof (f := fun j => .int (rx_d10 j)) (by decide) (nf h n_2a) (va_eqt (nf h n_2l)) (fun j hj => va_eqt (nf h (n_2e j hj))) hA
  obtain ⟨tF, hF⟩ : ∃ tF : Nat, va_Z "jdk/internal/util/Preconditions" "SIOOBE_FORMATTER" "Ljava/util/function/BiFunction;" .null (fun q : Nat => s.heap.size ≤ q) s s.heap ∨ va_Z "jdk/internal/util/Preconditions" "SIOOBE_FORMATTER" "Ljava/util/function/BiFunction;" (.ref tF) (fun q : Nat => s.heap.size ≤ q) s s.heap := by
    rcases rf_one (nf h n_fm) with z | ⟨a, z⟩
    · exact ⟨0, Or.inl (va_Zof (ht1 _ (tm_2 (List.mem_of_getElem? (i := 142) rfl))) (ht1 _ (tm_1 (List.mem_of_getElem? (i := 22) rfl))) z hA)⟩
    · exact ⟨a, Or.inr (va_Zof (ht1 _ (tm_2 (List.mem_of_getElem? (i := 142) rfl))) (ht1 _ (tm_1 (List.mem_of_getElem? (i := 22) rfl))) z hA)⟩
  have zq : ∀ (n d : String), (Cond.laysStatic "java/lang/Throwable" n d).before args s = true → (Cond.isRef (.static "java/lang/Throwable" n d)).before args s = true → va_Zq "java/lang/Throwable" n d (fun q : Nat => s.heap.size ≤ q) s s.heap := by
    intro n d hl hz
    rcases rf_one hz with z | ⟨a, z⟩
    · exact Or.inl (va_Zof hl (ht1 _ (tm_1 (List.mem_of_getElem? (i := 17) rfl))) z hA)
    · exact Or.inr ⟨a, va_Zof hl (ht1 _ (tm_1 (List.mem_of_getElem? (i := 17) rfl))) z hA⟩
  obtain ⟨cd, hcd⟩ := Classical.axiomOfChoice (cl_one hts)
  obtain ⟨cI, aI, bI'⟩ := ar_one (ht1 _ (tm_1 (List.mem_of_getElem? (i := 54) rfl)))
  obtain ⟨cC, aC, bC⟩ := ar_one (ht1 _ (tm_1 (List.mem_of_getElem? (i := 53) rfl)))
  obtain ⟨cZ, aZ, bZ⟩ := ar_one (ht1 _ (tm_1 (List.mem_of_getElem? (i := 77) rfl)))
  obtain ⟨cB, aB, bB⟩ := ar_one (ht1 _ (tm_1 (List.mem_of_getElem? (i := 197) rfl)))
  obtain ⟨cJ, aJ, bJ⟩ := ar_one (ht1 _ (tm_1 (List.mem_of_getElem? (i := 78) rfl)))
  obtain ⟨cR, aR, bR⟩ := ao_one (ht1 _ (tm_1 (List.mem_of_getElem? (i := 213) rfl)))
  have lS : ∀ (C n d : String), (Cond.laysStatic C n d).before args s = true → rx_lS C n d s s.heap := fun C n d hl => Cond.laysStatic_spec (args := args) (first := s) (o := none) (s := s) (idx := []) hl
  refine ⟨((fun c => (cd c).1, fun c => (cd c).2), clsF cI cC cZ cB cJ cR, locF bb adK adU tK tU t1 t2 tF adS, s.heap, Len, xs), rfl, rfl, ⟨fun c q hq => hcd c q hq, fun k q hq => ?_⟩, fun w hw => va_Nw.of (NB_on w hw) (ht1 w (rx_NB_in w hw)), ?_⟩
  · match k, hq with
    | 0, hq => cases hq; exact ⟨aI, bI'⟩
    | 1, hq => cases hq; exact ⟨aC, bC⟩
    | 2, hq => cases hq; exact ⟨aZ, bZ⟩
    | 3, hq => cases hq; exact ⟨aB, bB⟩
    | 4, hq => cases hq; exact ⟨aJ, bJ⟩
    | 5, hq => cases hq; exact ⟨aR, bR⟩
    | k + 6, hq => cases hq
  · have eS : ∀ i, i < 61 → rx_ea ((fun c => (cd c).1, fun c => (cd c).2), clsF cI cC cZ cB cJ cR, locF bb adK adU tK tU t1 t2 tF adS, s.heap, Len, xs) (30 + i) = (adS i).1 := fun i hi => (ea_lo _ (by omega)).trans (loc_s hi)
    have eV : ∀ i, i < 61 → rx_ea ((fun c => (cd c).1, fun c => (cd c).2), clsF cI cC cZ cB cJ cR, locF bb adK adU tK tU t1 t2 tF adS, s.heap, Len, xs) (100 + i) = (adS i).2 := fun i hi => (ea_lo _ (by omega)).trans (loc_v hi)
    have eKi : ∀ i, i < 13 → rx_ea ((fun c => (cd c).1, fun c => (cd c).2), clsF cI cC cZ cB cJ cR, locF bb adK adU tK tU t1 t2 tF adS, s.heap, Len, xs) (1 + i) = adK i := fun i hi => (ea_lo _ (by omega)).trans (loc_k hi)
    have eUi : ∀ i, i < 5 → rx_ea ((fun c => (cd c).1, fun c => (cd c).2), clsF cI cC cZ cB cJ cR, locF bb adK adU tK tU t1 t2 tF adS, s.heap, Len, xs) (14 + i) = adU i := fun i hi => (ea_lo _ (by omega)).trans (loc_u hi)
    generalize hev : (((fun c => (cd c).1, fun c => (cd c).2), clsF cI cC cZ cB cJ cR, locF bb adK adU tK tU t1 t2 tF adS, s.heap, Len, xs) : rx_E) = ev at eS eV eKi eUi ⊢
    have q4 : ev.2.2.2 = (s.heap, Len, xs) := by rw [← hev]
    have qH : ev.2.2.2.1 = s.heap := by rw [q4]
    have qA : rx_A ev = fun q => s.heap.size ≤ q := by unfold rx_A; rw [qH]
    have x19 : rx_ea ev 19 = tK := by rw [← hev]; rfl
    have x20 : rx_ea ev 20 = tU := by rw [← hev]; rfl
    have x21 : rx_ea ev 21 = t1 := by rw [← hev]; rfl
    have x22 : rx_ea ev 22 = t2 := by rw [← hev]; rfl
    have x23 : rx_ea ev 23 = tF := by rw [← hev]; rfl
    have x0 : rx_ea ev 0 = bb := by rw [← hev]; rfl
    unfold rx_Ext rx_ExtT
    rw [qA, q4]
    refine ⟨fun q hq => ?_, fun i hi => ?_, fun j hj => ?_, fun i hi => ?_, ?_, ?_, ?_, ?_, fun q hq => ?_, ?_, ?_, ?_, va_AO.of (ht1 _ (tm_1 (List.mem_of_getElem? (i := 213) rfl))), fun w hw => va_Nw.of (DW_on w hw) (ht1 w (DW_in w hw)), ⟨lS _ _ _ (ht1 _ (tm_3 (List.mem_of_getElem? (i := 134) rfl))), lS _ _ _ (ht1 _ (tm_3 (List.mem_of_getElem? (i := 136) rfl)))⟩, ⟨zq _ _ (ht1 _ (tm_3 (List.mem_of_getElem? (i := 134) rfl))) (nf h n_us), zq _ _ (ht1 _ (tm_3 (List.mem_of_getElem? (i := 136) rfl))) (nf h n_ss)⟩, ?_⟩
    · unfold rx_ST at hq
      simp only [List.mem_cons, List.not_mem_nil, or_false] at hq
      rcases hq with rfl | rfl | rfl | rfl | rfl | rfl | rfl
      · show va_Z "RuleText$Kind" "GAP" "LRuleText$Kind;" (.ref (rx_ea ev (1 + 0))) _ s s.heap
        rw [eKi 0 (by decide)]
        exact va_Zof (ht1 _ (tm_1 (List.mem_of_getElem? (i := 220) rfl))) (ht1 _ (tm_1 (List.mem_of_getElem? (i := 15) rfl))) (hadK 0 (by decide)) hA
      · show va_Z "RuleText$Kind" "WAIVER" "LRuleText$Kind;" (.ref (rx_ea ev (1 + 12))) _ s s.heap
        rw [eKi 12 (by decide)]
        exact va_Zof (ht1 _ (tm_2 (List.mem_of_getElem? (i := 180) rfl))) (ht1 _ (tm_1 (List.mem_of_getElem? (i := 15) rfl))) (hadK 12 (by decide)) hA
      · show va_Z "RuleText" "KINDS" "[LRuleText$Kind;" (.ref (rx_ea ev 19)) _ s s.heap
        rw [x19]
        exact va_Zof (ht1 _ (tm_2 (List.mem_of_getElem? (i := 113) rfl))) (ht1 _ (tm_1 (List.mem_of_getElem? (i := 1) rfl))) eK hA
      · show va_Z "RuleText" "UNITS" "[LRuleText$Unit;" (.ref (rx_ea ev 20)) _ s s.heap
        rw [x20]
        exact va_Zof (ht1 _ (tm_3 (List.mem_of_getElem? (i := 40) rfl))) (ht1 _ (tm_1 (List.mem_of_getElem? (i := 1) rfl))) eU hA
      · exact va_Zof (ht1 _ (tm_1 (List.mem_of_getElem? (i := 175) rfl))) (ht1 _ (tm_1 (List.mem_of_getElem? (i := 10) rfl))) (va_eqi (nf h n_cs)) hA
      · show va_Z "java/lang/Integer" "DigitOnes" "[B" (.ref (rx_ea ev 21)) _ s s.heap
        rw [x21]
        exact va_Zof (ht1 _ (tm_4 (List.mem_of_getElem? (i := 159) rfl))) (ht1 _ (tm_1 (List.mem_of_getElem? (i := 23) rfl))) e1 hA
      · show va_Z "java/lang/Integer" "DigitTens" "[B" (.ref (rx_ea ev 22)) _ s s.heap
        rw [x22]
        exact va_Zof (ht1 _ (tm_4 (List.mem_of_getElem? (i := 161) rfl))) (ht1 _ (tm_1 (List.mem_of_getElem? (i := 23) rfl))) e2 hA
    · have kw := kw_30 i hi
      rw [eKi i hi, show rx_ea ev (rx_kw i) = (adS (rx_kw i - 30)).1 by rw [← eS _ kw.2, ← kw.1]]
      exact ⟨vk_OFof (hadK i hi) (va_eqt (nf h (n_kn i hi))) hA, vk_OFof (hadK i hi) (va_eqv (nf h (n_kw i hi)) (hadS _ kw.2).1) hA, vk_OFof (hadK i hi) (va_eqt (nf h (n_kc i hi))) hA⟩
    · have kw := uw_30 j hj
      rw [eUi j hj, show rx_ea ev (rx_uw j) = (adS (rx_uw j - 30)).1 by rw [← eS _ kw.2, ← kw.1]]
      exact ⟨vk_OFof (hadU j hj) (va_eqv (nf h (n_uw j hj)) (hadS _ kw.2).1) hA, vk_OFof (hadU j hj) (va_eqtl (nf h (n_un j hj))) hA⟩
    · rw [eS i hi, eV i hi]
      exact (hadS i hi).2
    · rw [x19]
      obtain ⟨cell, c1, c2, c3, c4, c5, c6, c7⟩ := TK
      exact ⟨cell, c1, c2, c3, c4, c5, fun j hj => (c6 j hj).trans (by show some (Value.ref (adK j)) = some (Value.ref (rx_ea ev (1 + j))); rw [eKi j hj]), c7⟩
    · rw [x20]
      obtain ⟨cell, c1, c2, c3, c4, c5, c6, c7⟩ := TU
      exact ⟨cell, c1, c2, c3, c4, c5, fun j hj => (c6 j hj).trans (by show some (Value.ref (adU j)) = some (Value.ref (rx_ea ev (14 + j))); rw [eUi j hj]), c7⟩
    · rw [x21]; exact T1
    · rw [x22]; exact T2
    · obtain ⟨i, h1, h2, h3⟩ := SR_n q hq
      rw [h2, eS i h1]
      exact vk_R.of (ht1 _ (SR_in q hq)) (h3 ▸ (hadS i h1).1)
    · rw [x0]; exact hX
    · rw [x0]; exact hbl
    · have oE : ∀ i, i < 18 → (oTm i).eval args s none [] s = some (.ref (rx_ea ev (1 + i))) := by
        intro i hi
        unfold oTm
        by_cases q : i < 13
        · rw [if_pos q, eKi i q]; exact hadK i q
        · rw [if_neg q, show 1 + i = 14 + (i - 13) by omega, eUi _ (by omega)]; exact hadU _ (by omega)
      have ne : ∀ i, i < 18 → ∀ j, j < i → rx_ea ev (1 + i) ≠ rx_ea ev (1 + j) := by
        intro i hi j hj
        have z := nf h (n_ne i hi j hj)
        by_cases q : (nIx i j).2 = true
        · rw [if_pos q] at z; exact va_neR z (oE i hi) (oE j (by omega))
        · rw [if_neg q] at z; exact fun y => va_neR z (oE j (by omega)) (oE i hi) y.symm
      intro i j h1 h2 h3 h4 e
      have e1' : i = 1 + (i - 1) := by omega
      have e2' : j = 1 + (j - 1) := by omega
      rw [e1', e2'] at e
      by_cases q : i - 1 = j - 1
      · omega
      · by_cases q2 : j - 1 < i - 1
        · exact absurd e (ne (i - 1) (by omega) (j - 1) q2)
        · exact absurd e.symm (ne (j - 1) (by omega) (i - 1) (by omega))
    · rw [x23]; exact hF
end
