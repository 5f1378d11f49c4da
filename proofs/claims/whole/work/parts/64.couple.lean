/-! The class and the reference weigh rules alike -/
theorem of_eq {a b : Nat} (ha : a < 2 ^ 63) (hb : b < 2 ^ 63) : Int64.ofNat a = Int64.ofNat b ↔ a = b := ⟨nl_eq ha hb, fun z => by rw [z]⟩
theorem of_neg {a : Nat} (ha : a < 2 ^ 63) : ¬ Int64.ofNat a < 0 := fun z => by
  have := nl_lt (b := 0) ha (by decide) z
  omega
theorem of_lt {a b : Nat} (ha : a < 2 ^ 63) (hb : b < 2 ^ 63) : Int64.ofNat a < Int64.ofNat b ↔ a < b := ⟨nl_lt ha hb, fun z => by rw [Int64.lt_iff_toInt_lt, nl_toInt ha, nl_toInt hb]; omega⟩
theorem i64_inj {x y : Int32} : x.toInt64 = y.toInt64 ↔ x = y := ⟨fun z => by have := congrArg Int64.toInt32 z; rw [ll_32, ll_32] at this; exact this, fun z => by rw [z]⟩
theorem i64_neg {x : Int32} : x.toInt64 < 0 ↔ x < 0 := by
  rw [Int64.lt_iff_toInt_lt, Int32.toInt_toInt64, il]
  rfl
theorem nI_nn {a : Nat} (h : a < 2 ^ 31) : ¬ nI a < 0 := nI_pos h
theorem kO_lt {o : Option Nat} (h : ∀ s, o = some s → s < 32) : kO o < 0 ↔ o = none := by
  cases o with
  | none => exact ⟨fun _ => rfl, fun _ => by decide⟩
  | some s => exact ⟨fun z => absurd z (nI_nn (by have := h s rfl; omega)), fun z => by cases z⟩
theorem kt_inj {o o' : Option Nat} (h : ∀ s, o = some s → s < 32) (h' : ∀ s, o' = some s → s < 32) : (kO o = kO o' ∧ tO o = tO o') ↔ o = o' := by
  constructor
  · intro z
    cases o with
    | none =>
      cases o' with
      | none => rfl
      | some s => exact absurd z.1.symm (nI_m1 (by have := h' s rfl; omega))
    | some s =>
      have hs := h s rfl
      cases o' with
      | none => exact absurd z.1 (nI_m1 (by omega))
      | some s' =>
        have hs' := h' s' rfl
        have a1 := nm_eq (a := s / 16) (b := s' / 16) (by omega) (by omega) z.1
        have a2 := nm_eq (a := s % 16) (b := s' % 16) (by omega) (by omega) z.2
        congr 1
        omega
  · intro z
    rw [z]
    exact ⟨rfl, rfl⟩
section
variable {ml : Nat → Nat → Int64} {i k : Nat} {q q' : ruS}
theorem like_eq {p p' : Nat} {o o' : Option Nat} (h1 : ml 404 p = (kO o).toInt64) (h2 : ml 404 (p + 1) = (tO o).toInt64) (h1' : ml 404 p' = (kO o').toInt64) (h2' : ml 404 (p' + 1) = (tO o').toInt64) (h : ∀ s, o = some s → s < 32) (h' : ∀ s, o' = some s → s < 32) : likeM (ml 404) p p' ↔ thP2 o o' := by
  unfold likeM thP2
  rw [h1, h2, h1', h2', i64_neg, kO_lt h, i64_inj, i64_inj, kt_inj h h']
theorem ahead_eq (h : rowI ml (12 * i) q) (h' : rowI ml (12 * k) q') (ho : ruOK q) (ho' : ruOK q') : aheadM (ml 404) i k ↔ aheadP q q' i k := by
  have k1 := ho.1
  have k2 := ho'.1
  have r1 := ho.2.2.2.2.1
  have r2 := ho'.2.2.2.2.1
  unfold aheadM aheadP
  rw [h.1, h'.1, h.2.2.1.2.2.1, h'.2.2.1.2.2.1]
  have e1 : Int64.ofNat q.1 = 12 ↔ q.1 = 12 := of_eq (b := 12) (by omega) (by decide)
  have e2 : Int64.ofNat q'.1 = 12 ↔ q'.1 = 12 := of_eq (b := 12) (by omega) (by decide)
  have ed : (Int64.ofNat q.2.2.2.2.1 - Int64.ofNat q'.2.2.2.2.1).toInt = (q.2.2.2.2.1 : Int) - q'.2.2.2.2.1 := by
    rw [Int64.toInt_sub, nl_toInt (by omega), nl_toInt (by omega)]
    apply Int.bmod_eq_of_le <;> omega
  have e3 : Int64.ofNat q.2.2.2.2.1 - Int64.ofNat q'.2.2.2.2.1 = 0 ↔ q.2.2.2.2.1 = q'.2.2.2.2.1 := by
    rw [← Int64.toInt_inj, ed, show ((0 : Int64)).toInt = 0 from rfl]
    omega
  have e4 : 0 < Int64.ofNat q.2.2.2.2.1 - Int64.ofNat q'.2.2.2.2.1 ↔ q'.2.2.2.2.1 < q.2.2.2.2.1 := by
    rw [Int64.lt_iff_toInt_lt, ed, show ((0 : Int64)).toInt = 0 from rfl]
    omega
  show ((Int64.ofNat q.1 = 12 ∧ ¬ Int64.ofNat q'.1 = 12) ∨ _) ↔ _
  have e3' : Int64.ofNat (q.2.2.1, q.2.2.2.1, q.2.2.2.2.1, q.2.2.2.2.2.1).2.2.1 - Int64.ofNat (q'.2.2.1, q'.2.2.2.1, q'.2.2.2.2.1, q'.2.2.2.2.2.1).2.2.1 = 0 ↔ q.2.2.2.2.1 = q'.2.2.2.2.1 := e3
  have e4' : 0 < Int64.ofNat (q.2.2.1, q.2.2.2.1, q.2.2.2.2.1, q.2.2.2.2.2.1).2.2.1 - Int64.ofNat (q'.2.2.1, q'.2.2.2.1, q'.2.2.2.2.1, q'.2.2.2.2.2.1).2.2.1 ↔ q'.2.2.2.2.1 < q.2.2.2.2.1 := e4
  rw [e1, e2, e3', e4']
  constructor
  · rintro (z | ⟨z1, z2⟩)
    · exact Or.inl z
    · exact Or.inr ⟨z1, z2.elim (fun y => Or.inl y.2) Or.inr⟩
  · rintro (z | ⟨z1, z2⟩)
    · exact Or.inl z
    · exact Or.inr ⟨z1, z2.elim (fun y => Or.inl ⟨by omega, y⟩) Or.inr⟩
theorem things_eq (h : rowI ml (12 * i) q) (h' : rowI ml (12 * k) q') (ho : ruOK q) (ho' : ruOK q') (hk : q.1 = q'.1 ∨ (q.1 = 12 ∧ q'.1 = 0)) : thingsM (ml 404) i k ↔ thingsP q q' := by
  have k1 := ho.1
  obtain ⟨a1, a2, a3, a4⟩ := h.2.1
  obtain ⟨b1, b2, b3, b4⟩ := h'.2.1
  have t1 := ho.2.1
  have t2 := ho'.2.1
  have e0 : Int64.ofNat q.1 = 0 ↔ q.1 = 0 := of_eq (b := 0) (by omega) (by decide)
  have e1 : Int64.ofNat q.1 = 12 ↔ q.1 = 12 := of_eq (b := 12) (by omega) (by decide)
  unfold thingsM thingsP
  rw [h.1, e0, e1, like_eq a1 a2 b1 b2 t1.1 t2.1, like_eq a3 a4 b3 b4 t1.2 t2.2, like_eq a1 a2 b3 b4 t1.1 t2.2, like_eq a3 a4 b1 b2 t1.2 t2.1]
  by_cases c : q.1 = 0 ∨ q.1 = 12
  · constructor
    · rintro (z | z)
      · exact z.2
      · exact absurd c z.1
    · exact fun z => Or.inl ⟨c, z⟩
  · have n1 : q.2.1.2 = none := ho.2.2.2.2.2.2.2 (fun z => c (Or.inl z)) (fun z => c (Or.inr z))
    have hk2 : q.1 = q'.1 := hk.elim id (fun z => absurd (Or.inr z.1) c)
    have n2 : q'.2.1.2 = none := ho'.2.2.2.2.2.2.2 (fun z => c (Or.inl (hk2.trans z))) (fun z => c (Or.inr (hk2.trans z)))
    rw [n1, n2]
    unfold thP2
    constructor
    · rintro (z | z)
      · exact absurd z.1 c
      · exact Or.inl ⟨z.2, Or.inl rfl⟩
    · rintro (z | z)
      · exact Or.inr ⟨c, z.1⟩
      · exact Or.inr ⟨c, z.1.elim Or.inl Or.inl⟩
end
/-- the shapes of both are the same -/
def shE (mi : Nat → Nat → Int32) (ml : Nat → Nat → Int64) : Prop := (∀ x, x < 16 → mi 402 x = mi 261 x) ∧ ∀ x, x < 16 → ml 403 (4 * x) = ml 262 x ∧ ml 403 (4 * x + 1) = ml 263 x ∧ ml 403 (4 * x + 2) = ml 264 x ∧ ml 403 (4 * x + 3) = ml 265 x
section
variable {mi : Nat → Nat → Int32} {ml : Nat → Nat → Int64} {i k : Nat} {q q' : ruS}
theorem isArea_oR {a : Option Nat} (h : ∀ x, a = some x → x < 16) : isArea (oR a) := by
  cases a with
  | none => exact Or.inl rfl
  | some x => exact Or.inr ⟨x, h x rfl, rfl⟩
theorem area_eq {a b : Option Nat} (hs : shE mi ml) (ha : ∀ x, a = some x → x < 16) (hb : ∀ x, b = some x → x < 16) : holdsM (mi 402) (ml 403) (oR a) (oR b) ↔ areaP (shT mi) (shQ ml) a b := by
  unfold holdsM areaP
  rw [i64_neg, i64_inj, i64_neg, oR_eq (fun x z => by have := ha x z; omega) (fun x z => by have := hb x z; omega)]
  cases a with
  | none => exact ⟨fun _ => Or.inl rfl, fun _ => Or.inl (by decide)⟩
  | some x =>
    have hx := ha x rfl
    have n1 : ¬ oR (some x) < 0 := nI_nn (by omega)
    cases b with
    | none =>
      constructor
      · rintro (z | z | z)
        · exact absurd z n1
        · cases z
        · exact absurd (show oR none < 0 by decide) z.1
      · rintro (z | z | ⟨u, v, z1, z2, z3⟩)
        · cases z
        · cases z
        · cases z2
    | some y =>
      have hy := hb y rfl
      have n2 : ¬ oR (some y) < 0 := nI_nn (by omega)
      have cx : (oR (some x)).toNatClampNeg = x := nI_clamp (by omega)
      have cy : (oR (some y)).toNatClampNeg = y := nI_clamp (by omega)
      rw [cx, cy, hs.1 x hx, hs.1 y hy, (hs.2 x hx).1, (hs.2 x hx).2.1, (hs.2 x hx).2.2.1, (hs.2 x hx).2.2.2, (hs.2 y hy).1, (hs.2 y hy).2.1, (hs.2 y hy).2.2.1, (hs.2 y hy).2.2.2]
      constructor
      · rintro (z | z | ⟨z0, z1, z2, z3, z4, z5, z6⟩)
        · exact absurd z n1
        · exact Or.inr (Or.inl z)
        · exact Or.inr (Or.inr ⟨x, y, rfl, rfl, z1, z2, z3, z5, z4, z6⟩)
      · rintro (z | z | ⟨u, v, z1, z2, z3, z4, z5, z6, z7, z8⟩)
        · cases z
        · exact Or.inr (Or.inl z)
        · cases z1; cases z2
          exact Or.inr (Or.inr ⟨n2, z3, z4, z5, z7, z6, z8⟩)
theorem covers_eq (hs : shE mi ml) (h : rowI ml (12 * i) q) (h' : rowI ml (12 * k) q') (ho : ruOK q) (ho' : ruOK q') : coversM (mi 402) (ml 403) (ml 404) (oR q.2.2.2.1) (oR q'.2.2.2.1) i k ↔ coversP (shT mi) (shQ ml) q q' := by
  have k1 := ho.1
  have k2 := ho'.1
  have l1 := ho.2.2.1
  have l2 := ho'.2.2.1
  have e0 : Int64.ofNat q.1 = Int64.ofNat q'.1 ↔ q.1 = q'.1 := of_eq (by omega) (by omega)
  have e1 : Int64.ofNat q.1 = 12 ↔ q.1 = 12 := of_eq (b := 12) (by omega) (by decide)
  have e2 : Int64.ofNat q'.1 = 0 ↔ q'.1 = 0 := of_eq (b := 0) (by omega) (by decide)
  have e3 : ml 404 (12 * i + 5) = 0 ↔ q.2.2.1 = 0 := by rw [h.2.2.1.1]; exact of_eq (b := 0) (by show q.2.2.1 < _; omega) (by decide)
  have e4 : ml 404 (12 * i + 5) = ml 404 (12 * k + 5) ↔ q.2.2.1 = q'.2.2.1 := by rw [h.2.2.1.1, h'.2.2.1.1]; exact of_eq (by show q.2.2.1 < _; omega) (by show q'.2.2.1 < _; omega)
  unfold coversM coversP
  rw [h.1, h'.1, e0, e1, e2, e3, e4, area_eq hs ho.2.2.2.1 ho'.2.2.2.1]
  constructor
  · rintro ⟨z1, z2, z3⟩
    exact ⟨z1, (things_eq h h' ho ho' z1).mp z2, z3⟩
  · rintro ⟨z1, z2, z3⟩
    exact ⟨z1, (things_eq h h' ho ho' z1).mpr z2, z3⟩
theorem oL_neg {a : Option Nat} (h : ∀ x, a = some x → x < 2 ^ 63) : oL a < 0 ↔ a = none := by
  cases a with
  | none => exact ⟨fun _ => rfl, fun _ => by decide⟩
  | some x => exact ⟨fun z => absurd z (of_neg (h x rfl)), fun z => by cases z⟩
theorem reach_eq {a b : Option Nat} (ha : ∀ x, a = some x → x < 2 ^ 63) (hb : ∀ x, b = some x → x < 2 ^ 63) : (¬ oL a < 0 ∧ ¬ oL b < 0 ∧ oL a < oL b) ↔ ¬ (a = none ∨ b = none ∨ ∃ x y, a = some x ∧ b = some y ∧ y ≤ x) := by
  rw [oL_neg ha, oL_neg hb]
  cases a with
  | none => exact ⟨fun z => absurd rfl z.1, fun z => absurd (Or.inl rfl) z⟩
  | some x =>
    cases b with
    | none => exact ⟨fun z => absurd rfl z.2.1, fun z => absurd (Or.inr (Or.inl rfl)) z⟩
    | some y =>
      have e : oL (some x) < oL (some y) ↔ x < y := of_lt (ha x rfl) (hb y rfl)
      rw [e]
      constructor
      · rintro ⟨-, -, z⟩ (y1 | y1 | ⟨u, v, y1, y2, y3⟩)
        · cases y1
        · cases y1
        · cases y1; cases y2; omega
      · intro z
        refine ⟨(fun y => by cases y), (fun y => by cases y), Nat.lt_of_not_le (fun y' => z (Or.inr (Or.inr ⟨x, y, rfl, rfl, y'⟩)))⟩
theorem odds_eq (hs : shE mi ml) (h : rowI ml (12 * i) q) (h' : rowI ml (12 * k) q') (ho : ruOK q) (ho' : ruOK q') : clashM (mi 402) (ml 403) (ml 404) (oR q.2.2.2.1) (oR q'.2.2.2.1) i k ↔ oddsP (shT mi) (shQ ml) q q' := by
  have k1 := ho.1
  have e1 : Int64.ofNat q.1 = 12 ↔ q.1 = 12 := of_eq (b := 12) (by omega) (by decide)
  unfold clashM oddsP
  rw [h.1, e1, covers_eq hs h h' ho ho', covers_eq hs h' h ho' ho, h.2.2.1.2.2.2.1, h.2.2.1.2.2.2.2, h'.2.2.1.2.2.2.1, h'.2.2.1.2.2.2.2]
  by_cases n1 : q.1 = 12
  · exact ⟨fun z => absurd n1 z.1, fun z => absurd n1 z.1⟩
  · by_cases n2 : q'.1 = 12
    · constructor
      · intro z
        rcases z.2.1.1 with y | y
        · exact absurd (y.trans n2) n1
        · exact absurd y.1 n1
      · exact fun z => absurd n2 z.2.1
    · have l1 := ends_lt (ho.2.2.2.2.2.1 n1)
      have l2 := ends_lt (ho'.2.2.2.2.2.1 n2)
      have r1 := reach_eq l1.2 l2.1
      have r2 := reach_eq l2.2 l1.1
      have c1 : (¬ oL (q.2.2.1, q.2.2.2.1, q.2.2.2.2.1, q.2.2.2.2.2.1).2.2.2.2 < 0 ∧ ¬ oL (q'.2.2.1, q'.2.2.2.1, q'.2.2.2.2.1, q'.2.2.2.2.2.1).2.2.2.1 < 0 ∧ oL (q.2.2.1, q.2.2.2.1, q.2.2.2.2.1, q.2.2.2.2.2.1).2.2.2.2 < oL (q'.2.2.1, q'.2.2.2.1, q'.2.2.2.2.1, q'.2.2.2.2.2.1).2.2.2.1) ↔ ¬ reachP q q' := r1
      have c2 : (¬ oL (q'.2.2.1, q'.2.2.2.1, q'.2.2.2.2.1, q'.2.2.2.2.2.1).2.2.2.2 < 0 ∧ ¬ oL (q.2.2.1, q.2.2.2.1, q.2.2.2.2.1, q.2.2.2.2.2.1).2.2.2.1 < 0 ∧ oL (q'.2.2.1, q'.2.2.2.1, q'.2.2.2.2.1, q'.2.2.2.2.2.1).2.2.2.2 < oL (q.2.2.1, q.2.2.2.1, q.2.2.2.2.1, q.2.2.2.2.2.1).2.2.2.1) ↔ ¬ reachP q' q := r2
      rw [c1, c2]
      constructor
      · rintro ⟨z1, z2, z3, z4⟩
        exact ⟨z1, n2, fun y => z4.elim (fun w => w y.1) (fun w => w y.2), z2, z3⟩
      · rintro ⟨z1, z2, z3, z4, z5⟩
        refine ⟨z1, z4, z5, ?_⟩
        by_cases w : reachP q q'
        · exact Or.inr (fun y => z3 ⟨w, y⟩)
        · exact Or.inl w
/-- what the rows hold is what the list holds -/
def roE (ml : Nat → Nat → Int64) (L : List ruS) : Prop := ∀ i q, L[i]? = some q → rowI ml (12 * i) q ∧ ruOK q
def zL (L : List ruS) (i : Nat) : Int32 := oR (((L[i]?).map (fun q => q.2.2.2.1)).getD none)
theorem zL_eq {L : List ruS} (h : L[i]? = some q) : zL L i = oR q.2.2.2.1 := by unfold zL; rw [h]; rfl
theorem zL_ok {L : List ruS} (h : roE ml L) : ∀ k, k < L.length → ml 404 (12 * k + 6) = (zL L k).toInt64 ∧ isArea (zL L k) := by
  intro k hk
  obtain ⟨q, hq⟩ := getL hk
  have r := h k q hq
  rw [zL_eq hq]
  exact ⟨r.1.2.2.1.2.1, isArea_oR r.2.2.2.2.1⟩
theorem aheadL_eq {L : List ruS} (h : roE ml L) (hi : i < L.length) (hk : k < L.length) : aheadM (ml 404) i k ↔ aheadL L i k := by
  obtain ⟨q, hq⟩ := getL hi
  obtain ⟨q', hq'⟩ := getL hk
  rw [ahead_eq (h i q hq).1 (h k q' hq').1 (h i q hq).2 (h k q' hq').2]
  exact (exL2 (P := fun q q' => aheadP q q' i k) hq hq').symm
theorem coversL_eq {L : List ruS} (hs : shE mi ml) (h : roE ml L) (hi : i < L.length) (hk : k < L.length) : coversM (mi 402) (ml 403) (ml 404) (zL L i) (zL L k) i k ↔ coversL (shT mi) (shQ ml) L i k := by
  obtain ⟨q, hq⟩ := getL hi
  obtain ⟨q', hq'⟩ := getL hk
  rw [zL_eq hq, zL_eq hq', covers_eq hs (h i q hq).1 (h k q' hq').1 (h i q hq).2 (h k q' hq').2]
  exact (exL2 (P := fun q q' => coversP (shT mi) (shQ ml) q q') hq hq').symm
theorem oddsL_eq {L : List ruS} (hs : shE mi ml) (h : roE ml L) (hi : i < L.length) (hk : k < L.length) : clashM (mi 402) (ml 403) (ml 404) (zL L i) (zL L k) i k ↔ oddsL (shT mi) (shQ ml) L i k := by
  obtain ⟨q, hq⟩ := getL hi
  obtain ⟨q', hq'⟩ := getL hk
  rw [zL_eq hq, zL_eq hq', odds_eq hs (h i q hq).1 (h k q' hq').1 (h i q hq).2 (h k q' hq').2]
  exact (exL2 (P := fun q q' => oddsP (shT mi) (shQ ml) q q') hq hq').symm
theorem rank_eq {L : List ruS} (h : roE ml L) (hk : k < L.length) : cF (fun i => aheadM (ml 404) i k) L.length 0 = cF (fun i => aheadL L i k) L.length 0 := cF_congr (n := L.length) _ _ (by omega) (fun j hj => aheadL_eq h hj hk)
theorem never_eq {L : List ruS} {K : Nat} (hs : shE mi ml) (h : roE ml L) : nthF (beatM (mi 402) (ml 403) (ml 404) (zL L) L.length) L.length 0 K = nthF (beatL (shT mi) (shQ ml) L) L.length 0 K := by
  refine nthF_congr (n := L.length) _ _ _ (by omega) (fun j hj => ?_)
  unfold beatM beatL exB
  exact ⟨fun ⟨x, a, b⟩ => ⟨x, a, (aheadL_eq h a hj).mp b.1, (coversL_eq hs h a hj).mp b.2⟩, fun ⟨x, a, b⟩ => ⟨x, a, (aheadL_eq h a hj).mpr b.1, (coversL_eq hs h a hj).mpr b.2⟩⟩
theorem clash_eq {L : List ruS} {K : Nat} (hs : shE mi ml) (h : roE ml L) : nthA (fun a b => clashM (mi 402) (ml 403) (ml 404) (zL L a) (zL L b) a b) L.length L.length 0 K = nthA (oddsL (shT mi) (shQ ml) L) L.length L.length 0 K := nthA_congr (n := L.length) _ _ _ (by omega) (fun i j hi hj _ => oddsL_eq hs h hi hj)
theorem kinds_ok {L : List ruS} (h : roE ml L) : ∀ k, k < L.length → ml 404 (12 * k) = (nI (kL L k)).toInt64 ∧ kL L k < 13 := by
  intro k hk
  obtain ⟨q, hq⟩ := getL hk
  have r := h k q hq
  have := r.2.1
  rw [kL_eq hq, nl_i2l (by omega)]
  exact ⟨r.1.1, r.2.1⟩
theorem rule_eq {L : List ruS} {w : Nat} (h : roE ml L) (hk : L[k]? = some q) (hw : w < 8) : (ml 404 (12 * k + w)).toInt32 = ruV q w := by
  obtain ⟨⟨h0, ⟨h1, h2, h3, h4⟩, ⟨h5, h6, h7, h8, h9⟩, h10⟩, ho⟩ := h k q hk
  match w, hw with
  | 0, _ => show (ml 404 (12 * k)).toInt32 = nI q.1; rw [h0, nl_l2i]
  | 1, _ => show (ml 404 (12 * k + 1)).toInt32 = kO q.2.1.1; rw [h1, ll_32]
  | 2, _ => show (ml 404 (12 * k + 2)).toInt32 = tO q.2.1.1; rw [h2, ll_32]
  | 3, _ => show (ml 404 (12 * k + 3)).toInt32 = kO q.2.1.2; rw [h3, ll_32]
  | 4, _ => show (ml 404 (12 * k + 4)).toInt32 = tO q.2.1.2; rw [h4, ll_32]
  | 5, _ => show (ml 404 (12 * k + 5)).toInt32 = nI q.2.2.1; rw [h5, nl_l2i]
  | 6, _ => show (ml 404 (12 * k + 6)).toInt32 = oR q.2.2.2.1; rw [h6, ll_32]
  | 7, _ => show (ml 404 (12 * k + 7)).toInt32 = nI q.2.2.2.2.1; rw [h7, nl_l2i]
theorem value_eq {L : List ruS} {w : Nat} (h : roE ml L) (hk : L[k]? = some q) (hw : w < 2) : ml 404 (12 * k + 8 + w) = oL (if w = 0 then q.2.2.2.2.2.1.1 else q.2.2.2.2.2.1.2) := by
  obtain ⟨⟨h0, -, ⟨h5, h6, h7, h8, h9⟩, h10⟩, ho⟩ := h k q hk
  match w, hw with
  | 0, _ => exact h8
  | 1, _ => exact h9
theorem line_eq {L : List ruS} (h : roE ml L) (hk : L[k]? = some q) : (ml 404 (12 * k + 10)).toInt32 = nI q.2.2.2.2.2.2 := by
  rw [(h k q hk).1.2.2.2, nl_l2i]
end
