/-! Longs that are numbers; what a text says -/
theorem nl_add (a b : Nat) : Int64.ofNat a + Int64.ofNat b = Int64.ofNat (a + b) := (Int64.ofNat_add a b).symm
theorem nl_mul (a b : Nat) : Int64.ofNat a * Int64.ofNat b = Int64.ofNat (a * b) := (Int64.ofNat_mul a b).symm
theorem nl_sub {a b : Nat} (h : b ≤ a) : Int64.ofNat a - Int64.ofNat b = Int64.ofNat (a - b) := by
  have : Int64.ofNat a = Int64.ofNat (a - b) + Int64.ofNat b := by rw [nl_add, Nat.sub_add_cancel h]
  rw [this, Int64.add_sub_cancel]
theorem nl_toInt {a : Nat} (h : a < 2 ^ 63) : (Int64.ofNat a).toInt = a := Int64.toInt_ofNat_of_lt h
theorem nl_i2l {a : Nat} (h : a < 2 ^ 31) : (nI a).toInt64 = Int64.ofNat a := by
  apply Int64.toInt_inj.mp
  rw [Int32.toInt_toInt64, nI_toInt h, nl_toInt (by omega)]
theorem nl_l2i (a : Nat) : (Int64.ofNat a).toInt32 = nI a := by
  apply Int32.toBitVec_inj.mp
  show (BitVec.ofNat 64 a).signExtend 32 = BitVec.ofNat 32 a
  apply BitVec.eq_of_toNat_eq
  simp [BitVec.signExtend_eq_setWidth_of_le]
theorem nl_div {a b : Nat} (ha : a < 2 ^ 63) (hb : b < 2 ^ 63) (_h0 : 0 < b) : Int64.ofNat a / Int64.ofNat b = Int64.ofNat (a / b) := by
  apply Int64.toInt_inj.mp
  have hd : a / b ≤ a := Nat.div_le_self a b
  rw [Int64.toInt_div, nl_toInt ha, nl_toInt hb, nl_toInt (by omega), ← Int.ofNat_tdiv]
  generalize a / b = q at hd ⊢
  apply Int.bmod_eq_of_le <;> omega
theorem nl_rem {a b : Nat} (ha : a < 2 ^ 63) (hb : b < 2 ^ 63) (h0 : 0 < b) : Int64.ofNat a - Int64.ofNat a / Int64.ofNat b * Int64.ofNat b = Int64.ofNat (a % b) := by
  rw [nl_div ha hb h0, nl_mul, nl_sub (Nat.div_mul_le_self a b)]
  congr 1
  have := Nat.mod_add_div a b
  rw [Nat.mul_comm] at this
  omega
theorem nl_lt {a b : Nat} (ha : a < 2 ^ 63) (hb : b < 2 ^ 63) (h : Int64.ofNat a < Int64.ofNat b) : a < b := by
  rw [Int64.lt_iff_toInt_lt, nl_toInt ha, nl_toInt hb] at h; omega
theorem nl_nlt {a b : Nat} (ha : a < 2 ^ 63) (hb : b < 2 ^ 63) (h : ¬ Int64.ofNat a < Int64.ofNat b) : b ≤ a := by
  rw [Int64.lt_iff_toInt_lt, nl_toInt ha, nl_toInt hb] at h; omega
theorem nl_le {a b : Nat} (ha : a < 2 ^ 63) (hb : b < 2 ^ 63) (h : Int64.ofNat a ≤ Int64.ofNat b) : a ≤ b := by
  rw [Int64.le_iff_toInt_le, nl_toInt ha, nl_toInt hb] at h; omega
theorem nl_nle {a b : Nat} (ha : a < 2 ^ 63) (hb : b < 2 ^ 63) (h : ¬ Int64.ofNat a ≤ Int64.ofNat b) : b < a := by
  rw [Int64.le_iff_toInt_le, nl_toInt ha, nl_toInt hb] at h; omega
theorem nl_eq {a b : Nat} (ha : a < 2 ^ 63) (hb : b < 2 ^ 63) (h : Int64.ofNat a = Int64.ofNat b) : a = b := by
  have := congrArg Int64.toInt h
  rw [nl_toInt ha, nl_toInt hb] at this; omega
theorem nl_ne {a b : Nat} (ha : a < 2 ^ 63) (hb : b < 2 ^ 63) (h : ¬ Int64.ofNat a = Int64.ofNat b) : ¬ a = b := fun q => h (by rw [q])
theorem nl_ne0 {a : Nat} (ha : a < 2 ^ 63) (h0 : 0 < a) : ¬ Int64.ofNat a = 0 := fun q => by
  have := nl_eq (b := 0) ha (by decide) q
  omega
noncomputable def cnd {α : Type} (p : Prop) (a b : α) : α := @ite _ p (Classical.propDecidable p) a b
theorem cnd_t {α : Type} {p : Prop} {a b : α} (h : p) : cnd p a b = a := if_pos h
theorem cnd_f {α : Type} {p : Prop} {a b : α} (h : ¬ p) : cnd p a b = b := if_neg h
/-- word j is text s -/
def isW (n : Nat) (t : Nat → Int32) (j s : Nat) : Prop := wIs t (tk n t j) (rx_tx s)
theorem isW_one {n : Nat} {t : Nat → Int32} {j s s' : Nat} (h : isW n t j s) (h' : isW n t j s') : rx_tx s = rx_tx s' := by
  obtain ⟨a, b⟩ := h
  obtain ⟨a', b'⟩ := h'
  have e : (rx_tx s).length = (rx_tx s').length := a.symm.trans a'
  apply List.ext_getElem e
  intro i h1 h2
  have q := (b i h1).symm.trans (b' i h2)
  simpa [List.getD, h1, h2] using q
/-- names: a thing's length and letters -/
abbrev nmS : Type := (Nat → Nat) × (Nat → Nat → Int32)
def nmd (N : nmS) (n : Nat) (t : Nat → Int32) (j k : Nat) : Prop := (0 < N.1 k ∧ N.1 k = tlen n t j) ∧ ∀ i, i < N.1 k → N.2 k i = t ((tk n t j).1 + i)
noncomputable def fnd (N : nmS) (n : Nat) (t : Nat → Int32) (j a : Nat) : Option Nat := nthF (fun x => nmd N n t j (16 * a + x)) 16 0 0
/-- digits from k on: their number -/
def dvF (t : Nat → Int32) : Nat → Nat → Nat → Nat
  | 0, _, v => v
  | f + 1, k, v => dvF t f (k + 1) (10 * v + ((t k).toInt - 48).toNat)
/-- a word of one or two digits -/
noncomputable def snm (n : Nat) (t : Nat → Int32) (j : Nat) : Option Nat :=
  cnd ((1 ≤ tlen n t j ∧ tlen n t j ≤ 2) ∧ ∀ i, i < tlen n t j → isDig (t ((tk n t j).1 + i))) (some (dvF t (tlen n t j) (tk n t j).1 0)) none
/-- a word of one or two digits within bounds -/
noncomputable def smallR (n : Nat) (t : Nat → Int32) (j lo hi : Nat) : Option Nat := match snm n t j with
  | none => none
  | some v => if lo ≤ v ∧ v ≤ hi then some v else none
/-- a number with or without places: its whole part and its millionths -/
noncomputable def amt (n : Nat) (t : Nat → Int32) (j : Nat) : Option (Nat × Nat) :=
  let b := (tk n t j).1
  let e := (tk n t j).2
  let p := de e t (e - b) b
  if p - b < 1 ∨ 9 < p - b then none
  else if p = e then some (dvF t (p - b) b 0, 0)
  else if (t p).toInt = 46 ∧ de e t (e - (p + 1)) (p + 1) = e ∧ 1 ≤ e - (p + 1) ∧ e - (p + 1) ≤ 6 then some (dvF t (p - b) b 0, dvF t (e - (p + 1)) (p + 1) 0 * 10 ^ (6 - (e - (p + 1))))
  else none
noncomputable def knd (n : Nat) (t : Nat → Int32) (j : Nat) : Option Nat := nthF (fun i => isW n t j (rx_kw i - 30)) 13 0 0
noncomputable def unt (n : Nat) (t : Nat → Int32) (j : Nat) : Option Nat := nthF (fun i => isW n t j (rx_uw i - 30)) 5 0 0
def unN (u : Nat) : Nat := ([1, 1000, 1000000, 25400, 25400000] : List Nat).getD u 0
/-- what a number comes to in a unit, if that is whole and within the limit -/
def cvt (A : Nat × Nat) (u lim : Nat) : Option Nat := if A.2 * u % 1000000 = 0 ∧ A.1 * u + A.2 * u / 1000000 ≤ lim then some (A.1 * u + A.2 * u / 1000000) else none
noncomputable def pThing (N : nmS) (n : Nat) (t : Nat → Int32) (j : Nat) : Nat ⊕ (Option Nat × Nat) :=
  cnd (isW n t j 2) (.inr (none, j + 1)) (cnd (isW n t j 3) (match fnd N n t (j + 1) 0 with | some x => .inr (some x, j + 2) | none => .inl (j + 1))
    (cnd (isW n t j 4) (match fnd N n t (j + 1) 1 with | some x => .inr (some (16 + x), j + 2) | none => .inl (j + 1)) (.inl j)))
/-- two things with and between them -/
noncomputable def pTwo (N : nmS) (n : Nat) (t : Nat → Int32) (j : Nat) : Nat ⊕ ((Option Nat × Option Nat) × Nat) :=
  match pThing N n t j with
  | .inl k => .inl k
  | .inr (o, j1) => cnd (isW n t j1 5) (match pThing N n t (j1 + 1) with | .inl k => .inl k | .inr (o2, j2) => .inr ((o, o2), j2)) (.inl j1)
noncomputable def pScope (N : nmS) (n : Nat) (t : Nat → Int32) (κ j : Nat) : Nat ⊕ ((Option Nat × Option Nat) × Nat) :=
  if κ = 12 then pTwo N n t j
  else if κ = 0 then cnd (isW n t j 0) (pTwo N n t (j + 1)) (.inr ((none, none), j))
  else cnd (isW n t j 1) (match pThing N n t (j + 1) with | .inl k => .inl k | .inr (o, j1) => .inr ((o, none), j1)) (.inr ((none, none), j))
noncomputable def pLayer (n : Nat) (t : Nat → Int32) (j : Nat) : Nat ⊕ (Nat × Nat) :=
  cnd (isW n t j 6) (cnd (isW n t (j + 1) 7) (match smallR n t (j + 2) 1 32 with | some v => .inr (3 + v, j + 3) | none => .inl (j + 2))
    (cnd (isW n t (j + 1) 8) (.inr (1, j + 2)) (cnd (isW n t (j + 1) 9) (.inr (2, j + 2)) (cnd (isW n t (j + 1) 10) (.inr (3, j + 2)) (.inl (j + 1)))))) (.inr (0, j))
noncomputable def pArea (N : nmS) (n : Nat) (t : Nat → Int32) (j : Nat) : Nat ⊕ (Option Nat × Nat) :=
  cnd (isW n t j 11) (match fnd N n t (j + 1) 2 with | some x => .inr (some x, j + 2) | none => .inl (j + 1)) (.inr (none, j))
noncomputable def pRank (n : Nat) (t : Nat → Int32) (j : Nat) : Nat ⊕ (Nat × Nat) :=
  cnd (isW n t j 12) (match smallR n t (j + 1) 0 99 with | some v => .inr (v, j + 2) | none => .inl (j + 1)) (.inr (0, j))
/-- a number at word j: of a count it is whole and within the limit -/
noncomputable def pNum (n : Nat) (t : Nat → Int32) (c : Prop) (j : Nat) : Option (Nat × Nat) :=
  match amt n t j with
  | none => none
  | some A => cnd (c ∧ cvt A 1 1000000 = none) none (some A)
/-- the ends of a value, at j1 and, with to, at j2 -/
noncomputable def pEnds (n : Nat) (t : Nat → Int32) (c : Prop) (j1 : Nat) (A : Nat × Nat) (o2 : Option (Nat × Nat)) (j3 : Nat) : Nat ⊕ ((Nat × Nat) × Nat) :=
  cnd c (match o2 with | none => .inr ((A.1, A.1), j3) | some B => if B.1 < A.1 then .inl (j1 + 2) else .inr ((A.1, B.1), j3))
    (match unt n t j3 with
    | none => .inl j3
    | some u => match cvt A (unN u) 1000000000000 with
      | none => .inl j1
      | some a => match o2 with
        | none => .inr ((a, a), j3 + 1)
        | some B => match cvt B (unN u) 1000000000000 with
          | none => .inl (j1 + 2)
          | some b => if b < a then .inl (j1 + 2) else .inr ((a, b), j3 + 1))
noncomputable def pVal (n : Nat) (t : Nat → Int32) (c : Prop) (one : Prop) (j1 : Nat) : Nat ⊕ ((Nat × Nat) × Nat) :=
  match pNum n t c j1 with
  | none => .inl j1
  | some A => cnd (¬ one ∧ isW n t (j1 + 1) 15) (match pNum n t c (j1 + 2) with | none => .inl (j1 + 2) | some B => pEnds n t c j1 A (some B) (j1 + 3)) (pEnds n t c j1 A none (j1 + 1))
noncomputable def pSpan (n : Nat) (t : Nat → Int32) (κ j : Nat) : Nat ⊕ ((Option Nat × Option Nat) × Nat) :=
  cnd (isW n t j 13) (match pVal n t (κ = 5 ∨ κ = 9) True (j + 1) with | .inl k => .inl k | .inr (q, j') => .inr ((some q.1, none), j'))
    (cnd (isW n t j 14) (match pVal n t (κ = 5 ∨ κ = 9) True (j + 1) with | .inl k => .inl k | .inr (q, j') => .inr ((none, some q.2), j'))
      (match pVal n t (κ = 5 ∨ κ = 9) False j with | .inl k => .inl k | .inr (q, j') => .inr ((some q.1, some q.2), j')))
/-- kind, things, layer, area, rank, ends, line -/
abbrev ruS : Type := Nat × (Option Nat × Option Nat) × Nat × Option Nat × Nat × (Option Nat × Option Nat) × Nat
/-- what stands behind the things: layer, area, rank, ends -/
abbrev reS : Type := Nat × Option Nat × Nat × (Option Nat × Option Nat)
noncomputable def semi (n : Nat) (t : Nat → Int32) (q : reS) (j : Nat) : Nat ⊕ (reS × Nat) := cnd (isW n t j 16) (.inr (q, j + 1)) (.inl j)
noncomputable def rSpan (n : Nat) (t : Nat → Int32) (κ l : Nat) (a : Option Nat) (r j : Nat) : Nat ⊕ (reS × Nat) := match pSpan n t κ j with
  | .inl k => .inl k
  | .inr (e, j4) => semi n t (l, a, r, e) j4
noncomputable def rRank (n : Nat) (t : Nat → Int32) (κ l : Nat) (a : Option Nat) (j : Nat) : Nat ⊕ (reS × Nat) := match pRank n t j with
  | .inl k => .inl k
  | .inr (r, j3) => rSpan n t κ l a r j3
noncomputable def rArea (N : nmS) (n : Nat) (t : Nat → Int32) (κ l j : Nat) : Nat ⊕ (reS × Nat) := match pArea N n t j with
  | .inl k => .inl k
  | .inr (a, j2) => rRank n t κ l a j2
noncomputable def rLayer (N : nmS) (n : Nat) (t : Nat → Int32) (κ j : Nat) : Nat ⊕ (reS × Nat) := match pLayer n t j with
  | .inl k => .inl k
  | .inr (l, j1) => rArea N n t κ l j1
noncomputable def rRest (N : nmS) (n : Nat) (t : Nat → Int32) (κ j : Nat) : Nat ⊕ (reS × Nat) := if κ = 12 then semi n t (0, none, 0, (none, none)) j else rLayer N n t κ j
/-- line feeds ahead of a place -/
def lnF (t : Nat → Int32) : Nat → Nat
  | 0 => 0
  | i + 1 => lnF t i + (if (t i).toInt = 10 then 1 else 0)
noncomputable def pSent (N : nmS) (n : Nat) (t : Nat → Int32) (j : Nat) : Nat ⊕ (ruS × Nat) :=
  match knd n t j with
  | none => .inl j
  | some κ => match pScope N n t κ (j + 1) with
    | .inl k => .inl k
    | .inr (s, j1) => match rRest N n t κ j1 with
      | .inl k => .inl k
      | .inr (q, j2) => .inr ((κ, s, q.1, q.2.1, q.2.2.1, q.2.2.2, lnF t (tk n t j).1), j2)
noncomputable def pAll (N : nmS) (n : Nat) (t : Nat → Int32) : Nat → Nat → Nat ⊕ List ruS
  | 0, j => if tlen n t j = 0 then .inr [] else .inl j
  | f + 1, j => if tlen n t j = 0 then .inr [] else match pSent N n t j with
    | .inl k => .inl k
    | .inr (r, j') => match pAll N n t f j' with
      | .inl k => .inl k
      | .inr l => .inr (r :: l)
