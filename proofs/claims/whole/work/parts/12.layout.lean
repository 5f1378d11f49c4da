/-! THE LAYOUT: the cells of the class (256 to 397), of the reference (398 to 407), of the law (408) -/
def ct0 (r : Nat) : Nat × Nat := ([(0, 0), (2, 0), (101, 384), (100, 48), (6, 0), (102, 16), (104, 16), (104, 16), (104, 16), (104, 16), (7, 0), (101, 3000), (3, 0), (1, 0), (1, 0), (8, 0), (10, 0), (103, 16), (5, 0), (105, 60), (4, 0), (4, 0), (4, 0), (4, 0), (4, 0), (4, 0), (4, 0), (4, 0), (4, 0), (4, 0), (4, 0), (4, 0), (4, 0), (4, 0), (4, 0), (4, 0), (4, 0), (4, 0), (4, 0), (4, 0), (4, 0), (4, 0), (4, 0), (4, 0), (4, 0), (4, 0), (4, 0), (4, 0), (4, 0), (4, 0), (4, 0), (4, 0), (4, 0), (4, 0), (4, 0), (4, 0), (4, 0), (4, 0), (4, 0), (4, 0), (4, 0), (4, 0), (4, 0), (4, 0), (4, 0), (4, 0), (4, 0), (4, 0), (4, 0), (4, 0), (4, 0), (4, 0), (4, 0), (4, 0), (4, 0), (4, 0), (4, 0), (4, 0), (4, 0), (4, 0), (5, 0), (105, 60), (4, 0), (4, 0), (4, 0), (4, 0), (4, 0), (4, 0), (4, 0), (4, 0), (4, 0), (4, 0), (4, 0), (4, 0), (4, 0), (4, 0), (4, 0), (4, 0), (4, 0), (4, 0), (4, 0), (4, 0), (4, 0), (4, 0), (4, 0), (4, 0), (4, 0), (4, 0), (4, 0), (4, 0), (4, 0), (4, 0), (4, 0), (4, 0), (4, 0), (4, 0), (4, 0), (4, 0), (4, 0), (4, 0), (4, 0), (4, 0), (4, 0), (4, 0), (4, 0), (4, 0), (4, 0), (4, 0), (4, 0), (4, 0), (4, 0), (4, 0), (4, 0), (4, 0), (4, 0), (4, 0), (4, 0), (4, 0), (4, 0), (4, 0), (4, 0), (4, 0), (9, 0), (100, 3000), (100, 48), (100, 384), (102, 16), (104, 64), (104, 1440), (100, 3001), (100, 3001), (100, 9000), (104, 1)] : List (Nat × Nat)).getD (r - 256) (0, 0)
def fixR : List (Nat × Nat × Nat) := [(256, 0, 257), (256, 1, 260), (256, 2, 266), (256, 3, 268), (256, 4, 271), (257, 0, 258), (257, 1, 259), (260, 0, 261), (260, 1, 262), (260, 2, 263), (260, 3, 264), (260, 4, 265), (266, 0, 267), (268, 0, 266), (268, 1, 257), (268, 2, 269), (268, 3, 270), (271, 0, 272), (271, 1, 257), (274, 0, 275), (336, 0, 337), (398, 1, 399), (398, 3, 400), (398, 4, 401), (398, 5, 402), (398, 6, 403), (398, 8, 404), (398, 10, 405), (398, 11, 406), (398, 15, 407)]
def LAY (nx : Nat) (ct : Nat → Nat × Nat) (mr : Nat → Nat → Option Nat) : Prop := 409 ≤ nx ∧ (∀ r, 256 ≤ r → r < 409 → ct r = ct0 r) ∧ (∀ q ∈ fixR, mr q.1 q.2.1 = some q.2.2) ∧ ∀ i, i < 60 → mr 275 i = some (276 + i) ∧ mr 337 i = some (338 + i)
theorem ly {nx : Nat} {ct : Nat → Nat × Nat} {mi : Nat → Nat → Int32} {ml : Nat → Nat → Int64} {mr mr' : Nat → Nat → Option Nat} (hL : LAY nx ct mr) (r t n : Nat) (h : (256 ≤ r ∧ r < 409) ∧ ct0 r = (t, n) := by decide) : rx_is (nx, ct, mi, ml, mr') r t n := by
  have h1 := hL.1
  exact ⟨h.1.1, by show r < nx; omega, (hL.2.1 r h.1.1 h.1.2).trans h.2⟩
theorem lr {nx : Nat} {ct : Nat → Nat × Nat} {mr : Nat → Nat → Option Nat} (hL : LAY nx ct mr) (r k v : Nat) (h : (r, k, v) ∈ fixR := by decide) : mr r k = some v := hL.2.2.1 _ h
/-- a rule's cell -/
def isRu (r : Nat) : Prop := (276 ≤ r ∧ r < 336) ∨ (338 ≤ r ∧ r < 398)
theorem ct0_ru : ∀ i, i < 60 → ct0 (276 + i) = (4, 0) ∧ ct0 (338 + i) = (4, 0) := by decide +kernel
theorem ly_ru {nx : Nat} {ct : Nat → Nat × Nat} {mi : Nat → Nat → Int32} {ml : Nat → Nat → Int64} {mr mr' : Nat → Nat → Option Nat} (hL : LAY nx ct mr) {r : Nat} (h : isRu r) : rx_is (nx, ct, mi, ml, mr') r 4 0 := by
  have h1 := hL.1
  have e : ct0 r = (4, 0) := by
    rcases h with h | h
    · have := (ct0_ru (r - 276) (by omega)).1
      rwa [show 276 + (r - 276) = r by omega] at this
    · have := (ct0_ru (r - 338) (by omega)).2
      rwa [show 338 + (r - 338) = r by omega] at this
  have hb : 256 ≤ r ∧ r < 409 := by unfold isRu at h; omega
  exact ⟨hb.1, by show r < nx; omega, (hL.2.1 r hb.1 hb.2).trans e⟩
/-- what is no fixed reference may be written -/
theorem LAY.put {nx : Nat} {ct : Nat → Nat × Nat} {mr : Nat → Nat → Option Nat} (hL : LAY nx ct mr) {r k : Nat} (v : Option Nat) (h : (∀ q ∈ fixR, ¬ (q.1 = r ∧ q.2.1 = k)) ∧ r ≠ 275 ∧ r ≠ 337) : LAY nx ct (rx_u mr r k v) := by
  obtain ⟨h1, h2, h3, h4⟩ := hL
  refine ⟨h1, h2, fun q hq => ?_, fun i hi => ⟨?_, ?_⟩⟩
  · by_cases e : q.1 = r
    · by_cases e2 : q.2.1 = k
      · exact absurd ⟨e, e2⟩ (h.1 q hq)
      · rw [← h3 q hq, e, rx_u_k _ _ e2]
    · rw [rx_u_r _ _ e]
      exact h3 q hq
  · rw [rx_u_r _ _ (Ne.symm h.2.1)]
    exact (h4 i hi).1
  · rw [rx_u_r _ _ (Ne.symm h.2.2)]
    exact (h4 i hi).2
theorem fixR_lt : ∀ q ∈ fixR, (q.1 < 276 ∨ 336 ≤ q.1) ∧ (q.1 < 338 ∨ 398 ≤ q.1) := by decide +kernel
theorem LAY.ru {nx : Nat} {ct : Nat → Nat × Nat} {mr : Nat → Nat → Option Nat} (hL : LAY nx ct mr) {r k : Nat} (v : Option Nat) (h : isRu r) : LAY nx ct (rx_u mr r k v) := by
  refine hL.put v ⟨fun q hq e => ?_, ?_, ?_⟩
  · have := fixR_lt q hq
    unfold isRu at h
    omega
  · unfold isRu at h; omega
  · unfold isRu at h; omega
theorem LAY.grow {nx : Nat} {ct : Nat → Nat × Nat} {mr : Nat → Nat → Option Nat} (hL : LAY nx ct mr) (t n : Nat) (f : Nat → Option Nat) : LAY (nx + 1) (va_up ct nx (t, n)) (va_up mr nx f) := by
  obtain ⟨h1, h2, h3, h4⟩ := hL
  have hq : ∀ q ∈ fixR, q.1 < 409 := by decide +kernel
  refine ⟨by omega, fun r a b => ?_, fun q h => ?_, fun i hi => ⟨?_, ?_⟩⟩
  · rw [va_up_ne _ _ (by omega)]
    exact h2 r a b
  · have := hq q h
    rw [va_up_ne _ _ (by omega)]
    exact h3 q h
  · rw [va_up_ne _ _ (by omega)]
    exact (h4 i hi).1
  · rw [va_up_ne _ _ (by omega)]
    exact (h4 i hi).2
/-- small numbers, as omega reads them -/
theorem il {x y : Int32} : x < y ↔ x.toInt < y.toInt := Int32.lt_iff_toInt_lt
theorem ie {x y : Int32} : x ≤ y ↔ x.toInt ≤ y.toInt := Int32.le_iff_toInt_le
theorem iq {x y : Int32} : x = y ↔ x.toInt = y.toInt := Int32.toInt_inj.symm
theorem i_m2 : ((-2) : Int32).toInt = -2 := by decide
theorem i_m1 : ((-1) : Int32).toInt = -1 := by decide
theorem i_0 : ((0) : Int32).toInt = 0 := by decide
theorem i_1 : ((1) : Int32).toInt = 1 := by decide
theorem i_2 : ((2) : Int32).toInt = 2 := by decide
theorem i_3 : ((3) : Int32).toInt = 3 := by decide
theorem i_4 : ((4) : Int32).toInt = 4 := by decide
theorem i_5 : ((5) : Int32).toInt = 5 := by decide
theorem i_6 : ((6) : Int32).toInt = 6 := by decide
theorem i_7 : ((7) : Int32).toInt = 7 := by decide
theorem i_8 : ((8) : Int32).toInt = 8 := by decide
theorem i_9 : ((9) : Int32).toInt = 9 := by decide
theorem i_10 : ((10) : Int32).toInt = 10 := by decide
theorem i_11 : ((11) : Int32).toInt = 11 := by decide
theorem i_12 : ((12) : Int32).toInt = 12 := by decide
theorem i_15 : ((15) : Int32).toInt = 15 := by decide
theorem i_16 : ((16) : Int32).toInt = 16 := by decide
theorem i_26 : ((26) : Int32).toInt = 26 := by decide
theorem i_32 : ((32) : Int32).toInt = 32 := by decide
theorem i_46 : ((46) : Int32).toInt = 46 := by decide
theorem i_48 : ((48) : Int32).toInt = 48 := by decide
theorem i_57 : ((57) : Int32).toInt = 57 := by decide
theorem i_58 : ((58) : Int32).toInt = 58 := by decide
theorem i_59 : ((59) : Int32).toInt = 59 := by decide
theorem i_60 : ((60) : Int32).toInt = 60 := by decide
theorem i_62 : ((62) : Int32).toInt = 62 := by decide
theorem i_90 : ((90) : Int32).toInt = 90 := by decide
theorem i_96 : ((96) : Int32).toInt = 96 := by decide
theorem i_97 : ((97) : Int32).toInt = 97 := by decide
theorem i_122 : ((122) : Int32).toInt = 122 := by decide
theorem i_123 : ((123) : Int32).toInt = 123 := by decide
theorem i_255 : ((255) : Int32).toInt = 255 := by decide
theorem i_384 : ((384) : Int32).toInt = 384 := by decide
theorem i_3000 : ((3000) : Int32).toInt = 3000 := by decide
theorem i_1000000 : ((1000000) : Int32).toInt = 1000000 := by decide
theorem ru_to {M : rx_M} {d mc ms pc : Nat} {lo lo' : List (Nat × Value)} {st : List Value} {σ : rx_S} {post : rx_End} (k : rx_W M d mc ms pc lo' st σ post) (h : rx_sub lo' lo) : rx_W M d mc ms pc lo st σ post := ru_lo lo' h k
