/-! A word spelt by the reference -/
theorem d_Mo_spelt_0 : decode M_Mo_spelt.2.1 0 = .ok (.aload_n 0, 1) := by decide +kernel
theorem d_Mo_spelt_1 : decode M_Mo_spelt.2.1 1 = .ok (.invokevirtual 62, 3) := by decide +kernel
theorem d_Mo_spelt_4 : decode M_Mo_spelt.2.1 4 = .ok (.iconst 1, 1) := by decide +kernel
theorem d_Mo_spelt_5 : decode M_Mo_spelt.2.1 5 = .ok (.if_icmp .lt 12, 3) := by decide +kernel
theorem d_Mo_spelt_8 : decode M_Mo_spelt.2.1 8 = .ok (.aload_n 0, 1) := by decide +kernel
theorem d_Mo_spelt_9 : decode M_Mo_spelt.2.1 9 = .ok (.invokevirtual 62, 3) := by decide +kernel
theorem d_Mo_spelt_12 : decode M_Mo_spelt.2.1 12 = .ok (.bipush 7, 2) := by decide +kernel
theorem d_Mo_spelt_14 : decode M_Mo_spelt.2.1 14 = .ok (.if_icmp .le 7, 3) := by decide +kernel
theorem d_Mo_spelt_17 : decode M_Mo_spelt.2.1 17 = .ok (.ldc2_w 66, 3) := by decide +kernel
theorem d_Mo_spelt_20 : decode M_Mo_spelt.2.1 20 = .ok (.lreturn, 1) := by decide +kernel
theorem d_Mo_spelt_21 : decode M_Mo_spelt.2.1 21 = .ok (.lconst 0, 1) := by decide +kernel
theorem d_Mo_spelt_22 : decode M_Mo_spelt.2.1 22 = .ok (.lstore_n 1, 1) := by decide +kernel
theorem d_Mo_spelt_23 : decode M_Mo_spelt.2.1 23 = .ok (.aload_n 0, 1) := by decide +kernel
theorem d_Mo_spelt_24 : decode M_Mo_spelt.2.1 24 = .ok (.getfield 30, 3) := by decide +kernel
theorem d_Mo_spelt_27 : decode M_Mo_spelt.2.1 27 = .ok (.aload_n 0, 1) := by decide +kernel
theorem d_Mo_spelt_28 : decode M_Mo_spelt.2.1 28 = .ok (.getfield 59, 3) := by decide +kernel
theorem d_Mo_spelt_31 : decode M_Mo_spelt.2.1 31 = .ok (.iaload, 1) := by decide +kernel
theorem d_Mo_spelt_32 : decode M_Mo_spelt.2.1 32 = .ok (.istore_n 3, 1) := by decide +kernel
theorem d_Mo_spelt_33 : decode M_Mo_spelt.2.1 33 = .ok (.iload_n 3, 1) := by decide +kernel
theorem d_Mo_spelt_34 : decode M_Mo_spelt.2.1 34 = .ok (.aload_n 0, 1) := by decide +kernel
theorem d_Mo_spelt_35 : decode M_Mo_spelt.2.1 35 = .ok (.getfield 33, 3) := by decide +kernel
theorem d_Mo_spelt_38 : decode M_Mo_spelt.2.1 38 = .ok (.aload_n 0, 1) := by decide +kernel
theorem d_Mo_spelt_39 : decode M_Mo_spelt.2.1 39 = .ok (.getfield 59, 3) := by decide +kernel
theorem d_Mo_spelt_42 : decode M_Mo_spelt.2.1 42 = .ok (.iaload, 1) := by decide +kernel
theorem d_Mo_spelt_43 : decode M_Mo_spelt.2.1 43 = .ok (.if_icmp .ge 40, 3) := by decide +kernel
theorem d_Mo_spelt_46 : decode M_Mo_spelt.2.1 46 = .ok (.aload_n 0, 1) := by decide +kernel
theorem d_Mo_spelt_47 : decode M_Mo_spelt.2.1 47 = .ok (.getfield 7, 3) := by decide +kernel
theorem d_Mo_spelt_50 : decode M_Mo_spelt.2.1 50 = .ok (.iload_n 3, 1) := by decide +kernel
theorem d_Mo_spelt_51 : decode M_Mo_spelt.2.1 51 = .ok (.iaload, 1) := by decide +kernel
theorem d_Mo_spelt_52 : decode M_Mo_spelt.2.1 52 = .ok (.invokestatic 43, 3) := by decide +kernel
theorem d_Mo_spelt_55 : decode M_Mo_spelt.2.1 55 = .ok (.ifCond .ne 7, 3) := by decide +kernel
theorem d_Mo_spelt_58 : decode M_Mo_spelt.2.1 58 = .ok (.ldc2_w 66, 3) := by decide +kernel
theorem d_Mo_spelt_61 : decode M_Mo_spelt.2.1 61 = .ok (.lreturn, 1) := by decide +kernel
theorem d_Mo_spelt_62 : decode M_Mo_spelt.2.1 62 = .ok (.lload_n 1, 1) := by decide +kernel
theorem d_Mo_spelt_63 : decode M_Mo_spelt.2.1 63 = .ok (.iconst 5, 1) := by decide +kernel
theorem d_Mo_spelt_64 : decode M_Mo_spelt.2.1 64 = .ok (.lshl, 1) := by decide +kernel
theorem d_Mo_spelt_65 : decode M_Mo_spelt.2.1 65 = .ok (.aload_n 0, 1) := by decide +kernel
theorem d_Mo_spelt_66 : decode M_Mo_spelt.2.1 66 = .ok (.getfield 7, 3) := by decide +kernel
theorem d_Mo_spelt_69 : decode M_Mo_spelt.2.1 69 = .ok (.iload_n 3, 1) := by decide +kernel
theorem d_Mo_spelt_70 : decode M_Mo_spelt.2.1 70 = .ok (.iaload, 1) := by decide +kernel
theorem d_Mo_spelt_71 : decode M_Mo_spelt.2.1 71 = .ok (.bipush 96, 2) := by decide +kernel
theorem d_Mo_spelt_73 : decode M_Mo_spelt.2.1 73 = .ok (.isub, 1) := by decide +kernel
theorem d_Mo_spelt_74 : decode M_Mo_spelt.2.1 74 = .ok (.i2l, 1) := by decide +kernel
theorem d_Mo_spelt_75 : decode M_Mo_spelt.2.1 75 = .ok (.lor, 1) := by decide +kernel
theorem d_Mo_spelt_76 : decode M_Mo_spelt.2.1 76 = .ok (.lstore_n 1, 1) := by decide +kernel
theorem d_Mo_spelt_77 : decode M_Mo_spelt.2.1 77 = .ok (.iinc 3 1, 3) := by decide +kernel
theorem d_Mo_spelt_80 : decode M_Mo_spelt.2.1 80 = .ok (.goto (-47), 3) := by decide +kernel
theorem d_Mo_spelt_83 : decode M_Mo_spelt.2.1 83 = .ok (.lload_n 1, 1) := by decide +kernel
theorem d_Mo_spelt_84 : decode M_Mo_spelt.2.1 84 = .ok (.lreturn, 1) := by decide +kernel
theorem d_Mo_word_0 : decode M_Mo_word.2.1 0 = .ok (.iload_n 0, 1) := by decide +kernel
theorem d_Mo_word_1 : decode M_Mo_word.2.1 1 = .ok (.i2l, 1) := by decide +kernel
theorem d_Mo_word_2 : decode M_Mo_word.2.1 2 = .ok (.iconst 5, 1) := by decide +kernel
theorem d_Mo_word_3 : decode M_Mo_word.2.1 3 = .ok (.lshl, 1) := by decide +kernel
theorem d_Mo_word_4 : decode M_Mo_word.2.1 4 = .ok (.iload_n 1, 1) := by decide +kernel
theorem d_Mo_word_5 : decode M_Mo_word.2.1 5 = .ok (.i2l, 1) := by decide +kernel
theorem d_Mo_word_6 : decode M_Mo_word.2.1 6 = .ok (.lor, 1) := by decide +kernel
theorem d_Mo_word_7 : decode M_Mo_word.2.1 7 = .ok (.lstore 7, 2) := by decide +kernel
theorem d_Mo_word_9 : decode M_Mo_word.2.1 9 = .ok (.iload_n 2, 1) := by decide +kernel
theorem d_Mo_word_10 : decode M_Mo_word.2.1 10 = .ok (.ifCond .le 13, 3) := by decide +kernel
theorem d_Mo_word_13 : decode M_Mo_word.2.1 13 = .ok (.lload 7, 2) := by decide +kernel
theorem d_Mo_word_15 : decode M_Mo_word.2.1 15 = .ok (.iconst 5, 1) := by decide +kernel
theorem d_Mo_word_16 : decode M_Mo_word.2.1 16 = .ok (.lshl, 1) := by decide +kernel
theorem d_Mo_word_17 : decode M_Mo_word.2.1 17 = .ok (.iload_n 2, 1) := by decide +kernel
theorem d_Mo_word_18 : decode M_Mo_word.2.1 18 = .ok (.i2l, 1) := by decide +kernel
theorem d_Mo_word_19 : decode M_Mo_word.2.1 19 = .ok (.lor, 1) := by decide +kernel
theorem d_Mo_word_20 : decode M_Mo_word.2.1 20 = .ok (.goto 5, 3) := by decide +kernel
theorem d_Mo_word_23 : decode M_Mo_word.2.1 23 = .ok (.lload 7, 2) := by decide +kernel
theorem d_Mo_word_25 : decode M_Mo_word.2.1 25 = .ok (.lstore 7, 2) := by decide +kernel
theorem d_Mo_word_27 : decode M_Mo_word.2.1 27 = .ok (.iload_n 3, 1) := by decide +kernel
theorem d_Mo_word_28 : decode M_Mo_word.2.1 28 = .ok (.ifCond .le 13, 3) := by decide +kernel
theorem d_Mo_word_31 : decode M_Mo_word.2.1 31 = .ok (.lload 7, 2) := by decide +kernel
theorem d_Mo_word_33 : decode M_Mo_word.2.1 33 = .ok (.iconst 5, 1) := by decide +kernel
theorem d_Mo_word_34 : decode M_Mo_word.2.1 34 = .ok (.lshl, 1) := by decide +kernel
theorem d_Mo_word_35 : decode M_Mo_word.2.1 35 = .ok (.iload_n 3, 1) := by decide +kernel
theorem d_Mo_word_36 : decode M_Mo_word.2.1 36 = .ok (.i2l, 1) := by decide +kernel
theorem d_Mo_word_37 : decode M_Mo_word.2.1 37 = .ok (.lor, 1) := by decide +kernel
theorem d_Mo_word_38 : decode M_Mo_word.2.1 38 = .ok (.goto 5, 3) := by decide +kernel
theorem d_Mo_word_41 : decode M_Mo_word.2.1 41 = .ok (.lload 7, 2) := by decide +kernel
theorem d_Mo_word_43 : decode M_Mo_word.2.1 43 = .ok (.lstore 7, 2) := by decide +kernel
theorem d_Mo_word_45 : decode M_Mo_word.2.1 45 = .ok (.iload 4, 2) := by decide +kernel
theorem d_Mo_word_47 : decode M_Mo_word.2.1 47 = .ok (.ifCond .le 14, 3) := by decide +kernel
theorem d_Mo_word_50 : decode M_Mo_word.2.1 50 = .ok (.lload 7, 2) := by decide +kernel
theorem d_Mo_word_52 : decode M_Mo_word.2.1 52 = .ok (.iconst 5, 1) := by decide +kernel
theorem d_Mo_word_53 : decode M_Mo_word.2.1 53 = .ok (.lshl, 1) := by decide +kernel
theorem d_Mo_word_54 : decode M_Mo_word.2.1 54 = .ok (.iload 4, 2) := by decide +kernel
theorem d_Mo_word_56 : decode M_Mo_word.2.1 56 = .ok (.i2l, 1) := by decide +kernel
theorem d_Mo_word_57 : decode M_Mo_word.2.1 57 = .ok (.lor, 1) := by decide +kernel
theorem d_Mo_word_58 : decode M_Mo_word.2.1 58 = .ok (.goto 5, 3) := by decide +kernel
theorem d_Mo_word_61 : decode M_Mo_word.2.1 61 = .ok (.lload 7, 2) := by decide +kernel
theorem d_Mo_word_63 : decode M_Mo_word.2.1 63 = .ok (.lstore 7, 2) := by decide +kernel
theorem d_Mo_word_65 : decode M_Mo_word.2.1 65 = .ok (.iload 5, 2) := by decide +kernel
theorem d_Mo_word_67 : decode M_Mo_word.2.1 67 = .ok (.ifCond .le 14, 3) := by decide +kernel
theorem d_Mo_word_70 : decode M_Mo_word.2.1 70 = .ok (.lload 7, 2) := by decide +kernel
theorem d_Mo_word_72 : decode M_Mo_word.2.1 72 = .ok (.iconst 5, 1) := by decide +kernel
theorem d_Mo_word_73 : decode M_Mo_word.2.1 73 = .ok (.lshl, 1) := by decide +kernel
theorem d_Mo_word_74 : decode M_Mo_word.2.1 74 = .ok (.iload 5, 2) := by decide +kernel
theorem d_Mo_word_76 : decode M_Mo_word.2.1 76 = .ok (.i2l, 1) := by decide +kernel
theorem d_Mo_word_77 : decode M_Mo_word.2.1 77 = .ok (.lor, 1) := by decide +kernel
theorem d_Mo_word_78 : decode M_Mo_word.2.1 78 = .ok (.goto 5, 3) := by decide +kernel
theorem d_Mo_word_81 : decode M_Mo_word.2.1 81 = .ok (.lload 7, 2) := by decide +kernel
theorem d_Mo_word_83 : decode M_Mo_word.2.1 83 = .ok (.lstore 7, 2) := by decide +kernel
theorem d_Mo_word_85 : decode M_Mo_word.2.1 85 = .ok (.iload 6, 2) := by decide +kernel
theorem d_Mo_word_87 : decode M_Mo_word.2.1 87 = .ok (.ifCond .le 14, 3) := by decide +kernel
theorem d_Mo_word_90 : decode M_Mo_word.2.1 90 = .ok (.lload 7, 2) := by decide +kernel
theorem d_Mo_word_92 : decode M_Mo_word.2.1 92 = .ok (.iconst 5, 1) := by decide +kernel
theorem d_Mo_word_93 : decode M_Mo_word.2.1 93 = .ok (.lshl, 1) := by decide +kernel
theorem d_Mo_word_94 : decode M_Mo_word.2.1 94 = .ok (.iload 6, 2) := by decide +kernel
theorem d_Mo_word_96 : decode M_Mo_word.2.1 96 = .ok (.i2l, 1) := by decide +kernel
theorem d_Mo_word_97 : decode M_Mo_word.2.1 97 = .ok (.lor, 1) := by decide +kernel
theorem d_Mo_word_98 : decode M_Mo_word.2.1 98 = .ok (.goto 5, 3) := by decide +kernel
theorem d_Mo_word_101 : decode M_Mo_word.2.1 101 = .ok (.lload 7, 2) := by decide +kernel
theorem d_Mo_word_103 : decode M_Mo_word.2.1 103 = .ok (.lreturn, 1) := by decide +kernel
/-- the reference has found the words -/
def PMs (n m : Nat) (t : Nat → Int32) (m1 : Nat → Nat → Int32) : Prop := m1 398 2 = nI n ∧ m1 399 = t ∧ n ≤ 3000 ∧ (∀ i, i < n → isTC (t i)) ∧ m1 398 9 = nI m ∧ m ≤ n ∧ (∀ j, j < m → m1 405 j = nI (tk n t j).1 ∧ m1 406 j = nI (tk n t j).2 ∧ (tk n t j).1 < (tk n t j).2) ∧ tk n t m = (n, n)
theorem PMs.upd {n m : Nat} {t : Nat → Int32} {m1 : Nat → Nat → Int32} (h : PMs n m t m1) {k : Nat} (v : Int32) (h2 : k ≠ 2) (h9 : k ≠ 9) : PMs n m t (rx_u m1 398 k v) := by
  obtain ⟨a1, a2, a3, a4, a5, a6, a7, a8⟩ := h
  refine ⟨by rw [rx_u_k _ _ (Ne.symm h2)]; exact a1, by rw [rx_u_r _ _ (by decide)]; exact a2, a3, a4, by rw [rx_u_k _ _ (Ne.symm h9)]; exact a5, a6, fun j hj => ?_, a8⟩
  rw [rx_u_r _ _ (by decide), rx_u_r _ _ (by decide)]
  exact a7 j hj
def tlen (n : Nat) (t : Nat → Int32) (j : Nat) : Nat := (tk n t j).2 - (tk n t j).1
abbrev k5 : Int64 := (5 : Int32).toInt64 &&& 63
noncomputable def spF (t : Nat → Int32) : Nat → Nat → Int64 → Int64
  | 0, _, v => v
  | f + 1, k, v => @ite _ (isLet (t k)) (Classical.propDecidable _) (spF t f (k + 1) ((v <<< k5) ||| (t k - 96).toInt64)) (-1)
noncomputable def spV (t : Nat → Int32) (q : Nat × Nat) : Int64 := if 1 ≤ q.2 - q.1 ∧ q.2 - q.1 ≤ 7 then spF t (q.2 - q.1) q.1 0 else -1
def w1 (v : Int64) (c : Int32) : Int64 := if c ≤ 0 then v else (v <<< k5) ||| c.toInt64
def wordV (a b c d e f g : Int32) : Int64 := w1 (w1 (w1 (w1 (w1 ((a.toInt64 <<< k5) ||| b.toInt64) c) d) e) f) g
/-- the number that a word's letters make -/
def gE (t : Nat → Int32) (k : Nat) : Nat → Nat
  | 0 => 0
  | f + 1 => gE t k f * 32 + ((t (k + f)).toInt - 96).toNat
def wIs (t : Nat → Int32) (q : Nat × Nat) (l : List Int32) : Prop := q.2 - q.1 = l.length ∧ ∀ i, i < l.length → t (q.1 + i) = l.getD i 0
theorem gE_lt {t : Nat → Int32} {k : Nat} : ∀ f, (∀ i, i < f → isLet (t (k + i))) → gE t k f < 32 ^ f
  | 0, _ => Nat.one_pos
  | f + 1, h => by
    have h1 := gE_lt f (fun i hi => h i (by omega))
    have h2 := h f (by omega)
    unfold isLet at h2
    unfold gE
    rw [Nat.pow_succ]
    omega
theorem gE_inj {t t' : Nat → Int32} {k k' : Nat} : ∀ f f', (∀ i, i < f → isLet (t (k + i))) → (∀ i, i < f' → isLet (t' (k' + i))) → gE t k f = gE t' k' f' → f = f' ∧ ∀ i, i < f → t (k + i) = t' (k' + i)
  | 0, 0, _, _, _ => ⟨rfl, fun i hi => by omega⟩
  | 0, f' + 1, _, h', e => by
    have h2 := h' f' (by omega)
    unfold isLet at h2
    unfold gE at e
    omega
  | f + 1, 0, h, _, e => by
    have h2 := h f (by omega)
    unfold isLet at h2
    unfold gE at e
    omega
  | f + 1, f' + 1, h, h', e => by
    have h2 := h f (by omega)
    have h3 := h' f' (by omega)
    unfold isLet at h2 h3
    unfold gE at e
    obtain ⟨e1, e2⟩ := gE_inj f f' (fun i hi => h i (by omega)) (fun i hi => h' i (by omega)) (by omega)
    subst e1
    refine ⟨rfl, fun i hi => ?_⟩
    by_cases q : i = f
    · subst q
      rw [iq]
      omega
    · exact e2 i (by omega)
theorem sh5 {v d : Nat} (hv : v < 2 ^ 30) (hd : d < 32) : (Int64.ofNat v <<< k5) ||| (nI d).toInt64 = Int64.ofNat (v * 32 + d) := by
  have e1 : (nI d).toInt64 = Int64.ofNat d := by
    apply Int64.toInt_inj.mp
    rw [Int32.toInt_toInt64, nI_toInt (by omega), Int64.toInt_ofNat_of_lt (by omega)]
  have e2 : v * 32 + d = v <<< 5 ||| d := by rw [← Nat.shiftLeft_add_eq_or_of_lt (by omega), Nat.shiftLeft_eq]
  rw [e1, e2]
  apply Int64.toBitVec_inj.mp
  rw [Int64.toBitVec_or, Int64.toBitVec_shiftLeft]
  rw [show k5.toBitVec.smod 64 = 5#64 from by decide]
  show (BitVec.ofNat 64 v <<< 5#64) ||| BitVec.ofNat 64 d = BitVec.ofNat 64 (v <<< 5 ||| d)
  rw [BitVec.ofNat_or]
  congr 1
  apply BitVec.eq_of_toNat_eq
  simp
  rw [Nat.mod_eq_of_lt (show v < 18446744073709551616 by omega)]
theorem spF_ok {t : Nat → Int32} {k : Nat} : ∀ f i, i + f ≤ 7 → (∀ x, x < i + f → isLet (t (k + x))) → spF t f (k + i) (Int64.ofNat (gE t k i)) = Int64.ofNat (gE t k (i + f))
  | 0, i, _, _ => rfl
  | f + 1, i, h7, h => by
    unfold spF
    have hi := h i (by omega)
    have hb := gE_lt (t := t) (k := k) i (fun x hx => h x (by omega))
    have hb2 : (32 : Nat) ^ i ≤ 32 ^ 6 := Nat.pow_le_pow_right (by decide) (by omega)
    rw [if_pos hi]
    have e : (t (k + i) - 96).toInt64 = (nI ((t (k + i)).toInt - 96).toNat).toInt64 := by
      congr 1
      rw [iq, nI_toInt (by unfold isLet at hi; omega), Int32.toInt_sub_of_le, i_96]
      · unfold isLet at hi; omega
      · decide
      · rw [ie, i_96]; unfold isLet at hi; omega
    rw [e, sh5 (by omega) (by unfold isLet at hi; omega)]
    have := spF_ok (t := t) (k := k) f (i + 1) (by omega) (fun x hx => h x (by omega))
    rw [← Nat.add_assoc k i 1] at this
    rw [show i + (f + 1) = i + 1 + f by omega]
    exact this
theorem spF_no {t : Nat → Int32} : ∀ f k v, (∃ x, x < f ∧ ¬ isLet (t (k + x))) → spF t f k v = -1
  | 0, _, _, ⟨x, h, _⟩ => by omega
  | f + 1, k, v, ⟨x, hx, hn⟩ => by
    unfold spF
    by_cases h : isLet (t k)
    · rw [if_pos h]
      cases x with
      | zero => exact absurd h hn
      | succ x => exact spF_no f (k + 1) _ ⟨x, by omega, by rw [show k + 1 + x = k + (x + 1) by omega]; exact hn⟩
    · rw [if_neg h]
theorem spV_iff {t : Nat → Int32} {q : Nat × Nat} {l : List Int32} (h1 : 1 ≤ l.length ∧ l.length ≤ 7) (h2 : ∀ i, i < l.length → isLet (l.getD i 0)) : spV t q = Int64.ofNat (gE (fun i => l.getD i 0) 0 l.length) ↔ wIs t q l := by
  have hlt := gE_lt (t := fun i => l.getD i 0) (k := 0) l.length (fun i hi => by rw [Nat.zero_add]; exact h2 i hi)
  have hlt2 : (32 : Nat) ^ l.length ≤ 32 ^ 7 := Nat.pow_le_pow_right (by decide) (by omega)
  have hne : ∀ N : Nat, N < 32 ^ 7 → ¬ (-1 : Int64) = Int64.ofNat N := fun N hN e => by
    have := congrArg Int64.toInt e
    rw [Int64.toInt_ofNat_of_lt (by omega)] at this
    rw [show ((-1 : Int64)).toInt = -1 from by decide] at this
    omega
  unfold spV wIs
  by_cases hb : 1 ≤ q.2 - q.1 ∧ q.2 - q.1 ≤ 7
  · rw [if_pos hb]
    generalize q.2 - q.1 = f at hb
    by_cases hl : ∃ x, x < f ∧ ¬ isLet (t (q.1 + x))
    · rw [spF_no f q.1 0 hl]
      refine ⟨fun e => absurd e (hne _ (by omega)), fun e => ?_⟩
      obtain ⟨x, hx, hn⟩ := hl
      rw [e.2 x (by omega)] at hn
      exact absurd (h2 x (by omega)) hn
    · have hall : ∀ x, x < f → isLet (t (q.1 + x)) := fun x hx => Classical.byContradiction fun z => hl ⟨x, hx, z⟩
      have e := spF_ok (t := t) (k := q.1) f 0 (by omega) (fun x hx => hall x (by omega))
      rw [Nat.zero_add] at e
      rw [show spF t f q.1 0 = Int64.ofNat (gE t q.1 f) from e]
      have hf := gE_lt (t := t) (k := q.1) f hall
      have hf2 : (32 : Nat) ^ f ≤ 32 ^ 7 := Nat.pow_le_pow_right (by decide) (by omega)
      constructor
      · intro z
        have z2 : gE t q.1 f = gE (fun i => l.getD i 0) 0 l.length := by
          have := congrArg Int64.toInt z
          rw [Int64.toInt_ofNat_of_lt (by omega), Int64.toInt_ofNat_of_lt (by omega)] at this
          omega
        obtain ⟨a, b⟩ := gE_inj _ _ hall (fun i hi => by rw [Nat.zero_add]; exact h2 i hi) z2
        subst a
        exact ⟨rfl, fun i hi => by have := b i hi; rwa [Nat.zero_add] at this⟩
      · rintro ⟨a, b⟩
        subst a
        congr 1
        have : ∀ g, g ≤ l.length → gE t q.1 g = gE (fun i => l.getD i 0) 0 g := by
          intro g hg
          induction g with
          | zero => rfl
          | succ g ih =>
            unfold gE
            rw [ih (by omega), b g (by omega), Nat.zero_add]
        exact this _ (Nat.le_refl _)
  · rw [if_neg hb]
    exact ⟨fun e => absurd e (hne _ (by omega)), fun e => absurd e.1 (by omega)⟩
section
variable {nx : Nat} {ct : Nat → Nat × Nat} {mi : Nat → Nat → Int32} {ml : Nat → Nat → Int64} {mr : Nat → Nat → Option Nat} {n m : Nat} {t : Nat → Int32}
theorem sp_Mo_word (a b c d e f g : Int32) (σ : rx_S) : rx_Calls y_Mo_word M_Mo_word 0 0 0 [.int a, .int b, .int c, .int d, .int e, .int f, .int g] σ (fun v τ => v = some (.long (wordV a b c d e f g)) ∧ τ = σ) := by
  refine rx_enter (by decide) rfl rfl (Nat.le_of_ble_eq_true rfl) ?_
  generalize hV : wordV a b c d e f g = V
  have s5 : ∀ v : Int64, w1 v g = V → rx_W M_Mo_word 0 0 0 85 [(6, .int g), (7, .long v)] [] σ (pR (fun v τ => v = some (.long V) ∧ τ = σ)) := by
    intro v hv
    refine ru_iload d_Mo_word_85 rfl ?_
    refine ru_if_le (tgt := 101) d_Mo_word_87 (by decide) (fun h87 => ?_) (fun h87 => ?_)
    · skip
      refine ru_lload d_Mo_word_101 rfl ?_
      refine ru_lret d_Mo_word_103 rfl ?_
      unfold w1 at hv
      first | (rw [if_pos h87] at hv; rw [hv]; exact ⟨rfl, rfl⟩) | (rw [if_neg h87] at hv; rw [hv]; exact ⟨rfl, rfl⟩)
    · skip
      refine ru_lload d_Mo_word_90 rfl ?_
      refine ru_iconst (v := 5) d_Mo_word_92 (by decide) ?_
      refine ru_lshl d_Mo_word_93 ?_
      refine ru_iload d_Mo_word_94 rfl ?_
      refine ru_i2l d_Mo_word_96 ?_
      refine ru_lor d_Mo_word_97 ?_
      refine ru_goto (tgt := 103) d_Mo_word_98 (by decide) ?_
      refine ru_lret d_Mo_word_103 rfl ?_
      unfold w1 at hv
      first | (rw [if_pos h87] at hv; rw [hv]; exact ⟨rfl, rfl⟩) | (rw [if_neg h87] at hv; rw [hv]; exact ⟨rfl, rfl⟩)
  have s4 : ∀ v : Int64, w1 (w1 v f) g = V → rx_W M_Mo_word 0 0 0 65 [(5, .int f), (6, .int g), (7, .long v)] [] σ (pR (fun v τ => v = some (.long V) ∧ τ = σ)) := by
    intro v hv
    refine ru_iload d_Mo_word_65 rfl ?_
    refine ru_if_le (tgt := 81) d_Mo_word_67 (by decide) (fun h67 => ?_) (fun h67 => ?_)
    · skip
      refine ru_lload d_Mo_word_81 rfl ?_
      refine ru_lstore d_Mo_word_83 (by decide) ?_
      refine ru_to (s5 _ ?_) ⟨rfl, rfl, trivial⟩
      rw [← hv]
      unfold w1
      first | rw [if_pos h67] | rw [if_neg h67]
    · skip
      refine ru_lload d_Mo_word_70 rfl ?_
      refine ru_iconst (v := 5) d_Mo_word_72 (by decide) ?_
      refine ru_lshl d_Mo_word_73 ?_
      refine ru_iload d_Mo_word_74 rfl ?_
      refine ru_i2l d_Mo_word_76 ?_
      refine ru_lor d_Mo_word_77 ?_
      refine ru_goto (tgt := 83) d_Mo_word_78 (by decide) ?_
      refine ru_lstore d_Mo_word_83 (by decide) ?_
      refine ru_to (s5 _ ?_) ⟨rfl, rfl, trivial⟩
      rw [← hv]
      unfold w1
      first | rw [if_pos h67] | rw [if_neg h67]
  have s3 : ∀ v : Int64, w1 (w1 (w1 v e) f) g = V → rx_W M_Mo_word 0 0 0 45 [(4, .int e), (5, .int f), (6, .int g), (7, .long v)] [] σ (pR (fun v τ => v = some (.long V) ∧ τ = σ)) := by
    intro v hv
    refine ru_iload d_Mo_word_45 rfl ?_
    refine ru_if_le (tgt := 61) d_Mo_word_47 (by decide) (fun h47 => ?_) (fun h47 => ?_)
    · skip
      refine ru_lload d_Mo_word_61 rfl ?_
      refine ru_lstore d_Mo_word_63 (by decide) ?_
      refine ru_to (s4 _ ?_) ⟨rfl, rfl, rfl, trivial⟩
      rw [← hv]
      congr 2
      unfold w1
      first | rw [if_pos h47] | rw [if_neg h47]
    · skip
      refine ru_lload d_Mo_word_50 rfl ?_
      refine ru_iconst (v := 5) d_Mo_word_52 (by decide) ?_
      refine ru_lshl d_Mo_word_53 ?_
      refine ru_iload d_Mo_word_54 rfl ?_
      refine ru_i2l d_Mo_word_56 ?_
      refine ru_lor d_Mo_word_57 ?_
      refine ru_goto (tgt := 63) d_Mo_word_58 (by decide) ?_
      refine ru_lstore d_Mo_word_63 (by decide) ?_
      refine ru_to (s4 _ ?_) ⟨rfl, rfl, rfl, trivial⟩
      rw [← hv]
      congr 2
      unfold w1
      first | rw [if_pos h47] | rw [if_neg h47]
  have s2 : ∀ v : Int64, w1 (w1 (w1 (w1 v d) e) f) g = V → rx_W M_Mo_word 0 0 0 27 [(3, .int d), (4, .int e), (5, .int f), (6, .int g), (7, .long v)] [] σ (pR (fun v τ => v = some (.long V) ∧ τ = σ)) := by
    intro v hv
    refine ru_iload_n d_Mo_word_27 rfl rfl ?_
    refine ru_if_le (tgt := 41) d_Mo_word_28 (by decide) (fun h28 => ?_) (fun h28 => ?_)
    · skip
      refine ru_lload d_Mo_word_41 rfl ?_
      refine ru_lstore d_Mo_word_43 (by decide) ?_
      refine ru_to (s3 _ ?_) ⟨rfl, rfl, rfl, rfl, trivial⟩
      rw [← hv]
      congr 3
      unfold w1
      first | rw [if_pos h28] | rw [if_neg h28]
    · skip
      refine ru_lload d_Mo_word_31 rfl ?_
      refine ru_iconst (v := 5) d_Mo_word_33 (by decide) ?_
      refine ru_lshl d_Mo_word_34 ?_
      refine ru_iload_n d_Mo_word_35 rfl rfl ?_
      refine ru_i2l d_Mo_word_36 ?_
      refine ru_lor d_Mo_word_37 ?_
      refine ru_goto (tgt := 43) d_Mo_word_38 (by decide) ?_
      refine ru_lstore d_Mo_word_43 (by decide) ?_
      refine ru_to (s3 _ ?_) ⟨rfl, rfl, rfl, rfl, trivial⟩
      rw [← hv]
      congr 3
      unfold w1
      first | rw [if_pos h28] | rw [if_neg h28]
  refine ru_iload_n d_Mo_word_0 rfl rfl ?_
  refine ru_i2l d_Mo_word_1 ?_
  refine ru_iconst (v := 5) d_Mo_word_2 (by decide) ?_
  refine ru_lshl d_Mo_word_3 ?_
  refine ru_iload_n d_Mo_word_4 rfl rfl ?_
  refine ru_i2l d_Mo_word_5 ?_
  refine ru_lor d_Mo_word_6 ?_
  refine ru_lstore d_Mo_word_7 (by decide) ?_
  refine ru_iload_n d_Mo_word_9 rfl rfl ?_
  refine ru_if_le (tgt := 23) d_Mo_word_10 (by decide) (fun h10 => ?_) (fun h10 => ?_)
  · skip
    refine ru_lload d_Mo_word_23 rfl ?_
    refine ru_lstore d_Mo_word_25 (by decide) ?_
    refine ru_to (s2 _ ?_) ⟨rfl, rfl, rfl, rfl, rfl, trivial⟩
    rw [← hV]
    unfold wordV
    congr 4
    unfold w1
    first | rw [if_pos h10] | rw [if_neg h10]
  · skip
    refine ru_lload d_Mo_word_13 rfl ?_
    refine ru_iconst (v := 5) d_Mo_word_15 (by decide) ?_
    refine ru_lshl d_Mo_word_16 ?_
    refine ru_iload_n d_Mo_word_17 rfl rfl ?_
    refine ru_i2l d_Mo_word_18 ?_
    refine ru_lor d_Mo_word_19 ?_
    refine ru_goto (tgt := 25) d_Mo_word_20 (by decide) ?_
    refine ru_lstore d_Mo_word_25 (by decide) ?_
    refine ru_to (s2 _ ?_) ⟨rfl, rfl, rfl, rfl, rfl, trivial⟩
    rw [← hV]
    unfold wordV
    congr 4
    unfold w1
    first | rw [if_pos h10] | rw [if_neg h10]
theorem sp_Mo_length {j : Nat} (hL : LAY nx ct mr) (h : PMs n m t mi) (hw : mi 398 12 = nI j) (hj : j < 4000) : rx_Calls y_Mo_length M_Mo_length 0 0 0 [.ref 398] (nx, ct, mi, ml, mr) (fun v τ => v = some (.int (nI (tlen n t j))) ∧ τ = (nx, ct, mi, ml, mr)) := by
  refine rx_enter (by decide) rfl rfl (Nat.le_of_ble_eq_true rfl) ?_
  obtain ⟨a1, a2, a3, a4, a5, a6, a7, a8⟩ := h
  unfold tlen
  refine ru_aload_n d_Mo_length_0 rfl rfl ?_
  refine ru_getI d_Mo_length_1 lf_Mo_59 (ly hL 398 9 0) rfl ?_
  refine ru_eqi hw ?_
  refine ru_aload_n d_Mo_length_4 rfl rfl ?_
  refine ru_getI d_Mo_length_5 lf_Mo_53 (ly hL 398 9 0) rfl ?_
  refine ru_eqi a5 ?_
  refine ru_icmp_ge (tgt := 33) d_Mo_length_8 (by decide) (fun h8 => ?_) (fun h8 => ?_)
  · skip
    replace h8 := nm_le (a := m) (b := j) (by omega) (by omega) h8
    refine ru_iconst (v := 0) d_Mo_length_33 (by decide) ?_
    refine ru_iret d_Mo_length_34 rfl ?_
    first | exact ⟨rfl, rfl⟩ | (rw [tk_end a8 j h8]; exact ⟨by rw [Nat.sub_self]; rfl, rfl⟩)
  · skip
    replace h8 := nm_nle (a := m) (b := j) (by omega) (by omega) h8
    refine ru_aload_n d_Mo_length_11 rfl rfl ?_
    refine ru_getR d_Mo_length_12 lf_Mo_33 (ly hL 398 9 0) rfl (lr hL 398 11 406) ?_
    refine ru_aload_n d_Mo_length_15 rfl rfl ?_
    refine ru_getI d_Mo_length_16 lf_Mo_59 (ly hL 398 9 0) rfl ?_
    refine ru_eqi hw ?_
    refine ru_ialdN (j := j) d_Mo_length_19 (ly hL 406 100 3001) (by omega) (by decide) ?_
    refine ru_eqi (a7 j h8).2.1 ?_
    refine ru_aload_n d_Mo_length_20 rfl rfl ?_
    refine ru_getR d_Mo_length_21 lf_Mo_30 (ly hL 398 9 0) rfl (lr hL 398 10 405) ?_
    refine ru_aload_n d_Mo_length_24 rfl rfl ?_
    refine ru_getI d_Mo_length_25 lf_Mo_59 (ly hL 398 9 0) rfl ?_
    refine ru_eqi hw ?_
    refine ru_ialdN (j := j) d_Mo_length_28 (ly hL 405 100 3001) (by omega) (by decide) ?_
    refine ru_eqi (a7 j h8).1 ?_
    refine ru_isub d_Mo_length_29 ?_
    refine ru_eqi (nm_sub (a := (tk n t j).2) (b := (tk n t j).1) (tk_le j).1 : _ = nI ((tk n t j).2 - (tk n t j).1)) ?_
    refine ru_goto (tgt := 34) d_Mo_length_30 (by decide) ?_
    refine ru_iret d_Mo_length_34 rfl ?_
    first | exact ⟨rfl, rfl⟩ | (rw [tk_end a8 j h8]; exact ⟨by rw [Nat.sub_self]; rfl, rfl⟩)
theorem sp_Mo_spelt {j : Nat} (hL : LAY nx ct mr) (h : PMs n m t mi) (hw : mi 398 12 = nI j) (hj : j < 4000) : rx_Calls y_Mo_spelt M_Mo_spelt 1 0 0 [.ref 398] (nx, ct, mi, ml, mr) (fun v τ => v = some (.long (spV t (tk n t j))) ∧ τ = (nx, ct, mi, ml, mr)) := by
  refine rx_enter (by decide) rfl rfl (Nat.le_of_ble_eq_true rfl) ?_
  have hlen := sp_Mo_length (ml := ml) hL h hw hj
  have hle := tk_le (n := n) (t := t) j
  have hn := h.2.2.1
  have ht := h.2.1
  have hjm : 1 ≤ tlen n t j → j < m := fun q => Nat.lt_of_not_le fun z => by
    unfold tlen at q
    rw [tk_end h.2.2.2.2.2.2.2 j z] at q
    omega
  have loop : j < m → ∀ f k (v : Int64), k ≤ (tk n t j).2 → f = (tk n t j).2 - k → rx_W M_Mo_spelt 1 0 0 33 [(0, .ref 398), (1, .long v), (3, .int (nI k))] [] (nx, ct, mi, ml, mr) (pR (fun v' τ => v' = some (.long (spF t f k v)) ∧ τ = (nx, ct, mi, ml, mr))) := by
    intro hjm f
    have a7 := h.2.2.2.2.2.2.1 j hjm
    have hmn := h.2.2.2.2.2.1
    induction f with
    | zero =>
      intro k v hk hf
      refine ru_iload_n d_Mo_spelt_33 rfl rfl ?_
      refine ru_aload_n d_Mo_spelt_34 rfl rfl ?_
      refine ru_getR d_Mo_spelt_35 lf_Mo_33 (ly hL 398 9 0) rfl (lr hL 398 11 406) ?_
      refine ru_aload_n d_Mo_spelt_38 rfl rfl ?_
      refine ru_getI d_Mo_spelt_39 lf_Mo_59 (ly hL 398 9 0) rfl ?_
      refine ru_eqi hw ?_
      refine ru_ialdN (j := j) d_Mo_spelt_42 (ly hL 406 100 3001) (by omega) (by decide) ?_
      refine ru_eqi a7.2.1 ?_
      refine ru_icmp_ge (tgt := 83) d_Mo_spelt_43 (by decide) (fun h43 => ?_) (fun h43 => absurd (nI_le (by omega) (by omega)) h43)
      replace h43 := nm_le (a := (tk n t j).2) (b := k) (by omega) (by omega) h43
      refine ru_lload_n d_Mo_spelt_83 rfl rfl ?_
      refine ru_lret d_Mo_spelt_84 rfl ?_
      exact ⟨rfl, rfl⟩
    | succ f ih =>
      intro k v hk hf
      unfold spF
      refine ru_iload_n d_Mo_spelt_33 rfl rfl ?_
      refine ru_aload_n d_Mo_spelt_34 rfl rfl ?_
      refine ru_getR d_Mo_spelt_35 lf_Mo_33 (ly hL 398 9 0) rfl (lr hL 398 11 406) ?_
      refine ru_aload_n d_Mo_spelt_38 rfl rfl ?_
      refine ru_getI d_Mo_spelt_39 lf_Mo_59 (ly hL 398 9 0) rfl ?_
      refine ru_eqi hw ?_
      refine ru_ialdN (j := j) d_Mo_spelt_42 (ly hL 406 100 3001) (by omega) (by decide) ?_
      refine ru_eqi a7.2.1 ?_
      refine ru_icmp_ge (tgt := 83) d_Mo_spelt_43 (by decide) (fun h43 => absurd h43 (nI_ge (by omega) (by omega))) (fun h43 => ?_)
      replace h43 := nm_nle (a := (tk n t j).2) (b := k) (by omega) (by omega) h43
      refine ru_aload_n d_Mo_spelt_46 rfl rfl ?_
      refine ru_getR d_Mo_spelt_47 lf_Mo_7 (ly hL 398 9 0) rfl (lr hL 398 1 399) ?_
      refine ru_iload_n d_Mo_spelt_50 rfl rfl ?_
      refine ru_ialdN (j := k) d_Mo_spelt_51 (ly hL 399 100 3000) (by omega) (by decide) ?_
      rw [ht]
      refine ru_callS (mc := 0) (ms := 0) d_Mo_spelt_52 lm_Mo_43 (sp_Mo_isLetter (t k) _) (by decide) rfl (Nat.le_of_ble_eq_true rfl) ?_
      intro v τ h
      obtain ⟨rfl, rfl⟩ := h
      refine ru_if_ne (tgt := 62) d_Mo_spelt_55 (by decide) (fun h55 => ?_) (fun h55 => ?_)
      · skip
        replace h55 := bI_ne0.mp h55
        refine ru_lload_n d_Mo_spelt_62 rfl rfl ?_
        refine ru_iconst (v := 5) d_Mo_spelt_63 (by decide) ?_
        refine ru_lshl d_Mo_spelt_64 ?_
        refine ru_aload_n d_Mo_spelt_65 rfl rfl ?_
        refine ru_getR d_Mo_spelt_66 lf_Mo_7 (ly hL 398 9 0) rfl (lr hL 398 1 399) ?_
        refine ru_iload_n d_Mo_spelt_69 rfl rfl ?_
        refine ru_ialdN (j := k) d_Mo_spelt_70 (ly hL 399 100 3000) (by omega) (by decide) ?_
        rw [ht]
        refine ru_bipush (v := 96) d_Mo_spelt_71 (by decide) ?_
        refine ru_isub d_Mo_spelt_73 ?_
        refine ru_i2l d_Mo_spelt_74 ?_
        refine ru_lor d_Mo_spelt_75 ?_
        refine ru_lstore_n d_Mo_spelt_76 rfl (by decide) ?_
        refine ru_iinc (v := nI (k + 1)) d_Mo_spelt_77 rfl (nm_inc _ 1) (by decide) ?_
        refine ru_goto (tgt := 33) d_Mo_spelt_80 (by decide) ?_
        rw [if_pos h55]
        exact ru_to (ih (k + 1) _ (by omega) (by omega)) ⟨rfl, rfl, rfl, trivial⟩
      · skip
        replace h55 := bI_eq0.mp h55
        refine ru_ldc2 d_Mo_spelt_58 lc_Mo_66 ?_
        refine ru_lret d_Mo_spelt_61 rfl ?_
        rw [if_neg h55]
        exact ⟨rfl, rfl⟩
  have hmn := h.2.2.2.2.2.1
  have fin : ¬ (1 ≤ tlen n t j ∧ tlen n t j ≤ 7) → spV t (tk n t j) = -1 := fun q => if_neg q
  have fin2 : (1 ≤ tlen n t j ∧ tlen n t j ≤ 7) → spV t (tk n t j) = spF t (tlen n t j) (tk n t j).1 0 := fun q => if_pos q
  have hlt : tlen n t j ≤ n := by unfold tlen; omega
  refine ru_aload_n d_Mo_spelt_0 rfl rfl ?_
  refine ru_callV (mc := 0) (ms := 0) d_Mo_spelt_1 lm_Mo_62 hlen (rx_recv_is (ly hL 398 9 0) kx_Mo) (by decide) rfl (Nat.le_of_ble_eq_true rfl) ?_
  intro v τ h
  obtain ⟨rfl, rfl⟩ := h
  refine ru_iconst (v := 1) d_Mo_spelt_4 (by decide) ?_
  refine ru_icmp_lt (tgt := 17) d_Mo_spelt_5 (by decide) (fun h5 => ?_) (fun h5 => ?_)
  · skip
    replace h5 := nm_lt (a := (tlen n t j)) (b := 1) (by omega) (by omega) h5
    refine ru_ldc2 d_Mo_spelt_17 lc_Mo_66 ?_
    refine ru_lret d_Mo_spelt_20 rfl ?_
    rw [fin (by omega)]
    exact ⟨rfl, rfl⟩
  · skip
    replace h5 := nm_nlt (a := (tlen n t j)) (b := 1) (by omega) (by omega) h5
    refine ru_aload_n d_Mo_spelt_8 rfl rfl ?_
    refine ru_callV (mc := 0) (ms := 0) d_Mo_spelt_9 lm_Mo_62 hlen (rx_recv_is (ly hL 398 9 0) kx_Mo) (by decide) rfl (Nat.le_of_ble_eq_true rfl) ?_
    intro v τ h
    obtain ⟨rfl, rfl⟩ := h
    refine ru_bipush (v := 7) d_Mo_spelt_12 (by decide) ?_
    refine ru_icmp_le (tgt := 21) d_Mo_spelt_14 (by decide) (fun h14 => ?_) (fun h14 => ?_)
    · skip
      replace h14 := nm_le (a := (tlen n t j)) (b := 7) (by omega) (by omega) h14
      refine ru_lconst (v := 0) d_Mo_spelt_21 (by decide) ?_
      refine ru_lstore_n d_Mo_spelt_22 rfl (by decide) ?_
      refine ru_aload_n d_Mo_spelt_23 rfl rfl ?_
      refine ru_getR d_Mo_spelt_24 lf_Mo_30 (ly hL 398 9 0) rfl (lr hL 398 10 405) ?_
      refine ru_aload_n d_Mo_spelt_27 rfl rfl ?_
      refine ru_getI d_Mo_spelt_28 lf_Mo_59 (ly hL 398 9 0) rfl ?_
      refine ru_eqi hw ?_
      refine ru_ialdN (j := j) d_Mo_spelt_31 (ly hL 405 100 3001) (by have := hjm (by omega); omega) (by decide) ?_
      refine ru_eqi (h.2.2.2.2.2.2.1 j (hjm (by omega))).1 ?_
      refine ru_istore_n d_Mo_spelt_32 rfl (by decide) ?_
      rw [fin2 ⟨by omega, by omega⟩]
      exact ru_to (loop (hjm (by omega)) (tlen n t j) _ 0 hle.1 rfl) ⟨rfl, rfl, rfl, trivial⟩
    · skip
      replace h14 := nm_nle (a := (tlen n t j)) (b := 7) (by omega) (by omega) h14
      refine ru_ldc2 d_Mo_spelt_17 lc_Mo_66 ?_
      refine ru_lret d_Mo_spelt_20 rfl ?_
      rw [fin (by omega)]
      exact ⟨rfl, rfl⟩
end
