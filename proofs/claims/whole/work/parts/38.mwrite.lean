/-! The reference writes: words -/
theorem d_Mo_sayWord_0 : decode M_Mo_sayWord.2.1 0 = .ok (.aload_n 0, 1) := by decide +kernel
theorem d_Mo_sayWord_1 : decode M_Mo_sayWord.2.1 1 = .ok (.getfield 215, 3) := by decide +kernel
theorem d_Mo_sayWord_4 : decode M_Mo_sayWord.2.1 4 = .ok (.ifCond .le 25, 3) := by decide +kernel
theorem d_Mo_sayWord_7 : decode M_Mo_sayWord.2.1 7 = .ok (.aload_n 0, 1) := by decide +kernel
theorem d_Mo_sayWord_8 : decode M_Mo_sayWord.2.1 8 = .ok (.getfield 36, 3) := by decide +kernel
theorem d_Mo_sayWord_11 : decode M_Mo_sayWord.2.1 11 = .ok (.aload_n 0, 1) := by decide +kernel
theorem d_Mo_sayWord_12 : decode M_Mo_sayWord.2.1 12 = .ok (.getfield 215, 3) := by decide +kernel
theorem d_Mo_sayWord_15 : decode M_Mo_sayWord.2.1 15 = .ok (.iconst 1, 1) := by decide +kernel
theorem d_Mo_sayWord_16 : decode M_Mo_sayWord.2.1 16 = .ok (.isub, 1) := by decide +kernel
theorem d_Mo_sayWord_17 : decode M_Mo_sayWord.2.1 17 = .ok (.iaload, 1) := by decide +kernel
theorem d_Mo_sayWord_18 : decode M_Mo_sayWord.2.1 18 = .ok (.bipush 10, 2) := by decide +kernel
theorem d_Mo_sayWord_20 : decode M_Mo_sayWord.2.1 20 = .ok (.if_icmp .eq 9, 3) := by decide +kernel
theorem d_Mo_sayWord_23 : decode M_Mo_sayWord.2.1 23 = .ok (.aload_n 0, 1) := by decide +kernel
theorem d_Mo_sayWord_24 : decode M_Mo_sayWord.2.1 24 = .ok (.bipush 32, 2) := by decide +kernel
theorem d_Mo_sayWord_26 : decode M_Mo_sayWord.2.1 26 = .ok (.invokevirtual 218, 3) := by decide +kernel
theorem d_Mo_sayWord_29 : decode M_Mo_sayWord.2.1 29 = .ok (.bipush 30, 2) := by decide +kernel
theorem d_Mo_sayWord_31 : decode M_Mo_sayWord.2.1 31 = .ok (.istore_n 3, 1) := by decide +kernel
theorem d_Mo_sayWord_32 : decode M_Mo_sayWord.2.1 32 = .ok (.lload_n 1, 1) := by decide +kernel
theorem d_Mo_sayWord_33 : decode M_Mo_sayWord.2.1 33 = .ok (.iload_n 3, 1) := by decide +kernel
theorem d_Mo_sayWord_34 : decode M_Mo_sayWord.2.1 34 = .ok (.lshr, 1) := by decide +kernel
theorem d_Mo_sayWord_35 : decode M_Mo_sayWord.2.1 35 = .ok (.ldc2_w 221, 3) := by decide +kernel
theorem d_Mo_sayWord_38 : decode M_Mo_sayWord.2.1 38 = .ok (.land, 1) := by decide +kernel
theorem d_Mo_sayWord_39 : decode M_Mo_sayWord.2.1 39 = .ok (.lconst 0, 1) := by decide +kernel
theorem d_Mo_sayWord_40 : decode M_Mo_sayWord.2.1 40 = .ok (.lcmp, 1) := by decide +kernel
theorem d_Mo_sayWord_41 : decode M_Mo_sayWord.2.1 41 = .ok (.ifCond .ne 9, 3) := by decide +kernel
theorem d_Mo_sayWord_44 : decode M_Mo_sayWord.2.1 44 = .ok (.iinc 3 (-5), 3) := by decide +kernel
theorem d_Mo_sayWord_47 : decode M_Mo_sayWord.2.1 47 = .ok (.goto (-15), 3) := by decide +kernel
theorem d_Mo_sayWord_50 : decode M_Mo_sayWord.2.1 50 = .ok (.iload_n 3, 1) := by decide +kernel
theorem d_Mo_sayWord_51 : decode M_Mo_sayWord.2.1 51 = .ok (.ifCond .lt 24, 3) := by decide +kernel
theorem d_Mo_sayWord_54 : decode M_Mo_sayWord.2.1 54 = .ok (.aload_n 0, 1) := by decide +kernel
theorem d_Mo_sayWord_55 : decode M_Mo_sayWord.2.1 55 = .ok (.lload_n 1, 1) := by decide +kernel
theorem d_Mo_sayWord_56 : decode M_Mo_sayWord.2.1 56 = .ok (.iload_n 3, 1) := by decide +kernel
theorem d_Mo_sayWord_57 : decode M_Mo_sayWord.2.1 57 = .ok (.lshr, 1) := by decide +kernel
theorem d_Mo_sayWord_58 : decode M_Mo_sayWord.2.1 58 = .ok (.ldc2_w 221, 3) := by decide +kernel
theorem d_Mo_sayWord_61 : decode M_Mo_sayWord.2.1 61 = .ok (.land, 1) := by decide +kernel
theorem d_Mo_sayWord_62 : decode M_Mo_sayWord.2.1 62 = .ok (.l2i, 1) := by decide +kernel
theorem d_Mo_sayWord_63 : decode M_Mo_sayWord.2.1 63 = .ok (.bipush 96, 2) := by decide +kernel
theorem d_Mo_sayWord_65 : decode M_Mo_sayWord.2.1 65 = .ok (.iadd, 1) := by decide +kernel
theorem d_Mo_sayWord_66 : decode M_Mo_sayWord.2.1 66 = .ok (.invokevirtual 218, 3) := by decide +kernel
theorem d_Mo_sayWord_69 : decode M_Mo_sayWord.2.1 69 = .ok (.iinc 3 (-5), 3) := by decide +kernel
theorem d_Mo_sayWord_72 : decode M_Mo_sayWord.2.1 72 = .ok (.goto (-22), 3) := by decide +kernel
theorem d_Mo_sayWord_75 : decode M_Mo_sayWord.2.1 75 = .ok (.return_, 1) := by decide +kernel
theorem ru_lshr {M : rx_M} {d mc ms pc : Nat} {lo : List (Nat × Value)} {st : List Value} {σ : rx_S} {post : rx_End} {x : Int64} {y : Int32} (hd : decode M.2.1 pc = .ok (.lshr, 1)) (k : rx_W M d mc ms (pc + 1) lo (.long (x >>> (y.toInt64 &&& 63)) :: st) σ post) : rx_W M d mc ms pc lo (.int y :: .long x :: st) σ post := by
  intro l ev p e s m args below meth c C R H locs cells slots mt sst ls A
  exact lv_lshr C.1 C.2.1 hd rfl (k l ev p e s m args below meth c C R H locs cells slots mt sst ls A)
/-- the reference has written l -/
def mO (m0 : Nat → Nat → Int32) (l : List Int32) : Nat → Nat → Int32 := fun r k => if r = 407 then (if k < l.length then l.getD k 0 else m0 407 k) else if r = 398 then (if k = 16 then nI l.length else m0 398 k) else m0 r k
section
variable {m0 : Nat → Nat → Int32} {l : List Int32}
theorem mO_p : mO m0 l 398 16 = nI l.length := rfl
theorem mO_k {k : Nat} (h : k ≠ 16 := by decide) : mO m0 l 398 k = m0 398 k := by
  show (if k = 16 then _ else _) = _
  rw [if_neg h]
theorem mO_r {r : Nat} (h : r ≠ 407 := by decide) (h' : r ≠ 398 := by decide) : mO m0 l r = m0 r := by
  funext k
  unfold mO
  rw [if_neg h, if_neg h']
theorem mO_o {k : Nat} (h : k < l.length) : mO m0 l 407 k = l.getD k 0 := if_pos h
theorem mO_s {u : Int32} : rx_u (rx_u (mO m0 l) 407 l.length u) 398 16 (nI (l.length + 1)) = mO m0 (l ++ [u]) := by
  funext r k
  by_cases h1 : r = 407
  · subst h1
    rw [rx_u_r _ _ (by decide)]
    by_cases h2 : k = l.length
    · subst h2
      rw [rx_u_same, mO_o (by rw [List.length_append]; exact Nat.lt_succ_self _)]
      simp [List.getD]
    · rw [rx_u_k _ _ h2]
      unfold mO
      rw [if_pos rfl, if_pos rfl, List.length_append]
      by_cases h3 : k < l.length
      · rw [if_pos h3, if_pos (show k < l.length + [u].length by omega)]
        simp [List.getD, List.getElem?_append_left h3]
      · have e1 : [u].length = 1 := rfl
        rw [if_neg h3, if_neg (by omega)]
  · by_cases h2 : r = 398
    · subst h2
      by_cases h3 : k = 16
      · subst h3
        rw [rx_u_same, mO_p, List.length_append]
        rfl
      · rw [rx_u_k _ _ h3, rx_u_r _ _ (by decide), mO_k h3, mO_k h3]
    · rw [rx_u_r _ _ h2, rx_u_r _ _ h1, mO_r h1 h2, mO_r h1 h2]
end
theorem shr5 {g : Nat} (hg : g < 2 ^ 35) : ∀ k, k ≤ 6 → (Int64.ofNat g >>> ((nI (5 * k)).toInt64 &&& 63)) &&& 31 = Int64.ofNat (g / 32 ^ k % 32) := by
  intro k hk
  have key : ∀ s : Nat, s ≤ 30 → (Int64.ofNat g >>> Int64.ofNat s) &&& 31 = Int64.ofNat (g / 2 ^ s % 32) := by
    intro s hs
    apply Int64.toBitVec_inj.mp
    rw [Int64.toBitVec_and, Int64.toBitVec_shiftRight]
    have e1 : (Int64.ofNat s).toBitVec.smod 64 = BitVec.ofNat 64 s := by
      have : ∀ s : Nat, s ≤ 30 → (Int64.ofNat s).toBitVec.smod 64 = BitVec.ofNat 64 s := by decide
      exact this s hs
    rw [e1]
    show (BitVec.ofNat 64 g).sshiftRight (BitVec.ofNat 64 s).toNat &&& 31#64 = BitVec.ofNat 64 (g / 2 ^ s % 32)
    have hm : (BitVec.ofNat 64 g).msb = false := by
      rw [BitVec.msb_eq_decide]
      simp
      omega
    apply BitVec.eq_of_toNat_eq
    rw [BitVec.toNat_and, BitVec.sshiftRight_eq_of_msb_false hm]
    simp only [BitVec.toNat_ushiftRight, BitVec.toNat_ofNat]
    rw [Nat.mod_eq_of_lt (show g < 2 ^ 64 by omega), Nat.mod_eq_of_lt (show s < 2 ^ 64 by omega), Nat.shiftRight_eq_div_pow, show 31 % 2 ^ 64 = 2 ^ 5 - 1 from rfl, Nat.and_two_pow_sub_one_eq_mod]
    rw [Nat.mod_eq_of_lt (show g / 2 ^ s % 32 < 2 ^ 64 by omega)]
  have e2 : (nI (5 * k)).toInt64 &&& 63 = Int64.ofNat (5 * k) := by
    have : ∀ k, k ≤ 6 → (nI (5 * k)).toInt64 &&& 63 = Int64.ofNat (5 * k) := by decide
    exact this k hk
  rw [e2, key (5 * k) (by omega), Nat.pow_mul]
theorem gE_div {t : Nat → Int32} {L : Nat} (h : ∀ i, i < L → isLet (t i)) : ∀ k, k ≤ L → gE t 0 L / 32 ^ k = gE t 0 (L - k)
  | 0, _ => by rw [Nat.pow_zero, Nat.div_one, Nat.sub_zero]
  | k + 1, hk => by
    rw [Nat.pow_succ, ← Nat.div_div_eq_div_mul, gE_div h k (by omega)]
    obtain ⟨j, hj⟩ : ∃ j, L - k = j + 1 := ⟨L - k - 1, by omega⟩
    have := h j (by omega)
    rw [hj, show L - (k + 1) = j by omega]
    unfold isLet at this
    show (gE t 0 j * 32 + ((t (0 + j)).toInt - 96).toNat) / 32 = gE t 0 j
    rw [Nat.zero_add]
    omega
theorem gE_dig {t : Nat → Int32} {L k : Nat} (h : ∀ i, i < L → isLet (t i)) (hk : k < L) : gE t 0 L / 32 ^ k % 32 = ((t (L - 1 - k)).toInt - 96).toNat := by
  rw [gE_div h k (by omega)]
  obtain ⟨j, hj⟩ : ∃ j, L - k = j + 1 := ⟨L - k - 1, by omega⟩
  have := h j (by omega)
  rw [hj, show L - 1 - k = j by omega]
  unfold isLet at this
  show (gE t 0 j * 32 + ((t (0 + j)).toInt - 96).toNat) % 32 = _
  rw [Nat.zero_add]
  omega
theorem gE_dig0 {t : Nat → Int32} {L k : Nat} (h : ∀ i, i < L → isLet (t i)) (hk : L ≤ k) : gE t 0 L / 32 ^ k % 32 = 0 := by
  have h1 := gE_lt (t := t) (k := 0) L (fun i hi => by rw [Nat.zero_add]; exact h i hi)
  rw [Nat.div_eq_of_lt (Nat.lt_of_lt_of_le h1 (Nat.pow_le_pow_right (by decide) hk))]
def lineS (l : List Int32) : Prop := l = [] ∨ l.getD (l.length - 1) 0 = 10
def mid (l : List Int32) : Prop := l ≠ [] ∧ ¬ l.getD (l.length - 1) 0 = 10
theorem mid_app {l x : List Int32} (h : mid l ∨ x ≠ []) (hx : ∀ c ∈ x, c ≠ 10) : mid (l ++ x) := by
  cases x with
  | nil =>
    rw [List.append_nil]
    exact h.resolve_right (fun z => z rfl)
  | cons c y =>
    refine ⟨by simp, ?_⟩
    have hl : (l ++ c :: y).length - 1 = l.length + y.length := by rw [List.length_append, List.length_cons]; omega
    rw [hl, List.getD, List.getElem?_append_right (by omega), Nat.add_sub_cancel_left]
    have h2 : y.length < (c :: y).length := by rw [List.length_cons]; omega
    rw [List.getElem?_eq_getElem h2]
    exact hx _ (List.getElem_mem h2)
section
variable {nx : Nat} {ct : Nat → Nat × Nat} {m0 : Nat → Nat → Int32} {ml : Nat → Nat → Int64} {mr : Nat → Nat → Option Nat} {l : List Int32}
theorem sq_say (hL : LAY nx ct mr) (u : Int32) (hl : l.length < 9000) : rx_Calls y_Mo_say M_Mo_say 0 0 0 [.ref 398, .int u] (nx, ct, mO m0 l, ml, mr) (fun v τ => v = none ∧ τ = (nx, ct, mO m0 (l ++ [u]), ml, mr)) := by
  have z := sp_Mo_say (mi := mO m0 l) (ml := ml) hL u mO_p hl
  rw [mO_s] at z
  exact z
abbrev shI (f : Nat) : Int32 := nI (5 * f) + Int32.ofInt (-5)
theorem shI_s (f : Nat) : shI (f + 1) = nI (5 * f) := by
  unfold shI
  rw [show 5 * (f + 1) = 5 * f + 5 by omega, ← nI_add, Int32.add_assoc, show nI 5 + Int32.ofInt (-5) = 0 from rfl, Int32.add_zero]
theorem wd_29 {V : Int64} {s : Nat} (hL : LAY nx ct mr) (hV : wOK s V) (hl : l.length + 7 < 9000) : rx_W M_Mo_sayWord 1 0 0 29 [(0, .ref 398), (1, .long V)] [] (nx, ct, mO m0 l, ml, mr) (pR (fun v τ => v = none ∧ τ = (nx, ct, mO m0 (l ++ rx_tx s), ml, mr))) := by
  obtain ⟨h1, h2, h3⟩ := hV
  generalize rx_tx s = w at h1 h2 h3 ⊢
  have hle : ∀ i, i < w.length → isLet ((fun i => w.getD i 0) i) := h2
  have hlt := gE_lt (t := fun i => w.getD i 0) (k := 0) w.length (fun i hi => by rw [Nat.zero_add]; exact hle i hi)
  have hlt2 : (32 : Nat) ^ w.length ≤ 32 ^ 7 := Nat.pow_le_pow_right (by decide) (by omega)
  have hd : ∀ k, k ≤ 6 → (V >>> ((nI (5 * k)).toInt64 &&& 63)) &&& 31 = Int64.ofNat (gE (fun i => w.getD i 0) 0 w.length / 32 ^ k % 32) := by
    rw [h3]
    exact shr5 (by omega)
  have loop : ∀ f, f ≤ w.length → rx_W M_Mo_sayWord 1 0 0 50 [(0, .ref 398), (1, .long V), (3, .int (shI f))] [] (nx, ct, mO m0 (l ++ w.take (w.length - f)), ml, mr) (pR (fun v τ => v = none ∧ τ = (nx, ct, mO m0 (l ++ w), ml, mr))) := by
    intro f
    induction f with
    | zero =>
      intro hf
      rw [Nat.sub_zero, List.take_length]
      refine ru_iload_n d_Mo_sayWord_50 rfl rfl ?_
      refine ru_if_lt (tgt := 75) d_Mo_sayWord_51 (by decide) (fun h51 => ?_) (fun h51 => absurd (by decide) h51)
      refine ru_vret d_Mo_sayWord_75 rfl ?_
      exact ⟨rfl, rfl⟩
    | succ f ih =>
      intro hf
      have hlet := hle (w.length - 1 - f) (by omega)
      have hq := gE_dig hle (show f < w.length by omega)
      have e96 : nI (gE (fun i => w.getD i 0) 0 w.length / 32 ^ f % 32) + 96 = w.getD (w.length - 1 - f) 0 := by
        rw [hq, show (96 : Int32) = nI 96 from rfl, nI_add]
        unfold isLet at hlet
        dsimp only at hlet ⊢
        rw [iq, nI_toInt (by omega)]
        omega
      have etake : w.take (w.length - (f + 1)) ++ [w.getD (w.length - 1 - f) 0] = w.take (w.length - f) := by
        have hx : w.length - 1 - f < w.length := by omega
        rw [show w.length - f = (w.length - (f + 1)) + 1 by omega, List.take_succ, show w.length - 1 - f = w.length - (f + 1) by omega, List.getD, List.getElem?_eq_getElem (by omega)]
        rfl
      have hlen : (l ++ w.take (w.length - (f + 1))).length < 9000 := by
        rw [List.length_append, List.length_take]
        omega
      rw [shI_s]
      refine ru_iload_n d_Mo_sayWord_50 rfl rfl ?_
      refine ru_if_lt (tgt := 75) d_Mo_sayWord_51 (by decide) (fun h51 => absurd h51 (nI_pos (by omega))) (fun h51 => ?_)
      refine ru_aload_n d_Mo_sayWord_54 rfl rfl ?_
      refine ru_lload_n d_Mo_sayWord_55 rfl rfl ?_
      refine ru_iload_n d_Mo_sayWord_56 rfl rfl ?_
      refine ru_lshr d_Mo_sayWord_57 ?_
      refine ru_ldc2 d_Mo_sayWord_58 lc_Mo_221 ?_
      refine ru_land d_Mo_sayWord_61 ?_
      refine ru_eql (hd f (by omega)) ?_
      refine ru_l2i d_Mo_sayWord_62 ?_
      refine ru_eqi (nl_l2i _) ?_
      refine ru_bipush (v := 96) d_Mo_sayWord_63 (by decide) ?_
      refine ru_iadd d_Mo_sayWord_65 ?_
      refine ru_eqi e96 ?_
      refine ru_callV (mc := 0) (ms := 0) d_Mo_sayWord_66 lm_Mo_218 (sq_say hL _ hlen) (rx_recv_is (ly hL 398 9 0) kx_Mo) (by decide) rfl (Nat.le_of_ble_eq_true rfl) ?_
      rintro v τ ⟨rfl, rfl⟩
      refine ru_iinc d_Mo_sayWord_69 rfl rfl (by decide) ?_
      refine ru_goto (tgt := 50) d_Mo_sayWord_72 (by decide) ?_
      rw [List.append_assoc, etake]
      exact ru_to (ih (by omega)) ⟨rfl, rfl, rfl, trivial⟩
  have seek : ∀ d k, k = w.length - 1 + d → k ≤ 6 → rx_W M_Mo_sayWord 1 0 0 32 [(0, .ref 398), (1, .long V), (3, .int (nI (5 * k)))] [] (nx, ct, mO m0 l, ml, mr) (pR (fun v τ => v = none ∧ τ = (nx, ct, mO m0 (l ++ w), ml, mr))) := by
    intro d
    induction d with
    | zero =>
      intro k hk hk6
      have hq := gE_dig hle (show k < w.length by omega)
      have hlet := hle (w.length - 1 - k) (by omega)
      have E := loop w.length (Nat.le_refl _)
      rw [Nat.sub_self, List.take_zero, List.append_nil, show w.length = k + 1 by omega, shI_s] at E
      unfold isLet at hlet
      dsimp only at hlet hq
      refine ru_lload_n d_Mo_sayWord_32 rfl rfl ?_
      refine ru_iload_n d_Mo_sayWord_33 rfl rfl ?_
      refine ru_lshr d_Mo_sayWord_34 ?_
      refine ru_ldc2 d_Mo_sayWord_35 lc_Mo_221 ?_
      refine ru_land d_Mo_sayWord_38 ?_
      refine ru_eql (hd k hk6) ?_
      refine ru_lconst (v := 0) d_Mo_sayWord_39 (by decide) ?_
      refine ru_lcmp d_Mo_sayWord_40 ?_
      refine ru_if_ne (tgt := 50) d_Mo_sayWord_41 (by decide) (fun h41 => ?_) (fun h41 => absurd ((lg_cmp_eq _ _).mp h41) (fun z => by have := nl_eq (b := 0) (by omega) (by omega) z; omega))
      replace h41 := fun q => h41 ((lg_cmp_eq _ _).mpr q)
      exact ru_to E ⟨rfl, rfl, rfl, trivial⟩
    | succ d ih =>
      intro k hk hk6
      have hq := gE_dig0 hle (show w.length ≤ k by omega)
      have e5 : nI (5 * k) + Int32.ofInt (-5) = nI (5 * (k - 1)) := by
        have := shI_s (k - 1)
        rw [show k - 1 + 1 = k by omega] at this
        exact this
      refine ru_lload_n d_Mo_sayWord_32 rfl rfl ?_
      refine ru_iload_n d_Mo_sayWord_33 rfl rfl ?_
      refine ru_lshr d_Mo_sayWord_34 ?_
      refine ru_ldc2 d_Mo_sayWord_35 lc_Mo_221 ?_
      refine ru_land d_Mo_sayWord_38 ?_
      refine ru_eql ((hd k hk6).trans (by rw [hq])) ?_
      refine ru_lconst (v := 0) d_Mo_sayWord_39 (by decide) ?_
      refine ru_lcmp d_Mo_sayWord_40 ?_
      refine ru_if_ne (tgt := 50) d_Mo_sayWord_41 (by decide) (fun h41 => absurd ((lg_cmp_eq _ _).mpr rfl) h41) (fun h41 => ?_)
      replace h41 := (lg_cmp_eq _ _).mp h41
      refine ru_iinc (v := nI (5 * (k - 1))) d_Mo_sayWord_44 rfl e5 (by decide) ?_
      refine ru_goto (tgt := 32) d_Mo_sayWord_47 (by decide) ?_
      exact ru_to (ih (k - 1) (by omega) (by omega)) ⟨rfl, rfl, rfl, trivial⟩
  refine ru_bipush (v := 30) d_Mo_sayWord_29 (by decide) ?_
  refine ru_istore_n d_Mo_sayWord_31 rfl (by decide) ?_
  exact ru_to (seek (6 - (w.length - 1)) 6 (by omega) (by omega)) ⟨rfl, rfl, rfl, trivial⟩
theorem sq_sayWord {V : Int64} {s : Nat} (hL : LAY nx ct mr) (hV : wOK s V) (hl : l.length + 8 < 9000) (hm : mid l) : rx_Calls y_Mo_sayWord M_Mo_sayWord 1 0 0 [.ref 398, .long V] (nx, ct, mO m0 l, ml, mr) (fun v τ => v = none ∧ τ = (nx, ct, mO m0 (l ++ 32 :: rx_tx s), ml, mr)) := by
  refine rx_enter (by decide) rfl rfl (Nat.le_of_ble_eq_true rfl) ?_
  have hpos : 0 < l.length := List.length_pos_iff.mpr hm.1
  have E := wd_29 (m0 := m0) (ml := ml) (l := l ++ [32]) hL hV (by rw [List.length_append]; show l.length + 1 + 7 < 9000; omega)
  rw [List.append_assoc] at E
  refine ru_aload_n d_Mo_sayWord_0 rfl rfl ?_
  refine ru_getI d_Mo_sayWord_1 lf_Mo_215 (ly hL 398 9 0) rfl ?_
  refine ru_eqi mO_p ?_
  refine ru_if_le (tgt := 29) d_Mo_sayWord_4 (by decide) (fun h4 => ?_) (fun h4 => ?_)
  · skip
    replace h4 := nm_le (a := l.length) (b := 0) (by omega) (by omega) h4
    first | (exfalso; omega) | exact absurd h20 hm.2 | exact ru_to E ⟨rfl, rfl, trivial⟩
  · skip
    replace h4 := nm_nle (a := l.length) (b := 0) (by omega) (by omega) h4
    refine ru_aload_n d_Mo_sayWord_7 rfl rfl ?_
    refine ru_getR d_Mo_sayWord_8 lf_Mo_36 (ly hL 398 9 0) rfl (lr hL 398 15 407) ?_
    refine ru_aload_n d_Mo_sayWord_11 rfl rfl ?_
    refine ru_getI d_Mo_sayWord_12 lf_Mo_215 (ly hL 398 9 0) rfl ?_
    refine ru_eqi mO_p ?_
    refine ru_iconst (v := 1) d_Mo_sayWord_15 (by decide) ?_
    refine ru_isub d_Mo_sayWord_16 ?_
    refine ru_eqi (nm_sub (a := l.length) (b := 1) (by omega) : _ = nI (l.length - 1)) ?_
    refine ru_ialdN (j := (l.length - 1)) d_Mo_sayWord_17 (ly hL 407 100 9000) (by omega) (by decide) ?_
    refine ru_eqi (mO_o (by omega)) ?_
    refine ru_bipush (v := 10) d_Mo_sayWord_18 (by decide) ?_
    refine ru_icmp_eq (tgt := 29) d_Mo_sayWord_20 (by decide) (fun h20 => ?_) (fun h20 => ?_)
    · skip
      first | (exfalso; omega) | exact absurd h20 hm.2 | exact ru_to E ⟨rfl, rfl, trivial⟩
    · skip
      refine ru_aload_n d_Mo_sayWord_23 rfl rfl ?_
      refine ru_bipush (v := 32) d_Mo_sayWord_24 (by decide) ?_
      refine ru_callV (mc := 0) (ms := 0) d_Mo_sayWord_26 lm_Mo_218 (sq_say hL _ (by omega)) (rx_recv_is (ly hL 398 9 0) kx_Mo) (by decide) rfl (Nat.le_of_ble_eq_true rfl) ?_
      rintro v τ ⟨rfl, rfl⟩
      first | (exfalso; omega) | exact absurd h20 hm.2 | exact ru_to E ⟨rfl, rfl, trivial⟩
theorem sq_sayWord1 {V : Int64} {s : Nat} (hL : LAY nx ct mr) (hV : wOK s V) (hl : l.length + 8 < 9000) (hm : lineS l) : rx_Calls y_Mo_sayWord M_Mo_sayWord 1 0 0 [.ref 398, .long V] (nx, ct, mO m0 l, ml, mr) (fun v τ => v = none ∧ τ = (nx, ct, mO m0 (l ++ rx_tx s), ml, mr)) := by
  refine rx_enter (by decide) rfl rfl (Nat.le_of_ble_eq_true rfl) ?_
  have E := wd_29 (m0 := m0) (ml := ml) (l := l) hL hV (by omega)
  refine ru_aload_n d_Mo_sayWord_0 rfl rfl ?_
  refine ru_getI d_Mo_sayWord_1 lf_Mo_215 (ly hL 398 9 0) rfl ?_
  refine ru_eqi mO_p ?_
  refine ru_if_le (tgt := 29) d_Mo_sayWord_4 (by decide) (fun h4 => ?_) (fun h4 => ?_)
  · skip
    replace h4 := nm_le (a := l.length) (b := 0) (by omega) (by omega) h4
    exact ru_to E ⟨rfl, rfl, trivial⟩
  · skip
    replace h4 := nm_nle (a := l.length) (b := 0) (by omega) (by omega) h4
    refine ru_aload_n d_Mo_sayWord_7 rfl rfl ?_
    refine ru_getR d_Mo_sayWord_8 lf_Mo_36 (ly hL 398 9 0) rfl (lr hL 398 15 407) ?_
    refine ru_aload_n d_Mo_sayWord_11 rfl rfl ?_
    refine ru_getI d_Mo_sayWord_12 lf_Mo_215 (ly hL 398 9 0) rfl ?_
    refine ru_eqi mO_p ?_
    refine ru_iconst (v := 1) d_Mo_sayWord_15 (by decide) ?_
    refine ru_isub d_Mo_sayWord_16 ?_
    refine ru_eqi (nm_sub (a := l.length) (b := 1) (by omega) : _ = nI (l.length - 1)) ?_
    refine ru_ialdN (j := (l.length - 1)) d_Mo_sayWord_17 (ly hL 407 100 9000) (by omega) (by decide) ?_
    refine ru_eqi (mO_o (by omega)) ?_
    refine ru_bipush (v := 10) d_Mo_sayWord_18 (by decide) ?_
    refine ru_icmp_eq (tgt := 29) d_Mo_sayWord_20 (by decide) (fun h20 => ?_) (fun h20 => ?_)
    · skip
      exact ru_to E ⟨rfl, rfl, trivial⟩
    · skip
      exact absurd hm (fun z => z.elim (fun q => by rw [q] at h4; exact absurd h4 (by decide)) h20)
end
