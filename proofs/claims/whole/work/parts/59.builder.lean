/-! The builder: its room, a letter, a text put behind -/
theorem d_AB_append_C_0 : decode M_AB_append_C.2.1 0 = .ok (.aload_n 0, 1) := by decide +kernel
theorem d_AB_append_C_1 : decode M_AB_append_C.2.1 1 = .ok (.aload_n 0, 1) := by decide +kernel
theorem d_AB_append_C_2 : decode M_AB_append_C.2.1 2 = .ok (.getfield 79, 3) := by decide +kernel
theorem d_AB_append_C_5 : decode M_AB_append_C.2.1 5 = .ok (.iconst 1, 1) := by decide +kernel
theorem d_AB_append_C_6 : decode M_AB_append_C.2.1 6 = .ok (.iadd, 1) := by decide +kernel
theorem d_AB_append_C_7 : decode M_AB_append_C.2.1 7 = .ok (.invokevirtual 100, 3) := by decide +kernel
theorem d_AB_append_C_10 : decode M_AB_append_C.2.1 10 = .ok (.aload_n 0, 1) := by decide +kernel
theorem d_AB_append_C_11 : decode M_AB_append_C.2.1 11 = .ok (.invokevirtual 83, 3) := by decide +kernel
theorem d_AB_append_C_14 : decode M_AB_append_C.2.1 14 = .ok (.ifCond .eq 31, 3) := by decide +kernel
theorem d_AB_append_C_17 : decode M_AB_append_C.2.1 17 = .ok (.iload_n 1, 1) := by decide +kernel
theorem d_AB_append_C_18 : decode M_AB_append_C.2.1 18 = .ok (.invokestatic 191, 3) := by decide +kernel
theorem d_AB_append_C_21 : decode M_AB_append_C.2.1 21 = .ok (.ifCond .eq 24, 3) := by decide +kernel
theorem d_AB_append_C_24 : decode M_AB_append_C.2.1 24 = .ok (.aload_n 0, 1) := by decide +kernel
theorem d_AB_append_C_25 : decode M_AB_append_C.2.1 25 = .ok (.getfield 15, 3) := by decide +kernel
theorem d_AB_append_C_28 : decode M_AB_append_C.2.1 28 = .ok (.aload_n 0, 1) := by decide +kernel
theorem d_AB_append_C_29 : decode M_AB_append_C.2.1 29 = .ok (.dup, 1) := by decide +kernel
theorem d_AB_append_C_30 : decode M_AB_append_C.2.1 30 = .ok (.getfield 79, 3) := by decide +kernel
theorem d_AB_append_C_33 : decode M_AB_append_C.2.1 33 = .ok (.dup_x1, 1) := by decide +kernel
theorem d_AB_append_C_34 : decode M_AB_append_C.2.1 34 = .ok (.iconst 1, 1) := by decide +kernel
theorem d_AB_append_C_35 : decode M_AB_append_C.2.1 35 = .ok (.iadd, 1) := by decide +kernel
theorem d_AB_append_C_36 : decode M_AB_append_C.2.1 36 = .ok (.putfield 79, 3) := by decide +kernel
theorem d_AB_append_C_39 : decode M_AB_append_C.2.1 39 = .ok (.iload_n 1, 1) := by decide +kernel
theorem d_AB_append_C_40 : decode M_AB_append_C.2.1 40 = .ok (.i2b, 1) := by decide +kernel
theorem d_AB_append_C_41 : decode M_AB_append_C.2.1 41 = .ok (.bastore, 1) := by decide +kernel
theorem d_AB_append_C_42 : decode M_AB_append_C.2.1 42 = .ok (.goto 33, 3) := by decide +kernel
theorem d_AB_append_C_45 : decode M_AB_append_C.2.1 45 = .ok (.aload_n 0, 1) := by decide +kernel
theorem d_AB_append_C_46 : decode M_AB_append_C.2.1 46 = .ok (.invokevirtual 83, 3) := by decide +kernel
theorem d_AB_append_C_49 : decode M_AB_append_C.2.1 49 = .ok (.ifCond .eq 7, 3) := by decide +kernel
theorem d_AB_append_C_52 : decode M_AB_append_C.2.1 52 = .ok (.aload_n 0, 1) := by decide +kernel
theorem d_AB_append_C_53 : decode M_AB_append_C.2.1 53 = .ok (.invokevirtual 195, 3) := by decide +kernel
theorem d_AB_append_C_56 : decode M_AB_append_C.2.1 56 = .ok (.aload_n 0, 1) := by decide +kernel
theorem d_AB_append_C_57 : decode M_AB_append_C.2.1 57 = .ok (.getfield 15, 3) := by decide +kernel
theorem d_AB_append_C_60 : decode M_AB_append_C.2.1 60 = .ok (.aload_n 0, 1) := by decide +kernel
theorem d_AB_append_C_61 : decode M_AB_append_C.2.1 61 = .ok (.dup, 1) := by decide +kernel
theorem d_AB_append_C_62 : decode M_AB_append_C.2.1 62 = .ok (.getfield 79, 3) := by decide +kernel
theorem d_AB_append_C_65 : decode M_AB_append_C.2.1 65 = .ok (.dup_x1, 1) := by decide +kernel
theorem d_AB_append_C_66 : decode M_AB_append_C.2.1 66 = .ok (.iconst 1, 1) := by decide +kernel
theorem d_AB_append_C_67 : decode M_AB_append_C.2.1 67 = .ok (.iadd, 1) := by decide +kernel
theorem d_AB_append_C_68 : decode M_AB_append_C.2.1 68 = .ok (.putfield 79, 3) := by decide +kernel
theorem d_AB_append_C_71 : decode M_AB_append_C.2.1 71 = .ok (.iload_n 1, 1) := by decide +kernel
theorem d_AB_append_C_72 : decode M_AB_append_C.2.1 72 = .ok (.invokestatic 197, 3) := by decide +kernel
theorem d_AB_append_C_75 : decode M_AB_append_C.2.1 75 = .ok (.aload_n 0, 1) := by decide +kernel
theorem d_AB_append_C_76 : decode M_AB_append_C.2.1 76 = .ok (.areturn, 1) := by decide +kernel
theorem d_AB_ensureCapacityInternal_0 : decode M_AB_ensureCapacityInternal.2.1 0 = .ok (.aload_n 0, 1) := by decide +kernel
theorem d_AB_ensureCapacityInternal_1 : decode M_AB_ensureCapacityInternal.2.1 1 = .ok (.getfield 15, 3) := by decide +kernel
theorem d_AB_ensureCapacityInternal_4 : decode M_AB_ensureCapacityInternal.2.1 4 = .ok (.arraylength, 1) := by decide +kernel
theorem d_AB_ensureCapacityInternal_5 : decode M_AB_ensureCapacityInternal.2.1 5 = .ok (.aload_n 0, 1) := by decide +kernel
theorem d_AB_ensureCapacityInternal_6 : decode M_AB_ensureCapacityInternal.2.1 6 = .ok (.getfield 22, 3) := by decide +kernel
theorem d_AB_ensureCapacityInternal_9 : decode M_AB_ensureCapacityInternal.2.1 9 = .ok (.ishr, 1) := by decide +kernel
theorem d_AB_ensureCapacityInternal_10 : decode M_AB_ensureCapacityInternal.2.1 10 = .ok (.istore_n 2, 1) := by decide +kernel
theorem d_AB_ensureCapacityInternal_11 : decode M_AB_ensureCapacityInternal.2.1 11 = .ok (.iload_n 1, 1) := by decide +kernel
theorem d_AB_ensureCapacityInternal_12 : decode M_AB_ensureCapacityInternal.2.1 12 = .ok (.iload_n 2, 1) := by decide +kernel
theorem d_AB_ensureCapacityInternal_13 : decode M_AB_ensureCapacityInternal.2.1 13 = .ok (.isub, 1) := by decide +kernel
theorem d_AB_ensureCapacityInternal_14 : decode M_AB_ensureCapacityInternal.2.1 14 = .ok (.ifCond .le 24, 3) := by decide +kernel
theorem d_AB_ensureCapacityInternal_17 : decode M_AB_ensureCapacityInternal.2.1 17 = .ok (.aload_n 0, 1) := by decide +kernel
theorem d_AB_ensureCapacityInternal_18 : decode M_AB_ensureCapacityInternal.2.1 18 = .ok (.aload_n 0, 1) := by decide +kernel
theorem d_AB_ensureCapacityInternal_19 : decode M_AB_ensureCapacityInternal.2.1 19 = .ok (.getfield 15, 3) := by decide +kernel
theorem d_AB_ensureCapacityInternal_22 : decode M_AB_ensureCapacityInternal.2.1 22 = .ok (.aload_n 0, 1) := by decide +kernel
theorem d_AB_ensureCapacityInternal_23 : decode M_AB_ensureCapacityInternal.2.1 23 = .ok (.iload_n 1, 1) := by decide +kernel
theorem d_AB_ensureCapacityInternal_24 : decode M_AB_ensureCapacityInternal.2.1 24 = .ok (.invokevirtual 104, 3) := by decide +kernel
theorem d_AB_ensureCapacityInternal_27 : decode M_AB_ensureCapacityInternal.2.1 27 = .ok (.aload_n 0, 1) := by decide +kernel
theorem d_AB_ensureCapacityInternal_28 : decode M_AB_ensureCapacityInternal.2.1 28 = .ok (.getfield 22, 3) := by decide +kernel
theorem d_AB_ensureCapacityInternal_31 : decode M_AB_ensureCapacityInternal.2.1 31 = .ok (.ishl, 1) := by decide +kernel
theorem d_AB_ensureCapacityInternal_32 : decode M_AB_ensureCapacityInternal.2.1 32 = .ok (.invokestatic 108, 3) := by decide +kernel
theorem d_AB_ensureCapacityInternal_35 : decode M_AB_ensureCapacityInternal.2.1 35 = .ok (.putfield 15, 3) := by decide +kernel
theorem d_AB_ensureCapacityInternal_38 : decode M_AB_ensureCapacityInternal.2.1 38 = .ok (.return_, 1) := by decide +kernel
theorem d_S1_canEncode_0 : decode M_S1_canEncode.2.1 0 = .ok (.iload_n 0, 1) := by decide +kernel
theorem d_S1_canEncode_1 : decode M_S1_canEncode.2.1 1 = .ok (.sipush 255, 3) := by decide +kernel
theorem d_S1_canEncode_4 : decode M_S1_canEncode.2.1 4 = .ok (.if_icmp .gt 7, 3) := by decide +kernel
theorem d_S1_canEncode_7 : decode M_S1_canEncode.2.1 7 = .ok (.iconst 1, 1) := by decide +kernel
theorem d_S1_canEncode_8 : decode M_S1_canEncode.2.1 8 = .ok (.goto 4, 3) := by decide +kernel
theorem d_S1_canEncode_11 : decode M_S1_canEncode.2.1 11 = .ok (.iconst 0, 1) := by decide +kernel
theorem d_S1_canEncode_12 : decode M_S1_canEncode.2.1 12 = .ok (.ireturn, 1) := by decide +kernel
theorem d_SB_append_C_0 : decode M_SB_append_C.2.1 0 = .ok (.aload_n 0, 1) := by decide +kernel
theorem d_SB_append_C_1 : decode M_SB_append_C.2.1 1 = .ok (.iload_n 1, 1) := by decide +kernel
theorem d_SB_append_C_2 : decode M_SB_append_C.2.1 2 = .ok (.invokespecial 50, 3) := by decide +kernel
theorem d_SB_append_C_5 : decode M_SB_append_C.2.1 5 = .ok (.pop, 1) := by decide +kernel
theorem d_SB_append_C_6 : decode M_SB_append_C.2.1 6 = .ok (.aload_n 0, 1) := by decide +kernel
theorem d_SB_append_C_7 : decode M_SB_append_C.2.1 7 = .ok (.areturn, 1) := by decide +kernel
def cpF : Nat → Nat → Nat → Nat
  | 0, c, _ => c
  | f + 1, c, m => if m ≤ c then c else cpF f (2 * c + 2) m
/-- the bytes a builder of c bytes has once it holds m -/
def cp (c m : Nat) : Nat := cpF m c m
theorem cpF_ge : ∀ f c m, m ≤ c + f → m ≤ cpF f c m ∧ c ≤ cpF f c m
  | 0, c, m, h => ⟨h, Nat.le_refl _⟩
  | f + 1, c, m, h => by
    unfold cpF
    by_cases q : m ≤ c
    · rw [if_pos q]; exact ⟨q, Nat.le_refl _⟩
    · rw [if_neg q]
      have := cpF_ge f (2 * c + 2) m (by omega)
      omega
theorem cpF_fuel : ∀ f g c m, m ≤ c + f → m ≤ c + g → cpF f c m = cpF g c m
  | 0, 0, c, m, _, _ => rfl
  | 0, g + 1, c, m, h, _ => by
    show c = cpF (g + 1) c m
    unfold cpF
    rw [if_pos (show m ≤ c from h)]
  | f + 1, 0, c, m, _, h => by
    show cpF (f + 1) c m = c
    unfold cpF
    rw [if_pos (show m ≤ c from h)]
  | f + 1, g + 1, c, m, h1, h2 => by
    unfold cpF
    rw [cpF_fuel f g (2 * c + 2) m (by omega) (by omega)]
theorem cpF_comp : ∀ f c a b, a ≤ b → b ≤ c + f → cpF f (cpF f c a) b = cpF f c b
  | 0, c, a, b, _, _ => rfl
  | f + 1, c, a, b, h1, h2 => by
    by_cases q : a ≤ c
    · have : cpF (f + 1) c a = c := by unfold cpF; rw [if_pos q]
      rw [this]
    · have e1 : cpF (f + 1) c a = cpF f (2 * c + 2) a := by show (if a ≤ c then c else _) = _; rw [if_neg q]
      have e2 : cpF (f + 1) c b = cpF f (2 * c + 2) b := by show (if b ≤ c then c else _) = _; rw [if_neg (by omega)]
      have g := (cpF_ge f (2 * c + 2) a (by omega)).2
      rw [e1, e2, cpF_fuel (f + 1) f _ b (by omega) (by omega)]
      exact cpF_comp f (2 * c + 2) a b h1 (by omega)
theorem cp_ge (c m : Nat) : m ≤ cp c m ∧ c ≤ cp c m := cpF_ge m c m (by omega)
theorem cp_id {c m : Nat} (h : m ≤ c) : cp c m = c := by
  unfold cp
  cases m with
  | zero => rfl
  | succ m => unfold cpF; rw [if_pos h]
theorem cp_one {c m : Nat} (h1 : c < m) (h2 : m ≤ 2 * c + 2) : cp c m = 2 * c + 2 := by
  unfold cp
  cases m with
  | zero => omega
  | succ m =>
    unfold cpF
    rw [if_neg (by omega)]
    cases m with
    | zero => rfl
    | succ m => unfold cpF; rw [if_pos h2]
theorem cp_comp {c a b : Nat} (h : a ≤ b) : cp (cp c a) b = cp c b := by
  unfold cp
  rw [cpF_fuel a b c a (by omega) (by omega)]
  exact cpF_comp b c a b h (by omega)
theorem cp_mono {c a b : Nat} (h : a ≤ b) : cp c a ≤ cp c b := by
  rw [← cp_comp (c := c) h]
  exact (cp_ge _ _).2
theorem cpF_up : ∀ f c m, cpF f c m ≤ max c (2 * m)
  | 0, c, m => Nat.le_max_left _ _
  | f + 1, c, m => by
    unfold cpF
    by_cases q : m ≤ c
    · rw [if_pos q]; exact Nat.le_max_left _ _
    · rw [if_neg q]
      have := cpF_up f (2 * c + 2) m
      omega
theorem cp_up (c m : Nat) : cp c m ≤ max c (2 * m) := cpF_up m c m
/-- the writer has changed the builder, its bytes and what is new, no more -/
def frW (nx nx' : Nat) (ct ct' : Nat → Nat × Nat) (mi mi' : Nat → Nat → Int32) (ml ml' : Nat → Nat → Int64) (mr mr' : Nat → Nat → Option Nat) : Prop := nx ≤ nx' ∧ ∀ x, x < 409 → ct' x = ct x ∧ (x ≠ 272 → x ≠ 273 → mi' x = mi x ∧ ml' x = ml x ∧ mr' x = mr x)
theorem frW.refl {nx : Nat} {ct : Nat → Nat × Nat} {mi : Nat → Nat → Int32} {ml : Nat → Nat → Int64} {mr : Nat → Nat → Option Nat} : frW nx nx ct ct mi mi ml ml mr mr := ⟨Nat.le_refl _, fun x _ => ⟨rfl, fun _ _ => ⟨rfl, rfl, rfl⟩⟩⟩
theorem frW.trans {nx n1 n2 : Nat} {ct c1 c2 : Nat → Nat × Nat} {mi m1 m2 : Nat → Nat → Int32} {ml l1 l2 : Nat → Nat → Int64} {mr r1 r2 : Nat → Nat → Option Nat} (h : frW nx n1 ct c1 mi m1 ml l1 mr r1) (h' : frW n1 n2 c1 c2 m1 m2 l1 l2 r1 r2) : frW nx n2 ct c2 mi m2 ml l2 mr r2 := ⟨Nat.le_trans h.1 h'.1, fun x hx => ⟨(h'.2 x hx).1.trans (h.2 x hx).1, fun a b => ⟨((h'.2 x hx).2 a b).1.trans ((h.2 x hx).2 a b).1, ((h'.2 x hx).2 a b).2.1.trans ((h.2 x hx).2 a b).2.1, ((h'.2 x hx).2 a b).2.2.trans ((h.2 x hx).2 a b).2.2⟩⟩⟩
def sbP (v0 : Option Value) (nx : Nat) (ct : Nat → Nat × Nat) (mi : Nat → Nat → Int32) (ml : Nat → Nat → Int64) (mr : Nat → Nat → Option Nat) (l : List Int32) (c : Nat) : Option Value → rx_S → Prop := fun v τ => v = v0 ∧ ∃ nx' ct' mi' ml' mr' vb, τ = (nx', ct', mi', ml', mr') ∧ frW nx nx' ct ct' mi mi' ml ml' mr mr' ∧ LAY nx' ct' mr' ∧ SbI nx' ct' mi' mr' vb l c
section
variable {nx : Nat} {ct : Nat → Nat × Nat} {mi : Nat → Nat → Int32} {ml : Nat → Nat → Int64} {mr : Nat → Nat → Option Nat} {vb c s : Nat} {l : List Int32} {u : Int32}
theorem nm_subLe {a b : Nat} (h : a ≤ b) (hb : b < 2 ^ 30) : nI a - nI b ≤ 0 := by
  have : (nI a - nI b).toInt = (a : Int) - b := by
    rw [Int32.toInt_sub, nI_toInt (by omega), nI_toInt (by omega)]
    apply Int.bmod_eq_of_le <;> omega
  rw [ie, i_0]
  omega
theorem SbI.lt (h : SbI nx ct mi mr vb l c) (hL : LAY nx ct mr) : vb < nx ∧ 409 ≤ nx := ⟨h.2.2.1, hL.1⟩
theorem jl_ensure {m : Nat} (hL : LAY nx ct mr) (h : SbI nx ct mi mr vb l c) (hm2 : m ≤ 2 * c + 2) (hm3 : cp c m ≤ 200000) : rx_Calls y_AB_ensureCapacityInternal M_AB_ensureCapacityInternal 3 (cp c m - c) (2 * (cp c m - c)) [.ref 272, .int (nI m)] (nx, ct, mi, ml, mr) (sbP none nx ct mi ml mr l (cp c m)) := by
  refine rx_enter (by decide +kernel) rfl rfl (Nat.le_of_ble_eq_true rfl) ?_
  have hc := h.2.2.2.2.2.2.2.1
  by_cases hm : m ≤ c
  · rw [cp_id hm, Nat.sub_self]
    refine ru_aload_n d_AB_ensureCapacityInternal_0 rfl rfl ?_
    refine ru_getR d_AB_ensureCapacityInternal_1 lf_AB_15 (ly hL 272 10 0) rfl h.1 ?_
    refine ru_alen (v := nI c) d_AB_ensureCapacityInternal_4 h.is (by decide) (fun _ => rfl) rfl ?_
    refine ru_eqi rfl ?_
    refine ru_aload_n d_AB_ensureCapacityInternal_5 rfl rfl ?_
    refine ru_getI d_AB_ensureCapacityInternal_6 lf_AB_22 (ly hL 272 10 0) rfl ?_
    refine ru_eqi h.2.2.2.2.1 ?_
    refine ru_ishr d_AB_ensureCapacityInternal_9 ?_
    refine ru_eqi (sh_0 _) ?_
    refine ru_istore_n d_AB_ensureCapacityInternal_10 rfl (by decide) ?_
    refine ru_iload_n d_AB_ensureCapacityInternal_11 rfl rfl ?_
    refine ru_iload_n d_AB_ensureCapacityInternal_12 rfl rfl ?_
    refine ru_isub d_AB_ensureCapacityInternal_13 ?_
    refine ru_if_le (tgt := 38) d_AB_ensureCapacityInternal_14 (by decide) (fun h14 => ?_) (fun h14 => absurd (nm_subLe hm (by omega)) h14)
    refine ru_vret d_AB_ensureCapacityInternal_38 rfl ?_
    exact ⟨rfl, nx, ct, mi, ml, mr, vb, rfl, frW.refl, hL, h⟩
  · have e := cp_one (c := c) (m := m) (by omega) hm2
    rw [e] at hm3 ⊢
    refine ru_mcs (mc' := 1 + (c + 1)) (ms' := (2 * c + 2) + 2) (by omega) (by omega) ?_
    have hL1 := hL.grow 103 (2 * c + 2) (fun _ => none)
    have hL2 := hL1.put (r := 272) (k := 0) (some nx) ⟨by decide, by decide, by decide⟩
    have hlt := h.lt hL
    obtain ⟨s1, s2, s3, s4, s5, s6, s7, s8, s9, s10⟩ := id h
    refine ru_aload_n d_AB_ensureCapacityInternal_0 rfl rfl ?_
    refine ru_getR d_AB_ensureCapacityInternal_1 lf_AB_15 (ly hL 272 10 0) rfl h.1 ?_
    refine ru_alen (v := nI c) d_AB_ensureCapacityInternal_4 h.is (by decide) (fun _ => rfl) rfl ?_
    refine ru_eqi rfl ?_
    refine ru_aload_n d_AB_ensureCapacityInternal_5 rfl rfl ?_
    refine ru_getI d_AB_ensureCapacityInternal_6 lf_AB_22 (ly hL 272 10 0) rfl ?_
    refine ru_eqi h.2.2.2.2.1 ?_
    refine ru_ishr d_AB_ensureCapacityInternal_9 ?_
    refine ru_eqi (sh_0 _) ?_
    refine ru_istore_n d_AB_ensureCapacityInternal_10 rfl (by decide) ?_
    refine ru_iload_n d_AB_ensureCapacityInternal_11 rfl rfl ?_
    refine ru_iload_n d_AB_ensureCapacityInternal_12 rfl rfl ?_
    refine ru_isub d_AB_ensureCapacityInternal_13 ?_
    refine ru_eqi (nm_sub (a := m) (b := c) (by omega) : _ = nI (m - c)) ?_
    refine ru_if_le (tgt := 38) d_AB_ensureCapacityInternal_14 (by decide) (fun h14 => absurd (nm_le (a := m - c) (b := 0) (by omega) (by omega) h14) (by omega)) (fun h14 => ?_)
    replace h14 := nm_nle (a := (m - c)) (b := 0) (by omega) (by omega) h14
    refine ru_aload_n d_AB_ensureCapacityInternal_17 rfl rfl ?_
    refine ru_aload_n d_AB_ensureCapacityInternal_18 rfl rfl ?_
    refine ru_getR d_AB_ensureCapacityInternal_19 lf_AB_15 (ly hL 272 10 0) rfl h.1 ?_
    refine ru_aload_n d_AB_ensureCapacityInternal_22 rfl rfl ?_
    refine ru_iload_n d_AB_ensureCapacityInternal_23 rfl rfl ?_
    refine ru_mcs (Nat.zero_add _).symm (Nat.zero_add _).symm ?_
    refine ru_callU (mc := 1 + (c + 1)) (ms := (2 * c + 2) + 2) d_AB_ensureCapacityInternal_24 lm_AB_104 (jl_newCap hL h (by omega) hm2) (rx_recv_is (ly hL 272 10 0) kx_SB) (by decide) rfl (Nat.le_of_ble_eq_true rfl) ?_
    rintro v τ ⟨rfl, rfl⟩
    refine ru_aload_n d_AB_ensureCapacityInternal_27 rfl rfl ?_
    refine ru_getI d_AB_ensureCapacityInternal_28 lf_AB_22 (ly hL 272 10 0) rfl ?_
    refine ru_eqi h.2.2.2.2.1 ?_
    refine ru_ishl d_AB_ensureCapacityInternal_31 ?_
    refine ru_eqi (sl_0 _) ?_
    refine ru_callS (mc := c + 1) (ms := 2) d_AB_ensureCapacityInternal_32 lm_AB_108 (jl_copyOf h.is (by omega) (by omega) (by omega) s10) (by decide) rfl (Nat.le_of_ble_eq_true rfl) ?_
    rintro v τ ⟨rfl, rfl⟩
    refine ru_putR (a := some nx) d_AB_ensureCapacityInternal_35 lf_AB_15 (ly hL1 272 10 0) rfl (fun q hq => by cases hq; exact Or.inl rfl) ?_
    refine ru_vret d_AB_ensureCapacityInternal_38 rfl ?_
    refine ⟨rfl, _, _, _, _, _, nx, rfl, ⟨Nat.le_succ _, fun x hx => ?_⟩, hL2, ?_⟩
    · refine ⟨va_up_ne _ _ (by omega), fun a b => ⟨?_, ?_, ?_⟩⟩
      · rw [va_up_ne _ _ (by omega), va_up_ne _ _ (by omega)]
      · rw [va_up_ne _ _ (by omega)]
      · rw [rx_u_r _ _ a, va_up_ne _ _ (by omega)]
    · have e0 : va_up (va_up mi nx (fun _ => (0 : Int32))) nx (va_cpy (mi vb) (fun _ => 0) 0 0 c) nx = va_cpy (mi vb) (fun _ => 0) 0 0 c := by simp [va_up]
      have e2 : va_up (va_up mi nx (fun _ => (0 : Int32))) nx (va_cpy (mi vb) (fun _ => 0) 0 0 c) 272 = mi 272 := by rw [va_up_ne _ _ (by omega), va_up_ne _ _ (by omega)]
      refine ⟨rx_u_same _ _ _ _, Or.inr hL.1, Nat.lt_succ_self _, by simp [va_up], by rw [e2]; exact s5, by rw [e2]; exact s6, by omega, by omega, fun i x hx => ?_, fun i hi => ?_⟩
      · have hi : i < l.length := (List.getElem?_eq_some_iff.mp hx).1
        rw [e0]
        show (if 0 ≤ i ∧ i < 0 + c then mi vb (0 + (i - 0)) else 0) = x
        rw [if_pos (by omega), Nat.zero_add, Nat.sub_zero]
        exact s9 i x hx
      · rw [e0]
        show asc (if 0 ≤ i ∧ i < 0 + c then mi vb (0 + (i - 0)) else 0)
        by_cases q : i < c
        · rw [if_pos (by omega), Nat.zero_add, Nat.sub_zero]
          exact s10 i q
        · rw [if_neg (by omega)]
          exact ⟨by decide, by decide⟩
/-- bytes put behind what the builder holds -/
theorem SbI.put {f : Nat → Int32} {l2 : List Int32} (hL : LAY nx ct mr) (h : SbI nx ct mi mr vb l c) (hc : l.length + l2.length ≤ c) (hf : ∀ i x, l2[i]? = some x → f i = x ∧ asc x) : SbI nx ct (rx_u (va_up mi vb (va_cpy f (mi vb) 0 l.length l2.length)) 272 3 (nI (l.length + l2.length))) mr vb (l ++ l2) c := by
  obtain ⟨s1, s2, s3, s4, s5, s6, s7, s8, s9, s10⟩ := id h
  have ne : vb ≠ 272 := by omega
  have e0 : ∀ i, rx_u (va_up mi vb (va_cpy f (mi vb) 0 l.length l2.length)) 272 3 (nI (l.length + l2.length)) vb i = if l.length ≤ i ∧ i < l.length + l2.length then f (0 + (i - l.length)) else mi vb i := fun i => by
    rw [rx_u_r _ _ ne]
    simp [va_up, va_cpy]
  refine ⟨s1, s2, s3, s4, ?_, ?_, ?_, s8, fun i x hx => ?_, fun i hi => ?_⟩
  · rw [rx_u_k _ _ (by decide), va_up_ne _ _ (Ne.symm ne)]; exact s5
  · rw [rx_u_same, List.length_append]
  · rw [List.length_append]; exact hc
  · rw [e0]
    by_cases q : i < l.length
    · rw [List.getElem?_append_left q] at hx
      rw [if_neg (by omega)]
      exact s9 i x hx
    · rw [List.getElem?_append_right (by omega)] at hx
      have hi := (List.getElem?_eq_some_iff.mp hx).1
      rw [if_pos (by omega), Nat.zero_add]
      exact (hf _ x hx).1
  · rw [e0]
    by_cases q : l.length ≤ i ∧ i < l.length + l2.length
    · rw [if_pos q, Nat.zero_add]
      have hi : i - l.length < l2.length := by omega
      have z := hf (i - l.length) _ (List.getElem?_eq_getElem hi)
      rw [z.1]
      exact z.2
    · rw [if_neg q]
      exact s10 i hi
theorem asc_nar {x : Int32} (h : asc x) : vp_nar .byte x.toInt8.toInt32 = x := by
  have z := (ch_nar h).2.2
  rw [z]
  show x.toInt8.toInt32 = x
  exact z
theorem jl_canEncode (σ : rx_S) (h : asc u) : rx_Calls y_S1_canEncode M_S1_canEncode 0 0 0 [.int u] σ (fun v τ => v = some (.int 1) ∧ τ = σ) := by
  refine rx_enter (by decide +kernel) rfl rfl (Nat.le_of_ble_eq_true rfl) ?_
  refine ru_iload_n d_S1_canEncode_0 rfl rfl ?_
  refine ru_sipush (v := 255) d_S1_canEncode_1 (by decide) ?_
  refine ru_icmp_gt (tgt := 11) d_S1_canEncode_4 (by decide) (fun h4 => absurd h4 (by rw [il, i_255]; have := h.2; omega)) (fun h4 => ?_)
  refine ru_iconst (v := 1) d_S1_canEncode_7 (by decide) ?_
  refine ru_goto (tgt := 12) d_S1_canEncode_8 (by decide) ?_
  refine ru_zret (ty := .boolean) d_S1_canEncode_12 rfl rfl ?_
  exact ⟨rfl, rfl⟩
theorem up_one {v : Int32} {r k : Nat} : rx_u mi r k v = va_up mi r (va_cpy (fun _ => v) (mi r) 0 k 1) := by
  unfold rx_u
  congr 1
  funext i
  by_cases q : i = k
  · subst q
    simp [va_up, va_cpy]
  · simp only [va_up, va_cpy, q, if_false]
    rw [if_neg (by omega)]
theorem jl_appendC (hL : LAY nx ct mr) (h : SbI nx ct mi mr vb l c) (hu : asc u) (hm3 : cp c (l.length + 1) ≤ 200000) : rx_Calls y_AB_append_C M_AB_append_C 4 (cp c (l.length + 1) - c) (2 * (cp c (l.length + 1) - c)) [.ref 272, .int u] (nx, ct, mi, ml, mr) (sbP (some (.ref 272)) nx ct mi ml mr (l ++ [u]) (cp c (l.length + 1))) := by
  refine rx_enter (by decide +kernel) rfl rfl (Nat.le_of_ble_eq_true rfl) ?_
  have hc := h.2.2.2.2.2.2.2.1
  have hl := h.2.2.2.2.2.2.1
  refine ru_aload_n d_AB_append_C_0 rfl rfl ?_
  refine ru_aload_n d_AB_append_C_1 rfl rfl ?_
  refine ru_getI d_AB_append_C_2 lf_AB_79 (ly hL 272 10 0) rfl ?_
  refine ru_eqi h.2.2.2.2.2.1 ?_
  refine ru_iconst (v := 1) d_AB_append_C_5 (by decide) ?_
  refine ru_iadd d_AB_append_C_6 ?_
  refine ru_eqi (nm_add l.length 1 : _ = nI (l.length + 1)) ?_
  refine ru_callU (mc := 0) (ms := 0) d_AB_append_C_7 lm_AB_100 (jl_ensure hL h (by omega) hm3) (rx_recv_is (ly hL 272 10 0) kx_SB) (by decide) rfl (Nat.le_of_ble_eq_true rfl) ?_
  rintro v τ ⟨rfl, nx1, ct1, m1, l1, r1, vb1, rfl, f1, hL1, s1⟩
  have g1 := cp_ge c (l.length + 1)
  have lt1 := s1.lt hL1
  skip
  refine ru_aload_n d_AB_append_C_10 rfl rfl ?_
  refine ru_callU (mc := 0) (ms := 0) d_AB_append_C_11 lm_AB_83 (jl_sbLatin1 hL1 s1.2.2.2.2.1) (rx_recv_is (ly hL1 272 10 0) kx_SB) (by decide) rfl (Nat.le_of_ble_eq_true rfl) ?_
  rintro v τ ⟨rfl, rfl⟩
  refine ru_if_eq (tgt := 45) d_AB_append_C_14 (by decide) (fun h14 => absurd h14 (by decide)) (fun h14 => ?_)
  refine ru_iload_n d_AB_append_C_17 rfl rfl ?_
  refine ru_callS (mc := 0) (ms := 0) d_AB_append_C_18 lm_AB_191 (jl_canEncode _ hu) (by decide) rfl (Nat.le_of_ble_eq_true rfl) ?_
  rintro v τ ⟨rfl, rfl⟩
  refine ru_if_eq (tgt := 45) d_AB_append_C_21 (by decide) (fun h21 => absurd h21 (by decide)) (fun h21 => ?_)
  refine ru_aload_n d_AB_append_C_24 rfl rfl ?_
  refine ru_getR d_AB_append_C_25 lf_AB_15 (ly hL1 272 10 0) rfl s1.1 ?_
  refine ru_aload_n d_AB_append_C_28 rfl rfl ?_
  refine ru_dup d_AB_append_C_29 rfl ?_
  refine ru_getI d_AB_append_C_30 lf_AB_79 (ly hL1 272 10 0) rfl ?_
  refine ru_eqi s1.2.2.2.2.2.1 ?_
  refine ru_dup_x1 d_AB_append_C_33 rfl rfl ?_
  refine ru_iconst (v := 1) d_AB_append_C_34 (by decide) ?_
  refine ru_iadd d_AB_append_C_35 ?_
  refine ru_eqi (nm_add l.length 1 : _ = nI (l.length + 1)) ?_
  refine ru_putI d_AB_append_C_36 lf_AB_79 (ly hL1 272 10 0) rfl (fun q hq => by cases hq; exact Or.inl rfl) ⟨rfl, rfl⟩ ?_
  refine ru_iload_n d_AB_append_C_39 rfl rfl ?_
  refine ru_i2b d_AB_append_C_40 ?_
  refine ru_bastN (j := l.length) d_AB_append_C_41 s1.is (by omega) (by omega) ?_
  rw [asc_nar hu]
  skip
  have s2 := s1.put (f := fun _ => u) (l2 := [u]) hL1 (by show l.length + 1 ≤ _; omega) (fun i x hx => by cases i with | zero => cases hx; exact ⟨rfl, hu⟩ | succ i => cases hx)
  have ne : vb1 ≠ 272 := by have := s1.2.1; omega
  have em : rx_u (rx_u m1 272 3 (nI (l.length + 1))) vb1 l.length u = rx_u (va_up m1 vb1 (va_cpy (fun _ => u) (m1 vb1) 0 l.length [u].length)) 272 3 (nI (l.length + [u].length)) := by
    show _ = rx_u (va_up m1 vb1 (va_cpy (fun _ => u) (m1 vb1) 0 l.length 1)) 272 3 (nI (l.length + 1))
    rw [← up_one, rx_u_c _ _ _ (Ne.symm ne)]
  rw [em]
  refine ru_goto (tgt := 75) d_AB_append_C_42 (by decide) ?_
  refine ru_aload_n d_AB_append_C_75 rfl rfl ?_
  refine ru_aret d_AB_append_C_76 rfl (Or.inl ⟨_, rfl⟩) ?_
  refine ⟨rfl, _, _, _, _, _, vb1, rfl, f1.trans ⟨Nat.le_refl _, fun x hx => ⟨rfl, fun a b => ⟨?_, rfl, rfl⟩⟩⟩, hL1, s2⟩
  have nv : x ≠ vb1 := by have := s1.2.1; omega
  rw [rx_u_r _ _ a, va_up_ne _ _ nv]
theorem js_appendC (hL : LAY nx ct mr) (h : SbI nx ct mi mr vb l c) (hu : asc u) (hm3 : cp c (l.length + 1) ≤ 200000) : rx_Calls y_SB_append_C M_SB_append_C 5 (cp c (l.length + 1) - c) (2 * (cp c (l.length + 1) - c)) [.ref 272, .int u] (nx, ct, mi, ml, mr) (sbP (some (.ref 272)) nx ct mi ml mr (l ++ [u]) (cp c (l.length + 1))) := by
  refine rx_enter (by decide +kernel) rfl rfl (Nat.le_of_ble_eq_true rfl) ?_
  refine ru_aload_n d_SB_append_C_0 rfl rfl ?_
  refine ru_iload_n d_SB_append_C_1 rfl rfl ?_
  refine ru_callSU (mc := 0) (ms := 0) d_SB_append_C_2 lm_SB_50 (jl_appendC hL h hu hm3) (ly hL 272 10 0) kx_SB (by decide) rfl (Nat.le_of_ble_eq_true rfl) ?_
  rintro v τ ⟨rfl, h2⟩
  refine ru_pop d_SB_append_C_5 rfl ?_
  refine ru_aload_n d_SB_append_C_6 rfl rfl ?_
  refine ru_aret d_SB_append_C_7 rfl (Or.inl ⟨_, rfl⟩) ?_
  exact ⟨rfl, h2⟩
end
