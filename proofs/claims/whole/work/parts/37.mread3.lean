/-! The reference reads: all sentences -/
theorem d_Mo_read_0 : decode M_Mo_read.2.1 0 = .ok (.aload_n 0, 1) := by decide +kernel
theorem d_Mo_read_1 : decode M_Mo_read.2.1 1 = .ok (.iconst 0, 1) := by decide +kernel
theorem d_Mo_read_2 : decode M_Mo_read.2.1 2 = .ok (.putfield 39, 3) := by decide +kernel
theorem d_Mo_read_5 : decode M_Mo_read.2.1 5 = .ok (.aload_n 0, 1) := by decide +kernel
theorem d_Mo_read_6 : decode M_Mo_read.2.1 6 = .ok (.invokevirtual 183, 3) := by decide +kernel
theorem d_Mo_read_9 : decode M_Mo_read.2.1 9 = .ok (.aload_n 0, 1) := by decide +kernel
theorem d_Mo_read_10 : decode M_Mo_read.2.1 10 = .ok (.iconst 0, 1) := by decide +kernel
theorem d_Mo_read_11 : decode M_Mo_read.2.1 11 = .ok (.putfield 59, 3) := by decide +kernel
theorem d_Mo_read_14 : decode M_Mo_read.2.1 14 = .ok (.aload_n 0, 1) := by decide +kernel
theorem d_Mo_read_15 : decode M_Mo_read.2.1 15 = .ok (.iconst (-1), 1) := by decide +kernel
theorem d_Mo_read_16 : decode M_Mo_read.2.1 16 = .ok (.putfield 72, 3) := by decide +kernel
theorem d_Mo_read_19 : decode M_Mo_read.2.1 19 = .ok (.iconst 0, 1) := by decide +kernel
theorem d_Mo_read_20 : decode M_Mo_read.2.1 20 = .ok (.istore_n 1, 1) := by decide +kernel
theorem d_Mo_read_21 : decode M_Mo_read.2.1 21 = .ok (.aload_n 0, 1) := by decide +kernel
theorem d_Mo_read_22 : decode M_Mo_read.2.1 22 = .ok (.invokevirtual 75, 3) := by decide +kernel
theorem d_Mo_read_25 : decode M_Mo_read.2.1 25 = .ok (.ifCond .eq 52, 3) := by decide +kernel
theorem d_Mo_read_28 : decode M_Mo_read.2.1 28 = .ok (.aload_n 0, 1) := by decide +kernel
theorem d_Mo_read_29 : decode M_Mo_read.2.1 29 = .ok (.getfield 59, 3) := by decide +kernel
theorem d_Mo_read_32 : decode M_Mo_read.2.1 32 = .ok (.aload_n 0, 1) := by decide +kernel
theorem d_Mo_read_33 : decode M_Mo_read.2.1 33 = .ok (.getfield 53, 3) := by decide +kernel
theorem d_Mo_read_36 : decode M_Mo_read.2.1 36 = .ok (.if_icmp .ge 41, 3) := by decide +kernel
theorem d_Mo_read_39 : decode M_Mo_read.2.1 39 = .ok (.iload_n 1, 1) := by decide +kernel
theorem d_Mo_read_40 : decode M_Mo_read.2.1 40 = .ok (.bipush 60, 2) := by decide +kernel
theorem d_Mo_read_42 : decode M_Mo_read.2.1 42 = .ok (.if_icmp .ne 14, 3) := by decide +kernel
theorem d_Mo_read_45 : decode M_Mo_read.2.1 45 = .ok (.aload_n 0, 1) := by decide +kernel
theorem d_Mo_read_46 : decode M_Mo_read.2.1 46 = .ok (.aload_n 0, 1) := by decide +kernel
theorem d_Mo_read_47 : decode M_Mo_read.2.1 47 = .ok (.getfield 59, 3) := by decide +kernel
theorem d_Mo_read_50 : decode M_Mo_read.2.1 50 = .ok (.invokevirtual 87, 3) := by decide +kernel
theorem d_Mo_read_53 : decode M_Mo_read.2.1 53 = .ok (.goto (-32), 3) := by decide +kernel
theorem d_Mo_read_56 : decode M_Mo_read.2.1 56 = .ok (.aload_n 0, 1) := by decide +kernel
theorem d_Mo_read_57 : decode M_Mo_read.2.1 57 = .ok (.bipush 12, 2) := by decide +kernel
theorem d_Mo_read_59 : decode M_Mo_read.2.1 59 = .ok (.bipush 60, 2) := by decide +kernel
theorem d_Mo_read_61 : decode M_Mo_read.2.1 61 = .ok (.iload_n 1, 1) := by decide +kernel
theorem d_Mo_read_62 : decode M_Mo_read.2.1 62 = .ok (.iadd, 1) := by decide +kernel
theorem d_Mo_read_63 : decode M_Mo_read.2.1 63 = .ok (.imul, 1) := by decide +kernel
theorem d_Mo_read_64 : decode M_Mo_read.2.1 64 = .ok (.putfield 101, 3) := by decide +kernel
theorem d_Mo_read_67 : decode M_Mo_read.2.1 67 = .ok (.aload_n 0, 1) := by decide +kernel
theorem d_Mo_read_68 : decode M_Mo_read.2.1 68 = .ok (.invokevirtual 186, 3) := by decide +kernel
theorem d_Mo_read_71 : decode M_Mo_read.2.1 71 = .ok (.iinc 1 1, 3) := by decide +kernel
theorem d_Mo_read_74 : decode M_Mo_read.2.1 74 = .ok (.goto (-53), 3) := by decide +kernel
theorem d_Mo_read_77 : decode M_Mo_read.2.1 77 = .ok (.aload_n 0, 1) := by decide +kernel
theorem d_Mo_read_78 : decode M_Mo_read.2.1 78 = .ok (.invokevirtual 75, 3) := by decide +kernel
theorem d_Mo_read_81 : decode M_Mo_read.2.1 81 = .ok (.ifCond .ne 28, 3) := by decide +kernel
theorem d_Mo_read_84 : decode M_Mo_read.2.1 84 = .ok (.iconst (-1), 1) := by decide +kernel
theorem d_Mo_read_85 : decode M_Mo_read.2.1 85 = .ok (.aload_n 0, 1) := by decide +kernel
theorem d_Mo_read_86 : decode M_Mo_read.2.1 86 = .ok (.getfield 72, 3) := by decide +kernel
theorem d_Mo_read_89 : decode M_Mo_read.2.1 89 = .ok (.aload_n 0, 1) := by decide +kernel
theorem d_Mo_read_90 : decode M_Mo_read.2.1 90 = .ok (.getfield 53, 3) := by decide +kernel
theorem d_Mo_read_93 : decode M_Mo_read.2.1 93 = .ok (.if_icmp .ge 10, 3) := by decide +kernel
theorem d_Mo_read_96 : decode M_Mo_read.2.1 96 = .ok (.aload_n 0, 1) := by decide +kernel
theorem d_Mo_read_97 : decode M_Mo_read.2.1 97 = .ok (.getfield 72, 3) := by decide +kernel
theorem d_Mo_read_100 : decode M_Mo_read.2.1 100 = .ok (.goto 7, 3) := by decide +kernel
theorem d_Mo_read_103 : decode M_Mo_read.2.1 103 = .ok (.aload_n 0, 1) := by decide +kernel
theorem d_Mo_read_104 : decode M_Mo_read.2.1 104 = .ok (.getfield 53, 3) := by decide +kernel
theorem d_Mo_read_107 : decode M_Mo_read.2.1 107 = .ok (.isub, 1) := by decide +kernel
theorem d_Mo_read_108 : decode M_Mo_read.2.1 108 = .ok (.ireturn, 1) := by decide +kernel
theorem d_Mo_read_109 : decode M_Mo_read.2.1 109 = .ok (.iconst 0, 1) := by decide +kernel
theorem d_Mo_read_110 : decode M_Mo_read.2.1 110 = .ok (.istore_n 2, 1) := by decide +kernel
theorem d_Mo_read_111 : decode M_Mo_read.2.1 111 = .ok (.iload_n 2, 1) := by decide +kernel
theorem d_Mo_read_112 : decode M_Mo_read.2.1 112 = .ok (.bipush 12, 2) := by decide +kernel
theorem d_Mo_read_114 : decode M_Mo_read.2.1 114 = .ok (.iload_n 1, 1) := by decide +kernel
theorem d_Mo_read_115 : decode M_Mo_read.2.1 115 = .ok (.imul, 1) := by decide +kernel
theorem d_Mo_read_116 : decode M_Mo_read.2.1 116 = .ok (.if_icmp .ge 25, 3) := by decide +kernel
theorem d_Mo_read_119 : decode M_Mo_read.2.1 119 = .ok (.aload_n 0, 1) := by decide +kernel
theorem d_Mo_read_120 : decode M_Mo_read.2.1 120 = .ok (.getfield 27, 3) := by decide +kernel
theorem d_Mo_read_123 : decode M_Mo_read.2.1 123 = .ok (.iload_n 2, 1) := by decide +kernel
theorem d_Mo_read_124 : decode M_Mo_read.2.1 124 = .ok (.aload_n 0, 1) := by decide +kernel
theorem d_Mo_read_125 : decode M_Mo_read.2.1 125 = .ok (.getfield 27, 3) := by decide +kernel
theorem d_Mo_read_128 : decode M_Mo_read.2.1 128 = .ok (.sipush 720, 3) := by decide +kernel
theorem d_Mo_read_131 : decode M_Mo_read.2.1 131 = .ok (.iload_n 2, 1) := by decide +kernel
theorem d_Mo_read_132 : decode M_Mo_read.2.1 132 = .ok (.iadd, 1) := by decide +kernel
theorem d_Mo_read_133 : decode M_Mo_read.2.1 133 = .ok (.laload, 1) := by decide +kernel
theorem d_Mo_read_134 : decode M_Mo_read.2.1 134 = .ok (.lastore, 1) := by decide +kernel
theorem d_Mo_read_135 : decode M_Mo_read.2.1 135 = .ok (.iinc 2 1, 3) := by decide +kernel
theorem d_Mo_read_138 : decode M_Mo_read.2.1 138 = .ok (.goto (-27), 3) := by decide +kernel
theorem d_Mo_read_141 : decode M_Mo_read.2.1 141 = .ok (.aload_n 0, 1) := by decide +kernel
theorem d_Mo_read_142 : decode M_Mo_read.2.1 142 = .ok (.iload_n 1, 1) := by decide +kernel
theorem d_Mo_read_143 : decode M_Mo_read.2.1 143 = .ok (.putfield 189, 3) := by decide +kernel
theorem d_Mo_read_146 : decode M_Mo_read.2.1 146 = .ok (.iload_n 1, 1) := by decide +kernel
theorem d_Mo_read_147 : decode M_Mo_read.2.1 147 = .ok (.ireturn, 1) := by decide +kernel
def fM (mi mi' : Nat → Nat → Int32) : Prop := ∀ r, r ≠ 398 → r ≠ 405 → r ≠ 406 → mi' r = mi r
def rdP (res : Nat ⊕ List ruS) (nx : Nat) (ct : Nat → Nat × Nat) (mi : Nat → Nat → Int32) (ml : Nat → Nat → Int64) (mr : Nat → Nat → Option Nat) : Option Value → rx_S → Prop := fun v τ => ∃ mi' ml', τ = (nx, ct, mi', ml', mr) ∧ fM mi mi' ∧ mi' 398 0 = 0 ∧ mi' 398 2 = mi 398 2 ∧ (∀ r, r ≠ 398 → r ≠ 404 → ml' r = ml r) ∧ match res with
  | .inl k => v = some (.int (-1 - nI k)) ∧ mi' 398 7 = mi 398 7 ∧ ∀ i, i < 720 → ml' 404 i = ml 404 i
  | .inr l => v = some (.int (nI l.length)) ∧ mi' 398 7 = nI l.length ∧ l.length ≤ 60 ∧ ∀ i q, l[i]? = some q → rowI ml' (12 * i) q
theorem rowI.copy {ml ml' : Nat → Nat → Int64} {A B : Nat} {q : ruS} (h : rowI ml A q) (hc : ∀ x, x < 12 → ml' 404 (B + x) = ml 404 (A + x)) : rowI ml' B q := by
  obtain ⟨h0, ⟨h1, h2, h3, h4⟩, ⟨h5, h6, h7, h8, h9⟩, h10⟩ := h
  exact ⟨(hc 0 (by omega)).trans h0, ⟨(hc 1 (by omega)).trans h1, (hc 2 (by omega)).trans h2, (hc 3 (by omega)).trans h3, (hc 4 (by omega)).trans h4⟩, ⟨(hc 5 (by omega)).trans h5, (hc 6 (by omega)).trans h6, (hc 7 (by omega)).trans h7, (hc 8 (by omega)).trans h8, (hc 9 (by omega)).trans h9⟩, (hc 10 (by omega)).trans h10⟩
theorem mS_s14 {m0 : Nat → Nat → Int32} {w g x : Int32} : rx_u (mS m0 w g) 398 14 x = mS (rx_u m0 398 14 x) w g := by
  funext r k
  by_cases hr : r = 398
  · subst hr
    by_cases h4 : k = 14
    · subst h4
      rw [rx_u_same, mS_k, rx_u_same]
    · by_cases h2 : k = 12
      · subst h2; rw [rx_u_k _ _ (by decide), mS_w, mS_w]
      · by_cases h3 : k = 13
        · subst h3; rw [rx_u_k _ _ (by decide), mS_g, mS_g]
        · rw [rx_u_k _ _ h4, mS_k h2 h3, mS_k h2 h3, rx_u_k _ _ h4]
  · rw [rx_u_r _ _ hr, mS_r hr, mS_r hr, rx_u_r _ _ hr]
/-- what the reading keeps of the reference's cell -/
def rdB (mi m0 : Nat → Nat → Int32) : Prop := fM mi m0 ∧ m0 398 0 = 0 ∧ m0 398 2 = mi 398 2 ∧ m0 398 7 = mi 398 7
theorem rdB.s14 {mi m0 : Nat → Nat → Int32} (h : rdB mi m0) (x : Int32) : rdB mi (rx_u m0 398 14 x) := ⟨fun r a b c => by rw [rx_u_r _ _ a]; exact h.1 r a b c, by rw [rx_u_k _ _ (by decide)]; exact h.2.1, by rw [rx_u_k _ _ (by decide)]; exact h.2.2.1, by rw [rx_u_k _ _ (by decide)]; exact h.2.2.2⟩
theorem rdB.mS {mi m0 : Nat → Nat → Int32} (h : rdB mi m0) (w g : Int32) : rdB mi (mS m0 w g) := ⟨fun r a b c => by rw [mS_r a]; exact h.1 r a b c, by rw [mS_k]; exact h.2.1, by rw [mS_k]; exact h.2.2.1, by rw [mS_k]; exact h.2.2.2⟩
theorem NmM.s14 {N : nmS} {m0 : Nat → Nat → Int32} (h : NmM N m0) (x : Int32) : NmM N (rx_u m0 398 14 x) := by
  intro k hk
  rw [rx_u_r _ _ (by decide), rx_u_r _ _ (by decide)]
  exact h k hk
section
variable {nx : Nat} {ct : Nat → Nat × Nat} {m0 mi : Nat → Nat → Int32} {ml : Nat → Nat → Int64} {mr : Nat → Nat → Option Nat} {n m : Nat} {t : Nat → Int32}
theorem rd_copy {l : List ruS} {w g : Int32} {mlx : Nat → Nat → Int64} (hL : LAY nx ct mr) (hb : rdB mi m0) (hl : l.length ≤ 60) (hr : ∀ i q, l[i]? = some q → rowI mlx (720 + 12 * i) q) (hf : ∀ r, r ≠ 398 → r ≠ 404 → mlx r = ml r) : ∀ f k (mly : Nat → Nat → Int64), k ≤ 12 * l.length → f = 12 * l.length - k → (∀ x, x < k → mly 404 x = mlx 404 (720 + x)) → (∀ x, 720 ≤ x → mly 404 x = mlx 404 x) → (∀ r, r ≠ 398 → r ≠ 404 → mly r = mlx r) → rx_W M_Mo_read 6 0 0 111 [(0, .ref 398), (1, .int (nI l.length)), (2, .int (nI k))] [] (nx, ct, mS m0 w g, mly, mr) (pR (rdP (.inr l) nx ct mi ml mr)) := by
  intro f
  have hb' := hb.mS w g
  generalize mS m0 w g = mx at hb'
  generalize hc : l.length = c at hl ⊢
  induction f with
  | zero =>
    intro k mly hk hf2 h1 h2 h3
    refine ru_iload_n d_Mo_read_111 rfl rfl ?_
    refine ru_bipush (v := 12) d_Mo_read_112 (by decide) ?_
    refine ru_iload_n d_Mo_read_114 rfl rfl ?_
    refine ru_imul d_Mo_read_115 ?_
    refine ru_eqi (nm_mul 12 c : _ = nI (12 * c)) ?_
    refine ru_icmp_ge (tgt := 141) d_Mo_read_116 (by decide) (fun h116 => ?_) (fun h116 => absurd (nI_le (by omega) (by omega)) h116)
    replace h116 := nm_le (a := (12 * c)) (b := k) (by omega) (by omega) h116
    refine ru_aload_n d_Mo_read_141 rfl rfl ?_
    refine ru_iload_n d_Mo_read_142 rfl rfl ?_
    refine ru_putI d_Mo_read_143 lf_Mo_189 (ly hL 398 9 0) rfl (fun q hq => by cases hq; exact Or.inl rfl) ⟨rfl, rfl⟩ ?_
    refine ru_iload_n d_Mo_read_146 rfl rfl ?_
    refine ru_iret d_Mo_read_147 rfl ?_
    refine ⟨_, _, rfl, fun r a b d => ?_, ?_, ?_, fun r a b => (h3 r a b).trans (hf r a b), ?_⟩
    · rw [rx_u_r _ _ a]; exact hb'.1 r a b d
    · rw [rx_u_k _ _ (by decide)]; exact hb'.2.1
    · rw [rx_u_k _ _ (by decide)]; exact hb'.2.2.1
    · rw [← hc]
      refine ⟨rfl, rx_u_same _ _ _ _, by omega, fun i q hq => (hr i q hq).copy (fun x hx => ?_)⟩
      have hi : i < l.length := (List.getElem?_eq_some_iff.mp hq).1
      rw [h1 _ (by omega)]
      congr 1
      omega
  | succ f ih =>
    intro k mly hk hf2 h1 h2 h3
    refine ru_iload_n d_Mo_read_111 rfl rfl ?_
    refine ru_bipush (v := 12) d_Mo_read_112 (by decide) ?_
    refine ru_iload_n d_Mo_read_114 rfl rfl ?_
    refine ru_imul d_Mo_read_115 ?_
    refine ru_eqi (nm_mul 12 c : _ = nI (12 * c)) ?_
    refine ru_icmp_ge (tgt := 141) d_Mo_read_116 (by decide) (fun h116 => absurd h116 (nI_ge (by omega) (by omega))) (fun h116 => ?_)
    replace h116 := nm_nle (a := (12 * c)) (b := k) (by omega) (by omega) h116
    refine ru_aload_n d_Mo_read_119 rfl rfl ?_
    refine ru_getR d_Mo_read_120 lf_Mo_27 (ly hL 398 9 0) rfl (lr hL 398 8 404) ?_
    refine ru_iload_n d_Mo_read_123 rfl rfl ?_
    refine ru_aload_n d_Mo_read_124 rfl rfl ?_
    refine ru_getR d_Mo_read_125 lf_Mo_27 (ly hL 398 9 0) rfl (lr hL 398 8 404) ?_
    refine ru_sipush (v := 720) d_Mo_read_128 (by decide) ?_
    refine ru_iload_n d_Mo_read_131 rfl rfl ?_
    refine ru_iadd d_Mo_read_132 ?_
    refine ru_eqi (nm_add 720 k : _ = nI (720 + k)) ?_
    refine ru_laldN (j := (720 + k)) d_Mo_read_133 (ly hL 404 104 1440) (by omega) (by decide) ?_
    refine ru_lastN (j := k) d_Mo_read_134 (ly hL 404 104 1440) (by omega) (by decide) ?_
    refine ru_iinc (v := nI (k + 1)) d_Mo_read_135 rfl (nm_inc _ 1) (by decide) ?_
    refine ru_goto (tgt := 111) d_Mo_read_138 (by decide) ?_
    refine ru_to (ih (k + 1) _ (by omega) (by omega) ?_ ?_ ?_) ⟨rfl, rfl, rfl, trivial⟩
    · intro x hx
      by_cases e : x = k
      · subst e; rw [rx_u_same]; exact h2 _ (by omega)
      · rw [rx_u_k _ _ e]; exact h1 x (by omega)
    · intro x hx
      rw [rx_u_k _ _ (by omega)]; exact h2 x hx
    · intro r a b
      rw [rx_u_r _ _ b]; exact h3 r a b
theorem sq_read {N : nmS} (hL : LAY nx ct mr) (hn : mi 398 2 = nI n) (hn2 : n ≤ 3000) (ht : mi 399 = t) (htc : ∀ i, i < n → isTC (t i)) (hN : NmM N mi) : rx_Calls y_Mo_read M_Mo_read 6 0 0 [.ref 398] (nx, ct, mi, ml, mr) (rdP (pAll N n t 60 0) nx ct mi ml mr) := by
  refine rx_enter (by decide) rfl rfl (Nat.le_of_ble_eq_true rfl) ?_
  -- it is wrong
  have bad : ∀ (m0 : Nat → Nat → Int32) (m k : Nat) (w : Int32) (c : Int32) (mlx : Nat → Nat → Int64), rdB mi m0 → m0 398 9 = nI m → m ≤ 3000 → k ≤ m → (∀ r, r ≠ 398 → r ≠ 404 → mlx r = ml r) → (∀ i, i < 720 → mlx 404 i = ml 404 i) → rx_W M_Mo_read 6 0 0 21 [(0, .ref 398), (1, .int c)] [] (nx, ct, mS m0 w (nI k), mlx, mr) (pR (rdP (.inl k) nx ct mi ml mr)) := by
    intro m0 m k w c mlx hb h9 hm hk hf hf2
    have h9' : mS m0 w (nI k) 398 9 = nI m := by rw [mS_k]; exact h9
    have hb' := hb.mS w (nI k)
    refine ru_aload_n d_Mo_read_21 rfl rfl ?_
    refine ru_callV (mc := 0) (ms := 0) d_Mo_read_22 lm_Mo_75 (sq_good hL) (rx_recv_is (ly hL 398 9 0) kx_Mo) (by decide) rfl (Nat.le_of_ble_eq_true rfl) ?_
    intro v τ h
    obtain ⟨rfl, rfl⟩ := h
    refine ru_if_eq (tgt := 77) d_Mo_read_25 (by decide) (fun h25 => ?_) (fun h25 => absurd (bI_f (nI_m1 (by omega))) h25)
    refine ru_aload_n d_Mo_read_77 rfl rfl ?_
    refine ru_callV (mc := 0) (ms := 0) d_Mo_read_78 lm_Mo_75 (sq_good hL) (rx_recv_is (ly hL 398 9 0) kx_Mo) (by decide) rfl (Nat.le_of_ble_eq_true rfl) ?_
    intro v τ h
    obtain ⟨rfl, rfl⟩ := h
    refine ru_if_ne (tgt := 109) d_Mo_read_81 (by decide) (fun h81 => absurd (bI_f (nI_m1 (by omega))) h81) (fun h81 => ?_)
    refine ru_iconst (v := (-1)) d_Mo_read_84 (by decide) ?_
    refine ru_aload_n d_Mo_read_85 rfl rfl ?_
    refine ru_getI d_Mo_read_86 lf_Mo_72 (ly hL 398 9 0) rfl ?_
    refine ru_eqi mS_g ?_
    refine ru_aload_n d_Mo_read_89 rfl rfl ?_
    refine ru_getI d_Mo_read_90 lf_Mo_53 (ly hL 398 9 0) rfl ?_
    refine ru_eqi h9' ?_
    refine ru_icmp_ge (tgt := 103) d_Mo_read_93 (by decide) (fun h93 => ?_) (fun h93 => ?_)
    · skip
      replace h93 := nm_le (a := m) (b := k) (by omega) (by omega) h93
      refine ru_aload_n d_Mo_read_103 rfl rfl ?_
      refine ru_getI d_Mo_read_104 lf_Mo_53 (ly hL 398 9 0) rfl ?_
      refine ru_eqi h9' ?_
      refine ru_isub d_Mo_read_107 ?_
      refine ru_iret d_Mo_read_108 rfl ?_
      refine ⟨_, _, rfl, hb'.1, hb'.2.1, hb'.2.2.1, hf, ?_, hb'.2.2.2, hf2⟩
      first | (have z : k = m := (by omega); rw [z]) | rfl
    · skip
      replace h93 := nm_nle (a := m) (b := k) (by omega) (by omega) h93
      refine ru_aload_n d_Mo_read_96 rfl rfl ?_
      refine ru_getI d_Mo_read_97 lf_Mo_72 (ly hL 398 9 0) rfl ?_
      refine ru_eqi mS_g ?_
      refine ru_goto (tgt := 107) d_Mo_read_100 (by decide) ?_
      refine ru_isub d_Mo_read_107 ?_
      refine ru_iret d_Mo_read_108 rfl ?_
      refine ⟨_, _, rfl, hb'.1, hb'.2.1, hb'.2.2.1, hf, ?_, hb'.2.2.2, hf2⟩
      first | (have z : k = m := (by omega); rw [z]) | rfl
  have loop : ∀ (m : Nat) f c j (l0 : List ruS) (m0 : Nat → Nat → Int32) (mlx : Nat → Nat → Int64), rdB mi m0 → PMs n m t m0 → NmM N m0 → c + f = 60 → l0.length = c → j ≤ m → (∀ r, r ≠ 398 → r ≠ 404 → mlx r = ml r) → (∀ i, i < 720 → mlx 404 i = ml 404 i) → (∀ i q, l0[i]? = some q → rowI mlx (720 + 12 * i) q) → rx_W M_Mo_read 6 0 0 21 [(0, .ref 398), (1, .int (nI c))] [] (nx, ct, mS m0 (nI j) (-1), mlx, mr) (pR (rdP (match pAll N n t f j with | .inl k => .inl k | .inr l => .inr (l0 ++ l)) nx ct mi ml mr)) := by
    intro m f
    induction f with
    | zero =>
      intro c j l0 m0 mlx hb hP hNm hcf hl hj hf hf2 hr
      have hc60 : c = 60 := by omega
      subst hc60
      have hmn := hP.2.2.2.2.2.1
      have h9' : mS m0 (nI j) (-1) 398 9 = nI m := by rw [mS_k]; exact hP.2.2.2.2.1
      unfold pAll
      by_cases hjm : j < m
      · have htl : ¬ tlen n t j = 0 := by have := (hP.2.2.2.2.2.2.1 j hjm).2.2; unfold tlen; omega
        rw [if_neg htl]
        refine ru_aload_n d_Mo_read_21 rfl rfl ?_
        refine ru_callV (mc := 0) (ms := 0) d_Mo_read_22 lm_Mo_75 (sq_good hL) (rx_recv_is (ly hL 398 9 0) kx_Mo) (by decide) rfl (Nat.le_of_ble_eq_true rfl) ?_
        intro v τ h
        obtain ⟨rfl, rfl⟩ := h
        refine ru_if_eq (tgt := 77) d_Mo_read_25 (by decide) (fun h25 => absurd h25 (bI_ne0.mpr rfl)) (fun h25 => ?_)
        refine ru_aload_n d_Mo_read_28 rfl rfl ?_
        refine ru_getI d_Mo_read_29 lf_Mo_59 (ly hL 398 9 0) rfl ?_
        refine ru_eqi mS_w ?_
        refine ru_aload_n d_Mo_read_32 rfl rfl ?_
        refine ru_getI d_Mo_read_33 lf_Mo_53 (ly hL 398 9 0) rfl ?_
        refine ru_eqi h9' ?_
        refine ru_icmp_ge (tgt := 77) d_Mo_read_36 (by decide) (fun h36 => absurd h36 (nI_ge (by omega) (by omega))) (fun h36 => ?_)
        replace h36 := nm_nle (a := m) (b := j) (by omega) (by omega) h36
        refine ru_iload_n d_Mo_read_39 rfl rfl ?_
        refine ru_bipush (v := 60) d_Mo_read_40 (by decide) ?_
        refine ru_icmp_ne (tgt := 56) d_Mo_read_42 (by decide) (fun h42 => absurd h42 (by decide)) (fun h42 => ?_)
        refine ru_aload_n d_Mo_read_45 rfl rfl ?_
        refine ru_aload_n d_Mo_read_46 rfl rfl ?_
        refine ru_getI d_Mo_read_47 lf_Mo_59 (ly hL 398 9 0) rfl ?_
        refine ru_eqi mS_w ?_
        refine ru_callV (mc := 0) (ms := 0) d_Mo_read_50 lm_Mo_87 (sq_fail hL _) (rx_recv_is (ly hL 398 9 0) kx_Mo) (by decide) rfl (Nat.le_of_ble_eq_true rfl) ?_
        intro v τ h
        obtain ⟨rfl, rfl⟩ := h
        refine ru_goto (tgt := 21) d_Mo_read_53 (by decide) ?_
        exact ru_to (bad m0 m j (nI j) _ mlx hb hP.2.2.2.2.1 (by omega) (by omega) hf hf2) ⟨rfl, rfl, trivial⟩
      · have htl : tlen n t j = 0 := by unfold tlen; rw [tk_end hP.2.2.2.2.2.2.2 j (by omega)]; exact Nat.sub_self _
        rw [if_pos htl]
        refine ru_aload_n d_Mo_read_21 rfl rfl ?_
        refine ru_callV (mc := 0) (ms := 0) d_Mo_read_22 lm_Mo_75 (sq_good hL) (rx_recv_is (ly hL 398 9 0) kx_Mo) (by decide) rfl (Nat.le_of_ble_eq_true rfl) ?_
        intro v τ h
        obtain ⟨rfl, rfl⟩ := h
        refine ru_if_eq (tgt := 77) d_Mo_read_25 (by decide) (fun h25 => absurd h25 (bI_ne0.mpr rfl)) (fun h25 => ?_)
        refine ru_aload_n d_Mo_read_28 rfl rfl ?_
        refine ru_getI d_Mo_read_29 lf_Mo_59 (ly hL 398 9 0) rfl ?_
        refine ru_eqi mS_w ?_
        refine ru_aload_n d_Mo_read_32 rfl rfl ?_
        refine ru_getI d_Mo_read_33 lf_Mo_53 (ly hL 398 9 0) rfl ?_
        refine ru_eqi h9' ?_
        refine ru_icmp_ge (tgt := 77) d_Mo_read_36 (by decide) (fun h36 => ?_) (fun h36 => absurd (nI_le (by omega) (by omega)) h36)
        replace h36 := nm_le (a := m) (b := j) (by omega) (by omega) h36
        refine ru_aload_n d_Mo_read_77 rfl rfl ?_
        refine ru_callV (mc := 0) (ms := 0) d_Mo_read_78 lm_Mo_75 (sq_good hL) (rx_recv_is (ly hL 398 9 0) kx_Mo) (by decide) rfl (Nat.le_of_ble_eq_true rfl) ?_
        intro v τ h
        obtain ⟨rfl, rfl⟩ := h
        refine ru_if_ne (tgt := 109) d_Mo_read_81 (by decide) (fun h81 => ?_) (fun h81 => absurd h81 (bI_ne0.mpr rfl))
        refine ru_iconst (v := 0) d_Mo_read_109 (by decide) ?_
        refine ru_istore_n d_Mo_read_110 rfl (by decide) ?_
        dsimp only
        rw [List.append_nil]
        exact ru_to (rd_copy hL hb (by omega) hr hf _ 0 mlx (by omega) rfl (fun x hx => by omega) (fun _ _ => rfl) (fun _ _ _ => rfl)) ⟨rfl, by rw [hl]; rfl, rfl, trivial⟩
    | succ f ih =>
      intro c j l0 m0 mlx hb hP hNm hcf hl hj hf hf2 hr
      have hmn := hP.2.2.2.2.2.1
      have h9' : mS m0 (nI j) (-1) 398 9 = nI m := by rw [mS_k]; exact hP.2.2.2.2.1
      unfold pAll
      by_cases hjm : j < m
      · have htl : ¬ tlen n t j = 0 := by have := (hP.2.2.2.2.2.2.1 j hjm).2.2; unfold tlen; omega
        rw [if_neg htl]
        have hP2 := hP.upd (k := 14) (nI (12 * (60 + c))) (by decide) (by decide)
        have hS := sq_sentence (ml := mlx) (A := 12 * (60 + c)) (j := j) hL hP2 (hNm.s14 _) (rx_u_same _ _ _ _) (by omega) hjm
        have hin := pSent_in (N := N) hP.2.2.2.2.2.2.2 hj
        unfold snP at hS
        cases e : pSent N n t j with
        | inl k =>
          rw [e] at hS hin
          refine ru_aload_n d_Mo_read_21 rfl rfl ?_
          refine ru_callV (mc := 0) (ms := 0) d_Mo_read_22 lm_Mo_75 (sq_good hL) (rx_recv_is (ly hL 398 9 0) kx_Mo) (by decide) rfl (Nat.le_of_ble_eq_true rfl) ?_
          intro v τ h
          obtain ⟨rfl, rfl⟩ := h
          refine ru_if_eq (tgt := 77) d_Mo_read_25 (by decide) (fun h25 => absurd h25 (bI_ne0.mpr rfl)) (fun h25 => ?_)
          refine ru_aload_n d_Mo_read_28 rfl rfl ?_
          refine ru_getI d_Mo_read_29 lf_Mo_59 (ly hL 398 9 0) rfl ?_
          refine ru_eqi mS_w ?_
          refine ru_aload_n d_Mo_read_32 rfl rfl ?_
          refine ru_getI d_Mo_read_33 lf_Mo_53 (ly hL 398 9 0) rfl ?_
          refine ru_eqi h9' ?_
          refine ru_icmp_ge (tgt := 77) d_Mo_read_36 (by decide) (fun h36 => absurd h36 (nI_ge (by omega) (by omega))) (fun h36 => ?_)
          replace h36 := nm_nle (a := m) (b := j) (by omega) (by omega) h36
          refine ru_iload_n d_Mo_read_39 rfl rfl ?_
          refine ru_bipush (v := 60) d_Mo_read_40 (by decide) ?_
          refine ru_icmp_ne (tgt := 56) d_Mo_read_42 (by decide) (fun h42 => ?_) (fun h42 => absurd (nm_eq (a := c) (b := 60) (by omega) (by omega) h42) (by omega))
          replace h42 := nm_ne (a := c) (b := 60) (by omega) (by omega) h42
          refine ru_aload_n d_Mo_read_56 rfl rfl ?_
          refine ru_bipush (v := 12) d_Mo_read_57 (by decide) ?_
          refine ru_bipush (v := 60) d_Mo_read_59 (by decide) ?_
          refine ru_iload_n d_Mo_read_61 rfl rfl ?_
          refine ru_iadd d_Mo_read_62 ?_
          refine ru_eqi (nm_add 60 c : _ = nI (60 + c)) ?_
          refine ru_imul d_Mo_read_63 ?_
          refine ru_eqi (nm_mul 12 (60 + c) : _ = nI (12 * (60 + c))) ?_
          refine ru_putI d_Mo_read_64 lf_Mo_101 (ly hL 398 9 0) rfl (fun q hq => by cases hq; exact Or.inl rfl) ⟨rfl, rfl⟩ ?_
          rw [mS_s14]
          refine ru_aload_n d_Mo_read_67 rfl rfl ?_
          refine ru_callV (mc := 0) (ms := 0) d_Mo_read_68 lm_Mo_186 hS (rx_recv_is (ly hL 398 9 0) kx_Mo) (by decide) rfl (Nat.le_of_ble_eq_true rfl) ?_
          rintro v τ ⟨rfl, ml2, w, rfl, hw, hfl⟩
          refine ru_iinc (v := nI (c + 1)) d_Mo_read_71 rfl (nm_inc _ 1) (by decide) ?_
          refine ru_goto (tgt := 21) d_Mo_read_74 (by decide) ?_
          exact ru_to (bad _ m k (nI w) _ ml2 (hb.s14 _) hP2.2.2.2.2.1 (by omega) hin (fun r a b => (hfl.1 r a b).trans (hf r a b)) (fun i hi => (hfl.2 i (by omega)).trans (hf2 i hi))) ⟨rfl, rfl, trivial⟩
        | inr q =>
          obtain ⟨q, j'⟩ := q
          rw [e] at hS hin
          have hin' : j' ≤ m := hin
          have E := fun ml2 (hfl : fL (vRow (12 * (60 + c))) mlx ml2) (hrw : rowI ml2 (12 * (60 + c)) q) => ih (c + 1) j' (l0 ++ [q]) (rx_u m0 398 14 (nI (12 * (60 + c)))) ml2 (hb.s14 _) hP2 (hNm.s14 _) (by omega) (by rw [List.length_append, hl]; rfl) hin' (fun r a b => (hfl.1 r a b).trans (hf r a b)) (fun i hi => (hfl.2 i (by omega)).trans (hf2 i hi)) (by
            intro i x hx
            by_cases hi : i < l0.length
            · rw [List.getElem?_append_left hi] at hx
              exact (hr i x hx).copy (fun y hy => hfl.2 _ (by omega))
            · have hi2 : i = l0.length := by
                have := (List.getElem?_eq_some_iff.mp hx).1
                rw [List.length_append] at this
                have e1 : ([q] : List ruS).length = 1 := rfl
                omega
              subst hi2
              rw [List.getElem?_append_right (Nat.le_refl _), Nat.sub_self] at hx
              cases hx
              rw [hl, show 720 + 12 * c = 12 * (60 + c) by omega]
              exact hrw)
          dsimp only
          refine ru_aload_n d_Mo_read_21 rfl rfl ?_
          refine ru_callV (mc := 0) (ms := 0) d_Mo_read_22 lm_Mo_75 (sq_good hL) (rx_recv_is (ly hL 398 9 0) kx_Mo) (by decide) rfl (Nat.le_of_ble_eq_true rfl) ?_
          intro v τ h
          obtain ⟨rfl, rfl⟩ := h
          refine ru_if_eq (tgt := 77) d_Mo_read_25 (by decide) (fun h25 => absurd h25 (bI_ne0.mpr rfl)) (fun h25 => ?_)
          refine ru_aload_n d_Mo_read_28 rfl rfl ?_
          refine ru_getI d_Mo_read_29 lf_Mo_59 (ly hL 398 9 0) rfl ?_
          refine ru_eqi mS_w ?_
          refine ru_aload_n d_Mo_read_32 rfl rfl ?_
          refine ru_getI d_Mo_read_33 lf_Mo_53 (ly hL 398 9 0) rfl ?_
          refine ru_eqi h9' ?_
          refine ru_icmp_ge (tgt := 77) d_Mo_read_36 (by decide) (fun h36 => absurd h36 (nI_ge (by omega) (by omega))) (fun h36 => ?_)
          replace h36 := nm_nle (a := m) (b := j) (by omega) (by omega) h36
          refine ru_iload_n d_Mo_read_39 rfl rfl ?_
          refine ru_bipush (v := 60) d_Mo_read_40 (by decide) ?_
          refine ru_icmp_ne (tgt := 56) d_Mo_read_42 (by decide) (fun h42 => ?_) (fun h42 => absurd (nm_eq (a := c) (b := 60) (by omega) (by omega) h42) (by omega))
          replace h42 := nm_ne (a := c) (b := 60) (by omega) (by omega) h42
          refine ru_aload_n d_Mo_read_56 rfl rfl ?_
          refine ru_bipush (v := 12) d_Mo_read_57 (by decide) ?_
          refine ru_bipush (v := 60) d_Mo_read_59 (by decide) ?_
          refine ru_iload_n d_Mo_read_61 rfl rfl ?_
          refine ru_iadd d_Mo_read_62 ?_
          refine ru_eqi (nm_add 60 c : _ = nI (60 + c)) ?_
          refine ru_imul d_Mo_read_63 ?_
          refine ru_eqi (nm_mul 12 (60 + c) : _ = nI (12 * (60 + c))) ?_
          refine ru_putI d_Mo_read_64 lf_Mo_101 (ly hL 398 9 0) rfl (fun q hq => by cases hq; exact Or.inl rfl) ⟨rfl, rfl⟩ ?_
          rw [mS_s14]
          refine ru_aload_n d_Mo_read_67 rfl rfl ?_
          refine ru_callV (mc := 0) (ms := 0) d_Mo_read_68 lm_Mo_186 hS (rx_recv_is (ly hL 398 9 0) kx_Mo) (by decide) rfl (Nat.le_of_ble_eq_true rfl) ?_
          rintro v τ ⟨rfl, ml2, rfl, hfl, hrw⟩
          refine ru_iinc (v := nI (c + 1)) d_Mo_read_71 rfl (nm_inc _ 1) (by decide) ?_
          refine ru_goto (tgt := 21) d_Mo_read_74 (by decide) ?_
          have E' := E ml2 hfl hrw
          cases ep : pAll N n t f j' with
          | inl k => rw [ep] at E'; exact ru_to E' ⟨rfl, rfl, trivial⟩
          | inr l => rw [ep] at E'; dsimp only at E' ⊢; rw [List.append_assoc] at E'; exact ru_to E' ⟨rfl, rfl, trivial⟩
      · have htl : tlen n t j = 0 := by unfold tlen; rw [tk_end hP.2.2.2.2.2.2.2 j (by omega)]; exact Nat.sub_self _
        rw [if_pos htl]
        refine ru_aload_n d_Mo_read_21 rfl rfl ?_
        refine ru_callV (mc := 0) (ms := 0) d_Mo_read_22 lm_Mo_75 (sq_good hL) (rx_recv_is (ly hL 398 9 0) kx_Mo) (by decide) rfl (Nat.le_of_ble_eq_true rfl) ?_
        intro v τ h
        obtain ⟨rfl, rfl⟩ := h
        refine ru_if_eq (tgt := 77) d_Mo_read_25 (by decide) (fun h25 => absurd h25 (bI_ne0.mpr rfl)) (fun h25 => ?_)
        refine ru_aload_n d_Mo_read_28 rfl rfl ?_
        refine ru_getI d_Mo_read_29 lf_Mo_59 (ly hL 398 9 0) rfl ?_
        refine ru_eqi mS_w ?_
        refine ru_aload_n d_Mo_read_32 rfl rfl ?_
        refine ru_getI d_Mo_read_33 lf_Mo_53 (ly hL 398 9 0) rfl ?_
        refine ru_eqi h9' ?_
        refine ru_icmp_ge (tgt := 77) d_Mo_read_36 (by decide) (fun h36 => ?_) (fun h36 => absurd (nI_le (by omega) (by omega)) h36)
        replace h36 := nm_le (a := m) (b := j) (by omega) (by omega) h36
        refine ru_aload_n d_Mo_read_77 rfl rfl ?_
        refine ru_callV (mc := 0) (ms := 0) d_Mo_read_78 lm_Mo_75 (sq_good hL) (rx_recv_is (ly hL 398 9 0) kx_Mo) (by decide) rfl (Nat.le_of_ble_eq_true rfl) ?_
        intro v τ h
        obtain ⟨rfl, rfl⟩ := h
        refine ru_if_ne (tgt := 109) d_Mo_read_81 (by decide) (fun h81 => ?_) (fun h81 => absurd h81 (bI_ne0.mpr rfl))
        refine ru_iconst (v := 0) d_Mo_read_109 (by decide) ?_
        refine ru_istore_n d_Mo_read_110 rfl (by decide) ?_
        dsimp only
        rw [List.append_nil]
        exact ru_to (rd_copy hL hb (by omega) hr hf _ 0 mlx (by omega) rfl (fun x hx => by omega) (fun _ _ => rfl) (fun _ _ _ => rfl)) ⟨rfl, by rw [hl]; rfl, rfl, trivial⟩
  have hn' : rx_u mi 398 0 0 398 2 = nI n := by rw [rx_u_k _ _ (by decide)]; exact hn
  have ht' : rx_u mi 398 0 0 399 = t := by rw [rx_u_r _ _ (by decide)]; exact ht
  have hF := sp_Mo_findWords (mi := rx_u mi 398 0 0) (ml := ml) hL hn' hn2 (by rw [ht']; exact htc)
  rw [ht'] at hF
  refine ru_aload_n d_Mo_read_0 rfl rfl ?_
  refine ru_iconst (v := 0) d_Mo_read_1 (by decide) ?_
  refine ru_putI d_Mo_read_2 lf_Mo_39 (ly hL 398 9 0) rfl (fun q hq => by cases hq; exact Or.inl rfl) ⟨rfl, rfl⟩ ?_
  refine ru_aload_n d_Mo_read_5 rfl rfl ?_
  refine ru_callV (mc := 0) (ms := 0) d_Mo_read_6 lm_Mo_183 hF (rx_recv_is (ly hL 398 9 0) kx_Mo) (by decide) rfl (Nat.le_of_ble_eq_true rfl) ?_
  rintro v τ ⟨rfl, m, m1, rfl, I⟩
  refine ru_aload_n d_Mo_read_9 rfl rfl ?_
  refine ru_iconst (v := 0) d_Mo_read_10 (by decide) ?_
  refine ru_putI d_Mo_read_11 lf_Mo_59 (ly hL 398 9 0) rfl (fun q hq => by cases hq; exact Or.inl rfl) ⟨rfl, rfl⟩ ?_
  refine ru_aload_n d_Mo_read_14 rfl rfl ?_
  refine ru_iconst (v := (-1)) d_Mo_read_15 (by decide) ?_
  refine ru_putI d_Mo_read_16 lf_Mo_72 (ly hL 398 9 0) rfl (fun q hq => by cases hq; exact Or.inl rfl) ⟨rfl, rfl⟩ ?_
  refine ru_iconst (v := 0) d_Mo_read_19 (by decide) ?_
  refine ru_istore_n d_Mo_read_20 rfl (by decide) ?_
  have hP : PMs n m t m1 := ⟨(I.2.1 2 (by decide)).trans hn', (I.1 399 (by decide) (by decide) (by decide)).trans ht', hn2, htc, I.2.2.1, I.2.2.2.1, I.2.2.2.2.1, I.2.2.2.2.2.trans tkF_end⟩
  have hNm : NmM N m1 := by intro k hk; rw [I.1 400 (by decide) (by decide) (by decide), I.1 401 (by decide) (by decide) (by decide), rx_u_r _ _ (by decide), rx_u_r _ _ (by decide)]; exact hN k hk
  have hB : rdB mi m1 := ⟨fun r a b c => (I.1 r a b c).trans (rx_u_r _ _ a), (I.2.1 0 (by decide)).trans (rx_u_same _ _ _ _), (I.2.1 2 (by decide)).trans (rx_u_k _ _ (by decide)), (I.2.1 7 (by decide)).trans (rx_u_k _ _ (by decide))⟩
  have E := loop m 60 0 0 [] m1 ml hB hP hNm rfl rfl (by omega) (fun _ _ _ => rfl) (fun _ _ => rfl) (fun i q hq => by cases hq)
  have hres : (match pAll N n t 60 0 with | .inl k => .inl k | .inr l => .inr ([] ++ l) : Nat ⊕ List ruS) = pAll N n t 60 0 := by cases pAll N n t 60 0 <;> rfl
  rw [hres] at E
  exact ru_to E ⟨rfl, rfl, trivial⟩
end
