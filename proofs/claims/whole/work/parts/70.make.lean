/-! The making of all objects -/
theorem d_AB_init_0 : decode M_AB_init.2.1 0 = .ok (.aload_n 0, 1) := by decide +kernel
theorem d_AB_init_1 : decode M_AB_init.2.1 1 = .ok (.invokespecial 3, 3) := by decide +kernel
theorem d_AB_init_4 : decode M_AB_init.2.1 4 = .ok (.getstatic 18, 3) := by decide +kernel
theorem d_AB_init_7 : decode M_AB_init.2.1 7 = .ok (.ifCond .eq 18, 3) := by decide +kernel
theorem d_AB_init_10 : decode M_AB_init.2.1 10 = .ok (.aload_n 0, 1) := by decide +kernel
theorem d_AB_init_11 : decode M_AB_init.2.1 11 = .ok (.iload_n 1, 1) := by decide +kernel
theorem d_AB_init_12 : decode M_AB_init.2.1 12 = .ok (.newarray .byte, 2) := by decide +kernel
theorem d_AB_init_14 : decode M_AB_init.2.1 14 = .ok (.putfield 15, 3) := by decide +kernel
theorem d_AB_init_17 : decode M_AB_init.2.1 17 = .ok (.aload_n 0, 1) := by decide +kernel
theorem d_AB_init_18 : decode M_AB_init.2.1 18 = .ok (.iconst 0, 1) := by decide +kernel
theorem d_AB_init_19 : decode M_AB_init.2.1 19 = .ok (.putfield 22, 3) := by decide +kernel
theorem d_AB_init_22 : decode M_AB_init.2.1 22 = .ok (.goto 16, 3) := by decide +kernel
theorem d_AB_init_25 : decode M_AB_init.2.1 25 = .ok (.aload_n 0, 1) := by decide +kernel
theorem d_AB_init_26 : decode M_AB_init.2.1 26 = .ok (.iload_n 1, 1) := by decide +kernel
theorem d_AB_init_27 : decode M_AB_init.2.1 27 = .ok (.invokestatic 26, 3) := by decide +kernel
theorem d_AB_init_30 : decode M_AB_init.2.1 30 = .ok (.putfield 15, 3) := by decide +kernel
theorem d_AB_init_33 : decode M_AB_init.2.1 33 = .ok (.aload_n 0, 1) := by decide +kernel
theorem d_AB_init_34 : decode M_AB_init.2.1 34 = .ok (.iconst 1, 1) := by decide +kernel
theorem d_AB_init_35 : decode M_AB_init.2.1 35 = .ok (.putfield 22, 3) := by decide +kernel
theorem d_AB_init_38 : decode M_AB_init.2.1 38 = .ok (.return_, 1) := by decide +kernel
theorem d_Am_init_0 : decode M_Am_init.2.1 0 = .ok (.aload_n 0, 1) := by decide +kernel
theorem d_Am_init_1 : decode M_Am_init.2.1 1 = .ok (.invokespecial 3, 3) := by decide +kernel
theorem d_Am_init_4 : decode M_Am_init.2.1 4 = .ok (.return_, 1) := by decide +kernel
theorem d_Mo_init_0 : decode M_Mo_init.2.1 0 = .ok (.aload_n 0, 1) := by decide +kernel
theorem d_Mo_init_1 : decode M_Mo_init.2.1 1 = .ok (.invokespecial 1, 3) := by decide +kernel
theorem d_Mo_init_4 : decode M_Mo_init.2.1 4 = .ok (.aload_n 0, 1) := by decide +kernel
theorem d_Mo_init_5 : decode M_Mo_init.2.1 5 = .ok (.sipush 3000, 3) := by decide +kernel
theorem d_Mo_init_8 : decode M_Mo_init.2.1 8 = .ok (.newarray .int, 2) := by decide +kernel
theorem d_Mo_init_10 : decode M_Mo_init.2.1 10 = .ok (.putfield 7, 3) := by decide +kernel
theorem d_Mo_init_13 : decode M_Mo_init.2.1 13 = .ok (.aload_n 0, 1) := by decide +kernel
theorem d_Mo_init_14 : decode M_Mo_init.2.1 14 = .ok (.bipush 48, 2) := by decide +kernel
theorem d_Mo_init_16 : decode M_Mo_init.2.1 16 = .ok (.newarray .int, 2) := by decide +kernel
theorem d_Mo_init_18 : decode M_Mo_init.2.1 18 = .ok (.putfield 13, 3) := by decide +kernel
theorem d_Mo_init_21 : decode M_Mo_init.2.1 21 = .ok (.aload_n 0, 1) := by decide +kernel
theorem d_Mo_init_22 : decode M_Mo_init.2.1 22 = .ok (.sipush 384, 3) := by decide +kernel
theorem d_Mo_init_25 : decode M_Mo_init.2.1 25 = .ok (.newarray .int, 2) := by decide +kernel
theorem d_Mo_init_27 : decode M_Mo_init.2.1 27 = .ok (.putfield 16, 3) := by decide +kernel
theorem d_Mo_init_30 : decode M_Mo_init.2.1 30 = .ok (.aload_n 0, 1) := by decide +kernel
theorem d_Mo_init_31 : decode M_Mo_init.2.1 31 = .ok (.bipush 16, 2) := by decide +kernel
theorem d_Mo_init_33 : decode M_Mo_init.2.1 33 = .ok (.newarray .boolean, 2) := by decide +kernel
theorem d_Mo_init_35 : decode M_Mo_init.2.1 35 = .ok (.putfield 19, 3) := by decide +kernel
theorem d_Mo_init_38 : decode M_Mo_init.2.1 38 = .ok (.aload_n 0, 1) := by decide +kernel
theorem d_Mo_init_39 : decode M_Mo_init.2.1 39 = .ok (.bipush 64, 2) := by decide +kernel
theorem d_Mo_init_41 : decode M_Mo_init.2.1 41 = .ok (.newarray .long, 2) := by decide +kernel
theorem d_Mo_init_43 : decode M_Mo_init.2.1 43 = .ok (.putfield 23, 3) := by decide +kernel
theorem d_Mo_init_46 : decode M_Mo_init.2.1 46 = .ok (.aload_n 0, 1) := by decide +kernel
theorem d_Mo_init_47 : decode M_Mo_init.2.1 47 = .ok (.sipush 1440, 3) := by decide +kernel
theorem d_Mo_init_50 : decode M_Mo_init.2.1 50 = .ok (.newarray .long, 2) := by decide +kernel
theorem d_Mo_init_52 : decode M_Mo_init.2.1 52 = .ok (.putfield 27, 3) := by decide +kernel
theorem d_Mo_init_55 : decode M_Mo_init.2.1 55 = .ok (.aload_n 0, 1) := by decide +kernel
theorem d_Mo_init_56 : decode M_Mo_init.2.1 56 = .ok (.sipush 3001, 3) := by decide +kernel
theorem d_Mo_init_59 : decode M_Mo_init.2.1 59 = .ok (.newarray .int, 2) := by decide +kernel
theorem d_Mo_init_61 : decode M_Mo_init.2.1 61 = .ok (.putfield 30, 3) := by decide +kernel
theorem d_Mo_init_64 : decode M_Mo_init.2.1 64 = .ok (.aload_n 0, 1) := by decide +kernel
theorem d_Mo_init_65 : decode M_Mo_init.2.1 65 = .ok (.sipush 3001, 3) := by decide +kernel
theorem d_Mo_init_68 : decode M_Mo_init.2.1 68 = .ok (.newarray .int, 2) := by decide +kernel
theorem d_Mo_init_70 : decode M_Mo_init.2.1 70 = .ok (.putfield 33, 3) := by decide +kernel
theorem d_Mo_init_73 : decode M_Mo_init.2.1 73 = .ok (.aload_n 0, 1) := by decide +kernel
theorem d_Mo_init_74 : decode M_Mo_init.2.1 74 = .ok (.sipush 9000, 3) := by decide +kernel
theorem d_Mo_init_77 : decode M_Mo_init.2.1 77 = .ok (.newarray .int, 2) := by decide +kernel
theorem d_Mo_init_79 : decode M_Mo_init.2.1 79 = .ok (.putfield 36, 3) := by decide +kernel
theorem d_Mo_init_82 : decode M_Mo_init.2.1 82 = .ok (.return_, 1) := by decide +kernel
theorem d_Na_init_0 : decode M_Na_init.2.1 0 = .ok (.aload_n 0, 1) := by decide +kernel
theorem d_Na_init_1 : decode M_Na_init.2.1 1 = .ok (.invokespecial 3, 3) := by decide +kernel
theorem d_Na_init_4 : decode M_Na_init.2.1 4 = .ok (.aload_n 0, 1) := by decide +kernel
theorem d_Na_init_5 : decode M_Na_init.2.1 5 = .ok (.sipush 384, 3) := by decide +kernel
theorem d_Na_init_8 : decode M_Na_init.2.1 8 = .ok (.newarray .char, 2) := by decide +kernel
theorem d_Na_init_10 : decode M_Na_init.2.1 10 = .ok (.putfield 9, 3) := by decide +kernel
theorem d_Na_init_13 : decode M_Na_init.2.1 13 = .ok (.aload_n 0, 1) := by decide +kernel
theorem d_Na_init_14 : decode M_Na_init.2.1 14 = .ok (.bipush 48, 2) := by decide +kernel
theorem d_Na_init_16 : decode M_Na_init.2.1 16 = .ok (.newarray .int, 2) := by decide +kernel
theorem d_Na_init_18 : decode M_Na_init.2.1 18 = .ok (.putfield 15, 3) := by decide +kernel
theorem d_Na_init_21 : decode M_Na_init.2.1 21 = .ok (.return_, 1) := by decide +kernel
theorem d_Rd_init_0 : decode M_Rd_init.2.1 0 = .ok (.aload_n 0, 1) := by decide +kernel
theorem d_Rd_init_1 : decode M_Rd_init.2.1 1 = .ok (.invokespecial 3, 3) := by decide +kernel
theorem d_Rd_init_4 : decode M_Rd_init.2.1 4 = .ok (.aload_n 0, 1) := by decide +kernel
theorem d_Rd_init_5 : decode M_Rd_init.2.1 5 = .ok (.new 9, 3) := by decide +kernel
theorem d_Rd_init_8 : decode M_Rd_init.2.1 8 = .ok (.dup, 1) := by decide +kernel
theorem d_Rd_init_9 : decode M_Rd_init.2.1 9 = .ok (.invokespecial 11, 3) := by decide +kernel
theorem d_Rd_init_12 : decode M_Rd_init.2.1 12 = .ok (.putfield 12, 3) := by decide +kernel
theorem d_Rd_init_15 : decode M_Rd_init.2.1 15 = .ok (.aload_n 0, 1) := by decide +kernel
theorem d_Rd_init_16 : decode M_Rd_init.2.1 16 = .ok (.new 9, 3) := by decide +kernel
theorem d_Rd_init_19 : decode M_Rd_init.2.1 19 = .ok (.dup, 1) := by decide +kernel
theorem d_Rd_init_20 : decode M_Rd_init.2.1 20 = .ok (.invokespecial 11, 3) := by decide +kernel
theorem d_Rd_init_23 : decode M_Rd_init.2.1 23 = .ok (.putfield 18, 3) := by decide +kernel
theorem d_Rd_init_26 : decode M_Rd_init.2.1 26 = .ok (.aload_n 0, 1) := by decide +kernel
theorem d_Rd_init_27 : decode M_Rd_init.2.1 27 = .ok (.aload_n 1, 1) := by decide +kernel
theorem d_Rd_init_28 : decode M_Rd_init.2.1 28 = .ok (.putfield 21, 3) := by decide +kernel
theorem d_Rd_init_31 : decode M_Rd_init.2.1 31 = .ok (.aload_n 0, 1) := by decide +kernel
theorem d_Rd_init_32 : decode M_Rd_init.2.1 32 = .ok (.aload_n 2, 1) := by decide +kernel
theorem d_Rd_init_33 : decode M_Rd_init.2.1 33 = .ok (.putfield 25, 3) := by decide +kernel
theorem d_Rd_init_36 : decode M_Rd_init.2.1 36 = .ok (.return_, 1) := by decide +kernel
theorem d_SB_init_0 : decode M_SB_init.2.1 0 = .ok (.aload_n 0, 1) := by decide +kernel
theorem d_SB_init_1 : decode M_SB_init.2.1 1 = .ok (.bipush 16, 2) := by decide +kernel
theorem d_SB_init_3 : decode M_SB_init.2.1 3 = .ok (.invokespecial 1, 3) := by decide +kernel
theorem d_SB_init_6 : decode M_SB_init.2.1 6 = .ok (.return_, 1) := by decide +kernel
theorem d_Sh_init_0 : decode M_Sh_init.2.1 0 = .ok (.aload_n 0, 1) := by decide +kernel
theorem d_Sh_init_1 : decode M_Sh_init.2.1 1 = .ok (.invokespecial 3, 3) := by decide +kernel
theorem d_Sh_init_4 : decode M_Sh_init.2.1 4 = .ok (.aload_n 0, 1) := by decide +kernel
theorem d_Sh_init_5 : decode M_Sh_init.2.1 5 = .ok (.bipush 16, 2) := by decide +kernel
theorem d_Sh_init_7 : decode M_Sh_init.2.1 7 = .ok (.newarray .boolean, 2) := by decide +kernel
theorem d_Sh_init_9 : decode M_Sh_init.2.1 9 = .ok (.putfield 9, 3) := by decide +kernel
theorem d_Sh_init_12 : decode M_Sh_init.2.1 12 = .ok (.aload_n 0, 1) := by decide +kernel
theorem d_Sh_init_13 : decode M_Sh_init.2.1 13 = .ok (.bipush 16, 2) := by decide +kernel
theorem d_Sh_init_15 : decode M_Sh_init.2.1 15 = .ok (.newarray .long, 2) := by decide +kernel
theorem d_Sh_init_17 : decode M_Sh_init.2.1 17 = .ok (.putfield 15, 3) := by decide +kernel
theorem d_Sh_init_20 : decode M_Sh_init.2.1 20 = .ok (.aload_n 0, 1) := by decide +kernel
theorem d_Sh_init_21 : decode M_Sh_init.2.1 21 = .ok (.bipush 16, 2) := by decide +kernel
theorem d_Sh_init_23 : decode M_Sh_init.2.1 23 = .ok (.newarray .long, 2) := by decide +kernel
theorem d_Sh_init_25 : decode M_Sh_init.2.1 25 = .ok (.putfield 19, 3) := by decide +kernel
theorem d_Sh_init_28 : decode M_Sh_init.2.1 28 = .ok (.aload_n 0, 1) := by decide +kernel
theorem d_Sh_init_29 : decode M_Sh_init.2.1 29 = .ok (.bipush 16, 2) := by decide +kernel
theorem d_Sh_init_31 : decode M_Sh_init.2.1 31 = .ok (.newarray .long, 2) := by decide +kernel
theorem d_Sh_init_33 : decode M_Sh_init.2.1 33 = .ok (.putfield 22, 3) := by decide +kernel
theorem d_Sh_init_36 : decode M_Sh_init.2.1 36 = .ok (.aload_n 0, 1) := by decide +kernel
theorem d_Sh_init_37 : decode M_Sh_init.2.1 37 = .ok (.bipush 16, 2) := by decide +kernel
theorem d_Sh_init_39 : decode M_Sh_init.2.1 39 = .ok (.newarray .long, 2) := by decide +kernel
theorem d_Sh_init_41 : decode M_Sh_init.2.1 41 = .ok (.putfield 25, 3) := by decide +kernel
theorem d_Sh_init_44 : decode M_Sh_init.2.1 44 = .ok (.return_, 1) := by decide +kernel
theorem d_Wo_init_0 : decode M_Wo_init.2.1 0 = .ok (.aload_n 0, 1) := by decide +kernel
theorem d_Wo_init_1 : decode M_Wo_init.2.1 1 = .ok (.invokespecial 3, 3) := by decide +kernel
theorem d_Wo_init_4 : decode M_Wo_init.2.1 4 = .ok (.aload_n 0, 1) := by decide +kernel
theorem d_Wo_init_5 : decode M_Wo_init.2.1 5 = .ok (.sipush 3000, 3) := by decide +kernel
theorem d_Wo_init_8 : decode M_Wo_init.2.1 8 = .ok (.newarray .char, 2) := by decide +kernel
theorem d_Wo_init_10 : decode M_Wo_init.2.1 10 = .ok (.putfield 9, 3) := by decide +kernel
theorem d_Wo_init_13 : decode M_Wo_init.2.1 13 = .ok (.return_, 1) := by decide +kernel
theorem d_Wr_init_0 : decode M_Wr_init.2.1 0 = .ok (.aload_n 0, 1) := by decide +kernel
theorem d_Wr_init_1 : decode M_Wr_init.2.1 1 = .ok (.invokespecial 3, 3) := by decide +kernel
theorem d_Wr_init_4 : decode M_Wr_init.2.1 4 = .ok (.aload_n 0, 1) := by decide +kernel
theorem d_Wr_init_5 : decode M_Wr_init.2.1 5 = .ok (.new 9, 3) := by decide +kernel
theorem d_Wr_init_8 : decode M_Wr_init.2.1 8 = .ok (.dup, 1) := by decide +kernel
theorem d_Wr_init_9 : decode M_Wr_init.2.1 9 = .ok (.invokespecial 11, 3) := by decide +kernel
theorem d_Wr_init_12 : decode M_Wr_init.2.1 12 = .ok (.putfield 12, 3) := by decide +kernel
theorem d_Wr_init_15 : decode M_Wr_init.2.1 15 = .ok (.aload_n 0, 1) := by decide +kernel
theorem d_Wr_init_16 : decode M_Wr_init.2.1 16 = .ok (.aload_n 1, 1) := by decide +kernel
theorem d_Wr_init_17 : decode M_Wr_init.2.1 17 = .ok (.putfield 18, 3) := by decide +kernel
theorem d_Wr_init_20 : decode M_Wr_init.2.1 20 = .ok (.return_, 1) := by decide +kernel
/-- so far nx cells are made, all empty, and these references are set -/
def CS (Len : Nat) (scr : Nat → Int32) (nx : Nat) (ct : Nat → Nat × Nat) (mi : Nat → Nat → Int32) (ml : Nat → Nat → Int64) (mr : Nat → Nat → Option Nat) (Ls : List (Nat × Nat × Nat)) : Prop := (ct 0 = (100, Len) ∧ mi 0 = scr) ∧ (∀ r, 256 ≤ r → r < nx → ct r = ct0 r ∧ ∀ k, (¬ (r = 256 ∧ k = 7) → mi r k = 0) ∧ ml r k = 0) ∧ ∀ q ∈ Ls, q.1 < nx ∧ mr q.1 q.2.1 = some q.2.2
def csP (Len : Nat) (scr : Nat → Int32) (nx : Nat) (Ls : List (Nat × Nat × Nat)) : Option Value → rx_S → Prop := fun v τ => v = none ∧ ∃ ct' mi' ml' mr', τ = (nx, ct', mi', ml', mr') ∧ CS Len scr nx ct' mi' ml' mr' Ls
section
variable {Len : Nat} {scr : Nat → Int32} {nx : Nat} {ct : Nat → Nat × Nat} {mi : Nat → Nat → Int32} {ml : Nat → Nat → Int64} {mr mr' : Nat → Nat → Option Nat} {Ls : List (Nat × Nat × Nat)}
theorem CS.new (h : CS Len scr nx ct mi ml mr Ls) (tg n : Nat) (h1 : 256 ≤ nx ∧ ct0 nx = (tg, n) := by decide) : CS Len scr (nx + 1) (va_up ct nx (tg, n)) (va_up mi nx (fun _ => 0)) (va_up ml nx (fun _ => 0)) (va_up mr nx (fun _ => none)) Ls := by
  obtain ⟨⟨a1, a2⟩, a3, a4⟩ := h
  refine ⟨⟨by rw [va_up_ne _ _ (by omega)]; exact a1, by rw [va_up_ne _ _ (by omega)]; exact a2⟩, fun r hr hr2 => ?_, fun q hq => ⟨by have := (a4 q hq).1; omega, by have := (a4 q hq).1; rw [va_up_ne _ _ (by omega)]; exact (a4 q hq).2⟩⟩
  by_cases e : r = nx
  · subst e
    refine ⟨?_, fun k => ⟨?_, ?_⟩⟩
    · rw [h1.2]; simp [va_up]
    · simp [va_up]
    · simp [va_up]
  · rw [va_up_ne _ _ e, va_up_ne _ _ e, va_up_ne _ _ e]
    exact a3 r hr (by omega)
theorem CS.put (h : CS Len scr nx ct mi ml mr Ls) (r k v : Nat) (h1 : r < nx) (h2 : ∀ q ∈ Ls, ¬ (q.1 = r ∧ q.2.1 = k)) : CS Len scr nx ct mi ml (rx_u mr r k (some v)) ((r, k, v) :: Ls) := by
  obtain ⟨a1, a3, a4⟩ := h
  refine ⟨a1, a3, fun q hq => ?_⟩
  rcases List.mem_cons.mp hq with e | e
  · subst e; exact ⟨h1, rx_u_same _ _ _ _⟩
  · refine ⟨(a4 q e).1, ?_⟩
    by_cases er : q.1 = r
    · have ek : q.2.1 ≠ k := fun z => h2 q e ⟨er, z⟩
      rw [er, rx_u_k _ _ ek, ← er]; exact (a4 q e).2
    · rw [rx_u_r _ _ er]; exact (a4 q e).2
theorem CS.put2 {A : List (Nat × Nat × Nat)} (h : CS Len scr nx ct mi ml mr (A ++ Ls)) (r k v : Nat) (h1 : r < nx) (h2 : ∀ q ∈ A, ¬ (q.1 = r ∧ q.2.1 = k)) (h3 : ∀ q ∈ Ls, q.1 < r) : CS Len scr nx ct mi ml (rx_u mr r k (some v)) (((r, k, v) :: A) ++ Ls) := h.put r k v h1 (fun q hq => (List.mem_append.mp hq).elim (h2 q) (fun z y => by have := h3 q z; omega))
theorem CS.is (h : CS Len scr nx ct mi ml mr Ls) (r t n : Nat) (hc : (256 ≤ r ∧ r < nx) ∧ ct0 r = (t, n) := by decide) : rx_is (nx, ct, mi, ml, mr') r t n := ⟨hc.1.1, hc.1.2, ((h.2.1 r hc.1.1 hc.1.2).1).trans hc.2⟩
theorem CS.m (h : CS Len scr nx ct mi ml mr Ls) (r k v : Nat) (hc : (r, k, v) ∈ Ls := by decide) : mr r k = some v := (h.2.2 _ hc).2
theorem CS.z (h : CS Len scr nx ct mi ml mr Ls) (r k : Nat) (h1 : 256 < r) (h2 : r < nx) : CS Len scr nx ct (rx_u mi r k 0) ml mr Ls := by
  have e : rx_u mi r k 0 = mi := by rw [← ((h.2.1 r (by omega) h2).2 k).1 (by omega), rx_u_id]
  rw [e]; exact h
theorem CS.f7 (h : CS Len scr nx ct mi ml mr Ls) (v : Int32) : CS Len scr nx ct (rx_u mi 256 7 v) ml mr Ls := by
  obtain ⟨⟨a1, a2⟩, a3, a4⟩ := h
  refine ⟨⟨a1, by rw [rx_u_r _ _ (by decide)]; exact a2⟩, fun r hr hr2 => ⟨(a3 r hr hr2).1, fun k => ⟨fun z => ?_, ((a3 r hr hr2).2 k).2⟩⟩, a4⟩
  by_cases e : r = 256
  · subst e
    rw [rx_u_k _ _ (fun y => z ⟨rfl, y⟩)]
    exact ((a3 256 hr hr2).2 k).1 z
  · rw [rx_u_r _ _ e]; exact ((a3 r hr hr2).2 k).1 z
theorem CS.keep (h : CS Len scr nx ct mi ml mr Ls) (r k : Nat) (v : Option Nat) (h2 : ∀ q ∈ Ls, q.1 ≠ r) : CS Len scr nx ct mi ml (rx_u mr r k v) Ls := ⟨h.1, h.2.1, fun q hq => ⟨(h.2.2 q hq).1, by rw [rx_u_r _ _ (h2 q hq)]; exact (h.2.2 q hq).2⟩⟩
theorem ci_Na_init_257 (hC : CS Len scr 258 ct mi ml mr Ls) (hlt : ∀ q ∈ Ls, q.1 < 257) : rx_Calls y_Na_init M_Na_init 1 2 432 [.ref 257] (258, ct, mi, ml, mr) (csP Len scr 260 ([(257, 1, 259), (257, 0, 258)] ++ Ls)) := by
  refine rx_enter (by decide) rfl rfl (Nat.le_of_ble_eq_true rfl) ?_
  refine ru_aload_n d_Na_init_0 rfl rfl ?_
  refine ru_objInit d_Na_init_1 (rx_in (tm_1 (List.mem_of_getElem? (i := 43) rfl)) rfl) (by decide) (by decide) ?_
  refine ru_aload_n d_Na_init_4 rfl rfl ?_
  refine ru_sipush (v := 384) d_Na_init_5 (by decide) ?_
  refine ru_newaC (N := 384) d_Na_init_8 (by decide) ?_
  unfold rx_new
  have hC1 := hC.new 101 384
  refine ru_putR (a := some 258) d_Na_init_10 lf_Na_9 (hC1.is 257 2 0) rfl (fun q hq => by cases hq; exact Or.inr ⟨rfl, rfl, rfl⟩) ?_
  have hC2 := hC1.put2 (A := ([] : List (Nat × Nat × Nat))) 257 0 258 (by decide) (by decide) hlt
  refine ru_aload_n d_Na_init_13 rfl rfl ?_
  refine ru_bipush (v := 48) d_Na_init_14 (by decide) ?_
  refine ru_newaI (N := 48) d_Na_init_16 (by decide) ?_
  unfold rx_new
  have hC3 := hC2.new 100 48
  refine ru_putR (a := some 259) d_Na_init_18 lf_Na_15 (hC3.is 257 2 0) rfl (fun q hq => by cases hq; exact Or.inr ⟨rfl, rfl, rfl⟩) ?_
  have hC4 := hC3.put2 (A := [(257, 0, 258)]) 257 1 259 (by decide) (by decide) hlt
  refine ru_vret d_Na_init_21 rfl ?_
  exact ⟨rfl, _, _, _, _, rfl, hC4⟩
theorem ci_Sh_init_260 (hC : CS Len scr 261 ct mi ml mr Ls) (hlt : ∀ q ∈ Ls, q.1 < 260) : rx_Calls y_Sh_init M_Sh_init 1 5 80 [.ref 260] (261, ct, mi, ml, mr) (csP Len scr 266 ([(260, 4, 265), (260, 3, 264), (260, 2, 263), (260, 1, 262), (260, 0, 261)] ++ Ls)) := by
  refine rx_enter (by decide) rfl rfl (Nat.le_of_ble_eq_true rfl) ?_
  refine ru_aload_n d_Sh_init_0 rfl rfl ?_
  refine ru_objInit d_Sh_init_1 (rx_in (tm_1 (List.mem_of_getElem? (i := 60) rfl)) rfl) (by decide) (by decide) ?_
  refine ru_aload_n d_Sh_init_4 rfl rfl ?_
  refine ru_bipush (v := 16) d_Sh_init_5 (by decide) ?_
  refine ru_newaZ (N := 16) d_Sh_init_7 (by decide) ?_
  unfold rx_new
  have hC1 := hC.new 102 16
  refine ru_putR (a := some 261) d_Sh_init_9 lf_Sh_9 (hC1.is 260 6 0) rfl (fun q hq => by cases hq; exact Or.inr ⟨rfl, rfl, rfl⟩) ?_
  have hC2 := hC1.put2 (A := ([] : List (Nat × Nat × Nat))) 260 0 261 (by decide) (by decide) hlt
  refine ru_aload_n d_Sh_init_12 rfl rfl ?_
  refine ru_bipush (v := 16) d_Sh_init_13 (by decide) ?_
  refine ru_newaJ (N := 16) d_Sh_init_15 (by decide) ?_
  unfold rx_new
  have hC3 := hC2.new 104 16
  refine ru_putR (a := some 262) d_Sh_init_17 lf_Sh_15 (hC3.is 260 6 0) rfl (fun q hq => by cases hq; exact Or.inr ⟨rfl, rfl, rfl⟩) ?_
  have hC4 := hC3.put2 (A := [(260, 0, 261)]) 260 1 262 (by decide) (by decide) hlt
  refine ru_aload_n d_Sh_init_20 rfl rfl ?_
  refine ru_bipush (v := 16) d_Sh_init_21 (by decide) ?_
  refine ru_newaJ (N := 16) d_Sh_init_23 (by decide) ?_
  unfold rx_new
  have hC5 := hC4.new 104 16
  refine ru_putR (a := some 263) d_Sh_init_25 lf_Sh_19 (hC5.is 260 6 0) rfl (fun q hq => by cases hq; exact Or.inr ⟨rfl, rfl, rfl⟩) ?_
  have hC6 := hC5.put2 (A := [(260, 1, 262), (260, 0, 261)]) 260 2 263 (by decide) (by decide) hlt
  refine ru_aload_n d_Sh_init_28 rfl rfl ?_
  refine ru_bipush (v := 16) d_Sh_init_29 (by decide) ?_
  refine ru_newaJ (N := 16) d_Sh_init_31 (by decide) ?_
  unfold rx_new
  have hC7 := hC6.new 104 16
  refine ru_putR (a := some 264) d_Sh_init_33 lf_Sh_22 (hC7.is 260 6 0) rfl (fun q hq => by cases hq; exact Or.inr ⟨rfl, rfl, rfl⟩) ?_
  have hC8 := hC7.put2 (A := [(260, 2, 263), (260, 1, 262), (260, 0, 261)]) 260 3 264 (by decide) (by decide) hlt
  refine ru_aload_n d_Sh_init_36 rfl rfl ?_
  refine ru_bipush (v := 16) d_Sh_init_37 (by decide) ?_
  refine ru_newaJ (N := 16) d_Sh_init_39 (by decide) ?_
  unfold rx_new
  have hC9 := hC8.new 104 16
  refine ru_putR (a := some 265) d_Sh_init_41 lf_Sh_25 (hC9.is 260 6 0) rfl (fun q hq => by cases hq; exact Or.inr ⟨rfl, rfl, rfl⟩) ?_
  have hC10 := hC9.put2 (A := [(260, 3, 264), (260, 2, 263), (260, 1, 262), (260, 0, 261)]) 260 4 265 (by decide) (by decide) hlt
  refine ru_vret d_Sh_init_44 rfl ?_
  exact ⟨rfl, _, _, _, _, rfl, hC10⟩
theorem ci_Wo_init_266 (hC : CS Len scr 267 ct mi ml mr Ls) (hlt : ∀ q ∈ Ls, q.1 < 266) : rx_Calls y_Wo_init M_Wo_init 1 1 3000 [.ref 266] (267, ct, mi, ml, mr) (csP Len scr 268 ([(266, 0, 267)] ++ Ls)) := by
  refine rx_enter (by decide) rfl rfl (Nat.le_of_ble_eq_true rfl) ?_
  refine ru_aload_n d_Wo_init_0 rfl rfl ?_
  refine ru_objInit d_Wo_init_1 (rx_in (tm_1 (List.mem_of_getElem? (i := 84) rfl)) rfl) (by decide) (by decide) ?_
  refine ru_aload_n d_Wo_init_4 rfl rfl ?_
  refine ru_sipush (v := 3000) d_Wo_init_5 (by decide) ?_
  refine ru_newaC (N := 3000) d_Wo_init_8 (by decide) ?_
  unfold rx_new
  have hC1 := hC.new 101 3000
  refine ru_putR (a := some 267) d_Wo_init_10 lf_Wo_9 (hC1.is 266 7 0) rfl (fun q hq => by cases hq; exact Or.inr ⟨rfl, rfl, rfl⟩) ?_
  have hC2 := hC1.put2 (A := ([] : List (Nat × Nat × Nat))) 266 0 267 (by decide) (by decide) hlt
  refine ru_vret d_Wo_init_13 rfl ?_
  exact ⟨rfl, _, _, _, _, rfl, hC2⟩
theorem ci_Am_init_269 (hC : CS Len scr 270 ct mi ml mr Ls) (hlt : ∀ q ∈ Ls, q.1 < 269) : rx_Calls y_Am_init M_Am_init 1 0 0 [.ref 269] (270, ct, mi, ml, mr) (csP Len scr 270 (([] : List (Nat × Nat × Nat)) ++ Ls)) := by
  refine rx_enter (by decide) rfl rfl (Nat.le_of_ble_eq_true rfl) ?_
  refine ru_aload_n d_Am_init_0 rfl rfl ?_
  refine ru_objInit d_Am_init_1 (rx_in (tm_1 (List.mem_of_getElem? (i := 127) rfl)) rfl) (by decide) (by decide) ?_
  refine ru_vret d_Am_init_4 rfl ?_
  exact ⟨rfl, _, _, _, _, rfl, hC⟩
theorem ci_Am_init_270 (hC : CS Len scr 271 ct mi ml mr Ls) (hlt : ∀ q ∈ Ls, q.1 < 270) : rx_Calls y_Am_init M_Am_init 1 0 0 [.ref 270] (271, ct, mi, ml, mr) (csP Len scr 271 (([] : List (Nat × Nat × Nat)) ++ Ls)) := by
  refine rx_enter (by decide) rfl rfl (Nat.le_of_ble_eq_true rfl) ?_
  refine ru_aload_n d_Am_init_0 rfl rfl ?_
  refine ru_objInit d_Am_init_1 (rx_in (tm_1 (List.mem_of_getElem? (i := 127) rfl)) rfl) (by decide) (by decide) ?_
  refine ru_vret d_Am_init_4 rfl ?_
  exact ⟨rfl, _, _, _, _, rfl, hC⟩
theorem hltA {A : List (Nat × Nat × Nat)} {a b : Nat} (h1 : (∀ q ∈ A, q.1 < a) ∧ b ≤ a) (h2 : ∀ q ∈ Ls, q.1 < b) : ∀ q ∈ A ++ Ls, q.1 < a := fun q hq => (List.mem_append.mp hq).elim (h1.1 q) (fun z => by have := h2 q z; omega)
theorem hltB {a b : Nat} (h1 : b ≤ a) (h2 : ∀ q ∈ Ls, q.1 < b) : ∀ q ∈ Ls, q.1 < a := fun q hq => Nat.lt_of_lt_of_le (h2 q hq) h1
theorem ci_Rd_init_268 (hC : CS Len scr 269 ct mi ml mr Ls) (hlt : ∀ q ∈ Ls, q.1 < 268) : rx_Calls y_Rd_init M_Rd_init 2 2 8 [.ref 268, .ref 266, .ref 257] (269, ct, mi, ml, mr) (csP Len scr 271 ([(268, 1, 257), (268, 0, 266), (268, 3, 270), (268, 2, 269)] ++ Ls)) := by
  refine rx_enter (by decide) rfl rfl (Nat.le_of_ble_eq_true rfl) ?_
  refine ru_aload_n d_Rd_init_0 rfl rfl ?_
  refine ru_objInit d_Rd_init_1 (rx_in (tm_1 (List.mem_of_getElem? (i := 121) rfl)) rfl) (by decide) (by decide) ?_
  refine ru_aload_n d_Rd_init_4 rfl rfl ?_
  refine ru_new (mc := _) d_Rd_init_5 ln_Rd_9 ?_
  unfold rx_new
  have hC1 := hC.new 1 0
  refine ru_dup d_Rd_init_8 rfl ?_
  refine ru_mcs (mc' := 0 + 1) (ms' := 0 + 4) rfl rfl ?_
  refine ru_callI (mc := _) (ms := _) d_Rd_init_9 lm_Rd_11 (ci_Am_init_269 hC1 (hltB (by decide) hlt)) (by decide) rfl (Nat.le_of_ble_eq_true rfl) ?_
  rintro v τ ⟨rfl, ct1, m1, l1, r1, rfl, hC2⟩
  refine ru_putR (a := some 269) d_Rd_init_12 lf_Rd_12 (hC2.is 268 3 0) rfl (fun q hq => by cases hq; exact Or.inr ⟨rfl, rfl, rfl⟩) ?_
  have hC3 := hC2.put2 (A := ([] : List (Nat × Nat × Nat))) 268 2 269 (by decide) (by decide) hlt
  refine ru_aload_n d_Rd_init_15 rfl rfl ?_
  refine ru_new (mc := _) d_Rd_init_16 ln_Rd_9 ?_
  unfold rx_new
  have hC4 := hC3.new 1 0
  refine ru_dup d_Rd_init_19 rfl ?_
  refine ru_mcs (mc' := 0 + 0) (ms' := 0 + 0) rfl rfl ?_
  refine ru_callI (mc := _) (ms := _) d_Rd_init_20 lm_Rd_11 (ci_Am_init_270 hC4 (hltA (A := [(268, 2, 269)]) (by decide) hlt)) (by decide) rfl (Nat.le_of_ble_eq_true rfl) ?_
  rintro v τ ⟨rfl, ct4, m4, l4, r4, rfl, hC5⟩
  refine ru_putR (a := some 270) d_Rd_init_23 lf_Rd_18 (hC5.is 268 3 0) rfl (fun q hq => by cases hq; exact Or.inr ⟨rfl, rfl, rfl⟩) ?_
  have hC6 := hC5.put2 (A := [(268, 2, 269)]) 268 3 270 (by decide) (by decide) hlt
  refine ru_aload_n d_Rd_init_26 rfl rfl ?_
  refine ru_aload_n d_Rd_init_27 rfl rfl ?_
  refine ru_putR (a := some 266) d_Rd_init_28 lf_Rd_21 (hC6.is 268 3 0) rfl (fun q hq => by cases hq; exact Or.inr ⟨rfl, rfl, rfl⟩) ?_
  have hC7 := hC6.put2 (A := [(268, 3, 270), (268, 2, 269)]) 268 0 266 (by decide) (by decide) hlt
  refine ru_aload_n d_Rd_init_31 rfl rfl ?_
  refine ru_aload_n d_Rd_init_32 rfl rfl ?_
  refine ru_putR (a := some 257) d_Rd_init_33 lf_Rd_25 (hC7.is 268 3 0) rfl (fun q hq => by cases hq; exact Or.inr ⟨rfl, rfl, rfl⟩) ?_
  have hC8 := hC7.put2 (A := [(268, 0, 266), (268, 3, 270), (268, 2, 269)]) 268 1 257 (by decide) (by decide) hlt
  refine ru_vret d_Rd_init_36 rfl ?_
  exact ⟨rfl, _, _, _, _, rfl, hC8⟩
theorem ci_AB_init_272 (hC : CS Len scr 273 ct mi ml mr Ls) (hlt : ∀ q ∈ Ls, q.1 < 272) : rx_Calls y_AB_init M_AB_init 1 1 16 [.ref 272, .int (nI 16)] (273, ct, mi, ml, mr) (csP Len scr 274 ([(272, 0, 273)] ++ Ls)) := by
  refine rx_enter (by decide) rfl rfl (Nat.le_of_ble_eq_true rfl) ?_
  refine ru_aload_n d_AB_init_0 rfl rfl ?_
  refine ru_objInit d_AB_init_1 (rx_in (tm_1 (List.mem_of_getElem? (i := 173) rfl)) rfl) (by decide) (by decide) ?_
  refine ru_gets d_AB_init_4 (Or.inl (rx_in (tm_1 (List.mem_of_getElem? (i := 174) rfl)) rfl)) (List.mem_of_getElem? (i := 4) rfl) ?_
  refine ru_if_eq (tgt := 25) d_AB_init_7 (by decide) (fun h7 => absurd h7 (by decide)) (fun h7 => ?_)
  refine ru_aload_n d_AB_init_10 rfl rfl ?_
  refine ru_iload_n d_AB_init_11 rfl rfl ?_
  refine ru_newaB (N := 16) d_AB_init_12 (by decide) ?_
  unfold rx_new
  have hC1 := hC.new 103 16
  refine ru_putR (a := some 273) d_AB_init_14 lf_AB_15 (hC1.is 272 10 0) rfl (fun q hq => by cases hq; exact Or.inl rfl) ?_
  have hC2 := hC1.put2 (A := ([] : List (Nat × Nat × Nat))) 272 0 273 (by decide) (by decide) hlt
  refine ru_aload_n d_AB_init_17 rfl rfl ?_
  refine ru_iconst (v := 0) d_AB_init_18 (by decide) ?_
  refine ru_putI d_AB_init_19 lf_AB_22 (hC2.is 272 10 0) rfl (fun q hq => by cases hq; exact Or.inl rfl) ⟨rfl, rfl⟩ ?_
  have hC3 := hC2.z 272 1 (by decide) (by decide)
  refine ru_goto (tgt := 38) d_AB_init_22 (by decide) ?_
  refine ru_vret d_AB_init_38 rfl ?_
  exact ⟨rfl, _, _, _, _, rfl, hC3⟩
theorem ci_SB_init_272 (hC : CS Len scr 273 ct mi ml mr Ls) (hlt : ∀ q ∈ Ls, q.1 < 272) : rx_Calls y_SB_init M_SB_init 2 1 16 [.ref 272] (273, ct, mi, ml, mr) (csP Len scr 274 ([(272, 0, 273)] ++ Ls)) := by
  refine rx_enter (by decide) rfl rfl (Nat.le_of_ble_eq_true rfl) ?_
  refine ru_aload_n d_SB_init_0 rfl rfl ?_
  refine ru_bipush (v := 16) d_SB_init_1 (by decide) ?_
  refine ru_mcs (mc' := 1 + 0) (ms' := 16 + 0) rfl rfl ?_
  refine ru_callI (mc := _) (ms := _) d_SB_init_3 lm_SB_1 (ci_AB_init_272 hC (hltB (by decide) hlt)) (by decide) rfl (Nat.le_of_ble_eq_true rfl) ?_
  rintro v τ ⟨rfl, ct0, m0, l0, r0, rfl, hC1⟩
  refine ru_vret d_SB_init_6 rfl ?_
  exact ⟨rfl, _, _, _, _, rfl, hC1⟩
theorem ci_Wr_init_271 (hC : CS Len scr 272 ct mi ml mr Ls) (hlt : ∀ q ∈ Ls, q.1 < 271) : rx_Calls y_Wr_init M_Wr_init 3 2 20 [.ref 271, .ref 257] (272, ct, mi, ml, mr) (csP Len scr 274 ([(271, 1, 257), (271, 0, 272), (272, 0, 273)] ++ Ls)) := by
  refine rx_enter (by decide) rfl rfl (Nat.le_of_ble_eq_true rfl) ?_
  refine ru_aload_n d_Wr_init_0 rfl rfl ?_
  refine ru_objInit d_Wr_init_1 (rx_in (tm_1 (List.mem_of_getElem? (i := 164) rfl)) rfl) (by decide) (by decide) ?_
  refine ru_aload_n d_Wr_init_4 rfl rfl ?_
  refine ru_new (mc := _) d_Wr_init_5 ln_Wr_9 ?_
  unfold rx_new
  have hC1 := hC.new 10 0
  refine ru_dup d_Wr_init_8 rfl ?_
  refine ru_mcs (mc' := 1 + 0) (ms' := 16 + 0) rfl rfl ?_
  refine ru_callI (mc := _) (ms := _) d_Wr_init_9 lm_Wr_11 (ci_SB_init_272 hC1 (hltB (by decide) hlt)) (by decide) rfl (Nat.le_of_ble_eq_true rfl) ?_
  rintro v τ ⟨rfl, ct1, m1, l1, r1, rfl, hC2⟩
  refine ru_putR (a := some 272) d_Wr_init_12 lf_Wr_12 (hC2.is 271 8 0) rfl (fun q hq => by cases hq; exact Or.inr ⟨rfl, rfl, rfl⟩) ?_
  have hC3 := hC2.put2 (A := [(272, 0, 273)]) 271 0 272 (by decide) (by decide) hlt
  refine ru_aload_n d_Wr_init_15 rfl rfl ?_
  refine ru_aload_n d_Wr_init_16 rfl rfl ?_
  refine ru_putR (a := some 257) d_Wr_init_17 lf_Wr_18 (hC3.is 271 8 0) rfl (fun q hq => by cases hq; exact Or.inr ⟨rfl, rfl, rfl⟩) ?_
  have hC4 := hC3.put2 (A := [(271, 0, 272), (272, 0, 273)]) 271 1 257 (by decide) (by decide) hlt
  refine ru_vret d_Wr_init_20 rfl ?_
  exact ⟨rfl, _, _, _, _, rfl, hC4⟩
theorem ci_Mo_init_398 (hC : CS Len scr 399 ct mi ml mr Ls) (hlt : ∀ q ∈ Ls, q.1 < 398) : rx_Calls y_Mo_init M_Mo_init 1 9 19954 [.ref 398] (399, ct, mi, ml, mr) (csP Len scr 408 ([(398, 15, 407), (398, 11, 406), (398, 10, 405), (398, 8, 404), (398, 6, 403), (398, 5, 402), (398, 4, 401), (398, 3, 400), (398, 1, 399)] ++ Ls)) := by
  refine rx_enter (by decide) rfl rfl (Nat.le_of_ble_eq_true rfl) ?_
  refine ru_aload_n d_Mo_init_0 rfl rfl ?_
  refine ru_objInit d_Mo_init_1 (rx_in (tm_5 (List.mem_of_getElem? (i := 119) rfl)) rfl) (by decide) (by decide) ?_
  refine ru_aload_n d_Mo_init_4 rfl rfl ?_
  refine ru_sipush (v := 3000) d_Mo_init_5 (by decide) ?_
  refine ru_newaI (N := 3000) d_Mo_init_8 (by decide) ?_
  unfold rx_new
  have hC1 := hC.new 100 3000
  refine ru_putR (a := some 399) d_Mo_init_10 lf_Mo_7 (hC1.is 398 9 0) rfl (fun q hq => by cases hq; exact Or.inr ⟨rfl, rfl, rfl⟩) ?_
  have hC2 := hC1.put2 (A := ([] : List (Nat × Nat × Nat))) 398 1 399 (by decide) (by decide) hlt
  refine ru_aload_n d_Mo_init_13 rfl rfl ?_
  refine ru_bipush (v := 48) d_Mo_init_14 (by decide) ?_
  refine ru_newaI (N := 48) d_Mo_init_16 (by decide) ?_
  unfold rx_new
  have hC3 := hC2.new 100 48
  refine ru_putR (a := some 400) d_Mo_init_18 lf_Mo_13 (hC3.is 398 9 0) rfl (fun q hq => by cases hq; exact Or.inr ⟨rfl, rfl, rfl⟩) ?_
  have hC4 := hC3.put2 (A := [(398, 1, 399)]) 398 3 400 (by decide) (by decide) hlt
  refine ru_aload_n d_Mo_init_21 rfl rfl ?_
  refine ru_sipush (v := 384) d_Mo_init_22 (by decide) ?_
  refine ru_newaI (N := 384) d_Mo_init_25 (by decide) ?_
  unfold rx_new
  have hC5 := hC4.new 100 384
  refine ru_putR (a := some 401) d_Mo_init_27 lf_Mo_16 (hC5.is 398 9 0) rfl (fun q hq => by cases hq; exact Or.inr ⟨rfl, rfl, rfl⟩) ?_
  have hC6 := hC5.put2 (A := [(398, 3, 400), (398, 1, 399)]) 398 4 401 (by decide) (by decide) hlt
  refine ru_aload_n d_Mo_init_30 rfl rfl ?_
  refine ru_bipush (v := 16) d_Mo_init_31 (by decide) ?_
  refine ru_newaZ (N := 16) d_Mo_init_33 (by decide) ?_
  unfold rx_new
  have hC7 := hC6.new 102 16
  refine ru_putR (a := some 402) d_Mo_init_35 lf_Mo_19 (hC7.is 398 9 0) rfl (fun q hq => by cases hq; exact Or.inr ⟨rfl, rfl, rfl⟩) ?_
  have hC8 := hC7.put2 (A := [(398, 4, 401), (398, 3, 400), (398, 1, 399)]) 398 5 402 (by decide) (by decide) hlt
  refine ru_aload_n d_Mo_init_38 rfl rfl ?_
  refine ru_bipush (v := 64) d_Mo_init_39 (by decide) ?_
  refine ru_newaJ (N := 64) d_Mo_init_41 (by decide) ?_
  unfold rx_new
  have hC9 := hC8.new 104 64
  refine ru_putR (a := some 403) d_Mo_init_43 lf_Mo_23 (hC9.is 398 9 0) rfl (fun q hq => by cases hq; exact Or.inr ⟨rfl, rfl, rfl⟩) ?_
  have hC10 := hC9.put2 (A := [(398, 5, 402), (398, 4, 401), (398, 3, 400), (398, 1, 399)]) 398 6 403 (by decide) (by decide) hlt
  refine ru_aload_n d_Mo_init_46 rfl rfl ?_
  refine ru_sipush (v := 1440) d_Mo_init_47 (by decide) ?_
  refine ru_newaJ (N := 1440) d_Mo_init_50 (by decide) ?_
  unfold rx_new
  have hC11 := hC10.new 104 1440
  refine ru_putR (a := some 404) d_Mo_init_52 lf_Mo_27 (hC11.is 398 9 0) rfl (fun q hq => by cases hq; exact Or.inr ⟨rfl, rfl, rfl⟩) ?_
  have hC12 := hC11.put2 (A := [(398, 6, 403), (398, 5, 402), (398, 4, 401), (398, 3, 400), (398, 1, 399)]) 398 8 404 (by decide) (by decide) hlt
  refine ru_aload_n d_Mo_init_55 rfl rfl ?_
  refine ru_sipush (v := 3001) d_Mo_init_56 (by decide) ?_
  refine ru_newaI (N := 3001) d_Mo_init_59 (by decide) ?_
  unfold rx_new
  have hC13 := hC12.new 100 3001
  refine ru_putR (a := some 405) d_Mo_init_61 lf_Mo_30 (hC13.is 398 9 0) rfl (fun q hq => by cases hq; exact Or.inr ⟨rfl, rfl, rfl⟩) ?_
  have hC14 := hC13.put2 (A := [(398, 8, 404), (398, 6, 403), (398, 5, 402), (398, 4, 401), (398, 3, 400), (398, 1, 399)]) 398 10 405 (by decide) (by decide) hlt
  refine ru_aload_n d_Mo_init_64 rfl rfl ?_
  refine ru_sipush (v := 3001) d_Mo_init_65 (by decide) ?_
  refine ru_newaI (N := 3001) d_Mo_init_68 (by decide) ?_
  unfold rx_new
  have hC15 := hC14.new 100 3001
  refine ru_putR (a := some 406) d_Mo_init_70 lf_Mo_33 (hC15.is 398 9 0) rfl (fun q hq => by cases hq; exact Or.inr ⟨rfl, rfl, rfl⟩) ?_
  have hC16 := hC15.put2 (A := [(398, 10, 405), (398, 8, 404), (398, 6, 403), (398, 5, 402), (398, 4, 401), (398, 3, 400), (398, 1, 399)]) 398 11 406 (by decide) (by decide) hlt
  refine ru_aload_n d_Mo_init_73 rfl rfl ?_
  refine ru_sipush (v := 9000) d_Mo_init_74 (by decide) ?_
  refine ru_newaI (N := 9000) d_Mo_init_77 (by decide) ?_
  unfold rx_new
  have hC17 := hC16.new 100 9000
  refine ru_putR (a := some 407) d_Mo_init_79 lf_Mo_36 (hC17.is 398 9 0) rfl (fun q hq => by cases hq; exact Or.inr ⟨rfl, rfl, rfl⟩) ?_
  have hC18 := hC17.put2 (A := [(398, 11, 406), (398, 10, 405), (398, 8, 404), (398, 6, 403), (398, 5, 402), (398, 4, 401), (398, 3, 400), (398, 1, 399)]) 398 15 407 (by decide) (by decide) hlt
  refine ru_vret d_Mo_init_82 rfl ?_
  exact ⟨rfl, _, _, _, _, rfl, hC18⟩
end
