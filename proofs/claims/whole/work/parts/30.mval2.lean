/-! The reference reads values, all of it -/
theorem d_Mo_value__0 : decode M_Mo_value_.2.1 0 = .ok (.aload_n 0, 1) := by decide +kernel
theorem d_Mo_value__1 : decode M_Mo_value_.2.1 1 = .ok (.bipush 12, 2) := by decide +kernel
theorem d_Mo_value__3 : decode M_Mo_value_.2.1 3 = .ok (.iconst 5, 1) := by decide +kernel
theorem d_Mo_value__4 : decode M_Mo_value_.2.1 4 = .ok (.iconst 1, 1) := by decide +kernel
theorem d_Mo_value__5 : decode M_Mo_value_.2.1 5 = .ok (.bipush 19, 2) := by decide +kernel
theorem d_Mo_value__7 : decode M_Mo_value_.2.1 7 = .ok (.bipush 20, 2) := by decide +kernel
theorem d_Mo_value__9 : decode M_Mo_value_.2.1 9 = .ok (.iconst 0, 1) := by decide +kernel
theorem d_Mo_value__10 : decode M_Mo_value_.2.1 10 = .ok (.iconst 0, 1) := by decide +kernel
theorem d_Mo_value__11 : decode M_Mo_value_.2.1 11 = .ok (.invokestatic 68, 3) := by decide +kernel
theorem d_Mo_value__14 : decode M_Mo_value_.2.1 14 = .ok (.invokevirtual 83, 3) := by decide +kernel
theorem d_Mo_value__17 : decode M_Mo_value_.2.1 17 = .ok (.istore_n 1, 1) := by decide +kernel
theorem d_Mo_value__18 : decode M_Mo_value_.2.1 18 = .ok (.iload_n 1, 1) := by decide +kernel
theorem d_Mo_value__19 : decode M_Mo_value_.2.1 19 = .ok (.ifCond .ne 28, 3) := by decide +kernel
theorem d_Mo_value__22 : decode M_Mo_value_.2.1 22 = .ok (.aload_n 0, 1) := by decide +kernel
theorem d_Mo_value__23 : decode M_Mo_value_.2.1 23 = .ok (.bipush 13, 2) := by decide +kernel
theorem d_Mo_value__25 : decode M_Mo_value_.2.1 25 = .ok (.bipush 15, 2) := by decide +kernel
theorem d_Mo_value__27 : decode M_Mo_value_.2.1 27 = .ok (.bipush 19, 2) := by decide +kernel
theorem d_Mo_value__29 : decode M_Mo_value_.2.1 29 = .ok (.bipush 20, 2) := by decide +kernel
theorem d_Mo_value__31 : decode M_Mo_value_.2.1 31 = .ok (.iconst 0, 1) := by decide +kernel
theorem d_Mo_value__32 : decode M_Mo_value_.2.1 32 = .ok (.iconst 0, 1) := by decide +kernel
theorem d_Mo_value__33 : decode M_Mo_value_.2.1 33 = .ok (.iconst 0, 1) := by decide +kernel
theorem d_Mo_value__34 : decode M_Mo_value_.2.1 34 = .ok (.invokestatic 68, 3) := by decide +kernel
theorem d_Mo_value__37 : decode M_Mo_value_.2.1 37 = .ok (.invokevirtual 83, 3) := by decide +kernel
theorem d_Mo_value__40 : decode M_Mo_value_.2.1 40 = .ok (.ifCond .eq 7, 3) := by decide +kernel
theorem d_Mo_value__43 : decode M_Mo_value_.2.1 43 = .ok (.iconst 1, 1) := by decide +kernel
theorem d_Mo_value__44 : decode M_Mo_value_.2.1 44 = .ok (.goto 4, 3) := by decide +kernel
theorem d_Mo_value__47 : decode M_Mo_value_.2.1 47 = .ok (.iconst 0, 1) := by decide +kernel
theorem d_Mo_value__48 : decode M_Mo_value_.2.1 48 = .ok (.istore_n 2, 1) := by decide +kernel
theorem d_Mo_value__49 : decode M_Mo_value_.2.1 49 = .ok (.aload_n 0, 1) := by decide +kernel
theorem d_Mo_value__50 : decode M_Mo_value_.2.1 50 = .ok (.getfield 59, 3) := by decide +kernel
theorem d_Mo_value__53 : decode M_Mo_value_.2.1 53 = .ok (.istore_n 3, 1) := by decide +kernel
theorem d_Mo_value__54 : decode M_Mo_value_.2.1 54 = .ok (.aload_n 0, 1) := by decide +kernel
theorem d_Mo_value__55 : decode M_Mo_value_.2.1 55 = .ok (.invokevirtual 142, 3) := by decide +kernel
theorem d_Mo_value__58 : decode M_Mo_value_.2.1 58 = .ok (.aload_n 0, 1) := by decide +kernel
theorem d_Mo_value__59 : decode M_Mo_value_.2.1 59 = .ok (.getfield 118, 3) := by decide +kernel
theorem d_Mo_value__62 : decode M_Mo_value_.2.1 62 = .ok (.lstore 4, 2) := by decide +kernel
theorem d_Mo_value__64 : decode M_Mo_value_.2.1 64 = .ok (.aload_n 0, 1) := by decide +kernel
theorem d_Mo_value__65 : decode M_Mo_value_.2.1 65 = .ok (.lload 4, 2) := by decide +kernel
theorem d_Mo_value__67 : decode M_Mo_value_.2.1 67 = .ok (.iload_n 3, 1) := by decide +kernel
theorem d_Mo_value__68 : decode M_Mo_value_.2.1 68 = .ok (.invokevirtual 145, 3) := by decide +kernel
theorem d_Mo_value__71 : decode M_Mo_value_.2.1 71 = .ok (.lload 4, 2) := by decide +kernel
theorem d_Mo_value__73 : decode M_Mo_value_.2.1 73 = .ok (.lstore 6, 2) := by decide +kernel
theorem d_Mo_value__75 : decode M_Mo_value_.2.1 75 = .ok (.iconst (-1), 1) := by decide +kernel
theorem d_Mo_value__76 : decode M_Mo_value_.2.1 76 = .ok (.istore 8, 2) := by decide +kernel
theorem d_Mo_value__78 : decode M_Mo_value_.2.1 78 = .ok (.iload_n 1, 1) := by decide +kernel
theorem d_Mo_value__79 : decode M_Mo_value_.2.1 79 = .ok (.ifCond .ne 41, 3) := by decide +kernel
theorem d_Mo_value__82 : decode M_Mo_value_.2.1 82 = .ok (.iload_n 2, 1) := by decide +kernel
theorem d_Mo_value__83 : decode M_Mo_value_.2.1 83 = .ok (.ifCond .ne 37, 3) := by decide +kernel
theorem d_Mo_value__86 : decode M_Mo_value_.2.1 86 = .ok (.aload_n 0, 1) := by decide +kernel
theorem d_Mo_value__87 : decode M_Mo_value_.2.1 87 = .ok (.ldc2_w 149, 3) := by decide +kernel
theorem d_Mo_value__90 : decode M_Mo_value_.2.1 90 = .ok (.invokevirtual 83, 3) := by decide +kernel
theorem d_Mo_value__93 : decode M_Mo_value_.2.1 93 = .ok (.ifCond .eq 27, 3) := by decide +kernel
theorem d_Mo_value__96 : decode M_Mo_value_.2.1 96 = .ok (.aload_n 0, 1) := by decide +kernel
theorem d_Mo_value__97 : decode M_Mo_value_.2.1 97 = .ok (.getfield 59, 3) := by decide +kernel
theorem d_Mo_value__100 : decode M_Mo_value_.2.1 100 = .ok (.istore 8, 2) := by decide +kernel
theorem d_Mo_value__102 : decode M_Mo_value_.2.1 102 = .ok (.aload_n 0, 1) := by decide +kernel
theorem d_Mo_value__103 : decode M_Mo_value_.2.1 103 = .ok (.invokevirtual 142, 3) := by decide +kernel
theorem d_Mo_value__106 : decode M_Mo_value_.2.1 106 = .ok (.aload_n 0, 1) := by decide +kernel
theorem d_Mo_value__107 : decode M_Mo_value_.2.1 107 = .ok (.getfield 118, 3) := by decide +kernel
theorem d_Mo_value__110 : decode M_Mo_value_.2.1 110 = .ok (.lstore 6, 2) := by decide +kernel
theorem d_Mo_value__112 : decode M_Mo_value_.2.1 112 = .ok (.aload_n 0, 1) := by decide +kernel
theorem d_Mo_value__113 : decode M_Mo_value_.2.1 113 = .ok (.lload 6, 2) := by decide +kernel
theorem d_Mo_value__115 : decode M_Mo_value_.2.1 115 = .ok (.iload 8, 2) := by decide +kernel
theorem d_Mo_value__117 : decode M_Mo_value_.2.1 117 = .ok (.invokevirtual 145, 3) := by decide +kernel
theorem d_Mo_value__120 : decode M_Mo_value_.2.1 120 = .ok (.aload_n 0, 1) := by decide +kernel
theorem d_Mo_value__121 : decode M_Mo_value_.2.1 121 = .ok (.invokevirtual 75, 3) := by decide +kernel
theorem d_Mo_value__124 : decode M_Mo_value_.2.1 124 = .ok (.ifCond .ne 4, 3) := by decide +kernel
theorem d_Mo_value__127 : decode M_Mo_value_.2.1 127 = .ok (.return_, 1) := by decide +kernel
theorem d_Mo_value__128 : decode M_Mo_value_.2.1 128 = .ok (.lconst 1, 1) := by decide +kernel
theorem d_Mo_value__129 : decode M_Mo_value_.2.1 129 = .ok (.lstore 9, 2) := by decide +kernel
theorem d_Mo_value__131 : decode M_Mo_value_.2.1 131 = .ok (.aload_n 0, 1) := by decide +kernel
theorem d_Mo_value__132 : decode M_Mo_value_.2.1 132 = .ok (.invokevirtual 139, 3) := by decide +kernel
theorem d_Mo_value__135 : decode M_Mo_value_.2.1 135 = .ok (.ifCond .ne 60, 3) := by decide +kernel
theorem d_Mo_value__138 : decode M_Mo_value_.2.1 138 = .ok (.aload_n 0, 1) := by decide +kernel
theorem d_Mo_value__139 : decode M_Mo_value_.2.1 139 = .ok (.invokevirtual 151, 3) := by decide +kernel
theorem d_Mo_value__142 : decode M_Mo_value_.2.1 142 = .ok (.lstore 9, 2) := by decide +kernel
theorem d_Mo_value__144 : decode M_Mo_value_.2.1 144 = .ok (.aload_n 0, 1) := by decide +kernel
theorem d_Mo_value__145 : decode M_Mo_value_.2.1 145 = .ok (.invokevirtual 75, 3) := by decide +kernel
theorem d_Mo_value__148 : decode M_Mo_value_.2.1 148 = .ok (.ifCond .eq 14, 3) := by decide +kernel
theorem d_Mo_value__151 : decode M_Mo_value_.2.1 151 = .ok (.aload_n 0, 1) := by decide +kernel
theorem d_Mo_value__152 : decode M_Mo_value_.2.1 152 = .ok (.lload 4, 2) := by decide +kernel
theorem d_Mo_value__154 : decode M_Mo_value_.2.1 154 = .ok (.lload 9, 2) := by decide +kernel
theorem d_Mo_value__156 : decode M_Mo_value_.2.1 156 = .ok (.iload_n 3, 1) := by decide +kernel
theorem d_Mo_value__157 : decode M_Mo_value_.2.1 157 = .ok (.invokevirtual 154, 3) := by decide +kernel
theorem d_Mo_value__160 : decode M_Mo_value_.2.1 160 = .ok (.lstore 4, 2) := by decide +kernel
theorem d_Mo_value__162 : decode M_Mo_value_.2.1 162 = .ok (.aload_n 0, 1) := by decide +kernel
theorem d_Mo_value__163 : decode M_Mo_value_.2.1 163 = .ok (.invokevirtual 75, 3) := by decide +kernel
theorem d_Mo_value__166 : decode M_Mo_value_.2.1 166 = .ok (.ifCond .eq 45, 3) := by decide +kernel
theorem d_Mo_value__169 : decode M_Mo_value_.2.1 169 = .ok (.iload 8, 2) := by decide +kernel
theorem d_Mo_value__171 : decode M_Mo_value_.2.1 171 = .ok (.iconst (-1), 1) := by decide +kernel
theorem d_Mo_value__172 : decode M_Mo_value_.2.1 172 = .ok (.if_icmp .ne 8, 3) := by decide +kernel
theorem d_Mo_value__175 : decode M_Mo_value_.2.1 175 = .ok (.lload 4, 2) := by decide +kernel
theorem d_Mo_value__177 : decode M_Mo_value_.2.1 177 = .ok (.goto 13, 3) := by decide +kernel
theorem d_Mo_value__180 : decode M_Mo_value_.2.1 180 = .ok (.aload_n 0, 1) := by decide +kernel
theorem d_Mo_value__181 : decode M_Mo_value_.2.1 181 = .ok (.lload 6, 2) := by decide +kernel
theorem d_Mo_value__183 : decode M_Mo_value_.2.1 183 = .ok (.lload 9, 2) := by decide +kernel
theorem d_Mo_value__185 : decode M_Mo_value_.2.1 185 = .ok (.iload 8, 2) := by decide +kernel
theorem d_Mo_value__187 : decode M_Mo_value_.2.1 187 = .ok (.invokevirtual 154, 3) := by decide +kernel
theorem d_Mo_value__190 : decode M_Mo_value_.2.1 190 = .ok (.lstore 6, 2) := by decide +kernel
theorem d_Mo_value__192 : decode M_Mo_value_.2.1 192 = .ok (.goto 19, 3) := by decide +kernel
theorem d_Mo_value__195 : decode M_Mo_value_.2.1 195 = .ok (.lload 4, 2) := by decide +kernel
theorem d_Mo_value__197 : decode M_Mo_value_.2.1 197 = .ok (.ldc2_w 127, 3) := by decide +kernel
theorem d_Mo_value__200 : decode M_Mo_value_.2.1 200 = .ok (.ldiv, 1) := by decide +kernel
theorem d_Mo_value__201 : decode M_Mo_value_.2.1 201 = .ok (.lstore 4, 2) := by decide +kernel
theorem d_Mo_value__203 : decode M_Mo_value_.2.1 203 = .ok (.lload 6, 2) := by decide +kernel
theorem d_Mo_value__205 : decode M_Mo_value_.2.1 205 = .ok (.ldc2_w 127, 3) := by decide +kernel
theorem d_Mo_value__208 : decode M_Mo_value_.2.1 208 = .ok (.ldiv, 1) := by decide +kernel
theorem d_Mo_value__209 : decode M_Mo_value_.2.1 209 = .ok (.lstore 6, 2) := by decide +kernel
theorem d_Mo_value__211 : decode M_Mo_value_.2.1 211 = .ok (.aload_n 0, 1) := by decide +kernel
theorem d_Mo_value__212 : decode M_Mo_value_.2.1 212 = .ok (.invokevirtual 75, 3) := by decide +kernel
theorem d_Mo_value__215 : decode M_Mo_value_.2.1 215 = .ok (.ifCond .eq 17, 3) := by decide +kernel
theorem d_Mo_value__218 : decode M_Mo_value_.2.1 218 = .ok (.lload 6, 2) := by decide +kernel
theorem d_Mo_value__220 : decode M_Mo_value_.2.1 220 = .ok (.lload 4, 2) := by decide +kernel
theorem d_Mo_value__222 : decode M_Mo_value_.2.1 222 = .ok (.lcmp, 1) := by decide +kernel
theorem d_Mo_value__223 : decode M_Mo_value_.2.1 223 = .ok (.ifCond .ge 9, 3) := by decide +kernel
theorem d_Mo_value__226 : decode M_Mo_value_.2.1 226 = .ok (.aload_n 0, 1) := by decide +kernel
theorem d_Mo_value__227 : decode M_Mo_value_.2.1 227 = .ok (.iload 8, 2) := by decide +kernel
theorem d_Mo_value__229 : decode M_Mo_value_.2.1 229 = .ok (.invokevirtual 87, 3) := by decide +kernel
theorem d_Mo_value__232 : decode M_Mo_value_.2.1 232 = .ok (.aload_n 0, 1) := by decide +kernel
theorem d_Mo_value__233 : decode M_Mo_value_.2.1 233 = .ok (.getfield 27, 3) := by decide +kernel
theorem d_Mo_value__236 : decode M_Mo_value_.2.1 236 = .ok (.aload_n 0, 1) := by decide +kernel
theorem d_Mo_value__237 : decode M_Mo_value_.2.1 237 = .ok (.getfield 101, 3) := by decide +kernel
theorem d_Mo_value__240 : decode M_Mo_value_.2.1 240 = .ok (.bipush 8, 2) := by decide +kernel
theorem d_Mo_value__242 : decode M_Mo_value_.2.1 242 = .ok (.iadd, 1) := by decide +kernel
theorem d_Mo_value__243 : decode M_Mo_value_.2.1 243 = .ok (.iload_n 2, 1) := by decide +kernel
theorem d_Mo_value__244 : decode M_Mo_value_.2.1 244 = .ok (.ifCond .eq 9, 3) := by decide +kernel
theorem d_Mo_value__247 : decode M_Mo_value_.2.1 247 = .ok (.ldc2_w 66, 3) := by decide +kernel
theorem d_Mo_value__250 : decode M_Mo_value_.2.1 250 = .ok (.goto 5, 3) := by decide +kernel
theorem d_Mo_value__253 : decode M_Mo_value_.2.1 253 = .ok (.lload 4, 2) := by decide +kernel
theorem d_Mo_value__255 : decode M_Mo_value_.2.1 255 = .ok (.lastore, 1) := by decide +kernel
theorem d_Mo_value__256 : decode M_Mo_value_.2.1 256 = .ok (.aload_n 0, 1) := by decide +kernel
theorem d_Mo_value__257 : decode M_Mo_value_.2.1 257 = .ok (.getfield 27, 3) := by decide +kernel
theorem d_Mo_value__260 : decode M_Mo_value_.2.1 260 = .ok (.aload_n 0, 1) := by decide +kernel
theorem d_Mo_value__261 : decode M_Mo_value_.2.1 261 = .ok (.getfield 101, 3) := by decide +kernel
theorem d_Mo_value__264 : decode M_Mo_value_.2.1 264 = .ok (.bipush 9, 2) := by decide +kernel
theorem d_Mo_value__266 : decode M_Mo_value_.2.1 266 = .ok (.iadd, 1) := by decide +kernel
theorem d_Mo_value__267 : decode M_Mo_value_.2.1 267 = .ok (.iload_n 1, 1) := by decide +kernel
theorem d_Mo_value__268 : decode M_Mo_value_.2.1 268 = .ok (.ifCond .eq 9, 3) := by decide +kernel
theorem d_Mo_value__271 : decode M_Mo_value_.2.1 271 = .ok (.ldc2_w 66, 3) := by decide +kernel
theorem d_Mo_value__274 : decode M_Mo_value_.2.1 274 = .ok (.goto 5, 3) := by decide +kernel
theorem d_Mo_value__277 : decode M_Mo_value_.2.1 277 = .ok (.lload 6, 2) := by decide +kernel
theorem d_Mo_value__279 : decode M_Mo_value_.2.1 279 = .ok (.lastore, 1) := by decide +kernel
theorem d_Mo_value__280 : decode M_Mo_value_.2.1 280 = .ok (.return_, 1) := by decide +kernel
def fL (P : Nat → Prop) (ml ml' : Nat → Nat → Int64) : Prop := (∀ r, r ≠ 398 → r ≠ 404 → ml' r = ml r) ∧ ∀ i, ¬ P i → ml' 404 i = ml 404 i
theorem fL.refl (P : Nat → Prop) (ml : Nat → Nat → Int64) : fL P ml ml := ⟨fun _ _ _ => rfl, fun _ _ => rfl⟩
theorem fL.trans {P Q R : Nat → Prop} {a b c : Nat → Nat → Int64} (h : fL P a b) (h' : fL Q b c) (hP : ∀ i, P i → R i) (hQ : ∀ i, Q i → R i) : fL R a c :=
  ⟨fun r x y => (h'.1 r x y).trans (h.1 r x y), fun i hi => (h'.2 i (fun z => hi (hQ i z))).trans (h.2 i (fun z => hi (hP i z)))⟩
theorem fL.m17 {P : Nat → Prop} {a b : Nat → Nat → Int64} (h : fL P a b) (k : Nat) (x : Int64) : fL P a (rx_u b 398 k x) :=
  ⟨fun r x y => (rx_u_r _ _ x).trans (h.1 r x y), fun i hi => by rw [rx_u_r _ _ (by decide)]; exact h.2 i hi⟩
theorem fL.set {P : Nat → Prop} {a b : Nat → Nat → Int64} (h : fL P a b) {k : Nat} (x : Int64) (hk : P k) : fL P a (rx_u b 404 k x) :=
  ⟨fun r x y => (rx_u_r _ _ y).trans (h.1 r x y), fun i hi => by rw [rx_u_k _ _ (fun z => hi (by rw [z]; exact hk))]; exact h.2 i hi⟩
theorem e_div (a b : Nat) (h : b < 1000000) : (a * 1000000 + b) / 1000000 = a := by omega
def oL : Option Nat → Int64
  | none => -1
  | some x => Int64.ofNat x
theorem nI_m1 {k : Nat} (h : k < 2 ^ 31) : ¬ nI k = -1 := fun q => by
  rw [iq, nI_toInt h, i_m1] at q
  omega
abbrev v89 (A : Nat) : Nat → Prop := fun i => i = A + 8 ∨ i = A + 9
def vbP (l mo : Prop) (r : Nat ⊕ ((Nat × Nat) × Nat)) (J A : Nat) (nx : Nat) (ct : Nat → Nat × Nat) (m0 : Nat → Nat → Int32) (ml : Nat → Nat → Int64) (mr : Nat → Nat → Option Nat) : Option Value → rx_S → Prop := fun v τ => v = none ∧ match r with
  | .inr (q, j') => ∃ ml', τ = (nx, ct, mS m0 (nI j') (-1), ml', mr) ∧ fL (v89 A) ml ml' ∧ ml' 404 (A + 8) = cnd mo (-1) (Int64.ofNat q.1) ∧ ml' 404 (A + 9) = cnd l (-1) (Int64.ofNat q.2)
  | .inl k => ∃ ml' w, τ = (nx, ct, mS m0 (nI w) (nI k), ml', mr) ∧ w ≤ J ∧ fL (v89 A) ml ml'
section
variable {nx : Nat} {ct : Nat → Nat × Nat} {m0 : Nat → Nat → Int32} {ml : Nat → Nat → Int64} {mr : Nat → Nat → Option Nat} {n m : Nat} {t : Nat → Int32}
theorem va_wr {l mo : Prop} {A : Nat} {w g : Int32} {x y : Int64} (hL : LAY nx ct mr) (hA : m0 398 14 = nI A) (hA2 : A + 12 ≤ 1440) : rx_W M_Mo_value_ 4 0 0 232 [(0, .ref 398), (1, .int (bI l)), (2, .int (bI mo)), (4, .long x), (6, .long y)] [] (nx, ct, mS m0 w g, ml, mr) (pR (fun v τ => v = none ∧ τ = (nx, ct, mS m0 w g, rx_u (rx_u ml 404 (A + 8) (cnd mo (-1) x)) 404 (A + 9) (cnd l (-1) y), mr))) := by
  have hA' : mS m0 w g 398 14 = nI A := by rw [mS_k]; exact hA
  refine ru_aload_n d_Mo_value__232 rfl rfl ?_
  refine ru_getR d_Mo_value__233 lf_Mo_27 (ly hL 398 9 0) rfl (lr hL 398 8 404) ?_
  refine ru_aload_n d_Mo_value__236 rfl rfl ?_
  refine ru_getI d_Mo_value__237 lf_Mo_101 (ly hL 398 9 0) rfl ?_
  refine ru_eqi hA' ?_
  refine ru_bipush (v := 8) d_Mo_value__240 (by decide) ?_
  refine ru_iadd d_Mo_value__242 ?_
  refine ru_eqi (nm_add A 8 : _ = nI (A + 8)) ?_
  refine ru_iload_n d_Mo_value__243 rfl rfl ?_
  refine ru_if_eq (tgt := 253) d_Mo_value__244 (by decide) (fun h244 => ?_) (fun h244 => ?_)
  · skip
    replace h244 := bI_eq0.mp h244
    refine ru_lload d_Mo_value__253 rfl ?_
    refine ru_lastN (j := (A + 8)) d_Mo_value__255 (ly hL 404 104 1440) (by omega) (by decide) ?_
    refine ru_aload_n d_Mo_value__256 rfl rfl ?_
    refine ru_getR d_Mo_value__257 lf_Mo_27 (ly hL 398 9 0) rfl (lr hL 398 8 404) ?_
    refine ru_aload_n d_Mo_value__260 rfl rfl ?_
    refine ru_getI d_Mo_value__261 lf_Mo_101 (ly hL 398 9 0) rfl ?_
    refine ru_eqi hA' ?_
    refine ru_bipush (v := 9) d_Mo_value__264 (by decide) ?_
    refine ru_iadd d_Mo_value__266 ?_
    refine ru_eqi (nm_add A 9 : _ = nI (A + 9)) ?_
    refine ru_iload_n d_Mo_value__267 rfl rfl ?_
    refine ru_if_eq (tgt := 277) d_Mo_value__268 (by decide) (fun h268 => ?_) (fun h268 => ?_)
    · skip
      replace h268 := bI_eq0.mp h268
      refine ru_lload d_Mo_value__277 rfl ?_
      refine ru_lastN (j := (A + 9)) d_Mo_value__279 (ly hL 404 104 1440) (by omega) (by decide) ?_
      refine ru_vret d_Mo_value__280 rfl ?_
      first | (rw [cnd_t h244, cnd_t h268]; exact ⟨rfl, rfl⟩) | (rw [cnd_t h244, cnd_f h268]; exact ⟨rfl, rfl⟩) | (rw [cnd_f h244, cnd_t h268]; exact ⟨rfl, rfl⟩) | (rw [cnd_f h244, cnd_f h268]; exact ⟨rfl, rfl⟩)
    · skip
      replace h268 := bI_ne0.mp h268
      refine ru_ldc2 d_Mo_value__271 lc_Mo_66 ?_
      refine ru_goto (tgt := 279) d_Mo_value__274 (by decide) ?_
      refine ru_lastN (j := (A + 9)) d_Mo_value__279 (ly hL 404 104 1440) (by omega) (by decide) ?_
      refine ru_vret d_Mo_value__280 rfl ?_
      first | (rw [cnd_t h244, cnd_t h268]; exact ⟨rfl, rfl⟩) | (rw [cnd_t h244, cnd_f h268]; exact ⟨rfl, rfl⟩) | (rw [cnd_f h244, cnd_t h268]; exact ⟨rfl, rfl⟩) | (rw [cnd_f h244, cnd_f h268]; exact ⟨rfl, rfl⟩)
  · skip
    replace h244 := bI_ne0.mp h244
    refine ru_ldc2 d_Mo_value__247 lc_Mo_66 ?_
    refine ru_goto (tgt := 255) d_Mo_value__250 (by decide) ?_
    refine ru_lastN (j := (A + 8)) d_Mo_value__255 (ly hL 404 104 1440) (by omega) (by decide) ?_
    refine ru_aload_n d_Mo_value__256 rfl rfl ?_
    refine ru_getR d_Mo_value__257 lf_Mo_27 (ly hL 398 9 0) rfl (lr hL 398 8 404) ?_
    refine ru_aload_n d_Mo_value__260 rfl rfl ?_
    refine ru_getI d_Mo_value__261 lf_Mo_101 (ly hL 398 9 0) rfl ?_
    refine ru_eqi hA' ?_
    refine ru_bipush (v := 9) d_Mo_value__264 (by decide) ?_
    refine ru_iadd d_Mo_value__266 ?_
    refine ru_eqi (nm_add A 9 : _ = nI (A + 9)) ?_
    refine ru_iload_n d_Mo_value__267 rfl rfl ?_
    refine ru_if_eq (tgt := 277) d_Mo_value__268 (by decide) (fun h268 => ?_) (fun h268 => ?_)
    · skip
      replace h268 := bI_eq0.mp h268
      refine ru_lload d_Mo_value__277 rfl ?_
      refine ru_lastN (j := (A + 9)) d_Mo_value__279 (ly hL 404 104 1440) (by omega) (by decide) ?_
      refine ru_vret d_Mo_value__280 rfl ?_
      first | (rw [cnd_t h244, cnd_t h268]; exact ⟨rfl, rfl⟩) | (rw [cnd_t h244, cnd_f h268]; exact ⟨rfl, rfl⟩) | (rw [cnd_f h244, cnd_t h268]; exact ⟨rfl, rfl⟩) | (rw [cnd_f h244, cnd_f h268]; exact ⟨rfl, rfl⟩)
    · skip
      replace h268 := bI_ne0.mp h268
      refine ru_ldc2 d_Mo_value__271 lc_Mo_66 ?_
      refine ru_goto (tgt := 279) d_Mo_value__274 (by decide) ?_
      refine ru_lastN (j := (A + 9)) d_Mo_value__279 (ly hL 404 104 1440) (by omega) (by decide) ?_
      refine ru_vret d_Mo_value__280 rfl ?_
      first | (rw [cnd_t h244, cnd_t h268]; exact ⟨rfl, rfl⟩) | (rw [cnd_t h244, cnd_f h268]; exact ⟨rfl, rfl⟩) | (rw [cnd_f h244, cnd_t h268]; exact ⟨rfl, rfl⟩) | (rw [cnd_f h244, cnd_f h268]; exact ⟨rfl, rfl⟩)
theorem va_end1 {l mo : Prop} {A κ j1 j3 J : Nat} {D : Nat × Nat} {mlx : Nat → Nat → Int64} (hL : LAY nx ct mr) (h : PMs n m t m0) (hA : m0 398 14 = nI A) (hA2 : A + 12 ≤ 1440) (hκ : κ < 13) (hk : ml 404 A = Int64.ofNat κ) (hj1 : j1 < 3900) (hj3 : j3 < 3900) (hJ : j3 + 1 ≤ J) (hD : (D.1 < 1000000000 ∧ D.2 < 1000000) ∧ (κ = 5 ∨ κ = 9 → D.2 = 0 ∧ D.1 ≤ 1000000)) (hf : fL (v89 A) ml mlx) : rx_W M_Mo_value_ 4 0 0 120 [(0, .ref 398), (1, .int (bI l)), (2, .int (bI mo)), (3, .int (nI j1)), (4, .long (Int64.ofNat (D.1 * 1000000 + D.2))), (6, .long (Int64.ofNat (D.1 * 1000000 + D.2))), (8, .int ((-1)))] [] (nx, ct, mS m0 (nI j3) (-1), mlx, mr) (pR (vbP l mo (pEnds n t (κ = 5 ∨ κ = 9) j1 D none j3) J A nx ct m0 ml mr)) := by
  have hk' : mlx 404 A = Int64.ofNat κ := (hf.2 A (by omega)).trans hk
  have end_ : ∀ (w g : Int32) (x y : Int64) (post : Option Value → rx_S → Prop), post none (nx, ct, mS m0 w g, rx_u (rx_u mlx 404 (A + 8) (cnd mo (-1) x)) 404 (A + 9) (cnd l (-1) y), mr) → rx_W M_Mo_value_ 4 0 0 232 [(0, .ref 398), (1, .int (bI l)), (2, .int (bI mo)), (4, .long x), (6, .long y)] [] (nx, ct, mS m0 w g, mlx, mr) (pR post) := fun w g x y post hp => ru_post (fun v τ q => by obtain ⟨rfl, rfl⟩ := q; exact hp) (va_wr hL hA hA2)
  have hfr : ∀ x y : Int64, fL (v89 A) ml (rx_u (rx_u mlx 404 (A + 8) x) 404 (A + 9) y) := fun x y => (hf.set x (Or.inl rfl)).set y (Or.inr rfl)
  have hlo : ∀ x y : Int64, rx_u (rx_u mlx 404 (A + 8) x) 404 (A + 9) y 404 (A + 8) = x := fun x y => by rw [rx_u_k _ _ (by omega), rx_u_same]
  have hhi : ∀ x y : Int64, rx_u (rx_u mlx 404 (A + 8) x) 404 (A + 9) y 404 (A + 9) = y := fun x y => rx_u_same _ _ _ _
  unfold vbP pEnds
  have hun : ∀ u, u < 5 → 0 < unN u ∧ unN u ≤ 25400000 := by decide
  by_cases hc : κ = 5 ∨ κ = 9
  · rw [cnd_t hc]
    have hD2 := hD.2 hc
    have e1 : (D.1 * 1000000 + D.2) / 1000000 = D.1 := e_div _ _ (by omega)
    refine ru_aload_n d_Mo_value__120 rfl rfl ?_
    refine ru_callV (mc := 0) (ms := 0) d_Mo_value__121 lm_Mo_75 (sq_good hL) (rx_recv_is (ly hL 398 9 0) kx_Mo) (by decide) rfl (Nat.le_of_ble_eq_true rfl) ?_
    intro v τ h
    obtain ⟨rfl, rfl⟩ := h
    refine ru_if_ne (tgt := 128) d_Mo_value__124 (by decide) (fun h124 => ?_) (fun h124 => absurd h124 (bI_ne0.mpr rfl))
    refine ru_lconst (v := 1) d_Mo_value__128 (by decide) ?_
    refine ru_lstore d_Mo_value__129 (by decide) ?_
    refine ru_aload_n d_Mo_value__131 rfl rfl ?_
    refine ru_callV (mc := 0) (ms := 0) d_Mo_value__132 lm_Mo_139 (sq_isBare hL hA hA2 hk' hκ) (rx_recv_is (ly hL 398 9 0) kx_Mo) (by decide) rfl (Nat.le_of_ble_eq_true rfl) ?_
    intro v τ h
    obtain ⟨rfl, rfl⟩ := h
    refine ru_if_ne (tgt := 195) d_Mo_value__135 (by decide) (fun h135 => ?_) (fun h135 => absurd h135 (bI_ne0.mpr hc))
    refine ru_lload d_Mo_value__195 rfl ?_
    refine ru_ldc2 d_Mo_value__197 lc_Mo_127 ?_
    refine ru_ldiv d_Mo_value__200 (by decide) ?_
    refine ru_eql (nl_div (a := (D.1*1000000+D.2)) (b := 1000000) (by omega) (by omega) (by omega) : _ = Int64.ofNat ((D.1*1000000+D.2) / 1000000)) ?_
    refine ru_eql (congrArg Int64.ofNat e1) ?_
    refine ru_lstore d_Mo_value__201 (by decide) ?_
    refine ru_lload d_Mo_value__203 rfl ?_
    refine ru_ldc2 d_Mo_value__205 lc_Mo_127 ?_
    refine ru_ldiv d_Mo_value__208 (by decide) ?_
    refine ru_eql (nl_div (a := (D.1*1000000+D.2)) (b := 1000000) (by omega) (by omega) (by omega) : _ = Int64.ofNat ((D.1*1000000+D.2) / 1000000)) ?_
    refine ru_eql (congrArg Int64.ofNat e1) ?_
    refine ru_lstore d_Mo_value__209 (by decide) ?_
    refine ru_aload_n d_Mo_value__211 rfl rfl ?_
    refine ru_callV (mc := 0) (ms := 0) d_Mo_value__212 lm_Mo_75 (sq_good hL) (rx_recv_is (ly hL 398 9 0) kx_Mo) (by decide) rfl (Nat.le_of_ble_eq_true rfl) ?_
    intro v τ h
    obtain ⟨rfl, rfl⟩ := h
    refine ru_if_eq (tgt := 232) d_Mo_value__215 (by decide) (fun h215 => absurd h215 (bI_ne0.mpr rfl)) (fun h215 => ?_)
    refine ru_lload d_Mo_value__218 rfl ?_
    refine ru_lload d_Mo_value__220 rfl ?_
    refine ru_lcmp d_Mo_value__222 ?_
    refine ru_if_ge (tgt := 232) d_Mo_value__223 (by decide) (fun h223 => ?_) (fun h223 => absurd ((lg_cmp_ge _ _).mpr (Int64.le_refl _)) h223)
    replace h223 := (lg_cmp_ge _ _).mp h223
    replace h223 := nl_le (a := D.1) (b := D.1) (by omega) (by omega) h223
    refine ru_to (end_ _ _ _ _ _ ?_) ⟨rfl, rfl, rfl, rfl, rfl, trivial⟩
    exact ⟨rfl, _, rfl, hfr _ _, hlo _ _, hhi _ _⟩
  · rw [cnd_f hc]
    have hU := sq_unitOf (ml := mlx) (j := j3) hL h (by omega)
    unfold uoP at hU
    cases eu : unt n t j3 with
    | none =>
      rw [eu] at hU
      refine ru_aload_n d_Mo_value__120 rfl rfl ?_
      refine ru_callV (mc := 0) (ms := 0) d_Mo_value__121 lm_Mo_75 (sq_good hL) (rx_recv_is (ly hL 398 9 0) kx_Mo) (by decide) rfl (Nat.le_of_ble_eq_true rfl) ?_
      intro v τ h
      obtain ⟨rfl, rfl⟩ := h
      refine ru_if_ne (tgt := 128) d_Mo_value__124 (by decide) (fun h124 => ?_) (fun h124 => absurd h124 (bI_ne0.mpr rfl))
      refine ru_lconst (v := 1) d_Mo_value__128 (by decide) ?_
      refine ru_lstore d_Mo_value__129 (by decide) ?_
      refine ru_aload_n d_Mo_value__131 rfl rfl ?_
      refine ru_callV (mc := 0) (ms := 0) d_Mo_value__132 lm_Mo_139 (sq_isBare hL hA hA2 hk' hκ) (rx_recv_is (ly hL 398 9 0) kx_Mo) (by decide) rfl (Nat.le_of_ble_eq_true rfl) ?_
      intro v τ h
      obtain ⟨rfl, rfl⟩ := h
      refine ru_if_ne (tgt := 195) d_Mo_value__135 (by decide) (fun h135 => absurd (bI_f hc) h135) (fun h135 => ?_)
      refine ru_aload_n d_Mo_value__138 rfl rfl ?_
      refine ru_callV (mc := 0) (ms := 0) d_Mo_value__139 lm_Mo_151 hU (rx_recv_is (ly hL 398 9 0) kx_Mo) (by decide) rfl (Nat.le_of_ble_eq_true rfl) ?_
      rintro v τ ⟨rfl, rfl⟩
      refine ru_lstore d_Mo_value__142 (by decide) ?_
      refine ru_aload_n d_Mo_value__144 rfl rfl ?_
      refine ru_callV (mc := 0) (ms := 0) d_Mo_value__145 lm_Mo_75 (sq_good hL) (rx_recv_is (ly hL 398 9 0) kx_Mo) (by decide) rfl (Nat.le_of_ble_eq_true rfl) ?_
      intro v τ h
      obtain ⟨rfl, rfl⟩ := h
      refine ru_if_eq (tgt := 162) d_Mo_value__148 (by decide) (fun h148 => ?_) (fun h148 => absurd (bI_f (nI_m1 (by omega))) h148)
      refine ru_aload_n d_Mo_value__162 rfl rfl ?_
      refine ru_callV (mc := 0) (ms := 0) d_Mo_value__163 lm_Mo_75 (sq_good hL) (rx_recv_is (ly hL 398 9 0) kx_Mo) (by decide) rfl (Nat.le_of_ble_eq_true rfl) ?_
      intro v τ h
      obtain ⟨rfl, rfl⟩ := h
      refine ru_if_eq (tgt := 211) d_Mo_value__166 (by decide) (fun h166 => ?_) (fun h166 => absurd (bI_f (nI_m1 (by omega))) h166)
      refine ru_aload_n d_Mo_value__211 rfl rfl ?_
      refine ru_callV (mc := 0) (ms := 0) d_Mo_value__212 lm_Mo_75 (sq_good hL) (rx_recv_is (ly hL 398 9 0) kx_Mo) (by decide) rfl (Nat.le_of_ble_eq_true rfl) ?_
      intro v τ h
      obtain ⟨rfl, rfl⟩ := h
      refine ru_if_eq (tgt := 232) d_Mo_value__215 (by decide) (fun h215 => ?_) (fun h215 => absurd (bI_f (nI_m1 (by omega))) h215)
      refine ru_to (end_ _ _ _ _ _ ?_) ⟨rfl, rfl, rfl, rfl, rfl, trivial⟩
      exact ⟨rfl, _, j3 + 1, rfl, by omega, hfr _ _⟩
    | some u =>
      rw [eu] at hU
      have hu5 : u < 5 := by
        rw [unt_eq] at eu
        unfold cnd at eu
        repeat' split at eu
        all_goals first | (cases eu; decide) | cases eu
      have hW := sq_whole (nx := nx) (ct := ct) (m0 := m0) (ml := mlx) (mr := mr) (w := nI (j3 + 1)) (k := nI j1) hL hD.1 (hun u hu5)
      unfold whP at hW
      dsimp only
      cases ea : cvt D (unN u) 1000000000000 with
      | none =>
        rw [ea] at hW
        refine ru_aload_n d_Mo_value__120 rfl rfl ?_
        refine ru_callV (mc := 0) (ms := 0) d_Mo_value__121 lm_Mo_75 (sq_good hL) (rx_recv_is (ly hL 398 9 0) kx_Mo) (by decide) rfl (Nat.le_of_ble_eq_true rfl) ?_
        intro v τ h
        obtain ⟨rfl, rfl⟩ := h
        refine ru_if_ne (tgt := 128) d_Mo_value__124 (by decide) (fun h124 => ?_) (fun h124 => absurd h124 (bI_ne0.mpr rfl))
        refine ru_lconst (v := 1) d_Mo_value__128 (by decide) ?_
        refine ru_lstore d_Mo_value__129 (by decide) ?_
        refine ru_aload_n d_Mo_value__131 rfl rfl ?_
        refine ru_callV (mc := 0) (ms := 0) d_Mo_value__132 lm_Mo_139 (sq_isBare hL hA hA2 hk' hκ) (rx_recv_is (ly hL 398 9 0) kx_Mo) (by decide) rfl (Nat.le_of_ble_eq_true rfl) ?_
        intro v τ h
        obtain ⟨rfl, rfl⟩ := h
        refine ru_if_ne (tgt := 195) d_Mo_value__135 (by decide) (fun h135 => absurd (bI_f hc) h135) (fun h135 => ?_)
        refine ru_aload_n d_Mo_value__138 rfl rfl ?_
        refine ru_callV (mc := 0) (ms := 0) d_Mo_value__139 lm_Mo_151 hU (rx_recv_is (ly hL 398 9 0) kx_Mo) (by decide) rfl (Nat.le_of_ble_eq_true rfl) ?_
        rintro v τ ⟨rfl, rfl⟩
        refine ru_lstore d_Mo_value__142 (by decide) ?_
        refine ru_aload_n d_Mo_value__144 rfl rfl ?_
        refine ru_callV (mc := 0) (ms := 0) d_Mo_value__145 lm_Mo_75 (sq_good hL) (rx_recv_is (ly hL 398 9 0) kx_Mo) (by decide) rfl (Nat.le_of_ble_eq_true rfl) ?_
        intro v τ h
        obtain ⟨rfl, rfl⟩ := h
        refine ru_if_eq (tgt := 162) d_Mo_value__148 (by decide) (fun h148 => absurd h148 (bI_ne0.mpr rfl)) (fun h148 => ?_)
        refine ru_aload_n d_Mo_value__151 rfl rfl ?_
        refine ru_lload d_Mo_value__152 rfl ?_
        refine ru_lload d_Mo_value__154 rfl ?_
        refine ru_iload_n d_Mo_value__156 rfl rfl ?_
        refine ru_callV (mc := 0) (ms := 0) d_Mo_value__157 lm_Mo_154 hW (rx_recv_is (ly hL 398 9 0) kx_Mo) (by decide) rfl (Nat.le_of_ble_eq_true rfl) ?_
        rintro v τ ⟨⟨xx, rfl⟩, rfl⟩
        refine ru_lstore d_Mo_value__160 (by decide) ?_
        refine ru_aload_n d_Mo_value__162 rfl rfl ?_
        refine ru_callV (mc := 0) (ms := 0) d_Mo_value__163 lm_Mo_75 (sq_good hL) (rx_recv_is (ly hL 398 9 0) kx_Mo) (by decide) rfl (Nat.le_of_ble_eq_true rfl) ?_
        intro v τ h
        obtain ⟨rfl, rfl⟩ := h
        refine ru_if_eq (tgt := 211) d_Mo_value__166 (by decide) (fun h166 => ?_) (fun h166 => absurd (bI_f (nI_m1 (by omega))) h166)
        refine ru_aload_n d_Mo_value__211 rfl rfl ?_
        refine ru_callV (mc := 0) (ms := 0) d_Mo_value__212 lm_Mo_75 (sq_good hL) (rx_recv_is (ly hL 398 9 0) kx_Mo) (by decide) rfl (Nat.le_of_ble_eq_true rfl) ?_
        intro v τ h
        obtain ⟨rfl, rfl⟩ := h
        refine ru_if_eq (tgt := 232) d_Mo_value__215 (by decide) (fun h215 => ?_) (fun h215 => absurd (bI_f (nI_m1 (by omega))) h215)
        refine ru_to (end_ _ _ _ _ _ ?_) ⟨rfl, rfl, rfl, rfl, rfl, trivial⟩
        exact ⟨rfl, _, j3 + 1, rfl, by omega, hfr _ _⟩
      | some a =>
        rw [ea] at hW
        have ha : a ≤ 1000000000000 := by
          unfold cvt at ea
          split at ea
          · next q => cases ea; exact q.2
          · cases ea
        refine ru_aload_n d_Mo_value__120 rfl rfl ?_
        refine ru_callV (mc := 0) (ms := 0) d_Mo_value__121 lm_Mo_75 (sq_good hL) (rx_recv_is (ly hL 398 9 0) kx_Mo) (by decide) rfl (Nat.le_of_ble_eq_true rfl) ?_
        intro v τ h
        obtain ⟨rfl, rfl⟩ := h
        refine ru_if_ne (tgt := 128) d_Mo_value__124 (by decide) (fun h124 => ?_) (fun h124 => absurd h124 (bI_ne0.mpr rfl))
        refine ru_lconst (v := 1) d_Mo_value__128 (by decide) ?_
        refine ru_lstore d_Mo_value__129 (by decide) ?_
        refine ru_aload_n d_Mo_value__131 rfl rfl ?_
        refine ru_callV (mc := 0) (ms := 0) d_Mo_value__132 lm_Mo_139 (sq_isBare hL hA hA2 hk' hκ) (rx_recv_is (ly hL 398 9 0) kx_Mo) (by decide) rfl (Nat.le_of_ble_eq_true rfl) ?_
        intro v τ h
        obtain ⟨rfl, rfl⟩ := h
        refine ru_if_ne (tgt := 195) d_Mo_value__135 (by decide) (fun h135 => absurd (bI_f hc) h135) (fun h135 => ?_)
        refine ru_aload_n d_Mo_value__138 rfl rfl ?_
        refine ru_callV (mc := 0) (ms := 0) d_Mo_value__139 lm_Mo_151 hU (rx_recv_is (ly hL 398 9 0) kx_Mo) (by decide) rfl (Nat.le_of_ble_eq_true rfl) ?_
        rintro v τ ⟨rfl, rfl⟩
        refine ru_lstore d_Mo_value__142 (by decide) ?_
        refine ru_aload_n d_Mo_value__144 rfl rfl ?_
        refine ru_callV (mc := 0) (ms := 0) d_Mo_value__145 lm_Mo_75 (sq_good hL) (rx_recv_is (ly hL 398 9 0) kx_Mo) (by decide) rfl (Nat.le_of_ble_eq_true rfl) ?_
        intro v τ h
        obtain ⟨rfl, rfl⟩ := h
        refine ru_if_eq (tgt := 162) d_Mo_value__148 (by decide) (fun h148 => absurd h148 (bI_ne0.mpr rfl)) (fun h148 => ?_)
        refine ru_aload_n d_Mo_value__151 rfl rfl ?_
        refine ru_lload d_Mo_value__152 rfl ?_
        refine ru_lload d_Mo_value__154 rfl ?_
        refine ru_iload_n d_Mo_value__156 rfl rfl ?_
        refine ru_callV (mc := 0) (ms := 0) d_Mo_value__157 lm_Mo_154 hW (rx_recv_is (ly hL 398 9 0) kx_Mo) (by decide) rfl (Nat.le_of_ble_eq_true rfl) ?_
        rintro v τ ⟨rfl, rfl⟩
        refine ru_lstore d_Mo_value__160 (by decide) ?_
        refine ru_aload_n d_Mo_value__162 rfl rfl ?_
        refine ru_callV (mc := 0) (ms := 0) d_Mo_value__163 lm_Mo_75 (sq_good hL) (rx_recv_is (ly hL 398 9 0) kx_Mo) (by decide) rfl (Nat.le_of_ble_eq_true rfl) ?_
        intro v τ h
        obtain ⟨rfl, rfl⟩ := h
        refine ru_if_eq (tgt := 211) d_Mo_value__166 (by decide) (fun h166 => absurd h166 (bI_ne0.mpr rfl)) (fun h166 => ?_)
        refine ru_iload d_Mo_value__169 rfl ?_
        refine ru_iconst (v := (-1)) d_Mo_value__171 (by decide) ?_
        refine ru_icmp_ne (tgt := 180) d_Mo_value__172 (by decide) (fun h172 => absurd rfl h172) (fun h172 => ?_)
        refine ru_lload d_Mo_value__175 rfl ?_
        refine ru_goto (tgt := 190) d_Mo_value__177 (by decide) ?_
        refine ru_lstore d_Mo_value__190 (by decide) ?_
        refine ru_goto (tgt := 211) d_Mo_value__192 (by decide) ?_
        refine ru_aload_n d_Mo_value__211 rfl rfl ?_
        refine ru_callV (mc := 0) (ms := 0) d_Mo_value__212 lm_Mo_75 (sq_good hL) (rx_recv_is (ly hL 398 9 0) kx_Mo) (by decide) rfl (Nat.le_of_ble_eq_true rfl) ?_
        intro v τ h
        obtain ⟨rfl, rfl⟩ := h
        refine ru_if_eq (tgt := 232) d_Mo_value__215 (by decide) (fun h215 => absurd h215 (bI_ne0.mpr rfl)) (fun h215 => ?_)
        refine ru_lload d_Mo_value__218 rfl ?_
        refine ru_lload d_Mo_value__220 rfl ?_
        refine ru_lcmp d_Mo_value__222 ?_
        refine ru_if_ge (tgt := 232) d_Mo_value__223 (by decide) (fun h223 => ?_) (fun h223 => absurd ((lg_cmp_ge _ _).mpr (Int64.le_refl _)) h223)
        replace h223 := (lg_cmp_ge _ _).mp h223
        replace h223 := nl_le (a := a) (b := a) (by omega) (by omega) h223
        refine ru_to (end_ _ _ _ _ _ ?_) ⟨rfl, rfl, rfl, rfl, rfl, trivial⟩
        exact ⟨rfl, _, rfl, hfr _ _, hlo _ _, hhi _ _⟩
theorem va_end2 {l mo : Prop} {A κ j1 j3 J : Nat} {D : Nat × Nat} {B : Nat × Nat} {mlx : Nat → Nat → Int64} (hL : LAY nx ct mr) (h : PMs n m t m0) (hA : m0 398 14 = nI A) (hA2 : A + 12 ≤ 1440) (hκ : κ < 13) (hk : ml 404 A = Int64.ofNat κ) (hj1 : j1 < 3900) (hj3 : j3 < 3900) (hJ : j3 + 1 ≤ J) (hD : (D.1 < 1000000000 ∧ D.2 < 1000000) ∧ (κ = 5 ∨ κ = 9 → D.2 = 0 ∧ D.1 ≤ 1000000)) (hB : (B.1 < 1000000000 ∧ B.2 < 1000000) ∧ (κ = 5 ∨ κ = 9 → B.2 = 0 ∧ B.1 ≤ 1000000)) (hf : fL (v89 A) ml mlx) : rx_W M_Mo_value_ 4 0 0 120 [(0, .ref 398), (1, .int (bI l)), (2, .int (bI mo)), (3, .int (nI j1)), (4, .long (Int64.ofNat (D.1 * 1000000 + D.2))), (6, .long (Int64.ofNat (B.1 * 1000000 + B.2))), (8, .int (nI (j1 + 2)))] [] (nx, ct, mS m0 (nI j3) (-1), mlx, mr) (pR (vbP l mo (pEnds n t (κ = 5 ∨ κ = 9) j1 D (some B) j3) J A nx ct m0 ml mr)) := by
  have hk' : mlx 404 A = Int64.ofNat κ := (hf.2 A (by omega)).trans hk
  have end_ : ∀ (w g : Int32) (x y : Int64) (post : Option Value → rx_S → Prop), post none (nx, ct, mS m0 w g, rx_u (rx_u mlx 404 (A + 8) (cnd mo (-1) x)) 404 (A + 9) (cnd l (-1) y), mr) → rx_W M_Mo_value_ 4 0 0 232 [(0, .ref 398), (1, .int (bI l)), (2, .int (bI mo)), (4, .long x), (6, .long y)] [] (nx, ct, mS m0 w g, mlx, mr) (pR post) := fun w g x y post hp => ru_post (fun v τ q => by obtain ⟨rfl, rfl⟩ := q; exact hp) (va_wr hL hA hA2)
  have hfr : ∀ x y : Int64, fL (v89 A) ml (rx_u (rx_u mlx 404 (A + 8) x) 404 (A + 9) y) := fun x y => (hf.set x (Or.inl rfl)).set y (Or.inr rfl)
  have hlo : ∀ x y : Int64, rx_u (rx_u mlx 404 (A + 8) x) 404 (A + 9) y 404 (A + 8) = x := fun x y => by rw [rx_u_k _ _ (by omega), rx_u_same]
  have hhi : ∀ x y : Int64, rx_u (rx_u mlx 404 (A + 8) x) 404 (A + 9) y 404 (A + 9) = y := fun x y => rx_u_same _ _ _ _
  unfold vbP pEnds
  have hun : ∀ u, u < 5 → 0 < unN u ∧ unN u ≤ 25400000 := by decide
  by_cases hc : κ = 5 ∨ κ = 9
  · rw [cnd_t hc]
    have hD2 := hD.2 hc
    have hB2 := hB.2 hc
    have e2 : (B.1 * 1000000 + B.2) / 1000000 = B.1 := e_div _ _ (by omega)
    have e1 : (D.1 * 1000000 + D.2) / 1000000 = D.1 := e_div _ _ (by omega)
    by_cases hlt : B.1 < D.1
    · dsimp only
      rw [if_pos hlt]
      refine ru_aload_n d_Mo_value__120 rfl rfl ?_
      refine ru_callV (mc := 0) (ms := 0) d_Mo_value__121 lm_Mo_75 (sq_good hL) (rx_recv_is (ly hL 398 9 0) kx_Mo) (by decide) rfl (Nat.le_of_ble_eq_true rfl) ?_
      intro v τ h
      obtain ⟨rfl, rfl⟩ := h
      refine ru_if_ne (tgt := 128) d_Mo_value__124 (by decide) (fun h124 => ?_) (fun h124 => absurd h124 (bI_ne0.mpr rfl))
      refine ru_lconst (v := 1) d_Mo_value__128 (by decide) ?_
      refine ru_lstore d_Mo_value__129 (by decide) ?_
      refine ru_aload_n d_Mo_value__131 rfl rfl ?_
      refine ru_callV (mc := 0) (ms := 0) d_Mo_value__132 lm_Mo_139 (sq_isBare hL hA hA2 hk' hκ) (rx_recv_is (ly hL 398 9 0) kx_Mo) (by decide) rfl (Nat.le_of_ble_eq_true rfl) ?_
      intro v τ h
      obtain ⟨rfl, rfl⟩ := h
      refine ru_if_ne (tgt := 195) d_Mo_value__135 (by decide) (fun h135 => ?_) (fun h135 => absurd h135 (bI_ne0.mpr hc))
      refine ru_lload d_Mo_value__195 rfl ?_
      refine ru_ldc2 d_Mo_value__197 lc_Mo_127 ?_
      refine ru_ldiv d_Mo_value__200 (by decide) ?_
      refine ru_eql (nl_div (a := (D.1*1000000+D.2)) (b := 1000000) (by omega) (by omega) (by omega) : _ = Int64.ofNat ((D.1*1000000+D.2) / 1000000)) ?_
      refine ru_eql (congrArg Int64.ofNat e1) ?_
      refine ru_lstore d_Mo_value__201 (by decide) ?_
      refine ru_lload d_Mo_value__203 rfl ?_
      refine ru_ldc2 d_Mo_value__205 lc_Mo_127 ?_
      refine ru_ldiv d_Mo_value__208 (by decide) ?_
      refine ru_eql (nl_div (a := (B.1*1000000+B.2)) (b := 1000000) (by omega) (by omega) (by omega) : _ = Int64.ofNat ((B.1*1000000+B.2) / 1000000)) ?_
      refine ru_eql (congrArg Int64.ofNat e2) ?_
      refine ru_lstore d_Mo_value__209 (by decide) ?_
      refine ru_aload_n d_Mo_value__211 rfl rfl ?_
      refine ru_callV (mc := 0) (ms := 0) d_Mo_value__212 lm_Mo_75 (sq_good hL) (rx_recv_is (ly hL 398 9 0) kx_Mo) (by decide) rfl (Nat.le_of_ble_eq_true rfl) ?_
      intro v τ h
      obtain ⟨rfl, rfl⟩ := h
      refine ru_if_eq (tgt := 232) d_Mo_value__215 (by decide) (fun h215 => absurd h215 (bI_ne0.mpr rfl)) (fun h215 => ?_)
      refine ru_lload d_Mo_value__218 rfl ?_
      refine ru_lload d_Mo_value__220 rfl ?_
      refine ru_lcmp d_Mo_value__222 ?_
      refine ru_if_ge (tgt := 232) d_Mo_value__223 (by decide) (fun h223 => ?_) (fun h223 => ?_)
      · skip
        replace h223 := (lg_cmp_ge _ _).mp h223
        replace h223 := nl_le (a := D.1) (b := B.1) (by omega) (by omega) h223
        first | (exfalso; omega) | (refine ru_to (end_ _ _ _ _ _ ?_) ⟨rfl, rfl, rfl, rfl, rfl, trivial⟩; exact ⟨rfl, _, j3, rfl, by omega, hfr _ _⟩)
      · skip
        replace h223 := fun q => h223 ((lg_cmp_ge _ _).mpr q)
        replace h223 := nl_nle (a := D.1) (b := B.1) (by omega) (by omega) h223
        refine ru_aload_n d_Mo_value__226 rfl rfl ?_
        refine ru_iload d_Mo_value__227 rfl ?_
        refine ru_callV (mc := 0) (ms := 0) d_Mo_value__229 lm_Mo_87 (sq_fail hL _) (rx_recv_is (ly hL 398 9 0) kx_Mo) (by decide) rfl (Nat.le_of_ble_eq_true rfl) ?_
        intro v τ h
        obtain ⟨rfl, rfl⟩ := h
        first | (exfalso; omega) | (refine ru_to (end_ _ _ _ _ _ ?_) ⟨rfl, rfl, rfl, rfl, rfl, trivial⟩; exact ⟨rfl, _, j3, rfl, by omega, hfr _ _⟩)
    · dsimp only
      rw [if_neg hlt]
      refine ru_aload_n d_Mo_value__120 rfl rfl ?_
      refine ru_callV (mc := 0) (ms := 0) d_Mo_value__121 lm_Mo_75 (sq_good hL) (rx_recv_is (ly hL 398 9 0) kx_Mo) (by decide) rfl (Nat.le_of_ble_eq_true rfl) ?_
      intro v τ h
      obtain ⟨rfl, rfl⟩ := h
      refine ru_if_ne (tgt := 128) d_Mo_value__124 (by decide) (fun h124 => ?_) (fun h124 => absurd h124 (bI_ne0.mpr rfl))
      refine ru_lconst (v := 1) d_Mo_value__128 (by decide) ?_
      refine ru_lstore d_Mo_value__129 (by decide) ?_
      refine ru_aload_n d_Mo_value__131 rfl rfl ?_
      refine ru_callV (mc := 0) (ms := 0) d_Mo_value__132 lm_Mo_139 (sq_isBare hL hA hA2 hk' hκ) (rx_recv_is (ly hL 398 9 0) kx_Mo) (by decide) rfl (Nat.le_of_ble_eq_true rfl) ?_
      intro v τ h
      obtain ⟨rfl, rfl⟩ := h
      refine ru_if_ne (tgt := 195) d_Mo_value__135 (by decide) (fun h135 => ?_) (fun h135 => absurd h135 (bI_ne0.mpr hc))
      refine ru_lload d_Mo_value__195 rfl ?_
      refine ru_ldc2 d_Mo_value__197 lc_Mo_127 ?_
      refine ru_ldiv d_Mo_value__200 (by decide) ?_
      refine ru_eql (nl_div (a := (D.1*1000000+D.2)) (b := 1000000) (by omega) (by omega) (by omega) : _ = Int64.ofNat ((D.1*1000000+D.2) / 1000000)) ?_
      refine ru_eql (congrArg Int64.ofNat e1) ?_
      refine ru_lstore d_Mo_value__201 (by decide) ?_
      refine ru_lload d_Mo_value__203 rfl ?_
      refine ru_ldc2 d_Mo_value__205 lc_Mo_127 ?_
      refine ru_ldiv d_Mo_value__208 (by decide) ?_
      refine ru_eql (nl_div (a := (B.1*1000000+B.2)) (b := 1000000) (by omega) (by omega) (by omega) : _ = Int64.ofNat ((B.1*1000000+B.2) / 1000000)) ?_
      refine ru_eql (congrArg Int64.ofNat e2) ?_
      refine ru_lstore d_Mo_value__209 (by decide) ?_
      refine ru_aload_n d_Mo_value__211 rfl rfl ?_
      refine ru_callV (mc := 0) (ms := 0) d_Mo_value__212 lm_Mo_75 (sq_good hL) (rx_recv_is (ly hL 398 9 0) kx_Mo) (by decide) rfl (Nat.le_of_ble_eq_true rfl) ?_
      intro v τ h
      obtain ⟨rfl, rfl⟩ := h
      refine ru_if_eq (tgt := 232) d_Mo_value__215 (by decide) (fun h215 => absurd h215 (bI_ne0.mpr rfl)) (fun h215 => ?_)
      refine ru_lload d_Mo_value__218 rfl ?_
      refine ru_lload d_Mo_value__220 rfl ?_
      refine ru_lcmp d_Mo_value__222 ?_
      refine ru_if_ge (tgt := 232) d_Mo_value__223 (by decide) (fun h223 => ?_) (fun h223 => ?_)
      · skip
        replace h223 := (lg_cmp_ge _ _).mp h223
        replace h223 := nl_le (a := D.1) (b := B.1) (by omega) (by omega) h223
        first | (exfalso; omega) | (refine ru_to (end_ _ _ _ _ _ ?_) ⟨rfl, rfl, rfl, rfl, rfl, trivial⟩; exact ⟨rfl, _, rfl, hfr _ _, hlo _ _, hhi _ _⟩)
      · skip
        replace h223 := fun q => h223 ((lg_cmp_ge _ _).mpr q)
        replace h223 := nl_nle (a := D.1) (b := B.1) (by omega) (by omega) h223
        refine ru_aload_n d_Mo_value__226 rfl rfl ?_
        refine ru_iload d_Mo_value__227 rfl ?_
        refine ru_callV (mc := 0) (ms := 0) d_Mo_value__229 lm_Mo_87 (sq_fail hL _) (rx_recv_is (ly hL 398 9 0) kx_Mo) (by decide) rfl (Nat.le_of_ble_eq_true rfl) ?_
        intro v τ h
        obtain ⟨rfl, rfl⟩ := h
        first | (exfalso; omega) | (refine ru_to (end_ _ _ _ _ _ ?_) ⟨rfl, rfl, rfl, rfl, rfl, trivial⟩; exact ⟨rfl, _, rfl, hfr _ _, hlo _ _, hhi _ _⟩)
  · rw [cnd_f hc]
    have hU := sq_unitOf (ml := mlx) (j := j3) hL h (by omega)
    unfold uoP at hU
    cases eu : unt n t j3 with
    | none =>
      rw [eu] at hU
      refine ru_aload_n d_Mo_value__120 rfl rfl ?_
      refine ru_callV (mc := 0) (ms := 0) d_Mo_value__121 lm_Mo_75 (sq_good hL) (rx_recv_is (ly hL 398 9 0) kx_Mo) (by decide) rfl (Nat.le_of_ble_eq_true rfl) ?_
      intro v τ h
      obtain ⟨rfl, rfl⟩ := h
      refine ru_if_ne (tgt := 128) d_Mo_value__124 (by decide) (fun h124 => ?_) (fun h124 => absurd h124 (bI_ne0.mpr rfl))
      refine ru_lconst (v := 1) d_Mo_value__128 (by decide) ?_
      refine ru_lstore d_Mo_value__129 (by decide) ?_
      refine ru_aload_n d_Mo_value__131 rfl rfl ?_
      refine ru_callV (mc := 0) (ms := 0) d_Mo_value__132 lm_Mo_139 (sq_isBare hL hA hA2 hk' hκ) (rx_recv_is (ly hL 398 9 0) kx_Mo) (by decide) rfl (Nat.le_of_ble_eq_true rfl) ?_
      intro v τ h
      obtain ⟨rfl, rfl⟩ := h
      refine ru_if_ne (tgt := 195) d_Mo_value__135 (by decide) (fun h135 => absurd (bI_f hc) h135) (fun h135 => ?_)
      refine ru_aload_n d_Mo_value__138 rfl rfl ?_
      refine ru_callV (mc := 0) (ms := 0) d_Mo_value__139 lm_Mo_151 hU (rx_recv_is (ly hL 398 9 0) kx_Mo) (by decide) rfl (Nat.le_of_ble_eq_true rfl) ?_
      rintro v τ ⟨rfl, rfl⟩
      refine ru_lstore d_Mo_value__142 (by decide) ?_
      refine ru_aload_n d_Mo_value__144 rfl rfl ?_
      refine ru_callV (mc := 0) (ms := 0) d_Mo_value__145 lm_Mo_75 (sq_good hL) (rx_recv_is (ly hL 398 9 0) kx_Mo) (by decide) rfl (Nat.le_of_ble_eq_true rfl) ?_
      intro v τ h
      obtain ⟨rfl, rfl⟩ := h
      refine ru_if_eq (tgt := 162) d_Mo_value__148 (by decide) (fun h148 => ?_) (fun h148 => absurd (bI_f (nI_m1 (by omega))) h148)
      refine ru_aload_n d_Mo_value__162 rfl rfl ?_
      refine ru_callV (mc := 0) (ms := 0) d_Mo_value__163 lm_Mo_75 (sq_good hL) (rx_recv_is (ly hL 398 9 0) kx_Mo) (by decide) rfl (Nat.le_of_ble_eq_true rfl) ?_
      intro v τ h
      obtain ⟨rfl, rfl⟩ := h
      refine ru_if_eq (tgt := 211) d_Mo_value__166 (by decide) (fun h166 => ?_) (fun h166 => absurd (bI_f (nI_m1 (by omega))) h166)
      refine ru_aload_n d_Mo_value__211 rfl rfl ?_
      refine ru_callV (mc := 0) (ms := 0) d_Mo_value__212 lm_Mo_75 (sq_good hL) (rx_recv_is (ly hL 398 9 0) kx_Mo) (by decide) rfl (Nat.le_of_ble_eq_true rfl) ?_
      intro v τ h
      obtain ⟨rfl, rfl⟩ := h
      refine ru_if_eq (tgt := 232) d_Mo_value__215 (by decide) (fun h215 => ?_) (fun h215 => absurd (bI_f (nI_m1 (by omega))) h215)
      refine ru_to (end_ _ _ _ _ _ ?_) ⟨rfl, rfl, rfl, rfl, rfl, trivial⟩
      exact ⟨rfl, _, j3 + 1, rfl, by omega, hfr _ _⟩
    | some u =>
      rw [eu] at hU
      have hu5 : u < 5 := by
        rw [unt_eq] at eu
        unfold cnd at eu
        repeat' split at eu
        all_goals first | (cases eu; decide) | cases eu
      have hW := sq_whole (nx := nx) (ct := ct) (m0 := m0) (ml := mlx) (mr := mr) (w := nI (j3 + 1)) (k := nI j1) hL hD.1 (hun u hu5)
      unfold whP at hW
      dsimp only
      cases ea : cvt D (unN u) 1000000000000 with
      | none =>
        rw [ea] at hW
        refine ru_aload_n d_Mo_value__120 rfl rfl ?_
        refine ru_callV (mc := 0) (ms := 0) d_Mo_value__121 lm_Mo_75 (sq_good hL) (rx_recv_is (ly hL 398 9 0) kx_Mo) (by decide) rfl (Nat.le_of_ble_eq_true rfl) ?_
        intro v τ h
        obtain ⟨rfl, rfl⟩ := h
        refine ru_if_ne (tgt := 128) d_Mo_value__124 (by decide) (fun h124 => ?_) (fun h124 => absurd h124 (bI_ne0.mpr rfl))
        refine ru_lconst (v := 1) d_Mo_value__128 (by decide) ?_
        refine ru_lstore d_Mo_value__129 (by decide) ?_
        refine ru_aload_n d_Mo_value__131 rfl rfl ?_
        refine ru_callV (mc := 0) (ms := 0) d_Mo_value__132 lm_Mo_139 (sq_isBare hL hA hA2 hk' hκ) (rx_recv_is (ly hL 398 9 0) kx_Mo) (by decide) rfl (Nat.le_of_ble_eq_true rfl) ?_
        intro v τ h
        obtain ⟨rfl, rfl⟩ := h
        refine ru_if_ne (tgt := 195) d_Mo_value__135 (by decide) (fun h135 => absurd (bI_f hc) h135) (fun h135 => ?_)
        refine ru_aload_n d_Mo_value__138 rfl rfl ?_
        refine ru_callV (mc := 0) (ms := 0) d_Mo_value__139 lm_Mo_151 hU (rx_recv_is (ly hL 398 9 0) kx_Mo) (by decide) rfl (Nat.le_of_ble_eq_true rfl) ?_
        rintro v τ ⟨rfl, rfl⟩
        refine ru_lstore d_Mo_value__142 (by decide) ?_
        refine ru_aload_n d_Mo_value__144 rfl rfl ?_
        refine ru_callV (mc := 0) (ms := 0) d_Mo_value__145 lm_Mo_75 (sq_good hL) (rx_recv_is (ly hL 398 9 0) kx_Mo) (by decide) rfl (Nat.le_of_ble_eq_true rfl) ?_
        intro v τ h
        obtain ⟨rfl, rfl⟩ := h
        refine ru_if_eq (tgt := 162) d_Mo_value__148 (by decide) (fun h148 => absurd h148 (bI_ne0.mpr rfl)) (fun h148 => ?_)
        refine ru_aload_n d_Mo_value__151 rfl rfl ?_
        refine ru_lload d_Mo_value__152 rfl ?_
        refine ru_lload d_Mo_value__154 rfl ?_
        refine ru_iload_n d_Mo_value__156 rfl rfl ?_
        refine ru_callV (mc := 0) (ms := 0) d_Mo_value__157 lm_Mo_154 hW (rx_recv_is (ly hL 398 9 0) kx_Mo) (by decide) rfl (Nat.le_of_ble_eq_true rfl) ?_
        rintro v τ ⟨⟨xx, rfl⟩, rfl⟩
        refine ru_lstore d_Mo_value__160 (by decide) ?_
        refine ru_aload_n d_Mo_value__162 rfl rfl ?_
        refine ru_callV (mc := 0) (ms := 0) d_Mo_value__163 lm_Mo_75 (sq_good hL) (rx_recv_is (ly hL 398 9 0) kx_Mo) (by decide) rfl (Nat.le_of_ble_eq_true rfl) ?_
        intro v τ h
        obtain ⟨rfl, rfl⟩ := h
        refine ru_if_eq (tgt := 211) d_Mo_value__166 (by decide) (fun h166 => ?_) (fun h166 => absurd (bI_f (nI_m1 (by omega))) h166)
        refine ru_aload_n d_Mo_value__211 rfl rfl ?_
        refine ru_callV (mc := 0) (ms := 0) d_Mo_value__212 lm_Mo_75 (sq_good hL) (rx_recv_is (ly hL 398 9 0) kx_Mo) (by decide) rfl (Nat.le_of_ble_eq_true rfl) ?_
        intro v τ h
        obtain ⟨rfl, rfl⟩ := h
        refine ru_if_eq (tgt := 232) d_Mo_value__215 (by decide) (fun h215 => ?_) (fun h215 => absurd (bI_f (nI_m1 (by omega))) h215)
        refine ru_to (end_ _ _ _ _ _ ?_) ⟨rfl, rfl, rfl, rfl, rfl, trivial⟩
        exact ⟨rfl, _, j3 + 1, rfl, by omega, hfr _ _⟩
      | some a =>
        rw [ea] at hW
        have ha : a ≤ 1000000000000 := by
          unfold cvt at ea
          split at ea
          · next q => cases ea; exact q.2
          · cases ea
        have hX := sq_whole (nx := nx) (ct := ct) (m0 := m0) (ml := mlx) (mr := mr) (w := nI (j3 + 1)) (k := nI (j1 + 2)) hL hB.1 (hun u hu5)
        unfold whP at hX
        dsimp only
        cases eb : cvt B (unN u) 1000000000000 with
        | none =>
          rw [eb] at hX
          refine ru_aload_n d_Mo_value__120 rfl rfl ?_
          refine ru_callV (mc := 0) (ms := 0) d_Mo_value__121 lm_Mo_75 (sq_good hL) (rx_recv_is (ly hL 398 9 0) kx_Mo) (by decide) rfl (Nat.le_of_ble_eq_true rfl) ?_
          intro v τ h
          obtain ⟨rfl, rfl⟩ := h
          refine ru_if_ne (tgt := 128) d_Mo_value__124 (by decide) (fun h124 => ?_) (fun h124 => absurd h124 (bI_ne0.mpr rfl))
          refine ru_lconst (v := 1) d_Mo_value__128 (by decide) ?_
          refine ru_lstore d_Mo_value__129 (by decide) ?_
          refine ru_aload_n d_Mo_value__131 rfl rfl ?_
          refine ru_callV (mc := 0) (ms := 0) d_Mo_value__132 lm_Mo_139 (sq_isBare hL hA hA2 hk' hκ) (rx_recv_is (ly hL 398 9 0) kx_Mo) (by decide) rfl (Nat.le_of_ble_eq_true rfl) ?_
          intro v τ h
          obtain ⟨rfl, rfl⟩ := h
          refine ru_if_ne (tgt := 195) d_Mo_value__135 (by decide) (fun h135 => absurd (bI_f hc) h135) (fun h135 => ?_)
          refine ru_aload_n d_Mo_value__138 rfl rfl ?_
          refine ru_callV (mc := 0) (ms := 0) d_Mo_value__139 lm_Mo_151 hU (rx_recv_is (ly hL 398 9 0) kx_Mo) (by decide) rfl (Nat.le_of_ble_eq_true rfl) ?_
          rintro v τ ⟨rfl, rfl⟩
          refine ru_lstore d_Mo_value__142 (by decide) ?_
          refine ru_aload_n d_Mo_value__144 rfl rfl ?_
          refine ru_callV (mc := 0) (ms := 0) d_Mo_value__145 lm_Mo_75 (sq_good hL) (rx_recv_is (ly hL 398 9 0) kx_Mo) (by decide) rfl (Nat.le_of_ble_eq_true rfl) ?_
          intro v τ h
          obtain ⟨rfl, rfl⟩ := h
          refine ru_if_eq (tgt := 162) d_Mo_value__148 (by decide) (fun h148 => absurd h148 (bI_ne0.mpr rfl)) (fun h148 => ?_)
          refine ru_aload_n d_Mo_value__151 rfl rfl ?_
          refine ru_lload d_Mo_value__152 rfl ?_
          refine ru_lload d_Mo_value__154 rfl ?_
          refine ru_iload_n d_Mo_value__156 rfl rfl ?_
          refine ru_callV (mc := 0) (ms := 0) d_Mo_value__157 lm_Mo_154 hW (rx_recv_is (ly hL 398 9 0) kx_Mo) (by decide) rfl (Nat.le_of_ble_eq_true rfl) ?_
          rintro v τ ⟨rfl, rfl⟩
          refine ru_lstore d_Mo_value__160 (by decide) ?_
          refine ru_aload_n d_Mo_value__162 rfl rfl ?_
          refine ru_callV (mc := 0) (ms := 0) d_Mo_value__163 lm_Mo_75 (sq_good hL) (rx_recv_is (ly hL 398 9 0) kx_Mo) (by decide) rfl (Nat.le_of_ble_eq_true rfl) ?_
          intro v τ h
          obtain ⟨rfl, rfl⟩ := h
          refine ru_if_eq (tgt := 211) d_Mo_value__166 (by decide) (fun h166 => absurd h166 (bI_ne0.mpr rfl)) (fun h166 => ?_)
          refine ru_iload d_Mo_value__169 rfl ?_
          refine ru_iconst (v := (-1)) d_Mo_value__171 (by decide) ?_
          refine ru_icmp_ne (tgt := 180) d_Mo_value__172 (by decide) (fun h172 => ?_) (fun h172 => absurd h172 (nI_m1 (by omega)))
          refine ru_aload_n d_Mo_value__180 rfl rfl ?_
          refine ru_lload d_Mo_value__181 rfl ?_
          refine ru_lload d_Mo_value__183 rfl ?_
          refine ru_iload d_Mo_value__185 rfl ?_
          refine ru_callV (mc := 0) (ms := 0) d_Mo_value__187 lm_Mo_154 hX (rx_recv_is (ly hL 398 9 0) kx_Mo) (by decide) rfl (Nat.le_of_ble_eq_true rfl) ?_
          rintro v τ ⟨⟨xx, rfl⟩, rfl⟩
          refine ru_lstore d_Mo_value__190 (by decide) ?_
          refine ru_goto (tgt := 211) d_Mo_value__192 (by decide) ?_
          refine ru_aload_n d_Mo_value__211 rfl rfl ?_
          refine ru_callV (mc := 0) (ms := 0) d_Mo_value__212 lm_Mo_75 (sq_good hL) (rx_recv_is (ly hL 398 9 0) kx_Mo) (by decide) rfl (Nat.le_of_ble_eq_true rfl) ?_
          intro v τ h
          obtain ⟨rfl, rfl⟩ := h
          refine ru_if_eq (tgt := 232) d_Mo_value__215 (by decide) (fun h215 => ?_) (fun h215 => absurd (bI_f (nI_m1 (by omega))) h215)
          refine ru_to (end_ _ _ _ _ _ ?_) ⟨rfl, rfl, rfl, rfl, rfl, trivial⟩
          exact ⟨rfl, _, j3 + 1, rfl, by omega, hfr _ _⟩
        | some b =>
          rw [eb] at hX
          have hb : b ≤ 1000000000000 := by
            unfold cvt at eb
            split at eb
            · next q => cases eb; exact q.2
            · cases eb
          dsimp only
          by_cases hlt : b < a
          · rw [if_pos hlt]
            refine ru_aload_n d_Mo_value__120 rfl rfl ?_
            refine ru_callV (mc := 0) (ms := 0) d_Mo_value__121 lm_Mo_75 (sq_good hL) (rx_recv_is (ly hL 398 9 0) kx_Mo) (by decide) rfl (Nat.le_of_ble_eq_true rfl) ?_
            intro v τ h
            obtain ⟨rfl, rfl⟩ := h
            refine ru_if_ne (tgt := 128) d_Mo_value__124 (by decide) (fun h124 => ?_) (fun h124 => absurd h124 (bI_ne0.mpr rfl))
            refine ru_lconst (v := 1) d_Mo_value__128 (by decide) ?_
            refine ru_lstore d_Mo_value__129 (by decide) ?_
            refine ru_aload_n d_Mo_value__131 rfl rfl ?_
            refine ru_callV (mc := 0) (ms := 0) d_Mo_value__132 lm_Mo_139 (sq_isBare hL hA hA2 hk' hκ) (rx_recv_is (ly hL 398 9 0) kx_Mo) (by decide) rfl (Nat.le_of_ble_eq_true rfl) ?_
            intro v τ h
            obtain ⟨rfl, rfl⟩ := h
            refine ru_if_ne (tgt := 195) d_Mo_value__135 (by decide) (fun h135 => absurd (bI_f hc) h135) (fun h135 => ?_)
            refine ru_aload_n d_Mo_value__138 rfl rfl ?_
            refine ru_callV (mc := 0) (ms := 0) d_Mo_value__139 lm_Mo_151 hU (rx_recv_is (ly hL 398 9 0) kx_Mo) (by decide) rfl (Nat.le_of_ble_eq_true rfl) ?_
            rintro v τ ⟨rfl, rfl⟩
            refine ru_lstore d_Mo_value__142 (by decide) ?_
            refine ru_aload_n d_Mo_value__144 rfl rfl ?_
            refine ru_callV (mc := 0) (ms := 0) d_Mo_value__145 lm_Mo_75 (sq_good hL) (rx_recv_is (ly hL 398 9 0) kx_Mo) (by decide) rfl (Nat.le_of_ble_eq_true rfl) ?_
            intro v τ h
            obtain ⟨rfl, rfl⟩ := h
            refine ru_if_eq (tgt := 162) d_Mo_value__148 (by decide) (fun h148 => absurd h148 (bI_ne0.mpr rfl)) (fun h148 => ?_)
            refine ru_aload_n d_Mo_value__151 rfl rfl ?_
            refine ru_lload d_Mo_value__152 rfl ?_
            refine ru_lload d_Mo_value__154 rfl ?_
            refine ru_iload_n d_Mo_value__156 rfl rfl ?_
            refine ru_callV (mc := 0) (ms := 0) d_Mo_value__157 lm_Mo_154 hW (rx_recv_is (ly hL 398 9 0) kx_Mo) (by decide) rfl (Nat.le_of_ble_eq_true rfl) ?_
            rintro v τ ⟨rfl, rfl⟩
            refine ru_lstore d_Mo_value__160 (by decide) ?_
            refine ru_aload_n d_Mo_value__162 rfl rfl ?_
            refine ru_callV (mc := 0) (ms := 0) d_Mo_value__163 lm_Mo_75 (sq_good hL) (rx_recv_is (ly hL 398 9 0) kx_Mo) (by decide) rfl (Nat.le_of_ble_eq_true rfl) ?_
            intro v τ h
            obtain ⟨rfl, rfl⟩ := h
            refine ru_if_eq (tgt := 211) d_Mo_value__166 (by decide) (fun h166 => absurd h166 (bI_ne0.mpr rfl)) (fun h166 => ?_)
            refine ru_iload d_Mo_value__169 rfl ?_
            refine ru_iconst (v := (-1)) d_Mo_value__171 (by decide) ?_
            refine ru_icmp_ne (tgt := 180) d_Mo_value__172 (by decide) (fun h172 => ?_) (fun h172 => absurd h172 (nI_m1 (by omega)))
            refine ru_aload_n d_Mo_value__180 rfl rfl ?_
            refine ru_lload d_Mo_value__181 rfl ?_
            refine ru_lload d_Mo_value__183 rfl ?_
            refine ru_iload d_Mo_value__185 rfl ?_
            refine ru_callV (mc := 0) (ms := 0) d_Mo_value__187 lm_Mo_154 hX (rx_recv_is (ly hL 398 9 0) kx_Mo) (by decide) rfl (Nat.le_of_ble_eq_true rfl) ?_
            rintro v τ ⟨rfl, rfl⟩
            refine ru_lstore d_Mo_value__190 (by decide) ?_
            refine ru_goto (tgt := 211) d_Mo_value__192 (by decide) ?_
            refine ru_aload_n d_Mo_value__211 rfl rfl ?_
            refine ru_callV (mc := 0) (ms := 0) d_Mo_value__212 lm_Mo_75 (sq_good hL) (rx_recv_is (ly hL 398 9 0) kx_Mo) (by decide) rfl (Nat.le_of_ble_eq_true rfl) ?_
            intro v τ h
            obtain ⟨rfl, rfl⟩ := h
            refine ru_if_eq (tgt := 232) d_Mo_value__215 (by decide) (fun h215 => absurd h215 (bI_ne0.mpr rfl)) (fun h215 => ?_)
            refine ru_lload d_Mo_value__218 rfl ?_
            refine ru_lload d_Mo_value__220 rfl ?_
            refine ru_lcmp d_Mo_value__222 ?_
            refine ru_if_ge (tgt := 232) d_Mo_value__223 (by decide) (fun h223 => ?_) (fun h223 => ?_)
            · skip
              replace h223 := (lg_cmp_ge _ _).mp h223
              replace h223 := nl_le (a := a) (b := b) (by omega) (by omega) h223
              first | (exfalso; omega) | (refine ru_to (end_ _ _ _ _ _ ?_) ⟨rfl, rfl, rfl, rfl, rfl, trivial⟩; exact ⟨rfl, _, j3 + 1, rfl, by omega, hfr _ _⟩)
            · skip
              replace h223 := fun q => h223 ((lg_cmp_ge _ _).mpr q)
              replace h223 := nl_nle (a := a) (b := b) (by omega) (by omega) h223
              refine ru_aload_n d_Mo_value__226 rfl rfl ?_
              refine ru_iload d_Mo_value__227 rfl ?_
              refine ru_callV (mc := 0) (ms := 0) d_Mo_value__229 lm_Mo_87 (sq_fail hL _) (rx_recv_is (ly hL 398 9 0) kx_Mo) (by decide) rfl (Nat.le_of_ble_eq_true rfl) ?_
              intro v τ h
              obtain ⟨rfl, rfl⟩ := h
              first | (exfalso; omega) | (refine ru_to (end_ _ _ _ _ _ ?_) ⟨rfl, rfl, rfl, rfl, rfl, trivial⟩; exact ⟨rfl, _, j3 + 1, rfl, by omega, hfr _ _⟩)
          · rw [if_neg hlt]
            refine ru_aload_n d_Mo_value__120 rfl rfl ?_
            refine ru_callV (mc := 0) (ms := 0) d_Mo_value__121 lm_Mo_75 (sq_good hL) (rx_recv_is (ly hL 398 9 0) kx_Mo) (by decide) rfl (Nat.le_of_ble_eq_true rfl) ?_
            intro v τ h
            obtain ⟨rfl, rfl⟩ := h
            refine ru_if_ne (tgt := 128) d_Mo_value__124 (by decide) (fun h124 => ?_) (fun h124 => absurd h124 (bI_ne0.mpr rfl))
            refine ru_lconst (v := 1) d_Mo_value__128 (by decide) ?_
            refine ru_lstore d_Mo_value__129 (by decide) ?_
            refine ru_aload_n d_Mo_value__131 rfl rfl ?_
            refine ru_callV (mc := 0) (ms := 0) d_Mo_value__132 lm_Mo_139 (sq_isBare hL hA hA2 hk' hκ) (rx_recv_is (ly hL 398 9 0) kx_Mo) (by decide) rfl (Nat.le_of_ble_eq_true rfl) ?_
            intro v τ h
            obtain ⟨rfl, rfl⟩ := h
            refine ru_if_ne (tgt := 195) d_Mo_value__135 (by decide) (fun h135 => absurd (bI_f hc) h135) (fun h135 => ?_)
            refine ru_aload_n d_Mo_value__138 rfl rfl ?_
            refine ru_callV (mc := 0) (ms := 0) d_Mo_value__139 lm_Mo_151 hU (rx_recv_is (ly hL 398 9 0) kx_Mo) (by decide) rfl (Nat.le_of_ble_eq_true rfl) ?_
            rintro v τ ⟨rfl, rfl⟩
            refine ru_lstore d_Mo_value__142 (by decide) ?_
            refine ru_aload_n d_Mo_value__144 rfl rfl ?_
            refine ru_callV (mc := 0) (ms := 0) d_Mo_value__145 lm_Mo_75 (sq_good hL) (rx_recv_is (ly hL 398 9 0) kx_Mo) (by decide) rfl (Nat.le_of_ble_eq_true rfl) ?_
            intro v τ h
            obtain ⟨rfl, rfl⟩ := h
            refine ru_if_eq (tgt := 162) d_Mo_value__148 (by decide) (fun h148 => absurd h148 (bI_ne0.mpr rfl)) (fun h148 => ?_)
            refine ru_aload_n d_Mo_value__151 rfl rfl ?_
            refine ru_lload d_Mo_value__152 rfl ?_
            refine ru_lload d_Mo_value__154 rfl ?_
            refine ru_iload_n d_Mo_value__156 rfl rfl ?_
            refine ru_callV (mc := 0) (ms := 0) d_Mo_value__157 lm_Mo_154 hW (rx_recv_is (ly hL 398 9 0) kx_Mo) (by decide) rfl (Nat.le_of_ble_eq_true rfl) ?_
            rintro v τ ⟨rfl, rfl⟩
            refine ru_lstore d_Mo_value__160 (by decide) ?_
            refine ru_aload_n d_Mo_value__162 rfl rfl ?_
            refine ru_callV (mc := 0) (ms := 0) d_Mo_value__163 lm_Mo_75 (sq_good hL) (rx_recv_is (ly hL 398 9 0) kx_Mo) (by decide) rfl (Nat.le_of_ble_eq_true rfl) ?_
            intro v τ h
            obtain ⟨rfl, rfl⟩ := h
            refine ru_if_eq (tgt := 211) d_Mo_value__166 (by decide) (fun h166 => absurd h166 (bI_ne0.mpr rfl)) (fun h166 => ?_)
            refine ru_iload d_Mo_value__169 rfl ?_
            refine ru_iconst (v := (-1)) d_Mo_value__171 (by decide) ?_
            refine ru_icmp_ne (tgt := 180) d_Mo_value__172 (by decide) (fun h172 => ?_) (fun h172 => absurd h172 (nI_m1 (by omega)))
            refine ru_aload_n d_Mo_value__180 rfl rfl ?_
            refine ru_lload d_Mo_value__181 rfl ?_
            refine ru_lload d_Mo_value__183 rfl ?_
            refine ru_iload d_Mo_value__185 rfl ?_
            refine ru_callV (mc := 0) (ms := 0) d_Mo_value__187 lm_Mo_154 hX (rx_recv_is (ly hL 398 9 0) kx_Mo) (by decide) rfl (Nat.le_of_ble_eq_true rfl) ?_
            rintro v τ ⟨rfl, rfl⟩
            refine ru_lstore d_Mo_value__190 (by decide) ?_
            refine ru_goto (tgt := 211) d_Mo_value__192 (by decide) ?_
            refine ru_aload_n d_Mo_value__211 rfl rfl ?_
            refine ru_callV (mc := 0) (ms := 0) d_Mo_value__212 lm_Mo_75 (sq_good hL) (rx_recv_is (ly hL 398 9 0) kx_Mo) (by decide) rfl (Nat.le_of_ble_eq_true rfl) ?_
            intro v τ h
            obtain ⟨rfl, rfl⟩ := h
            refine ru_if_eq (tgt := 232) d_Mo_value__215 (by decide) (fun h215 => absurd h215 (bI_ne0.mpr rfl)) (fun h215 => ?_)
            refine ru_lload d_Mo_value__218 rfl ?_
            refine ru_lload d_Mo_value__220 rfl ?_
            refine ru_lcmp d_Mo_value__222 ?_
            refine ru_if_ge (tgt := 232) d_Mo_value__223 (by decide) (fun h223 => ?_) (fun h223 => ?_)
            · skip
              replace h223 := (lg_cmp_ge _ _).mp h223
              replace h223 := nl_le (a := a) (b := b) (by omega) (by omega) h223
              first | (exfalso; omega) | (refine ru_to (end_ _ _ _ _ _ ?_) ⟨rfl, rfl, rfl, rfl, rfl, trivial⟩; exact ⟨rfl, _, rfl, hfr _ _, hlo _ _, hhi _ _⟩)
            · skip
              replace h223 := fun q => h223 ((lg_cmp_ge _ _).mpr q)
              replace h223 := nl_nle (a := a) (b := b) (by omega) (by omega) h223
              refine ru_aload_n d_Mo_value__226 rfl rfl ?_
              refine ru_iload d_Mo_value__227 rfl ?_
              refine ru_callV (mc := 0) (ms := 0) d_Mo_value__229 lm_Mo_87 (sq_fail hL _) (rx_recv_is (ly hL 398 9 0) kx_Mo) (by decide) rfl (Nat.le_of_ble_eq_true rfl) ?_
              intro v τ h
              obtain ⟨rfl, rfl⟩ := h
              first | (exfalso; omega) | (refine ru_to (end_ _ _ _ _ _ ?_) ⟨rfl, rfl, rfl, rfl, rfl, trivial⟩; exact ⟨rfl, _, rfl, hfr _ _, hlo _ _, hhi _ _⟩)
end
