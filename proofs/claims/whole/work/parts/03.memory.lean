/-! THE LAYER: one memory of numbered cells for the class and the reference; a method's walk over it -/
/-- next number, kind and length of each cell, its ints, its longs, its references -/
abbrev rx_S : Type := Nat × (Nat → Nat × Nat) × (Nat → Nat → Int32) × (Nat → Nat → Int64) × (Nat → Nat → Option Nat)
/-- classes, array classes, where the cells below 256 lie, the heap at the start, the script -/
abbrev rx_E : Type := va_G × (Nat → ClassId) × (Nat → Nat) × Heap × Nat × (Nat → Int32)
def rx_ea (ev : rx_E) (r : Nat) : Nat := if r < 256 then ev.2.2.1 r else ev.2.2.2.1.size + (r - 256)
def rx_tv (ev : rx_E) (v : Value) : Value := match v with
  | .ref a => .ref (rx_ea ev a)
  | w => w
def rx_u {α : Type} (f : Nat → Nat → α) (r k : Nat) (v : α) : Nat → Nat → α := va_up f r (va_up (f r) k v)
theorem rx_u_same {α : Type} (f : Nat → Nat → α) (r k : Nat) (v : α) : rx_u f r k v r k = v := by simp [rx_u, va_up]
theorem rx_u_k {α : Type} (f : Nat → Nat → α) {r k j : Nat} (v : α) (h : j ≠ k) : rx_u f r k v r j = f r j := by simp [rx_u, va_up, h]
theorem rx_u_r {α : Type} (f : Nat → Nat → α) {r k q : Nat} (v : α) (h : q ≠ r) : rx_u f r k v q = f q := by simp [rx_u, va_up, h]
theorem rx_u_at {α : Type} (f : Nat → Nat → α) (r k : Nat) (v : α) : rx_u f r k v r = va_up (f r) k v := by simp [rx_u, va_up]
theorem rx_u_u {α : Type} (f : Nat → Nat → α) (r k : Nat) (v w : α) : rx_u (rx_u f r k v) r k w = rx_u f r k w := by
  funext q j
  by_cases h : q = r
  · subst h
    by_cases hj : j = k
    · subst hj; rw [rx_u_same, rx_u_same]
    · rw [rx_u_k _ _ hj, rx_u_k _ _ hj, rx_u_k _ _ hj]
  · rw [rx_u_r _ _ h, rx_u_r _ _ h, rx_u_r _ _ h]
theorem rx_u_id {α : Type} (f : Nat → Nat → α) (r k : Nat) : rx_u f r k (f r k) = f := by
  funext q j
  by_cases h : q = r
  · subst h
    by_cases hj : j = k
    · subst hj; rw [rx_u_same]
    · rw [rx_u_k _ _ hj]
  · rw [rx_u_r _ _ h]
def rx_fv (ev : rx_E) (mi : Nat → Nat → Int32) (ml : Nat → Nat → Int64) (mr : Nat → Nat → Option Nat) (r : Nat) (t : FieldType) (k : Nat) : Value := match t with
  | .long => .long (ml r k)
  | .object _ => rx_tv ev (va_rf (mr r k))
  | .array _ => rx_tv ev (va_rf (mr r k))
  | _ => .int (mi r k)
def rx_con (ev : rx_E) (mi : Nat → Nat → Int32) (ml : Nat → Nat → Int64) (mr : Nat → Nat → Option Nat) (tg r : Nat) : (Nat → Int32) ⊕ (Nat → Int64) ⊕ (Nat → UInt32) ⊕ (Nat → UInt64) ⊕ (Nat → Option Nat) :=
  if tg < 104 then .inl (mi r) else if tg = 104 then .inr (.inl (ml r)) else .inr (.inr (.inr (.inr (fun i => (mr r i).map (rx_ea ev)))))
def rx_cell (ev : rx_E) (σ : rx_S) (r : Nat) (H : Heap) : Prop :=
  (∀ ci n, σ.2.1 r = (ci, n) → ci < 90 → ∃ q : vw_C, vwCl[ci]? = some q ∧ t_OB (rx_ea ev r) (ev.1.1 ci) q.2.2 (ev.1.2 ci) H (fun k => rx_fv ev σ.2.2.1 σ.2.2.2.1 σ.2.2.2.2 r (rx_ty ci k) k)) ∧
  (∀ tg n, σ.2.1 r = (tg, n) → 100 ≤ tg → H[rx_ea ev r]? = some (vp_cell (ev.2.1 tg) (n, rx_con ev σ.2.2.1 σ.2.2.2.1 σ.2.2.2.2 tg r))) ∧
  (∃ cell : Cell, H[rx_ea ev r]? = some cell ∧ cell.vm.isStatics = false)
def rx_R (ev : rx_E) (σ : rx_S) (H : Heap) : Prop :=
  256 ≤ σ.1 ∧ H.size = ev.2.2.2.1.size + (σ.1 - 256) ∧ (∀ q : Nat, q < ev.2.2.2.1.size → H[q]? = ev.2.2.2.1[q]?) ∧ (∀ r, 256 ≤ r → r < σ.1 → rx_cell ev σ r H) ∧ (σ.2.1 0 = (100, ev.2.2.2.2.1) ∧ ∀ j, j < ev.2.2.2.2.1 → σ.2.2.1 0 j = ev.2.2.2.2.2 j)
/-- cell r is of this kind and length -/
def rx_is (σ : rx_S) (r tg n : Nat) : Prop := 256 ≤ r ∧ r < σ.1 ∧ σ.2.1 r = (tg, n)
theorem rx_ea_in {ev : rx_E} {r : Nat} (h : 256 ≤ r) : rx_ea ev r = ev.2.2.2.1.size + (r - 256) := by
  unfold rx_ea
  rw [if_neg (by omega)]
theorem rx_ea_inj {ev : rx_E} {r q : Nat} (h : 256 ≤ r) (h2 : 256 ≤ q) (e : rx_ea ev r = rx_ea ev q) : r = q := by
  rw [rx_ea_in h, rx_ea_in h2] at e
  omega
theorem rx_R.new {ev : rx_E} {σ : rx_S} {H : Heap} (h : rx_R ev σ H) : rx_ea ev σ.1 = H.size := by
  rw [rx_ea_in h.1, h.2.1]
theorem rx_cell.kept {ev : rx_E} {σ σ' : rx_S} {r : Nat} {H H1 : Heap} (h : rx_cell ev σ r H) (hH : H1[rx_ea ev r]? = H[rx_ea ev r]?) (hc : σ'.2.1 r = σ.2.1 r) (hi : σ'.2.2.1 r = σ.2.2.1 r) (hl : σ'.2.2.2.1 r = σ.2.2.2.1 r) (hr : σ'.2.2.2.2 r = σ.2.2.2.2 r) : rx_cell ev σ' r H1 := by
  refine ⟨fun ci n e hci => ?_, fun tg n e htg => ?_, by rw [hH]; exact h.2.2⟩
  · obtain ⟨q, h1, h2⟩ := h.1 ci n (hc ▸ e) hci
    refine ⟨q, h1, (h2.kept hH).to (fun k _ => ?_)⟩
    show rx_fv _ _ _ _ r _ k = rx_fv _ _ _ _ r _ k
    unfold rx_fv
    split <;> simp only [hi, hl, hr]
  · rw [hH, h.2.1 tg n (hc ▸ e) htg]
    unfold rx_con
    simp only [hi, hl, hr]
/-- one cell changes -/
theorem rx_R.upd {ev : rx_E} {σ σ' : rx_S} {r : Nat} {H H1 : Heap} (h : rx_R ev σ H) (hr0 : 256 ≤ r) (hr1 : r < σ.1) (hn : σ'.1 = σ.1) (hz : H1.size = H.size) (ho : ∀ q : Nat, q ≠ rx_ea ev r → H1[q]? = H[q]?)
    (hs : ∀ q : Nat, q ≠ r → σ'.2.1 q = σ.2.1 q ∧ σ'.2.2.1 q = σ.2.2.1 q ∧ σ'.2.2.2.1 q = σ.2.2.2.1 q ∧ σ'.2.2.2.2 q = σ.2.2.2.2 q) (hc : rx_cell ev σ' r H1) : rx_R ev σ' H1 := by
  obtain ⟨h1, h2, h3, h4, h5, h6⟩ := h
  obtain ⟨z1, z2, -⟩ := hs 0 (by omega)
  refine ⟨by rw [hn]; exact h1, by rw [hz, hn]; exact h2, fun q hq => ?_, fun q hq0 hq1 => ?_, by rw [z1]; exact h5, fun j hj => by rw [z2]; exact h6 j hj⟩
  · rw [ho q (by rw [rx_ea_in hr0]; omega)]
    exact h3 q hq
  · by_cases e : q = r
    · subst e; exact hc
    · obtain ⟨s1, s2, s3, s4⟩ := hs q e
      exact (h4 q hq0 (by rw [← hn]; exact hq1)).kept (ho _ (fun z => e (rx_ea_inj hq0 hr0 z))) s1 s2 s3 s4
/-- one cell comes -/
theorem rx_R.grow {ev : rx_E} {σ σ' : rx_S} {H H1 : Heap} (h : rx_R ev σ H) (hn : σ'.1 = σ.1 + 1) (hz : H1.size = H.size + 1) (ho : ∀ q : Nat, q < H.size → H1[q]? = H[q]?)
    (hs : ∀ q : Nat, q ≠ σ.1 → σ'.2.1 q = σ.2.1 q ∧ σ'.2.2.1 q = σ.2.2.1 q ∧ σ'.2.2.2.1 q = σ.2.2.2.1 q ∧ σ'.2.2.2.2 q = σ.2.2.2.2 q) (hc : rx_cell ev σ' σ.1 H1) : rx_R ev σ' H1 := by
  obtain ⟨h1, h2, h3, h4, h5, h6⟩ := h
  obtain ⟨z1, z2, -⟩ := hs 0 (by omega)
  refine ⟨by omega, by rw [hz, hn, h2]; omega, fun q hq => ?_, fun q hq0 hq1 => ?_, by rw [z1]; exact h5, fun j hj => by rw [z2]; exact h6 j hj⟩
  · rw [ho q (by omega)]
    exact h3 q hq
  · by_cases e : q = σ.1
    · subst e; exact hc
    · obtain ⟨s1, s2, s3, s4⟩ := hs q e
      refine (h4 q hq0 (by omega)).kept (ho _ ?_) s1 s2 s3 s4
      rw [rx_ea_in hq0]; omega
