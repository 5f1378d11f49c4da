/-! PURE WALKS: a method that has changed nothing yet -/
def rx_V (M : rx_M) (d mc ms pc : Nat) (lo : List (Nat × Value)) (st : List Value) (σ : rx_S) (post : rx_End) : Prop :=
  ∀ (l : Launch) (ev : rx_E) (p : Program) (e : Env) (s : State) (m : MethodId) (args : Array Value) (below : List Frame) (meth : Method) (c : Code), rx_C l ev M p s m args meth c →
    ∀ (R : Room) (mt sst : Nat) (ls : Array Slot), rx_at ev M d mc ms lo σ R s.heap [] 0 0 mt sst ls →
      W p l e R s m args below meth c s.heap [] 0 0 (post below ev args s mt sst) (F0 m pc ls (st.map (rx_tv ev)))
/-- it returns so, and nothing has changed -/
def pP (post : Option Value → Prop) : rx_End := fun below ev args s mt sst => MQ below (fun _ st o t => ∃ v : Option Value, o = .returned (v.map (rx_tv ev)) ∧ post v ∧ t.heap = st.heap) args s mt sst (fun _ => False)
def rx_Pure (y : MethodName) (M : rx_M) (d : Nat) (as : List Value) (σ : rx_S) (post : Option Value → Prop) : Prop :=
  ∀ (l : Launch), l.stackTraces = false → ∀ (ev : rx_E), Met l y (rx_ws y M) { frames := d, cells := 0, slots := 0, locals := 40 * d } (rx_P ev as σ) (fun _ st o t => ∃ v : Option Value, o = .returned (v.map (rx_tv ev)) ∧ post v ∧ t.heap = st.heap) 0 0 (fun _ => False)

section
variable {M : rx_M} {d mc ms pc : Nat} {lo : List (Nat × Value)} {st : List Value} {σ : rx_S} {post : rx_End}
theorem rv_iconst {n : Int} {v : Int32} (hd : decode M.2.1 pc = .ok (.iconst n, 1)) (hv : Int32.ofInt n = v) (k : rx_V M d mc ms (pc + 1) lo (.int v :: st) σ post) : rx_V M d mc ms pc lo (st) σ post := by
  intro l ev p e s m args below meth c C R mt sst ls A
  exact lv_iconst C.1 C.2.1 hd hv (k l ev p e s m args below meth c C R mt sst ls A)
theorem rv_bipush {n : Int} {v : Int32} (hd : decode M.2.1 pc = .ok (.bipush n, 2)) (hv : (Int8.ofInt n).toInt32 = v) (k : rx_V M d mc ms (pc + 2) lo (.int v :: st) σ post) : rx_V M d mc ms pc lo (st) σ post := by
  intro l ev p e s m args below meth c C R mt sst ls A
  exact lv_bipush C.1 C.2.1 hd hv (k l ev p e s m args below meth c C R mt sst ls A)
theorem rv_sipush {n : Int} {v : Int32} (hd : decode M.2.1 pc = .ok (.sipush n, 3)) (hv : (Int16.ofInt n).toInt32 = v) (k : rx_V M d mc ms (pc + 3) lo (.int v :: st) σ post) : rx_V M d mc ms pc lo (st) σ post := by
  intro l ev p e s m args below meth c C R mt sst ls A
  exact lv_sipush C.1 C.2.1 hd hv (k l ev p e s m args below meth c C R mt sst ls A)
theorem rv_lconst {n : Fin 2} {v : Int64} (hd : decode M.2.1 pc = .ok (.lconst n, 1)) (hv : Int64.ofNat (n : Nat) = v) (k : rx_V M d mc ms (pc + 1) lo (.long v :: st) σ post) : rx_V M d mc ms pc lo (st) σ post := by
  intro l ev p e s m args below meth c C R mt sst ls A
  exact lv_lconst C.1 C.2.1 hd hv (k l ev p e s m args below meth c C R mt sst ls A)
theorem rv_null  (hd : decode M.2.1 pc = .ok (.aconst_null, 1))  (k : rx_V M d mc ms (pc + 1) lo (.null :: st) σ post) : rx_V M d mc ms pc lo (st) σ post := by
  intro l ev p e s m args below meth c C R mt sst ls A
  exact lv_null C.1 C.2.1 hd  (k l ev p e s m args below meth c C R mt sst ls A)
theorem rv_iload {i : Nat} {x : Int32} (hd : decode M.2.1 pc = .ok (.iload i, 2)) (hl : rx_get i lo = some (.int x)) (k : rx_V M d mc ms (pc + 2) lo (.int x :: st) σ post) : rx_V M d mc ms pc lo (st) σ post := by
  intro l ev p e s m args below meth c C R mt sst ls A
  exact lv_iload C.1 C.2.1 hd (rx_ld A hl) (k l ev p e s m args below meth c C R mt sst ls A)
theorem rv_iload_n {n : Fin 4} {i : Nat} {x : Int32} (hd : decode M.2.1 pc = .ok (.iload_n n, 1)) (hi : (n : Nat) = i) (hl : rx_get i lo = some (.int x)) (k : rx_V M d mc ms (pc + 1) lo (.int x :: st) σ post) : rx_V M d mc ms pc lo (st) σ post := by
  intro l ev p e s m args below meth c C R mt sst ls A
  exact lv_iload_n C.1 C.2.1 hd hi (rx_ld A hl) (k l ev p e s m args below meth c C R mt sst ls A)
theorem rv_lload {i : Nat} {x : Int64} (hd : decode M.2.1 pc = .ok (.lload i, 2)) (hl : rx_get i lo = some (.long x)) (k : rx_V M d mc ms (pc + 2) lo (.long x :: st) σ post) : rx_V M d mc ms pc lo (st) σ post := by
  intro l ev p e s m args below meth c C R mt sst ls A
  exact lv_lload C.1 C.2.1 hd (rx_ld A hl) (k l ev p e s m args below meth c C R mt sst ls A)
theorem rv_lload_n {n : Fin 4} {i : Nat} {x : Int64} (hd : decode M.2.1 pc = .ok (.lload_n n, 1)) (hi : (n : Nat) = i) (hl : rx_get i lo = some (.long x)) (k : rx_V M d mc ms (pc + 1) lo (.long x :: st) σ post) : rx_V M d mc ms pc lo (st) σ post := by
  intro l ev p e s m args below meth c C R mt sst ls A
  exact lv_lload_n C.1 C.2.1 hd hi (rx_ld A hl) (k l ev p e s m args below meth c C R mt sst ls A)
theorem rv_aload {i x : Nat} (hd : decode M.2.1 pc = .ok (.aload i, 2)) (hl : rx_get i lo = some (.ref x)) (k : rx_V M d mc ms (pc + 2) lo (.ref x :: st) σ post) : rx_V M d mc ms pc lo (st) σ post := by
  intro l ev p e s m args below meth c C R mt sst ls A
  exact lv_aload C.1 C.2.1 hd (rx_ld A hl) (k l ev p e s m args below meth c C R mt sst ls A)
theorem rv_aload_n {n : Fin 4} {i x : Nat} (hd : decode M.2.1 pc = .ok (.aload_n n, 1)) (hi : (n : Nat) = i) (hl : rx_get i lo = some (.ref x)) (k : rx_V M d mc ms (pc + 1) lo (.ref x :: st) σ post) : rx_V M d mc ms pc lo (st) σ post := by
  intro l ev p e s m args below meth c C R mt sst ls A
  exact lv_aload_n C.1 C.2.1 hd hi (rx_ld A hl) (k l ev p e s m args below meth c C R mt sst ls A)
theorem rv_aloadN {i : Nat} (hd : decode M.2.1 pc = .ok (.aload i, 2)) (hl : rx_get i lo = some .null) (k : rx_V M d mc ms (pc + 2) lo (.null :: st) σ post) : rx_V M d mc ms pc lo (st) σ post := by
  intro l ev p e s m args below meth c C R mt sst ls A
  exact lv_aloadN C.1 C.2.1 hd (rx_ld A hl) (k l ev p e s m args below meth c C R mt sst ls A)
theorem rv_aload_nN {n : Fin 4} {i : Nat} (hd : decode M.2.1 pc = .ok (.aload_n n, 1)) (hi : (n : Nat) = i) (hl : rx_get i lo = some .null) (k : rx_V M d mc ms (pc + 1) lo (.null :: st) σ post) : rx_V M d mc ms pc lo (st) σ post := by
  intro l ev p e s m args below meth c C R mt sst ls A
  exact lv_aload_nN C.1 C.2.1 hd hi (rx_ld A hl) (k l ev p e s m args below meth c C R mt sst ls A)
theorem rv_istore {i : Nat} {x : Int32} (hd : decode M.2.1 pc = .ok (.istore i, 2)) (hn : i < M.2.2.1) (k : rx_V M d mc ms (pc + 2) (rx_st1 i (.int x) lo) st σ post) : rx_V M d mc ms pc lo ((.int x) :: st) σ post := by
  intro l ev p e s m args below meth c C R mt sst ls A
  refine lv_istore C.1 C.2.1 hd A.2.2.2.1 hn rfl (fun ls hl => ?_)
  exact k l ev p e s m args below meth c C R mt sst ls (A.lo (rx_st1_map hl))
theorem rv_istore_n {n : Fin 4} {i : Nat} {x : Int32} (hd : decode M.2.1 pc = .ok (.istore_n n, 1)) (hi : (n : Nat) = i) (hn : i < M.2.2.1) (k : rx_V M d mc ms (pc + 1) (rx_st1 i (.int x) lo) st σ post) : rx_V M d mc ms pc lo ((.int x) :: st) σ post := by
  intro l ev p e s m args below meth c C R mt sst ls A
  refine lv_istore_n C.1 C.2.1 hd hi A.2.2.2.1 hn rfl (fun ls hl => ?_)
  exact k l ev p e s m args below meth c C R mt sst ls (A.lo (rx_st1_map hl))
theorem rv_lstore {i : Nat} {x : Int64} (hd : decode M.2.1 pc = .ok (.lstore i, 2)) (hn : i + 1 < M.2.2.1) (k : rx_V M d mc ms (pc + 2) (rx_st2 i (.long x) lo) st σ post) : rx_V M d mc ms pc lo ((.long x) :: st) σ post := by
  intro l ev p e s m args below meth c C R mt sst ls A
  refine lv_lstore C.1 C.2.1 hd A.2.2.2.1 hn rfl (fun ls hl => ?_)
  exact k l ev p e s m args below meth c C R mt sst ls (A.lo (rx_st2_map hl))
theorem rv_lstore_n {n : Fin 4} {i : Nat} {x : Int64} (hd : decode M.2.1 pc = .ok (.lstore_n n, 1)) (hi : (n : Nat) = i) (hn : i + 1 < M.2.2.1) (k : rx_V M d mc ms (pc + 1) (rx_st2 i (.long x) lo) st σ post) : rx_V M d mc ms pc lo ((.long x) :: st) σ post := by
  intro l ev p e s m args below meth c C R mt sst ls A
  refine lv_lstore_n C.1 C.2.1 hd hi A.2.2.2.1 hn rfl (fun ls hl => ?_)
  exact k l ev p e s m args below meth c C R mt sst ls (A.lo (rx_st2_map hl))
theorem rv_astore {i : Nat} {x : Nat} (hd : decode M.2.1 pc = .ok (.astore i, 2)) (hn : i < M.2.2.1) (k : rx_V M d mc ms (pc + 2) (rx_st1 i (.ref x) lo) st σ post) : rx_V M d mc ms pc lo ((.ref x) :: st) σ post := by
  intro l ev p e s m args below meth c C R mt sst ls A
  refine lv_astore C.1 C.2.1 hd A.2.2.2.1 hn rfl (fun ls hl => ?_)
  exact k l ev p e s m args below meth c C R mt sst ls (A.lo (rx_st1_map hl))
theorem rv_astore_n {n : Fin 4} {i : Nat} {x : Nat} (hd : decode M.2.1 pc = .ok (.astore_n n, 1)) (hi : (n : Nat) = i) (hn : i < M.2.2.1) (k : rx_V M d mc ms (pc + 1) (rx_st1 i (.ref x) lo) st σ post) : rx_V M d mc ms pc lo ((.ref x) :: st) σ post := by
  intro l ev p e s m args below meth c C R mt sst ls A
  refine lv_astore_n C.1 C.2.1 hd hi A.2.2.2.1 hn rfl (fun ls hl => ?_)
  exact k l ev p e s m args below meth c C R mt sst ls (A.lo (rx_st1_map hl))
theorem rv_astoreN {i : Nat} (hd : decode M.2.1 pc = .ok (.astore i, 2)) (hn : i < M.2.2.1) (k : rx_V M d mc ms (pc + 2) (rx_st1 i (.null) lo) st σ post) : rx_V M d mc ms pc lo ((.null) :: st) σ post := by
  intro l ev p e s m args below meth c C R mt sst ls A
  refine lv_astoreN C.1 C.2.1 hd A.2.2.2.1 hn rfl (fun ls hl => ?_)
  exact k l ev p e s m args below meth c C R mt sst ls (A.lo (rx_st1_map hl))
theorem rv_astore_nN {n : Fin 4} {i : Nat} (hd : decode M.2.1 pc = .ok (.astore_n n, 1)) (hi : (n : Nat) = i) (hn : i < M.2.2.1) (k : rx_V M d mc ms (pc + 1) (rx_st1 i (.null) lo) st σ post) : rx_V M d mc ms pc lo ((.null) :: st) σ post := by
  intro l ev p e s m args below meth c C R mt sst ls A
  refine lv_astore_nN C.1 C.2.1 hd hi A.2.2.2.1 hn rfl (fun ls hl => ?_)
  exact k l ev p e s m args below meth c C R mt sst ls (A.lo (rx_st1_map hl))
theorem rv_iinc {i : Nat} {n : Int} {x v : Int32} (hd : decode M.2.1 pc = .ok (.iinc i n, 3)) (hl : rx_get i lo = some (.int x)) (hv : x + Int32.ofInt n = v) (hn : i < M.2.2.1) (k : rx_V M d mc ms (pc + 3) (rx_st1 i (.int v) lo) st σ post) : rx_V M d mc ms pc lo st σ post := by
  intro l ev p e s m args below meth c C R mt sst ls A
  obtain ⟨j, hj⟩ := List.getElem?_of_mem (rx_get_mem (ev := ev) hl)
  refine lv_iinc C.1 C.2.1 hd A.2.2.2.1 hj hv hn rfl (fun ls hl => ?_)
  exact k l ev p e s m args below meth c C R mt sst ls (A.lo (rx_st1_map hl))
theorem rv_iadd {x y : Int32} (hd : decode M.2.1 pc = .ok (.iadd, 1))  (k : rx_V M d mc ms (pc + 1) lo (.int (x + y) :: st) σ post) : rx_V M d mc ms pc lo (.int y :: .int x :: st) σ post := by
  intro l ev p e s m args below meth c C R mt sst ls A
  exact lv_iadd C.1 C.2.1 hd  (k l ev p e s m args below meth c C R mt sst ls A)
theorem rv_isub {x y : Int32} (hd : decode M.2.1 pc = .ok (.isub, 1))  (k : rx_V M d mc ms (pc + 1) lo (.int (x - y) :: st) σ post) : rx_V M d mc ms pc lo (.int y :: .int x :: st) σ post := by
  intro l ev p e s m args below meth c C R mt sst ls A
  exact lv_isub C.1 C.2.1 hd  (k l ev p e s m args below meth c C R mt sst ls A)
theorem rv_imul {x y : Int32} (hd : decode M.2.1 pc = .ok (.imul, 1))  (k : rx_V M d mc ms (pc + 1) lo (.int (x * y) :: st) σ post) : rx_V M d mc ms pc lo (.int y :: .int x :: st) σ post := by
  intro l ev p e s m args below meth c C R mt sst ls A
  exact lv_imul C.1 C.2.1 hd  (k l ev p e s m args below meth c C R mt sst ls A)
theorem rv_iand {x y : Int32} (hd : decode M.2.1 pc = .ok (.iand, 1))  (k : rx_V M d mc ms (pc + 1) lo (.int (x &&& y) :: st) σ post) : rx_V M d mc ms pc lo (.int y :: .int x :: st) σ post := by
  intro l ev p e s m args below meth c C R mt sst ls A
  exact lv_iand C.1 C.2.1 hd  (k l ev p e s m args below meth c C R mt sst ls A)
theorem rv_ior {x y : Int32} (hd : decode M.2.1 pc = .ok (.ior, 1))  (k : rx_V M d mc ms (pc + 1) lo (.int (x ||| y) :: st) σ post) : rx_V M d mc ms pc lo (.int y :: .int x :: st) σ post := by
  intro l ev p e s m args below meth c C R mt sst ls A
  exact lv_ior C.1 C.2.1 hd  (k l ev p e s m args below meth c C R mt sst ls A)
theorem rv_ixor {x y : Int32} (hd : decode M.2.1 pc = .ok (.ixor, 1))  (k : rx_V M d mc ms (pc + 1) lo (.int (x ^^^ y) :: st) σ post) : rx_V M d mc ms pc lo (.int y :: .int x :: st) σ post := by
  intro l ev p e s m args below meth c C R mt sst ls A
  exact lv_ixor C.1 C.2.1 hd  (k l ev p e s m args below meth c C R mt sst ls A)
theorem rv_ladd {x y : Int64} (hd : decode M.2.1 pc = .ok (.ladd, 1))  (k : rx_V M d mc ms (pc + 1) lo (.long (x + y) :: st) σ post) : rx_V M d mc ms pc lo (.long y :: .long x :: st) σ post := by
  intro l ev p e s m args below meth c C R mt sst ls A
  exact lv_ladd C.1 C.2.1 hd  (k l ev p e s m args below meth c C R mt sst ls A)
theorem rv_lsub {x y : Int64} (hd : decode M.2.1 pc = .ok (.lsub, 1))  (k : rx_V M d mc ms (pc + 1) lo (.long (x - y) :: st) σ post) : rx_V M d mc ms pc lo (.long y :: .long x :: st) σ post := by
  intro l ev p e s m args below meth c C R mt sst ls A
  exact lv_lsub C.1 C.2.1 hd  (k l ev p e s m args below meth c C R mt sst ls A)
theorem rv_lmul {x y : Int64} (hd : decode M.2.1 pc = .ok (.lmul, 1))  (k : rx_V M d mc ms (pc + 1) lo (.long (x * y) :: st) σ post) : rx_V M d mc ms pc lo (.long y :: .long x :: st) σ post := by
  intro l ev p e s m args below meth c C R mt sst ls A
  exact lv_lmul C.1 C.2.1 hd  (k l ev p e s m args below meth c C R mt sst ls A)
theorem rv_land {x y : Int64} (hd : decode M.2.1 pc = .ok (.land, 1))  (k : rx_V M d mc ms (pc + 1) lo (.long (x &&& y) :: st) σ post) : rx_V M d mc ms pc lo (.long y :: .long x :: st) σ post := by
  intro l ev p e s m args below meth c C R mt sst ls A
  exact lv_land C.1 C.2.1 hd  (k l ev p e s m args below meth c C R mt sst ls A)
theorem rv_lor {x y : Int64} (hd : decode M.2.1 pc = .ok (.lor, 1))  (k : rx_V M d mc ms (pc + 1) lo (.long (x ||| y) :: st) σ post) : rx_V M d mc ms pc lo (.long y :: .long x :: st) σ post := by
  intro l ev p e s m args below meth c C R mt sst ls A
  exact lv_lor C.1 C.2.1 hd  (k l ev p e s m args below meth c C R mt sst ls A)
theorem rv_lxor {x y : Int64} (hd : decode M.2.1 pc = .ok (.lxor, 1))  (k : rx_V M d mc ms (pc + 1) lo (.long (x ^^^ y) :: st) σ post) : rx_V M d mc ms pc lo (.long y :: .long x :: st) σ post := by
  intro l ev p e s m args below meth c C R mt sst ls A
  exact lv_lxor C.1 C.2.1 hd  (k l ev p e s m args below meth c C R mt sst ls A)
theorem rv_idiv {x y : Int32} (hd : decode M.2.1 pc = .ok (.idiv, 1)) (hne : ¬ y = 0) (k : rx_V M d mc ms (pc + 1) lo (.int (x / y) :: st) σ post) : rx_V M d mc ms pc lo (.int y :: .int x :: st) σ post := by
  intro l ev p e s m args below meth c C R mt sst ls A
  exact lv_idiv C.1 C.2.1 hd hne (k l ev p e s m args below meth c C R mt sst ls A)
theorem rv_irem {x y : Int32} (hd : decode M.2.1 pc = .ok (.irem, 1)) (hne : ¬ y = 0) (k : rx_V M d mc ms (pc + 1) lo (.int (x - x / y * y) :: st) σ post) : rx_V M d mc ms pc lo (.int y :: .int x :: st) σ post := by
  intro l ev p e s m args below meth c C R mt sst ls A
  exact lv_irem C.1 C.2.1 hd hne (k l ev p e s m args below meth c C R mt sst ls A)
theorem rv_ldiv {x y : Int64} (hd : decode M.2.1 pc = .ok (.ldiv, 1)) (hne : ¬ y = 0) (k : rx_V M d mc ms (pc + 1) lo (.long (x / y) :: st) σ post) : rx_V M d mc ms pc lo (.long y :: .long x :: st) σ post := by
  intro l ev p e s m args below meth c C R mt sst ls A
  exact lv_ldiv C.1 C.2.1 hd hne (k l ev p e s m args below meth c C R mt sst ls A)
theorem rv_lrem {x y : Int64} (hd : decode M.2.1 pc = .ok (.lrem, 1)) (hne : ¬ y = 0) (k : rx_V M d mc ms (pc + 1) lo (.long (x - x / y * y) :: st) σ post) : rx_V M d mc ms pc lo (.long y :: .long x :: st) σ post := by
  intro l ev p e s m args below meth c C R mt sst ls A
  exact lv_lrem C.1 C.2.1 hd hne (k l ev p e s m args below meth c C R mt sst ls A)
theorem rv_ineg {x : Int32} (hd : decode M.2.1 pc = .ok (.ineg, 1))  (k : rx_V M d mc ms (pc + 1) lo (.int (-x) :: st) σ post) : rx_V M d mc ms pc lo (.int x :: st) σ post := by
  intro l ev p e s m args below meth c C R mt sst ls A
  exact lv_ineg C.1 C.2.1 hd  (k l ev p e s m args below meth c C R mt sst ls A)
theorem rv_i2l {x : Int32} (hd : decode M.2.1 pc = .ok (.i2l, 1))  (k : rx_V M d mc ms (pc + 1) lo (.long x.toInt64 :: st) σ post) : rx_V M d mc ms pc lo (.int x :: st) σ post := by
  intro l ev p e s m args below meth c C R mt sst ls A
  exact lv_i2l C.1 C.2.1 hd rfl (k l ev p e s m args below meth c C R mt sst ls A)
theorem rv_l2i {x : Int64} (hd : decode M.2.1 pc = .ok (.l2i, 1))  (k : rx_V M d mc ms (pc + 1) lo (.int x.toInt32 :: st) σ post) : rx_V M d mc ms pc lo (.long x :: st) σ post := by
  intro l ev p e s m args below meth c C R mt sst ls A
  exact lv_l2i C.1 C.2.1 hd rfl (k l ev p e s m args below meth c C R mt sst ls A)
theorem rv_i2b {x : Int32} (hd : decode M.2.1 pc = .ok (.i2b, 1))  (k : rx_V M d mc ms (pc + 1) lo (.int x.toInt8.toInt32 :: st) σ post) : rx_V M d mc ms pc lo (.int x :: st) σ post := by
  intro l ev p e s m args below meth c C R mt sst ls A
  exact lv_i2b C.1 C.2.1 hd rfl (k l ev p e s m args below meth c C R mt sst ls A)
theorem rv_i2c {x : Int32} (hd : decode M.2.1 pc = .ok (.i2c, 1))  (k : rx_V M d mc ms (pc + 1) lo (.int (x.toUInt32 % 65536).toInt32 :: st) σ post) : rx_V M d mc ms pc lo (.int x :: st) σ post := by
  intro l ev p e s m args below meth c C R mt sst ls A
  exact lv_i2c C.1 C.2.1 hd rfl (k l ev p e s m args below meth c C R mt sst ls A)
theorem rv_iushr {x y : Int32} (hd : decode M.2.1 pc = .ok (.iushr, 1))  (k : rx_V M d mc ms (pc + 1) lo (.int (x.toUInt32 >>> (y.toUInt32 &&& Int32.toUInt32 31)).toInt32 :: st) σ post) : rx_V M d mc ms pc lo (.int y :: .int x :: st) σ post := by
  intro l ev p e s m args below meth c C R mt sst ls A
  exact lv_iushr C.1 C.2.1 hd rfl (k l ev p e s m args below meth c C R mt sst ls A)
theorem rv_lshl {x : Int64} {y : Int32} (hd : decode M.2.1 pc = .ok (.lshl, 1))  (k : rx_V M d mc ms (pc + 1) lo (.long (x <<< (y.toInt64 &&& 63)) :: st) σ post) : rx_V M d mc ms pc lo (.int y :: .long x :: st) σ post := by
  intro l ev p e s m args below meth c C R mt sst ls A
  exact lv_lshl C.1 C.2.1 hd rfl (k l ev p e s m args below meth c C R mt sst ls A)
theorem rv_ishl {x y : Int32} (hd : decode M.2.1 pc = .ok (.ishl, 1))  (k : rx_V M d mc ms (pc + 1) lo (.int (x <<< (y &&& 31)) :: st) σ post) : rx_V M d mc ms pc lo (.int y :: .int x :: st) σ post := by
  intro l ev p e s m args below meth c C R mt sst ls A
  exact lv_ishl C.1 C.2.1 hd  (k l ev p e s m args below meth c C R mt sst ls A)
theorem rv_ishr {x y : Int32} (hd : decode M.2.1 pc = .ok (.ishr, 1))  (k : rx_V M d mc ms (pc + 1) lo (.int (x >>> (y &&& 31)) :: st) σ post) : rx_V M d mc ms pc lo (.int y :: .int x :: st) σ post := by
  intro l ev p e s m args below meth c C R mt sst ls A
  exact lv_ishr C.1 C.2.1 hd  (k l ev p e s m args below meth c C R mt sst ls A)
theorem rv_lcmp {x y : Int64} (hd : decode M.2.1 pc = .ok (.lcmp, 1))  (k : rx_V M d mc ms (pc + 1) lo (.int (lg_cmp x y) :: st) σ post) : rx_V M d mc ms pc lo (.long y :: .long x :: st) σ post := by
  intro l ev p e s m args below meth c C R mt sst ls A
  exact W.lcmp C.1 C.2.1 hd  (k l ev p e s m args below meth c C R mt sst ls A)
theorem rv_dup {a : Value} (hd : decode M.2.1 pc = .ok (.dup, 1)) (ha : a.category = 1) (k : rx_V M d mc ms (pc + 1) lo (a :: a :: st) σ post) : rx_V M d mc ms pc lo (a :: st) σ post := by
  intro l ev p e s m args below meth c C R mt sst ls A
  exact lv_dup C.1 C.2.1 hd ((rx_tv_cat ev a).trans ha) (k l ev p e s m args below meth c C R mt sst ls A)
theorem rv_pop {a : Value} (hd : decode M.2.1 pc = .ok (.pop, 1)) (ha : a.category = 1) (k : rx_V M d mc ms (pc + 1) lo (st) σ post) : rx_V M d mc ms pc lo (a :: st) σ post := by
  intro l ev p e s m args below meth c C R mt sst ls A
  exact lv_pop C.1 C.2.1 hd ((rx_tv_cat ev a).trans ha) (k l ev p e s m args below meth c C R mt sst ls A)
theorem rv_dup_x1 {a b : Value} (hd : decode M.2.1 pc = .ok (.dup_x1, 1)) (ha : a.category = 1) (hb : b.category = 1) (k : rx_V M d mc ms (pc + 1) lo (a :: b :: a :: st) σ post) : rx_V M d mc ms pc lo (a :: b :: st) σ post := by
  intro l ev p e s m args below meth c C R mt sst ls A
  exact lv_dup_x1 C.1 C.2.1 hd ((rx_tv_cat ev a).trans ha) ((rx_tv_cat ev b).trans hb) (k l ev p e s m args below meth c C R mt sst ls A)
theorem rv_dup_x2 {a b v : Value} (hd : decode M.2.1 pc = .ok (.dup_x2, 1)) (ha : a.category = 1) (hb : b.category = 1) (hv : v.category = 1) (k : rx_V M d mc ms (pc + 1) lo (a :: b :: v :: a :: st) σ post) : rx_V M d mc ms pc lo (a :: b :: v :: st) σ post := by
  intro l ev p e s m args below meth c C R mt sst ls A
  exact lv_dup_x2 C.1 C.2.1 hd ((rx_tv_cat ev a).trans ha) ((rx_tv_cat ev b).trans hb) ((rx_tv_cat ev v).trans hv) (k l ev p e s m args below meth c C R mt sst ls A)
theorem rv_dup2 {a b : Value} (hd : decode M.2.1 pc = .ok (.dup2, 1)) (ha : a.category = 1) (hb : b.category = 1) (k : rx_V M d mc ms (pc + 1) lo (a :: b :: a :: b :: st) σ post) : rx_V M d mc ms pc lo (a :: b :: st) σ post := by
  intro l ev p e s m args below meth c C R mt sst ls A
  exact lv_dup2_11 C.1 C.2.1 hd ((rx_tv_cat ev a).trans ha) ((rx_tv_cat ev b).trans hb) (k l ev p e s m args below meth c C R mt sst ls A)
theorem rv_dup2L {a : Value} (hd : decode M.2.1 pc = .ok (.dup2, 1)) (ha : a.category = 2) (k : rx_V M d mc ms (pc + 1) lo (a :: a :: st) σ post) : rx_V M d mc ms pc lo (a :: st) σ post := by
  intro l ev p e s m args below meth c C R mt sst ls A
  exact lv_dup2_2 C.1 C.2.1 hd ((rx_tv_cat ev a).trans ha) (k l ev p e s m args below meth c C R mt sst ls A)
theorem rv_dup2_x1L {a b : Value} (hd : decode M.2.1 pc = .ok (.dup2_x1, 1)) (ha : a.category = 2) (hb : b.category = 1) (k : rx_V M d mc ms (pc + 1) lo (a :: b :: a :: st) σ post) : rx_V M d mc ms pc lo (a :: b :: st) σ post := by
  intro l ev p e s m args below meth c C R mt sst ls A
  exact lv_dup2_x1_2 C.1 C.2.1 hd ((rx_tv_cat ev a).trans ha) ((rx_tv_cat ev b).trans hb) (k l ev p e s m args below meth c C R mt sst ls A)
theorem rv_if_eq {x : Int32} {off : Int} {tgt : Nat} (hd : decode M.2.1 pc = .ok (.ifCond .eq off, 3)) (ht : (pc : Int) + off = (tgt : Int)) (kt : x = 0 → rx_V M d mc ms tgt lo st σ post) (kf : ¬ x = 0 → rx_V M d mc ms (pc + 3) lo st σ post) : rx_V M d mc ms pc lo (.int x :: st) σ post := by
  intro l ev p e s m args below meth c C R mt sst ls A
  exact lv_if_eq C.1 C.2.1 hd ht (fun h => kt h l ev p e s m args below meth c C R mt sst ls A) (fun h => kf h l ev p e s m args below meth c C R mt sst ls A)
theorem rv_icmp_eq {x y : Int32} {off : Int} {tgt : Nat} (hd : decode M.2.1 pc = .ok (.if_icmp .eq off, 3)) (ht : (pc : Int) + off = (tgt : Int)) (kt : x = y → rx_V M d mc ms tgt lo st σ post) (kf : ¬ x = y → rx_V M d mc ms (pc + 3) lo st σ post) : rx_V M d mc ms pc lo (.int y :: .int x :: st) σ post := by
  intro l ev p e s m args below meth c C R mt sst ls A
  exact lv_icmp_eq C.1 C.2.1 hd ht (fun h => kt h l ev p e s m args below meth c C R mt sst ls A) (fun h => kf h l ev p e s m args below meth c C R mt sst ls A)
theorem rv_if_ne {x : Int32} {off : Int} {tgt : Nat} (hd : decode M.2.1 pc = .ok (.ifCond .ne off, 3)) (ht : (pc : Int) + off = (tgt : Int)) (kt : ¬ x = 0 → rx_V M d mc ms tgt lo st σ post) (kf : x = 0 → rx_V M d mc ms (pc + 3) lo st σ post) : rx_V M d mc ms pc lo (.int x :: st) σ post := by
  intro l ev p e s m args below meth c C R mt sst ls A
  exact lv_if_ne C.1 C.2.1 hd ht (fun h => kt h l ev p e s m args below meth c C R mt sst ls A) (fun h => kf h l ev p e s m args below meth c C R mt sst ls A)
theorem rv_icmp_ne {x y : Int32} {off : Int} {tgt : Nat} (hd : decode M.2.1 pc = .ok (.if_icmp .ne off, 3)) (ht : (pc : Int) + off = (tgt : Int)) (kt : ¬ x = y → rx_V M d mc ms tgt lo st σ post) (kf : x = y → rx_V M d mc ms (pc + 3) lo st σ post) : rx_V M d mc ms pc lo (.int y :: .int x :: st) σ post := by
  intro l ev p e s m args below meth c C R mt sst ls A
  exact lv_icmp_ne C.1 C.2.1 hd ht (fun h => kt h l ev p e s m args below meth c C R mt sst ls A) (fun h => kf h l ev p e s m args below meth c C R mt sst ls A)
theorem rv_if_lt {x : Int32} {off : Int} {tgt : Nat} (hd : decode M.2.1 pc = .ok (.ifCond .lt off, 3)) (ht : (pc : Int) + off = (tgt : Int)) (kt : x < 0 → rx_V M d mc ms tgt lo st σ post) (kf : ¬ x < 0 → rx_V M d mc ms (pc + 3) lo st σ post) : rx_V M d mc ms pc lo (.int x :: st) σ post := by
  intro l ev p e s m args below meth c C R mt sst ls A
  exact lv_if_lt C.1 C.2.1 hd ht (fun h => kt h l ev p e s m args below meth c C R mt sst ls A) (fun h => kf h l ev p e s m args below meth c C R mt sst ls A)
theorem rv_icmp_lt {x y : Int32} {off : Int} {tgt : Nat} (hd : decode M.2.1 pc = .ok (.if_icmp .lt off, 3)) (ht : (pc : Int) + off = (tgt : Int)) (kt : x < y → rx_V M d mc ms tgt lo st σ post) (kf : ¬ x < y → rx_V M d mc ms (pc + 3) lo st σ post) : rx_V M d mc ms pc lo (.int y :: .int x :: st) σ post := by
  intro l ev p e s m args below meth c C R mt sst ls A
  exact lv_icmp_lt C.1 C.2.1 hd ht (fun h => kt h l ev p e s m args below meth c C R mt sst ls A) (fun h => kf h l ev p e s m args below meth c C R mt sst ls A)
theorem rv_if_ge {x : Int32} {off : Int} {tgt : Nat} (hd : decode M.2.1 pc = .ok (.ifCond .ge off, 3)) (ht : (pc : Int) + off = (tgt : Int)) (kt : 0 ≤ x → rx_V M d mc ms tgt lo st σ post) (kf : ¬ 0 ≤ x → rx_V M d mc ms (pc + 3) lo st σ post) : rx_V M d mc ms pc lo (.int x :: st) σ post := by
  intro l ev p e s m args below meth c C R mt sst ls A
  exact lv_if_ge C.1 C.2.1 hd ht (fun h => kt h l ev p e s m args below meth c C R mt sst ls A) (fun h => kf h l ev p e s m args below meth c C R mt sst ls A)
theorem rv_icmp_ge {x y : Int32} {off : Int} {tgt : Nat} (hd : decode M.2.1 pc = .ok (.if_icmp .ge off, 3)) (ht : (pc : Int) + off = (tgt : Int)) (kt : y ≤ x → rx_V M d mc ms tgt lo st σ post) (kf : ¬ y ≤ x → rx_V M d mc ms (pc + 3) lo st σ post) : rx_V M d mc ms pc lo (.int y :: .int x :: st) σ post := by
  intro l ev p e s m args below meth c C R mt sst ls A
  exact lv_icmp_ge C.1 C.2.1 hd ht (fun h => kt h l ev p e s m args below meth c C R mt sst ls A) (fun h => kf h l ev p e s m args below meth c C R mt sst ls A)
theorem rv_if_gt {x : Int32} {off : Int} {tgt : Nat} (hd : decode M.2.1 pc = .ok (.ifCond .gt off, 3)) (ht : (pc : Int) + off = (tgt : Int)) (kt : 0 < x → rx_V M d mc ms tgt lo st σ post) (kf : ¬ 0 < x → rx_V M d mc ms (pc + 3) lo st σ post) : rx_V M d mc ms pc lo (.int x :: st) σ post := by
  intro l ev p e s m args below meth c C R mt sst ls A
  exact lv_if_gt C.1 C.2.1 hd ht (fun h => kt h l ev p e s m args below meth c C R mt sst ls A) (fun h => kf h l ev p e s m args below meth c C R mt sst ls A)
theorem rv_icmp_gt {x y : Int32} {off : Int} {tgt : Nat} (hd : decode M.2.1 pc = .ok (.if_icmp .gt off, 3)) (ht : (pc : Int) + off = (tgt : Int)) (kt : y < x → rx_V M d mc ms tgt lo st σ post) (kf : ¬ y < x → rx_V M d mc ms (pc + 3) lo st σ post) : rx_V M d mc ms pc lo (.int y :: .int x :: st) σ post := by
  intro l ev p e s m args below meth c C R mt sst ls A
  exact lv_icmp_gt C.1 C.2.1 hd ht (fun h => kt h l ev p e s m args below meth c C R mt sst ls A) (fun h => kf h l ev p e s m args below meth c C R mt sst ls A)
theorem rv_if_le {x : Int32} {off : Int} {tgt : Nat} (hd : decode M.2.1 pc = .ok (.ifCond .le off, 3)) (ht : (pc : Int) + off = (tgt : Int)) (kt : x ≤ 0 → rx_V M d mc ms tgt lo st σ post) (kf : ¬ x ≤ 0 → rx_V M d mc ms (pc + 3) lo st σ post) : rx_V M d mc ms pc lo (.int x :: st) σ post := by
  intro l ev p e s m args below meth c C R mt sst ls A
  exact lv_if_le C.1 C.2.1 hd ht (fun h => kt h l ev p e s m args below meth c C R mt sst ls A) (fun h => kf h l ev p e s m args below meth c C R mt sst ls A)
theorem rv_icmp_le {x y : Int32} {off : Int} {tgt : Nat} (hd : decode M.2.1 pc = .ok (.if_icmp .le off, 3)) (ht : (pc : Int) + off = (tgt : Int)) (kt : x ≤ y → rx_V M d mc ms tgt lo st σ post) (kf : ¬ x ≤ y → rx_V M d mc ms (pc + 3) lo st σ post) : rx_V M d mc ms pc lo (.int y :: .int x :: st) σ post := by
  intro l ev p e s m args below meth c C R mt sst ls A
  exact lv_icmp_le C.1 C.2.1 hd ht (fun h => kt h l ev p e s m args below meth c C R mt sst ls A) (fun h => kf h l ev p e s m args below meth c C R mt sst ls A)
theorem rv_goto {off : Int} {tgt : Nat} (hd : decode M.2.1 pc = .ok (.goto off, 3)) (ht : (pc : Int) + off = (tgt : Int)) (k : rx_V M d mc ms tgt lo st σ post) : rx_V M d mc ms pc lo st σ post := by
  intro l ev p e s m args below meth c C R mt sst ls A
  exact lv_goto C.1 C.2.1 hd ht (k l ev p e s m args below meth c C R mt sst ls A)
theorem rv_ifnonnull {x : Nat} {off : Int} {tgt : Nat} (hd : decode M.2.1 pc = .ok (.ifnonnull off, 3)) (ht : (pc : Int) + off = (tgt : Int)) (k : rx_V M d mc ms tgt lo st σ post) : rx_V M d mc ms pc lo (.ref x :: st) σ post := by
  intro l ev p e s m args below meth c C R mt sst ls A
  exact lv_ifnonnull C.1 C.2.1 hd ht (k l ev p e s m args below meth c C R mt sst ls A)
theorem rv_ifnull {x : Nat} {off : Int} (hd : decode M.2.1 pc = .ok (.ifnull off, 3)) (k : rx_V M d mc ms (pc + 3) lo st σ post) : rx_V M d mc ms pc lo (.ref x :: st) σ post := by
  intro l ev p e s m args below meth c C R mt sst ls A
  exact lv_ifnull C.1 C.2.1 hd (k l ev p e s m args below meth c C R mt sst ls A)
theorem rv_ifnullN {off : Int} {tgt : Nat} (hd : decode M.2.1 pc = .ok (.ifnull off, 3)) (ht : (pc : Int) + off = (tgt : Int)) (k : rx_V M d mc ms tgt lo st σ post) : rx_V M d mc ms pc lo (.null :: st) σ post := by
  intro l ev p e s m args below meth c C R mt sst ls A
  exact lv_ifnullN C.1 C.2.1 hd ht (k l ev p e s m args below meth c C R mt sst ls A)
theorem rv_ifnonnullN {off : Int} (hd : decode M.2.1 pc = .ok (.ifnonnull off, 3)) (k : rx_V M d mc ms (pc + 3) lo st σ post) : rx_V M d mc ms pc lo (.null :: st) σ post := by
  intro l ev p e s m args below meth c C R mt sst ls A
  exact lv_ifnonnullN C.1 C.2.1 hd (k l ev p e s m args below meth c C R mt sst ls A)
theorem rv_tableOut {dflt a b : Int} {offs : Array Int} {len : Nat} {x : Int32} {tgt : Nat} (hd : decode M.2.1 pc = .ok (.tableswitch dflt a b offs, len)) (h : x.toInt < a ∨ b < x.toInt) (ht : (pc : Int) + dflt = (tgt : Int)) (k : rx_V M d mc ms tgt lo st σ post) : rx_V M d mc ms pc lo (.int x :: st) σ post := by
  intro l ev p e s m args below meth c C R mt sst ls A
  exact lv_tableOut C.1 C.2.1 hd h ht (k l ev p e s m args below meth c C R mt sst ls A)
theorem rv_tableIn {dflt a b : Int} {offs : Array Int} {len : Nat} {x : Int32} {off : Int} {tgt : Nat} (hd : decode M.2.1 pc = .ok (.tableswitch dflt a b offs, len)) (h1 : ¬ x.toInt < a) (h2 : ¬ b < x.toInt) (ho : offs[(x.toInt - a).toNat]? = some off) (ht : (pc : Int) + off = (tgt : Int)) (k : rx_V M d mc ms tgt lo st σ post) : rx_V M d mc ms pc lo (.int x :: st) σ post := by
  intro l ev p e s m args below meth c C R mt sst ls A
  exact lv_tableIn C.1 C.2.1 hd h1 h2 ho ht (k l ev p e s m args below meth c C R mt sst ls A)
theorem rv_lookup {dflt : Int} {ps : Array (Int × Int)} {len : Nat} {x : Int32} {off : Int} {tgt : Nat} (hd : decode M.2.1 pc = .ok (.lookupswitch dflt ps, len)) (hp : (ps.toList.zip (ps.toList.drop 1)).all (fun (a, next) => a.1 < next.1) = true) (ho : Op.lookupswitch.offset ps.toList dflt x.toInt = off) (ht : (pc : Int) + off = (tgt : Int)) (k : rx_V M d mc ms tgt lo st σ post) : rx_V M d mc ms pc lo (.int x :: st) σ post := by
  intro l ev p e s m args below meth c C R mt sst ls A
  exact lv_lookup C.1 C.2.1 hd hp ho ht (k l ev p e s m args below meth c C R mt sst ls A)
theorem rv_ldc {ix : Nat} {v : Int32} (hd : decode M.2.1 pc = .ok (.ldc ix, 2)) (hw : Cond.constant M.1 ix v ∈ rx_TB) (k : rx_V M d mc ms (pc + 2) lo (.int v :: st) σ post) : rx_V M d mc ms pc lo st σ post := by
  intro l ev p e s m args below meth c C R mt sst ls A
  exact lv_ldc C.1 C.2.1 C.2.2.2.1 (C.2.2.2.2.1 _ hw) hd (k l ev p e s m args below meth c C R mt sst ls A)
theorem rv_ldc2 {ix : Nat} {v : Int64} (hd : decode M.2.1 pc = .ok (.ldc2_w ix, 3)) (hw : Cond.constantLong M.1 ix v ∈ rx_TB) (k : rx_V M d mc ms (pc + 3) lo (.long v :: st) σ post) : rx_V M d mc ms pc lo st σ post := by
  intro l ev p e s m args below meth c C R mt sst ls A
  exact lv_ldc2 C.1 C.2.1 C.2.2.2.1 (C.2.2.2.2.1 _ hw) hd (k l ev p e s m args below meth c C R mt sst ls A)
theorem rv_eqi {x y : Int32} (h : x = y) (k : rx_V M d mc ms pc lo (.int y :: st) σ post) : rx_V M d mc ms pc lo (.int x :: st) σ post := h ▸ k
theorem rv_eql {x y : Int64} (h : x = y) (k : rx_V M d mc ms pc lo (.long y :: st) σ post) : rx_V M d mc ms pc lo (.long x :: st) σ post := h ▸ k
theorem rv_eqv {x y : Value} (h : x = y) (k : rx_V M d mc ms pc lo (y :: st) σ post) : rx_V M d mc ms pc lo (x :: st) σ post := h ▸ k
theorem rv_topi {x : Int32} (k : ∀ y : Int32, y = x → rx_V M d mc ms pc lo (.int y :: st) σ post) : rx_V M d mc ms pc lo (.int x :: st) σ post := k x rfl
theorem rv_topl {x : Int64} (k : ∀ y : Int64, y = x → rx_V M d mc ms pc lo (.long y :: st) σ post) : rx_V M d mc ms pc lo (.long x :: st) σ post := k x rfl
theorem rv_lo (lo' : List (Nat × Value)) (h : rx_sub lo' lo) (k : rx_V M d mc ms pc lo' st σ post) : rx_V M d mc ms pc lo st σ post := by
  intro l ev p e s m args below meth c C R mt sst ls A
  exact k l ev p e s m args below meth c C R mt sst ls (A.lo (rx_sub_has h A.2.2.2.1))
theorem rv_to {lo' : List (Nat × Value)} (k : rx_V M d mc ms pc lo' st σ post) (h : rx_sub lo' lo) : rx_V M d mc ms pc lo st σ post := rv_lo lo' h k
theorem rv_iret {post : Option Value → Prop} {v : Int32} (hd : decode M.2.1 pc = .ok (.ireturn, 1)) (hr : M.2.2.2.1 = some .int) (h : post (some (.int v))) : rx_V M d mc ms pc lo ([.int v]) σ (pP post) := by
  intro l ev p e s m args below meth c C R mt sst ls A
  obtain ⟨a1, a2, a3, a4, a5, a6, a7, a8, a9⟩ := A
  refine W.widen (k := mt) (n := sst) (by omega) (by omega) ?_
  exact W.iret C.1 C.2.1 (C.2.2.2.2.2.1.trans hr) (fun t ht hW => ⟨some (.int v), rfl, h, ht⟩) (fun q hq => by cases hq) hd C.2.2.2.2.2.2.1
theorem rv_lret {post : Option Value → Prop} {v : Int64} (hd : decode M.2.1 pc = .ok (.lreturn, 1)) (hr : M.2.2.2.1 = some .long) (h : post (some (.long v))) : rx_V M d mc ms pc lo ([.long v]) σ (pP post) := by
  intro l ev p e s m args below meth c C R mt sst ls A
  obtain ⟨a1, a2, a3, a4, a5, a6, a7, a8, a9⟩ := A
  refine W.widen (k := mt) (n := sst) (by omega) (by omega) ?_
  exact W.lret C.1 C.2.1 (C.2.2.2.2.2.1.trans hr) (fun t ht hW => ⟨some (.long v), rfl, h, ht⟩) (fun q hq => by cases hq) hd C.2.2.2.2.2.2.1
theorem rv_vret {post : Option Value → Prop}  (hd : decode M.2.1 pc = .ok (.return_, 1)) (hr : M.2.2.2.1 = none) (h : post (none)) : rx_V M d mc ms pc lo ([]) σ (pP post) := by
  intro l ev p e s m args below meth c C R mt sst ls A
  obtain ⟨a1, a2, a3, a4, a5, a6, a7, a8, a9⟩ := A
  refine W.widen (k := mt) (n := sst) (by omega) (by omega) ?_
  exact W.vret C.1 C.2.1 (C.2.2.2.2.2.1.trans hr) (fun t ht hW => ⟨none, rfl, h, ht⟩) (fun q hq => by cases hq) hd C.2.2.2.2.2.2.1
theorem rv_zret {post : Option Value → Prop} {v : Int32} {ty : FieldType} (hd : decode M.2.1 pc = .ok (.ireturn, 1)) (hr : M.2.2.2.1 = some ty) (hn : narrow ty (.int v) = .int v) (h : post (some (.int v))) : rx_V M d mc ms pc lo ([.int v]) σ (pP post) := by
  intro l ev p e s m args below meth c C R mt sst ls A
  obtain ⟨a1, a2, a3, a4, a5, a6, a7, a8, a9⟩ := A
  refine W.widen (k := mt) (n := sst) (by omega) (by omega) ?_
  exact W.zret C.1 C.2.1 (C.2.2.2.2.2.1.trans hr) hn (fun t ht hW => ⟨some (.int v), rfl, h, ht⟩) (fun q hq => by cases hq) hd C.2.2.2.2.2.2.1
theorem rv_aret {post : Option Value → Prop} {v : Nat} {ty : FieldType} (hd : decode M.2.1 pc = .ok (.areturn, 1)) (hr : M.2.2.2.1 = some ty) (hrt : (∃ n, ty = .object n) ∨ ∃ t, ty = .array t) (h : post (some (.ref v))) : rx_V M d mc ms pc lo ([.ref v]) σ (pP post) := by
  intro l ev p e s m args below meth c C R mt sst ls A
  obtain ⟨a1, a2, a3, a4, a5, a6, a7, a8, a9⟩ := A
  refine W.widen (k := mt) (n := sst) (by omega) (by omega) ?_
  exact W.aret C.1 C.2.1 (C.2.2.2.2.2.1.trans hr) hrt (Or.inr ⟨_, rfl⟩) (fun t ht hW => ⟨some (.ref v), rfl, h, ht⟩) (fun q hq => by cases hq) hd C.2.2.2.2.2.2.1
theorem rv_aretN {post : Option Value → Prop} {ty : FieldType} (hd : decode M.2.1 pc = .ok (.areturn, 1)) (hr : M.2.2.2.1 = some ty) (hrt : (∃ n, ty = .object n) ∨ ∃ t, ty = .array t) (h : post (some .null)) : rx_V M d mc ms pc lo ([.null]) σ (pP post) := by
  intro l ev p e s m args below meth c C R mt sst ls A
  obtain ⟨a1, a2, a3, a4, a5, a6, a7, a8, a9⟩ := A
  refine W.widen (k := mt) (n := sst) (by omega) (by omega) ?_
  exact W.aret C.1 C.2.1 (C.2.2.2.2.2.1.trans hr) hrt (Or.inl rfl) (fun t ht hW => ⟨some .null, rfl, h, ht⟩) (fun q hq => by cases hq) hd C.2.2.2.2.2.2.1
end
