/-! ROWS OF THE LAYER: an instruction, a row -/
section
variable {M : rx_M} {d mc ms pc : Nat} {lo : List (Nat × Value)} {st : List Value} {σ : rx_S} {post : rx_End}
theorem ru_iconst {n : Int} {v : Int32} (hd : decode M.2.1 pc = .ok (.iconst n, 1)) (hv : Int32.ofInt n = v) (k : rx_W M d mc ms (pc + 1) lo (.int v :: st) σ post) : rx_W M d mc ms pc lo (st) σ post := by
  intro l ev p e s m args below meth c C R H locs cells slots mt sst ls A
  exact lv_iconst C.1 C.2.1 hd hv (k l ev p e s m args below meth c C R H locs cells slots mt sst ls A)
theorem ru_bipush {n : Int} {v : Int32} (hd : decode M.2.1 pc = .ok (.bipush n, 2)) (hv : (Int8.ofInt n).toInt32 = v) (k : rx_W M d mc ms (pc + 2) lo (.int v :: st) σ post) : rx_W M d mc ms pc lo (st) σ post := by
  intro l ev p e s m args below meth c C R H locs cells slots mt sst ls A
  exact lv_bipush C.1 C.2.1 hd hv (k l ev p e s m args below meth c C R H locs cells slots mt sst ls A)
theorem ru_sipush {n : Int} {v : Int32} (hd : decode M.2.1 pc = .ok (.sipush n, 3)) (hv : (Int16.ofInt n).toInt32 = v) (k : rx_W M d mc ms (pc + 3) lo (.int v :: st) σ post) : rx_W M d mc ms pc lo (st) σ post := by
  intro l ev p e s m args below meth c C R H locs cells slots mt sst ls A
  exact lv_sipush C.1 C.2.1 hd hv (k l ev p e s m args below meth c C R H locs cells slots mt sst ls A)
theorem ru_lconst {n : Fin 2} {v : Int64} (hd : decode M.2.1 pc = .ok (.lconst n, 1)) (hv : Int64.ofNat (n : Nat) = v) (k : rx_W M d mc ms (pc + 1) lo (.long v :: st) σ post) : rx_W M d mc ms pc lo (st) σ post := by
  intro l ev p e s m args below meth c C R H locs cells slots mt sst ls A
  exact lv_lconst C.1 C.2.1 hd hv (k l ev p e s m args below meth c C R H locs cells slots mt sst ls A)
theorem ru_null  (hd : decode M.2.1 pc = .ok (.aconst_null, 1))  (k : rx_W M d mc ms (pc + 1) lo (.null :: st) σ post) : rx_W M d mc ms pc lo (st) σ post := by
  intro l ev p e s m args below meth c C R H locs cells slots mt sst ls A
  exact lv_null C.1 C.2.1 hd  (k l ev p e s m args below meth c C R H locs cells slots mt sst ls A)
theorem ru_iload {i : Nat} {x : Int32} (hd : decode M.2.1 pc = .ok (.iload i, 2)) (hl : rx_get i lo = some (.int x)) (k : rx_W M d mc ms (pc + 2) lo (.int x :: st) σ post) : rx_W M d mc ms pc lo (st) σ post := by
  intro l ev p e s m args below meth c C R H locs cells slots mt sst ls A
  exact lv_iload C.1 C.2.1 hd (rx_ld A hl) (k l ev p e s m args below meth c C R H locs cells slots mt sst ls A)
theorem ru_iload_n {n : Fin 4} {i : Nat} {x : Int32} (hd : decode M.2.1 pc = .ok (.iload_n n, 1)) (hi : (n : Nat) = i) (hl : rx_get i lo = some (.int x)) (k : rx_W M d mc ms (pc + 1) lo (.int x :: st) σ post) : rx_W M d mc ms pc lo (st) σ post := by
  intro l ev p e s m args below meth c C R H locs cells slots mt sst ls A
  exact lv_iload_n C.1 C.2.1 hd hi (rx_ld A hl) (k l ev p e s m args below meth c C R H locs cells slots mt sst ls A)
theorem ru_lload {i : Nat} {x : Int64} (hd : decode M.2.1 pc = .ok (.lload i, 2)) (hl : rx_get i lo = some (.long x)) (k : rx_W M d mc ms (pc + 2) lo (.long x :: st) σ post) : rx_W M d mc ms pc lo (st) σ post := by
  intro l ev p e s m args below meth c C R H locs cells slots mt sst ls A
  exact lv_lload C.1 C.2.1 hd (rx_ld A hl) (k l ev p e s m args below meth c C R H locs cells slots mt sst ls A)
theorem ru_lload_n {n : Fin 4} {i : Nat} {x : Int64} (hd : decode M.2.1 pc = .ok (.lload_n n, 1)) (hi : (n : Nat) = i) (hl : rx_get i lo = some (.long x)) (k : rx_W M d mc ms (pc + 1) lo (.long x :: st) σ post) : rx_W M d mc ms pc lo (st) σ post := by
  intro l ev p e s m args below meth c C R H locs cells slots mt sst ls A
  exact lv_lload_n C.1 C.2.1 hd hi (rx_ld A hl) (k l ev p e s m args below meth c C R H locs cells slots mt sst ls A)
theorem ru_aload {i x : Nat} (hd : decode M.2.1 pc = .ok (.aload i, 2)) (hl : rx_get i lo = some (.ref x)) (k : rx_W M d mc ms (pc + 2) lo (.ref x :: st) σ post) : rx_W M d mc ms pc lo (st) σ post := by
  intro l ev p e s m args below meth c C R H locs cells slots mt sst ls A
  exact lv_aload C.1 C.2.1 hd (rx_ld A hl) (k l ev p e s m args below meth c C R H locs cells slots mt sst ls A)
theorem ru_aload_n {n : Fin 4} {i x : Nat} (hd : decode M.2.1 pc = .ok (.aload_n n, 1)) (hi : (n : Nat) = i) (hl : rx_get i lo = some (.ref x)) (k : rx_W M d mc ms (pc + 1) lo (.ref x :: st) σ post) : rx_W M d mc ms pc lo (st) σ post := by
  intro l ev p e s m args below meth c C R H locs cells slots mt sst ls A
  exact lv_aload_n C.1 C.2.1 hd hi (rx_ld A hl) (k l ev p e s m args below meth c C R H locs cells slots mt sst ls A)
theorem ru_aloadN {i : Nat} (hd : decode M.2.1 pc = .ok (.aload i, 2)) (hl : rx_get i lo = some .null) (k : rx_W M d mc ms (pc + 2) lo (.null :: st) σ post) : rx_W M d mc ms pc lo (st) σ post := by
  intro l ev p e s m args below meth c C R H locs cells slots mt sst ls A
  exact lv_aloadN C.1 C.2.1 hd (rx_ld A hl) (k l ev p e s m args below meth c C R H locs cells slots mt sst ls A)
theorem ru_aload_nN {n : Fin 4} {i : Nat} (hd : decode M.2.1 pc = .ok (.aload_n n, 1)) (hi : (n : Nat) = i) (hl : rx_get i lo = some .null) (k : rx_W M d mc ms (pc + 1) lo (.null :: st) σ post) : rx_W M d mc ms pc lo (st) σ post := by
  intro l ev p e s m args below meth c C R H locs cells slots mt sst ls A
  exact lv_aload_nN C.1 C.2.1 hd hi (rx_ld A hl) (k l ev p e s m args below meth c C R H locs cells slots mt sst ls A)
theorem ru_istore {i : Nat} {x : Int32} (hd : decode M.2.1 pc = .ok (.istore i, 2)) (hn : i < M.2.2.1) (k : rx_W M d mc ms (pc + 2) (rx_st1 i (.int x) lo) st σ post) : rx_W M d mc ms pc lo ((.int x) :: st) σ post := by
  intro l ev p e s m args below meth c C R H locs cells slots mt sst ls A
  refine lv_istore C.1 C.2.1 hd A.2.2.2.1 hn rfl (fun ls hl => ?_)
  exact k l ev p e s m args below meth c C R H locs cells slots mt sst ls (A.lo (rx_st1_map hl))
theorem ru_istore_n {n : Fin 4} {i : Nat} {x : Int32} (hd : decode M.2.1 pc = .ok (.istore_n n, 1)) (hi : (n : Nat) = i) (hn : i < M.2.2.1) (k : rx_W M d mc ms (pc + 1) (rx_st1 i (.int x) lo) st σ post) : rx_W M d mc ms pc lo ((.int x) :: st) σ post := by
  intro l ev p e s m args below meth c C R H locs cells slots mt sst ls A
  refine lv_istore_n C.1 C.2.1 hd hi A.2.2.2.1 hn rfl (fun ls hl => ?_)
  exact k l ev p e s m args below meth c C R H locs cells slots mt sst ls (A.lo (rx_st1_map hl))
theorem ru_lstore {i : Nat} {x : Int64} (hd : decode M.2.1 pc = .ok (.lstore i, 2)) (hn : i + 1 < M.2.2.1) (k : rx_W M d mc ms (pc + 2) (rx_st2 i (.long x) lo) st σ post) : rx_W M d mc ms pc lo ((.long x) :: st) σ post := by
  intro l ev p e s m args below meth c C R H locs cells slots mt sst ls A
  refine lv_lstore C.1 C.2.1 hd A.2.2.2.1 hn rfl (fun ls hl => ?_)
  exact k l ev p e s m args below meth c C R H locs cells slots mt sst ls (A.lo (rx_st2_map hl))
theorem ru_lstore_n {n : Fin 4} {i : Nat} {x : Int64} (hd : decode M.2.1 pc = .ok (.lstore_n n, 1)) (hi : (n : Nat) = i) (hn : i + 1 < M.2.2.1) (k : rx_W M d mc ms (pc + 1) (rx_st2 i (.long x) lo) st σ post) : rx_W M d mc ms pc lo ((.long x) :: st) σ post := by
  intro l ev p e s m args below meth c C R H locs cells slots mt sst ls A
  refine lv_lstore_n C.1 C.2.1 hd hi A.2.2.2.1 hn rfl (fun ls hl => ?_)
  exact k l ev p e s m args below meth c C R H locs cells slots mt sst ls (A.lo (rx_st2_map hl))
theorem ru_astore {i : Nat} {x : Nat} (hd : decode M.2.1 pc = .ok (.astore i, 2)) (hn : i < M.2.2.1) (k : rx_W M d mc ms (pc + 2) (rx_st1 i (.ref x) lo) st σ post) : rx_W M d mc ms pc lo ((.ref x) :: st) σ post := by
  intro l ev p e s m args below meth c C R H locs cells slots mt sst ls A
  refine lv_astore C.1 C.2.1 hd A.2.2.2.1 hn rfl (fun ls hl => ?_)
  exact k l ev p e s m args below meth c C R H locs cells slots mt sst ls (A.lo (rx_st1_map hl))
theorem ru_astore_n {n : Fin 4} {i : Nat} {x : Nat} (hd : decode M.2.1 pc = .ok (.astore_n n, 1)) (hi : (n : Nat) = i) (hn : i < M.2.2.1) (k : rx_W M d mc ms (pc + 1) (rx_st1 i (.ref x) lo) st σ post) : rx_W M d mc ms pc lo ((.ref x) :: st) σ post := by
  intro l ev p e s m args below meth c C R H locs cells slots mt sst ls A
  refine lv_astore_n C.1 C.2.1 hd hi A.2.2.2.1 hn rfl (fun ls hl => ?_)
  exact k l ev p e s m args below meth c C R H locs cells slots mt sst ls (A.lo (rx_st1_map hl))
theorem ru_astoreN {i : Nat} (hd : decode M.2.1 pc = .ok (.astore i, 2)) (hn : i < M.2.2.1) (k : rx_W M d mc ms (pc + 2) (rx_st1 i (.null) lo) st σ post) : rx_W M d mc ms pc lo ((.null) :: st) σ post := by
  intro l ev p e s m args below meth c C R H locs cells slots mt sst ls A
  refine lv_astoreN C.1 C.2.1 hd A.2.2.2.1 hn rfl (fun ls hl => ?_)
  exact k l ev p e s m args below meth c C R H locs cells slots mt sst ls (A.lo (rx_st1_map hl))
theorem ru_astore_nN {n : Fin 4} {i : Nat} (hd : decode M.2.1 pc = .ok (.astore_n n, 1)) (hi : (n : Nat) = i) (hn : i < M.2.2.1) (k : rx_W M d mc ms (pc + 1) (rx_st1 i (.null) lo) st σ post) : rx_W M d mc ms pc lo ((.null) :: st) σ post := by
  intro l ev p e s m args below meth c C R H locs cells slots mt sst ls A
  refine lv_astore_nN C.1 C.2.1 hd hi A.2.2.2.1 hn rfl (fun ls hl => ?_)
  exact k l ev p e s m args below meth c C R H locs cells slots mt sst ls (A.lo (rx_st1_map hl))
theorem ru_iinc {i : Nat} {n : Int} {x v : Int32} (hd : decode M.2.1 pc = .ok (.iinc i n, 3)) (hl : rx_get i lo = some (.int x)) (hv : x + Int32.ofInt n = v) (hn : i < M.2.2.1) (k : rx_W M d mc ms (pc + 3) (rx_st1 i (.int v) lo) st σ post) : rx_W M d mc ms pc lo st σ post := by
  intro l ev p e s m args below meth c C R H locs cells slots mt sst ls A
  obtain ⟨j, hj⟩ := List.getElem?_of_mem (rx_get_mem (ev := ev) hl)
  refine lv_iinc C.1 C.2.1 hd A.2.2.2.1 hj hv hn rfl (fun ls hl => ?_)
  exact k l ev p e s m args below meth c C R H locs cells slots mt sst ls (A.lo (rx_st1_map hl))
theorem ru_iadd {x y : Int32} (hd : decode M.2.1 pc = .ok (.iadd, 1))  (k : rx_W M d mc ms (pc + 1) lo (.int (x + y) :: st) σ post) : rx_W M d mc ms pc lo (.int y :: .int x :: st) σ post := by
  intro l ev p e s m args below meth c C R H locs cells slots mt sst ls A
  exact lv_iadd C.1 C.2.1 hd  (k l ev p e s m args below meth c C R H locs cells slots mt sst ls A)
theorem ru_isub {x y : Int32} (hd : decode M.2.1 pc = .ok (.isub, 1))  (k : rx_W M d mc ms (pc + 1) lo (.int (x - y) :: st) σ post) : rx_W M d mc ms pc lo (.int y :: .int x :: st) σ post := by
  intro l ev p e s m args below meth c C R H locs cells slots mt sst ls A
  exact lv_isub C.1 C.2.1 hd  (k l ev p e s m args below meth c C R H locs cells slots mt sst ls A)
theorem ru_imul {x y : Int32} (hd : decode M.2.1 pc = .ok (.imul, 1))  (k : rx_W M d mc ms (pc + 1) lo (.int (x * y) :: st) σ post) : rx_W M d mc ms pc lo (.int y :: .int x :: st) σ post := by
  intro l ev p e s m args below meth c C R H locs cells slots mt sst ls A
  exact lv_imul C.1 C.2.1 hd  (k l ev p e s m args below meth c C R H locs cells slots mt sst ls A)
theorem ru_iand {x y : Int32} (hd : decode M.2.1 pc = .ok (.iand, 1))  (k : rx_W M d mc ms (pc + 1) lo (.int (x &&& y) :: st) σ post) : rx_W M d mc ms pc lo (.int y :: .int x :: st) σ post := by
  intro l ev p e s m args below meth c C R H locs cells slots mt sst ls A
  exact lv_iand C.1 C.2.1 hd  (k l ev p e s m args below meth c C R H locs cells slots mt sst ls A)
theorem ru_ior {x y : Int32} (hd : decode M.2.1 pc = .ok (.ior, 1))  (k : rx_W M d mc ms (pc + 1) lo (.int (x ||| y) :: st) σ post) : rx_W M d mc ms pc lo (.int y :: .int x :: st) σ post := by
  intro l ev p e s m args below meth c C R H locs cells slots mt sst ls A
  exact lv_ior C.1 C.2.1 hd  (k l ev p e s m args below meth c C R H locs cells slots mt sst ls A)
theorem ru_ixor {x y : Int32} (hd : decode M.2.1 pc = .ok (.ixor, 1))  (k : rx_W M d mc ms (pc + 1) lo (.int (x ^^^ y) :: st) σ post) : rx_W M d mc ms pc lo (.int y :: .int x :: st) σ post := by
  intro l ev p e s m args below meth c C R H locs cells slots mt sst ls A
  exact lv_ixor C.1 C.2.1 hd  (k l ev p e s m args below meth c C R H locs cells slots mt sst ls A)
theorem ru_ladd {x y : Int64} (hd : decode M.2.1 pc = .ok (.ladd, 1))  (k : rx_W M d mc ms (pc + 1) lo (.long (x + y) :: st) σ post) : rx_W M d mc ms pc lo (.long y :: .long x :: st) σ post := by
  intro l ev p e s m args below meth c C R H locs cells slots mt sst ls A
  exact lv_ladd C.1 C.2.1 hd  (k l ev p e s m args below meth c C R H locs cells slots mt sst ls A)
theorem ru_lsub {x y : Int64} (hd : decode M.2.1 pc = .ok (.lsub, 1))  (k : rx_W M d mc ms (pc + 1) lo (.long (x - y) :: st) σ post) : rx_W M d mc ms pc lo (.long y :: .long x :: st) σ post := by
  intro l ev p e s m args below meth c C R H locs cells slots mt sst ls A
  exact lv_lsub C.1 C.2.1 hd  (k l ev p e s m args below meth c C R H locs cells slots mt sst ls A)
theorem ru_lmul {x y : Int64} (hd : decode M.2.1 pc = .ok (.lmul, 1))  (k : rx_W M d mc ms (pc + 1) lo (.long (x * y) :: st) σ post) : rx_W M d mc ms pc lo (.long y :: .long x :: st) σ post := by
  intro l ev p e s m args below meth c C R H locs cells slots mt sst ls A
  exact lv_lmul C.1 C.2.1 hd  (k l ev p e s m args below meth c C R H locs cells slots mt sst ls A)
theorem ru_land {x y : Int64} (hd : decode M.2.1 pc = .ok (.land, 1))  (k : rx_W M d mc ms (pc + 1) lo (.long (x &&& y) :: st) σ post) : rx_W M d mc ms pc lo (.long y :: .long x :: st) σ post := by
  intro l ev p e s m args below meth c C R H locs cells slots mt sst ls A
  exact lv_land C.1 C.2.1 hd  (k l ev p e s m args below meth c C R H locs cells slots mt sst ls A)
theorem ru_lor {x y : Int64} (hd : decode M.2.1 pc = .ok (.lor, 1))  (k : rx_W M d mc ms (pc + 1) lo (.long (x ||| y) :: st) σ post) : rx_W M d mc ms pc lo (.long y :: .long x :: st) σ post := by
  intro l ev p e s m args below meth c C R H locs cells slots mt sst ls A
  exact lv_lor C.1 C.2.1 hd  (k l ev p e s m args below meth c C R H locs cells slots mt sst ls A)
theorem ru_lxor {x y : Int64} (hd : decode M.2.1 pc = .ok (.lxor, 1))  (k : rx_W M d mc ms (pc + 1) lo (.long (x ^^^ y) :: st) σ post) : rx_W M d mc ms pc lo (.long y :: .long x :: st) σ post := by
  intro l ev p e s m args below meth c C R H locs cells slots mt sst ls A
  exact lv_lxor C.1 C.2.1 hd  (k l ev p e s m args below meth c C R H locs cells slots mt sst ls A)
theorem ru_idiv {x y : Int32} (hd : decode M.2.1 pc = .ok (.idiv, 1)) (hne : ¬ y = 0) (k : rx_W M d mc ms (pc + 1) lo (.int (x / y) :: st) σ post) : rx_W M d mc ms pc lo (.int y :: .int x :: st) σ post := by
  intro l ev p e s m args below meth c C R H locs cells slots mt sst ls A
  exact lv_idiv C.1 C.2.1 hd hne (k l ev p e s m args below meth c C R H locs cells slots mt sst ls A)
theorem ru_irem {x y : Int32} (hd : decode M.2.1 pc = .ok (.irem, 1)) (hne : ¬ y = 0) (k : rx_W M d mc ms (pc + 1) lo (.int (x - x / y * y) :: st) σ post) : rx_W M d mc ms pc lo (.int y :: .int x :: st) σ post := by
  intro l ev p e s m args below meth c C R H locs cells slots mt sst ls A
  exact lv_irem C.1 C.2.1 hd hne (k l ev p e s m args below meth c C R H locs cells slots mt sst ls A)
theorem ru_ldiv {x y : Int64} (hd : decode M.2.1 pc = .ok (.ldiv, 1)) (hne : ¬ y = 0) (k : rx_W M d mc ms (pc + 1) lo (.long (x / y) :: st) σ post) : rx_W M d mc ms pc lo (.long y :: .long x :: st) σ post := by
  intro l ev p e s m args below meth c C R H locs cells slots mt sst ls A
  exact lv_ldiv C.1 C.2.1 hd hne (k l ev p e s m args below meth c C R H locs cells slots mt sst ls A)
theorem ru_lrem {x y : Int64} (hd : decode M.2.1 pc = .ok (.lrem, 1)) (hne : ¬ y = 0) (k : rx_W M d mc ms (pc + 1) lo (.long (x - x / y * y) :: st) σ post) : rx_W M d mc ms pc lo (.long y :: .long x :: st) σ post := by
  intro l ev p e s m args below meth c C R H locs cells slots mt sst ls A
  exact lv_lrem C.1 C.2.1 hd hne (k l ev p e s m args below meth c C R H locs cells slots mt sst ls A)
theorem ru_ineg {x : Int32} (hd : decode M.2.1 pc = .ok (.ineg, 1))  (k : rx_W M d mc ms (pc + 1) lo (.int (-x) :: st) σ post) : rx_W M d mc ms pc lo (.int x :: st) σ post := by
  intro l ev p e s m args below meth c C R H locs cells slots mt sst ls A
  exact lv_ineg C.1 C.2.1 hd  (k l ev p e s m args below meth c C R H locs cells slots mt sst ls A)
theorem ru_i2l {x : Int32} (hd : decode M.2.1 pc = .ok (.i2l, 1))  (k : rx_W M d mc ms (pc + 1) lo (.long x.toInt64 :: st) σ post) : rx_W M d mc ms pc lo (.int x :: st) σ post := by
  intro l ev p e s m args below meth c C R H locs cells slots mt sst ls A
  exact lv_i2l C.1 C.2.1 hd rfl (k l ev p e s m args below meth c C R H locs cells slots mt sst ls A)
theorem ru_l2i {x : Int64} (hd : decode M.2.1 pc = .ok (.l2i, 1))  (k : rx_W M d mc ms (pc + 1) lo (.int x.toInt32 :: st) σ post) : rx_W M d mc ms pc lo (.long x :: st) σ post := by
  intro l ev p e s m args below meth c C R H locs cells slots mt sst ls A
  exact lv_l2i C.1 C.2.1 hd rfl (k l ev p e s m args below meth c C R H locs cells slots mt sst ls A)
theorem ru_i2b {x : Int32} (hd : decode M.2.1 pc = .ok (.i2b, 1))  (k : rx_W M d mc ms (pc + 1) lo (.int x.toInt8.toInt32 :: st) σ post) : rx_W M d mc ms pc lo (.int x :: st) σ post := by
  intro l ev p e s m args below meth c C R H locs cells slots mt sst ls A
  exact lv_i2b C.1 C.2.1 hd rfl (k l ev p e s m args below meth c C R H locs cells slots mt sst ls A)
theorem ru_i2c {x : Int32} (hd : decode M.2.1 pc = .ok (.i2c, 1))  (k : rx_W M d mc ms (pc + 1) lo (.int (x.toUInt32 % 65536).toInt32 :: st) σ post) : rx_W M d mc ms pc lo (.int x :: st) σ post := by
  intro l ev p e s m args below meth c C R H locs cells slots mt sst ls A
  exact lv_i2c C.1 C.2.1 hd rfl (k l ev p e s m args below meth c C R H locs cells slots mt sst ls A)
theorem ru_iushr {x y : Int32} (hd : decode M.2.1 pc = .ok (.iushr, 1))  (k : rx_W M d mc ms (pc + 1) lo (.int (x.toUInt32 >>> (y.toUInt32 &&& Int32.toUInt32 31)).toInt32 :: st) σ post) : rx_W M d mc ms pc lo (.int y :: .int x :: st) σ post := by
  intro l ev p e s m args below meth c C R H locs cells slots mt sst ls A
  exact lv_iushr C.1 C.2.1 hd rfl (k l ev p e s m args below meth c C R H locs cells slots mt sst ls A)
theorem ru_lshl {x : Int64} {y : Int32} (hd : decode M.2.1 pc = .ok (.lshl, 1))  (k : rx_W M d mc ms (pc + 1) lo (.long (x <<< (y.toInt64 &&& 63)) :: st) σ post) : rx_W M d mc ms pc lo (.int y :: .long x :: st) σ post := by
  intro l ev p e s m args below meth c C R H locs cells slots mt sst ls A
  exact lv_lshl C.1 C.2.1 hd rfl (k l ev p e s m args below meth c C R H locs cells slots mt sst ls A)
theorem ru_ishl {x y : Int32} (hd : decode M.2.1 pc = .ok (.ishl, 1))  (k : rx_W M d mc ms (pc + 1) lo (.int (x <<< (y &&& 31)) :: st) σ post) : rx_W M d mc ms pc lo (.int y :: .int x :: st) σ post := by
  intro l ev p e s m args below meth c C R H locs cells slots mt sst ls A
  exact lv_ishl C.1 C.2.1 hd  (k l ev p e s m args below meth c C R H locs cells slots mt sst ls A)
theorem ru_ishr {x y : Int32} (hd : decode M.2.1 pc = .ok (.ishr, 1))  (k : rx_W M d mc ms (pc + 1) lo (.int (x >>> (y &&& 31)) :: st) σ post) : rx_W M d mc ms pc lo (.int y :: .int x :: st) σ post := by
  intro l ev p e s m args below meth c C R H locs cells slots mt sst ls A
  exact lv_ishr C.1 C.2.1 hd  (k l ev p e s m args below meth c C R H locs cells slots mt sst ls A)
theorem ru_lcmp {x y : Int64} (hd : decode M.2.1 pc = .ok (.lcmp, 1))  (k : rx_W M d mc ms (pc + 1) lo (.int (lg_cmp x y) :: st) σ post) : rx_W M d mc ms pc lo (.long y :: .long x :: st) σ post := by
  intro l ev p e s m args below meth c C R H locs cells slots mt sst ls A
  exact W.lcmp C.1 C.2.1 hd  (k l ev p e s m args below meth c C R H locs cells slots mt sst ls A)
theorem ru_dup {a : Value} (hd : decode M.2.1 pc = .ok (.dup, 1)) (ha : a.category = 1) (k : rx_W M d mc ms (pc + 1) lo (a :: a :: st) σ post) : rx_W M d mc ms pc lo (a :: st) σ post := by
  intro l ev p e s m args below meth c C R H locs cells slots mt sst ls A
  exact lv_dup C.1 C.2.1 hd ((rx_tv_cat ev a).trans ha) (k l ev p e s m args below meth c C R H locs cells slots mt sst ls A)
theorem ru_pop {a : Value} (hd : decode M.2.1 pc = .ok (.pop, 1)) (ha : a.category = 1) (k : rx_W M d mc ms (pc + 1) lo (st) σ post) : rx_W M d mc ms pc lo (a :: st) σ post := by
  intro l ev p e s m args below meth c C R H locs cells slots mt sst ls A
  exact lv_pop C.1 C.2.1 hd ((rx_tv_cat ev a).trans ha) (k l ev p e s m args below meth c C R H locs cells slots mt sst ls A)
theorem ru_dup_x1 {a b : Value} (hd : decode M.2.1 pc = .ok (.dup_x1, 1)) (ha : a.category = 1) (hb : b.category = 1) (k : rx_W M d mc ms (pc + 1) lo (a :: b :: a :: st) σ post) : rx_W M d mc ms pc lo (a :: b :: st) σ post := by
  intro l ev p e s m args below meth c C R H locs cells slots mt sst ls A
  exact lv_dup_x1 C.1 C.2.1 hd ((rx_tv_cat ev a).trans ha) ((rx_tv_cat ev b).trans hb) (k l ev p e s m args below meth c C R H locs cells slots mt sst ls A)
theorem ru_dup_x2 {a b v : Value} (hd : decode M.2.1 pc = .ok (.dup_x2, 1)) (ha : a.category = 1) (hb : b.category = 1) (hv : v.category = 1) (k : rx_W M d mc ms (pc + 1) lo (a :: b :: v :: a :: st) σ post) : rx_W M d mc ms pc lo (a :: b :: v :: st) σ post := by
  intro l ev p e s m args below meth c C R H locs cells slots mt sst ls A
  exact lv_dup_x2 C.1 C.2.1 hd ((rx_tv_cat ev a).trans ha) ((rx_tv_cat ev b).trans hb) ((rx_tv_cat ev v).trans hv) (k l ev p e s m args below meth c C R H locs cells slots mt sst ls A)
theorem ru_dup2 {a b : Value} (hd : decode M.2.1 pc = .ok (.dup2, 1)) (ha : a.category = 1) (hb : b.category = 1) (k : rx_W M d mc ms (pc + 1) lo (a :: b :: a :: b :: st) σ post) : rx_W M d mc ms pc lo (a :: b :: st) σ post := by
  intro l ev p e s m args below meth c C R H locs cells slots mt sst ls A
  exact lv_dup2_11 C.1 C.2.1 hd ((rx_tv_cat ev a).trans ha) ((rx_tv_cat ev b).trans hb) (k l ev p e s m args below meth c C R H locs cells slots mt sst ls A)
theorem ru_dup2L {a : Value} (hd : decode M.2.1 pc = .ok (.dup2, 1)) (ha : a.category = 2) (k : rx_W M d mc ms (pc + 1) lo (a :: a :: st) σ post) : rx_W M d mc ms pc lo (a :: st) σ post := by
  intro l ev p e s m args below meth c C R H locs cells slots mt sst ls A
  exact lv_dup2_2 C.1 C.2.1 hd ((rx_tv_cat ev a).trans ha) (k l ev p e s m args below meth c C R H locs cells slots mt sst ls A)
theorem ru_dup2_x1L {a b : Value} (hd : decode M.2.1 pc = .ok (.dup2_x1, 1)) (ha : a.category = 2) (hb : b.category = 1) (k : rx_W M d mc ms (pc + 1) lo (a :: b :: a :: st) σ post) : rx_W M d mc ms pc lo (a :: b :: st) σ post := by
  intro l ev p e s m args below meth c C R H locs cells slots mt sst ls A
  exact lv_dup2_x1_2 C.1 C.2.1 hd ((rx_tv_cat ev a).trans ha) ((rx_tv_cat ev b).trans hb) (k l ev p e s m args below meth c C R H locs cells slots mt sst ls A)
theorem ru_if_eq {x : Int32} {off : Int} {tgt : Nat} (hd : decode M.2.1 pc = .ok (.ifCond .eq off, 3)) (ht : (pc : Int) + off = (tgt : Int)) (kt : x = 0 → rx_W M d mc ms tgt lo st σ post) (kf : ¬ x = 0 → rx_W M d mc ms (pc + 3) lo st σ post) : rx_W M d mc ms pc lo (.int x :: st) σ post := by
  intro l ev p e s m args below meth c C R H locs cells slots mt sst ls A
  exact lv_if_eq C.1 C.2.1 hd ht (fun h => kt h l ev p e s m args below meth c C R H locs cells slots mt sst ls A) (fun h => kf h l ev p e s m args below meth c C R H locs cells slots mt sst ls A)
theorem ru_icmp_eq {x y : Int32} {off : Int} {tgt : Nat} (hd : decode M.2.1 pc = .ok (.if_icmp .eq off, 3)) (ht : (pc : Int) + off = (tgt : Int)) (kt : x = y → rx_W M d mc ms tgt lo st σ post) (kf : ¬ x = y → rx_W M d mc ms (pc + 3) lo st σ post) : rx_W M d mc ms pc lo (.int y :: .int x :: st) σ post := by
  intro l ev p e s m args below meth c C R H locs cells slots mt sst ls A
  exact lv_icmp_eq C.1 C.2.1 hd ht (fun h => kt h l ev p e s m args below meth c C R H locs cells slots mt sst ls A) (fun h => kf h l ev p e s m args below meth c C R H locs cells slots mt sst ls A)
theorem ru_if_ne {x : Int32} {off : Int} {tgt : Nat} (hd : decode M.2.1 pc = .ok (.ifCond .ne off, 3)) (ht : (pc : Int) + off = (tgt : Int)) (kt : ¬ x = 0 → rx_W M d mc ms tgt lo st σ post) (kf : x = 0 → rx_W M d mc ms (pc + 3) lo st σ post) : rx_W M d mc ms pc lo (.int x :: st) σ post := by
  intro l ev p e s m args below meth c C R H locs cells slots mt sst ls A
  exact lv_if_ne C.1 C.2.1 hd ht (fun h => kt h l ev p e s m args below meth c C R H locs cells slots mt sst ls A) (fun h => kf h l ev p e s m args below meth c C R H locs cells slots mt sst ls A)
theorem ru_icmp_ne {x y : Int32} {off : Int} {tgt : Nat} (hd : decode M.2.1 pc = .ok (.if_icmp .ne off, 3)) (ht : (pc : Int) + off = (tgt : Int)) (kt : ¬ x = y → rx_W M d mc ms tgt lo st σ post) (kf : x = y → rx_W M d mc ms (pc + 3) lo st σ post) : rx_W M d mc ms pc lo (.int y :: .int x :: st) σ post := by
  intro l ev p e s m args below meth c C R H locs cells slots mt sst ls A
  exact lv_icmp_ne C.1 C.2.1 hd ht (fun h => kt h l ev p e s m args below meth c C R H locs cells slots mt sst ls A) (fun h => kf h l ev p e s m args below meth c C R H locs cells slots mt sst ls A)
theorem ru_if_lt {x : Int32} {off : Int} {tgt : Nat} (hd : decode M.2.1 pc = .ok (.ifCond .lt off, 3)) (ht : (pc : Int) + off = (tgt : Int)) (kt : x < 0 → rx_W M d mc ms tgt lo st σ post) (kf : ¬ x < 0 → rx_W M d mc ms (pc + 3) lo st σ post) : rx_W M d mc ms pc lo (.int x :: st) σ post := by
  intro l ev p e s m args below meth c C R H locs cells slots mt sst ls A
  exact lv_if_lt C.1 C.2.1 hd ht (fun h => kt h l ev p e s m args below meth c C R H locs cells slots mt sst ls A) (fun h => kf h l ev p e s m args below meth c C R H locs cells slots mt sst ls A)
theorem ru_icmp_lt {x y : Int32} {off : Int} {tgt : Nat} (hd : decode M.2.1 pc = .ok (.if_icmp .lt off, 3)) (ht : (pc : Int) + off = (tgt : Int)) (kt : x < y → rx_W M d mc ms tgt lo st σ post) (kf : ¬ x < y → rx_W M d mc ms (pc + 3) lo st σ post) : rx_W M d mc ms pc lo (.int y :: .int x :: st) σ post := by
  intro l ev p e s m args below meth c C R H locs cells slots mt sst ls A
  exact lv_icmp_lt C.1 C.2.1 hd ht (fun h => kt h l ev p e s m args below meth c C R H locs cells slots mt sst ls A) (fun h => kf h l ev p e s m args below meth c C R H locs cells slots mt sst ls A)
theorem ru_if_ge {x : Int32} {off : Int} {tgt : Nat} (hd : decode M.2.1 pc = .ok (.ifCond .ge off, 3)) (ht : (pc : Int) + off = (tgt : Int)) (kt : 0 ≤ x → rx_W M d mc ms tgt lo st σ post) (kf : ¬ 0 ≤ x → rx_W M d mc ms (pc + 3) lo st σ post) : rx_W M d mc ms pc lo (.int x :: st) σ post := by
  intro l ev p e s m args below meth c C R H locs cells slots mt sst ls A
  exact lv_if_ge C.1 C.2.1 hd ht (fun h => kt h l ev p e s m args below meth c C R H locs cells slots mt sst ls A) (fun h => kf h l ev p e s m args below meth c C R H locs cells slots mt sst ls A)
theorem ru_icmp_ge {x y : Int32} {off : Int} {tgt : Nat} (hd : decode M.2.1 pc = .ok (.if_icmp .ge off, 3)) (ht : (pc : Int) + off = (tgt : Int)) (kt : y ≤ x → rx_W M d mc ms tgt lo st σ post) (kf : ¬ y ≤ x → rx_W M d mc ms (pc + 3) lo st σ post) : rx_W M d mc ms pc lo (.int y :: .int x :: st) σ post := by
  intro l ev p e s m args below meth c C R H locs cells slots mt sst ls A
  exact lv_icmp_ge C.1 C.2.1 hd ht (fun h => kt h l ev p e s m args below meth c C R H locs cells slots mt sst ls A) (fun h => kf h l ev p e s m args below meth c C R H locs cells slots mt sst ls A)
theorem ru_if_gt {x : Int32} {off : Int} {tgt : Nat} (hd : decode M.2.1 pc = .ok (.ifCond .gt off, 3)) (ht : (pc : Int) + off = (tgt : Int)) (kt : 0 < x → rx_W M d mc ms tgt lo st σ post) (kf : ¬ 0 < x → rx_W M d mc ms (pc + 3) lo st σ post) : rx_W M d mc ms pc lo (.int x :: st) σ post := by
  intro l ev p e s m args below meth c C R H locs cells slots mt sst ls A
  exact lv_if_gt C.1 C.2.1 hd ht (fun h => kt h l ev p e s m args below meth c C R H locs cells slots mt sst ls A) (fun h => kf h l ev p e s m args below meth c C R H locs cells slots mt sst ls A)
theorem ru_icmp_gt {x y : Int32} {off : Int} {tgt : Nat} (hd : decode M.2.1 pc = .ok (.if_icmp .gt off, 3)) (ht : (pc : Int) + off = (tgt : Int)) (kt : y < x → rx_W M d mc ms tgt lo st σ post) (kf : ¬ y < x → rx_W M d mc ms (pc + 3) lo st σ post) : rx_W M d mc ms pc lo (.int y :: .int x :: st) σ post := by
  intro l ev p e s m args below meth c C R H locs cells slots mt sst ls A
  exact lv_icmp_gt C.1 C.2.1 hd ht (fun h => kt h l ev p e s m args below meth c C R H locs cells slots mt sst ls A) (fun h => kf h l ev p e s m args below meth c C R H locs cells slots mt sst ls A)
theorem ru_if_le {x : Int32} {off : Int} {tgt : Nat} (hd : decode M.2.1 pc = .ok (.ifCond .le off, 3)) (ht : (pc : Int) + off = (tgt : Int)) (kt : x ≤ 0 → rx_W M d mc ms tgt lo st σ post) (kf : ¬ x ≤ 0 → rx_W M d mc ms (pc + 3) lo st σ post) : rx_W M d mc ms pc lo (.int x :: st) σ post := by
  intro l ev p e s m args below meth c C R H locs cells slots mt sst ls A
  exact lv_if_le C.1 C.2.1 hd ht (fun h => kt h l ev p e s m args below meth c C R H locs cells slots mt sst ls A) (fun h => kf h l ev p e s m args below meth c C R H locs cells slots mt sst ls A)
theorem ru_icmp_le {x y : Int32} {off : Int} {tgt : Nat} (hd : decode M.2.1 pc = .ok (.if_icmp .le off, 3)) (ht : (pc : Int) + off = (tgt : Int)) (kt : x ≤ y → rx_W M d mc ms tgt lo st σ post) (kf : ¬ x ≤ y → rx_W M d mc ms (pc + 3) lo st σ post) : rx_W M d mc ms pc lo (.int y :: .int x :: st) σ post := by
  intro l ev p e s m args below meth c C R H locs cells slots mt sst ls A
  exact lv_icmp_le C.1 C.2.1 hd ht (fun h => kt h l ev p e s m args below meth c C R H locs cells slots mt sst ls A) (fun h => kf h l ev p e s m args below meth c C R H locs cells slots mt sst ls A)
theorem ru_goto {off : Int} {tgt : Nat} (hd : decode M.2.1 pc = .ok (.goto off, 3)) (ht : (pc : Int) + off = (tgt : Int)) (k : rx_W M d mc ms tgt lo st σ post) : rx_W M d mc ms pc lo st σ post := by
  intro l ev p e s m args below meth c C R H locs cells slots mt sst ls A
  exact lv_goto C.1 C.2.1 hd ht (k l ev p e s m args below meth c C R H locs cells slots mt sst ls A)
theorem ru_ifnonnull {x : Nat} {off : Int} {tgt : Nat} (hd : decode M.2.1 pc = .ok (.ifnonnull off, 3)) (ht : (pc : Int) + off = (tgt : Int)) (k : rx_W M d mc ms tgt lo st σ post) : rx_W M d mc ms pc lo (.ref x :: st) σ post := by
  intro l ev p e s m args below meth c C R H locs cells slots mt sst ls A
  exact lv_ifnonnull C.1 C.2.1 hd ht (k l ev p e s m args below meth c C R H locs cells slots mt sst ls A)
theorem ru_ifnull {x : Nat} {off : Int} (hd : decode M.2.1 pc = .ok (.ifnull off, 3)) (k : rx_W M d mc ms (pc + 3) lo st σ post) : rx_W M d mc ms pc lo (.ref x :: st) σ post := by
  intro l ev p e s m args below meth c C R H locs cells slots mt sst ls A
  exact lv_ifnull C.1 C.2.1 hd (k l ev p e s m args below meth c C R H locs cells slots mt sst ls A)
theorem ru_ifnullN {off : Int} {tgt : Nat} (hd : decode M.2.1 pc = .ok (.ifnull off, 3)) (ht : (pc : Int) + off = (tgt : Int)) (k : rx_W M d mc ms tgt lo st σ post) : rx_W M d mc ms pc lo (.null :: st) σ post := by
  intro l ev p e s m args below meth c C R H locs cells slots mt sst ls A
  exact lv_ifnullN C.1 C.2.1 hd ht (k l ev p e s m args below meth c C R H locs cells slots mt sst ls A)
theorem ru_ifnonnullN {off : Int} (hd : decode M.2.1 pc = .ok (.ifnonnull off, 3)) (k : rx_W M d mc ms (pc + 3) lo st σ post) : rx_W M d mc ms pc lo (.null :: st) σ post := by
  intro l ev p e s m args below meth c C R H locs cells slots mt sst ls A
  exact lv_ifnonnullN C.1 C.2.1 hd (k l ev p e s m args below meth c C R H locs cells slots mt sst ls A)
theorem ru_tableOut {dflt a b : Int} {offs : Array Int} {len : Nat} {x : Int32} {tgt : Nat} (hd : decode M.2.1 pc = .ok (.tableswitch dflt a b offs, len)) (h : x.toInt < a ∨ b < x.toInt) (ht : (pc : Int) + dflt = (tgt : Int)) (k : rx_W M d mc ms tgt lo st σ post) : rx_W M d mc ms pc lo (.int x :: st) σ post := by
  intro l ev p e s m args below meth c C R H locs cells slots mt sst ls A
  exact lv_tableOut C.1 C.2.1 hd h ht (k l ev p e s m args below meth c C R H locs cells slots mt sst ls A)
theorem ru_tableIn {dflt a b : Int} {offs : Array Int} {len : Nat} {x : Int32} {off : Int} {tgt : Nat} (hd : decode M.2.1 pc = .ok (.tableswitch dflt a b offs, len)) (h1 : ¬ x.toInt < a) (h2 : ¬ b < x.toInt) (ho : offs[(x.toInt - a).toNat]? = some off) (ht : (pc : Int) + off = (tgt : Int)) (k : rx_W M d mc ms tgt lo st σ post) : rx_W M d mc ms pc lo (.int x :: st) σ post := by
  intro l ev p e s m args below meth c C R H locs cells slots mt sst ls A
  exact lv_tableIn C.1 C.2.1 hd h1 h2 ho ht (k l ev p e s m args below meth c C R H locs cells slots mt sst ls A)
theorem ru_lookup {dflt : Int} {ps : Array (Int × Int)} {len : Nat} {x : Int32} {off : Int} {tgt : Nat} (hd : decode M.2.1 pc = .ok (.lookupswitch dflt ps, len)) (hp : (ps.toList.zip (ps.toList.drop 1)).all (fun (a, next) => a.1 < next.1) = true) (ho : Op.lookupswitch.offset ps.toList dflt x.toInt = off) (ht : (pc : Int) + off = (tgt : Int)) (k : rx_W M d mc ms tgt lo st σ post) : rx_W M d mc ms pc lo (.int x :: st) σ post := by
  intro l ev p e s m args below meth c C R H locs cells slots mt sst ls A
  exact lv_lookup C.1 C.2.1 hd hp ho ht (k l ev p e s m args below meth c C R H locs cells slots mt sst ls A)
theorem ru_ldc {ix : Nat} {v : Int32} (hd : decode M.2.1 pc = .ok (.ldc ix, 2)) (hw : Cond.constant M.1 ix v ∈ rx_TB) (k : rx_W M d mc ms (pc + 2) lo (.int v :: st) σ post) : rx_W M d mc ms pc lo st σ post := by
  intro l ev p e s m args below meth c C R H locs cells slots mt sst ls A
  exact lv_ldc C.1 C.2.1 C.2.2.2.1 (C.2.2.2.2.1 _ hw) hd (k l ev p e s m args below meth c C R H locs cells slots mt sst ls A)
theorem ru_ldc2 {ix : Nat} {v : Int64} (hd : decode M.2.1 pc = .ok (.ldc2_w ix, 3)) (hw : Cond.constantLong M.1 ix v ∈ rx_TB) (k : rx_W M d mc ms (pc + 3) lo (.long v :: st) σ post) : rx_W M d mc ms pc lo st σ post := by
  intro l ev p e s m args below meth c C R H locs cells slots mt sst ls A
  exact lv_ldc2 C.1 C.2.1 C.2.2.2.1 (C.2.2.2.2.1 _ hw) hd (k l ev p e s m args below meth c C R H locs cells slots mt sst ls A)
theorem ru_eqi {x y : Int32} (h : x = y) (k : rx_W M d mc ms pc lo (.int y :: st) σ post) : rx_W M d mc ms pc lo (.int x :: st) σ post := h ▸ k
theorem ru_eql {x y : Int64} (h : x = y) (k : rx_W M d mc ms pc lo (.long y :: st) σ post) : rx_W M d mc ms pc lo (.long x :: st) σ post := h ▸ k
theorem ru_eqv {x y : Value} (h : x = y) (k : rx_W M d mc ms pc lo (y :: st) σ post) : rx_W M d mc ms pc lo (x :: st) σ post := h ▸ k
theorem ru_topi {x : Int32} (k : ∀ y : Int32, y = x → rx_W M d mc ms pc lo (.int y :: st) σ post) : rx_W M d mc ms pc lo (.int x :: st) σ post := k x rfl
theorem ru_topl {x : Int64} (k : ∀ y : Int64, y = x → rx_W M d mc ms pc lo (.long y :: st) σ post) : rx_W M d mc ms pc lo (.long x :: st) σ post := k x rfl
theorem ru_mem {σ' : rx_S} (h : σ = σ') (k : rx_W M d mc ms pc lo st σ' post) : rx_W M d mc ms pc lo st σ post := h ▸ k
theorem ru_lo (lo' : List (Nat × Value)) (h : rx_sub lo' lo) (k : rx_W M d mc ms pc lo' st σ post) : rx_W M d mc ms pc lo st σ post := by
  intro l ev p e s m args below meth c C R H locs cells slots mt sst ls A
  exact k l ev p e s m args below meth c C R H locs cells slots mt sst ls (A.lo (rx_sub_has h A.2.2.2.1))
theorem ru_room {mc' ms' : Nat} (h1 : mc' ≤ mc) (h2 : ms' ≤ ms) (k : rx_W M d mc' ms' pc lo st σ post) : rx_W M d mc ms pc lo st σ post := by
  intro l ev p e s m args below meth c C R H locs cells slots mt sst ls A
  obtain ⟨a1, a2, a3, a4, a5, a6, a7, a8, a9⟩ := A
  exact k l ev p e s m args below meth c C R H locs cells slots mt sst ls ⟨a1, a2, a3, a4, a5, by omega, by omega, a8, a9⟩
theorem ru_post {post' post : Option Value → rx_S → Prop} (h : ∀ v t, post' v t → post v t) (k : rx_W M d mc ms pc lo st σ (pR post')) : rx_W M d mc ms pc lo st σ (pR post) := by
  intro l ev p e s m args below meth c C R H locs cells slots mt sst ls A T hT X
  obtain ⟨t, a, o, b1, b2, ⟨v, τ, q1, q2, q3⟩, b4⟩ := k l ev p e s m args below meth c C R H locs cells slots mt sst ls A T hT X
  exact ⟨t, a, o, b1, b2, ⟨v, τ, q1, h v τ q2, q3⟩, b4⟩
theorem ru_iret {post : Option Value → rx_S → Prop} {v : Int32} (hd : decode M.2.1 pc = .ok (.ireturn, 1)) (hr : M.2.2.2.1 = some .int) (h : post (some (.int v)) σ) : rx_W M d mc ms pc lo ([.int v]) σ (pR post) := by
  intro l ev p e s m args below meth c C R H locs cells slots mt sst ls A
  obtain ⟨a1, a2, a3, a4, a5, a6, a7, a8, a9⟩ := A
  refine W.widen (k := mt) (n := sst) (by omega) (by omega) ?_
  exact W.iret C.1 C.2.1 (C.2.2.2.2.2.1.trans hr) (fun t ht hW => ⟨some (.int v), σ, rfl, h, by rw [ht]; exact a3⟩) a5 hd C.2.2.2.2.2.2.1
theorem ru_lret {post : Option Value → rx_S → Prop} {v : Int64} (hd : decode M.2.1 pc = .ok (.lreturn, 1)) (hr : M.2.2.2.1 = some .long) (h : post (some (.long v)) σ) : rx_W M d mc ms pc lo ([.long v]) σ (pR post) := by
  intro l ev p e s m args below meth c C R H locs cells slots mt sst ls A
  obtain ⟨a1, a2, a3, a4, a5, a6, a7, a8, a9⟩ := A
  refine W.widen (k := mt) (n := sst) (by omega) (by omega) ?_
  exact W.lret C.1 C.2.1 (C.2.2.2.2.2.1.trans hr) (fun t ht hW => ⟨some (.long v), σ, rfl, h, by rw [ht]; exact a3⟩) a5 hd C.2.2.2.2.2.2.1
theorem ru_vret {post : Option Value → rx_S → Prop}  (hd : decode M.2.1 pc = .ok (.return_, 1)) (hr : M.2.2.2.1 = none) (h : post (none) σ) : rx_W M d mc ms pc lo ([]) σ (pR post) := by
  intro l ev p e s m args below meth c C R H locs cells slots mt sst ls A
  obtain ⟨a1, a2, a3, a4, a5, a6, a7, a8, a9⟩ := A
  refine W.widen (k := mt) (n := sst) (by omega) (by omega) ?_
  exact W.vret C.1 C.2.1 (C.2.2.2.2.2.1.trans hr) (fun t ht hW => ⟨none, σ, rfl, h, by rw [ht]; exact a3⟩) a5 hd C.2.2.2.2.2.2.1
theorem ru_zret {post : Option Value → rx_S → Prop} {v : Int32} {ty : FieldType} (hd : decode M.2.1 pc = .ok (.ireturn, 1)) (hr : M.2.2.2.1 = some ty) (hn : narrow ty (.int v) = .int v) (h : post (some (.int v)) σ) : rx_W M d mc ms pc lo ([.int v]) σ (pR post) := by
  intro l ev p e s m args below meth c C R H locs cells slots mt sst ls A
  obtain ⟨a1, a2, a3, a4, a5, a6, a7, a8, a9⟩ := A
  refine W.widen (k := mt) (n := sst) (by omega) (by omega) ?_
  exact W.zret C.1 C.2.1 (C.2.2.2.2.2.1.trans hr) hn (fun t ht hW => ⟨some (.int v), σ, rfl, h, by rw [ht]; exact a3⟩) a5 hd C.2.2.2.2.2.2.1
theorem ru_aret {post : Option Value → rx_S → Prop} {v : Nat} {ty : FieldType} (hd : decode M.2.1 pc = .ok (.areturn, 1)) (hr : M.2.2.2.1 = some ty) (hrt : (∃ n, ty = .object n) ∨ ∃ t, ty = .array t) (h : post (some (.ref v)) σ) : rx_W M d mc ms pc lo ([.ref v]) σ (pR post) := by
  intro l ev p e s m args below meth c C R H locs cells slots mt sst ls A
  obtain ⟨a1, a2, a3, a4, a5, a6, a7, a8, a9⟩ := A
  refine W.widen (k := mt) (n := sst) (by omega) (by omega) ?_
  exact W.aret C.1 C.2.1 (C.2.2.2.2.2.1.trans hr) hrt (Or.inr ⟨_, rfl⟩) (fun t ht hW => ⟨some (.ref v), σ, rfl, h, by rw [ht]; exact a3⟩) a5 hd C.2.2.2.2.2.2.1
theorem ru_aretN {post : Option Value → rx_S → Prop} {ty : FieldType} (hd : decode M.2.1 pc = .ok (.areturn, 1)) (hr : M.2.2.2.1 = some ty) (hrt : (∃ n, ty = .object n) ∨ ∃ t, ty = .array t) (h : post (some .null) σ) : rx_W M d mc ms pc lo ([.null]) σ (pR post) := by
  intro l ev p e s m args below meth c C R H locs cells slots mt sst ls A
  obtain ⟨a1, a2, a3, a4, a5, a6, a7, a8, a9⟩ := A
  refine W.widen (k := mt) (n := sst) (by omega) (by omega) ?_
  exact W.aret C.1 C.2.1 (C.2.2.2.2.2.1.trans hr) hrt (Or.inl rfl) (fun t ht hW => ⟨some .null, σ, rfl, h, by rw [ht]; exact a3⟩) a5 hd C.2.2.2.2.2.2.1
end
