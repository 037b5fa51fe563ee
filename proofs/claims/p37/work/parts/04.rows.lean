section KR
variable {g : am_C} {d : Nat} {M : am_M} {mc ms pc : Nat} {lv : List (Nat × Value)} {st : List Value} {σ : am_S} {post : Option (Option Value) → am_S → Prop}
theorem kr_iadd {x y : Int32} (hd : decode M.2.1 pc = .ok (.iadd, 1)) (k : am_K g d M mc ms (pc + 1) lv (.int (x + y) :: st) σ post) : am_K g d M mc ms pc lv (.int y :: .int x :: st) σ post := by
  intro p e R s m args below meth c H locs cells slots ls F h1 h2 h3 h4 hR hL hl
  exact lv_iadd F.1 F.2.1 hd (k p e R s m args below meth c H locs cells slots ls F h1 h2 h3 h4 hR hL hl)
theorem kr_isub {x y : Int32} (hd : decode M.2.1 pc = .ok (.isub, 1)) (k : am_K g d M mc ms (pc + 1) lv (.int (x - y) :: st) σ post) : am_K g d M mc ms pc lv (.int y :: .int x :: st) σ post := by
  intro p e R s m args below meth c H locs cells slots ls F h1 h2 h3 h4 hR hL hl
  exact lv_isub F.1 F.2.1 hd (k p e R s m args below meth c H locs cells slots ls F h1 h2 h3 h4 hR hL hl)
theorem kr_imul {x y : Int32} (hd : decode M.2.1 pc = .ok (.imul, 1)) (k : am_K g d M mc ms (pc + 1) lv (.int (x * y) :: st) σ post) : am_K g d M mc ms pc lv (.int y :: .int x :: st) σ post := by
  intro p e R s m args below meth c H locs cells slots ls F h1 h2 h3 h4 hR hL hl
  exact lv_imul F.1 F.2.1 hd (k p e R s m args below meth c H locs cells slots ls F h1 h2 h3 h4 hR hL hl)
theorem kr_iand {x y : Int32} (hd : decode M.2.1 pc = .ok (.iand, 1)) (k : am_K g d M mc ms (pc + 1) lv (.int (x &&& y) :: st) σ post) : am_K g d M mc ms pc lv (.int y :: .int x :: st) σ post := by
  intro p e R s m args below meth c H locs cells slots ls F h1 h2 h3 h4 hR hL hl
  exact lv_iand F.1 F.2.1 hd (k p e R s m args below meth c H locs cells slots ls F h1 h2 h3 h4 hR hL hl)
theorem kr_ior {x y : Int32} (hd : decode M.2.1 pc = .ok (.ior, 1)) (k : am_K g d M mc ms (pc + 1) lv (.int (x ||| y) :: st) σ post) : am_K g d M mc ms pc lv (.int y :: .int x :: st) σ post := by
  intro p e R s m args below meth c H locs cells slots ls F h1 h2 h3 h4 hR hL hl
  exact lv_ior F.1 F.2.1 hd (k p e R s m args below meth c H locs cells slots ls F h1 h2 h3 h4 hR hL hl)
theorem kr_ixor {x y : Int32} (hd : decode M.2.1 pc = .ok (.ixor, 1)) (k : am_K g d M mc ms (pc + 1) lv (.int (x ^^^ y) :: st) σ post) : am_K g d M mc ms pc lv (.int y :: .int x :: st) σ post := by
  intro p e R s m args below meth c H locs cells slots ls F h1 h2 h3 h4 hR hL hl
  exact lv_ixor F.1 F.2.1 hd (k p e R s m args below meth c H locs cells slots ls F h1 h2 h3 h4 hR hL hl)
theorem kr_ishl {x y : Int32} (hd : decode M.2.1 pc = .ok (.ishl, 1)) (k : am_K g d M mc ms (pc + 1) lv (.int (x <<< (y &&& 31)) :: st) σ post) : am_K g d M mc ms pc lv (.int y :: .int x :: st) σ post := by
  intro p e R s m args below meth c H locs cells slots ls F h1 h2 h3 h4 hR hL hl
  exact lv_ishl F.1 F.2.1 hd (k p e R s m args below meth c H locs cells slots ls F h1 h2 h3 h4 hR hL hl)
theorem kr_ishr {x y : Int32} (hd : decode M.2.1 pc = .ok (.ishr, 1)) (k : am_K g d M mc ms (pc + 1) lv (.int (x >>> (y &&& 31)) :: st) σ post) : am_K g d M mc ms pc lv (.int y :: .int x :: st) σ post := by
  intro p e R s m args below meth c H locs cells slots ls F h1 h2 h3 h4 hR hL hl
  exact lv_ishr F.1 F.2.1 hd (k p e R s m args below meth c H locs cells slots ls F h1 h2 h3 h4 hR hL hl)
theorem kr_idiv {x y : Int32} (hd : decode M.2.1 pc = .ok (.idiv, 1)) (hne : ¬ y = 0) (k : am_K g d M mc ms (pc + 1) lv (.int (x / y) :: st) σ post) : am_K g d M mc ms pc lv (.int y :: .int x :: st) σ post := by
  intro p e R s m args below meth c H locs cells slots ls F h1 h2 h3 h4 hR hL hl
  exact lv_idiv F.1 F.2.1 hd hne (k p e R s m args below meth c H locs cells slots ls F h1 h2 h3 h4 hR hL hl)
theorem kr_irem {x y : Int32} (hd : decode M.2.1 pc = .ok (.irem, 1)) (hne : ¬ y = 0) (k : am_K g d M mc ms (pc + 1) lv (.int (x - x / y * y) :: st) σ post) : am_K g d M mc ms pc lv (.int y :: .int x :: st) σ post := by
  intro p e R s m args below meth c H locs cells slots ls F h1 h2 h3 h4 hR hL hl
  exact lv_irem F.1 F.2.1 hd hne (k p e R s m args below meth c H locs cells slots ls F h1 h2 h3 h4 hR hL hl)
theorem kr_iushr {x y : Int32} (hd : decode M.2.1 pc = .ok (.iushr, 1)) (k : am_K g d M mc ms (pc + 1) lv (.int ((x.toUInt32 >>> (y.toUInt32 &&& Int32.toUInt32 31)).toInt32) :: st) σ post) : am_K g d M mc ms pc lv (.int y :: .int x :: st) σ post := by
  intro p e R s m args below meth c H locs cells slots ls F h1 h2 h3 h4 hR hL hl
  exact lv_iushr F.1 F.2.1 hd rfl (k p e R s m args below meth c H locs cells slots ls F h1 h2 h3 h4 hR hL hl)
theorem kr_ineg {x : Int32} (hd : decode M.2.1 pc = .ok (.ineg, 1)) (k : am_K g d M mc ms (pc + 1) lv (.int (-x) :: st) σ post) : am_K g d M mc ms pc lv (.int x :: st) σ post := by
  intro p e R s m args below meth c H locs cells slots ls F h1 h2 h3 h4 hR hL hl
  exact lv_ineg F.1 F.2.1 hd (k p e R s m args below meth c H locs cells slots ls F h1 h2 h3 h4 hR hL hl)
theorem kr_land {x y : Int64} (hd : decode M.2.1 pc = .ok (.land, 1)) (k : am_K g d M mc ms (pc + 1) lv (.long (x &&& y) :: st) σ post) : am_K g d M mc ms pc lv (.long y :: .long x :: st) σ post := by
  intro p e R s m args below meth c H locs cells slots ls F h1 h2 h3 h4 hR hL hl
  exact lv_land F.1 F.2.1 hd (k p e R s m args below meth c H locs cells slots ls F h1 h2 h3 h4 hR hL hl)
theorem kr_lor {x y : Int64} (hd : decode M.2.1 pc = .ok (.lor, 1)) (k : am_K g d M mc ms (pc + 1) lv (.long (x ||| y) :: st) σ post) : am_K g d M mc ms pc lv (.long y :: .long x :: st) σ post := by
  intro p e R s m args below meth c H locs cells slots ls F h1 h2 h3 h4 hR hL hl
  exact lv_lor F.1 F.2.1 hd (k p e R s m args below meth c H locs cells slots ls F h1 h2 h3 h4 hR hL hl)
theorem kr_lshl {x : Int64} {y : Int32} (hd : decode M.2.1 pc = .ok (.lshl, 1)) (k : am_K g d M mc ms (pc + 1) lv (.long (x <<< (y.toInt64 &&& 63)) :: st) σ post) : am_K g d M mc ms pc lv (.int y :: .long x :: st) σ post := by
  intro p e R s m args below meth c H locs cells slots ls F h1 h2 h3 h4 hR hL hl
  exact lv_lshl F.1 F.2.1 hd rfl (k p e R s m args below meth c H locs cells slots ls F h1 h2 h3 h4 hR hL hl)
theorem kr_lushr {x : Int64} {y : Int32} (hd : decode M.2.1 pc = .ok (.lushr, 1)) (k : am_K g d M mc ms (pc + 1) lv (.long ((x.toUInt64 >>> (y.toInt64.toUInt64 &&& Int64.toUInt64 63)).toInt64) :: st) σ post) : am_K g d M mc ms pc lv (.int y :: .long x :: st) σ post := by
  intro p e R s m args below meth c H locs cells slots ls F h1 h2 h3 h4 hR hL hl
  exact lv_lushr F.1 F.2.1 hd rfl (k p e R s m args below meth c H locs cells slots ls F h1 h2 h3 h4 hR hL hl)
theorem kr_i2l {x : Int32} (hd : decode M.2.1 pc = .ok (.i2l, 1)) (k : am_K g d M mc ms (pc + 1) lv (.long x.toInt64 :: st) σ post) : am_K g d M mc ms pc lv (.int x :: st) σ post := by
  intro p e R s m args below meth c H locs cells slots ls F h1 h2 h3 h4 hR hL hl
  exact lv_i2l F.1 F.2.1 hd rfl (k p e R s m args below meth c H locs cells slots ls F h1 h2 h3 h4 hR hL hl)
theorem kr_l2i {x : Int64} (hd : decode M.2.1 pc = .ok (.l2i, 1)) (k : am_K g d M mc ms (pc + 1) lv (.int x.toInt32 :: st) σ post) : am_K g d M mc ms pc lv (.long x :: st) σ post := by
  intro p e R s m args below meth c H locs cells slots ls F h1 h2 h3 h4 hR hL hl
  exact lv_l2i F.1 F.2.1 hd rfl (k p e R s m args below meth c H locs cells slots ls F h1 h2 h3 h4 hR hL hl)
theorem kr_i2b {x : Int32} (hd : decode M.2.1 pc = .ok (.i2b, 1)) (k : am_K g d M mc ms (pc + 1) lv (.int x.toInt8.toInt32 :: st) σ post) : am_K g d M mc ms pc lv (.int x :: st) σ post := by
  intro p e R s m args below meth c H locs cells slots ls F h1 h2 h3 h4 hR hL hl
  exact lv_i2b F.1 F.2.1 hd rfl (k p e R s m args below meth c H locs cells slots ls F h1 h2 h3 h4 hR hL hl)
theorem kr_lcmp {x y : Int64} (hd : decode M.2.1 pc = .ok (.lcmp, 1)) (k : am_K g d M mc ms (pc + 1) lv (.int (lg_cmp x y) :: st) σ post) : am_K g d M mc ms pc lv (.long y :: .long x :: st) σ post := by
  intro p e R s m args below meth c H locs cells slots ls F h1 h2 h3 h4 hR hL hl
  exact W.lcmp F.1 F.2.1 hd (k p e R s m args below meth c H locs cells slots ls F h1 h2 h3 h4 hR hL hl)
theorem kr_iconst {n : Int} {v : Int32} (hd : decode M.2.1 pc = .ok (.iconst n, 1)) (hv : Int32.ofInt n = v) (k : am_K g d M mc ms (pc + 1) lv (.int v :: st) σ post) : am_K g d M mc ms pc lv (st) σ post := by
  intro p e R s m args below meth c H locs cells slots ls F h1 h2 h3 h4 hR hL hl
  exact lv_iconst F.1 F.2.1 hd hv (k p e R s m args below meth c H locs cells slots ls F h1 h2 h3 h4 hR hL hl)
theorem kr_bipush {n : Int} {v : Int32} (hd : decode M.2.1 pc = .ok (.bipush n, 2)) (hv : (Int8.ofInt n).toInt32 = v) (k : am_K g d M mc ms (pc + 2) lv (.int v :: st) σ post) : am_K g d M mc ms pc lv (st) σ post := by
  intro p e R s m args below meth c H locs cells slots ls F h1 h2 h3 h4 hR hL hl
  exact lv_bipush F.1 F.2.1 hd hv (k p e R s m args below meth c H locs cells slots ls F h1 h2 h3 h4 hR hL hl)
theorem kr_sipush {n : Int} {v : Int32} (hd : decode M.2.1 pc = .ok (.sipush n, 3)) (hv : (Int16.ofInt n).toInt32 = v) (k : am_K g d M mc ms (pc + 3) lv (.int v :: st) σ post) : am_K g d M mc ms pc lv (st) σ post := by
  intro p e R s m args below meth c H locs cells slots ls F h1 h2 h3 h4 hR hL hl
  exact lv_sipush F.1 F.2.1 hd hv (k p e R s m args below meth c H locs cells slots ls F h1 h2 h3 h4 hR hL hl)
theorem kr_lconst {n : Fin 2} {v : Int64} (hd : decode M.2.1 pc = .ok (.lconst n, 1)) (hv : Int64.ofNat (n : Nat) = v) (k : am_K g d M mc ms (pc + 1) lv (.long v :: st) σ post) : am_K g d M mc ms pc lv (st) σ post := by
  intro p e R s m args below meth c H locs cells slots ls F h1 h2 h3 h4 hR hL hl
  exact lv_lconst F.1 F.2.1 hd hv (k p e R s m args below meth c H locs cells slots ls F h1 h2 h3 h4 hR hL hl)
theorem kr_dup {v : Value} (hd : decode M.2.1 pc = .ok (.dup, 1)) (hc : v.category = 1) (k : am_K g d M mc ms (pc + 1) lv (v :: v :: st) σ post) : am_K g d M mc ms pc lv (v :: st) σ post := by
  intro p e R s m args below meth c H locs cells slots ls F h1 h2 h3 h4 hR hL hl
  exact lv_dup F.1 F.2.1 hd ((am_cat g v).trans hc) (k p e R s m args below meth c H locs cells slots ls F h1 h2 h3 h4 hR hL hl)
theorem kr_pop {v : Value} (hd : decode M.2.1 pc = .ok (.pop, 1)) (hc : v.category = 1) (k : am_K g d M mc ms (pc + 1) lv (st) σ post) : am_K g d M mc ms pc lv (v :: st) σ post := by
  intro p e R s m args below meth c H locs cells slots ls F h1 h2 h3 h4 hR hL hl
  exact lv_pop F.1 F.2.1 hd ((am_cat g v).trans hc) (k p e R s m args below meth c H locs cells slots ls F h1 h2 h3 h4 hR hL hl)
theorem kr_dup2 {v w : Value} (hd : decode M.2.1 pc = .ok (.dup2, 1)) (hc : v.category = 1) (hc2 : w.category = 1) (k : am_K g d M mc ms (pc + 1) lv (v :: w :: v :: w :: st) σ post) : am_K g d M mc ms pc lv (v :: w :: st) σ post := by
  intro p e R s m args below meth c H locs cells slots ls F h1 h2 h3 h4 hR hL hl
  exact lv_dup2_11 F.1 F.2.1 hd ((am_cat g v).trans hc) ((am_cat g w).trans hc2) (k p e R s m args below meth c H locs cells slots ls F h1 h2 h3 h4 hR hL hl)
theorem kr_iload_n {k : Fin 4} {x : Int32} (j : Nat) (hd : decode M.2.1 pc = .ok (.iload_n k, 1)) (hj : lv[j]? = some ((k : Nat), .int x)) (kk : am_K g d M mc ms (pc + 1) lv (.int x :: st) σ post) : am_K g d M mc ms pc lv st σ post := by
  intro p e R s m args below meth c H locs cells slots ls F h1 h2 h3 h4 hR hL hl
  exact lv_iload_n F.1 F.2.1 hd rfl (lv_at hl j (am_at hj)) (kk p e R s m args below meth c H locs cells slots ls F h1 h2 h3 h4 hR hL hl)
theorem kr_iload {i : Nat} {x : Int32} (j : Nat) (hd : decode M.2.1 pc = .ok (.iload i, 2)) (hj : lv[j]? = some (i, .int x)) (kk : am_K g d M mc ms (pc + 2) lv (.int x :: st) σ post) : am_K g d M mc ms pc lv st σ post := by
  intro p e R s m args below meth c H locs cells slots ls F h1 h2 h3 h4 hR hL hl
  exact lv_iload F.1 F.2.1 hd (lv_at hl j (am_at hj)) (kk p e R s m args below meth c H locs cells slots ls F h1 h2 h3 h4 hR hL hl)
theorem kr_lload_n {k : Fin 4} {x : Int64} (j : Nat) (hd : decode M.2.1 pc = .ok (.lload_n k, 1)) (hj : lv[j]? = some ((k : Nat), .long x)) (kk : am_K g d M mc ms (pc + 1) lv (.long x :: st) σ post) : am_K g d M mc ms pc lv st σ post := by
  intro p e R s m args below meth c H locs cells slots ls F h1 h2 h3 h4 hR hL hl
  exact lv_lload_n F.1 F.2.1 hd rfl (lv_at hl j (am_at hj)) (kk p e R s m args below meth c H locs cells slots ls F h1 h2 h3 h4 hR hL hl)
theorem kr_lload {i : Nat} {x : Int64} (j : Nat) (hd : decode M.2.1 pc = .ok (.lload i, 2)) (hj : lv[j]? = some (i, .long x)) (kk : am_K g d M mc ms (pc + 2) lv (.long x :: st) σ post) : am_K g d M mc ms pc lv st σ post := by
  intro p e R s m args below meth c H locs cells slots ls F h1 h2 h3 h4 hR hL hl
  exact lv_lload F.1 F.2.1 hd (lv_at hl j (am_at hj)) (kk p e R s m args below meth c H locs cells slots ls F h1 h2 h3 h4 hR hL hl)
theorem kr_aload_n {k : Fin 4} {x : Nat} (j : Nat) (hd : decode M.2.1 pc = .ok (.aload_n k, 1)) (hj : lv[j]? = some ((k : Nat), .ref x)) (kk : am_K g d M mc ms (pc + 1) lv (.ref x :: st) σ post) : am_K g d M mc ms pc lv st σ post := by
  intro p e R s m args below meth c H locs cells slots ls F h1 h2 h3 h4 hR hL hl
  exact lv_aload_n F.1 F.2.1 hd rfl (lv_at hl j (am_at hj)) (kk p e R s m args below meth c H locs cells slots ls F h1 h2 h3 h4 hR hL hl)
theorem kr_aload {i : Nat} {x : Nat} (j : Nat) (hd : decode M.2.1 pc = .ok (.aload i, 2)) (hj : lv[j]? = some (i, .ref x)) (kk : am_K g d M mc ms (pc + 2) lv (.ref x :: st) σ post) : am_K g d M mc ms pc lv st σ post := by
  intro p e R s m args below meth c H locs cells slots ls F h1 h2 h3 h4 hR hL hl
  exact lv_aload F.1 F.2.1 hd (lv_at hl j (am_at hj)) (kk p e R s m args below meth c H locs cells slots ls F h1 h2 h3 h4 hR hL hl)
theorem kr_aXload_n {k : Fin 4} {x : Nat} (j : Nat) (hd : decode M.2.1 pc = .ok (.aload_n k, 1)) (hj : lv[j]? = some ((k : Nat), .retAddr x)) (kk : am_K g d M mc ms (pc + 1) lv (.retAddr x :: st) σ post) : am_K g d M mc ms pc lv st σ post := by
  intro p e R s m args below meth c H locs cells slots ls F h1 h2 h3 h4 hR hL hl
  exact lv_aload_n F.1 F.2.1 hd rfl (lv_at hl j (am_at hj)) (kk p e R s m args below meth c H locs cells slots ls F h1 h2 h3 h4 hR hL hl)
theorem kr_aXload {i : Nat} {x : Nat} (j : Nat) (hd : decode M.2.1 pc = .ok (.aload i, 2)) (hj : lv[j]? = some (i, .retAddr x)) (kk : am_K g d M mc ms (pc + 2) lv (.retAddr x :: st) σ post) : am_K g d M mc ms pc lv st σ post := by
  intro p e R s m args below meth c H locs cells slots ls F h1 h2 h3 h4 hR hL hl
  exact lv_aload F.1 F.2.1 hd (lv_at hl j (am_at hj)) (kk p e R s m args below meth c H locs cells slots ls F h1 h2 h3 h4 hR hL hl)
theorem kr_istore_n {k : Fin 4} {x : Int32} {lv' : List (Nat × Value)} (hd : decode M.2.1 pc = .ok (.istore_n k, 1)) (hn : (k : Nat) < M.2.2.1) (hl' : ((k : Nat), Value.int x) :: lv.filter (fun q => !(q.1 == (k : Nat)) && !(q.1 + 1 == (k : Nat) && q.2.category == 2)) = lv') (kk : am_K g d M mc ms (pc + 1) lv' st σ post) : am_K g d M mc ms pc lv (.int x :: st) σ post := by
  intro p e R s m args below meth c H locs cells slots ls F h1 h2 h3 h4 hR hL hl
  refine lv_istore_n F.1 F.2.1 hd rfl hl hn rfl (fun ls' h' => kk p e R s m args below meth c H locs cells slots ls' F h1 h2 h3 h4 hR hL ?_)
  rw [am_filt1] at h'
  rw [← hl']
  exact h'
theorem kr_istore {i : Nat} {x : Int32} {lv' : List (Nat × Value)} (hd : decode M.2.1 pc = .ok (.istore i, 2)) (hn : i < M.2.2.1) (hl' : (i, Value.int x) :: lv.filter (fun q => !(q.1 == i) && !(q.1 + 1 == i && q.2.category == 2)) = lv') (kk : am_K g d M mc ms (pc + 2) lv' st σ post) : am_K g d M mc ms pc lv (.int x :: st) σ post := by
  intro p e R s m args below meth c H locs cells slots ls F h1 h2 h3 h4 hR hL hl
  refine lv_istore F.1 F.2.1 hd hl hn rfl (fun ls' h' => kk p e R s m args below meth c H locs cells slots ls' F h1 h2 h3 h4 hR hL ?_)
  rw [am_filt1] at h'
  rw [← hl']
  exact h'
theorem kr_lstore_n {k : Fin 4} {x : Int64} {lv' : List (Nat × Value)} (hd : decode M.2.1 pc = .ok (.lstore_n k, 1)) (hn : (k : Nat) + 1 < M.2.2.1) (hl' : ((k : Nat), Value.long x) :: lv.filter (fun q => !(q.1 == (k : Nat)) && (!(q.1 == (k : Nat) + 1) && !(q.1 + 1 == (k : Nat) && q.2.category == 2))) = lv') (kk : am_K g d M mc ms (pc + 1) lv' st σ post) : am_K g d M mc ms pc lv (.long x :: st) σ post := by
  intro p e R s m args below meth c H locs cells slots ls F h1 h2 h3 h4 hR hL hl
  refine lv_lstore_n F.1 F.2.1 hd rfl hl hn rfl (fun ls' h' => kk p e R s m args below meth c H locs cells slots ls' F h1 h2 h3 h4 hR hL ?_)
  rw [am_filt2] at h'
  rw [← hl']
  exact h'
theorem kr_lstore {i : Nat} {x : Int64} {lv' : List (Nat × Value)} (hd : decode M.2.1 pc = .ok (.lstore i, 2)) (hn : i + 1 < M.2.2.1) (hl' : (i, Value.long x) :: lv.filter (fun q => !(q.1 == i) && (!(q.1 == i + 1) && !(q.1 + 1 == i && q.2.category == 2))) = lv') (kk : am_K g d M mc ms (pc + 2) lv' st σ post) : am_K g d M mc ms pc lv (.long x :: st) σ post := by
  intro p e R s m args below meth c H locs cells slots ls F h1 h2 h3 h4 hR hL hl
  refine lv_lstore F.1 F.2.1 hd hl hn rfl (fun ls' h' => kk p e R s m args below meth c H locs cells slots ls' F h1 h2 h3 h4 hR hL ?_)
  rw [am_filt2] at h'
  rw [← hl']
  exact h'
theorem kr_astore_n {k : Fin 4} {x : Nat} {lv' : List (Nat × Value)} (hd : decode M.2.1 pc = .ok (.astore_n k, 1)) (hn : (k : Nat) < M.2.2.1) (hl' : ((k : Nat), Value.ref x) :: lv.filter (fun q => !(q.1 == (k : Nat)) && !(q.1 + 1 == (k : Nat) && q.2.category == 2)) = lv') (kk : am_K g d M mc ms (pc + 1) lv' st σ post) : am_K g d M mc ms pc lv (.ref x :: st) σ post := by
  intro p e R s m args below meth c H locs cells slots ls F h1 h2 h3 h4 hR hL hl
  refine lv_astore_n F.1 F.2.1 hd rfl hl hn rfl (fun ls' h' => kk p e R s m args below meth c H locs cells slots ls' F h1 h2 h3 h4 hR hL ?_)
  rw [am_filt1] at h'
  rw [← hl']
  exact h'
theorem kr_astore {i : Nat} {x : Nat} {lv' : List (Nat × Value)} (hd : decode M.2.1 pc = .ok (.astore i, 2)) (hn : i < M.2.2.1) (hl' : (i, Value.ref x) :: lv.filter (fun q => !(q.1 == i) && !(q.1 + 1 == i && q.2.category == 2)) = lv') (kk : am_K g d M mc ms (pc + 2) lv' st σ post) : am_K g d M mc ms pc lv (.ref x :: st) σ post := by
  intro p e R s m args below meth c H locs cells slots ls F h1 h2 h3 h4 hR hL hl
  refine lv_astore F.1 F.2.1 hd hl hn rfl (fun ls' h' => kk p e R s m args below meth c H locs cells slots ls' F h1 h2 h3 h4 hR hL ?_)
  rw [am_filt1] at h'
  rw [← hl']
  exact h'
theorem kr_aXstore_n {k : Fin 4} {x : Nat} {lv' : List (Nat × Value)} (hd : decode M.2.1 pc = .ok (.astore_n k, 1)) (hn : (k : Nat) < M.2.2.1) (hl' : ((k : Nat), Value.retAddr x) :: lv.filter (fun q => !(q.1 == (k : Nat)) && !(q.1 + 1 == (k : Nat) && q.2.category == 2)) = lv') (kk : am_K g d M mc ms (pc + 1) lv' st σ post) : am_K g d M mc ms pc lv (.retAddr x :: st) σ post := by
  intro p e R s m args below meth c H locs cells slots ls F h1 h2 h3 h4 hR hL hl
  refine lv_astore_n F.1 F.2.1 hd rfl hl hn rfl (fun ls' h' => kk p e R s m args below meth c H locs cells slots ls' F h1 h2 h3 h4 hR hL ?_)
  rw [am_filt1] at h'
  rw [← hl']
  exact h'
theorem kr_aXstore {i : Nat} {x : Nat} {lv' : List (Nat × Value)} (hd : decode M.2.1 pc = .ok (.astore i, 2)) (hn : i < M.2.2.1) (hl' : (i, Value.retAddr x) :: lv.filter (fun q => !(q.1 == i) && !(q.1 + 1 == i && q.2.category == 2)) = lv') (kk : am_K g d M mc ms (pc + 2) lv' st σ post) : am_K g d M mc ms pc lv (.retAddr x :: st) σ post := by
  intro p e R s m args below meth c H locs cells slots ls F h1 h2 h3 h4 hR hL hl
  refine lv_astore F.1 F.2.1 hd hl hn rfl (fun ls' h' => kk p e R s m args below meth c H locs cells slots ls' F h1 h2 h3 h4 hR hL ?_)
  rw [am_filt1] at h'
  rw [← hl']
  exact h'
theorem kr_iinc {i : Nat} {n : Int} {x v : Int32} {lv' : List (Nat × Value)} (j : Nat) (hd : decode M.2.1 pc = .ok (.iinc i n, 3)) (hj : lv[j]? = some (i, .int x)) (hv : x + Int32.ofInt n = v) (hn : i < M.2.2.1) (hl' : (i, Value.int v) :: lv.filter (fun q => !(q.1 == i) && !(q.1 + 1 == i && q.2.category == 2)) = lv') (kk : am_K g d M mc ms (pc + 3) lv' st σ post) : am_K g d M mc ms pc lv st σ post := by
  intro p e R s m args below meth c H locs cells slots ls F h1 h2 h3 h4 hR hL hl
  refine lv_iinc F.1 F.2.1 hd hl (k := j) (am_at hj) hv hn rfl (fun ls' h' => kk p e R s m args below meth c H locs cells slots ls' F h1 h2 h3 h4 hR hL ?_)
  rw [am_filt1] at h'
  rw [← hl']
  exact h'
theorem kr_if_eq {x : Int32} {off : Int} {tgt : Nat} (hd : decode M.2.1 pc = .ok (.ifCond .eq off, 3)) (ht : (pc : Int) + off = (tgt : Int)) (kt : x = 0 → am_K g d M mc ms tgt lv st σ post) (kf : ¬ x = 0 → am_K g d M mc ms (pc + 3) lv st σ post) : am_K g d M mc ms pc lv (.int x :: st) σ post := by
  intro p e R s m args below meth c H locs cells slots ls F h1 h2 h3 h4 hR hL hl
  exact lv_if_eq F.1 F.2.1 hd ht (fun q => kt q p e R s m args below meth c H locs cells slots ls F h1 h2 h3 h4 hR hL hl) (fun q => kf q p e R s m args below meth c H locs cells slots ls F h1 h2 h3 h4 hR hL hl)
theorem kr_if_ne {x : Int32} {off : Int} {tgt : Nat} (hd : decode M.2.1 pc = .ok (.ifCond .ne off, 3)) (ht : (pc : Int) + off = (tgt : Int)) (kt : ¬ x = 0 → am_K g d M mc ms tgt lv st σ post) (kf : x = 0 → am_K g d M mc ms (pc + 3) lv st σ post) : am_K g d M mc ms pc lv (.int x :: st) σ post := by
  intro p e R s m args below meth c H locs cells slots ls F h1 h2 h3 h4 hR hL hl
  exact lv_if_ne F.1 F.2.1 hd ht (fun q => kt q p e R s m args below meth c H locs cells slots ls F h1 h2 h3 h4 hR hL hl) (fun q => kf q p e R s m args below meth c H locs cells slots ls F h1 h2 h3 h4 hR hL hl)
theorem kr_if_lt {x : Int32} {off : Int} {tgt : Nat} (hd : decode M.2.1 pc = .ok (.ifCond .lt off, 3)) (ht : (pc : Int) + off = (tgt : Int)) (kt : x < 0 → am_K g d M mc ms tgt lv st σ post) (kf : ¬ x < 0 → am_K g d M mc ms (pc + 3) lv st σ post) : am_K g d M mc ms pc lv (.int x :: st) σ post := by
  intro p e R s m args below meth c H locs cells slots ls F h1 h2 h3 h4 hR hL hl
  exact lv_if_lt F.1 F.2.1 hd ht (fun q => kt q p e R s m args below meth c H locs cells slots ls F h1 h2 h3 h4 hR hL hl) (fun q => kf q p e R s m args below meth c H locs cells slots ls F h1 h2 h3 h4 hR hL hl)
theorem kr_if_ge {x : Int32} {off : Int} {tgt : Nat} (hd : decode M.2.1 pc = .ok (.ifCond .ge off, 3)) (ht : (pc : Int) + off = (tgt : Int)) (kt : 0 ≤ x → am_K g d M mc ms tgt lv st σ post) (kf : ¬ 0 ≤ x → am_K g d M mc ms (pc + 3) lv st σ post) : am_K g d M mc ms pc lv (.int x :: st) σ post := by
  intro p e R s m args below meth c H locs cells slots ls F h1 h2 h3 h4 hR hL hl
  exact lv_if_ge F.1 F.2.1 hd ht (fun q => kt q p e R s m args below meth c H locs cells slots ls F h1 h2 h3 h4 hR hL hl) (fun q => kf q p e R s m args below meth c H locs cells slots ls F h1 h2 h3 h4 hR hL hl)
theorem kr_if_gt {x : Int32} {off : Int} {tgt : Nat} (hd : decode M.2.1 pc = .ok (.ifCond .gt off, 3)) (ht : (pc : Int) + off = (tgt : Int)) (kt : 0 < x → am_K g d M mc ms tgt lv st σ post) (kf : ¬ 0 < x → am_K g d M mc ms (pc + 3) lv st σ post) : am_K g d M mc ms pc lv (.int x :: st) σ post := by
  intro p e R s m args below meth c H locs cells slots ls F h1 h2 h3 h4 hR hL hl
  exact lv_if_gt F.1 F.2.1 hd ht (fun q => kt q p e R s m args below meth c H locs cells slots ls F h1 h2 h3 h4 hR hL hl) (fun q => kf q p e R s m args below meth c H locs cells slots ls F h1 h2 h3 h4 hR hL hl)
theorem kr_if_le {x : Int32} {off : Int} {tgt : Nat} (hd : decode M.2.1 pc = .ok (.ifCond .le off, 3)) (ht : (pc : Int) + off = (tgt : Int)) (kt : x ≤ 0 → am_K g d M mc ms tgt lv st σ post) (kf : ¬ x ≤ 0 → am_K g d M mc ms (pc + 3) lv st σ post) : am_K g d M mc ms pc lv (.int x :: st) σ post := by
  intro p e R s m args below meth c H locs cells slots ls F h1 h2 h3 h4 hR hL hl
  exact lv_if_le F.1 F.2.1 hd ht (fun q => kt q p e R s m args below meth c H locs cells slots ls F h1 h2 h3 h4 hR hL hl) (fun q => kf q p e R s m args below meth c H locs cells slots ls F h1 h2 h3 h4 hR hL hl)
theorem kr_icmp_eq {x y : Int32} {off : Int} {tgt : Nat} (hd : decode M.2.1 pc = .ok (.if_icmp .eq off, 3)) (ht : (pc : Int) + off = (tgt : Int)) (kt : x = y → am_K g d M mc ms tgt lv st σ post) (kf : ¬ x = y → am_K g d M mc ms (pc + 3) lv st σ post) : am_K g d M mc ms pc lv (.int y :: .int x :: st) σ post := by
  intro p e R s m args below meth c H locs cells slots ls F h1 h2 h3 h4 hR hL hl
  exact lv_icmp_eq F.1 F.2.1 hd ht (fun q => kt q p e R s m args below meth c H locs cells slots ls F h1 h2 h3 h4 hR hL hl) (fun q => kf q p e R s m args below meth c H locs cells slots ls F h1 h2 h3 h4 hR hL hl)
theorem kr_icmp_ne {x y : Int32} {off : Int} {tgt : Nat} (hd : decode M.2.1 pc = .ok (.if_icmp .ne off, 3)) (ht : (pc : Int) + off = (tgt : Int)) (kt : ¬ x = y → am_K g d M mc ms tgt lv st σ post) (kf : x = y → am_K g d M mc ms (pc + 3) lv st σ post) : am_K g d M mc ms pc lv (.int y :: .int x :: st) σ post := by
  intro p e R s m args below meth c H locs cells slots ls F h1 h2 h3 h4 hR hL hl
  exact lv_icmp_ne F.1 F.2.1 hd ht (fun q => kt q p e R s m args below meth c H locs cells slots ls F h1 h2 h3 h4 hR hL hl) (fun q => kf q p e R s m args below meth c H locs cells slots ls F h1 h2 h3 h4 hR hL hl)
theorem kr_icmp_lt {x y : Int32} {off : Int} {tgt : Nat} (hd : decode M.2.1 pc = .ok (.if_icmp .lt off, 3)) (ht : (pc : Int) + off = (tgt : Int)) (kt : x < y → am_K g d M mc ms tgt lv st σ post) (kf : ¬ x < y → am_K g d M mc ms (pc + 3) lv st σ post) : am_K g d M mc ms pc lv (.int y :: .int x :: st) σ post := by
  intro p e R s m args below meth c H locs cells slots ls F h1 h2 h3 h4 hR hL hl
  exact lv_icmp_lt F.1 F.2.1 hd ht (fun q => kt q p e R s m args below meth c H locs cells slots ls F h1 h2 h3 h4 hR hL hl) (fun q => kf q p e R s m args below meth c H locs cells slots ls F h1 h2 h3 h4 hR hL hl)
theorem kr_icmp_ge {x y : Int32} {off : Int} {tgt : Nat} (hd : decode M.2.1 pc = .ok (.if_icmp .ge off, 3)) (ht : (pc : Int) + off = (tgt : Int)) (kt : y ≤ x → am_K g d M mc ms tgt lv st σ post) (kf : ¬ y ≤ x → am_K g d M mc ms (pc + 3) lv st σ post) : am_K g d M mc ms pc lv (.int y :: .int x :: st) σ post := by
  intro p e R s m args below meth c H locs cells slots ls F h1 h2 h3 h4 hR hL hl
  exact lv_icmp_ge F.1 F.2.1 hd ht (fun q => kt q p e R s m args below meth c H locs cells slots ls F h1 h2 h3 h4 hR hL hl) (fun q => kf q p e R s m args below meth c H locs cells slots ls F h1 h2 h3 h4 hR hL hl)
theorem kr_icmp_gt {x y : Int32} {off : Int} {tgt : Nat} (hd : decode M.2.1 pc = .ok (.if_icmp .gt off, 3)) (ht : (pc : Int) + off = (tgt : Int)) (kt : y < x → am_K g d M mc ms tgt lv st σ post) (kf : ¬ y < x → am_K g d M mc ms (pc + 3) lv st σ post) : am_K g d M mc ms pc lv (.int y :: .int x :: st) σ post := by
  intro p e R s m args below meth c H locs cells slots ls F h1 h2 h3 h4 hR hL hl
  exact lv_icmp_gt F.1 F.2.1 hd ht (fun q => kt q p e R s m args below meth c H locs cells slots ls F h1 h2 h3 h4 hR hL hl) (fun q => kf q p e R s m args below meth c H locs cells slots ls F h1 h2 h3 h4 hR hL hl)
theorem kr_icmp_le {x y : Int32} {off : Int} {tgt : Nat} (hd : decode M.2.1 pc = .ok (.if_icmp .le off, 3)) (ht : (pc : Int) + off = (tgt : Int)) (kt : x ≤ y → am_K g d M mc ms tgt lv st σ post) (kf : ¬ x ≤ y → am_K g d M mc ms (pc + 3) lv st σ post) : am_K g d M mc ms pc lv (.int y :: .int x :: st) σ post := by
  intro p e R s m args below meth c H locs cells slots ls F h1 h2 h3 h4 hR hL hl
  exact lv_icmp_le F.1 F.2.1 hd ht (fun q => kt q p e R s m args below meth c H locs cells slots ls F h1 h2 h3 h4 hR hL hl) (fun q => kf q p e R s m args below meth c H locs cells slots ls F h1 h2 h3 h4 hR hL hl)
theorem kr_goto {off : Int} {tgt : Nat} (hd : decode M.2.1 pc = .ok (.goto off, 3)) (ht : (pc : Int) + off = (tgt : Int)) (k : am_K g d M mc ms tgt lv st σ post) : am_K g d M mc ms pc lv st σ post := by
  intro p e R s m args below meth c H locs cells slots ls F h1 h2 h3 h4 hR hL hl
  exact lv_goto F.1 F.2.1 hd ht (k p e R s m args below meth c H locs cells slots ls F h1 h2 h3 h4 hR hL hl)
theorem kr_tableOut {dflt lo hi : Int} {offs : Array Int} {len : Nat} {x : Int32} {tgt : Nat} (hd : decode M.2.1 pc = .ok (.tableswitch dflt lo hi offs, len)) (h : x.toInt < lo ∨ hi < x.toInt) (ht : (pc : Int) + dflt = (tgt : Int)) (k : am_K g d M mc ms tgt lv st σ post) : am_K g d M mc ms pc lv (.int x :: st) σ post := by
  intro p e R s m args below meth c H locs cells slots ls F h1 h2 h3 h4 hR hL hl
  exact lv_tableOut F.1 F.2.1 hd h ht (k p e R s m args below meth c H locs cells slots ls F h1 h2 h3 h4 hR hL hl)
theorem kr_tableIn {dflt lo hi : Int} {offs : Array Int} {len : Nat} {x : Int32} {off : Int} {tgt : Nat} (hd : decode M.2.1 pc = .ok (.tableswitch dflt lo hi offs, len)) (h0 : ¬ x.toInt < lo) (h9 : ¬ hi < x.toInt) (ho : offs[(x.toInt - lo).toNat]? = some off) (ht : (pc : Int) + off = (tgt : Int)) (k : am_K g d M mc ms tgt lv st σ post) : am_K g d M mc ms pc lv (.int x :: st) σ post := by
  intro p e R s m args below meth c H locs cells slots ls F h1 h2 h3 h4 hR hL hl
  exact lv_tableIn F.1 F.2.1 hd h0 h9 ho ht (k p e R s m args below meth c H locs cells slots ls F h1 h2 h3 h4 hR hL hl)
theorem kr_lookup {dflt : Int} {ps : Array (Int × Int)} {len : Nat} {x : Int32} {off : Int} {tgt : Nat} (hd : decode M.2.1 pc = .ok (.lookupswitch dflt ps, len)) (hp : (ps.toList.zip (ps.toList.drop 1)).all (fun (a, next) => a.1 < next.1) = true) (ho : Op.lookupswitch.offset ps.toList dflt x.toInt = off) (ht : (pc : Int) + off = (tgt : Int)) (k : am_K g d M mc ms tgt lv st σ post) : am_K g d M mc ms pc lv (.int x :: st) σ post := by
  intro p e R s m args below meth c H locs cells slots ls F h1 h2 h3 h4 hR hL hl
  exact lv_lookup F.1 F.2.1 hd hp ho ht (k p e R s m args below meth c H locs cells slots ls F h1 h2 h3 h4 hR hL hl)
theorem kr_ifnonnull {x : Nat} {off : Int} {tgt : Nat} (hd : decode M.2.1 pc = .ok (.ifnonnull off, 3)) (ht : (pc : Int) + off = (tgt : Int)) (k : am_K g d M mc ms tgt lv st σ post) : am_K g d M mc ms pc lv (.ref x :: st) σ post := by
  intro p e R s m args below meth c H locs cells slots ls F h1 h2 h3 h4 hR hL hl
  exact lv_ifnonnull F.1 F.2.1 hd ht (k p e R s m args below meth c H locs cells slots ls F h1 h2 h3 h4 hR hL hl)
theorem kr_ldc (G : am_G g) {i : Nat} {v : Int32} (hd : decode M.2.1 pc = .ok (.ldc i, 2)) (hw : Cond.constant M.1.cls i v ∈ lw_tbl) (k : am_K g d M mc ms (pc + 2) lv (.int v :: st) σ post) : am_K g d M mc ms pc lv st σ post := by
  intro p e R s m args below meth c H locs cells slots ls F h1 h2 h3 h4 hR hL hl
  exact lv_ldc F.1 F.2.1 F.2.2.2.2.2.1 (am_w G F.2.2.2.2.2.2.1 args hw rfl) hd (k p e R s m args below meth c H locs cells slots ls F h1 h2 h3 h4 hR hL hl)
theorem kr_ldcw (G : am_G g) {i : Nat} {v : Int32} (hd : decode M.2.1 pc = .ok (.ldc_w i, 3)) (hw : Cond.constant M.1.cls i v ∈ lw_tbl) (k : am_K g d M mc ms (pc + 3) lv (.int v :: st) σ post) : am_K g d M mc ms pc lv st σ post := by
  intro p e R s m args below meth c H locs cells slots ls F h1 h2 h3 h4 hR hL hl
  exact lv_ldcw F.1 F.2.1 F.2.2.2.2.2.1 (am_w G F.2.2.2.2.2.2.1 args hw rfl) hd (k p e R s m args below meth c H locs cells slots ls F h1 h2 h3 h4 hR hL hl)
theorem kr_ldc2 (G : am_G g) {i : Nat} {v : Int64} (hd : decode M.2.1 pc = .ok (.ldc2_w i, 3)) (hw : Cond.constantLong M.1.cls i v ∈ lw_tbl) (k : am_K g d M mc ms (pc + 3) lv (.long v :: st) σ post) : am_K g d M mc ms pc lv st σ post := by
  intro p e R s m args below meth c H locs cells slots ls F h1 h2 h3 h4 hR hL hl
  exact lv_ldc2 F.1 F.2.1 F.2.2.2.2.2.1 (am_w G F.2.2.2.2.2.2.1 args hw rfl) hd (k p e R s m args below meth c H locs cells slots ls F h1 h2 h3 h4 hR hL hl)
theorem kr_ireturn {x : Int32} (hd : decode M.2.1 pc = .ok (.ireturn, 1)) {ty : FieldType} (hr : M.2.2.2.1 = some ty) (hn : narrow ty (.int x) = .int x) (h : post (some (some (.int x))) σ) : am_K g d M mc ms pc lv [.int x] σ post := by
  intro p e R s m args below meth c H locs cells slots ls F h1 h2 h3 h4 hR hL hl
  have hlk := F.2.2.2.2.1
  refine W.widen (Nat.le_add_right cells mc) (Nat.le_add_right slots ms) (vx_ret ?_)
  exact W.zret F.1 F.2.1 (F.2.2.2.1.trans hr) hn (fun t ht _ => ⟨some (.int x), σ, rfl, h, by rw [ht]; exact hR⟩) hL hd hlk
theorem kr_return (hd : decode M.2.1 pc = .ok (.return_, 1)) (hr : M.2.2.2.1 = none) (h : post (some (none)) σ) : am_K g d M mc ms pc lv [] σ post := by
  intro p e R s m args below meth c H locs cells slots ls F h1 h2 h3 h4 hR hL hl
  have hlk := F.2.2.2.2.1
  refine W.widen (Nat.le_add_right cells mc) (Nat.le_add_right slots ms) (vx_ret ?_)
  exact W.vret F.1 F.2.1 (F.2.2.2.1.trans hr) (fun t ht _ => ⟨none, σ, rfl, h, by rw [ht]; exact hR⟩) hL hd hlk
theorem kr_areturn {x : Nat} (hd : decode M.2.1 pc = .ok (.areturn, 1)) {C : String} (hr : M.2.2.2.1 = some (.object C)) (h : post (some (some (.ref x))) σ) : am_K g d M mc ms pc lv [.ref x] σ post := by
  intro p e R s m args below meth c H locs cells slots ls F h1 h2 h3 h4 hR hL hl
  have hlk := F.2.2.2.2.1
  refine W.widen (Nat.le_add_right cells mc) (Nat.le_add_right slots ms) (vx_ret ?_)
  exact W.aret F.1 F.2.1 (F.2.2.2.1.trans hr) (Or.inl ⟨_, rfl⟩) (Or.inr ⟨_, rfl⟩) (fun t ht _ => ⟨some (.ref x), σ, rfl, h, by rw [ht]; exact hR⟩) hL hd hlk
end KR
