/-! a row an instruction, over ih_Mw -/
section IhRows
variable {x : ih_Cx} {w : ih_Wd} {sh : ih_Sh} {A : Nat → Prop} {Q : State → Prop} {cc : ByteArray} {nL : Nat} {own : String} {Ts : List Cond} {rm : Room} {ret : Option FieldType} {cells slots pc : Nat} {lv : List (Nat × Value)} {st : List Value} {S : ih_Sg}
theorem s_iconst (C : ih_Ok x w A cc nL own Ts rm ret) {n : Int} {v : Int32} (hd : decode cc pc = .ok (.iconst n, 1)) (hv : Int32.ofInt n = v) (k : ih_Mw x w sh A Q nL cells slots (pc + 1) lv (.int v :: st) S) : ih_Mw x w sh A Q nL cells slots pc lv st S := fun H locs ls hP hD hS hl => lv_iconst C.1.1 C.1.2.1 hd hv (k H locs ls hP hD hS hl)
theorem s_bipush (C : ih_Ok x w A cc nL own Ts rm ret) {n : Int} {v : Int32} (hd : decode cc pc = .ok (.bipush n, 2)) (hv : (Int8.ofInt n).toInt32 = v) (k : ih_Mw x w sh A Q nL cells slots (pc + 2) lv (.int v :: st) S) : ih_Mw x w sh A Q nL cells slots pc lv st S := fun H locs ls hP hD hS hl => lv_bipush C.1.1 C.1.2.1 hd hv (k H locs ls hP hD hS hl)
theorem s_sipush (C : ih_Ok x w A cc nL own Ts rm ret) {n : Int} {v : Int32} (hd : decode cc pc = .ok (.sipush n, 3)) (hv : (Int16.ofInt n).toInt32 = v) (k : ih_Mw x w sh A Q nL cells slots (pc + 3) lv (.int v :: st) S) : ih_Mw x w sh A Q nL cells slots pc lv st S := fun H locs ls hP hD hS hl => lv_sipush C.1.1 C.1.2.1 hd hv (k H locs ls hP hD hS hl)
theorem s_lconst (C : ih_Ok x w A cc nL own Ts rm ret) {n : Fin 2} {v : Int64} (hd : decode cc pc = .ok (.lconst n, 1)) (hv : Int64.ofNat (n : Nat) = v) (k : ih_Mw x w sh A Q nL cells slots (pc + 1) lv (.long v :: st) S) : ih_Mw x w sh A Q nL cells slots pc lv st S := fun H locs ls hP hD hS hl => lv_lconst C.1.1 C.1.2.1 hd hv (k H locs ls hP hD hS hl)
theorem s_iload_n (C : ih_Ok x w A cc nL own Ts rm ret) {kk : Fin 4} (i : Nat) {v : Int32} (hd : decode cc pc = .ok (.iload_n kk, 1)) (hl0 : lv[i]? = some ((kk : Nat), .int v)) (k : ih_Mw x w sh A Q nL cells slots (pc + 1) lv (.int v :: st) S) : ih_Mw x w sh A Q nL cells slots pc lv st S := fun H locs ls hP hD hS hl => lv_iload_n C.1.1 C.1.2.1 hd rfl (lv_at hl i hl0) (k H locs ls hP hD hS hl)
theorem s_iload (C : ih_Ok x w A cc nL own Ts rm ret) {j : Nat} (i : Nat) {v : Int32} (hd : decode cc pc = .ok (.iload j, 2)) (hl0 : lv[i]? = some (j, .int v)) (k : ih_Mw x w sh A Q nL cells slots (pc + 2) lv (.int v :: st) S) : ih_Mw x w sh A Q nL cells slots pc lv st S := fun H locs ls hP hD hS hl => lv_iload C.1.1 C.1.2.1 hd (lv_at hl i hl0) (k H locs ls hP hD hS hl)
theorem s_istore_n (C : ih_Ok x w A cc nL own Ts rm ret) {kk : Fin 4} {i : Nat} {v : Int32} {lv' : List (Nat × Value)} (hd : decode cc pc = .ok (.istore_n kk, 1)) (hi : (kk : Nat) = i) (hn : i < nL) (hl0 : (i, Value.int v) :: lv.filter (fun q => !(q.1 == i) && !(q.1 + 1 == i && q.2.category == 2)) = lv') (k : ih_Mw x w sh A Q nL cells slots (pc + 1) lv' st S) : ih_Mw x w sh A Q nL cells slots pc lv (.int v :: st) S := fun H locs ls hP hD hS hl => lv_istore_n C.1.1 C.1.2.1 hd hi hl hn hl0 (fun ls' hl' => k H locs ls' hP hD hS hl')
theorem s_istore (C : ih_Ok x w A cc nL own Ts rm ret) {i : Nat} {v : Int32} {lv' : List (Nat × Value)} (hd : decode cc pc = .ok (.istore i, 2)) (hn : i < nL) (hl0 : (i, Value.int v) :: lv.filter (fun q => !(q.1 == i) && !(q.1 + 1 == i && q.2.category == 2)) = lv') (k : ih_Mw x w sh A Q nL cells slots (pc + 2) lv' st S) : ih_Mw x w sh A Q nL cells slots pc lv (.int v :: st) S := fun H locs ls hP hD hS hl => lv_istore C.1.1 C.1.2.1 hd hl hn hl0 (fun ls' hl' => k H locs ls' hP hD hS hl')
theorem s_lload_n (C : ih_Ok x w A cc nL own Ts rm ret) {kk : Fin 4} (i : Nat) {v : Int64} (hd : decode cc pc = .ok (.lload_n kk, 1)) (hl0 : lv[i]? = some ((kk : Nat), .long v)) (k : ih_Mw x w sh A Q nL cells slots (pc + 1) lv (.long v :: st) S) : ih_Mw x w sh A Q nL cells slots pc lv st S := fun H locs ls hP hD hS hl => lv_lload_n C.1.1 C.1.2.1 hd rfl (lv_at hl i hl0) (k H locs ls hP hD hS hl)
theorem s_lload (C : ih_Ok x w A cc nL own Ts rm ret) {j : Nat} (i : Nat) {v : Int64} (hd : decode cc pc = .ok (.lload j, 2)) (hl0 : lv[i]? = some (j, .long v)) (k : ih_Mw x w sh A Q nL cells slots (pc + 2) lv (.long v :: st) S) : ih_Mw x w sh A Q nL cells slots pc lv st S := fun H locs ls hP hD hS hl => lv_lload C.1.1 C.1.2.1 hd (lv_at hl i hl0) (k H locs ls hP hD hS hl)
theorem s_lstore_n (C : ih_Ok x w A cc nL own Ts rm ret) {kk : Fin 4} {i : Nat} {v : Int64} {lv' : List (Nat × Value)} (hd : decode cc pc = .ok (.lstore_n kk, 1)) (hi : (kk : Nat) = i) (hn : i + 1 < nL) (hl0 : (i, Value.long v) :: lv.filter (fun q => !(q.1 == i) && (!(q.1 == i + 1) && !(q.1 + 1 == i && q.2.category == 2))) = lv') (k : ih_Mw x w sh A Q nL cells slots (pc + 1) lv' st S) : ih_Mw x w sh A Q nL cells slots pc lv (.long v :: st) S := fun H locs ls hP hD hS hl => lv_lstore_n C.1.1 C.1.2.1 hd hi hl hn hl0 (fun ls' hl' => k H locs ls' hP hD hS hl')
theorem s_lstore (C : ih_Ok x w A cc nL own Ts rm ret) {i : Nat} {v : Int64} {lv' : List (Nat × Value)} (hd : decode cc pc = .ok (.lstore i, 2)) (hn : i + 1 < nL) (hl0 : (i, Value.long v) :: lv.filter (fun q => !(q.1 == i) && (!(q.1 == i + 1) && !(q.1 + 1 == i && q.2.category == 2))) = lv') (k : ih_Mw x w sh A Q nL cells slots (pc + 2) lv' st S) : ih_Mw x w sh A Q nL cells slots pc lv (.long v :: st) S := fun H locs ls hP hD hS hl => lv_lstore C.1.1 C.1.2.1 hd hl hn hl0 (fun ls' hl' => k H locs ls' hP hD hS hl')
theorem s_aload_n (C : ih_Ok x w A cc nL own Ts rm ret) {kk : Fin 4} (i : Nat) {v : Nat} (hd : decode cc pc = .ok (.aload_n kk, 1)) (hl0 : lv[i]? = some ((kk : Nat), .ref v)) (k : ih_Mw x w sh A Q nL cells slots (pc + 1) lv (.ref v :: st) S) : ih_Mw x w sh A Q nL cells slots pc lv st S := fun H locs ls hP hD hS hl => lv_aload_n C.1.1 C.1.2.1 hd rfl (lv_at hl i hl0) (k H locs ls hP hD hS hl)
theorem s_aload (C : ih_Ok x w A cc nL own Ts rm ret) {j : Nat} (i : Nat) {v : Nat} (hd : decode cc pc = .ok (.aload j, 2)) (hl0 : lv[i]? = some (j, .ref v)) (k : ih_Mw x w sh A Q nL cells slots (pc + 2) lv (.ref v :: st) S) : ih_Mw x w sh A Q nL cells slots pc lv st S := fun H locs ls hP hD hS hl => lv_aload C.1.1 C.1.2.1 hd (lv_at hl i hl0) (k H locs ls hP hD hS hl)
theorem s_astore_n (C : ih_Ok x w A cc nL own Ts rm ret) {kk : Fin 4} {i : Nat} {v : Nat} {lv' : List (Nat × Value)} (hd : decode cc pc = .ok (.astore_n kk, 1)) (hi : (kk : Nat) = i) (hn : i < nL) (hl0 : (i, Value.ref v) :: lv.filter (fun q => !(q.1 == i) && !(q.1 + 1 == i && q.2.category == 2)) = lv') (k : ih_Mw x w sh A Q nL cells slots (pc + 1) lv' st S) : ih_Mw x w sh A Q nL cells slots pc lv (.ref v :: st) S := fun H locs ls hP hD hS hl => lv_astore_n C.1.1 C.1.2.1 hd hi hl hn hl0 (fun ls' hl' => k H locs ls' hP hD hS hl')
theorem s_astore (C : ih_Ok x w A cc nL own Ts rm ret) {i : Nat} {v : Nat} {lv' : List (Nat × Value)} (hd : decode cc pc = .ok (.astore i, 2)) (hn : i < nL) (hl0 : (i, Value.ref v) :: lv.filter (fun q => !(q.1 == i) && !(q.1 + 1 == i && q.2.category == 2)) = lv') (k : ih_Mw x w sh A Q nL cells slots (pc + 2) lv' st S) : ih_Mw x w sh A Q nL cells slots pc lv (.ref v :: st) S := fun H locs ls hP hD hS hl => lv_astore C.1.1 C.1.2.1 hd hl hn hl0 (fun ls' hl' => k H locs ls' hP hD hS hl')
theorem s_iinc (C : ih_Ok x w A cc nL own Ts rm ret) (j : Nat) {i : Nat} {n : Int} {v u : Int32} {lv' : List (Nat × Value)} (hd : decode cc pc = .ok (.iinc i n, 3)) (hk : lv[j]? = some (i, .int v)) (hv : v + Int32.ofInt n = u) (hn : i < nL) (hl0 : (i, Value.int u) :: lv.filter (fun q => !(q.1 == i) && !(q.1 + 1 == i && q.2.category == 2)) = lv') (k : ih_Mw x w sh A Q nL cells slots (pc + 3) lv' st S) : ih_Mw x w sh A Q nL cells slots pc lv st S := fun H locs ls hP hD hS hl => lv_iinc C.1.1 C.1.2.1 hd hl hk hv hn hl0 (fun ls' hl' => k H locs ls' hP hD hS hl')
theorem s_iadd (C : ih_Ok x w A cc nL own Ts rm ret) {a b : Int32} (hd : decode cc pc = .ok (.iadd, 1))  (k : ih_Mw x w sh A Q nL cells slots (pc + 1) lv (.int (a + b) :: st) S) : ih_Mw x w sh A Q nL cells slots pc lv (.int b :: .int a :: st) S := fun H locs ls hP hD hS hl => lv_iadd C.1.1 C.1.2.1 hd  (k H locs ls hP hD hS hl)
theorem s_isub (C : ih_Ok x w A cc nL own Ts rm ret) {a b : Int32} (hd : decode cc pc = .ok (.isub, 1))  (k : ih_Mw x w sh A Q nL cells slots (pc + 1) lv (.int (a - b) :: st) S) : ih_Mw x w sh A Q nL cells slots pc lv (.int b :: .int a :: st) S := fun H locs ls hP hD hS hl => lv_isub C.1.1 C.1.2.1 hd  (k H locs ls hP hD hS hl)
theorem s_imul (C : ih_Ok x w A cc nL own Ts rm ret) {a b : Int32} (hd : decode cc pc = .ok (.imul, 1))  (k : ih_Mw x w sh A Q nL cells slots (pc + 1) lv (.int (a * b) :: st) S) : ih_Mw x w sh A Q nL cells slots pc lv (.int b :: .int a :: st) S := fun H locs ls hP hD hS hl => lv_imul C.1.1 C.1.2.1 hd  (k H locs ls hP hD hS hl)
theorem s_iand (C : ih_Ok x w A cc nL own Ts rm ret) {a b : Int32} (hd : decode cc pc = .ok (.iand, 1))  (k : ih_Mw x w sh A Q nL cells slots (pc + 1) lv (.int (a &&& b) :: st) S) : ih_Mw x w sh A Q nL cells slots pc lv (.int b :: .int a :: st) S := fun H locs ls hP hD hS hl => lv_iand C.1.1 C.1.2.1 hd  (k H locs ls hP hD hS hl)
theorem s_ior (C : ih_Ok x w A cc nL own Ts rm ret) {a b : Int32} (hd : decode cc pc = .ok (.ior, 1))  (k : ih_Mw x w sh A Q nL cells slots (pc + 1) lv (.int (a ||| b) :: st) S) : ih_Mw x w sh A Q nL cells slots pc lv (.int b :: .int a :: st) S := fun H locs ls hP hD hS hl => lv_ior C.1.1 C.1.2.1 hd  (k H locs ls hP hD hS hl)
theorem s_ishl (C : ih_Ok x w A cc nL own Ts rm ret) {a b : Int32} (hd : decode cc pc = .ok (.ishl, 1))  (k : ih_Mw x w sh A Q nL cells slots (pc + 1) lv (.int (a <<< (b &&& 31)) :: st) S) : ih_Mw x w sh A Q nL cells slots pc lv (.int b :: .int a :: st) S := fun H locs ls hP hD hS hl => lv_ishl C.1.1 C.1.2.1 hd  (k H locs ls hP hD hS hl)
theorem s_ishr (C : ih_Ok x w A cc nL own Ts rm ret) {a b : Int32} (hd : decode cc pc = .ok (.ishr, 1))  (k : ih_Mw x w sh A Q nL cells slots (pc + 1) lv (.int (a >>> (b &&& 31)) :: st) S) : ih_Mw x w sh A Q nL cells slots pc lv (.int b :: .int a :: st) S := fun H locs ls hP hD hS hl => lv_ishr C.1.1 C.1.2.1 hd  (k H locs ls hP hD hS hl)
theorem s_idiv (C : ih_Ok x w A cc nL own Ts rm ret) {a b : Int32} (hd : decode cc pc = .ok (.idiv, 1)) (hne : ¬ b = 0) (k : ih_Mw x w sh A Q nL cells slots (pc + 1) lv (.int (a / b) :: st) S) : ih_Mw x w sh A Q nL cells slots pc lv (.int b :: .int a :: st) S := fun H locs ls hP hD hS hl => lv_idiv C.1.1 C.1.2.1 hd hne (k H locs ls hP hD hS hl)
theorem s_irem (C : ih_Ok x w A cc nL own Ts rm ret) {a b : Int32} (hd : decode cc pc = .ok (.irem, 1)) (hne : ¬ b = 0) (k : ih_Mw x w sh A Q nL cells slots (pc + 1) lv (.int (a - a / b * b) :: st) S) : ih_Mw x w sh A Q nL cells slots pc lv (.int b :: .int a :: st) S := fun H locs ls hP hD hS hl => lv_irem C.1.1 C.1.2.1 hd hne (k H locs ls hP hD hS hl)
theorem s_ineg (C : ih_Ok x w A cc nL own Ts rm ret) {a : Int32} (hd : decode cc pc = .ok (.ineg, 1))  (k : ih_Mw x w sh A Q nL cells slots (pc + 1) lv (.int (-a) :: st) S) : ih_Mw x w sh A Q nL cells slots pc lv (.int a :: st) S := fun H locs ls hP hD hS hl => lv_ineg C.1.1 C.1.2.1 hd  (k H locs ls hP hD hS hl)
theorem s_ladd (C : ih_Ok x w A cc nL own Ts rm ret) {a b : Int64} (hd : decode cc pc = .ok (.ladd, 1))  (k : ih_Mw x w sh A Q nL cells slots (pc + 1) lv (.long (a + b) :: st) S) : ih_Mw x w sh A Q nL cells slots pc lv (.long b :: .long a :: st) S := fun H locs ls hP hD hS hl => lv_ladd C.1.1 C.1.2.1 hd  (k H locs ls hP hD hS hl)
theorem s_lsub (C : ih_Ok x w A cc nL own Ts rm ret) {a b : Int64} (hd : decode cc pc = .ok (.lsub, 1))  (k : ih_Mw x w sh A Q nL cells slots (pc + 1) lv (.long (a - b) :: st) S) : ih_Mw x w sh A Q nL cells slots pc lv (.long b :: .long a :: st) S := fun H locs ls hP hD hS hl => lv_lsub C.1.1 C.1.2.1 hd  (k H locs ls hP hD hS hl)
theorem s_lmul (C : ih_Ok x w A cc nL own Ts rm ret) {a b : Int64} (hd : decode cc pc = .ok (.lmul, 1))  (k : ih_Mw x w sh A Q nL cells slots (pc + 1) lv (.long (a * b) :: st) S) : ih_Mw x w sh A Q nL cells slots pc lv (.long b :: .long a :: st) S := fun H locs ls hP hD hS hl => lv_lmul C.1.1 C.1.2.1 hd  (k H locs ls hP hD hS hl)
theorem s_ldiv (C : ih_Ok x w A cc nL own Ts rm ret) {a b : Int64} (hd : decode cc pc = .ok (.ldiv, 1)) (hne : ¬ b = 0) (k : ih_Mw x w sh A Q nL cells slots (pc + 1) lv (.long (a / b) :: st) S) : ih_Mw x w sh A Q nL cells slots pc lv (.long b :: .long a :: st) S := fun H locs ls hP hD hS hl => lv_ldiv C.1.1 C.1.2.1 hd hne (k H locs ls hP hD hS hl)
theorem s_i2l (C : ih_Ok x w A cc nL own Ts rm ret) {a : Int32} (hd : decode cc pc = .ok (.i2l, 1))  (k : ih_Mw x w sh A Q nL cells slots (pc + 1) lv (.long a.toInt64 :: st) S) : ih_Mw x w sh A Q nL cells slots pc lv (.int a :: st) S := fun H locs ls hP hD hS hl => lv_i2l C.1.1 C.1.2.1 hd rfl (k H locs ls hP hD hS hl)
theorem s_l2i (C : ih_Ok x w A cc nL own Ts rm ret) {a : Int64} (hd : decode cc pc = .ok (.l2i, 1))  (k : ih_Mw x w sh A Q nL cells slots (pc + 1) lv (.int a.toInt32 :: st) S) : ih_Mw x w sh A Q nL cells slots pc lv (.long a :: st) S := fun H locs ls hP hD hS hl => lv_l2i C.1.1 C.1.2.1 hd rfl (k H locs ls hP hD hS hl)
theorem s_i2b (C : ih_Ok x w A cc nL own Ts rm ret) {a : Int32} (hd : decode cc pc = .ok (.i2b, 1))  (k : ih_Mw x w sh A Q nL cells slots (pc + 1) lv (.int a.toInt8.toInt32 :: st) S) : ih_Mw x w sh A Q nL cells slots pc lv (.int a :: st) S := fun H locs ls hP hD hS hl => lv_i2b C.1.1 C.1.2.1 hd rfl (k H locs ls hP hD hS hl)
theorem s_i2s (C : ih_Ok x w A cc nL own Ts rm ret) {a : Int32} (hd : decode cc pc = .ok (.i2s, 1))  (k : ih_Mw x w sh A Q nL cells slots (pc + 1) lv (.int a.toInt16.toInt32 :: st) S) : ih_Mw x w sh A Q nL cells slots pc lv (.int a :: st) S := fun H locs ls hP hD hS hl => lv_i2s C.1.1 C.1.2.1 hd rfl (k H locs ls hP hD hS hl)
theorem s_iushr (C : ih_Ok x w A cc nL own Ts rm ret) {a b v : Int32} (hd : decode cc pc = .ok (.iushr, 1)) (hv : (a.toUInt32 >>> (b.toUInt32 &&& Int32.toUInt32 31)).toInt32 = v) (k : ih_Mw x w sh A Q nL cells slots (pc + 1) lv (.int v :: st) S) : ih_Mw x w sh A Q nL cells slots pc lv (.int b :: .int a :: st) S := fun H locs ls hP hD hS hl => lv_iushr C.1.1 C.1.2.1 hd hv (k H locs ls hP hD hS hl)
theorem s_lcmp (C : ih_Ok x w A cc nL own Ts rm ret) {a b : Int64} (hd : decode cc pc = .ok (.lcmp, 1))  (k : ih_Mw x w sh A Q nL cells slots (pc + 1) lv (.int (lg_cmp a b) :: st) S) : ih_Mw x w sh A Q nL cells slots pc lv (.long b :: .long a :: st) S := fun H locs ls hP hD hS hl => W.lcmp C.1.1 C.1.2.1 hd  (k H locs ls hP hD hS hl)
theorem s_dup (C : ih_Ok x w A cc nL own Ts rm ret) {v : Value} (hd : decode cc pc = .ok (.dup, 1)) (hv : v.category = 1) (k : ih_Mw x w sh A Q nL cells slots (pc + 1) lv (v :: v :: st) S) : ih_Mw x w sh A Q nL cells slots pc lv (v :: st) S := fun H locs ls hP hD hS hl => lv_dup C.1.1 C.1.2.1 hd hv (k H locs ls hP hD hS hl)
theorem s_dup2 (C : ih_Ok x w A cc nL own Ts rm ret) {v u : Value} (hd : decode cc pc = .ok (.dup2, 1)) (hv : v.category = 1) (hu : u.category = 1) (k : ih_Mw x w sh A Q nL cells slots (pc + 1) lv (v :: u :: v :: u :: st) S) : ih_Mw x w sh A Q nL cells slots pc lv (v :: u :: st) S := fun H locs ls hP hD hS hl => lv_dup2_11 C.1.1 C.1.2.1 hd hv hu (k H locs ls hP hD hS hl)
theorem s_if_eq (C : ih_Ok x w A cc nL own Ts rm ret) {a : Int32} {off : Int} (tgt : Nat) (hd : decode cc pc = .ok (.ifCond .eq off, 3)) (ht : (pc : Int) + off = (tgt : Int)) (kt : a = 0 → ih_Mw x w sh A Q nL cells slots tgt lv st S) (kf : ¬ a = 0 → ih_Mw x w sh A Q nL cells slots (pc + 3) lv st S) : ih_Mw x w sh A Q nL cells slots pc lv (.int a :: st) S := fun H locs ls hP hD hS hl => lv_if_eq C.1.1 C.1.2.1 hd ht (fun h => kt h H locs ls hP hD hS hl) (fun h => kf h H locs ls hP hD hS hl)
theorem s_icmp_eq (C : ih_Ok x w A cc nL own Ts rm ret) {a b : Int32} {off : Int} (tgt : Nat) (hd : decode cc pc = .ok (.if_icmp .eq off, 3)) (ht : (pc : Int) + off = (tgt : Int)) (kt : a = b → ih_Mw x w sh A Q nL cells slots tgt lv st S) (kf : ¬ a = b → ih_Mw x w sh A Q nL cells slots (pc + 3) lv st S) : ih_Mw x w sh A Q nL cells slots pc lv (.int b :: .int a :: st) S := fun H locs ls hP hD hS hl => lv_icmp_eq C.1.1 C.1.2.1 hd ht (fun h => kt h H locs ls hP hD hS hl) (fun h => kf h H locs ls hP hD hS hl)
theorem s_if_ne (C : ih_Ok x w A cc nL own Ts rm ret) {a : Int32} {off : Int} (tgt : Nat) (hd : decode cc pc = .ok (.ifCond .ne off, 3)) (ht : (pc : Int) + off = (tgt : Int)) (kt : ¬ a = 0 → ih_Mw x w sh A Q nL cells slots tgt lv st S) (kf : a = 0 → ih_Mw x w sh A Q nL cells slots (pc + 3) lv st S) : ih_Mw x w sh A Q nL cells slots pc lv (.int a :: st) S := fun H locs ls hP hD hS hl => lv_if_ne C.1.1 C.1.2.1 hd ht (fun h => kt h H locs ls hP hD hS hl) (fun h => kf h H locs ls hP hD hS hl)
theorem s_icmp_ne (C : ih_Ok x w A cc nL own Ts rm ret) {a b : Int32} {off : Int} (tgt : Nat) (hd : decode cc pc = .ok (.if_icmp .ne off, 3)) (ht : (pc : Int) + off = (tgt : Int)) (kt : ¬ a = b → ih_Mw x w sh A Q nL cells slots tgt lv st S) (kf : a = b → ih_Mw x w sh A Q nL cells slots (pc + 3) lv st S) : ih_Mw x w sh A Q nL cells slots pc lv (.int b :: .int a :: st) S := fun H locs ls hP hD hS hl => lv_icmp_ne C.1.1 C.1.2.1 hd ht (fun h => kt h H locs ls hP hD hS hl) (fun h => kf h H locs ls hP hD hS hl)
theorem s_if_lt (C : ih_Ok x w A cc nL own Ts rm ret) {a : Int32} {off : Int} (tgt : Nat) (hd : decode cc pc = .ok (.ifCond .lt off, 3)) (ht : (pc : Int) + off = (tgt : Int)) (kt : a < 0 → ih_Mw x w sh A Q nL cells slots tgt lv st S) (kf : ¬ a < 0 → ih_Mw x w sh A Q nL cells slots (pc + 3) lv st S) : ih_Mw x w sh A Q nL cells slots pc lv (.int a :: st) S := fun H locs ls hP hD hS hl => lv_if_lt C.1.1 C.1.2.1 hd ht (fun h => kt h H locs ls hP hD hS hl) (fun h => kf h H locs ls hP hD hS hl)
theorem s_icmp_lt (C : ih_Ok x w A cc nL own Ts rm ret) {a b : Int32} {off : Int} (tgt : Nat) (hd : decode cc pc = .ok (.if_icmp .lt off, 3)) (ht : (pc : Int) + off = (tgt : Int)) (kt : a < b → ih_Mw x w sh A Q nL cells slots tgt lv st S) (kf : ¬ a < b → ih_Mw x w sh A Q nL cells slots (pc + 3) lv st S) : ih_Mw x w sh A Q nL cells slots pc lv (.int b :: .int a :: st) S := fun H locs ls hP hD hS hl => lv_icmp_lt C.1.1 C.1.2.1 hd ht (fun h => kt h H locs ls hP hD hS hl) (fun h => kf h H locs ls hP hD hS hl)
theorem s_if_ge (C : ih_Ok x w A cc nL own Ts rm ret) {a : Int32} {off : Int} (tgt : Nat) (hd : decode cc pc = .ok (.ifCond .ge off, 3)) (ht : (pc : Int) + off = (tgt : Int)) (kt : 0 ≤ a → ih_Mw x w sh A Q nL cells slots tgt lv st S) (kf : ¬ 0 ≤ a → ih_Mw x w sh A Q nL cells slots (pc + 3) lv st S) : ih_Mw x w sh A Q nL cells slots pc lv (.int a :: st) S := fun H locs ls hP hD hS hl => lv_if_ge C.1.1 C.1.2.1 hd ht (fun h => kt h H locs ls hP hD hS hl) (fun h => kf h H locs ls hP hD hS hl)
theorem s_icmp_ge (C : ih_Ok x w A cc nL own Ts rm ret) {a b : Int32} {off : Int} (tgt : Nat) (hd : decode cc pc = .ok (.if_icmp .ge off, 3)) (ht : (pc : Int) + off = (tgt : Int)) (kt : b ≤ a → ih_Mw x w sh A Q nL cells slots tgt lv st S) (kf : ¬ b ≤ a → ih_Mw x w sh A Q nL cells slots (pc + 3) lv st S) : ih_Mw x w sh A Q nL cells slots pc lv (.int b :: .int a :: st) S := fun H locs ls hP hD hS hl => lv_icmp_ge C.1.1 C.1.2.1 hd ht (fun h => kt h H locs ls hP hD hS hl) (fun h => kf h H locs ls hP hD hS hl)
theorem s_if_gt (C : ih_Ok x w A cc nL own Ts rm ret) {a : Int32} {off : Int} (tgt : Nat) (hd : decode cc pc = .ok (.ifCond .gt off, 3)) (ht : (pc : Int) + off = (tgt : Int)) (kt : 0 < a → ih_Mw x w sh A Q nL cells slots tgt lv st S) (kf : ¬ 0 < a → ih_Mw x w sh A Q nL cells slots (pc + 3) lv st S) : ih_Mw x w sh A Q nL cells slots pc lv (.int a :: st) S := fun H locs ls hP hD hS hl => lv_if_gt C.1.1 C.1.2.1 hd ht (fun h => kt h H locs ls hP hD hS hl) (fun h => kf h H locs ls hP hD hS hl)
theorem s_icmp_gt (C : ih_Ok x w A cc nL own Ts rm ret) {a b : Int32} {off : Int} (tgt : Nat) (hd : decode cc pc = .ok (.if_icmp .gt off, 3)) (ht : (pc : Int) + off = (tgt : Int)) (kt : b < a → ih_Mw x w sh A Q nL cells slots tgt lv st S) (kf : ¬ b < a → ih_Mw x w sh A Q nL cells slots (pc + 3) lv st S) : ih_Mw x w sh A Q nL cells slots pc lv (.int b :: .int a :: st) S := fun H locs ls hP hD hS hl => lv_icmp_gt C.1.1 C.1.2.1 hd ht (fun h => kt h H locs ls hP hD hS hl) (fun h => kf h H locs ls hP hD hS hl)
theorem s_if_le (C : ih_Ok x w A cc nL own Ts rm ret) {a : Int32} {off : Int} (tgt : Nat) (hd : decode cc pc = .ok (.ifCond .le off, 3)) (ht : (pc : Int) + off = (tgt : Int)) (kt : a ≤ 0 → ih_Mw x w sh A Q nL cells slots tgt lv st S) (kf : ¬ a ≤ 0 → ih_Mw x w sh A Q nL cells slots (pc + 3) lv st S) : ih_Mw x w sh A Q nL cells slots pc lv (.int a :: st) S := fun H locs ls hP hD hS hl => lv_if_le C.1.1 C.1.2.1 hd ht (fun h => kt h H locs ls hP hD hS hl) (fun h => kf h H locs ls hP hD hS hl)
theorem s_icmp_le (C : ih_Ok x w A cc nL own Ts rm ret) {a b : Int32} {off : Int} (tgt : Nat) (hd : decode cc pc = .ok (.if_icmp .le off, 3)) (ht : (pc : Int) + off = (tgt : Int)) (kt : a ≤ b → ih_Mw x w sh A Q nL cells slots tgt lv st S) (kf : ¬ a ≤ b → ih_Mw x w sh A Q nL cells slots (pc + 3) lv st S) : ih_Mw x w sh A Q nL cells slots pc lv (.int b :: .int a :: st) S := fun H locs ls hP hD hS hl => lv_icmp_le C.1.1 C.1.2.1 hd ht (fun h => kt h H locs ls hP hD hS hl) (fun h => kf h H locs ls hP hD hS hl)
theorem s_goto (C : ih_Ok x w A cc nL own Ts rm ret) {off : Int} (tgt : Nat) (hd : decode cc pc = .ok (.goto off, 3)) (ht : (pc : Int) + off = (tgt : Int)) (k : ih_Mw x w sh A Q nL cells slots tgt lv st S) : ih_Mw x w sh A Q nL cells slots pc lv st S := fun H locs ls hP hD hS hl => lv_goto C.1.1 C.1.2.1 hd ht (k H locs ls hP hD hS hl)
theorem s_tableIn (C : ih_Ok x w A cc nL own Ts rm ret) {dflt lo hi : Int} {offs : Array Int} {len : Nat} {a : Int32} {off : Int} (tgt : Nat) (hd : decode cc pc = .ok (.tableswitch dflt lo hi offs, len)) (h1 : ¬ a.toInt < lo) (h2 : ¬ hi < a.toInt) (ho : offs[(a.toInt - lo).toNat]? = some off) (ht : (pc : Int) + off = (tgt : Int)) (k : ih_Mw x w sh A Q nL cells slots tgt lv st S) : ih_Mw x w sh A Q nL cells slots pc lv (.int a :: st) S := fun H locs ls hP hD hS hl => lv_tableIn C.1.1 C.1.2.1 hd h1 h2 ho ht (k H locs ls hP hD hS hl)
theorem s_tableOut (C : ih_Ok x w A cc nL own Ts rm ret) {dflt lo hi : Int} {offs : Array Int} {len : Nat} {a : Int32} (tgt : Nat) (hd : decode cc pc = .ok (.tableswitch dflt lo hi offs, len)) (h : a.toInt < lo ∨ hi < a.toInt) (ht : (pc : Int) + dflt = (tgt : Int)) (k : ih_Mw x w sh A Q nL cells slots tgt lv st S) : ih_Mw x w sh A Q nL cells slots pc lv (.int a :: st) S := fun H locs ls hP hD hS hl => lv_tableOut C.1.1 C.1.2.1 hd h ht (k H locs ls hP hD hS hl)
theorem s_ldc (C : ih_Ok x w A cc nL own Ts rm ret) {index : Nat} {v : Int32} (hc : Jvm.Cond.constant own index v ∈ Ts) (hd : decode cc pc = .ok (.ldc index, 2)) (k : ih_Mw x w sh A Q nL cells slots (pc + 2) lv (.int v :: st) S) : ih_Mw x w sh A Q nL cells slots pc lv st S := fun H locs ls hP hD hS hl => lv_ldc C.1.1 C.1.2.1 C.1.2.2.2.1 (C.1.2.2.2.2 _ hc) hd (k H locs ls hP hD hS hl)
theorem s_ldc2 (C : ih_Ok x w A cc nL own Ts rm ret) {index : Nat} {v : Int64} (hc : Jvm.Cond.constantLong own index v ∈ Ts) (hd : decode cc pc = .ok (.ldc2_w index, 3)) (k : ih_Mw x w sh A Q nL cells slots (pc + 3) lv (.long v :: st) S) : ih_Mw x w sh A Q nL cells slots pc lv st S := fun H locs ls hP hD hS hl => lv_ldc2 C.1.1 C.1.2.1 C.1.2.2.2.1 (C.1.2.2.2.2 _ hc) hd (k H locs ls hP hD hS hl)
theorem s_topi {a : Int32} (k : ∀ y : Int32, y = a → ih_Mw x w sh A Q nL cells slots pc lv (.int y :: st) S) : ih_Mw x w sh A Q nL cells slots pc lv (.int a :: st) S := k a rfl
theorem s_topl {a : Int64} (k : ∀ y : Int64, y = a → ih_Mw x w sh A Q nL cells slots pc lv (.long y :: st) S) : ih_Mw x w sh A Q nL cells slots pc lv (.long a :: st) S := k a rfl
theorem s_toe {a b : Int32} (h : a = b) (k : ih_Mw x w sh A Q nL cells slots pc lv (.int b :: st) S) : ih_Mw x w sh A Q nL cells slots pc lv (.int a :: st) S := h ▸ k
theorem s_tol {a b : Int64} (h : a = b) (k : ih_Mw x w sh A Q nL cells slots pc lv (.long b :: st) S) : ih_Mw x w sh A Q nL cells slots pc lv (.long a :: st) S := h ▸ k
theorem s_toS {S' : ih_Sg} (h : S = S') (k : ih_Mw x w sh A Q nL cells slots pc lv st S') : ih_Mw x w sh A Q nL cells slots pc lv st S := h ▸ k
theorem s_perm {lv' : List (Nat × Value)} (ks : List Nat) (h : lv_pick lv ks = lv') (k : ih_Mw x w sh A Q nL cells slots pc lv' st S) : ih_Mw x w sh A Q nL cells slots pc lv st S := fun H locs ls hP hD hS hl => k H locs ls hP hD hS (lv_sub hl ks h)
theorem ih_ce_o {w : ih_Wd} {kd ln : Nat} {I : Nat → Int32} {J : Nat → Int64} {R : Nat → Option Nat} (h : kd < 9) : ih_ce w kd ln I J R = .inr (kd, ih_fs w.2.2 kd I R) := by rw [ih_ce, if_pos h]
theorem ih_ce_I {w : ih_Wd} {kd ln : Nat} {I : Nat → Int32} {J : Nat → Int64} {R : Nat → Option Nat} (h : kd = 9) : ih_ce w kd ln I J R = .inl (w.2.1 0, ln, .inl I) := by subst h; rfl
theorem ih_ce_J {w : ih_Wd} {kd ln : Nat} {I : Nat → Int32} {J : Nat → Int64} {R : Nat → Option Nat} (h : kd = 10) : ih_ce w kd ln I J R = .inl (w.2.1 1, ln, .inr (.inl J)) := by subst h; rfl
theorem s_getI (C : ih_Ok x w A cc nL own Ts rm ret) {index : Nat} {Cn : String} {T : u_T} {N k : Nat} (ci j : Nat) (hk : k < sh.2.2) (hkd : sh.1 k = ci) (h9 : ci < 9) (hc : vwCl[ci]? = some (Cn, T, N)) (hin : ∀ w ∈ u_ws Cn T N, w ∈ Ts) (hj : j < N) (hb : (ih_fl ci)[j]? = some false) (hlink : Cond.fieldLink own index (T j).1 (T j).2.1 (T j).2.2.1 ∈ Ts) (hd : decode cc pc = .ok (.getfield index, 3)) (kk : ih_Mw x w sh A Q nL cells slots (pc + 3) lv (.int (S.1 k j) :: st) S) : ih_Mw x w sh A Q nL cells slots pc lv (.ref (w.2.2 k) :: st) S := by
  intro H locs ls hP hD hS hl
  have he := ih_wl_get (w := w) (S := S) hk
  rw [hkd, ih_ce_o h9] at he
  exact va_get C.1.1 C.1.2.1 C.1.2.2.2.2 hin C.1.2.2.2.1 C.2.1.1 hP k he hc j hj (C.1.2.2.2.2 _ hlink) (fun _ h => h) (ih_fs_get hb) hd (kk H locs ls hP hD hS hl)
theorem s_getR (C : ih_Ok x w A cc nL own Ts rm ret) {index : Nat} {Cn : String} {T : u_T} {N k i : Nat} (ci j : Nat) (hR : S.2.2 k j = some i) (hk : k < sh.2.2) (hkd : sh.1 k = ci) (h9 : ci < 9) (hc : vwCl[ci]? = some (Cn, T, N)) (hin : ∀ w ∈ u_ws Cn T N, w ∈ Ts) (hj : j < N) (hb : (ih_fl ci)[j]? = some true) (hlink : Cond.fieldLink own index (T j).1 (T j).2.1 (T j).2.2.1 ∈ Ts) (hd : decode cc pc = .ok (.getfield index, 3)) (kk : ih_Mw x w sh A Q nL cells slots (pc + 3) lv (.ref (w.2.2 i) :: st) S) : ih_Mw x w sh A Q nL cells slots pc lv (.ref (w.2.2 k) :: st) S := by
  intro H locs ls hP hD hS hl
  have he := ih_wl_get (w := w) (S := S) hk
  rw [hkd, ih_ce_o h9] at he
  have hv := ih_fs_get (ad := w.2.2) (I := S.1 k) (R := S.2.2 k) hb
  rw [hR] at hv
  exact va_get C.1.1 C.1.2.1 C.1.2.2.2.2 hin C.1.2.2.2.1 C.2.1.1 hP k he hc j hj (C.1.2.2.2.2 _ hlink) (fun _ h => h) hv hd (kk H locs ls hP hD hS hl)
theorem s_putI (C : ih_Ok x w A cc nL own Ts rm ret) {index : Nat} {Cn : String} {T : u_T} {N k : Nat} {v : Int32} {ty : FieldType} (ci j : Nat) (ty0 : Nat → FieldType) (hty : ∀ k, k < N → parseFieldDescriptor (T k).2.2.1 = some (ty0 k)) (hnm : ∀ a, a < N → ∀ b, b < N → a ≠ b → (T a).2.1 ≠ (T b).2.1) (hk : k < sh.2.2) (hkd : sh.1 k = ci) (h9 : ci < 9) (hc : vwCl[ci]? = some (Cn, T, N)) (hin : ∀ w ∈ u_ws Cn T N, w ∈ Ts) (hj : j < N) (hb : (ih_fl ci)[j]? = some false) (hlink : Cond.fieldLink own index (T j).1 (T j).2.1 (T j).2.2.1 ∈ Ts) (hfin : (T j).2.2.2 = false) (hde : parseFieldDescriptor (T j).2.2.1 = some ty) (hn : narrow ty (.int v) = .int v) (hfit : fits ty (.int v) = true) (hd : decode cc pc = .ok (.putfield index, 3)) (kk : ih_Mw x w sh A Q nL cells slots (pc + 3) lv st (ih_sI S k j v)) : ih_Mw x w sh A Q nL cells slots pc lv (.int v :: .ref (w.2.2 k) :: st) S := by
  intro H locs ls hP hD hS hl
  have he := ih_wl_get (w := w) (S := S) hk
  rw [hkd, ih_ce_o h9] at he
  have hjl : j < (ih_fl ci).length := by
    rcases Nat.lt_or_ge j (ih_fl ci).length with q | q
    · exact q
    · rw [List.getElem?_eq_none q] at hb; cases hb
  have hset : (ih_wl w sh S).set k (w.2.2 k, .inr (ci, (ih_fs w.2.2 ci (S.1 k) (S.2.2 k)).set j (.int v))) = ih_wl w sh (ih_sI S k j v) := by
    refine ih_wl_set ?_ (fun i hi => ⟨ih_u2_row hi, rfl, rfl⟩)
    rw [hkd, ih_ce_o h9]
    refine congrArg (fun l => Sum.inr (ci, l)) (ih_fs_ext hjl ?_ (fun i hi => ⟨ih_u2_j hi, rfl⟩))
    rw [List.getD_eq_getElem?_getD, hb]
    show Value.int (ih_u2 S.1 k j v k j) = _
    rw [ih_u2_s]
  refine va_put C.1.1 C.1.2.1 C.1.2.2.2.2 hin ty0 hty hnm C.1.2.2.2.1 C.2.1.1 hP hD hS k he hc j hj (C.1.2.2.2.2 _ hlink) (fun _ h => h) hfin hde hn hfit (by rw [ih_fs_len]; exact hjl) hd (fun H1 locs1 hP1 hD1 hS1 => ?_)
  rw [hset] at hP1 hD1
  exact kk H1 locs1 ls hP1 hD1 hS1 hl
theorem s_putR (C : ih_Ok x w A cc nL own Ts rm ret) {index : Nat} {Cn : String} {T : u_T} {N k i : Nat} {ty : FieldType} (ci j : Nat) (ty0 : Nat → FieldType) (hty : ∀ k, k < N → parseFieldDescriptor (T k).2.2.1 = some (ty0 k)) (hnm : ∀ a, a < N → ∀ b, b < N → a ≠ b → (T a).2.1 ≠ (T b).2.1) (hk : k < sh.2.2) (hkd : sh.1 k = ci) (h9 : ci < 9) (hc : vwCl[ci]? = some (Cn, T, N)) (hin : ∀ w ∈ u_ws Cn T N, w ∈ Ts) (hj : j < N) (hb : (ih_fl ci)[j]? = some true) (hlink : Cond.fieldLink own index (T j).1 (T j).2.1 (T j).2.2.1 ∈ Ts) (hfin : (T j).2.2.2 = false) (hde : parseFieldDescriptor (T j).2.2.1 = some ty) (hn : narrow ty (.ref (w.2.2 i)) = .ref (w.2.2 i)) (hfit : fits ty (.ref (w.2.2 i)) = true) (hd : decode cc pc = .ok (.putfield index, 3)) (kk : ih_Mw x w sh A Q nL cells slots (pc + 3) lv st (ih_sR S k j (some i))) : ih_Mw x w sh A Q nL cells slots pc lv (.ref (w.2.2 i) :: .ref (w.2.2 k) :: st) S := by
  intro H locs ls hP hD hS hl
  have he := ih_wl_get (w := w) (S := S) hk
  rw [hkd, ih_ce_o h9] at he
  have hjl : j < (ih_fl ci).length := by
    rcases Nat.lt_or_ge j (ih_fl ci).length with q | q
    · exact q
    · rw [List.getElem?_eq_none q] at hb; cases hb
  have hset : (ih_wl w sh S).set k (w.2.2 k, .inr (ci, (ih_fs w.2.2 ci (S.1 k) (S.2.2 k)).set j (.ref (w.2.2 i)))) = ih_wl w sh (ih_sR S k j (some i)) := by
    refine ih_wl_set ?_ (fun i hi => ⟨rfl, rfl, ih_u2_row hi⟩)
    rw [hkd, ih_ce_o h9]
    refine congrArg (fun l => Sum.inr (ci, l)) (ih_fs_ext hjl ?_ (fun i hi => ⟨rfl, ih_u2_j hi⟩))
    rw [List.getD_eq_getElem?_getD, hb]
    show ih_rv w.2.2 (ih_u2 S.2.2 k j (some i) k j) = _
    rw [ih_u2_s]; rfl
  refine va_put C.1.1 C.1.2.1 C.1.2.2.2.2 hin ty0 hty hnm C.1.2.2.2.1 C.2.1.1 hP hD hS k he hc j hj (C.1.2.2.2.2 _ hlink) (fun _ h => h) hfin hde hn hfit (by rw [ih_fs_len]; exact hjl) hd (fun H1 locs1 hP1 hD1 hS1 => ?_)
  rw [hset] at hP1 hD1
  exact kk H1 locs1 ls hP1 hD1 hS1 hl
theorem s_iaload (C : ih_Ok x w A cc nL own Ts rm ret) {k : Nat} {a : Int32} (n i : Nat) (ha : a = nI i) (hn : sh.2.1 k = n) (hi : i < n) (hs : n < 2147483648) (hk : k < sh.2.2) (hkd : sh.1 k = 9) (hd : decode cc pc = .ok (.iaload, 1)) (kk : ih_Mw x w sh A Q nL cells slots (pc + 1) lv (.int (S.1 k i) :: st) S) : ih_Mw x w sh A Q nL cells slots pc lv (.int a :: .ref (w.2.2 k) :: st) S := by
  subst ha hn
  intro H locs ls hP hD hS hl
  have he := ih_wl_get (w := w) (S := S) hk
  rw [ih_ce_I hkd] at he
  refine va_iald C.1.1 C.1.2.1 C.2.1.1 hP k 0 he rfl (vp_in_nI hi hs) hd ?_
  rw [nI_clamp (by omega)]
  exact kk H locs ls hP hD hS hl
theorem s_iastore (C : ih_Ok x w A cc nL own Ts rm ret) {k : Nat} {a v : Int32} (n i : Nat) (ha : a = nI i) (hn : sh.2.1 k = n) (hi : i < n) (hs : n < 2147483648) (hk : k < sh.2.2) (hkd : sh.1 k = 9) (hd : decode cc pc = .ok (.iastore, 1)) (kk : ih_Mw x w sh A Q nL cells slots (pc + 1) lv st (ih_sI S k i v)) : ih_Mw x w sh A Q nL cells slots pc lv (.int v :: .int a :: .ref (w.2.2 k) :: st) S := by
  subst ha hn
  intro H locs ls hP hD hS hl
  have he := ih_wl_get (w := w) (S := S) hk
  rw [ih_ce_I hkd] at he
  have hset : (ih_wl w sh S).set k (w.2.2 k, .inl (w.2.1 0, sh.2.1 k, .inl (upd (S.1 k) i v))) = ih_wl w sh (ih_sI S k i v) := by
    refine ih_wl_set ?_ (fun i hi => ⟨ih_u2_row hi, rfl, rfl⟩)
    rw [ih_ce_I hkd]
    refine congrArg (fun f => Sum.inl (w.2.1 0, sh.2.1 k, Sum.inl f)) ?_
    funext b
    show upd (S.1 k) i v b = ih_u2 S.1 k i v k b
    by_cases hbi : b = i
    · subst hbi; rw [ih_u2_s, pk_us]
    · rw [ih_u2_j hbi, pk_un hbi]
  refine va_iast C.1.1 C.1.2.1 C.2.1.1 hP hD hS k 0 he rfl (vp_in_nI hi hs) hd (fun H1 locs1 hP1 hD1 hS1 => ?_)
  rw [nI_clamp (by omega), hset] at hP1 hD1
  exact kk H1 locs1 ls hP1 hD1 hS1 hl
theorem s_laload (C : ih_Ok x w A cc nL own Ts rm ret) {k : Nat} {a : Int32} (n i : Nat) (ha : a = nI i) (hn : sh.2.1 k = n) (hi : i < n) (hs : n < 2147483648) (hk : k < sh.2.2) (hkd : sh.1 k = 10) (hd : decode cc pc = .ok (.laload, 1)) (kk : ih_Mw x w sh A Q nL cells slots (pc + 1) lv (.long (S.2.1 k i) :: st) S) : ih_Mw x w sh A Q nL cells slots pc lv (.int a :: .ref (w.2.2 k) :: st) S := by
  subst ha hn
  intro H locs ls hP hD hS hl
  have he := ih_wl_get (w := w) (S := S) hk
  rw [ih_ce_J hkd] at he
  refine va_lald C.1.1 C.1.2.1 C.2.1.1 hP k 1 he rfl (vp_in_nI hi hs) hd ?_
  rw [nI_clamp (by omega)]
  exact kk H locs ls hP hD hS hl
theorem s_lastore (C : ih_Ok x w A cc nL own Ts rm ret) {k : Nat} {a : Int32} {v : Int64} (n i : Nat) (ha : a = nI i) (hn : sh.2.1 k = n) (hi : i < n) (hs : n < 2147483648) (hk : k < sh.2.2) (hkd : sh.1 k = 10) (hd : decode cc pc = .ok (.lastore, 1)) (kk : ih_Mw x w sh A Q nL cells slots (pc + 1) lv st (ih_sJ S k i v)) : ih_Mw x w sh A Q nL cells slots pc lv (.long v :: .int a :: .ref (w.2.2 k) :: st) S := by
  subst ha hn
  intro H locs ls hP hD hS hl
  have he := ih_wl_get (w := w) (S := S) hk
  rw [ih_ce_J hkd] at he
  have hset : (ih_wl w sh S).set k (w.2.2 k, .inl (w.2.1 1, sh.2.1 k, .inr (.inl (vp_updL (S.2.1 k) i v)))) = ih_wl w sh (ih_sJ S k i v) := by
    refine ih_wl_set ?_ (fun i hi => ⟨rfl, ih_u2_row hi, rfl⟩)
    rw [ih_ce_J hkd]
    refine congrArg (fun f => Sum.inl (w.2.1 1, sh.2.1 k, Sum.inr (Sum.inl f))) ?_
    funext b
    show vp_updL (S.2.1 k) i v b = ih_u2 S.2.1 k i v k b
    by_cases hbi : b = i
    · subst hbi; rw [ih_u2_s, pk_uLs]
    · rw [ih_u2_j hbi, pk_uLn hbi]
  refine va_last C.1.1 C.1.2.1 C.2.1.1 hP hD hS k 1 he rfl (vp_in_nI hi hs) hd (fun H1 locs1 hP1 hD1 hS1 => ?_)
  rw [nI_clamp (by omega), hset] at hP1 hD1
  exact kk H1 locs1 ls hP1 hD1 hS1 hl
theorem s_aaload (C : ih_Ok x w A cc nL own Ts rm ret) {k kd j : Nat} {a : Int32} (n i : Nat) (hR : S.2.2 k i = some j) (ha : a = nI i) (hn : sh.2.1 k = n) (hi : i < n) (hs : n < 2147483648) (hk : k < sh.2.2) (hkd : sh.1 k = kd) (hk2 : kd = 11 ∨ kd = 12) (hd : decode cc pc = .ok (.aaload, 1)) (kk : ih_Mw x w sh A Q nL cells slots (pc + 1) lv (.ref (w.2.2 j) :: st) S) : ih_Mw x w sh A Q nL cells slots pc lv (.int a :: .ref (w.2.2 k) :: st) S := by
  subst ha hn
  intro H locs ls hP hD hS hl
  have he := ih_wl_get (w := w) (S := S) hk
  rcases hk2 with rfl | rfl
  · rw [hkd] at he
    refine va_aldq (C := RX5) C.1.1 C.1.2.1 C.2.1.1 hP k 2 (f := fun j => (S.2.2 k j).map w.2.2) he rfl (vp_in_nI hi hs) hd ?_
    rw [nI_clamp (by omega), hR]
    exact kk H locs ls hP hD hS hl
  · rw [hkd] at he
    refine va_aldq (C := RX6) C.1.1 C.1.2.1 C.2.1.1 hP k 3 (f := fun j => (S.2.2 k j).map w.2.2) he rfl (vp_in_nI hi hs) hd ?_
    rw [nI_clamp (by omega), hR]
    exact kk H locs ls hP hD hS hl
theorem s_alen (C : ih_Ok x w A cc nL own Ts rm ret) {k : Nat} {v : Int32} (t0 : Nat) (hv : nI (sh.2.1 k) = v) (hk : k < sh.2.2) (hkd : (sh.1 k = 9 ∧ t0 = 0) ∨ (sh.1 k = 10 ∧ t0 = 1)) (hd : decode cc pc = .ok (.arraylength, 1)) (kk : ih_Mw x w sh A Q nL cells slots (pc + 1) lv (.int v :: st) S) : ih_Mw x w sh A Q nL cells slots pc lv (.ref (w.2.2 k) :: st) S := by
  intro H locs ls hP hD hS hl
  have he := ih_wl_get (w := w) (S := S) hk
  rcases hkd with ⟨h, rfl⟩ | ⟨h, rfl⟩
  · rw [ih_ce_I h] at he
    exact va_alen C.1.1 C.1.2.1 C.2.1.1 hP k 0 he (ty := .int) rfl hv hd (kk H locs ls hP hD hS hl)
  · rw [ih_ce_J h] at he
    exact va_alen C.1.1 C.1.2.1 C.2.1.1 hP k 1 he (ty := .long) rfl hv hd (kk H locs ls hP hD hS hl)
end IhRows
