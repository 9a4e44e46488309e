theorem ev_iconst {X : Cx} {M : MI} {d : Nat} {h0 : Hp} {r : Option Value} {h' : Hp} {pc : Nat} {loc : List (Option Value)} {stk : List Value} {h : Hp} {n : Int} {v : Int32} (hd : decode M.2.1 pc = .ok (.iconst n, 1)) (hv : Int32.ofInt n = v) (k : EV X M d h0 r h' (pc + 1) (loc) (.int v :: stk) (h)) : EV X M d h0 r h' (pc) (loc) (stk) (h) := ⟨k.1, fun g1 g2 p e s m args below meth c H locs ls F Hx L => lv_iconst F.1 F.2.1 hd hv (k.2 g1 g2 p e s m args below meth c H locs ls F Hx L)⟩
theorem ev_bipush {X : Cx} {M : MI} {d : Nat} {h0 : Hp} {r : Option Value} {h' : Hp} {pc : Nat} {loc : List (Option Value)} {stk : List Value} {h : Hp} {n : Int} {v : Int32} (hd : decode M.2.1 pc = .ok (.bipush n, 2)) (hv : (Int8.ofInt n).toInt32 = v) (k : EV X M d h0 r h' (pc + 2) (loc) (.int v :: stk) (h)) : EV X M d h0 r h' (pc) (loc) (stk) (h) := ⟨k.1, fun g1 g2 p e s m args below meth c H locs ls F Hx L => lv_bipush F.1 F.2.1 hd hv (k.2 g1 g2 p e s m args below meth c H locs ls F Hx L)⟩
theorem ev_sipush {X : Cx} {M : MI} {d : Nat} {h0 : Hp} {r : Option Value} {h' : Hp} {pc : Nat} {loc : List (Option Value)} {stk : List Value} {h : Hp} {n : Int} {v : Int32} (hd : decode M.2.1 pc = .ok (.sipush n, 3)) (hv : (Int16.ofInt n).toInt32 = v) (k : EV X M d h0 r h' (pc + 3) (loc) (.int v :: stk) (h)) : EV X M d h0 r h' (pc) (loc) (stk) (h) := ⟨k.1, fun g1 g2 p e s m args below meth c H locs ls F Hx L => lv_sipush F.1 F.2.1 hd hv (k.2 g1 g2 p e s m args below meth c H locs ls F Hx L)⟩
theorem ev_lconst {X : Cx} {M : MI} {d : Nat} {h0 : Hp} {r : Option Value} {h' : Hp} {pc : Nat} {loc : List (Option Value)} {stk : List Value} {h : Hp} {n : Fin 2} {v : Int64} (hd : decode M.2.1 pc = .ok (.lconst n, 1)) (hv : Int64.ofNat (n : Nat) = v) (k : EV X M d h0 r h' (pc + 1) (loc) (.long v :: stk) (h)) : EV X M d h0 r h' (pc) (loc) (stk) (h) := ⟨k.1, fun g1 g2 p e s m args below meth c H locs ls F Hx L => lv_lconst F.1 F.2.1 hd hv (k.2 g1 g2 p e s m args below meth c H locs ls F Hx L)⟩
theorem ev_anull {X : Cx} {M : MI} {d : Nat} {h0 : Hp} {r : Option Value} {h' : Hp} {pc : Nat} {loc : List (Option Value)} {stk : List Value} {h : Hp}  (hd : decode M.2.1 pc = .ok (.aconst_null, 1))  (k : EV X M d h0 r h' (pc + 1) (loc) (.null :: stk) (h)) : EV X M d h0 r h' (pc) (loc) (stk) (h) := ⟨k.1, fun g1 g2 p e s m args below meth c H locs ls F Hx L => lv_null F.1 F.2.1 hd (k.2 g1 g2 p e s m args below meth c H locs ls F Hx L)⟩
theorem ev_iadd {X : Cx} {M : MI} {d : Nat} {h0 : Hp} {r : Option Value} {h' : Hp} {pc : Nat} {loc : List (Option Value)} {stk : List Value} {h : Hp} {x y : Int32} (hd : decode M.2.1 pc = .ok (.iadd, 1))  (k : EV X M d h0 r h' (pc + 1) (loc) (.int (x + y) :: stk) (h)) : EV X M d h0 r h' (pc) (loc) (.int y :: .int x :: stk) (h) := ⟨k.1, fun g1 g2 p e s m args below meth c H locs ls F Hx L => lv_iadd F.1 F.2.1 hd (k.2 g1 g2 p e s m args below meth c H locs ls F Hx L)⟩
theorem ev_isub {X : Cx} {M : MI} {d : Nat} {h0 : Hp} {r : Option Value} {h' : Hp} {pc : Nat} {loc : List (Option Value)} {stk : List Value} {h : Hp} {x y : Int32} (hd : decode M.2.1 pc = .ok (.isub, 1))  (k : EV X M d h0 r h' (pc + 1) (loc) (.int (x - y) :: stk) (h)) : EV X M d h0 r h' (pc) (loc) (.int y :: .int x :: stk) (h) := ⟨k.1, fun g1 g2 p e s m args below meth c H locs ls F Hx L => lv_isub F.1 F.2.1 hd (k.2 g1 g2 p e s m args below meth c H locs ls F Hx L)⟩
theorem ev_imul {X : Cx} {M : MI} {d : Nat} {h0 : Hp} {r : Option Value} {h' : Hp} {pc : Nat} {loc : List (Option Value)} {stk : List Value} {h : Hp} {x y : Int32} (hd : decode M.2.1 pc = .ok (.imul, 1))  (k : EV X M d h0 r h' (pc + 1) (loc) (.int (x * y) :: stk) (h)) : EV X M d h0 r h' (pc) (loc) (.int y :: .int x :: stk) (h) := ⟨k.1, fun g1 g2 p e s m args below meth c H locs ls F Hx L => lv_imul F.1 F.2.1 hd (k.2 g1 g2 p e s m args below meth c H locs ls F Hx L)⟩
theorem ev_iand {X : Cx} {M : MI} {d : Nat} {h0 : Hp} {r : Option Value} {h' : Hp} {pc : Nat} {loc : List (Option Value)} {stk : List Value} {h : Hp} {x y : Int32} (hd : decode M.2.1 pc = .ok (.iand, 1))  (k : EV X M d h0 r h' (pc + 1) (loc) (.int (x &&& y) :: stk) (h)) : EV X M d h0 r h' (pc) (loc) (.int y :: .int x :: stk) (h) := ⟨k.1, fun g1 g2 p e s m args below meth c H locs ls F Hx L => lv_iand F.1 F.2.1 hd (k.2 g1 g2 p e s m args below meth c H locs ls F Hx L)⟩
theorem ev_ior {X : Cx} {M : MI} {d : Nat} {h0 : Hp} {r : Option Value} {h' : Hp} {pc : Nat} {loc : List (Option Value)} {stk : List Value} {h : Hp} {x y : Int32} (hd : decode M.2.1 pc = .ok (.ior, 1))  (k : EV X M d h0 r h' (pc + 1) (loc) (.int (x ||| y) :: stk) (h)) : EV X M d h0 r h' (pc) (loc) (.int y :: .int x :: stk) (h) := ⟨k.1, fun g1 g2 p e s m args below meth c H locs ls F Hx L => lv_ior F.1 F.2.1 hd (k.2 g1 g2 p e s m args below meth c H locs ls F Hx L)⟩
theorem ev_ixor {X : Cx} {M : MI} {d : Nat} {h0 : Hp} {r : Option Value} {h' : Hp} {pc : Nat} {loc : List (Option Value)} {stk : List Value} {h : Hp} {x y : Int32} (hd : decode M.2.1 pc = .ok (.ixor, 1))  (k : EV X M d h0 r h' (pc + 1) (loc) (.int (x ^^^ y) :: stk) (h)) : EV X M d h0 r h' (pc) (loc) (.int y :: .int x :: stk) (h) := ⟨k.1, fun g1 g2 p e s m args below meth c H locs ls F Hx L => lv_ixor F.1 F.2.1 hd (k.2 g1 g2 p e s m args below meth c H locs ls F Hx L)⟩
theorem ev_ishl {X : Cx} {M : MI} {d : Nat} {h0 : Hp} {r : Option Value} {h' : Hp} {pc : Nat} {loc : List (Option Value)} {stk : List Value} {h : Hp} {x y : Int32} (hd : decode M.2.1 pc = .ok (.ishl, 1))  (k : EV X M d h0 r h' (pc + 1) (loc) (.int (x <<< (y &&& 31)) :: stk) (h)) : EV X M d h0 r h' (pc) (loc) (.int y :: .int x :: stk) (h) := ⟨k.1, fun g1 g2 p e s m args below meth c H locs ls F Hx L => lv_ishl F.1 F.2.1 hd (k.2 g1 g2 p e s m args below meth c H locs ls F Hx L)⟩
theorem ev_ishr {X : Cx} {M : MI} {d : Nat} {h0 : Hp} {r : Option Value} {h' : Hp} {pc : Nat} {loc : List (Option Value)} {stk : List Value} {h : Hp} {x y : Int32} (hd : decode M.2.1 pc = .ok (.ishr, 1))  (k : EV X M d h0 r h' (pc + 1) (loc) (.int (x >>> (y &&& 31)) :: stk) (h)) : EV X M d h0 r h' (pc) (loc) (.int y :: .int x :: stk) (h) := ⟨k.1, fun g1 g2 p e s m args below meth c H locs ls F Hx L => lv_ishr F.1 F.2.1 hd (k.2 g1 g2 p e s m args below meth c H locs ls F Hx L)⟩
theorem ev_iushr {X : Cx} {M : MI} {d : Nat} {h0 : Hp} {r : Option Value} {h' : Hp} {pc : Nat} {loc : List (Option Value)} {stk : List Value} {h : Hp} {x y v : Int32} (hd : decode M.2.1 pc = .ok (.iushr, 1)) (hv : (x.toUInt32 >>> (y.toUInt32 &&& Int32.toUInt32 31)).toInt32 = v) (k : EV X M d h0 r h' (pc + 1) (loc) (.int v :: stk) (h)) : EV X M d h0 r h' (pc) (loc) (.int y :: .int x :: stk) (h) := ⟨k.1, fun g1 g2 p e s m args below meth c H locs ls F Hx L => lv_iushr F.1 F.2.1 hd hv (k.2 g1 g2 p e s m args below meth c H locs ls F Hx L)⟩
theorem ev_idiv {X : Cx} {M : MI} {d : Nat} {h0 : Hp} {r : Option Value} {h' : Hp} {pc : Nat} {loc : List (Option Value)} {stk : List Value} {h : Hp} {x y : Int32} (hd : decode M.2.1 pc = .ok (.idiv, 1)) (hne : ¬ y = 0) (k : EV X M d h0 r h' (pc + 1) (loc) (.int (x / y) :: stk) (h)) : EV X M d h0 r h' (pc) (loc) (.int y :: .int x :: stk) (h) := ⟨k.1, fun g1 g2 p e s m args below meth c H locs ls F Hx L => lv_idiv F.1 F.2.1 hd hne (k.2 g1 g2 p e s m args below meth c H locs ls F Hx L)⟩
theorem ev_irem {X : Cx} {M : MI} {d : Nat} {h0 : Hp} {r : Option Value} {h' : Hp} {pc : Nat} {loc : List (Option Value)} {stk : List Value} {h : Hp} {x y : Int32} (hd : decode M.2.1 pc = .ok (.irem, 1)) (hne : ¬ y = 0) (k : EV X M d h0 r h' (pc + 1) (loc) (.int (x - x / y * y) :: stk) (h)) : EV X M d h0 r h' (pc) (loc) (.int y :: .int x :: stk) (h) := ⟨k.1, fun g1 g2 p e s m args below meth c H locs ls F Hx L => lv_irem F.1 F.2.1 hd hne (k.2 g1 g2 p e s m args below meth c H locs ls F Hx L)⟩
theorem ev_ladd {X : Cx} {M : MI} {d : Nat} {h0 : Hp} {r : Option Value} {h' : Hp} {pc : Nat} {loc : List (Option Value)} {stk : List Value} {h : Hp} {x y : Int64} (hd : decode M.2.1 pc = .ok (.ladd, 1))  (k : EV X M d h0 r h' (pc + 1) (loc) (.long (x + y) :: stk) (h)) : EV X M d h0 r h' (pc) (loc) (.long y :: .long x :: stk) (h) := ⟨k.1, fun g1 g2 p e s m args below meth c H locs ls F Hx L => lv_ladd F.1 F.2.1 hd (k.2 g1 g2 p e s m args below meth c H locs ls F Hx L)⟩
theorem ev_lsub {X : Cx} {M : MI} {d : Nat} {h0 : Hp} {r : Option Value} {h' : Hp} {pc : Nat} {loc : List (Option Value)} {stk : List Value} {h : Hp} {x y : Int64} (hd : decode M.2.1 pc = .ok (.lsub, 1))  (k : EV X M d h0 r h' (pc + 1) (loc) (.long (x - y) :: stk) (h)) : EV X M d h0 r h' (pc) (loc) (.long y :: .long x :: stk) (h) := ⟨k.1, fun g1 g2 p e s m args below meth c H locs ls F Hx L => lv_lsub F.1 F.2.1 hd (k.2 g1 g2 p e s m args below meth c H locs ls F Hx L)⟩
theorem ev_lmul {X : Cx} {M : MI} {d : Nat} {h0 : Hp} {r : Option Value} {h' : Hp} {pc : Nat} {loc : List (Option Value)} {stk : List Value} {h : Hp} {x y : Int64} (hd : decode M.2.1 pc = .ok (.lmul, 1))  (k : EV X M d h0 r h' (pc + 1) (loc) (.long (x * y) :: stk) (h)) : EV X M d h0 r h' (pc) (loc) (.long y :: .long x :: stk) (h) := ⟨k.1, fun g1 g2 p e s m args below meth c H locs ls F Hx L => lv_lmul F.1 F.2.1 hd (k.2 g1 g2 p e s m args below meth c H locs ls F Hx L)⟩
theorem ev_land {X : Cx} {M : MI} {d : Nat} {h0 : Hp} {r : Option Value} {h' : Hp} {pc : Nat} {loc : List (Option Value)} {stk : List Value} {h : Hp} {x y : Int64} (hd : decode M.2.1 pc = .ok (.land, 1))  (k : EV X M d h0 r h' (pc + 1) (loc) (.long (x &&& y) :: stk) (h)) : EV X M d h0 r h' (pc) (loc) (.long y :: .long x :: stk) (h) := ⟨k.1, fun g1 g2 p e s m args below meth c H locs ls F Hx L => lv_land F.1 F.2.1 hd (k.2 g1 g2 p e s m args below meth c H locs ls F Hx L)⟩
theorem ev_lor {X : Cx} {M : MI} {d : Nat} {h0 : Hp} {r : Option Value} {h' : Hp} {pc : Nat} {loc : List (Option Value)} {stk : List Value} {h : Hp} {x y : Int64} (hd : decode M.2.1 pc = .ok (.lor, 1))  (k : EV X M d h0 r h' (pc + 1) (loc) (.long (x ||| y) :: stk) (h)) : EV X M d h0 r h' (pc) (loc) (.long y :: .long x :: stk) (h) := ⟨k.1, fun g1 g2 p e s m args below meth c H locs ls F Hx L => lv_lor F.1 F.2.1 hd (k.2 g1 g2 p e s m args below meth c H locs ls F Hx L)⟩
theorem ev_ldiv {X : Cx} {M : MI} {d : Nat} {h0 : Hp} {r : Option Value} {h' : Hp} {pc : Nat} {loc : List (Option Value)} {stk : List Value} {h : Hp} {x y : Int64} (hd : decode M.2.1 pc = .ok (.ldiv, 1)) (hne : ¬ y = 0) (k : EV X M d h0 r h' (pc + 1) (loc) (.long (x / y) :: stk) (h)) : EV X M d h0 r h' (pc) (loc) (.long y :: .long x :: stk) (h) := ⟨k.1, fun g1 g2 p e s m args below meth c H locs ls F Hx L => lv_ldiv F.1 F.2.1 hd hne (k.2 g1 g2 p e s m args below meth c H locs ls F Hx L)⟩
theorem ev_lushr {X : Cx} {M : MI} {d : Nat} {h0 : Hp} {r : Option Value} {h' : Hp} {pc : Nat} {loc : List (Option Value)} {stk : List Value} {h : Hp} {x v : Int64} {y : Int32} (hd : decode M.2.1 pc = .ok (.lushr, 1)) (hv : (x.toUInt64 >>> (y.toInt64.toUInt64 &&& Int64.toUInt64 63)).toInt64 = v) (k : EV X M d h0 r h' (pc + 1) (loc) (.long v :: stk) (h)) : EV X M d h0 r h' (pc) (loc) (.int y :: .long x :: stk) (h) := ⟨k.1, fun g1 g2 p e s m args below meth c H locs ls F Hx L => lv_lushr F.1 F.2.1 hd hv (k.2 g1 g2 p e s m args below meth c H locs ls F Hx L)⟩
theorem ev_lshl {X : Cx} {M : MI} {d : Nat} {h0 : Hp} {r : Option Value} {h' : Hp} {pc : Nat} {loc : List (Option Value)} {stk : List Value} {h : Hp} {x v : Int64} {y : Int32} (hd : decode M.2.1 pc = .ok (.lshl, 1)) (hv : x <<< (y.toInt64 &&& 63) = v) (k : EV X M d h0 r h' (pc + 1) (loc) (.long v :: stk) (h)) : EV X M d h0 r h' (pc) (loc) (.int y :: .long x :: stk) (h) := ⟨k.1, fun g1 g2 p e s m args below meth c H locs ls F Hx L => lv_lshl F.1 F.2.1 hd hv (k.2 g1 g2 p e s m args below meth c H locs ls F Hx L)⟩
theorem ev_lshr {X : Cx} {M : MI} {d : Nat} {h0 : Hp} {r : Option Value} {h' : Hp} {pc : Nat} {loc : List (Option Value)} {stk : List Value} {h : Hp} {x v : Int64} {y : Int32} (hd : decode M.2.1 pc = .ok (.lshr, 1)) (hv : x >>> (y.toInt64 &&& 63) = v) (k : EV X M d h0 r h' (pc + 1) (loc) (.long v :: stk) (h)) : EV X M d h0 r h' (pc) (loc) (.int y :: .long x :: stk) (h) := ⟨k.1, fun g1 g2 p e s m args below meth c H locs ls F Hx L => lv_lshr F.1 F.2.1 hd hv (k.2 g1 g2 p e s m args below meth c H locs ls F Hx L)⟩
theorem ev_i2l {X : Cx} {M : MI} {d : Nat} {h0 : Hp} {r : Option Value} {h' : Hp} {pc : Nat} {loc : List (Option Value)} {stk : List Value} {h : Hp} {x : Int32} {v : Int64} (hd : decode M.2.1 pc = .ok (.i2l, 1)) (hv : x.toInt64 = v) (k : EV X M d h0 r h' (pc + 1) (loc) (.long v :: stk) (h)) : EV X M d h0 r h' (pc) (loc) (.int x :: stk) (h) := ⟨k.1, fun g1 g2 p e s m args below meth c H locs ls F Hx L => lv_i2l F.1 F.2.1 hd hv (k.2 g1 g2 p e s m args below meth c H locs ls F Hx L)⟩
theorem ev_l2i {X : Cx} {M : MI} {d : Nat} {h0 : Hp} {r : Option Value} {h' : Hp} {pc : Nat} {loc : List (Option Value)} {stk : List Value} {h : Hp} {x : Int64} {v : Int32} (hd : decode M.2.1 pc = .ok (.l2i, 1)) (hv : x.toInt32 = v) (k : EV X M d h0 r h' (pc + 1) (loc) (.int v :: stk) (h)) : EV X M d h0 r h' (pc) (loc) (.long x :: stk) (h) := ⟨k.1, fun g1 g2 p e s m args below meth c H locs ls F Hx L => lv_l2i F.1 F.2.1 hd hv (k.2 g1 g2 p e s m args below meth c H locs ls F Hx L)⟩
theorem ev_lcmp {X : Cx} {M : MI} {d : Nat} {h0 : Hp} {r : Option Value} {h' : Hp} {pc : Nat} {loc : List (Option Value)} {stk : List Value} {h : Hp} {x y : Int64} (hd : decode M.2.1 pc = .ok (.lcmp, 1))  (k : EV X M d h0 r h' (pc + 1) (loc) (.int (lg_cmp x y) :: stk) (h)) : EV X M d h0 r h' (pc) (loc) (.long y :: .long x :: stk) (h) := ⟨k.1, fun g1 g2 p e s m args below meth c H locs ls F Hx L => W.lcmp F.1 F.2.1 hd (k.2 g1 g2 p e s m args below meth c H locs ls F Hx L)⟩
theorem ev_dup {X : Cx} {M : MI} {d : Nat} {h0 : Hp} {r : Option Value} {h' : Hp} {pc : Nat} {loc : List (Option Value)} {stk : List Value} {h : Hp} {v : Value} (hd : decode M.2.1 pc = .ok (.dup, 1)) (hv : v.category = 1) (k : EV X M d h0 r h' (pc + 1) (loc) (v :: v :: stk) (h)) : EV X M d h0 r h' (pc) (loc) (v :: stk) (h) := ⟨k.1, fun g1 g2 p e s m args below meth c H locs ls F Hx L => lv_dup F.1 F.2.1 hd (by rw [cv_cat]; exact hv) (k.2 g1 g2 p e s m args below meth c H locs ls F Hx L)⟩
theorem ev_dup2 {X : Cx} {M : MI} {d : Nat} {h0 : Hp} {r : Option Value} {h' : Hp} {pc : Nat} {loc : List (Option Value)} {stk : List Value} {h : Hp} {v w : Value} (hd : decode M.2.1 pc = .ok (.dup2, 1)) (hv : v.category = 1) (hw : w.category = 1) (k : EV X M d h0 r h' (pc + 1) (loc) (v :: w :: v :: w :: stk) (h)) : EV X M d h0 r h' (pc) (loc) (v :: w :: stk) (h) := ⟨k.1, fun g1 g2 p e s m args below meth c H locs ls F Hx L => lv_dup2_11 F.1 F.2.1 hd (by rw [cv_cat]; exact hv) (by rw [cv_cat]; exact hw) (k.2 g1 g2 p e s m args below meth c H locs ls F Hx L)⟩
theorem ev_goto {X : Cx} {M : MI} {d : Nat} {h0 : Hp} {r : Option Value} {h' : Hp} {pc : Nat} {loc : List (Option Value)} {stk : List Value} {h : Hp} {off : Int} {tgt : Nat} (hd : decode M.2.1 pc = .ok (.goto off, 3)) (ht : (pc : Int) + off = (tgt : Int)) (k : EV X M d h0 r h' (tgt) (loc) (stk) (h)) : EV X M d h0 r h' (pc) (loc) (stk) (h) := ⟨k.1, fun g1 g2 p e s m args below meth c H locs ls F Hx L => lv_goto F.1 F.2.1 hd ht (k.2 g1 g2 p e s m args below meth c H locs ls F Hx L)⟩
theorem ev_if_eq {X : Cx} {M : MI} {d : Nat} {h0 : Hp} {r : Option Value} {h' : Hp} {pc : Nat} {loc : List (Option Value)} {stk : List Value} {h : Hp} {x : Int32} {off : Int} {tgt : Nat} (hd : decode M.2.1 pc = .ok (.ifCond .eq off, 3)) (ht : (pc : Int) + off = (tgt : Int)) (kt : x = 0 → EV X M d h0 r h' (tgt) (loc) (stk) (h)) (kf : ¬ x = 0 → EV X M d h0 r h' (pc + 3) (loc) (stk) (h)) : EV X M d h0 r h' (pc) (loc) (.int x :: stk) (h) := ⟨(if q : x = 0 then (kt q).1 else (kf q).1), fun g1 g2 p e s m args below meth c H locs ls F Hx L => lv_if_eq F.1 F.2.1 hd ht (fun q => (kt q).2 g1 g2 p e s m args below meth c H locs ls F Hx L) (fun q => (kf q).2 g1 g2 p e s m args below meth c H locs ls F Hx L)⟩
theorem ev_if_lt {X : Cx} {M : MI} {d : Nat} {h0 : Hp} {r : Option Value} {h' : Hp} {pc : Nat} {loc : List (Option Value)} {stk : List Value} {h : Hp} {x : Int32} {off : Int} {tgt : Nat} (hd : decode M.2.1 pc = .ok (.ifCond .lt off, 3)) (ht : (pc : Int) + off = (tgt : Int)) (kt : x < 0 → EV X M d h0 r h' (tgt) (loc) (stk) (h)) (kf : ¬ x < 0 → EV X M d h0 r h' (pc + 3) (loc) (stk) (h)) : EV X M d h0 r h' (pc) (loc) (.int x :: stk) (h) := ⟨(if q : x < 0 then (kt q).1 else (kf q).1), fun g1 g2 p e s m args below meth c H locs ls F Hx L => lv_if_lt F.1 F.2.1 hd ht (fun q => (kt q).2 g1 g2 p e s m args below meth c H locs ls F Hx L) (fun q => (kf q).2 g1 g2 p e s m args below meth c H locs ls F Hx L)⟩
theorem ev_if_ge {X : Cx} {M : MI} {d : Nat} {h0 : Hp} {r : Option Value} {h' : Hp} {pc : Nat} {loc : List (Option Value)} {stk : List Value} {h : Hp} {x : Int32} {off : Int} {tgt : Nat} (hd : decode M.2.1 pc = .ok (.ifCond .ge off, 3)) (ht : (pc : Int) + off = (tgt : Int)) (kt : 0 ≤ x → EV X M d h0 r h' (tgt) (loc) (stk) (h)) (kf : ¬ 0 ≤ x → EV X M d h0 r h' (pc + 3) (loc) (stk) (h)) : EV X M d h0 r h' (pc) (loc) (.int x :: stk) (h) := ⟨(if q : 0 ≤ x then (kt q).1 else (kf q).1), fun g1 g2 p e s m args below meth c H locs ls F Hx L => lv_if_ge F.1 F.2.1 hd ht (fun q => (kt q).2 g1 g2 p e s m args below meth c H locs ls F Hx L) (fun q => (kf q).2 g1 g2 p e s m args below meth c H locs ls F Hx L)⟩
theorem ev_if_gt {X : Cx} {M : MI} {d : Nat} {h0 : Hp} {r : Option Value} {h' : Hp} {pc : Nat} {loc : List (Option Value)} {stk : List Value} {h : Hp} {x : Int32} {off : Int} {tgt : Nat} (hd : decode M.2.1 pc = .ok (.ifCond .gt off, 3)) (ht : (pc : Int) + off = (tgt : Int)) (kt : 0 < x → EV X M d h0 r h' (tgt) (loc) (stk) (h)) (kf : ¬ 0 < x → EV X M d h0 r h' (pc + 3) (loc) (stk) (h)) : EV X M d h0 r h' (pc) (loc) (.int x :: stk) (h) := ⟨(if q : 0 < x then (kt q).1 else (kf q).1), fun g1 g2 p e s m args below meth c H locs ls F Hx L => lv_if_gt F.1 F.2.1 hd ht (fun q => (kt q).2 g1 g2 p e s m args below meth c H locs ls F Hx L) (fun q => (kf q).2 g1 g2 p e s m args below meth c H locs ls F Hx L)⟩
theorem ev_if_le {X : Cx} {M : MI} {d : Nat} {h0 : Hp} {r : Option Value} {h' : Hp} {pc : Nat} {loc : List (Option Value)} {stk : List Value} {h : Hp} {x : Int32} {off : Int} {tgt : Nat} (hd : decode M.2.1 pc = .ok (.ifCond .le off, 3)) (ht : (pc : Int) + off = (tgt : Int)) (kt : x ≤ 0 → EV X M d h0 r h' (tgt) (loc) (stk) (h)) (kf : ¬ x ≤ 0 → EV X M d h0 r h' (pc + 3) (loc) (stk) (h)) : EV X M d h0 r h' (pc) (loc) (.int x :: stk) (h) := ⟨(if q : x ≤ 0 then (kt q).1 else (kf q).1), fun g1 g2 p e s m args below meth c H locs ls F Hx L => lv_if_le F.1 F.2.1 hd ht (fun q => (kt q).2 g1 g2 p e s m args below meth c H locs ls F Hx L) (fun q => (kf q).2 g1 g2 p e s m args below meth c H locs ls F Hx L)⟩
theorem ev_if_ne {X : Cx} {M : MI} {d : Nat} {h0 : Hp} {r : Option Value} {h' : Hp} {pc : Nat} {loc : List (Option Value)} {stk : List Value} {h : Hp} {x : Int32} {off : Int} {tgt : Nat} (hd : decode M.2.1 pc = .ok (.ifCond .ne off, 3)) (ht : (pc : Int) + off = (tgt : Int)) (kt : ¬ x = 0 → EV X M d h0 r h' (tgt) (loc) (stk) (h)) (kf : x = 0 → EV X M d h0 r h' (pc + 3) (loc) (stk) (h)) : EV X M d h0 r h' (pc) (loc) (.int x :: stk) (h) := ⟨(if q : x = 0 then (kf q).1 else (kt q).1), fun g1 g2 p e s m args below meth c H locs ls F Hx L => lv_if_ne F.1 F.2.1 hd ht (fun q => (kt q).2 g1 g2 p e s m args below meth c H locs ls F Hx L) (fun q => (kf q).2 g1 g2 p e s m args below meth c H locs ls F Hx L)⟩
theorem ev_icmp_eq {X : Cx} {M : MI} {d : Nat} {h0 : Hp} {r : Option Value} {h' : Hp} {pc : Nat} {loc : List (Option Value)} {stk : List Value} {h : Hp} {x y : Int32} {off : Int} {tgt : Nat} (hd : decode M.2.1 pc = .ok (.if_icmp .eq off, 3)) (ht : (pc : Int) + off = (tgt : Int)) (kt : x = y → EV X M d h0 r h' (tgt) (loc) (stk) (h)) (kf : ¬ x = y → EV X M d h0 r h' (pc + 3) (loc) (stk) (h)) : EV X M d h0 r h' (pc) (loc) (.int y :: .int x :: stk) (h) := ⟨(if q : x = y then (kt q).1 else (kf q).1), fun g1 g2 p e s m args below meth c H locs ls F Hx L => lv_icmp_eq F.1 F.2.1 hd ht (fun q => (kt q).2 g1 g2 p e s m args below meth c H locs ls F Hx L) (fun q => (kf q).2 g1 g2 p e s m args below meth c H locs ls F Hx L)⟩
theorem ev_icmp_lt {X : Cx} {M : MI} {d : Nat} {h0 : Hp} {r : Option Value} {h' : Hp} {pc : Nat} {loc : List (Option Value)} {stk : List Value} {h : Hp} {x y : Int32} {off : Int} {tgt : Nat} (hd : decode M.2.1 pc = .ok (.if_icmp .lt off, 3)) (ht : (pc : Int) + off = (tgt : Int)) (kt : x < y → EV X M d h0 r h' (tgt) (loc) (stk) (h)) (kf : ¬ x < y → EV X M d h0 r h' (pc + 3) (loc) (stk) (h)) : EV X M d h0 r h' (pc) (loc) (.int y :: .int x :: stk) (h) := ⟨(if q : x < y then (kt q).1 else (kf q).1), fun g1 g2 p e s m args below meth c H locs ls F Hx L => lv_icmp_lt F.1 F.2.1 hd ht (fun q => (kt q).2 g1 g2 p e s m args below meth c H locs ls F Hx L) (fun q => (kf q).2 g1 g2 p e s m args below meth c H locs ls F Hx L)⟩
theorem ev_icmp_ge {X : Cx} {M : MI} {d : Nat} {h0 : Hp} {r : Option Value} {h' : Hp} {pc : Nat} {loc : List (Option Value)} {stk : List Value} {h : Hp} {x y : Int32} {off : Int} {tgt : Nat} (hd : decode M.2.1 pc = .ok (.if_icmp .ge off, 3)) (ht : (pc : Int) + off = (tgt : Int)) (kt : y ≤ x → EV X M d h0 r h' (tgt) (loc) (stk) (h)) (kf : ¬ y ≤ x → EV X M d h0 r h' (pc + 3) (loc) (stk) (h)) : EV X M d h0 r h' (pc) (loc) (.int y :: .int x :: stk) (h) := ⟨(if q : y ≤ x then (kt q).1 else (kf q).1), fun g1 g2 p e s m args below meth c H locs ls F Hx L => lv_icmp_ge F.1 F.2.1 hd ht (fun q => (kt q).2 g1 g2 p e s m args below meth c H locs ls F Hx L) (fun q => (kf q).2 g1 g2 p e s m args below meth c H locs ls F Hx L)⟩
theorem ev_icmp_gt {X : Cx} {M : MI} {d : Nat} {h0 : Hp} {r : Option Value} {h' : Hp} {pc : Nat} {loc : List (Option Value)} {stk : List Value} {h : Hp} {x y : Int32} {off : Int} {tgt : Nat} (hd : decode M.2.1 pc = .ok (.if_icmp .gt off, 3)) (ht : (pc : Int) + off = (tgt : Int)) (kt : y < x → EV X M d h0 r h' (tgt) (loc) (stk) (h)) (kf : ¬ y < x → EV X M d h0 r h' (pc + 3) (loc) (stk) (h)) : EV X M d h0 r h' (pc) (loc) (.int y :: .int x :: stk) (h) := ⟨(if q : y < x then (kt q).1 else (kf q).1), fun g1 g2 p e s m args below meth c H locs ls F Hx L => lv_icmp_gt F.1 F.2.1 hd ht (fun q => (kt q).2 g1 g2 p e s m args below meth c H locs ls F Hx L) (fun q => (kf q).2 g1 g2 p e s m args below meth c H locs ls F Hx L)⟩
theorem ev_icmp_le {X : Cx} {M : MI} {d : Nat} {h0 : Hp} {r : Option Value} {h' : Hp} {pc : Nat} {loc : List (Option Value)} {stk : List Value} {h : Hp} {x y : Int32} {off : Int} {tgt : Nat} (hd : decode M.2.1 pc = .ok (.if_icmp .le off, 3)) (ht : (pc : Int) + off = (tgt : Int)) (kt : x ≤ y → EV X M d h0 r h' (tgt) (loc) (stk) (h)) (kf : ¬ x ≤ y → EV X M d h0 r h' (pc + 3) (loc) (stk) (h)) : EV X M d h0 r h' (pc) (loc) (.int y :: .int x :: stk) (h) := ⟨(if q : x ≤ y then (kt q).1 else (kf q).1), fun g1 g2 p e s m args below meth c H locs ls F Hx L => lv_icmp_le F.1 F.2.1 hd ht (fun q => (kt q).2 g1 g2 p e s m args below meth c H locs ls F Hx L) (fun q => (kf q).2 g1 g2 p e s m args below meth c H locs ls F Hx L)⟩
theorem ev_icmp_ne {X : Cx} {M : MI} {d : Nat} {h0 : Hp} {r : Option Value} {h' : Hp} {pc : Nat} {loc : List (Option Value)} {stk : List Value} {h : Hp} {x y : Int32} {off : Int} {tgt : Nat} (hd : decode M.2.1 pc = .ok (.if_icmp .ne off, 3)) (ht : (pc : Int) + off = (tgt : Int)) (kt : ¬ x = y → EV X M d h0 r h' (tgt) (loc) (stk) (h)) (kf : x = y → EV X M d h0 r h' (pc + 3) (loc) (stk) (h)) : EV X M d h0 r h' (pc) (loc) (.int y :: .int x :: stk) (h) := ⟨(if q : x = y then (kf q).1 else (kt q).1), fun g1 g2 p e s m args below meth c H locs ls F Hx L => lv_icmp_ne F.1 F.2.1 hd ht (fun q => (kt q).2 g1 g2 p e s m args below meth c H locs ls F Hx L) (fun q => (kf q).2 g1 g2 p e s m args below meth c H locs ls F Hx L)⟩
theorem cv_rv (X : Cx) (q : Option Nat) : cv X (rv q) = va_rf (q.map (xB X + ·)) := by cases q <;> rfl
theorem ev_ifnull_s {X : Cx} {M : MI} {d : Nat} {h0 : Hp} {r : Option Value} {h' : Hp} {pc : Nat} {loc : List (Option Value)} {stk : List Value} {h : Hp} {off : Int} {a : Nat} (hd : decode M.2.1 pc = .ok (.ifnull off, 3)) (k : EV X M d h0 r h' (pc + 3) (loc) (stk) (h)) : EV X M d h0 r h' (pc) (loc) (.ref a :: stk) (h) := ⟨k.1, fun g1 g2 p e s m args below meth c H locs ls F Hx L => lv_ifnull F.1 F.2.1 hd (k.2 g1 g2 p e s m args below meth c H locs ls F Hx L)⟩
theorem ev_ifnull_n {X : Cx} {M : MI} {d : Nat} {h0 : Hp} {r : Option Value} {h' : Hp} {pc : Nat} {loc : List (Option Value)} {stk : List Value} {h : Hp} {off : Int} {tgt : Nat} (hd : decode M.2.1 pc = .ok (.ifnull off, 3)) (ht : (pc : Int) + off = (tgt : Int)) (k : EV X M d h0 r h' (tgt) (loc) (stk) (h)) : EV X M d h0 r h' (pc) (loc) (.null :: stk) (h) := ⟨k.1, fun g1 g2 p e s m args below meth c H locs ls F Hx L => lv_ifnullN F.1 F.2.1 hd ht (k.2 g1 g2 p e s m args below meth c H locs ls F Hx L)⟩
theorem ev_ifnonnull_s {X : Cx} {M : MI} {d : Nat} {h0 : Hp} {r : Option Value} {h' : Hp} {pc : Nat} {loc : List (Option Value)} {stk : List Value} {h : Hp} {off : Int} {tgt a : Nat} (hd : decode M.2.1 pc = .ok (.ifnonnull off, 3)) (ht : (pc : Int) + off = (tgt : Int)) (k : EV X M d h0 r h' (tgt) (loc) (stk) (h)) : EV X M d h0 r h' (pc) (loc) (.ref a :: stk) (h) := ⟨k.1, fun g1 g2 p e s m args below meth c H locs ls F Hx L => lv_ifnonnull F.1 F.2.1 hd ht (k.2 g1 g2 p e s m args below meth c H locs ls F Hx L)⟩
theorem ev_ifnonnull_n {X : Cx} {M : MI} {d : Nat} {h0 : Hp} {r : Option Value} {h' : Hp} {pc : Nat} {loc : List (Option Value)} {stk : List Value} {h : Hp} {off : Int} (hd : decode M.2.1 pc = .ok (.ifnonnull off, 3)) (k : EV X M d h0 r h' (pc + 3) (loc) (stk) (h)) : EV X M d h0 r h' (pc) (loc) (.null :: stk) (h) := ⟨k.1, fun g1 g2 p e s m args below meth c H locs ls F Hx L => lv_ifnonnullN F.1 F.2.1 hd (k.2 g1 g2 p e s m args below meth c H locs ls F Hx L)⟩
theorem ev_tsIn {X : Cx} {M : MI} {d : Nat} {h0 : Hp} {r : Option Value} {h' : Hp} {pc : Nat} {loc : List (Option Value)} {stk : List Value} {h : Hp} {dflt lo hi : Int} {offs : Array Int} {len : Nat} {x : Int32} {off : Int} {tgt : Nat} (hd : decode M.2.1 pc = .ok (.tableswitch dflt lo hi offs, len)) (h1 : ¬ x.toInt < lo) (h2 : ¬ hi < x.toInt) (ho : offs[(x.toInt - lo).toNat]? = some off) (ht : (pc : Int) + off = (tgt : Int)) (k : EV X M d h0 r h' (tgt) (loc) (stk) (h)) : EV X M d h0 r h' (pc) (loc) (.int x :: stk) (h) := ⟨k.1, fun g1 g2 p e s m args below meth c H locs ls F Hx L => lv_tableIn F.1 F.2.1 hd h1 h2 ho ht (k.2 g1 g2 p e s m args below meth c H locs ls F Hx L)⟩
theorem ev_tsOut {X : Cx} {M : MI} {d : Nat} {h0 : Hp} {r : Option Value} {h' : Hp} {pc : Nat} {loc : List (Option Value)} {stk : List Value} {h : Hp} {dflt lo hi : Int} {offs : Array Int} {len : Nat} {x : Int32} {tgt : Nat} (hd : decode M.2.1 pc = .ok (.tableswitch dflt lo hi offs, len)) (h1 : x.toInt < lo ∨ hi < x.toInt) (ht : (pc : Int) + dflt = (tgt : Int)) (k : EV X M d h0 r h' (tgt) (loc) (stk) (h)) : EV X M d h0 r h' (pc) (loc) (.int x :: stk) (h) := ⟨k.1, fun g1 g2 p e s m args below meth c H locs ls F Hx L => lv_tableOut F.1 F.2.1 hd h1 ht (k.2 g1 g2 p e s m args below meth c H locs ls F Hx L)⟩
theorem ev_ldc {X : Cx} {M : MI} {d : Nat} {h0 : Hp} {r : Option Value} {h' : Hp} {pc : Nat} {loc : List (Option Value)} {stk : List Value} {h : Hp} {index : Nat} {v : Int32} (hd : decode M.2.1 pc = .ok (.ldc index, 2)) (hc : Cond.constant M.1.cls index v ∈ TG) (k : EV X M d h0 r h' (pc + 2) (loc) (.int v :: stk) (h)) : EV X M d h0 r h' (pc) (loc) (stk) (h) := ⟨k.1, fun g1 g2 p e s m args below meth c H locs ls F Hx L => lv_ldc F.1 F.2.1 F.2.2.2.2.2.1 (F.2.2.2.2.2.2.1 _ hc) hd (k.2 g1 g2 p e s m args below meth c H locs ls F Hx L)⟩
theorem ev_ldcw {X : Cx} {M : MI} {d : Nat} {h0 : Hp} {r : Option Value} {h' : Hp} {pc : Nat} {loc : List (Option Value)} {stk : List Value} {h : Hp} {index : Nat} {v : Int32} (hd : decode M.2.1 pc = .ok (.ldc_w index, 3)) (hc : Cond.constant M.1.cls index v ∈ TG) (k : EV X M d h0 r h' (pc + 3) (loc) (.int v :: stk) (h)) : EV X M d h0 r h' (pc) (loc) (stk) (h) := ⟨k.1, fun g1 g2 p e s m args below meth c H locs ls F Hx L => lv_ldcw F.1 F.2.1 F.2.2.2.2.2.1 (F.2.2.2.2.2.2.1 _ hc) hd (k.2 g1 g2 p e s m args below meth c H locs ls F Hx L)⟩
theorem ev_ldc2 {X : Cx} {M : MI} {d : Nat} {h0 : Hp} {r : Option Value} {h' : Hp} {pc : Nat} {loc : List (Option Value)} {stk : List Value} {h : Hp} {index : Nat} {v : Int64} (hd : decode M.2.1 pc = .ok (.ldc2_w index, 3)) (hc : Cond.constantLong M.1.cls index v ∈ TG) (k : EV X M d h0 r h' (pc + 3) (loc) (.long v :: stk) (h)) : EV X M d h0 r h' (pc) (loc) (stk) (h) := ⟨k.1, fun g1 g2 p e s m args below meth c H locs ls F Hx L => lv_ldc2 F.1 F.2.1 F.2.2.2.2.2.1 (F.2.2.2.2.2.2.1 _ hc) hd (k.2 g1 g2 p e s m args below meth c H locs ls F Hx L)⟩
theorem ev_ldcS {X : Cx} {M : MI} {d : Nat} {h0 : Hp} {r : Option Value} {h' : Hp} {pc : Nat} {loc : List (Option Value)} {stk : List Value} {h : Hp} {index i : Nat} (hd : decode M.2.1 pc = .ok (.ldc index, 2)) (hi : i < 4) (hm : M.1.cls = RX5) (he : strI i = index) (k : EV X M d h0 r h' (pc + 2) (loc) (.float (UInt32.ofNat i) :: stk) (h)) : EV X M d h0 r h' (pc) (loc) (stk) (h) := ⟨k.1, fun g1 g2 p e s m args below meth c H locs ls F Hx L => va_ldcS F.1 F.2.1 F.2.2.2.2.2.1 (by rw [hm, ← he]; exact (F.2.2.2.2.2.2.2.2.2.1).2.2.1 i hi) hd (by have k2 := k.2 g1 g2 p e s m args below meth c H locs ls F Hx L; simp only [List.map_cons, cv] at k2; rw [show (UInt32.ofNat i).toNat = i by (match i, hi with | 0, _ => rfl | 1, _ => rfl | 2, _ => rfl | 3, _ => rfl)] at k2; exact k2)⟩
def isA (v : Value) : Bool := match v with
  | .ref _ => true
  | .null => true
  | .float _ => true
  | _ => false
theorem isA_rv (q : Option Nat) : isA (rv q) = true := by cases q <;> rfl
theorem ev_iload {X : Cx} {M : MI} {d : Nat} {h0 : Hp} {r : Option Value} {h' : Hp} {pc : Nat} {loc : List (Option Value)} {stk : List Value} {h : Hp} {i : Nat} {x : Int32} (hd : decode M.2.1 pc = .ok (.iload i, 2)) (hl : loc[i]? = some (some (.int x))) (k : EV X M d h0 r h' (pc + 2) (loc) (.int x :: stk) (h)) : EV X M d h0 r h' (pc) (loc) (stk) (h) := ⟨k.1, fun g1 g2 p e s m args below meth c H locs ls F Hx L => lv_iload F.1 F.2.1 hd (L.2.2 i _ hl) (k.2 g1 g2 p e s m args below meth c H locs ls F Hx L)⟩
theorem ev_iload_n {X : Cx} {M : MI} {d : Nat} {h0 : Hp} {r : Option Value} {h' : Hp} {pc : Nat} {loc : List (Option Value)} {stk : List Value} {h : Hp} {j : Fin 4} {i : Nat} {x : Int32} (hd : decode M.2.1 pc = .ok (.iload_n j, 1)) (hi : (j : Nat) = i) (hl : loc[i]? = some (some (.int x))) (k : EV X M d h0 r h' (pc + 1) (loc) (.int x :: stk) (h)) : EV X M d h0 r h' (pc) (loc) (stk) (h) := ⟨k.1, fun g1 g2 p e s m args below meth c H locs ls F Hx L => lv_iload_n F.1 F.2.1 hd hi (L.2.2 i _ hl) (k.2 g1 g2 p e s m args below meth c H locs ls F Hx L)⟩
theorem ev_lload {X : Cx} {M : MI} {d : Nat} {h0 : Hp} {r : Option Value} {h' : Hp} {pc : Nat} {loc : List (Option Value)} {stk : List Value} {h : Hp} {i : Nat} {x : Int64} (hd : decode M.2.1 pc = .ok (.lload i, 2)) (hl : loc[i]? = some (some (.long x))) (k : EV X M d h0 r h' (pc + 2) (loc) (.long x :: stk) (h)) : EV X M d h0 r h' (pc) (loc) (stk) (h) := ⟨k.1, fun g1 g2 p e s m args below meth c H locs ls F Hx L => lv_lload F.1 F.2.1 hd (L.2.2 i _ hl) (k.2 g1 g2 p e s m args below meth c H locs ls F Hx L)⟩
theorem ev_lload_n {X : Cx} {M : MI} {d : Nat} {h0 : Hp} {r : Option Value} {h' : Hp} {pc : Nat} {loc : List (Option Value)} {stk : List Value} {h : Hp} {j : Fin 4} {i : Nat} {x : Int64} (hd : decode M.2.1 pc = .ok (.lload_n j, 1)) (hi : (j : Nat) = i) (hl : loc[i]? = some (some (.long x))) (k : EV X M d h0 r h' (pc + 1) (loc) (.long x :: stk) (h)) : EV X M d h0 r h' (pc) (loc) (stk) (h) := ⟨k.1, fun g1 g2 p e s m args below meth c H locs ls F Hx L => lv_lload_n F.1 F.2.1 hd hi (L.2.2 i _ hl) (k.2 g1 g2 p e s m args below meth c H locs ls F Hx L)⟩
theorem ev_aload {X : Cx} {M : MI} {d : Nat} {h0 : Hp} {r : Option Value} {h' : Hp} {pc : Nat} {loc : List (Option Value)} {stk : List Value} {h : Hp} {i : Nat} {v : Value} (hd : decode M.2.1 pc = .ok (.aload i, 2))  (hl : loc[i]? = some (some v)) (hv : isA v = true) (k : EV X M d h0 r h' (pc + 2) (loc) (v :: stk) (h)) : EV X M d h0 r h' (pc) (loc) (stk) (h) := ⟨k.1, fun g1 g2 p e s m args below meth c H locs ls F Hx L => by
  have h1 := L.2.2 i _ hl
  have h2 := k.2 g1 g2 p e s m args below meth c H locs ls F Hx L
  cases v with
  | ref a => exact lv_aload F.1 F.2.1 hd  h1 h2
  | null => exact lv_aloadN F.1 F.2.1 hd  h1 h2
  | float u => exact lv_aload F.1 F.2.1 hd  h1 h2
  | int _ => exact Bool.noConfusion hv
  | long _ => exact Bool.noConfusion hv
  | double _ => exact Bool.noConfusion hv
  | retAddr _ => exact Bool.noConfusion hv⟩
theorem ev_aload_n {X : Cx} {M : MI} {d : Nat} {h0 : Hp} {r : Option Value} {h' : Hp} {pc : Nat} {loc : List (Option Value)} {stk : List Value} {h : Hp} {j : Fin 4} {i : Nat} {v : Value} (hd : decode M.2.1 pc = .ok (.aload_n j, 1)) (hi : (j : Nat) = i) (hl : loc[i]? = some (some v)) (hv : isA v = true) (k : EV X M d h0 r h' (pc + 1) (loc) (v :: stk) (h)) : EV X M d h0 r h' (pc) (loc) (stk) (h) := ⟨k.1, fun g1 g2 p e s m args below meth c H locs ls F Hx L => by
  have h1 := L.2.2 i _ hl
  have h2 := k.2 g1 g2 p e s m args below meth c H locs ls F Hx L
  cases v with
  | ref a => exact lv_aload_n F.1 F.2.1 hd hi h1 h2
  | null => exact lv_aload_nN F.1 F.2.1 hd hi h1 h2
  | float u => exact lv_aload_n F.1 F.2.1 hd hi h1 h2
  | int _ => exact Bool.noConfusion hv
  | long _ => exact Bool.noConfusion hv
  | double _ => exact Bool.noConfusion hv
  | retAddr _ => exact Bool.noConfusion hv⟩
def kl (o : Option Value) : Option Value := match o with
  | some (.long _) => none
  | some (.double _) => none
  | o => o
def st1 : List (Option Value) → Nat → Value → List (Option Value)
  | [], _, _ => []
  | _ :: t, 0, v => some v :: t
  | o :: t, i + 1, v => (if i = 0 then kl o else o) :: st1 t i v
def st2 : List (Option Value) → Nat → Value → List (Option Value)
  | [], _, _ => []
  | [_], 0, v => [some v]
  | _ :: _ :: t, 0, v => some v :: none :: t
  | o :: t, i + 1, v => (if i = 0 then kl o else o) :: st2 t i v
theorem kl_some {o : Option Value} {w : Value} (h : kl o = some w) : o = some w ∧ ¬ w.category = 2 := by
  cases o with
  | none => simp [kl] at h
  | some u => cases u <;> simp only [kl, Option.some.injEq, reduceCtorEq] at h <;> subst h <;> exact ⟨rfl, fun q => by simp [Value.category] at q⟩
theorem st1_get : ∀ (loc : List (Option Value)) (i j : Nat) (v w : Value), (st1 loc i v)[j]? = some (some w) → (j = i ∧ w = v) ∨ (¬ j = i ∧ loc[j]? = some (some w) ∧ ¬ (j + 1 = i ∧ w.category = 2)) := by
  intro loc
  induction loc with
  | nil => intro i j v w h; simp [st1] at h
  | cons o t ih =>
    intro i j v w h
    match i, j, h with
    | 0, 0, h => simp [st1] at h; exact Or.inl ⟨rfl, h.symm⟩
    | 0, j + 1, h => simp only [st1, List.getElem?_cons_succ] at h; exact Or.inr ⟨by omega, by simpa using h, by omega⟩
    | i + 1, 0, h =>
      simp only [st1, List.getElem?_cons_zero] at h
      by_cases hi : i = 0
      · rw [if_pos hi] at h
        obtain ⟨h1, h2⟩ := kl_some (Option.some.inj h)
        exact Or.inr ⟨by omega, by simp [h1], fun q => h2 q.2⟩
      · rw [if_neg hi] at h
        exact Or.inr ⟨by omega, by simpa using h, fun q => by omega⟩
    | i + 1, j + 1, h =>
      simp only [st1, List.getElem?_cons_succ] at h
      rcases ih i j v w h with ⟨h1, h2⟩ | ⟨h1, h2, h3⟩
      · exact Or.inl ⟨by omega, h2⟩
      · exact Or.inr ⟨by omega, by simpa using h2, fun q => h3 ⟨by omega, q.2⟩⟩
theorem st2_get : ∀ (loc : List (Option Value)) (i j : Nat) (v w : Value), (st2 loc i v)[j]? = some (some w) → (j = i ∧ w = v) ∨ (¬ j = i ∧ ¬ j = i + 1 ∧ loc[j]? = some (some w) ∧ ¬ (j + 1 = i ∧ w.category = 2)) := by
  intro loc
  induction loc with
  | nil => intro i j v w h; simp [st2] at h
  | cons o t ih =>
    intro i j v w h
    match i, h with
    | 0, h =>
      cases t with
      | nil =>
        match j, h with
        | 0, h => simp [st2] at h; exact Or.inl ⟨rfl, h.symm⟩
        | j + 1, h => simp [st2] at h
      | cons o2 t2 =>
        match j, h with
        | 0, h => simp [st2] at h; exact Or.inl ⟨rfl, h.symm⟩
        | 1, h => simp [st2] at h
        | j + 2, h => simp only [st2, List.getElem?_cons_succ] at h; exact Or.inr ⟨by omega, by omega, by simpa using h, by omega⟩
    | i + 1, h =>
      have e : st2 (o :: t) (i + 1) v = (if i = 0 then kl o else o) :: st2 t i v := by cases t <;> rfl
      rw [e] at h
      match j, h with
      | 0, h =>
        simp only [List.getElem?_cons_zero] at h
        by_cases hi : i = 0
        · rw [if_pos hi] at h
          obtain ⟨h1, h2⟩ := kl_some (Option.some.inj h)
          exact Or.inr ⟨by omega, by omega, by simp [h1], fun q => h2 q.2⟩
        · rw [if_neg hi] at h
          exact Or.inr ⟨by omega, by omega, by simpa using h, fun q => by omega⟩
      | j + 1, h =>
        simp only [List.getElem?_cons_succ] at h
        rcases ih i j v w h with ⟨h1, h2⟩ | ⟨h1, h2, h3, h4⟩
        · exact Or.inl ⟨by omega, h2⟩
        · exact Or.inr ⟨by omega, by omega, by simpa using h3, fun q => h4 ⟨by omega, q.2⟩⟩
/-- the known locals, as the kit lists them -/
def lvl (X : Cx) (loc : List (Option Value)) : List (Nat × Value) := (List.range loc.length).filterMap (fun j => match loc[j]? with
  | some (some w) => some (j, cv X w)
  | _ => none)
theorem lvl_mem {X : Cx} {loc : List (Option Value)} {j : Nat} {w : Value} (h : loc[j]? = some (some w)) : (j, cv X w) ∈ lvl X loc := by
  refine List.mem_filterMap.mpr ⟨j, List.mem_range.mpr (List.getElem?_eq_some_iff.mp h).1, ?_⟩
  simp only [h]
theorem lvl_inv {X : Cx} {loc : List (Option Value)} {q : Nat × Value} (h : q ∈ lvl X loc) : ∃ w, loc[q.1]? = some (some w) ∧ q.2 = cv X w := by
  obtain ⟨j, -, hj⟩ := List.mem_filterMap.mp h
  cases e : loc[j]? with
  | none => simp only [e] at hj; cases hj
  | some o => cases o with
    | none => simp only [e] at hj; cases hj
    | some w => simp only [e] at hj; cases hj; exact ⟨w, e, rfl⟩
theorem LV.has {X : Cx} {ls : Array Slot} {nL : Nat} {loc : List (Option Value)} (h : LV X ls nL loc) : lv_has ls nL (lvl X loc) := ⟨h.1, h.2.1, fun q hq => by obtain ⟨w, h1, h2⟩ := lvl_inv hq; rw [h2]; exact h.2.2 _ _ h1⟩
theorem LV.of1 {X : Cx} {ls : Array Slot} {nL i : Nat} {loc : List (Option Value)} {v : Value} (h : lv_has ls nL ((i, cv X v) :: (lvl X loc).filter (fun q => !(q.1 == i) && !(q.1 + 1 == i && q.2.category == 2)))) : LV X ls nL (st1 loc i v) := by
  refine ⟨h.1, h.2.1, fun j w hj => ?_⟩
  rcases st1_get loc i j v w hj with ⟨rfl, rfl⟩ | ⟨h1, h2, h3⟩
  · exact h.2.2 (j, cv X w) List.mem_cons_self
  · refine h.2.2 (j, cv X w) (List.mem_cons_of_mem _ (List.mem_filter.mpr ⟨lvl_mem h2, ?_⟩))
    simp only [cv_cat, Bool.and_eq_true, Bool.not_eq_true', beq_eq_false_iff_ne, Bool.and_eq_false_iff]
    refine ⟨h1, ?_⟩
    by_cases e : j + 1 = i
    · exact Or.inr (fun q => h3 ⟨e, q⟩)
    · exact Or.inl e
theorem LV.of2 {X : Cx} {ls : Array Slot} {nL i : Nat} {loc : List (Option Value)} {v : Value} (h : lv_has ls nL ((i, cv X v) :: (lvl X loc).filter (fun q => !(q.1 == i) && (!(q.1 == i + 1) && !(q.1 + 1 == i && q.2.category == 2))))) : LV X ls nL (st2 loc i v) := by
  refine ⟨h.1, h.2.1, fun j w hj => ?_⟩
  rcases st2_get loc i j v w hj with ⟨rfl, rfl⟩ | ⟨h1, h0, h2, h3⟩
  · exact h.2.2 (j, cv X w) List.mem_cons_self
  · refine h.2.2 (j, cv X w) (List.mem_cons_of_mem _ (List.mem_filter.mpr ⟨lvl_mem h2, ?_⟩))
    simp only [cv_cat, Bool.and_eq_true, Bool.not_eq_true', beq_eq_false_iff_ne, Bool.and_eq_false_iff]
    refine ⟨h1, h0, ?_⟩
    by_cases e : j + 1 = i
    · exact Or.inr (fun q => h3 ⟨e, q⟩)
    · exact Or.inl e
def mkL (ms : List Bool) (loc : List (Option Value)) : List (Option Value) := List.zipWith (fun b o => if b then o else none) ms loc
theorem mkL_get {ms : List Bool} {loc : List (Option Value)} {j : Nat} {w : Value} (h : (mkL ms loc)[j]? = some (some w)) : loc[j]? = some (some w) := by
  unfold mkL at h
  rw [List.getElem?_zipWith] at h
  cases e1 : ms[j]? with
  | none => simp [e1] at h
  | some b => cases e2 : loc[j]? with
    | none => simp [e1, e2] at h
    | some o =>
      simp only [e1, e2] at h
      cases b with
      | false => simp at h
      | true => simp at h; rw [h]
theorem ev_drop {X : Cx} {M : MI} {d : Nat} {h0 : Hp} {r : Option Value} {h' : Hp} {pc : Nat} {loc : List (Option Value)} {stk : List Value} {h : Hp} {loc2 : List (Option Value)} (ms : List Bool) (hl : mkL ms loc = loc2) (k : EV X M d h0 r h' (pc) (loc2) (stk) (h)) : EV X M d h0 r h' (pc) (loc) (stk) (h) := ⟨k.1, fun g1 g2 p e s m args below meth c H locs ls F Hx L => k.2 g1 g2 p e s m args below meth c H locs ls F Hx ⟨L.1, L.2.1, fun i v hv => L.2.2 i v (mkL_get (by rw [hl]; exact hv))⟩⟩
theorem ev_istore {X : Cx} {M : MI} {d : Nat} {h0 : Hp} {r : Option Value} {h' : Hp} {pc : Nat} {loc : List (Option Value)} {stk : List Value} {h : Hp} {i : Nat} {x : Int32} {loc2 : List (Option Value)} (hd : decode M.2.1 pc = .ok (.istore i, 2))  (hn : i < M.2.2.1) (hl : st1 loc i (.int x) = loc2) (k : EV X M d h0 r h' (pc + 2) (loc2) (stk) (h)) : EV X M d h0 r h' (pc) (loc) (.int x :: stk) (h) := ⟨k.1, fun g1 g2 p e s m args below meth c H locs ls F Hx L => lv_istore F.1 F.2.1 hd  L.has hn rfl (fun ls2 hl2 => k.2 g1 g2 p e s m args below meth c H locs ls2 F Hx (hl ▸ LV.of1 (v := .int x) hl2))⟩
theorem ev_lstore {X : Cx} {M : MI} {d : Nat} {h0 : Hp} {r : Option Value} {h' : Hp} {pc : Nat} {loc : List (Option Value)} {stk : List Value} {h : Hp} {i : Nat} {x : Int64} {loc2 : List (Option Value)} (hd : decode M.2.1 pc = .ok (.lstore i, 2))  (hn : i + 1 < M.2.2.1) (hl : st2 loc i (.long x) = loc2) (k : EV X M d h0 r h' (pc + 2) (loc2) (stk) (h)) : EV X M d h0 r h' (pc) (loc) (.long x :: stk) (h) := ⟨k.1, fun g1 g2 p e s m args below meth c H locs ls F Hx L => lv_lstore F.1 F.2.1 hd  L.has hn rfl (fun ls2 hl2 => k.2 g1 g2 p e s m args below meth c H locs ls2 F Hx (hl ▸ LV.of2 (v := .long x) hl2))⟩
theorem ev_astore {X : Cx} {M : MI} {d : Nat} {h0 : Hp} {r : Option Value} {h' : Hp} {pc : Nat} {loc : List (Option Value)} {stk : List Value} {h : Hp} {i : Nat} {v : Value} {loc2 : List (Option Value)} (hd : decode M.2.1 pc = .ok (.astore i, 2))  (hn : i < M.2.2.1) (hv : isA v = true) (hl : st1 loc i v = loc2) (k : EV X M d h0 r h' (pc + 2) (loc2) (stk) (h)) : EV X M d h0 r h' (pc) (loc) (v :: stk) (h) := ⟨k.1, fun g1 g2 p e s m args below meth c H locs ls F Hx L => by
  cases v with
  | ref a => exact lv_astore F.1 F.2.1 hd  L.has hn rfl (fun ls2 hl2 => k.2 g1 g2 p e s m args below meth c H locs ls2 F Hx (hl ▸ LV.of1 (v := .ref a) hl2))
  | null => exact lv_astoreN F.1 F.2.1 hd  L.has hn rfl (fun ls2 hl2 => k.2 g1 g2 p e s m args below meth c H locs ls2 F Hx (hl ▸ LV.of1 (v := .null) hl2))
  | float u => exact lv_astore F.1 F.2.1 hd  L.has hn rfl (fun ls2 hl2 => k.2 g1 g2 p e s m args below meth c H locs ls2 F Hx (hl ▸ LV.of1 (v := .float u) hl2))
  | int _ => exact Bool.noConfusion hv
  | long _ => exact Bool.noConfusion hv
  | double _ => exact Bool.noConfusion hv
  | retAddr _ => exact Bool.noConfusion hv⟩
theorem ev_istore_n {X : Cx} {M : MI} {d : Nat} {h0 : Hp} {r : Option Value} {h' : Hp} {pc : Nat} {loc : List (Option Value)} {stk : List Value} {h : Hp} {j : Fin 4} {i : Nat} {x : Int32} {loc2 : List (Option Value)} (hd : decode M.2.1 pc = .ok (.istore_n j, 1)) (hi : (j : Nat) = i) (hn : i < M.2.2.1) (hl : st1 loc i (.int x) = loc2) (k : EV X M d h0 r h' (pc + 1) (loc2) (stk) (h)) : EV X M d h0 r h' (pc) (loc) (.int x :: stk) (h) := ⟨k.1, fun g1 g2 p e s m args below meth c H locs ls F Hx L => lv_istore_n F.1 F.2.1 hd hi L.has hn rfl (fun ls2 hl2 => k.2 g1 g2 p e s m args below meth c H locs ls2 F Hx (hl ▸ LV.of1 (v := .int x) hl2))⟩
theorem ev_lstore_n {X : Cx} {M : MI} {d : Nat} {h0 : Hp} {r : Option Value} {h' : Hp} {pc : Nat} {loc : List (Option Value)} {stk : List Value} {h : Hp} {j : Fin 4} {i : Nat} {x : Int64} {loc2 : List (Option Value)} (hd : decode M.2.1 pc = .ok (.lstore_n j, 1)) (hi : (j : Nat) = i) (hn : i + 1 < M.2.2.1) (hl : st2 loc i (.long x) = loc2) (k : EV X M d h0 r h' (pc + 1) (loc2) (stk) (h)) : EV X M d h0 r h' (pc) (loc) (.long x :: stk) (h) := ⟨k.1, fun g1 g2 p e s m args below meth c H locs ls F Hx L => lv_lstore_n F.1 F.2.1 hd hi L.has hn rfl (fun ls2 hl2 => k.2 g1 g2 p e s m args below meth c H locs ls2 F Hx (hl ▸ LV.of2 (v := .long x) hl2))⟩
theorem ev_astore_n {X : Cx} {M : MI} {d : Nat} {h0 : Hp} {r : Option Value} {h' : Hp} {pc : Nat} {loc : List (Option Value)} {stk : List Value} {h : Hp} {j : Fin 4} {i : Nat} {v : Value} {loc2 : List (Option Value)} (hd : decode M.2.1 pc = .ok (.astore_n j, 1)) (hi : (j : Nat) = i) (hn : i < M.2.2.1) (hv : isA v = true) (hl : st1 loc i v = loc2) (k : EV X M d h0 r h' (pc + 1) (loc2) (stk) (h)) : EV X M d h0 r h' (pc) (loc) (v :: stk) (h) := ⟨k.1, fun g1 g2 p e s m args below meth c H locs ls F Hx L => by
  cases v with
  | ref a => exact lv_astore_n F.1 F.2.1 hd hi L.has hn rfl (fun ls2 hl2 => k.2 g1 g2 p e s m args below meth c H locs ls2 F Hx (hl ▸ LV.of1 (v := .ref a) hl2))
  | null => exact lv_astore_nN F.1 F.2.1 hd hi L.has hn rfl (fun ls2 hl2 => k.2 g1 g2 p e s m args below meth c H locs ls2 F Hx (hl ▸ LV.of1 (v := .null) hl2))
  | float u => exact lv_astore_n F.1 F.2.1 hd hi L.has hn rfl (fun ls2 hl2 => k.2 g1 g2 p e s m args below meth c H locs ls2 F Hx (hl ▸ LV.of1 (v := .float u) hl2))
  | int _ => exact Bool.noConfusion hv
  | long _ => exact Bool.noConfusion hv
  | double _ => exact Bool.noConfusion hv
  | retAddr _ => exact Bool.noConfusion hv⟩
theorem ev_iinc {X : Cx} {M : MI} {d : Nat} {h0 : Hp} {r : Option Value} {h' : Hp} {pc : Nat} {loc : List (Option Value)} {stk : List Value} {h : Hp} {i : Nat} {n : Int} {x v : Int32} {loc2 : List (Option Value)} (hd : decode M.2.1 pc = .ok (.iinc i n, 3)) (hx : loc[i]? = some (some (.int x))) (hv : x + Int32.ofInt n = v) (hn : i < M.2.2.1) (hl : st1 loc i (.int v) = loc2) (k : EV X M d h0 r h' (pc + 3) (loc2) (stk) (h)) : EV X M d h0 r h' (pc) (loc) (stk) (h) := ⟨k.1, fun g1 g2 p e s m args below meth c H locs ls F Hx L => by
  obtain ⟨q, hq⟩ := List.getElem?_of_mem (lvl_mem (X := X) hx)
  exact lv_iinc F.1 F.2.1 hd L.has hq hv hn rfl (fun ls2 hl2 => k.2 g1 g2 p e s m args below meth c H locs ls2 F Hx (hl ▸ LV.of1 (v := .int v) hl2))⟩
