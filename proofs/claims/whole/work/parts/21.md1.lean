theorem dX10_isHand_0 : decode cX10_isHand 0 = .ok (.iload_n 0, 1) := by decide +kernel
theorem dX10_isHand_1 : decode cX10_isHand 1 = .ok (.ifCond .lt 13, 3) := by decide +kernel
theorem dX10_isHand_4 : decode cX10_isHand 4 = .ok (.iload_n 0, 1) := by decide +kernel
theorem dX10_isHand_5 : decode cX10_isHand 5 = .ok (.bipush 6, 2) := by decide +kernel
theorem dX10_isHand_7 : decode cX10_isHand 7 = .ok (.if_icmp .ge 7, 3) := by decide +kernel
theorem dX10_isHand_10 : decode cX10_isHand 10 = .ok (.iconst 1, 1) := by decide +kernel
theorem dX10_isHand_11 : decode cX10_isHand 11 = .ok (.goto 4, 3) := by decide +kernel
theorem dX10_isHand_14 : decode cX10_isHand 14 = .ok (.iconst 0, 1) := by decide +kernel
theorem dX10_isHand_15 : decode cX10_isHand 15 = .ok (.ireturn, 1) := by decide +kernel
def f_X10_isHand (h : Hp) (a0 : Int32) : Option (Int32 × Hp) :=
if a0 < 0 then (
some ((0 : Int32), h)) else (
if (6 : Int32) ≤ a0 then (
some ((0 : Int32), h)) else (
some ((1 : Int32), h)))
set_option maxHeartbeats 4000000 in
set_option maxRecDepth 100000 in
theorem t_X10_isHand {X : Cx} {d : Nat} {h : Hp} {a0 : Int32} {v : Int32} {h' : Hp} (hD : 1 ≤ d) (H : f_X10_isHand h a0 = some (v, h')) : PM X mX10_isHand d [.int a0] h (some (.int v)) h' := by
  unfold f_X10_isHand at H
  refine PM.of (loc := [some (.int a0)]) (by decide) rfl (Nat.le_of_ble_eq_true rfl) ?_
  refine ev_iload_n dX10_isHand_0 rfl rfl ?_
  refine ev_if_lt (tgt := 14) dX10_isHand_1 (by decide) (fun c1 => ?_) (fun c1 => ?_)
  · rw [if_pos c1] at H
    refine ev_iconst (v := (0 : Int32)) dX10_isHand_14 (by decide) ?_
    exact ev_iretx dX10_isHand_15 rfl rfl H
  · rw [if_neg c1] at H
    refine ev_iload_n dX10_isHand_4 rfl rfl ?_
    refine ev_bipush (v := (6 : Int32)) dX10_isHand_5 (by decide) ?_
    refine ev_icmp_ge (tgt := 14) dX10_isHand_7 (by decide) (fun c2 => ?_) (fun c2 => ?_)
    · rw [if_pos c2] at H
      refine ev_iconst (v := (0 : Int32)) dX10_isHand_14 (by decide) ?_
      exact ev_iretx dX10_isHand_15 rfl rfl H
    · rw [if_neg c2] at H
      refine ev_iconst (v := (1 : Int32)) dX10_isHand_10 (by decide) ?_
      refine ev_goto (tgt := 15) dX10_isHand_11 (by decide) ?_
      exact ev_iretx dX10_isHand_15 rfl rfl H

theorem dX10_feed_0 : decode cX10_feed 0 = .ok (.iload_n 3, 1) := by decide +kernel
theorem dX10_feed_1 : decode cX10_feed 1 = .ok (.i2l, 1) := by decide +kernel
theorem dX10_feed_2 : decode cX10_feed 2 = .ok (.lconst 1, 1) := by decide +kernel
theorem dX10_feed_3 : decode cX10_feed 3 = .ok (.ldc2_w 149, 3) := by decide +kernel
theorem dX10_feed_6 : decode cX10_feed 6 = .ok (.invokestatic 151, 3) := by decide +kernel
theorem dX10_feed_9 : decode cX10_feed 9 = .ok (.ifCond .ne 6, 3) := by decide +kernel
theorem dX10_feed_12 : decode cX10_feed 12 = .ok (.bipush (-2), 2) := by decide +kernel
theorem dX10_feed_14 : decode cX10_feed 14 = .ok (.ireturn, 1) := by decide +kernel
theorem dX10_feed_15 : decode cX10_feed 15 = .ok (.aload_n 0, 1) := by decide +kernel
theorem dX10_feed_16 : decode cX10_feed 16 = .ok (.getfield 155, 3) := by decide +kernel
theorem dX10_feed_19 : decode cX10_feed 19 = .ok (.iload_n 3, 1) := by decide +kernel
theorem dX10_feed_20 : decode cX10_feed 20 = .ok (.iadd, 1) := by decide +kernel
theorem dX10_feed_21 : decode cX10_feed 21 = .ok (.sipush 300, 3) := by decide +kernel
theorem dX10_feed_24 : decode cX10_feed 24 = .ok (.if_icmp .le 6, 3) := by decide +kernel
theorem dX10_feed_27 : decode cX10_feed 27 = .ok (.bipush (-4), 2) := by decide +kernel
theorem dX10_feed_29 : decode cX10_feed 29 = .ok (.ireturn, 1) := by decide +kernel
theorem dX10_feed_30 : decode cX10_feed 30 = .ok (.iload_n 3, 1) := by decide +kernel
theorem dX10_feed_31 : decode cX10_feed 31 = .ok (.iconst 1, 1) := by decide +kernel
theorem dX10_feed_32 : decode cX10_feed 32 = .ok (.isub, 1) := by decide +kernel
theorem dX10_feed_33 : decode cX10_feed 33 = .ok (.istore 4, 2) := by decide +kernel
theorem dX10_feed_35 : decode cX10_feed 35 = .ok (.iload 4, 2) := by decide +kernel
theorem dX10_feed_37 : decode cX10_feed 37 = .ok (.ifCond .lt 40, 3) := by decide +kernel
theorem dX10_feed_40 : decode cX10_feed 40 = .ok (.aload_n 0, 1) := by decide +kernel
theorem dX10_feed_41 : decode cX10_feed 41 = .ok (.getfield 7, 3) := by decide +kernel
theorem dX10_feed_44 : decode cX10_feed 44 = .ok (.aload_n 0, 1) := by decide +kernel
theorem dX10_feed_45 : decode cX10_feed 45 = .ok (.getfield 155, 3) := by decide +kernel
theorem dX10_feed_48 : decode cX10_feed 48 = .ok (.lload_n 1, 1) := by decide +kernel
theorem dX10_feed_49 : decode cX10_feed 49 = .ok (.bipush 8, 2) := by decide +kernel
theorem dX10_feed_51 : decode cX10_feed 51 = .ok (.iload 4, 2) := by decide +kernel
theorem dX10_feed_53 : decode cX10_feed 53 = .ok (.imul, 1) := by decide +kernel
theorem dX10_feed_54 : decode cX10_feed 54 = .ok (.lshr, 1) := by decide +kernel
theorem dX10_feed_55 : decode cX10_feed 55 = .ok (.ldc2_w 158, 3) := by decide +kernel
theorem dX10_feed_58 : decode cX10_feed 58 = .ok (.land, 1) := by decide +kernel
theorem dX10_feed_59 : decode cX10_feed 59 = .ok (.l2i, 1) := by decide +kernel
theorem dX10_feed_60 : decode cX10_feed 60 = .ok (.iastore, 1) := by decide +kernel
theorem dX10_feed_61 : decode cX10_feed 61 = .ok (.aload_n 0, 1) := by decide +kernel
theorem dX10_feed_62 : decode cX10_feed 62 = .ok (.dup, 1) := by decide +kernel
theorem dX10_feed_63 : decode cX10_feed 63 = .ok (.getfield 155, 3) := by decide +kernel
theorem dX10_feed_66 : decode cX10_feed 66 = .ok (.iconst 1, 1) := by decide +kernel
theorem dX10_feed_67 : decode cX10_feed 67 = .ok (.iadd, 1) := by decide +kernel
theorem dX10_feed_68 : decode cX10_feed 68 = .ok (.putfield 155, 3) := by decide +kernel
theorem dX10_feed_71 : decode cX10_feed 71 = .ok (.iinc 4 (-1), 3) := by decide +kernel
theorem dX10_feed_74 : decode cX10_feed 74 = .ok (.goto (-39), 3) := by decide +kernel
theorem dX10_feed_77 : decode cX10_feed 77 = .ok (.aload_n 0, 1) := by decide +kernel
theorem dX10_feed_78 : decode cX10_feed 78 = .ok (.getfield 155, 3) := by decide +kernel
theorem dX10_feed_81 : decode cX10_feed 81 = .ok (.ireturn, 1) := by decide +kernel
def f_X10_feed_L35 : Nat → Nat → Int64 → Int32 → Int32 → Hp → Option (Int32 × Hp)
  | 0, _, _, _, _, _ => none
  | n + 1, l0, l1, l3, l4, h =>
    if l4 < 0 then (
    gd (okOb h l0 10) <|
    vl (gI h l0 2) fun x10 =>
    some (x10, h)) else (
    gd (okOb h l0 10) <|
    vl (gR h l0 0) fun r12 =>
    vl (gI h l0 2) fun x13 =>
    un r12 fun b14 =>
    gd (okAb h b14 11 x13) <|
    vl (sI h b14 x13.toNatClampNeg (((l1 >>> (((8 : Int32) * l4).toInt64 &&& 63)) &&& (255 : Int64)).toInt32)) fun h16 =>
    vl (gI h16 l0 2) fun x17 =>
    vl (sI h16 l0 2 (x17 + (1 : Int32))) fun h18 =>
    vl (l4 + (-1 : Int32)) fun x19 =>
    f_X10_feed_L35 n l0 l1 l3 x19 h18)
set_option maxHeartbeats 4000000 in
set_option maxRecDepth 100000 in
theorem t_X10_feed_L35 {X : Cx} {d : Nat} {h0 h' : Hp} {v : Int32} (hD : 2 ≤ d) : ∀ (n : Nat) (l0 : Nat) (l1 : Int64) (l3 : Int32) (l4 : Int32) (h : Hp), f_X10_feed_L35 n l0 l1 l3 l4 h = some (v, h') → EV X mX10_feed d h0 (some (.int v)) h' 35 [some (.ref l0), some (.long l1), none, some (.int l3), some (.int l4)] [] h := by
  intro n
  induction n with
  | zero => intro l0 l1 l3 l4 h H; simp [f_X10_feed_L35] at H
  | succ n ih =>
    intro l0 l1 l3 l4 h H
    rw [f_X10_feed_L35] at H
    refine ev_iload dX10_feed_35 rfl ?_
    refine ev_if_lt (tgt := 77) dX10_feed_37 (by decide) (fun c8 => ?_) (fun c8 => ?_)
    · rw [if_pos c8] at H
      refine ev_aload_n dX10_feed_77 rfl rfl rfl ?_
      replace H := gd_some H
      obtain ⟨g9, H⟩ := H
      replace H := vl_some H
      obtain ⟨x10, ex10, H⟩ := H
      refine ev_getIx dX10_feed_78 fgX10_155 rfl (okOb.p g9) ex10 ?_
      exact ev_iretx dX10_feed_81 rfl rfl H
    · rw [if_neg c8] at H
      refine ev_aload_n dX10_feed_40 rfl rfl rfl ?_
      replace H := gd_some H
      obtain ⟨g11, H⟩ := H
      replace H := vl_some H
      obtain ⟨r12, er12, H⟩ := H
      refine ev_getRx dX10_feed_41 fgX10_7 rfl (okOb.p g11) er12 ?_
      refine ev_aload_n dX10_feed_44 rfl rfl rfl ?_
      replace H := vl_some H
      obtain ⟨x13, ex13, H⟩ := H
      refine ev_getIx dX10_feed_45 fgX10_155 rfl (okOb.p g11) ex13 ?_
      refine ev_lload_n dX10_feed_48 rfl rfl ?_
      refine ev_bipush (v := (8 : Int32)) dX10_feed_49 (by decide) ?_
      refine ev_iload dX10_feed_51 rfl ?_
      refine ev_imul dX10_feed_53 ?_
      refine ev_lshr dX10_feed_54 rfl ?_
      refine ev_ldc2 (v := (255 : Int64)) dX10_feed_55 k5_91 ?_
      refine ev_land dX10_feed_58 ?_
      refine ev_l2i dX10_feed_59 rfl ?_
      replace H := un_some H
      obtain ⟨b14, eb14, H⟩ := H
      subst eb14
      replace H := gd_some H
      obtain ⟨g15, H⟩ := H
      replace H := vl_some H
      obtain ⟨h16, eh16, H⟩ := H
      refine ev_iast dX10_feed_60 (okAb.p g15) eh16 ?_
      refine ev_aload_n dX10_feed_61 rfl rfl rfl ?_
      refine ev_dup dX10_feed_62 rfl ?_
      replace H := vl_some H
      obtain ⟨x17, ex17, H⟩ := H
      refine ev_getIx dX10_feed_63 fgX10_155 rfl (okO_sI eh16 (okOb.p g11)) ex17 ?_
      refine ev_iconst (v := (1 : Int32)) dX10_feed_66 (by decide) ?_
      refine ev_iadd dX10_feed_67 ?_
      replace H := vl_some H
      obtain ⟨h18, eh18, H⟩ := H
      refine ev_putI dX10_feed_68 fdX10_155 rfl rfl rfl (okO_sI eh16 (okOb.p g11)) eh18 ?_
      replace H := vl_some H
      obtain ⟨x19, ex19, H⟩ := H
      refine ev_iincx (loc2 := [some (.ref l0), some (.long l1), none, some (.int l3), some (.int x19)]) dX10_feed_71 rfl (by decide) ex19 (by decide) rfl ?_
      refine ev_goto (tgt := 35) dX10_feed_74 (by decide) ?_
      exact ih l0 l1 l3 x19 h18 H
def f_X10_feed (h : Hp) (a0 : Nat) (a1 : Int64) (a3 : Int32) : Option (Int32 × Hp) :=
bnd (f_X10_isIn h (a3.toInt64) (1 : Int64) (8 : Int64)) fun v1 h2 =>
if v1 = 0 then (
some ((-2 : Int32), h2)) else (
gd (okOb h2 a0 10) <|
vl (gI h2 a0 2) fun x5 =>
if (x5 + a3) ≤ (300 : Int32) then (
vl (a3 - (1 : Int32)) fun x7 =>
f_X10_feed_L35 6000 a0 a1 a3 x7 h2) else (
some ((-4 : Int32), h2)))
set_option maxHeartbeats 4000000 in
set_option maxRecDepth 100000 in
theorem t_X10_feed {X : Cx} {d : Nat} {h : Hp} {a0 : Nat} {a1 : Int64} {a3 : Int32} {v : Int32} {h' : Hp} (hD : 2 ≤ d) (H : f_X10_feed h a0 a1 a3 = some (v, h')) : PM X mX10_feed d [.ref a0, .long a1, .int a3] h (some (.int v)) h' := by
  unfold f_X10_feed at H
  refine PM.of (loc := [some (.ref a0), some (.long a1), none, some (.int a3), none]) (by decide) rfl (Nat.le_of_ble_eq_true rfl) ?_
  refine ev_iload_n dX10_feed_0 rfl rfl ?_
  refine ev_i2l dX10_feed_1 rfl ?_
  refine ev_lconst (v := (1 : Int64)) dX10_feed_2 (by decide) ?_
  refine ev_ldc2 (v := (8 : Int64)) dX10_feed_3 k5_87 ?_
  replace H := bnd_some H
  obtain ⟨v1, h2, eh2, H⟩ := H
  have ph2 := (t_X10_isIn (X := X) (d := 1) (by omega) eh2)
  refine ev_callS (as := [.long (a3.toInt64), .long (1 : Int64), .long (8 : Int64)]) dX10_feed_6 ph2 ok_X10_isIn (by omega) rfl k5_88 k5_89 rfl (Nat.le_of_ble_eq_true rfl) ?_
  refine ev_if_ne (tgt := 15) dX10_feed_9 (by decide) (fun c3 => ?_) (fun c3 => ?_)
  · rw [if_neg c3] at H
    refine ev_aload_n dX10_feed_15 rfl rfl rfl ?_
    replace H := gd_some H
    obtain ⟨g4, H⟩ := H
    replace H := vl_some H
    obtain ⟨x5, ex5, H⟩ := H
    refine ev_getIx dX10_feed_16 fgX10_155 rfl (okOb.p g4) ex5 ?_
    refine ev_iload_n dX10_feed_19 rfl rfl ?_
    refine ev_iadd dX10_feed_20 ?_
    refine ev_sipush (v := (300 : Int32)) dX10_feed_21 (by decide) ?_
    refine ev_icmp_le (tgt := 30) dX10_feed_24 (by decide) (fun c6 => ?_) (fun c6 => ?_)
    · rw [if_pos c6] at H
      refine ev_iload_n dX10_feed_30 rfl rfl ?_
      refine ev_iconst (v := (1 : Int32)) dX10_feed_31 (by decide) ?_
      refine ev_isub dX10_feed_32 ?_
      replace H := vl_some H
      obtain ⟨x7, ex7, H⟩ := H
      refine ev_istorex (loc2 := [some (.ref a0), some (.long a1), none, some (.int a3), some (.int x7)]) dX10_feed_33 (by decide) ex7 rfl ?_
      refine t_X10_feed_L35 hD  6000 a0 a1 a3 x7 h2 H
    · rw [if_neg c6] at H
      refine ev_bipush (v := (-4 : Int32)) dX10_feed_27 (by decide) ?_
      exact ev_iretx dX10_feed_29 rfl rfl H
  · rw [if_pos c3] at H
    refine ev_bipush (v := (-2 : Int32)) dX10_feed_12 (by decide) ?_
    exact ev_iretx dX10_feed_14 rfl rfl H

theorem dX10_cast_0 : decode cX10_cast 0 = .ok (.iload_n 1, 1) := by decide +kernel
theorem dX10_cast_1 : decode cX10_cast 1 = .ok (.invokestatic 160, 3) := by decide +kernel
theorem dX10_cast_4 : decode cX10_cast 4 = .ok (.ifCond .ne 5, 3) := by decide +kernel
theorem dX10_cast_7 : decode cX10_cast 7 = .ok (.iconst (-1), 1) := by decide +kernel
theorem dX10_cast_8 : decode cX10_cast 8 = .ok (.ireturn, 1) := by decide +kernel
theorem dX10_cast_9 : decode cX10_cast 9 = .ok (.iload_n 2, 1) := by decide +kernel
theorem dX10_cast_10 : decode cX10_cast 10 = .ok (.i2l, 1) := by decide +kernel
theorem dX10_cast_11 : decode cX10_cast 11 = .ok (.lconst 1, 1) := by decide +kernel
theorem dX10_cast_12 : decode cX10_cast 12 = .ok (.ldc2_w 163, 3) := by decide +kernel
theorem dX10_cast_15 : decode cX10_cast 15 = .ok (.invokestatic 151, 3) := by decide +kernel
theorem dX10_cast_18 : decode cX10_cast 18 = .ok (.ifCond .ne 6, 3) := by decide +kernel
theorem dX10_cast_21 : decode cX10_cast 21 = .ok (.bipush (-2), 2) := by decide +kernel
theorem dX10_cast_23 : decode cX10_cast 23 = .ok (.ireturn, 1) := by decide +kernel
theorem dX10_cast_24 : decode cX10_cast 24 = .ok (.aload_n 0, 1) := by decide +kernel
theorem dX10_cast_25 : decode cX10_cast 25 = .ok (.getfield 13, 3) := by decide +kernel
theorem dX10_cast_28 : decode cX10_cast 28 = .ok (.iload_n 1, 1) := by decide +kernel
theorem dX10_cast_29 : decode cX10_cast 29 = .ok (.iaload, 1) := by decide +kernel
theorem dX10_cast_30 : decode cX10_cast 30 = .ok (.iload_n 2, 1) := by decide +kernel
theorem dX10_cast_31 : decode cX10_cast 31 = .ok (.iadd, 1) := by decide +kernel
theorem dX10_cast_32 : decode cX10_cast 32 = .ok (.sipush 5000, 3) := by decide +kernel
theorem dX10_cast_35 : decode cX10_cast 35 = .ok (.if_icmp .le 6, 3) := by decide +kernel
theorem dX10_cast_38 : decode cX10_cast 38 = .ok (.bipush (-4), 2) := by decide +kernel
theorem dX10_cast_40 : decode cX10_cast 40 = .ok (.ireturn, 1) := by decide +kernel
theorem dX10_cast_41 : decode cX10_cast 41 = .ok (.aload_n 0, 1) := by decide +kernel
theorem dX10_cast_42 : decode cX10_cast 42 = .ok (.getfield 13, 3) := by decide +kernel
theorem dX10_cast_45 : decode cX10_cast 45 = .ok (.iload_n 1, 1) := by decide +kernel
theorem dX10_cast_46 : decode cX10_cast 46 = .ok (.dup2, 1) := by decide +kernel
theorem dX10_cast_47 : decode cX10_cast 47 = .ok (.iaload, 1) := by decide +kernel
theorem dX10_cast_48 : decode cX10_cast 48 = .ok (.iload_n 2, 1) := by decide +kernel
theorem dX10_cast_49 : decode cX10_cast 49 = .ok (.iadd, 1) := by decide +kernel
theorem dX10_cast_50 : decode cX10_cast 50 = .ok (.iastore, 1) := by decide +kernel
theorem dX10_cast_51 : decode cX10_cast 51 = .ok (.aload_n 0, 1) := by decide +kernel
theorem dX10_cast_52 : decode cX10_cast 52 = .ok (.getfield 13, 3) := by decide +kernel
theorem dX10_cast_55 : decode cX10_cast 55 = .ok (.iload_n 1, 1) := by decide +kernel
theorem dX10_cast_56 : decode cX10_cast 56 = .ok (.iaload, 1) := by decide +kernel
theorem dX10_cast_57 : decode cX10_cast 57 = .ok (.ireturn, 1) := by decide +kernel
def f_X10_cast (h : Hp) (a0 : Nat) (a1 : Int32) (a2 : Int32) : Option (Int32 × Hp) :=
bnd (f_X10_isLetter h a1) fun v1 h2 =>
if v1 = 0 then (
some ((-1 : Int32), h2)) else (
bnd (f_X10_isIn h2 (a2.toInt64) (1 : Int64) (1000 : Int64)) fun v4 h5 =>
if v4 = 0 then (
some ((-2 : Int32), h5)) else (
gd (okOb h5 a0 10) <|
vl (gR h5 a0 1) fun r8 =>
un r8 fun b9 =>
gd (okAb h5 b9 11 a1) <|
vl (gI h5 b9 a1.toNatClampNeg) fun x11 =>
if (x11 + a2) ≤ (5000 : Int32) then (
vl (gR h5 a0 1) fun r13 =>
un r13 fun b14 =>
gd (okAb h5 b14 11 a1) <|
vl (gI h5 b14 a1.toNatClampNeg) fun x16 =>
gd (okAb h5 b14 11 a1) <|
vl (sI h5 b14 a1.toNatClampNeg (x16 + a2)) fun h18 =>
vl (gR h18 a0 1) fun r19 =>
un r19 fun b20 =>
gd (okAb h18 b20 11 a1) <|
vl (gI h18 b20 a1.toNatClampNeg) fun x22 =>
some (x22, h18)) else (
some ((-4 : Int32), h5))))
set_option maxHeartbeats 4000000 in
set_option maxRecDepth 100000 in
theorem t_X10_cast {X : Cx} {d : Nat} {h : Hp} {a0 : Nat} {a1 : Int32} {a2 : Int32} {v : Int32} {h' : Hp} (hD : 2 ≤ d) (H : f_X10_cast h a0 a1 a2 = some (v, h')) : PM X mX10_cast d [.ref a0, .int a1, .int a2] h (some (.int v)) h' := by
  unfold f_X10_cast at H
  refine PM.of (loc := [some (.ref a0), some (.int a1), some (.int a2)]) (by decide) rfl (Nat.le_of_ble_eq_true rfl) ?_
  refine ev_iload_n dX10_cast_0 rfl rfl ?_
  replace H := bnd_some H
  obtain ⟨v1, h2, eh2, H⟩ := H
  have ph2 := (t_X10_isLetter (X := X) (d := 1) (by omega) eh2)
  refine ev_callS (as := [.int a1]) dX10_cast_1 ph2 ok_X10_isLetter (by omega) rfl k5_96 k5_97 rfl (Nat.le_of_ble_eq_true rfl) ?_
  refine ev_if_ne (tgt := 9) dX10_cast_4 (by decide) (fun c3 => ?_) (fun c3 => ?_)
  · rw [if_neg c3] at H
    refine ev_iload_n dX10_cast_9 rfl rfl ?_
    refine ev_i2l dX10_cast_10 rfl ?_
    refine ev_lconst (v := (1 : Int64)) dX10_cast_11 (by decide) ?_
    refine ev_ldc2 (v := (1000 : Int64)) dX10_cast_12 k5_99 ?_
    replace H := bnd_some H
    obtain ⟨v4, h5, eh5, H⟩ := H
    have ph5 := (t_X10_isIn (X := X) (d := 1) (by omega) eh5)
    refine ev_callS (as := [.long (a2.toInt64), .long (1 : Int64), .long (1000 : Int64)]) dX10_cast_15 ph5 ok_X10_isIn (by omega) rfl k5_88 k5_89 rfl (Nat.le_of_ble_eq_true rfl) ?_
    refine ev_if_ne (tgt := 24) dX10_cast_18 (by decide) (fun c6 => ?_) (fun c6 => ?_)
    · rw [if_neg c6] at H
      refine ev_aload_n dX10_cast_24 rfl rfl rfl ?_
      replace H := gd_some H
      obtain ⟨g7, H⟩ := H
      replace H := vl_some H
      obtain ⟨r8, er8, H⟩ := H
      refine ev_getRx dX10_cast_25 fgX10_13 rfl (okOb.p g7) er8 ?_
      refine ev_iload_n dX10_cast_28 rfl rfl ?_
      replace H := un_some H
      obtain ⟨b9, eb9, H⟩ := H
      subst eb9
      replace H := gd_some H
      obtain ⟨g10, H⟩ := H
      replace H := vl_some H
      obtain ⟨x11, ex11, H⟩ := H
      refine ev_ialdx dX10_cast_29 (okAb.p g10) ex11 ?_
      refine ev_iload_n dX10_cast_30 rfl rfl ?_
      refine ev_iadd dX10_cast_31 ?_
      refine ev_sipush (v := (5000 : Int32)) dX10_cast_32 (by decide) ?_
      refine ev_icmp_le (tgt := 41) dX10_cast_35 (by decide) (fun c12 => ?_) (fun c12 => ?_)
      · rw [if_pos c12] at H
        refine ev_aload_n dX10_cast_41 rfl rfl rfl ?_
        replace H := vl_some H
        obtain ⟨r13, er13, H⟩ := H
        refine ev_getRx dX10_cast_42 fgX10_13 rfl (okOb.p g7) er13 ?_
        refine ev_iload_n dX10_cast_45 rfl rfl ?_
        refine ev_dup2 dX10_cast_46 rfl (rv_cat _) ?_
        replace H := un_some H
        obtain ⟨b14, eb14, H⟩ := H
        subst eb14
        replace H := gd_some H
        obtain ⟨g15, H⟩ := H
        replace H := vl_some H
        obtain ⟨x16, ex16, H⟩ := H
        refine ev_ialdx dX10_cast_47 (okAb.p g15) ex16 ?_
        refine ev_iload_n dX10_cast_48 rfl rfl ?_
        refine ev_iadd dX10_cast_49 ?_
        replace H := gd_some H
        obtain ⟨g17, H⟩ := H
        replace H := vl_some H
        obtain ⟨h18, eh18, H⟩ := H
        refine ev_iast dX10_cast_50 (okAb.p g17) eh18 ?_
        refine ev_aload_n dX10_cast_51 rfl rfl rfl ?_
        replace H := vl_some H
        obtain ⟨r19, er19, H⟩ := H
        refine ev_getRx dX10_cast_52 fgX10_13 rfl (okO_sI eh18 (okOb.p g7)) er19 ?_
        refine ev_iload_n dX10_cast_55 rfl rfl ?_
        replace H := un_some H
        obtain ⟨b20, eb20, H⟩ := H
        subst eb20
        replace H := gd_some H
        obtain ⟨g21, H⟩ := H
        replace H := vl_some H
        obtain ⟨x22, ex22, H⟩ := H
        refine ev_ialdx dX10_cast_56 (okAb.p g21) ex22 ?_
        exact ev_iretx dX10_cast_57 rfl rfl H
      · rw [if_neg c12] at H
        refine ev_bipush (v := (-4 : Int32)) dX10_cast_38 (by decide) ?_
        exact ev_iretx dX10_cast_40 rfl rfl H
    · rw [if_pos c6] at H
      refine ev_bipush (v := (-2 : Int32)) dX10_cast_21 (by decide) ?_
      exact ev_iretx dX10_cast_23 rfl rfl H
  · rw [if_pos c3] at H
    refine ev_iconst (v := (-1 : Int32)) dX10_cast_7 (by decide) ?_
    exact ev_iretx dX10_cast_8 rfl rfl H

theorem dX10_sorts_0 : decode cX10_sorts 0 = .ok (.iload_n 1, 1) := by decide +kernel
theorem dX10_sorts_1 : decode cX10_sorts 1 = .ok (.invokestatic 160, 3) := by decide +kernel
theorem dX10_sorts_4 : decode cX10_sorts 4 = .ok (.ifCond .eq 12, 3) := by decide +kernel
theorem dX10_sorts_7 : decode cX10_sorts 7 = .ok (.aload_n 0, 1) := by decide +kernel
theorem dX10_sorts_8 : decode cX10_sorts 8 = .ok (.getfield 13, 3) := by decide +kernel
theorem dX10_sorts_11 : decode cX10_sorts 11 = .ok (.iload_n 1, 1) := by decide +kernel
theorem dX10_sorts_12 : decode cX10_sorts 12 = .ok (.iaload, 1) := by decide +kernel
theorem dX10_sorts_13 : decode cX10_sorts 13 = .ok (.goto 4, 3) := by decide +kernel
theorem dX10_sorts_16 : decode cX10_sorts 16 = .ok (.iconst (-1), 1) := by decide +kernel
theorem dX10_sorts_17 : decode cX10_sorts 17 = .ok (.ireturn, 1) := by decide +kernel
def f_X10_sorts (h : Hp) (a0 : Nat) (a1 : Int32) : Option (Int32 × Hp) :=
bnd (f_X10_isLetter h a1) fun v1 h2 =>
if v1 = 0 then (
some ((-1 : Int32), h2)) else (
gd (okOb h2 a0 10) <|
vl (gR h2 a0 1) fun r5 =>
un r5 fun b6 =>
gd (okAb h2 b6 11 a1) <|
vl (gI h2 b6 a1.toNatClampNeg) fun x8 =>
some (x8, h2))
set_option maxHeartbeats 4000000 in
set_option maxRecDepth 100000 in
theorem t_X10_sorts {X : Cx} {d : Nat} {h : Hp} {a0 : Nat} {a1 : Int32} {v : Int32} {h' : Hp} (hD : 2 ≤ d) (H : f_X10_sorts h a0 a1 = some (v, h')) : PM X mX10_sorts d [.ref a0, .int a1] h (some (.int v)) h' := by
  unfold f_X10_sorts at H
  refine PM.of (loc := [some (.ref a0), some (.int a1)]) (by decide) rfl (Nat.le_of_ble_eq_true rfl) ?_
  refine ev_iload_n dX10_sorts_0 rfl rfl ?_
  replace H := bnd_some H
  obtain ⟨v1, h2, eh2, H⟩ := H
  have ph2 := (t_X10_isLetter (X := X) (d := 1) (by omega) eh2)
  refine ev_callS (as := [.int a1]) dX10_sorts_1 ph2 ok_X10_isLetter (by omega) rfl k5_96 k5_97 rfl (Nat.le_of_ble_eq_true rfl) ?_
  refine ev_if_eq (tgt := 16) dX10_sorts_4 (by decide) (fun c3 => ?_) (fun c3 => ?_)
  · rw [if_pos c3] at H
    refine ev_iconst (v := (-1 : Int32)) dX10_sorts_16 (by decide) ?_
    exact ev_iretx dX10_sorts_17 rfl rfl H
  · rw [if_neg c3] at H
    refine ev_aload_n dX10_sorts_7 rfl rfl rfl ?_
    replace H := gd_some H
    obtain ⟨g4, H⟩ := H
    replace H := vl_some H
    obtain ⟨r5, er5, H⟩ := H
    refine ev_getRx dX10_sorts_8 fgX10_13 rfl (okOb.p g4) er5 ?_
    refine ev_iload_n dX10_sorts_11 rfl rfl ?_
    replace H := un_some H
    obtain ⟨b6, eb6, H⟩ := H
    subst eb6
    replace H := gd_some H
    obtain ⟨g7, H⟩ := H
    replace H := vl_some H
    obtain ⟨x8, ex8, H⟩ := H
    refine ev_ialdx dX10_sorts_12 (okAb.p g7) ex8 ?_
    refine ev_goto (tgt := 17) dX10_sorts_13 (by decide) ?_
    exact ev_iretx dX10_sorts_17 rfl rfl H

theorem dX10_signOf_0 : decode cX10_signOf 0 = .ok (.iload_n 0, 1) := by decide +kernel
theorem dX10_signOf_1 : decode cX10_signOf 1 = .ok (.bipush 97, 2) := by decide +kernel
theorem dX10_signOf_3 : decode cX10_signOf 3 = .ok (.if_icmp .lt 16, 3) := by decide +kernel
theorem dX10_signOf_6 : decode cX10_signOf 6 = .ok (.iload_n 0, 1) := by decide +kernel
theorem dX10_signOf_7 : decode cX10_signOf 7 = .ok (.bipush 122, 2) := by decide +kernel
theorem dX10_signOf_9 : decode cX10_signOf 9 = .ok (.if_icmp .gt 10, 3) := by decide +kernel
theorem dX10_signOf_12 : decode cX10_signOf 12 = .ok (.iload_n 0, 1) := by decide +kernel
theorem dX10_signOf_13 : decode cX10_signOf 13 = .ok (.bipush 97, 2) := by decide +kernel
theorem dX10_signOf_15 : decode cX10_signOf 15 = .ok (.isub, 1) := by decide +kernel
theorem dX10_signOf_16 : decode cX10_signOf 16 = .ok (.goto 26, 3) := by decide +kernel
theorem dX10_signOf_19 : decode cX10_signOf 19 = .ok (.iload_n 0, 1) := by decide +kernel
theorem dX10_signOf_20 : decode cX10_signOf 20 = .ok (.bipush 32, 2) := by decide +kernel
theorem dX10_signOf_22 : decode cX10_signOf 22 = .ok (.if_icmp .ne 8, 3) := by decide +kernel
theorem dX10_signOf_25 : decode cX10_signOf 25 = .ok (.bipush 32, 2) := by decide +kernel
theorem dX10_signOf_27 : decode cX10_signOf 27 = .ok (.goto 15, 3) := by decide +kernel
theorem dX10_signOf_30 : decode cX10_signOf 30 = .ok (.iload_n 0, 1) := by decide +kernel
theorem dX10_signOf_31 : decode cX10_signOf 31 = .ok (.bipush 10, 2) := by decide +kernel
theorem dX10_signOf_33 : decode cX10_signOf 33 = .ok (.if_icmp .ne 8, 3) := by decide +kernel
theorem dX10_signOf_36 : decode cX10_signOf 36 = .ok (.bipush 33, 2) := by decide +kernel
theorem dX10_signOf_38 : decode cX10_signOf 38 = .ok (.goto 4, 3) := by decide +kernel
theorem dX10_signOf_41 : decode cX10_signOf 41 = .ok (.iconst (-1), 1) := by decide +kernel
theorem dX10_signOf_42 : decode cX10_signOf 42 = .ok (.ireturn, 1) := by decide +kernel
def f_X10_signOf (h : Hp) (a0 : Int32) : Option (Int32 × Hp) :=
if a0 < (97 : Int32) then (
if a0 = (32 : Int32) then (
some ((32 : Int32), h)) else (
if a0 = (10 : Int32) then (
some ((33 : Int32), h)) else (
some ((-1 : Int32), h)))) else (
if (122 : Int32) < a0 then (
if a0 = (32 : Int32) then (
some ((32 : Int32), h)) else (
if a0 = (10 : Int32) then (
some ((33 : Int32), h)) else (
some ((-1 : Int32), h)))) else (
some (a0 - (97 : Int32), h)))
set_option maxHeartbeats 4000000 in
set_option maxRecDepth 100000 in
theorem t_X10_signOf {X : Cx} {d : Nat} {h : Hp} {a0 : Int32} {v : Int32} {h' : Hp} (hD : 1 ≤ d) (H : f_X10_signOf h a0 = some (v, h')) : PM X mX10_signOf d [.int a0] h (some (.int v)) h' := by
  unfold f_X10_signOf at H
  refine PM.of (loc := [some (.int a0)]) (by decide) rfl (Nat.le_of_ble_eq_true rfl) ?_
  refine ev_iload_n dX10_signOf_0 rfl rfl ?_
  refine ev_bipush (v := (97 : Int32)) dX10_signOf_1 (by decide) ?_
  refine ev_icmp_lt (tgt := 19) dX10_signOf_3 (by decide) (fun c1 => ?_) (fun c1 => ?_)
  · rw [if_pos c1] at H
    refine ev_iload_n dX10_signOf_19 rfl rfl ?_
    refine ev_bipush (v := (32 : Int32)) dX10_signOf_20 (by decide) ?_
    refine ev_icmp_ne (tgt := 30) dX10_signOf_22 (by decide) (fun c2 => ?_) (fun c2 => ?_)
    · rw [if_neg c2] at H
      refine ev_iload_n dX10_signOf_30 rfl rfl ?_
      refine ev_bipush (v := (10 : Int32)) dX10_signOf_31 (by decide) ?_
      refine ev_icmp_ne (tgt := 41) dX10_signOf_33 (by decide) (fun c3 => ?_) (fun c3 => ?_)
      · rw [if_neg c3] at H
        refine ev_iconst (v := (-1 : Int32)) dX10_signOf_41 (by decide) ?_
        exact ev_iretx dX10_signOf_42 rfl rfl H
      · rw [if_pos c3] at H
        refine ev_bipush (v := (33 : Int32)) dX10_signOf_36 (by decide) ?_
        refine ev_goto (tgt := 42) dX10_signOf_38 (by decide) ?_
        exact ev_iretx dX10_signOf_42 rfl rfl H
    · rw [if_pos c2] at H
      refine ev_bipush (v := (32 : Int32)) dX10_signOf_25 (by decide) ?_
      refine ev_goto (tgt := 42) dX10_signOf_27 (by decide) ?_
      exact ev_iretx dX10_signOf_42 rfl rfl H
  · rw [if_neg c1] at H
    refine ev_iload_n dX10_signOf_6 rfl rfl ?_
    refine ev_bipush (v := (122 : Int32)) dX10_signOf_7 (by decide) ?_
    refine ev_icmp_gt (tgt := 19) dX10_signOf_9 (by decide) (fun c4 => ?_) (fun c4 => ?_)
    · rw [if_pos c4] at H
      refine ev_iload_n dX10_signOf_19 rfl rfl ?_
      refine ev_bipush (v := (32 : Int32)) dX10_signOf_20 (by decide) ?_
      refine ev_icmp_ne (tgt := 30) dX10_signOf_22 (by decide) (fun c5 => ?_) (fun c5 => ?_)
      · rw [if_neg c5] at H
        refine ev_iload_n dX10_signOf_30 rfl rfl ?_
        refine ev_bipush (v := (10 : Int32)) dX10_signOf_31 (by decide) ?_
        refine ev_icmp_ne (tgt := 41) dX10_signOf_33 (by decide) (fun c6 => ?_) (fun c6 => ?_)
        · rw [if_neg c6] at H
          refine ev_iconst (v := (-1 : Int32)) dX10_signOf_41 (by decide) ?_
          exact ev_iretx dX10_signOf_42 rfl rfl H
        · rw [if_pos c6] at H
          refine ev_bipush (v := (33 : Int32)) dX10_signOf_36 (by decide) ?_
          refine ev_goto (tgt := 42) dX10_signOf_38 (by decide) ?_
          exact ev_iretx dX10_signOf_42 rfl rfl H
      · rw [if_pos c5] at H
        refine ev_bipush (v := (32 : Int32)) dX10_signOf_25 (by decide) ?_
        refine ev_goto (tgt := 42) dX10_signOf_27 (by decide) ?_
        exact ev_iretx dX10_signOf_42 rfl rfl H
    · rw [if_neg c4] at H
      refine ev_iload_n dX10_signOf_12 rfl rfl ?_
      refine ev_bipush (v := (97 : Int32)) dX10_signOf_13 (by decide) ?_
      refine ev_isub dX10_signOf_15 ?_
      refine ev_goto (tgt := 42) dX10_signOf_16 (by decide) ?_
      exact ev_iretx dX10_signOf_42 rfl rfl H

theorem dX10_page_0 : decode cX10_page 0 = .ok (.aload_n 0, 1) := by decide +kernel
theorem dX10_page_1 : decode cX10_page 1 = .ok (.getfield 155, 3) := by decide +kernel
theorem dX10_page_4 : decode cX10_page 4 = .ok (.ifCond .ne 6, 3) := by decide +kernel
theorem dX10_page_7 : decode cX10_page 7 = .ok (.bipush (-2), 2) := by decide +kernel
theorem dX10_page_9 : decode cX10_page 9 = .ok (.ireturn, 1) := by decide +kernel
theorem dX10_page_10 : decode cX10_page 10 = .ok (.aload_n 0, 1) := by decide +kernel
theorem dX10_page_11 : decode cX10_page 11 = .ok (.getfield 141, 3) := by decide +kernel
theorem dX10_page_14 : decode cX10_page 14 = .ok (.bipush 48, 2) := by decide +kernel
theorem dX10_page_16 : decode cX10_page 16 = .ok (.if_icmp .ne 6, 3) := by decide +kernel
theorem dX10_page_19 : decode cX10_page 19 = .ok (.bipush (-4), 2) := by decide +kernel
theorem dX10_page_21 : decode cX10_page 21 = .ok (.ireturn, 1) := by decide +kernel
theorem dX10_page_22 : decode cX10_page 22 = .ok (.aload_n 0, 1) := by decide +kernel
theorem dX10_page_23 : decode cX10_page 23 = .ok (.getfield 155, 3) := by decide +kernel
theorem dX10_page_26 : decode cX10_page 26 = .ok (.istore_n 1, 1) := by decide +kernel
theorem dX10_page_27 : decode cX10_page 27 = .ok (.aload_n 0, 1) := by decide +kernel
theorem dX10_page_28 : decode cX10_page 28 = .ok (.iconst 0, 1) := by decide +kernel
theorem dX10_page_29 : decode cX10_page 29 = .ok (.putfield 155, 3) := by decide +kernel
theorem dX10_page_32 : decode cX10_page 32 = .ok (.iconst 0, 1) := by decide +kernel
theorem dX10_page_33 : decode cX10_page 33 = .ok (.istore_n 2, 1) := by decide +kernel
theorem dX10_page_34 : decode cX10_page 34 = .ok (.iload_n 2, 1) := by decide +kernel
theorem dX10_page_35 : decode cX10_page 35 = .ok (.iload_n 1, 1) := by decide +kernel
theorem dX10_page_36 : decode cX10_page 36 = .ok (.if_icmp .ge 32, 3) := by decide +kernel
theorem dX10_page_39 : decode cX10_page 39 = .ok (.iload_n 2, 1) := by decide +kernel
theorem dX10_page_40 : decode cX10_page 40 = .ok (.bipush 120, 2) := by decide +kernel
theorem dX10_page_42 : decode cX10_page 42 = .ok (.if_icmp .eq 15, 3) := by decide +kernel
theorem dX10_page_45 : decode cX10_page 45 = .ok (.aload_n 0, 1) := by decide +kernel
theorem dX10_page_46 : decode cX10_page 46 = .ok (.getfield 7, 3) := by decide +kernel
theorem dX10_page_49 : decode cX10_page 49 = .ok (.iload_n 2, 1) := by decide +kernel
theorem dX10_page_50 : decode cX10_page 50 = .ok (.iaload, 1) := by decide +kernel
theorem dX10_page_51 : decode cX10_page 51 = .ok (.invokestatic 165, 3) := by decide +kernel
theorem dX10_page_54 : decode cX10_page 54 = .ok (.ifCond .ge 8, 3) := by decide +kernel
theorem dX10_page_57 : decode cX10_page 57 = .ok (.bipush (-10), 2) := by decide +kernel
theorem dX10_page_59 : decode cX10_page 59 = .ok (.iload_n 2, 1) := by decide +kernel
theorem dX10_page_60 : decode cX10_page 60 = .ok (.isub, 1) := by decide +kernel
theorem dX10_page_61 : decode cX10_page 61 = .ok (.ireturn, 1) := by decide +kernel
theorem dX10_page_62 : decode cX10_page 62 = .ok (.iinc 2 1, 3) := by decide +kernel
theorem dX10_page_65 : decode cX10_page 65 = .ok (.goto (-31), 3) := by decide +kernel
theorem dX10_page_68 : decode cX10_page 68 = .ok (.aload_n 0, 1) := by decide +kernel
theorem dX10_page_69 : decode cX10_page 69 = .ok (.getfield 141, 3) := by decide +kernel
theorem dX10_page_72 : decode cX10_page 72 = .ok (.istore_n 2, 1) := by decide +kernel
theorem dX10_page_73 : decode cX10_page 73 = .ok (.aload_n 0, 1) := by decide +kernel
theorem dX10_page_74 : decode cX10_page 74 = .ok (.dup, 1) := by decide +kernel
theorem dX10_page_75 : decode cX10_page 75 = .ok (.getfield 141, 3) := by decide +kernel
theorem dX10_page_78 : decode cX10_page 78 = .ok (.iconst 1, 1) := by decide +kernel
theorem dX10_page_79 : decode cX10_page 79 = .ok (.iadd, 1) := by decide +kernel
theorem dX10_page_80 : decode cX10_page 80 = .ok (.putfield 141, 3) := by decide +kernel
theorem dX10_page_83 : decode cX10_page 83 = .ok (.aload_n 0, 1) := by decide +kernel
theorem dX10_page_84 : decode cX10_page 84 = .ok (.getfield 16, 3) := by decide +kernel
theorem dX10_page_87 : decode cX10_page 87 = .ok (.iload_n 2, 1) := by decide +kernel
theorem dX10_page_88 : decode cX10_page 88 = .ok (.iload_n 1, 1) := by decide +kernel
theorem dX10_page_89 : decode cX10_page 89 = .ok (.iastore, 1) := by decide +kernel
theorem dX10_page_90 : decode cX10_page 90 = .ok (.iconst 0, 1) := by decide +kernel
theorem dX10_page_91 : decode cX10_page 91 = .ok (.istore_n 3, 1) := by decide +kernel
theorem dX10_page_92 : decode cX10_page 92 = .ok (.iload_n 3, 1) := by decide +kernel
theorem dX10_page_93 : decode cX10_page 93 = .ok (.iload_n 1, 1) := by decide +kernel
theorem dX10_page_94 : decode cX10_page 94 = .ok (.if_icmp .ge 29, 3) := by decide +kernel
theorem dX10_page_97 : decode cX10_page 97 = .ok (.aload_n 0, 1) := by decide +kernel
theorem dX10_page_98 : decode cX10_page 98 = .ok (.getfield 19, 3) := by decide +kernel
theorem dX10_page_101 : decode cX10_page 101 = .ok (.bipush 120, 2) := by decide +kernel
theorem dX10_page_103 : decode cX10_page 103 = .ok (.iload_n 2, 1) := by decide +kernel
theorem dX10_page_104 : decode cX10_page 104 = .ok (.imul, 1) := by decide +kernel
theorem dX10_page_105 : decode cX10_page 105 = .ok (.iload_n 3, 1) := by decide +kernel
theorem dX10_page_106 : decode cX10_page 106 = .ok (.iadd, 1) := by decide +kernel
theorem dX10_page_107 : decode cX10_page 107 = .ok (.aload_n 0, 1) := by decide +kernel
theorem dX10_page_108 : decode cX10_page 108 = .ok (.getfield 7, 3) := by decide +kernel
theorem dX10_page_111 : decode cX10_page 111 = .ok (.iload_n 3, 1) := by decide +kernel
theorem dX10_page_112 : decode cX10_page 112 = .ok (.iaload, 1) := by decide +kernel
theorem dX10_page_113 : decode cX10_page 113 = .ok (.invokestatic 165, 3) := by decide +kernel
theorem dX10_page_116 : decode cX10_page 116 = .ok (.iastore, 1) := by decide +kernel
theorem dX10_page_117 : decode cX10_page 117 = .ok (.iinc 3 1, 3) := by decide +kernel
theorem dX10_page_120 : decode cX10_page 120 = .ok (.goto (-28), 3) := by decide +kernel
theorem dX10_page_123 : decode cX10_page 123 = .ok (.aload_n 0, 1) := by decide +kernel
theorem dX10_page_124 : decode cX10_page 124 = .ok (.getfield 28, 3) := by decide +kernel
theorem dX10_page_127 : decode cX10_page 127 = .ok (.iload_n 2, 1) := by decide +kernel
theorem dX10_page_128 : decode cX10_page 128 = .ok (.iconst (-1), 1) := by decide +kernel
theorem dX10_page_129 : decode cX10_page 129 = .ok (.iastore, 1) := by decide +kernel
theorem dX10_page_130 : decode cX10_page 130 = .ok (.aload_n 0, 1) := by decide +kernel
theorem dX10_page_131 : decode cX10_page 131 = .ok (.getfield 31, 3) := by decide +kernel
theorem dX10_page_134 : decode cX10_page 134 = .ok (.iload_n 2, 1) := by decide +kernel
theorem dX10_page_135 : decode cX10_page 135 = .ok (.iconst (-1), 1) := by decide +kernel
theorem dX10_page_136 : decode cX10_page 136 = .ok (.iastore, 1) := by decide +kernel
theorem dX10_page_137 : decode cX10_page 137 = .ok (.aload_n 0, 1) := by decide +kernel
theorem dX10_page_138 : decode cX10_page 138 = .ok (.getfield 34, 3) := by decide +kernel
theorem dX10_page_141 : decode cX10_page 141 = .ok (.iload_n 2, 1) := by decide +kernel
theorem dX10_page_142 : decode cX10_page 142 = .ok (.iconst (-1), 1) := by decide +kernel
theorem dX10_page_143 : decode cX10_page 143 = .ok (.iastore, 1) := by decide +kernel
theorem dX10_page_144 : decode cX10_page 144 = .ok (.iload_n 2, 1) := by decide +kernel
theorem dX10_page_145 : decode cX10_page 145 = .ok (.ireturn, 1) := by decide +kernel
def f_X10_page_L34 (k68 : Nat → Int32 → Int32 → Hp → Option (Int32 × Hp)) : Nat → Nat → Int32 → Int32 → Hp → Option (Int32 × Hp)
  | 0, _, _, _, _ => none
  | n + 1, l0, l1, l2, h =>
    if l1 ≤ l2 then (
    k68 l0 l1 l2 h) else (
    if l2 = (120 : Int32) then (
    some ((-10 : Int32) - l2, h)) else (
    gd (okOb h l0 10) <|
    vl (gR h l0 0) fun r11 =>
    un r11 fun b12 =>
    gd (okAb h b12 11 l2) <|
    vl (gI h b12 l2.toNatClampNeg) fun x14 =>
    bnd (f_X10_signOf h x14) fun v15 h16 =>
    if 0 ≤ v15 then (
    vl (l2 + (1 : Int32)) fun x18 =>
    f_X10_page_L34 k68 n l0 l1 x18 h16) else (
    some ((-10 : Int32) - l2, h16))))
set_option maxHeartbeats 4000000 in
set_option maxRecDepth 100000 in
theorem t_X10_page_L34 {X : Cx} {d : Nat} {h0 h' : Hp} {v : Int32} {k68 : Nat → Int32 → Int32 → Hp → Option (Int32 × Hp)} (hD : 2 ≤ d) (hk68 : ∀ (z0 : Nat) (z1 : Int32) (z2 : Int32) (h : Hp), k68 z0 z1 z2 h = some (v, h') → EV X mX10_page d h0 (some (.int v)) h' 68 [some (.ref z0), some (.int z1), some (.int z2), none] [] h) : ∀ (n : Nat) (l0 : Nat) (l1 : Int32) (l2 : Int32) (h : Hp), f_X10_page_L34 k68 n l0 l1 l2 h = some (v, h') → EV X mX10_page d h0 (some (.int v)) h' 34 [some (.ref l0), some (.int l1), some (.int l2), none] [] h := by
  intro n
  induction n with
  | zero => intro l0 l1 l2 h H; simp [f_X10_page_L34] at H
  | succ n ih =>
    intro l0 l1 l2 h H
    rw [f_X10_page_L34] at H
    refine ev_iload_n dX10_page_34 rfl rfl ?_
    refine ev_iload_n dX10_page_35 rfl rfl ?_
    refine ev_icmp_ge (tgt := 68) dX10_page_36 (by decide) (fun c8 => ?_) (fun c8 => ?_)
    · rw [if_pos c8] at H
      exact hk68 l0 l1 l2 h H
    · rw [if_neg c8] at H
      refine ev_iload_n dX10_page_39 rfl rfl ?_
      refine ev_bipush (v := (120 : Int32)) dX10_page_40 (by decide) ?_
      refine ev_icmp_eq (tgt := 57) dX10_page_42 (by decide) (fun c9 => ?_) (fun c9 => ?_)
      · rw [if_pos c9] at H
        refine ev_bipush (v := (-10 : Int32)) dX10_page_57 (by decide) ?_
        refine ev_iload_n dX10_page_59 rfl rfl ?_
        refine ev_isub dX10_page_60 ?_
        exact ev_iretx dX10_page_61 rfl rfl H
      · rw [if_neg c9] at H
        refine ev_aload_n dX10_page_45 rfl rfl rfl ?_
        replace H := gd_some H
        obtain ⟨g10, H⟩ := H
        replace H := vl_some H
        obtain ⟨r11, er11, H⟩ := H
        refine ev_getRx dX10_page_46 fgX10_7 rfl (okOb.p g10) er11 ?_
        refine ev_iload_n dX10_page_49 rfl rfl ?_
        replace H := un_some H
        obtain ⟨b12, eb12, H⟩ := H
        subst eb12
        replace H := gd_some H
        obtain ⟨g13, H⟩ := H
        replace H := vl_some H
        obtain ⟨x14, ex14, H⟩ := H
        refine ev_ialdx dX10_page_50 (okAb.p g13) ex14 ?_
        replace H := bnd_some H
        obtain ⟨v15, h16, eh16, H⟩ := H
        have ph16 := (t_X10_signOf (X := X) (d := 1) (by omega) eh16)
        refine ev_callS (as := [.int x14]) dX10_page_51 ph16 ok_X10_signOf (by omega) rfl k5_108 k5_109 rfl (Nat.le_of_ble_eq_true rfl) ?_
        refine ev_if_ge (tgt := 62) dX10_page_54 (by decide) (fun c17 => ?_) (fun c17 => ?_)
        · rw [if_pos c17] at H
          replace H := vl_some H
          obtain ⟨x18, ex18, H⟩ := H
          refine ev_iincx (loc2 := [some (.ref l0), some (.int l1), some (.int x18), none]) dX10_page_62 rfl (by decide) ex18 (by decide) rfl ?_
          refine ev_goto (tgt := 34) dX10_page_65 (by decide) ?_
          exact ih l0 l1 x18 h16 H
        · rw [if_neg c17] at H
          refine ev_bipush (v := (-10 : Int32)) dX10_page_57 (by decide) ?_
          refine ev_iload_n dX10_page_59 rfl rfl ?_
          refine ev_isub dX10_page_60 ?_
          exact ev_iretx dX10_page_61 rfl rfl H
def f_X10_page_L92 (k123 : Nat → Int32 → Int32 → Int32 → Hp → Option (Int32 × Hp)) : Nat → Nat → Int32 → Int32 → Int32 → Hp → Option (Int32 × Hp)
  | 0, _, _, _, _, _ => none
  | n + 1, l0, l1, l2, l3, h =>
    if l1 ≤ l3 then (
    k123 l0 l1 l2 l3 h) else (
    gd (okOb h l0 10) <|
    vl (gR h l0 4) fun r33 =>
    vl (gR h l0 0) fun r34 =>
    un r34 fun b35 =>
    gd (okAb h b35 11 l3) <|
    vl (gI h b35 l3.toNatClampNeg) fun x37 =>
    bnd (f_X10_signOf h x37) fun v38 h39 =>
    un r33 fun b40 =>
    gd (okAb h39 b40 11 (((120 : Int32) * l2) + l3)) <|
    vl (sI h39 b40 (((120 : Int32) * l2) + l3).toNatClampNeg v38) fun h42 =>
    vl (l3 + (1 : Int32)) fun x43 =>
    f_X10_page_L92 k123 n l0 l1 l2 x43 h42)
set_option maxHeartbeats 4000000 in
set_option maxRecDepth 100000 in
theorem t_X10_page_L92 {X : Cx} {d : Nat} {h0 h' : Hp} {v : Int32} {k123 : Nat → Int32 → Int32 → Int32 → Hp → Option (Int32 × Hp)} (hD : 2 ≤ d) (hk123 : ∀ (z0 : Nat) (z1 : Int32) (z2 : Int32) (z3 : Int32) (h : Hp), k123 z0 z1 z2 z3 h = some (v, h') → EV X mX10_page d h0 (some (.int v)) h' 123 [some (.ref z0), some (.int z1), some (.int z2), some (.int z3)] [] h) : ∀ (n : Nat) (l0 : Nat) (l1 : Int32) (l2 : Int32) (l3 : Int32) (h : Hp), f_X10_page_L92 k123 n l0 l1 l2 l3 h = some (v, h') → EV X mX10_page d h0 (some (.int v)) h' 92 [some (.ref l0), some (.int l1), some (.int l2), some (.int l3)] [] h := by
  intro n
  induction n with
  | zero => intro l0 l1 l2 l3 h H; simp [f_X10_page_L92] at H
  | succ n ih =>
    intro l0 l1 l2 l3 h H
    rw [f_X10_page_L92] at H
    refine ev_iload_n dX10_page_92 rfl rfl ?_
    refine ev_iload_n dX10_page_93 rfl rfl ?_
    refine ev_icmp_ge (tgt := 123) dX10_page_94 (by decide) (fun c31 => ?_) (fun c31 => ?_)
    · rw [if_pos c31] at H
      exact hk123 l0 l1 l2 l3 h H
    · rw [if_neg c31] at H
      refine ev_aload_n dX10_page_97 rfl rfl rfl ?_
      replace H := gd_some H
      obtain ⟨g32, H⟩ := H
      replace H := vl_some H
      obtain ⟨r33, er33, H⟩ := H
      refine ev_getRx dX10_page_98 fgX10_19 rfl (okOb.p g32) er33 ?_
      refine ev_bipush (v := (120 : Int32)) dX10_page_101 (by decide) ?_
      refine ev_iload_n dX10_page_103 rfl rfl ?_
      refine ev_imul dX10_page_104 ?_
      refine ev_iload_n dX10_page_105 rfl rfl ?_
      refine ev_iadd dX10_page_106 ?_
      refine ev_aload_n dX10_page_107 rfl rfl rfl ?_
      replace H := vl_some H
      obtain ⟨r34, er34, H⟩ := H
      refine ev_getRx dX10_page_108 fgX10_7 rfl (okOb.p g32) er34 ?_
      refine ev_iload_n dX10_page_111 rfl rfl ?_
      replace H := un_some H
      obtain ⟨b35, eb35, H⟩ := H
      subst eb35
      replace H := gd_some H
      obtain ⟨g36, H⟩ := H
      replace H := vl_some H
      obtain ⟨x37, ex37, H⟩ := H
      refine ev_ialdx dX10_page_112 (okAb.p g36) ex37 ?_
      replace H := bnd_some H
      obtain ⟨v38, h39, eh39, H⟩ := H
      have ph39 := (t_X10_signOf (X := X) (d := 1) (by omega) eh39)
      refine ev_callS (as := [.int x37]) dX10_page_113 ph39 ok_X10_signOf (by omega) rfl k5_108 k5_109 rfl (by simp only [List.map_cons, List.map_nil, rv_cat]; exact Nat.le_of_ble_eq_true rfl) ?_
      replace H := un_some H
      obtain ⟨b40, eb40, H⟩ := H
      subst eb40
      replace H := gd_some H
      obtain ⟨g41, H⟩ := H
      replace H := vl_some H
      obtain ⟨h42, eh42, H⟩ := H
      refine ev_iast dX10_page_116 (okAb.p g41) eh42 ?_
      replace H := vl_some H
      obtain ⟨x43, ex43, H⟩ := H
      refine ev_iincx (loc2 := [some (.ref l0), some (.int l1), some (.int l2), some (.int x43)]) dX10_page_117 rfl (by decide) ex43 (by decide) rfl ?_
      refine ev_goto (tgt := 92) dX10_page_120 (by decide) ?_
      exact ih l0 l1 l2 x43 h42 H
def f_X10_page (h : Hp) (a0 : Nat) : Option (Int32 × Hp) :=
gd (okOb h a0 10) <|
vl (gI h a0 2) fun x2 =>
if x2 = 0 then (
some ((-2 : Int32), h)) else (
vl (gI h a0 11) fun x4 =>
if x4 = (48 : Int32) then (
some ((-4 : Int32), h)) else (
vl (gI h a0 2) fun x6 =>
vl (sI h a0 2 (0 : Int32)) fun h7 =>
f_X10_page_L34 (fun y19 y20 y21 h22 =>
gd (okOb h22 y19 10) <|
vl (gI h22 y19 11) fun x24 =>
vl (gI h22 y19 11) fun x25 =>
vl (sI h22 y19 11 (x25 + (1 : Int32))) fun h26 =>
vl (gR h26 y19 3) fun r27 =>
un r27 fun b28 =>
gd (okAb h26 b28 11 x24) <|
vl (sI h26 b28 x24.toNatClampNeg y20) fun h30 =>
f_X10_page_L92 (fun y44 y45 y46 y47 h48 =>
gd (okOb h48 y44 10) <|
vl (gR h48 y44 7) fun r50 =>
un r50 fun b51 =>
gd (okAb h48 b51 11 y46) <|
vl (sI h48 b51 y46.toNatClampNeg (-1 : Int32)) fun h53 =>
vl (gR h53 y44 8) fun r54 =>
un r54 fun b55 =>
gd (okAb h53 b55 11 y46) <|
vl (sI h53 b55 y46.toNatClampNeg (-1 : Int32)) fun h57 =>
vl (gR h57 y44 9) fun r58 =>
un r58 fun b59 =>
gd (okAb h57 b59 11 y46) <|
vl (sI h57 b59 y46.toNatClampNeg (-1 : Int32)) fun h61 =>
some (y46, h61)) 6000 y19 y20 x24 (0 : Int32) h30) 6000 a0 x6 (0 : Int32) h7))
set_option maxHeartbeats 4000000 in
set_option maxRecDepth 100000 in
theorem t_X10_page {X : Cx} {d : Nat} {h : Hp} {a0 : Nat} {v : Int32} {h' : Hp} (hD : 2 ≤ d) (H : f_X10_page h a0 = some (v, h')) : PM X mX10_page d [.ref a0] h (some (.int v)) h' := by
  unfold f_X10_page at H
  refine PM.of (loc := [some (.ref a0), none, none, none]) (by decide) rfl (Nat.le_of_ble_eq_true rfl) ?_
  refine ev_aload_n dX10_page_0 rfl rfl rfl ?_
  replace H := gd_some H
  obtain ⟨g1, H⟩ := H
  replace H := vl_some H
  obtain ⟨x2, ex2, H⟩ := H
  refine ev_getIx dX10_page_1 fgX10_155 rfl (okOb.p g1) ex2 ?_
  refine ev_if_ne (tgt := 10) dX10_page_4 (by decide) (fun c3 => ?_) (fun c3 => ?_)
  · rw [if_neg c3] at H
    refine ev_aload_n dX10_page_10 rfl rfl rfl ?_
    replace H := vl_some H
    obtain ⟨x4, ex4, H⟩ := H
    refine ev_getIx dX10_page_11 fgX10_141 rfl (okOb.p g1) ex4 ?_
    refine ev_bipush (v := (48 : Int32)) dX10_page_14 (by decide) ?_
    refine ev_icmp_ne (tgt := 22) dX10_page_16 (by decide) (fun c5 => ?_) (fun c5 => ?_)
    · rw [if_neg c5] at H
      refine ev_aload_n dX10_page_22 rfl rfl rfl ?_
      replace H := vl_some H
      obtain ⟨x6, ex6, H⟩ := H
      refine ev_getIx dX10_page_23 fgX10_155 rfl (okOb.p g1) ex6 ?_
      refine ev_istore_n (loc2 := [some (.ref a0), some (.int x6), none, none]) dX10_page_26 rfl (by decide) rfl ?_
      refine ev_aload_n dX10_page_27 rfl rfl rfl ?_
      refine ev_iconst (v := (0 : Int32)) dX10_page_28 (by decide) ?_
      replace H := vl_some H
      obtain ⟨h7, eh7, H⟩ := H
      refine ev_putI dX10_page_29 fdX10_155 rfl rfl rfl (okOb.p g1) eh7 ?_
      refine ev_iconst (v := (0 : Int32)) dX10_page_32 (by decide) ?_
      refine ev_istore_n (loc2 := [some (.ref a0), some (.int x6), some (.int (0 : Int32)), none]) dX10_page_33 rfl (by decide) rfl ?_
      refine t_X10_page_L34 hD ?_ 6000 a0 x6 (0 : Int32) h7 H
      · intro y19 y20 y21 h22 H
        refine ev_aload_n dX10_page_68 rfl rfl rfl ?_
        replace H := gd_some H
        obtain ⟨g23, H⟩ := H
        replace H := vl_some H
        obtain ⟨x24, ex24, H⟩ := H
        refine ev_getIx dX10_page_69 fgX10_141 rfl (okOb.p g23) ex24 ?_
        refine ev_istore_n (loc2 := [some (.ref y19), some (.int y20), some (.int x24), none]) dX10_page_72 rfl (by decide) rfl ?_
        refine ev_aload_n dX10_page_73 rfl rfl rfl ?_
        refine ev_dup dX10_page_74 rfl ?_
        replace H := vl_some H
        obtain ⟨x25, ex25, H⟩ := H
        refine ev_getIx dX10_page_75 fgX10_141 rfl (okOb.p g23) ex25 ?_
        refine ev_iconst (v := (1 : Int32)) dX10_page_78 (by decide) ?_
        refine ev_iadd dX10_page_79 ?_
        replace H := vl_some H
        obtain ⟨h26, eh26, H⟩ := H
        refine ev_putI dX10_page_80 fdX10_141 rfl rfl rfl (okOb.p g23) eh26 ?_
        refine ev_aload_n dX10_page_83 rfl rfl rfl ?_
        replace H := vl_some H
        obtain ⟨r27, er27, H⟩ := H
        refine ev_getRx dX10_page_84 fgX10_16 rfl (okO_sI eh26 (okOb.p g23)) er27 ?_
        refine ev_iload_n dX10_page_87 rfl rfl ?_
        refine ev_iload_n dX10_page_88 rfl rfl ?_
        replace H := un_some H
        obtain ⟨b28, eb28, H⟩ := H
        subst eb28
        replace H := gd_some H
        obtain ⟨g29, H⟩ := H
        replace H := vl_some H
        obtain ⟨h30, eh30, H⟩ := H
        refine ev_iast dX10_page_89 (okAb.p g29) eh30 ?_
        refine ev_iconst (v := (0 : Int32)) dX10_page_90 (by decide) ?_
        refine ev_istore_n (loc2 := [some (.ref y19), some (.int y20), some (.int x24), some (.int (0 : Int32))]) dX10_page_91 rfl (by decide) rfl ?_
        refine t_X10_page_L92 hD ?_ 6000 y19 y20 x24 (0 : Int32) h30 H
        · intro y44 y45 y46 y47 h48 H
          refine ev_aload_n dX10_page_123 rfl rfl rfl ?_
          replace H := gd_some H
          obtain ⟨g49, H⟩ := H
          replace H := vl_some H
          obtain ⟨r50, er50, H⟩ := H
          refine ev_getRx dX10_page_124 fgX10_28 rfl (okOb.p g49) er50 ?_
          refine ev_iload_n dX10_page_127 rfl rfl ?_
          refine ev_iconst (v := (-1 : Int32)) dX10_page_128 (by decide) ?_
          replace H := un_some H
          obtain ⟨b51, eb51, H⟩ := H
          subst eb51
          replace H := gd_some H
          obtain ⟨g52, H⟩ := H
          replace H := vl_some H
          obtain ⟨h53, eh53, H⟩ := H
          refine ev_iast dX10_page_129 (okAb.p g52) eh53 ?_
          refine ev_aload_n dX10_page_130 rfl rfl rfl ?_
          replace H := vl_some H
          obtain ⟨r54, er54, H⟩ := H
          refine ev_getRx dX10_page_131 fgX10_31 rfl (okO_sI eh53 (okOb.p g49)) er54 ?_
          refine ev_iload_n dX10_page_134 rfl rfl ?_
          refine ev_iconst (v := (-1 : Int32)) dX10_page_135 (by decide) ?_
          replace H := un_some H
          obtain ⟨b55, eb55, H⟩ := H
          subst eb55
          replace H := gd_some H
          obtain ⟨g56, H⟩ := H
          replace H := vl_some H
          obtain ⟨h57, eh57, H⟩ := H
          refine ev_iast dX10_page_136 (okAb.p g56) eh57 ?_
          refine ev_aload_n dX10_page_137 rfl rfl rfl ?_
          replace H := vl_some H
          obtain ⟨r58, er58, H⟩ := H
          refine ev_getRx dX10_page_138 fgX10_34 rfl (okO_sI eh57 (okO_sI eh53 (okOb.p g49))) er58 ?_
          refine ev_iload_n dX10_page_141 rfl rfl ?_
          refine ev_iconst (v := (-1 : Int32)) dX10_page_142 (by decide) ?_
          replace H := un_some H
          obtain ⟨b59, eb59, H⟩ := H
          subst eb59
          replace H := gd_some H
          obtain ⟨g60, H⟩ := H
          replace H := vl_some H
          obtain ⟨h61, eh61, H⟩ := H
          refine ev_iast dX10_page_143 (okAb.p g60) eh61 ?_
          refine ev_iload_n dX10_page_144 rfl rfl ?_
          exact ev_iretx dX10_page_145 rfl rfl H
    · rw [if_pos c5] at H
      refine ev_bipush (v := (-4 : Int32)) dX10_page_19 (by decide) ?_
      exact ev_iretx dX10_page_21 rfl rfl H
  · rw [if_pos c3] at H
    refine ev_bipush (v := (-2 : Int32)) dX10_page_7 (by decide) ?_
    exact ev_iretx dX10_page_9 rfl rfl H

theorem dX10_lettersOf_0 : decode cX10_lettersOf 0 = .ok (.iconst 0, 1) := by decide +kernel
theorem dX10_lettersOf_1 : decode cX10_lettersOf 1 = .ok (.istore_n 2, 1) := by decide +kernel
theorem dX10_lettersOf_2 : decode cX10_lettersOf 2 = .ok (.iconst 0, 1) := by decide +kernel
theorem dX10_lettersOf_3 : decode cX10_lettersOf 3 = .ok (.istore_n 3, 1) := by decide +kernel
theorem dX10_lettersOf_4 : decode cX10_lettersOf 4 = .ok (.iload_n 3, 1) := by decide +kernel
theorem dX10_lettersOf_5 : decode cX10_lettersOf 5 = .ok (.aload_n 0, 1) := by decide +kernel
theorem dX10_lettersOf_6 : decode cX10_lettersOf 6 = .ok (.getfield 16, 3) := by decide +kernel
theorem dX10_lettersOf_9 : decode cX10_lettersOf 9 = .ok (.iload_n 1, 1) := by decide +kernel
theorem dX10_lettersOf_10 : decode cX10_lettersOf 10 = .ok (.iaload, 1) := by decide +kernel
theorem dX10_lettersOf_11 : decode cX10_lettersOf 11 = .ok (.if_icmp .ge 34, 3) := by decide +kernel
theorem dX10_lettersOf_14 : decode cX10_lettersOf 14 = .ok (.iload_n 2, 1) := by decide +kernel
theorem dX10_lettersOf_15 : decode cX10_lettersOf 15 = .ok (.aload_n 0, 1) := by decide +kernel
theorem dX10_lettersOf_16 : decode cX10_lettersOf 16 = .ok (.getfield 19, 3) := by decide +kernel
theorem dX10_lettersOf_19 : decode cX10_lettersOf 19 = .ok (.bipush 120, 2) := by decide +kernel
theorem dX10_lettersOf_21 : decode cX10_lettersOf 21 = .ok (.iload_n 1, 1) := by decide +kernel
theorem dX10_lettersOf_22 : decode cX10_lettersOf 22 = .ok (.imul, 1) := by decide +kernel
theorem dX10_lettersOf_23 : decode cX10_lettersOf 23 = .ok (.iload_n 3, 1) := by decide +kernel
theorem dX10_lettersOf_24 : decode cX10_lettersOf 24 = .ok (.iadd, 1) := by decide +kernel
theorem dX10_lettersOf_25 : decode cX10_lettersOf 25 = .ok (.iaload, 1) := by decide +kernel
theorem dX10_lettersOf_26 : decode cX10_lettersOf 26 = .ok (.invokestatic 160, 3) := by decide +kernel
theorem dX10_lettersOf_29 : decode cX10_lettersOf 29 = .ok (.ifCond .eq 7, 3) := by decide +kernel
theorem dX10_lettersOf_32 : decode cX10_lettersOf 32 = .ok (.iconst 1, 1) := by decide +kernel
theorem dX10_lettersOf_33 : decode cX10_lettersOf 33 = .ok (.goto 4, 3) := by decide +kernel
theorem dX10_lettersOf_36 : decode cX10_lettersOf 36 = .ok (.iconst 0, 1) := by decide +kernel
theorem dX10_lettersOf_37 : decode cX10_lettersOf 37 = .ok (.iadd, 1) := by decide +kernel
theorem dX10_lettersOf_38 : decode cX10_lettersOf 38 = .ok (.istore_n 2, 1) := by decide +kernel
theorem dX10_lettersOf_39 : decode cX10_lettersOf 39 = .ok (.iinc 3 1, 3) := by decide +kernel
theorem dX10_lettersOf_42 : decode cX10_lettersOf 42 = .ok (.goto (-38), 3) := by decide +kernel
theorem dX10_lettersOf_45 : decode cX10_lettersOf 45 = .ok (.iload_n 2, 1) := by decide +kernel
theorem dX10_lettersOf_46 : decode cX10_lettersOf 46 = .ok (.ireturn, 1) := by decide +kernel
def f_X10_lettersOf_L4 : Nat → Nat → Int32 → Int32 → Int32 → Hp → Option (Int32 × Hp)
  | 0, _, _, _, _, _ => none
  | n + 1, l0, l1, l2, l3, h =>
    gd (okOb h l0 10) <|
    vl (gR h l0 3) fun r2 =>
    un r2 fun b3 =>
    gd (okAb h b3 11 l1) <|
    vl (gI h b3 l1.toNatClampNeg) fun x5 =>
    if x5 ≤ l3 then (
    some (l2, h)) else (
    vl (gR h l0 4) fun r7 =>
    un r7 fun b8 =>
    gd (okAb h b8 11 (((120 : Int32) * l1) + l3)) <|
    vl (gI h b8 (((120 : Int32) * l1) + l3).toNatClampNeg) fun x10 =>
    bnd (f_X10_isLetter h x10) fun v11 h12 =>
    if v11 = 0 then (
    vl (l2 + (0 : Int32)) fun x14 =>
    vl (l3 + (1 : Int32)) fun x15 =>
    f_X10_lettersOf_L4 n l0 l1 x14 x15 h12) else (
    vl (l2 + (1 : Int32)) fun x16 =>
    vl (l3 + (1 : Int32)) fun x17 =>
    f_X10_lettersOf_L4 n l0 l1 x16 x17 h12))
set_option maxHeartbeats 4000000 in
set_option maxRecDepth 100000 in
theorem t_X10_lettersOf_L4 {X : Cx} {d : Nat} {h0 h' : Hp} {v : Int32} (hD : 2 ≤ d) : ∀ (n : Nat) (l0 : Nat) (l1 : Int32) (l2 : Int32) (l3 : Int32) (h : Hp), f_X10_lettersOf_L4 n l0 l1 l2 l3 h = some (v, h') → EV X mX10_lettersOf d h0 (some (.int v)) h' 4 [some (.ref l0), some (.int l1), some (.int l2), some (.int l3)] [] h := by
  intro n
  induction n with
  | zero => intro l0 l1 l2 l3 h H; simp [f_X10_lettersOf_L4] at H
  | succ n ih =>
    intro l0 l1 l2 l3 h H
    rw [f_X10_lettersOf_L4] at H
    refine ev_iload_n dX10_lettersOf_4 rfl rfl ?_
    refine ev_aload_n dX10_lettersOf_5 rfl rfl rfl ?_
    replace H := gd_some H
    obtain ⟨g1, H⟩ := H
    replace H := vl_some H
    obtain ⟨r2, er2, H⟩ := H
    refine ev_getRx dX10_lettersOf_6 fgX10_16 rfl (okOb.p g1) er2 ?_
    refine ev_iload_n dX10_lettersOf_9 rfl rfl ?_
    replace H := un_some H
    obtain ⟨b3, eb3, H⟩ := H
    subst eb3
    replace H := gd_some H
    obtain ⟨g4, H⟩ := H
    replace H := vl_some H
    obtain ⟨x5, ex5, H⟩ := H
    refine ev_ialdx dX10_lettersOf_10 (okAb.p g4) ex5 ?_
    refine ev_icmp_ge (tgt := 45) dX10_lettersOf_11 (by decide) (fun c6 => ?_) (fun c6 => ?_)
    · rw [if_pos c6] at H
      refine ev_iload_n dX10_lettersOf_45 rfl rfl ?_
      exact ev_iretx dX10_lettersOf_46 rfl rfl H
    · rw [if_neg c6] at H
      refine ev_iload_n dX10_lettersOf_14 rfl rfl ?_
      refine ev_aload_n dX10_lettersOf_15 rfl rfl rfl ?_
      replace H := vl_some H
      obtain ⟨r7, er7, H⟩ := H
      refine ev_getRx dX10_lettersOf_16 fgX10_19 rfl (okOb.p g1) er7 ?_
      refine ev_bipush (v := (120 : Int32)) dX10_lettersOf_19 (by decide) ?_
      refine ev_iload_n dX10_lettersOf_21 rfl rfl ?_
      refine ev_imul dX10_lettersOf_22 ?_
      refine ev_iload_n dX10_lettersOf_23 rfl rfl ?_
      refine ev_iadd dX10_lettersOf_24 ?_
      replace H := un_some H
      obtain ⟨b8, eb8, H⟩ := H
      subst eb8
      replace H := gd_some H
      obtain ⟨g9, H⟩ := H
      replace H := vl_some H
      obtain ⟨x10, ex10, H⟩ := H
      refine ev_ialdx dX10_lettersOf_25 (okAb.p g9) ex10 ?_
      replace H := bnd_some H
      obtain ⟨v11, h12, eh12, H⟩ := H
      have ph12 := (t_X10_isLetter (X := X) (d := 1) (by omega) eh12)
      refine ev_callS (as := [.int x10]) dX10_lettersOf_26 ph12 ok_X10_isLetter (by omega) rfl k5_96 k5_97 rfl (Nat.le_of_ble_eq_true rfl) ?_
      refine ev_if_eq (tgt := 36) dX10_lettersOf_29 (by decide) (fun c13 => ?_) (fun c13 => ?_)
      · rw [if_pos c13] at H
        refine ev_iconst (v := (0 : Int32)) dX10_lettersOf_36 (by decide) ?_
        refine ev_iadd dX10_lettersOf_37 ?_
        replace H := vl_some H
        obtain ⟨x14, ex14, H⟩ := H
        refine ev_istore_nx (loc2 := [some (.ref l0), some (.int l1), some (.int x14), some (.int l3)]) dX10_lettersOf_38 rfl (by decide) ex14 rfl ?_
        replace H := vl_some H
        obtain ⟨x15, ex15, H⟩ := H
        refine ev_iincx (loc2 := [some (.ref l0), some (.int l1), some (.int x14), some (.int x15)]) dX10_lettersOf_39 rfl (by decide) ex15 (by decide) rfl ?_
        refine ev_goto (tgt := 4) dX10_lettersOf_42 (by decide) ?_
        exact ih l0 l1 x14 x15 h12 H
      · rw [if_neg c13] at H
        refine ev_iconst (v := (1 : Int32)) dX10_lettersOf_32 (by decide) ?_
        refine ev_goto (tgt := 37) dX10_lettersOf_33 (by decide) ?_
        refine ev_iadd dX10_lettersOf_37 ?_
        replace H := vl_some H
        obtain ⟨x16, ex16, H⟩ := H
        refine ev_istore_nx (loc2 := [some (.ref l0), some (.int l1), some (.int x16), some (.int l3)]) dX10_lettersOf_38 rfl (by decide) ex16 rfl ?_
        replace H := vl_some H
        obtain ⟨x17, ex17, H⟩ := H
        refine ev_iincx (loc2 := [some (.ref l0), some (.int l1), some (.int x16), some (.int x17)]) dX10_lettersOf_39 rfl (by decide) ex17 (by decide) rfl ?_
        refine ev_goto (tgt := 4) dX10_lettersOf_42 (by decide) ?_
        exact ih l0 l1 x16 x17 h12 H
def f_X10_lettersOf (h : Hp) (a0 : Nat) (a1 : Int32) : Option (Int32 × Hp) :=
f_X10_lettersOf_L4 6000 a0 a1 (0 : Int32) (0 : Int32) h
set_option maxHeartbeats 4000000 in
set_option maxRecDepth 100000 in
theorem t_X10_lettersOf {X : Cx} {d : Nat} {h : Hp} {a0 : Nat} {a1 : Int32} {v : Int32} {h' : Hp} (hD : 2 ≤ d) (H : f_X10_lettersOf h a0 a1 = some (v, h')) : PM X mX10_lettersOf d [.ref a0, .int a1] h (some (.int v)) h' := by
  unfold f_X10_lettersOf at H
  refine PM.of (loc := [some (.ref a0), some (.int a1), none, none]) (by decide) rfl (Nat.le_of_ble_eq_true rfl) ?_
  refine ev_iconst (v := (0 : Int32)) dX10_lettersOf_0 (by decide) ?_
  refine ev_istore_n (loc2 := [some (.ref a0), some (.int a1), some (.int (0 : Int32)), none]) dX10_lettersOf_1 rfl (by decide) rfl ?_
  refine ev_iconst (v := (0 : Int32)) dX10_lettersOf_2 (by decide) ?_
  refine ev_istore_n (loc2 := [some (.ref a0), some (.int a1), some (.int (0 : Int32)), some (.int (0 : Int32))]) dX10_lettersOf_3 rfl (by decide) rfl ?_
  refine t_X10_lettersOf_L4 hD  6000 a0 a1 (0 : Int32) (0 : Int32) h H

theorem dX10_set_0 : decode cX10_set 0 = .ok (.aload_n 0, 1) := by decide +kernel
theorem dX10_set_1 : decode cX10_set 1 = .ok (.iload_n 1, 1) := by decide +kernel
theorem dX10_set_2 : decode cX10_set 2 = .ok (.invokevirtual 145, 3) := by decide +kernel
theorem dX10_set_5 : decode cX10_set 5 = .ok (.ifCond .eq 10, 3) := by decide +kernel
theorem dX10_set_8 : decode cX10_set 8 = .ok (.iload_n 2, 1) := by decide +kernel
theorem dX10_set_9 : decode cX10_set 9 = .ok (.invokestatic 169, 3) := by decide +kernel
theorem dX10_set_12 : decode cX10_set 12 = .ok (.ifCond .ne 5, 3) := by decide +kernel
theorem dX10_set_15 : decode cX10_set 15 = .ok (.iconst (-1), 1) := by decide +kernel
theorem dX10_set_16 : decode cX10_set 16 = .ok (.ireturn, 1) := by decide +kernel
theorem dX10_set_17 : decode cX10_set 17 = .ok (.aload_n 0, 1) := by decide +kernel
theorem dX10_set_18 : decode cX10_set 18 = .ok (.getfield 28, 3) := by decide +kernel
theorem dX10_set_21 : decode cX10_set 21 = .ok (.iload_n 1, 1) := by decide +kernel
theorem dX10_set_22 : decode cX10_set 22 = .ok (.iaload, 1) := by decide +kernel
theorem dX10_set_23 : decode cX10_set 23 = .ok (.ifCond .lt 6, 3) := by decide +kernel
theorem dX10_set_26 : decode cX10_set 26 = .ok (.bipush (-3), 2) := by decide +kernel
theorem dX10_set_28 : decode cX10_set 28 = .ok (.ireturn, 1) := by decide +kernel
theorem dX10_set_29 : decode cX10_set 29 = .ok (.iconst 0, 1) := by decide +kernel
theorem dX10_set_30 : decode cX10_set 30 = .ok (.istore_n 3, 1) := by decide +kernel
theorem dX10_set_31 : decode cX10_set 31 = .ok (.iload_n 3, 1) := by decide +kernel
theorem dX10_set_32 : decode cX10_set 32 = .ok (.bipush 26, 2) := by decide +kernel
theorem dX10_set_34 : decode cX10_set 34 = .ok (.if_icmp .ge 74, 3) := by decide +kernel
theorem dX10_set_37 : decode cX10_set 37 = .ok (.iconst 0, 1) := by decide +kernel
theorem dX10_set_38 : decode cX10_set 38 = .ok (.istore 4, 2) := by decide +kernel
theorem dX10_set_40 : decode cX10_set 40 = .ok (.iconst 0, 1) := by decide +kernel
theorem dX10_set_41 : decode cX10_set 41 = .ok (.istore 5, 2) := by decide +kernel
theorem dX10_set_43 : decode cX10_set 43 = .ok (.iload 5, 2) := by decide +kernel
theorem dX10_set_45 : decode cX10_set 45 = .ok (.aload_n 0, 1) := by decide +kernel
theorem dX10_set_46 : decode cX10_set 46 = .ok (.getfield 16, 3) := by decide +kernel
theorem dX10_set_49 : decode cX10_set 49 = .ok (.iload_n 1, 1) := by decide +kernel
theorem dX10_set_50 : decode cX10_set 50 = .ok (.iaload, 1) := by decide +kernel
theorem dX10_set_51 : decode cX10_set 51 = .ok (.if_icmp .ge 35, 3) := by decide +kernel
theorem dX10_set_54 : decode cX10_set 54 = .ok (.iload 4, 2) := by decide +kernel
theorem dX10_set_56 : decode cX10_set 56 = .ok (.aload_n 0, 1) := by decide +kernel
theorem dX10_set_57 : decode cX10_set 57 = .ok (.getfield 19, 3) := by decide +kernel
theorem dX10_set_60 : decode cX10_set 60 = .ok (.bipush 120, 2) := by decide +kernel
theorem dX10_set_62 : decode cX10_set 62 = .ok (.iload_n 1, 1) := by decide +kernel
theorem dX10_set_63 : decode cX10_set 63 = .ok (.imul, 1) := by decide +kernel
theorem dX10_set_64 : decode cX10_set 64 = .ok (.iload 5, 2) := by decide +kernel
theorem dX10_set_66 : decode cX10_set 66 = .ok (.iadd, 1) := by decide +kernel
theorem dX10_set_67 : decode cX10_set 67 = .ok (.iaload, 1) := by decide +kernel
theorem dX10_set_68 : decode cX10_set 68 = .ok (.iload_n 3, 1) := by decide +kernel
theorem dX10_set_69 : decode cX10_set 69 = .ok (.if_icmp .ne 7, 3) := by decide +kernel
theorem dX10_set_72 : decode cX10_set 72 = .ok (.iconst 1, 1) := by decide +kernel
theorem dX10_set_73 : decode cX10_set 73 = .ok (.goto 4, 3) := by decide +kernel
theorem dX10_set_76 : decode cX10_set 76 = .ok (.iconst 0, 1) := by decide +kernel
theorem dX10_set_77 : decode cX10_set 77 = .ok (.iadd, 1) := by decide +kernel
theorem dX10_set_78 : decode cX10_set 78 = .ok (.istore 4, 2) := by decide +kernel
theorem dX10_set_80 : decode cX10_set 80 = .ok (.iinc 5 1, 3) := by decide +kernel
theorem dX10_set_83 : decode cX10_set 83 = .ok (.goto (-40), 3) := by decide +kernel
theorem dX10_set_86 : decode cX10_set 86 = .ok (.iload 4, 2) := by decide +kernel
theorem dX10_set_88 : decode cX10_set 88 = .ok (.aload_n 0, 1) := by decide +kernel
theorem dX10_set_89 : decode cX10_set 89 = .ok (.getfield 13, 3) := by decide +kernel
theorem dX10_set_92 : decode cX10_set 92 = .ok (.iload_n 3, 1) := by decide +kernel
theorem dX10_set_93 : decode cX10_set 93 = .ok (.iaload, 1) := by decide +kernel
theorem dX10_set_94 : decode cX10_set 94 = .ok (.if_icmp .le 8, 3) := by decide +kernel
theorem dX10_set_97 : decode cX10_set 97 = .ok (.bipush (-10), 2) := by decide +kernel
theorem dX10_set_99 : decode cX10_set 99 = .ok (.iload_n 3, 1) := by decide +kernel
theorem dX10_set_100 : decode cX10_set 100 = .ok (.isub, 1) := by decide +kernel
theorem dX10_set_101 : decode cX10_set 101 = .ok (.ireturn, 1) := by decide +kernel
theorem dX10_set_102 : decode cX10_set 102 = .ok (.iinc 3 1, 3) := by decide +kernel
theorem dX10_set_105 : decode cX10_set 105 = .ok (.goto (-74), 3) := by decide +kernel
theorem dX10_set_108 : decode cX10_set 108 = .ok (.iconst 0, 1) := by decide +kernel
theorem dX10_set_109 : decode cX10_set 109 = .ok (.istore_n 3, 1) := by decide +kernel
theorem dX10_set_110 : decode cX10_set 110 = .ok (.iload_n 3, 1) := by decide +kernel
theorem dX10_set_111 : decode cX10_set 111 = .ok (.aload_n 0, 1) := by decide +kernel
theorem dX10_set_112 : decode cX10_set 112 = .ok (.getfield 16, 3) := by decide +kernel
theorem dX10_set_115 : decode cX10_set 115 = .ok (.iload_n 1, 1) := by decide +kernel
theorem dX10_set_116 : decode cX10_set 116 = .ok (.iaload, 1) := by decide +kernel
theorem dX10_set_117 : decode cX10_set 117 = .ok (.if_icmp .ge 54, 3) := by decide +kernel
theorem dX10_set_120 : decode cX10_set 120 = .ok (.aload_n 0, 1) := by decide +kernel
theorem dX10_set_121 : decode cX10_set 121 = .ok (.getfield 19, 3) := by decide +kernel
theorem dX10_set_124 : decode cX10_set 124 = .ok (.bipush 120, 2) := by decide +kernel
theorem dX10_set_126 : decode cX10_set 126 = .ok (.iload_n 1, 1) := by decide +kernel
theorem dX10_set_127 : decode cX10_set 127 = .ok (.imul, 1) := by decide +kernel
theorem dX10_set_128 : decode cX10_set 128 = .ok (.iload_n 3, 1) := by decide +kernel
theorem dX10_set_129 : decode cX10_set 129 = .ok (.iadd, 1) := by decide +kernel
theorem dX10_set_130 : decode cX10_set 130 = .ok (.iaload, 1) := by decide +kernel
theorem dX10_set_131 : decode cX10_set 131 = .ok (.istore 4, 2) := by decide +kernel
theorem dX10_set_133 : decode cX10_set 133 = .ok (.aload_n 0, 1) := by decide +kernel
theorem dX10_set_134 : decode cX10_set 134 = .ok (.getfield 22, 3) := by decide +kernel
theorem dX10_set_137 : decode cX10_set 137 = .ok (.bipush 120, 2) := by decide +kernel
theorem dX10_set_139 : decode cX10_set 139 = .ok (.iload_n 1, 1) := by decide +kernel
theorem dX10_set_140 : decode cX10_set 140 = .ok (.imul, 1) := by decide +kernel
theorem dX10_set_141 : decode cX10_set 141 = .ok (.iload_n 3, 1) := by decide +kernel
theorem dX10_set_142 : decode cX10_set 142 = .ok (.iadd, 1) := by decide +kernel
theorem dX10_set_143 : decode cX10_set 143 = .ok (.iload 4, 2) := by decide +kernel
theorem dX10_set_145 : decode cX10_set 145 = .ok (.iastore, 1) := by decide +kernel
theorem dX10_set_146 : decode cX10_set 146 = .ok (.iload 4, 2) := by decide +kernel
theorem dX10_set_148 : decode cX10_set 148 = .ok (.invokestatic 160, 3) := by decide +kernel
theorem dX10_set_151 : decode cX10_set 151 = .ok (.ifCond .eq 14, 3) := by decide +kernel
theorem dX10_set_154 : decode cX10_set 154 = .ok (.aload_n 0, 1) := by decide +kernel
theorem dX10_set_155 : decode cX10_set 155 = .ok (.getfield 13, 3) := by decide +kernel
theorem dX10_set_158 : decode cX10_set 158 = .ok (.iload 4, 2) := by decide +kernel
theorem dX10_set_160 : decode cX10_set 160 = .ok (.dup2, 1) := by decide +kernel
theorem dX10_set_161 : decode cX10_set 161 = .ok (.iaload, 1) := by decide +kernel
theorem dX10_set_162 : decode cX10_set 162 = .ok (.iconst 1, 1) := by decide +kernel
theorem dX10_set_163 : decode cX10_set 163 = .ok (.isub, 1) := by decide +kernel
theorem dX10_set_164 : decode cX10_set 164 = .ok (.iastore, 1) := by decide +kernel
theorem dX10_set_165 : decode cX10_set 165 = .ok (.iinc 3 1, 3) := by decide +kernel
theorem dX10_set_168 : decode cX10_set 168 = .ok (.goto (-58), 3) := by decide +kernel
theorem dX10_set_171 : decode cX10_set 171 = .ok (.aload_n 0, 1) := by decide +kernel
theorem dX10_set_172 : decode cX10_set 172 = .ok (.getfield 28, 3) := by decide +kernel
theorem dX10_set_175 : decode cX10_set 175 = .ok (.iload_n 1, 1) := by decide +kernel
theorem dX10_set_176 : decode cX10_set 176 = .ok (.iload_n 2, 1) := by decide +kernel
theorem dX10_set_177 : decode cX10_set 177 = .ok (.iastore, 1) := by decide +kernel
theorem dX10_set_178 : decode cX10_set 178 = .ok (.aload_n 0, 1) := by decide +kernel
theorem dX10_set_179 : decode cX10_set 179 = .ok (.getfield 40, 3) := by decide +kernel
theorem dX10_set_182 : decode cX10_set 182 = .ok (.iload_n 2, 1) := by decide +kernel
theorem dX10_set_183 : decode cX10_set 183 = .ok (.dup2, 1) := by decide +kernel
theorem dX10_set_184 : decode cX10_set 184 = .ok (.iaload, 1) := by decide +kernel
theorem dX10_set_185 : decode cX10_set 185 = .ok (.aload_n 0, 1) := by decide +kernel
theorem dX10_set_186 : decode cX10_set 186 = .ok (.iload_n 1, 1) := by decide +kernel
theorem dX10_set_187 : decode cX10_set 187 = .ok (.invokevirtual 172, 3) := by decide +kernel
theorem dX10_set_190 : decode cX10_set 190 = .ok (.iadd, 1) := by decide +kernel
theorem dX10_set_191 : decode cX10_set 191 = .ok (.iastore, 1) := by decide +kernel
theorem dX10_set_192 : decode cX10_set 192 = .ok (.aload_n 0, 1) := by decide +kernel
theorem dX10_set_193 : decode cX10_set 193 = .ok (.iload_n 1, 1) := by decide +kernel
theorem dX10_set_194 : decode cX10_set 194 = .ok (.invokevirtual 172, 3) := by decide +kernel
theorem dX10_set_197 : decode cX10_set 197 = .ok (.ireturn, 1) := by decide +kernel
def f_X10_set_L43 (k86 : Nat → Int32 → Int32 → Int32 → Int32 → Int32 → Hp → Option (Int32 × Hp)) : Nat → Nat → Int32 → Int32 → Int32 → Int32 → Int32 → Hp → Option (Int32 × Hp)
  | 0, _, _, _, _, _, _, _ => none
  | n + 1, l0, l1, l2, l3, l4, l5, h =>
    gd (okOb h l0 10) <|
    vl (gR h l0 3) fun r15 =>
    un r15 fun b16 =>
    gd (okAb h b16 11 l1) <|
    vl (gI h b16 l1.toNatClampNeg) fun x18 =>
    if x18 ≤ l5 then (
    k86 l0 l1 l2 l3 l4 l5 h) else (
    vl (gR h l0 4) fun r20 =>
    un r20 fun b21 =>
    gd (okAb h b21 11 (((120 : Int32) * l1) + l5)) <|
    vl (gI h b21 (((120 : Int32) * l1) + l5).toNatClampNeg) fun x23 =>
    if x23 = l3 then (
    vl (l4 + (1 : Int32)) fun x27 =>
    vl (l5 + (1 : Int32)) fun x28 =>
    f_X10_set_L43 k86 n l0 l1 l2 l3 x27 x28 h) else (
    vl (l4 + (0 : Int32)) fun x25 =>
    vl (l5 + (1 : Int32)) fun x26 =>
    f_X10_set_L43 k86 n l0 l1 l2 l3 x25 x26 h))
set_option maxHeartbeats 4000000 in
set_option maxRecDepth 100000 in
theorem t_X10_set_L43 {X : Cx} {d : Nat} {h0 h' : Hp} {v : Int32} {k86 : Nat → Int32 → Int32 → Int32 → Int32 → Int32 → Hp → Option (Int32 × Hp)} (hD : 3 ≤ d) (hk86 : ∀ (z0 : Nat) (z1 : Int32) (z2 : Int32) (z3 : Int32) (z4 : Int32) (z5 : Int32) (h : Hp), k86 z0 z1 z2 z3 z4 z5 h = some (v, h') → EV X mX10_set d h0 (some (.int v)) h' 86 [some (.ref z0), some (.int z1), some (.int z2), some (.int z3), some (.int z4), some (.int z5)] [] h) : ∀ (n : Nat) (l0 : Nat) (l1 : Int32) (l2 : Int32) (l3 : Int32) (l4 : Int32) (l5 : Int32) (h : Hp), f_X10_set_L43 k86 n l0 l1 l2 l3 l4 l5 h = some (v, h') → EV X mX10_set d h0 (some (.int v)) h' 43 [some (.ref l0), some (.int l1), some (.int l2), some (.int l3), some (.int l4), some (.int l5)] [] h := by
  intro n
  induction n with
  | zero => intro l0 l1 l2 l3 l4 l5 h H; simp [f_X10_set_L43] at H
  | succ n ih =>
    intro l0 l1 l2 l3 l4 l5 h H
    rw [f_X10_set_L43] at H
    refine ev_iload dX10_set_43 rfl ?_
    refine ev_aload_n dX10_set_45 rfl rfl rfl ?_
    replace H := gd_some H
    obtain ⟨g14, H⟩ := H
    replace H := vl_some H
    obtain ⟨r15, er15, H⟩ := H
    refine ev_getRx dX10_set_46 fgX10_16 rfl (okOb.p g14) er15 ?_
    refine ev_iload_n dX10_set_49 rfl rfl ?_
    replace H := un_some H
    obtain ⟨b16, eb16, H⟩ := H
    subst eb16
    replace H := gd_some H
    obtain ⟨g17, H⟩ := H
    replace H := vl_some H
    obtain ⟨x18, ex18, H⟩ := H
    refine ev_ialdx dX10_set_50 (okAb.p g17) ex18 ?_
    refine ev_icmp_ge (tgt := 86) dX10_set_51 (by decide) (fun c19 => ?_) (fun c19 => ?_)
    · rw [if_pos c19] at H
      exact hk86 l0 l1 l2 l3 l4 l5 h H
    · rw [if_neg c19] at H
      refine ev_iload dX10_set_54 rfl ?_
      refine ev_aload_n dX10_set_56 rfl rfl rfl ?_
      replace H := vl_some H
      obtain ⟨r20, er20, H⟩ := H
      refine ev_getRx dX10_set_57 fgX10_19 rfl (okOb.p g14) er20 ?_
      refine ev_bipush (v := (120 : Int32)) dX10_set_60 (by decide) ?_
      refine ev_iload_n dX10_set_62 rfl rfl ?_
      refine ev_imul dX10_set_63 ?_
      refine ev_iload dX10_set_64 rfl ?_
      refine ev_iadd dX10_set_66 ?_
      replace H := un_some H
      obtain ⟨b21, eb21, H⟩ := H
      subst eb21
      replace H := gd_some H
      obtain ⟨g22, H⟩ := H
      replace H := vl_some H
      obtain ⟨x23, ex23, H⟩ := H
      refine ev_ialdx dX10_set_67 (okAb.p g22) ex23 ?_
      refine ev_iload_n dX10_set_68 rfl rfl ?_
      refine ev_icmp_ne (tgt := 76) dX10_set_69 (by decide) (fun c24 => ?_) (fun c24 => ?_)
      · rw [if_neg c24] at H
        refine ev_iconst (v := (0 : Int32)) dX10_set_76 (by decide) ?_
        refine ev_iadd dX10_set_77 ?_
        replace H := vl_some H
        obtain ⟨x25, ex25, H⟩ := H
        refine ev_istorex (loc2 := [some (.ref l0), some (.int l1), some (.int l2), some (.int l3), some (.int x25), some (.int l5)]) dX10_set_78 (by decide) ex25 rfl ?_
        replace H := vl_some H
        obtain ⟨x26, ex26, H⟩ := H
        refine ev_iincx (loc2 := [some (.ref l0), some (.int l1), some (.int l2), some (.int l3), some (.int x25), some (.int x26)]) dX10_set_80 rfl (by decide) ex26 (by decide) rfl ?_
        refine ev_goto (tgt := 43) dX10_set_83 (by decide) ?_
        exact ih l0 l1 l2 l3 x25 x26 h H
      · rw [if_pos c24] at H
        refine ev_iconst (v := (1 : Int32)) dX10_set_72 (by decide) ?_
        refine ev_goto (tgt := 77) dX10_set_73 (by decide) ?_
        refine ev_iadd dX10_set_77 ?_
        replace H := vl_some H
        obtain ⟨x27, ex27, H⟩ := H
        refine ev_istorex (loc2 := [some (.ref l0), some (.int l1), some (.int l2), some (.int l3), some (.int x27), some (.int l5)]) dX10_set_78 (by decide) ex27 rfl ?_
        replace H := vl_some H
        obtain ⟨x28, ex28, H⟩ := H
        refine ev_iincx (loc2 := [some (.ref l0), some (.int l1), some (.int l2), some (.int l3), some (.int x27), some (.int x28)]) dX10_set_80 rfl (by decide) ex28 (by decide) rfl ?_
        refine ev_goto (tgt := 43) dX10_set_83 (by decide) ?_
        exact ih l0 l1 l2 l3 x27 x28 h H
def f_X10_set_L31 (k108 : Nat → Int32 → Int32 → Int32 → Hp → Option (Int32 × Hp)) : Nat → Nat → Int32 → Int32 → Int32 → Hp → Option (Int32 × Hp)
  | 0, _, _, _, _, _ => none
  | n + 1, l0, l1, l2, l3, h =>
    if (26 : Int32) ≤ l3 then (
    k108 l0 l1 l2 l3 h) else (
    f_X10_set_L43 (fun y29 y30 y31 y32 y33 y34 h35 =>
    gd (okOb h35 y29 10) <|
    vl (gR h35 y29 1) fun r37 =>
    un r37 fun b38 =>
    gd (okAb h35 b38 11 y32) <|
    vl (gI h35 b38 y32.toNatClampNeg) fun x40 =>
    if y33 ≤ x40 then (
    vl (y32 + (1 : Int32)) fun x42 =>
    f_X10_set_L31 k108 n y29 y30 y31 x42 h35) else (
    some ((-10 : Int32) - y32, h35))) 6000 l0 l1 l2 l3 (0 : Int32) (0 : Int32) h)
set_option maxHeartbeats 4000000 in
set_option maxRecDepth 100000 in
theorem t_X10_set_L31 {X : Cx} {d : Nat} {h0 h' : Hp} {v : Int32} {k108 : Nat → Int32 → Int32 → Int32 → Hp → Option (Int32 × Hp)} (hD : 3 ≤ d) (hk108 : ∀ (z0 : Nat) (z1 : Int32) (z2 : Int32) (z3 : Int32) (h : Hp), k108 z0 z1 z2 z3 h = some (v, h') → EV X mX10_set d h0 (some (.int v)) h' 108 [some (.ref z0), some (.int z1), some (.int z2), some (.int z3), none, none] [] h) : ∀ (n : Nat) (l0 : Nat) (l1 : Int32) (l2 : Int32) (l3 : Int32) (h : Hp), f_X10_set_L31 k108 n l0 l1 l2 l3 h = some (v, h') → EV X mX10_set d h0 (some (.int v)) h' 31 [some (.ref l0), some (.int l1), some (.int l2), some (.int l3), none, none] [] h := by
  intro n
  induction n with
  | zero => intro l0 l1 l2 l3 h H; simp [f_X10_set_L31] at H
  | succ n ih =>
    intro l0 l1 l2 l3 h H
    rw [f_X10_set_L31] at H
    refine ev_iload_n dX10_set_31 rfl rfl ?_
    refine ev_bipush (v := (26 : Int32)) dX10_set_32 (by decide) ?_
    refine ev_icmp_ge (tgt := 108) dX10_set_34 (by decide) (fun c13 => ?_) (fun c13 => ?_)
    · rw [if_pos c13] at H
      exact hk108 l0 l1 l2 l3 h H
    · rw [if_neg c13] at H
      refine ev_iconst (v := (0 : Int32)) dX10_set_37 (by decide) ?_
      refine ev_istore (loc2 := [some (.ref l0), some (.int l1), some (.int l2), some (.int l3), some (.int (0 : Int32)), none]) dX10_set_38 (by decide) rfl ?_
      refine ev_iconst (v := (0 : Int32)) dX10_set_40 (by decide) ?_
      refine ev_istore (loc2 := [some (.ref l0), some (.int l1), some (.int l2), some (.int l3), some (.int (0 : Int32)), some (.int (0 : Int32))]) dX10_set_41 (by decide) rfl ?_
      refine t_X10_set_L43 hD ?_ 6000 l0 l1 l2 l3 (0 : Int32) (0 : Int32) h H
      · intro y29 y30 y31 y32 y33 y34 h35 H
        refine ev_iload dX10_set_86 rfl ?_
        refine ev_aload_n dX10_set_88 rfl rfl rfl ?_
        replace H := gd_some H
        obtain ⟨g36, H⟩ := H
        replace H := vl_some H
        obtain ⟨r37, er37, H⟩ := H
        refine ev_getRx dX10_set_89 fgX10_13 rfl (okOb.p g36) er37 ?_
        refine ev_iload_n dX10_set_92 rfl rfl ?_
        replace H := un_some H
        obtain ⟨b38, eb38, H⟩ := H
        subst eb38
        replace H := gd_some H
        obtain ⟨g39, H⟩ := H
        replace H := vl_some H
        obtain ⟨x40, ex40, H⟩ := H
        refine ev_ialdx dX10_set_93 (okAb.p g39) ex40 ?_
        refine ev_icmp_le (tgt := 102) dX10_set_94 (by decide) (fun c41 => ?_) (fun c41 => ?_)
        · rw [if_pos c41] at H
          replace H := vl_some H
          obtain ⟨x42, ex42, H⟩ := H
          refine ev_iincx (loc2 := [some (.ref y29), some (.int y30), some (.int y31), some (.int x42), some (.int y33), some (.int y34)]) dX10_set_102 rfl (by decide) ex42 (by decide) rfl ?_
          refine ev_goto (tgt := 31) dX10_set_105 (by decide) ?_
          refine ev_drop (loc2 := [some (.ref y29), some (.int y30), some (.int y31), some (.int x42), none, none]) [true, true, true, true, false, false] rfl ?_
          exact ih y29 y30 y31 x42 h35 H
        · rw [if_neg c41] at H
          refine ev_bipush (v := (-10 : Int32)) dX10_set_97 (by decide) ?_
          refine ev_iload_n dX10_set_99 rfl rfl ?_
          refine ev_isub dX10_set_100 ?_
          exact ev_iretx dX10_set_101 rfl rfl H
def f_X10_set_L110 (k171 : Nat → Int32 → Int32 → Int32 → Hp → Option (Int32 × Hp)) : Nat → Nat → Int32 → Int32 → Int32 → Hp → Option (Int32 × Hp)
  | 0, _, _, _, _, _ => none
  | n + 1, l0, l1, l2, l3, h =>
    gd (okOb h l0 10) <|
    vl (gR h l0 3) fun r49 =>
    un r49 fun b50 =>
    gd (okAb h b50 11 l1) <|
    vl (gI h b50 l1.toNatClampNeg) fun x52 =>
    if x52 ≤ l3 then (
    k171 l0 l1 l2 l3 h) else (
    vl (gR h l0 4) fun r54 =>
    un r54 fun b55 =>
    gd (okAb h b55 11 (((120 : Int32) * l1) + l3)) <|
    vl (gI h b55 (((120 : Int32) * l1) + l3).toNatClampNeg) fun x57 =>
    vl (gR h l0 5) fun r58 =>
    un r58 fun b59 =>
    gd (okAb h b59 11 (((120 : Int32) * l1) + l3)) <|
    vl (sI h b59 (((120 : Int32) * l1) + l3).toNatClampNeg x57) fun h61 =>
    bnd (f_X10_isLetter h61 x57) fun v62 h63 =>
    if v62 = 0 then (
    vl (l3 + (1 : Int32)) fun x65 =>
    f_X10_set_L110 k171 n l0 l1 l2 x65 h63) else (
    vl (gR h63 l0 1) fun r66 =>
    un r66 fun b67 =>
    gd (okAb h63 b67 11 x57) <|
    vl (gI h63 b67 x57.toNatClampNeg) fun x69 =>
    gd (okAb h63 b67 11 x57) <|
    vl (sI h63 b67 x57.toNatClampNeg (x69 - (1 : Int32))) fun h71 =>
    vl (l3 + (1 : Int32)) fun x72 =>
    f_X10_set_L110 k171 n l0 l1 l2 x72 h71))
set_option maxHeartbeats 4000000 in
set_option maxRecDepth 100000 in
theorem t_X10_set_L110 {X : Cx} {d : Nat} {h0 h' : Hp} {v : Int32} {k171 : Nat → Int32 → Int32 → Int32 → Hp → Option (Int32 × Hp)} (hD : 3 ≤ d) (hk171 : ∀ (z0 : Nat) (z1 : Int32) (z2 : Int32) (z3 : Int32) (h : Hp), k171 z0 z1 z2 z3 h = some (v, h') → EV X mX10_set d h0 (some (.int v)) h' 171 [some (.ref z0), some (.int z1), some (.int z2), some (.int z3), none, none] [] h) : ∀ (n : Nat) (l0 : Nat) (l1 : Int32) (l2 : Int32) (l3 : Int32) (h : Hp), f_X10_set_L110 k171 n l0 l1 l2 l3 h = some (v, h') → EV X mX10_set d h0 (some (.int v)) h' 110 [some (.ref l0), some (.int l1), some (.int l2), some (.int l3), none, none] [] h := by
  intro n
  induction n with
  | zero => intro l0 l1 l2 l3 h H; simp [f_X10_set_L110] at H
  | succ n ih =>
    intro l0 l1 l2 l3 h H
    rw [f_X10_set_L110] at H
    refine ev_iload_n dX10_set_110 rfl rfl ?_
    refine ev_aload_n dX10_set_111 rfl rfl rfl ?_
    replace H := gd_some H
    obtain ⟨g48, H⟩ := H
    replace H := vl_some H
    obtain ⟨r49, er49, H⟩ := H
    refine ev_getRx dX10_set_112 fgX10_16 rfl (okOb.p g48) er49 ?_
    refine ev_iload_n dX10_set_115 rfl rfl ?_
    replace H := un_some H
    obtain ⟨b50, eb50, H⟩ := H
    subst eb50
    replace H := gd_some H
    obtain ⟨g51, H⟩ := H
    replace H := vl_some H
    obtain ⟨x52, ex52, H⟩ := H
    refine ev_ialdx dX10_set_116 (okAb.p g51) ex52 ?_
    refine ev_icmp_ge (tgt := 171) dX10_set_117 (by decide) (fun c53 => ?_) (fun c53 => ?_)
    · rw [if_pos c53] at H
      exact hk171 l0 l1 l2 l3 h H
    · rw [if_neg c53] at H
      refine ev_aload_n dX10_set_120 rfl rfl rfl ?_
      replace H := vl_some H
      obtain ⟨r54, er54, H⟩ := H
      refine ev_getRx dX10_set_121 fgX10_19 rfl (okOb.p g48) er54 ?_
      refine ev_bipush (v := (120 : Int32)) dX10_set_124 (by decide) ?_
      refine ev_iload_n dX10_set_126 rfl rfl ?_
      refine ev_imul dX10_set_127 ?_
      refine ev_iload_n dX10_set_128 rfl rfl ?_
      refine ev_iadd dX10_set_129 ?_
      replace H := un_some H
      obtain ⟨b55, eb55, H⟩ := H
      subst eb55
      replace H := gd_some H
      obtain ⟨g56, H⟩ := H
      replace H := vl_some H
      obtain ⟨x57, ex57, H⟩ := H
      refine ev_ialdx dX10_set_130 (okAb.p g56) ex57 ?_
      refine ev_istore (loc2 := [some (.ref l0), some (.int l1), some (.int l2), some (.int l3), some (.int x57), none]) dX10_set_131 (by decide) rfl ?_
      refine ev_aload_n dX10_set_133 rfl rfl rfl ?_
      replace H := vl_some H
      obtain ⟨r58, er58, H⟩ := H
      refine ev_getRx dX10_set_134 fgX10_22 rfl (okOb.p g48) er58 ?_
      refine ev_bipush (v := (120 : Int32)) dX10_set_137 (by decide) ?_
      refine ev_iload_n dX10_set_139 rfl rfl ?_
      refine ev_imul dX10_set_140 ?_
      refine ev_iload_n dX10_set_141 rfl rfl ?_
      refine ev_iadd dX10_set_142 ?_
      refine ev_iload dX10_set_143 rfl ?_
      replace H := un_some H
      obtain ⟨b59, eb59, H⟩ := H
      subst eb59
      replace H := gd_some H
      obtain ⟨g60, H⟩ := H
      replace H := vl_some H
      obtain ⟨h61, eh61, H⟩ := H
      refine ev_iast dX10_set_145 (okAb.p g60) eh61 ?_
      refine ev_iload dX10_set_146 rfl ?_
      replace H := bnd_some H
      obtain ⟨v62, h63, eh63, H⟩ := H
      have ph63 := (t_X10_isLetter (X := X) (d := 1) (by omega) eh63)
      refine ev_callS (as := [.int x57]) dX10_set_148 ph63 ok_X10_isLetter (by omega) rfl k5_96 k5_97 rfl (Nat.le_of_ble_eq_true rfl) ?_
      refine ev_if_eq (tgt := 165) dX10_set_151 (by decide) (fun c64 => ?_) (fun c64 => ?_)
      · rw [if_pos c64] at H
        replace H := vl_some H
        obtain ⟨x65, ex65, H⟩ := H
        refine ev_iincx (loc2 := [some (.ref l0), some (.int l1), some (.int l2), some (.int x65), some (.int x57), none]) dX10_set_165 rfl (by decide) ex65 (by decide) rfl ?_
        refine ev_goto (tgt := 110) dX10_set_168 (by decide) ?_
        refine ev_drop (loc2 := [some (.ref l0), some (.int l1), some (.int l2), some (.int x65), none, none]) [true, true, true, true, false, true] rfl ?_
        exact ih l0 l1 l2 x65 h63 H
      · rw [if_neg c64] at H
        refine ev_aload_n dX10_set_154 rfl rfl rfl ?_
        replace H := vl_some H
        obtain ⟨r66, er66, H⟩ := H
        refine ev_getRx dX10_set_155 fgX10_13 rfl (okO_ext ph63.1 (okO_sI eh61 (okOb.p g48))) er66 ?_
        refine ev_iload dX10_set_158 rfl ?_
        refine ev_dup2 dX10_set_160 rfl (rv_cat _) ?_
        replace H := un_some H
        obtain ⟨b67, eb67, H⟩ := H
        subst eb67
        replace H := gd_some H
        obtain ⟨g68, H⟩ := H
        replace H := vl_some H
        obtain ⟨x69, ex69, H⟩ := H
        refine ev_ialdx dX10_set_161 (okAb.p g68) ex69 ?_
        refine ev_iconst (v := (1 : Int32)) dX10_set_162 (by decide) ?_
        refine ev_isub dX10_set_163 ?_
        replace H := gd_some H
        obtain ⟨g70, H⟩ := H
        replace H := vl_some H
        obtain ⟨h71, eh71, H⟩ := H
        refine ev_iast dX10_set_164 (okAb.p g70) eh71 ?_
        replace H := vl_some H
        obtain ⟨x72, ex72, H⟩ := H
        refine ev_iincx (loc2 := [some (.ref l0), some (.int l1), some (.int l2), some (.int x72), some (.int x57), none]) dX10_set_165 rfl (by decide) ex72 (by decide) rfl ?_
        refine ev_goto (tgt := 110) dX10_set_168 (by decide) ?_
        refine ev_drop (loc2 := [some (.ref l0), some (.int l1), some (.int l2), some (.int x72), none, none]) [true, true, true, true, false, true] rfl ?_
        exact ih l0 l1 l2 x72 h71 H
def f_X10_set (h : Hp) (a0 : Nat) (a1 : Int32) (a2 : Int32) : Option (Int32 × Hp) :=
gd (okOb h a0 10) <|
bnd (f_X10_isPage h a0 a1) fun v2 h3 =>
if v2 = 0 then (
some ((-1 : Int32), h3)) else (
bnd (f_X10_isHand h3 a2) fun v5 h6 =>
if v5 = 0 then (
some ((-1 : Int32), h6)) else (
vl (gR h6 a0 7) fun r8 =>
un r8 fun b9 =>
gd (okAb h6 b9 11 a1) <|
vl (gI h6 b9 a1.toNatClampNeg) fun x11 =>
if x11 < 0 then (
f_X10_set_L31 (fun y43 y44 y45 y46 h47 =>
f_X10_set_L110 (fun y73 y74 y75 y76 h77 =>
gd (okOb h77 y73 10) <|
vl (gR h77 y73 7) fun r79 =>
un r79 fun b80 =>
gd (okAb h77 b80 11 y74) <|
vl (sI h77 b80 y74.toNatClampNeg y75) fun h82 =>
vl (gR h82 y73 12) fun r83 =>
un r83 fun b84 =>
gd (okAb h82 b84 11 y75) <|
vl (gI h82 b84 y75.toNatClampNeg) fun x86 =>
bnd (f_X10_lettersOf h82 y73 y74) fun v87 h88 =>
gd (okAb h88 b84 11 y75) <|
vl (sI h88 b84 y75.toNatClampNeg (x86 + v87)) fun h90 =>
bnd (f_X10_lettersOf h90 y73 y74) fun v91 h92 =>
some (v91, h92)) 6000 y43 y44 y45 (0 : Int32) h47) 6000 a0 a1 a2 (0 : Int32) h6) else (
some ((-3 : Int32), h6))))
set_option maxHeartbeats 4000000 in
set_option maxRecDepth 100000 in
theorem t_X10_set {X : Cx} {d : Nat} {h : Hp} {a0 : Nat} {a1 : Int32} {a2 : Int32} {v : Int32} {h' : Hp} (hD : 3 ≤ d) (H : f_X10_set h a0 a1 a2 = some (v, h')) : PM X mX10_set d [.ref a0, .int a1, .int a2] h (some (.int v)) h' := by
  unfold f_X10_set at H
  refine PM.of (loc := [some (.ref a0), some (.int a1), some (.int a2), none, none, none]) (by decide) rfl (Nat.le_of_ble_eq_true rfl) ?_
  refine ev_aload_n dX10_set_0 rfl rfl rfl ?_
  refine ev_iload_n dX10_set_1 rfl rfl ?_
  replace H := gd_some H
  obtain ⟨g1, H⟩ := H
  replace H := bnd_some H
  obtain ⟨v2, h3, eh3, H⟩ := H
  have ph3 := (t_X10_isPage (X := X) (d := 1) (by omega) eh3)
  refine ev_callV (as := [.int a1]) dX10_set_2 ph3 ok_X10_isPage (by omega) rfl k5_115 k5_117 ks_27 (ci := 10) (by decide) rfl rfl (okOb.p g1) rfl (Nat.le_of_ble_eq_true rfl) ?_
  refine ev_if_eq (tgt := 15) dX10_set_5 (by decide) (fun c4 => ?_) (fun c4 => ?_)
  · rw [if_pos c4] at H
    refine ev_iconst (v := (-1 : Int32)) dX10_set_15 (by decide) ?_
    exact ev_iretx dX10_set_16 rfl rfl H
  · rw [if_neg c4] at H
    refine ev_iload_n dX10_set_8 rfl rfl ?_
    replace H := bnd_some H
    obtain ⟨v5, h6, eh6, H⟩ := H
    have ph6 := (t_X10_isHand (X := X) (d := 1) (by omega) eh6)
    refine ev_callS (as := [.int a2]) dX10_set_9 ph6 ok_X10_isHand (by omega) rfl k5_119 k5_120 rfl (Nat.le_of_ble_eq_true rfl) ?_
    refine ev_if_ne (tgt := 17) dX10_set_12 (by decide) (fun c7 => ?_) (fun c7 => ?_)
    · rw [if_neg c7] at H
      refine ev_aload_n dX10_set_17 rfl rfl rfl ?_
      replace H := vl_some H
      obtain ⟨r8, er8, H⟩ := H
      refine ev_getRx dX10_set_18 fgX10_28 rfl (okO_ext ph6.1 (okO_ext ph3.1 (okOb.p g1))) er8 ?_
      refine ev_iload_n dX10_set_21 rfl rfl ?_
      replace H := un_some H
      obtain ⟨b9, eb9, H⟩ := H
      subst eb9
      replace H := gd_some H
      obtain ⟨g10, H⟩ := H
      replace H := vl_some H
      obtain ⟨x11, ex11, H⟩ := H
      refine ev_ialdx dX10_set_22 (okAb.p g10) ex11 ?_
      refine ev_if_lt (tgt := 29) dX10_set_23 (by decide) (fun c12 => ?_) (fun c12 => ?_)
      · rw [if_pos c12] at H
        refine ev_iconst (v := (0 : Int32)) dX10_set_29 (by decide) ?_
        refine ev_istore_n (loc2 := [some (.ref a0), some (.int a1), some (.int a2), some (.int (0 : Int32)), none, none]) dX10_set_30 rfl (by decide) rfl ?_
        refine t_X10_set_L31 hD ?_ 6000 a0 a1 a2 (0 : Int32) h6 H
        · intro y43 y44 y45 y46 h47 H
          refine ev_iconst (v := (0 : Int32)) dX10_set_108 (by decide) ?_
          refine ev_istore_n (loc2 := [some (.ref y43), some (.int y44), some (.int y45), some (.int (0 : Int32)), none, none]) dX10_set_109 rfl (by decide) rfl ?_
          refine t_X10_set_L110 hD ?_ 6000 y43 y44 y45 (0 : Int32) h47 H
          · intro y73 y74 y75 y76 h77 H
            refine ev_aload_n dX10_set_171 rfl rfl rfl ?_
            replace H := gd_some H
            obtain ⟨g78, H⟩ := H
            replace H := vl_some H
            obtain ⟨r79, er79, H⟩ := H
            refine ev_getRx dX10_set_172 fgX10_28 rfl (okOb.p g78) er79 ?_
            refine ev_iload_n dX10_set_175 rfl rfl ?_
            refine ev_iload_n dX10_set_176 rfl rfl ?_
            replace H := un_some H
            obtain ⟨b80, eb80, H⟩ := H
            subst eb80
            replace H := gd_some H
            obtain ⟨g81, H⟩ := H
            replace H := vl_some H
            obtain ⟨h82, eh82, H⟩ := H
            refine ev_iast dX10_set_177 (okAb.p g81) eh82 ?_
            refine ev_aload_n dX10_set_178 rfl rfl rfl ?_
            replace H := vl_some H
            obtain ⟨r83, er83, H⟩ := H
            refine ev_getRx dX10_set_179 fgX10_40 rfl (okO_sI eh82 (okOb.p g78)) er83 ?_
            refine ev_iload_n dX10_set_182 rfl rfl ?_
            refine ev_dup2 dX10_set_183 rfl (rv_cat _) ?_
            replace H := un_some H
            obtain ⟨b84, eb84, H⟩ := H
            subst eb84
            replace H := gd_some H
            obtain ⟨g85, H⟩ := H
            replace H := vl_some H
            obtain ⟨x86, ex86, H⟩ := H
            refine ev_ialdx dX10_set_184 (okAb.p g85) ex86 ?_
            refine ev_aload_n dX10_set_185 rfl rfl rfl ?_
            refine ev_iload_n dX10_set_186 rfl rfl ?_
            replace H := bnd_some H
            obtain ⟨v87, h88, eh88, H⟩ := H
            have ph88 := (t_X10_lettersOf (X := X) (d := 2) (by omega) eh88)
            refine ev_callV (as := [.int y74]) dX10_set_187 ph88 ok_X10_lettersOf (by omega) rfl k5_122 k5_124 ks_28 (ci := 10) (by decide) rfl rfl (okO_sI eh82 (okOb.p g78)) rfl (Nat.le_of_ble_eq_true rfl) ?_
            refine ev_iadd dX10_set_190 ?_
            replace H := gd_some H
            obtain ⟨g89, H⟩ := H
            replace H := vl_some H
            obtain ⟨h90, eh90, H⟩ := H
            refine ev_iast dX10_set_191 (okAb.p g89) eh90 ?_
            refine ev_aload_n dX10_set_192 rfl rfl rfl ?_
            refine ev_iload_n dX10_set_193 rfl rfl ?_
            replace H := bnd_some H
            obtain ⟨v91, h92, eh92, H⟩ := H
            have ph92 := (t_X10_lettersOf (X := X) (d := 2) (by omega) eh92)
            refine ev_callV (as := [.int y74]) dX10_set_194 ph92 ok_X10_lettersOf (by omega) rfl k5_122 k5_124 ks_28 (ci := 10) (by decide) rfl rfl (okO_sI eh90 (okO_ext ph88.1 (okO_sI eh82 (okOb.p g78)))) rfl (Nat.le_of_ble_eq_true rfl) ?_
            exact ev_iretx dX10_set_197 rfl rfl H
      · rw [if_neg c12] at H
        refine ev_bipush (v := (-3 : Int32)) dX10_set_26 (by decide) ?_
        exact ev_iretx dX10_set_28 rfl rfl H
    · rw [if_pos c7] at H
      refine ev_iconst (v := (-1 : Int32)) dX10_set_15 (by decide) ?_
      exact ev_iretx dX10_set_16 rfl rfl H

theorem dX10_misset_0 : decode cX10_misset 0 = .ok (.aload_n 0, 1) := by decide +kernel
theorem dX10_misset_1 : decode cX10_misset 1 = .ok (.iload_n 1, 1) := by decide +kernel
theorem dX10_misset_2 : decode cX10_misset 2 = .ok (.iload_n 2, 1) := by decide +kernel
theorem dX10_misset_3 : decode cX10_misset 3 = .ok (.invokevirtual 175, 3) := by decide +kernel
theorem dX10_misset_6 : decode cX10_misset 6 = .ok (.ifCond .eq 10, 3) := by decide +kernel
theorem dX10_misset_9 : decode cX10_misset 9 = .ok (.iload_n 3, 1) := by decide +kernel
theorem dX10_misset_10 : decode cX10_misset 10 = .ok (.invokestatic 160, 3) := by decide +kernel
theorem dX10_misset_13 : decode cX10_misset 13 = .ok (.ifCond .ne 5, 3) := by decide +kernel
theorem dX10_misset_16 : decode cX10_misset 16 = .ok (.iconst (-1), 1) := by decide +kernel
theorem dX10_misset_17 : decode cX10_misset 17 = .ok (.ireturn, 1) := by decide +kernel
theorem dX10_misset_18 : decode cX10_misset 18 = .ok (.aload_n 0, 1) := by decide +kernel
theorem dX10_misset_19 : decode cX10_misset 19 = .ok (.getfield 28, 3) := by decide +kernel
theorem dX10_misset_22 : decode cX10_misset 22 = .ok (.iload_n 1, 1) := by decide +kernel
theorem dX10_misset_23 : decode cX10_misset 23 = .ok (.iaload, 1) := by decide +kernel
theorem dX10_misset_24 : decode cX10_misset 24 = .ok (.ifCond .ge 6, 3) := by decide +kernel
theorem dX10_misset_27 : decode cX10_misset 27 = .ok (.bipush (-3), 2) := by decide +kernel
theorem dX10_misset_29 : decode cX10_misset 29 = .ok (.ireturn, 1) := by decide +kernel
theorem dX10_misset_30 : decode cX10_misset 30 = .ok (.aload_n 0, 1) := by decide +kernel
theorem dX10_misset_31 : decode cX10_misset 31 = .ok (.getfield 22, 3) := by decide +kernel
theorem dX10_misset_34 : decode cX10_misset 34 = .ok (.bipush 120, 2) := by decide +kernel
theorem dX10_misset_36 : decode cX10_misset 36 = .ok (.iload_n 1, 1) := by decide +kernel
theorem dX10_misset_37 : decode cX10_misset 37 = .ok (.imul, 1) := by decide +kernel
theorem dX10_misset_38 : decode cX10_misset 38 = .ok (.iload_n 2, 1) := by decide +kernel
theorem dX10_misset_39 : decode cX10_misset 39 = .ok (.iadd, 1) := by decide +kernel
theorem dX10_misset_40 : decode cX10_misset 40 = .ok (.iaload, 1) := by decide +kernel
theorem dX10_misset_41 : decode cX10_misset 41 = .ok (.istore 4, 2) := by decide +kernel
theorem dX10_misset_43 : decode cX10_misset 43 = .ok (.iload 4, 2) := by decide +kernel
theorem dX10_misset_45 : decode cX10_misset 45 = .ok (.iload_n 3, 1) := by decide +kernel
theorem dX10_misset_46 : decode cX10_misset 46 = .ok (.if_icmp .eq 11, 3) := by decide +kernel
theorem dX10_misset_49 : decode cX10_misset 49 = .ok (.iload 4, 2) := by decide +kernel
theorem dX10_misset_51 : decode cX10_misset 51 = .ok (.invokestatic 160, 3) := by decide +kernel
theorem dX10_misset_54 : decode cX10_misset 54 = .ok (.ifCond .ne 6, 3) := by decide +kernel
theorem dX10_misset_57 : decode cX10_misset 57 = .ok (.bipush (-2), 2) := by decide +kernel
theorem dX10_misset_59 : decode cX10_misset 59 = .ok (.ireturn, 1) := by decide +kernel
theorem dX10_misset_60 : decode cX10_misset 60 = .ok (.aload_n 0, 1) := by decide +kernel
theorem dX10_misset_61 : decode cX10_misset 61 = .ok (.getfield 31, 3) := by decide +kernel
theorem dX10_misset_64 : decode cX10_misset 64 = .ok (.iload_n 1, 1) := by decide +kernel
theorem dX10_misset_65 : decode cX10_misset 65 = .ok (.iaload, 1) := by decide +kernel
theorem dX10_misset_66 : decode cX10_misset 66 = .ok (.istore 5, 2) := by decide +kernel
theorem dX10_misset_68 : decode cX10_misset 68 = .ok (.iload 5, 2) := by decide +kernel
theorem dX10_misset_70 : decode cX10_misset 70 = .ok (.ifCond .lt 17, 3) := by decide +kernel
theorem dX10_misset_73 : decode cX10_misset 73 = .ok (.aload_n 0, 1) := by decide +kernel
theorem dX10_misset_74 : decode cX10_misset 74 = .ok (.getfield 76, 3) := by decide +kernel
theorem dX10_misset_77 : decode cX10_misset 77 = .ok (.iload 5, 2) := by decide +kernel
theorem dX10_misset_79 : decode cX10_misset 79 = .ok (.iaload, 1) := by decide +kernel
theorem dX10_misset_80 : decode cX10_misset 80 = .ok (.ifCond .le 7, 3) := by decide +kernel
theorem dX10_misset_83 : decode cX10_misset 83 = .ok (.iconst 1, 1) := by decide +kernel
theorem dX10_misset_84 : decode cX10_misset 84 = .ok (.goto 4, 3) := by decide +kernel
theorem dX10_misset_87 : decode cX10_misset 87 = .ok (.iconst 0, 1) := by decide +kernel
theorem dX10_misset_88 : decode cX10_misset 88 = .ok (.istore 6, 2) := by decide +kernel
theorem dX10_misset_90 : decode cX10_misset 90 = .ok (.aload_n 0, 1) := by decide +kernel
theorem dX10_misset_91 : decode cX10_misset 91 = .ok (.getfield 13, 3) := by decide +kernel
theorem dX10_misset_94 : decode cX10_misset 94 = .ok (.iload_n 3, 1) := by decide +kernel
theorem dX10_misset_95 : decode cX10_misset 95 = .ok (.iaload, 1) := by decide +kernel
theorem dX10_misset_96 : decode cX10_misset 96 = .ok (.ifCond .eq 20, 3) := by decide +kernel
theorem dX10_misset_99 : decode cX10_misset 99 = .ok (.iload 6, 2) := by decide +kernel
theorem dX10_misset_101 : decode cX10_misset 101 = .ok (.ifCond .eq 18, 3) := by decide +kernel
theorem dX10_misset_104 : decode cX10_misset 104 = .ok (.aload_n 0, 1) := by decide +kernel
theorem dX10_misset_105 : decode cX10_misset 105 = .ok (.getfield 79, 3) := by decide +kernel
theorem dX10_misset_108 : decode cX10_misset 108 = .ok (.iload 5, 2) := by decide +kernel
theorem dX10_misset_110 : decode cX10_misset 110 = .ok (.iaload, 1) := by decide +kernel
theorem dX10_misset_111 : decode cX10_misset 111 = .ok (.bipush 30, 2) := by decide +kernel
theorem dX10_misset_113 : decode cX10_misset 113 = .ok (.if_icmp .ne 6, 3) := by decide +kernel
theorem dX10_misset_116 : decode cX10_misset 116 = .ok (.bipush (-4), 2) := by decide +kernel
theorem dX10_misset_118 : decode cX10_misset 118 = .ok (.ireturn, 1) := by decide +kernel
theorem dX10_misset_119 : decode cX10_misset 119 = .ok (.aload_n 0, 1) := by decide +kernel
theorem dX10_misset_120 : decode cX10_misset 120 = .ok (.getfield 13, 3) := by decide +kernel
theorem dX10_misset_123 : decode cX10_misset 123 = .ok (.iload 4, 2) := by decide +kernel
theorem dX10_misset_125 : decode cX10_misset 125 = .ok (.dup2, 1) := by decide +kernel
theorem dX10_misset_126 : decode cX10_misset 126 = .ok (.iaload, 1) := by decide +kernel
theorem dX10_misset_127 : decode cX10_misset 127 = .ok (.iconst 1, 1) := by decide +kernel
theorem dX10_misset_128 : decode cX10_misset 128 = .ok (.iadd, 1) := by decide +kernel
theorem dX10_misset_129 : decode cX10_misset 129 = .ok (.iastore, 1) := by decide +kernel
theorem dX10_misset_130 : decode cX10_misset 130 = .ok (.aload_n 0, 1) := by decide +kernel
theorem dX10_misset_131 : decode cX10_misset 131 = .ok (.getfield 13, 3) := by decide +kernel
theorem dX10_misset_134 : decode cX10_misset 134 = .ok (.iload_n 3, 1) := by decide +kernel
theorem dX10_misset_135 : decode cX10_misset 135 = .ok (.dup2, 1) := by decide +kernel
theorem dX10_misset_136 : decode cX10_misset 136 = .ok (.iaload, 1) := by decide +kernel
theorem dX10_misset_137 : decode cX10_misset 137 = .ok (.iconst 1, 1) := by decide +kernel
theorem dX10_misset_138 : decode cX10_misset 138 = .ok (.isub, 1) := by decide +kernel
theorem dX10_misset_139 : decode cX10_misset 139 = .ok (.iastore, 1) := by decide +kernel
theorem dX10_misset_140 : decode cX10_misset 140 = .ok (.aload_n 0, 1) := by decide +kernel
theorem dX10_misset_141 : decode cX10_misset 141 = .ok (.getfield 22, 3) := by decide +kernel
theorem dX10_misset_144 : decode cX10_misset 144 = .ok (.bipush 120, 2) := by decide +kernel
theorem dX10_misset_146 : decode cX10_misset 146 = .ok (.iload_n 1, 1) := by decide +kernel
theorem dX10_misset_147 : decode cX10_misset 147 = .ok (.imul, 1) := by decide +kernel
theorem dX10_misset_148 : decode cX10_misset 148 = .ok (.iload_n 2, 1) := by decide +kernel
theorem dX10_misset_149 : decode cX10_misset 149 = .ok (.iadd, 1) := by decide +kernel
theorem dX10_misset_150 : decode cX10_misset 150 = .ok (.iload_n 3, 1) := by decide +kernel
theorem dX10_misset_151 : decode cX10_misset 151 = .ok (.iastore, 1) := by decide +kernel
theorem dX10_misset_152 : decode cX10_misset 152 = .ok (.iload 6, 2) := by decide +kernel
theorem dX10_misset_154 : decode cX10_misset 154 = .ok (.ifCond .eq 71, 3) := by decide +kernel
theorem dX10_misset_157 : decode cX10_misset 157 = .ok (.aload_n 0, 1) := by decide +kernel
theorem dX10_misset_158 : decode cX10_misset 158 = .ok (.getfield 85, 3) := by decide +kernel
theorem dX10_misset_161 : decode cX10_misset 161 = .ok (.bipush 30, 2) := by decide +kernel
theorem dX10_misset_163 : decode cX10_misset 163 = .ok (.iload 5, 2) := by decide +kernel
theorem dX10_misset_165 : decode cX10_misset 165 = .ok (.imul, 1) := by decide +kernel
theorem dX10_misset_166 : decode cX10_misset 166 = .ok (.aload_n 0, 1) := by decide +kernel
theorem dX10_misset_167 : decode cX10_misset 167 = .ok (.getfield 79, 3) := by decide +kernel
theorem dX10_misset_170 : decode cX10_misset 170 = .ok (.iload 5, 2) := by decide +kernel
theorem dX10_misset_172 : decode cX10_misset 172 = .ok (.iaload, 1) := by decide +kernel
theorem dX10_misset_173 : decode cX10_misset 173 = .ok (.iadd, 1) := by decide +kernel
theorem dX10_misset_174 : decode cX10_misset 174 = .ok (.iload_n 1, 1) := by decide +kernel
theorem dX10_misset_175 : decode cX10_misset 175 = .ok (.iastore, 1) := by decide +kernel
theorem dX10_misset_176 : decode cX10_misset 176 = .ok (.aload_n 0, 1) := by decide +kernel
theorem dX10_misset_177 : decode cX10_misset 177 = .ok (.getfield 88, 3) := by decide +kernel
theorem dX10_misset_180 : decode cX10_misset 180 = .ok (.bipush 30, 2) := by decide +kernel
theorem dX10_misset_182 : decode cX10_misset 182 = .ok (.iload 5, 2) := by decide +kernel
theorem dX10_misset_184 : decode cX10_misset 184 = .ok (.imul, 1) := by decide +kernel
theorem dX10_misset_185 : decode cX10_misset 185 = .ok (.aload_n 0, 1) := by decide +kernel
theorem dX10_misset_186 : decode cX10_misset 186 = .ok (.getfield 79, 3) := by decide +kernel
theorem dX10_misset_189 : decode cX10_misset 189 = .ok (.iload 5, 2) := by decide +kernel
theorem dX10_misset_191 : decode cX10_misset 191 = .ok (.iaload, 1) := by decide +kernel
theorem dX10_misset_192 : decode cX10_misset 192 = .ok (.iadd, 1) := by decide +kernel
theorem dX10_misset_193 : decode cX10_misset 193 = .ok (.iload_n 2, 1) := by decide +kernel
theorem dX10_misset_194 : decode cX10_misset 194 = .ok (.iastore, 1) := by decide +kernel
theorem dX10_misset_195 : decode cX10_misset 195 = .ok (.aload_n 0, 1) := by decide +kernel
theorem dX10_misset_196 : decode cX10_misset 196 = .ok (.getfield 91, 3) := by decide +kernel
theorem dX10_misset_199 : decode cX10_misset 199 = .ok (.bipush 30, 2) := by decide +kernel
theorem dX10_misset_201 : decode cX10_misset 201 = .ok (.iload 5, 2) := by decide +kernel
theorem dX10_misset_203 : decode cX10_misset 203 = .ok (.imul, 1) := by decide +kernel
theorem dX10_misset_204 : decode cX10_misset 204 = .ok (.aload_n 0, 1) := by decide +kernel
theorem dX10_misset_205 : decode cX10_misset 205 = .ok (.getfield 79, 3) := by decide +kernel
theorem dX10_misset_208 : decode cX10_misset 208 = .ok (.iload 5, 2) := by decide +kernel
theorem dX10_misset_210 : decode cX10_misset 210 = .ok (.iaload, 1) := by decide +kernel
theorem dX10_misset_211 : decode cX10_misset 211 = .ok (.iadd, 1) := by decide +kernel
theorem dX10_misset_212 : decode cX10_misset 212 = .ok (.iload_n 3, 1) := by decide +kernel
theorem dX10_misset_213 : decode cX10_misset 213 = .ok (.iastore, 1) := by decide +kernel
theorem dX10_misset_214 : decode cX10_misset 214 = .ok (.aload_n 0, 1) := by decide +kernel
theorem dX10_misset_215 : decode cX10_misset 215 = .ok (.getfield 79, 3) := by decide +kernel
theorem dX10_misset_218 : decode cX10_misset 218 = .ok (.iload 5, 2) := by decide +kernel
theorem dX10_misset_220 : decode cX10_misset 220 = .ok (.dup2, 1) := by decide +kernel
theorem dX10_misset_221 : decode cX10_misset 221 = .ok (.iaload, 1) := by decide +kernel
theorem dX10_misset_222 : decode cX10_misset 222 = .ok (.iconst 1, 1) := by decide +kernel
theorem dX10_misset_223 : decode cX10_misset 223 = .ok (.iadd, 1) := by decide +kernel
theorem dX10_misset_224 : decode cX10_misset 224 = .ok (.iastore, 1) := by decide +kernel
theorem dX10_misset_225 : decode cX10_misset 225 = .ok (.iload 4, 2) := by decide +kernel
theorem dX10_misset_227 : decode cX10_misset 227 = .ok (.ireturn, 1) := by decide +kernel
def f_X10_misset_J119 (l0 : Nat) (l1 : Int32) (l2 : Int32) (l3 : Int32) (l4 : Int32) (l5 : Int32) (l6 : Int32) (h : Hp) : Option (Int32 × Hp) :=
gd (okOb h l0 10) <|
vl (gR h l0 1) fun r34 =>
un r34 fun b35 =>
gd (okAb h b35 11 l4) <|
vl (gI h b35 l4.toNatClampNeg) fun x37 =>
gd (okAb h b35 11 l4) <|
vl (sI h b35 l4.toNatClampNeg (x37 + (1 : Int32))) fun h39 =>
vl (gR h39 l0 1) fun r40 =>
un r40 fun b41 =>
gd (okAb h39 b41 11 l3) <|
vl (gI h39 b41 l3.toNatClampNeg) fun x43 =>
gd (okAb h39 b41 11 l3) <|
vl (sI h39 b41 l3.toNatClampNeg (x43 - (1 : Int32))) fun h45 =>
vl (gR h45 l0 5) fun r46 =>
un r46 fun b47 =>
gd (okAb h45 b47 11 (((120 : Int32) * l1) + l2)) <|
vl (sI h45 b47 (((120 : Int32) * l1) + l2).toNatClampNeg l3) fun h49 =>
if l6 = 0 then (
some (l4, h49)) else (
vl (gR h49 l0 29) fun r51 =>
vl (gR h49 l0 27) fun r52 =>
un r52 fun b53 =>
gd (okAb h49 b53 11 l5) <|
vl (gI h49 b53 l5.toNatClampNeg) fun x55 =>
un r51 fun b56 =>
gd (okAb h49 b56 11 (((30 : Int32) * l5) + x55)) <|
vl (sI h49 b56 (((30 : Int32) * l5) + x55).toNatClampNeg l1) fun h58 =>
vl (gR h58 l0 30) fun r59 =>
vl (gR h58 l0 27) fun r60 =>
un r60 fun b61 =>
gd (okAb h58 b61 11 l5) <|
vl (gI h58 b61 l5.toNatClampNeg) fun x63 =>
un r59 fun b64 =>
gd (okAb h58 b64 11 (((30 : Int32) * l5) + x63)) <|
vl (sI h58 b64 (((30 : Int32) * l5) + x63).toNatClampNeg l2) fun h66 =>
vl (gR h66 l0 31) fun r67 =>
vl (gR h66 l0 27) fun r68 =>
un r68 fun b69 =>
gd (okAb h66 b69 11 l5) <|
vl (gI h66 b69 l5.toNatClampNeg) fun x71 =>
un r67 fun b72 =>
gd (okAb h66 b72 11 (((30 : Int32) * l5) + x71)) <|
vl (sI h66 b72 (((30 : Int32) * l5) + x71).toNatClampNeg l3) fun h74 =>
vl (gR h74 l0 27) fun r75 =>
un r75 fun b76 =>
gd (okAb h74 b76 11 l5) <|
vl (gI h74 b76 l5.toNatClampNeg) fun x78 =>
gd (okAb h74 b76 11 l5) <|
vl (sI h74 b76 l5.toNatClampNeg (x78 + (1 : Int32))) fun h80 =>
some (l4, h80))
set_option maxHeartbeats 4000000 in
set_option maxRecDepth 100000 in
theorem t_X10_misset_J119 {X : Cx} {d : Nat} {h0 h' : Hp} {v : Int32} (hD : 3 ≤ d) : ∀ (l0 : Nat) (l1 : Int32) (l2 : Int32) (l3 : Int32) (l4 : Int32) (l5 : Int32) (l6 : Int32) (h : Hp), f_X10_misset_J119 l0 l1 l2 l3 l4 l5 l6 h = some (v, h') → EV X mX10_misset d h0 (some (.int v)) h' 119 [some (.ref l0), some (.int l1), some (.int l2), some (.int l3), some (.int l4), some (.int l5), some (.int l6)] [] h := by
  intro l0 l1 l2 l3 l4 l5 l6 h H
  unfold f_X10_misset_J119 at H
  refine ev_aload_n dX10_misset_119 rfl rfl rfl ?_
  replace H := gd_some H
  obtain ⟨g33, H⟩ := H
  replace H := vl_some H
  obtain ⟨r34, er34, H⟩ := H
  refine ev_getRx dX10_misset_120 fgX10_13 rfl (okOb.p g33) er34 ?_
  refine ev_iload dX10_misset_123 rfl ?_
  refine ev_dup2 dX10_misset_125 rfl (rv_cat _) ?_
  replace H := un_some H
  obtain ⟨b35, eb35, H⟩ := H
  subst eb35
  replace H := gd_some H
  obtain ⟨g36, H⟩ := H
  replace H := vl_some H
  obtain ⟨x37, ex37, H⟩ := H
  refine ev_ialdx dX10_misset_126 (okAb.p g36) ex37 ?_
  refine ev_iconst (v := (1 : Int32)) dX10_misset_127 (by decide) ?_
  refine ev_iadd dX10_misset_128 ?_
  replace H := gd_some H
  obtain ⟨g38, H⟩ := H
  replace H := vl_some H
  obtain ⟨h39, eh39, H⟩ := H
  refine ev_iast dX10_misset_129 (okAb.p g38) eh39 ?_
  refine ev_aload_n dX10_misset_130 rfl rfl rfl ?_
  replace H := vl_some H
  obtain ⟨r40, er40, H⟩ := H
  refine ev_getRx dX10_misset_131 fgX10_13 rfl (okO_sI eh39 (okOb.p g33)) er40 ?_
  refine ev_iload_n dX10_misset_134 rfl rfl ?_
  refine ev_dup2 dX10_misset_135 rfl (rv_cat _) ?_
  replace H := un_some H
  obtain ⟨b41, eb41, H⟩ := H
  subst eb41
  replace H := gd_some H
  obtain ⟨g42, H⟩ := H
  replace H := vl_some H
  obtain ⟨x43, ex43, H⟩ := H
  refine ev_ialdx dX10_misset_136 (okAb.p g42) ex43 ?_
  refine ev_iconst (v := (1 : Int32)) dX10_misset_137 (by decide) ?_
  refine ev_isub dX10_misset_138 ?_
  replace H := gd_some H
  obtain ⟨g44, H⟩ := H
  replace H := vl_some H
  obtain ⟨h45, eh45, H⟩ := H
  refine ev_iast dX10_misset_139 (okAb.p g44) eh45 ?_
  refine ev_aload_n dX10_misset_140 rfl rfl rfl ?_
  replace H := vl_some H
  obtain ⟨r46, er46, H⟩ := H
  refine ev_getRx dX10_misset_141 fgX10_22 rfl (okO_sI eh45 (okO_sI eh39 (okOb.p g33))) er46 ?_
  refine ev_bipush (v := (120 : Int32)) dX10_misset_144 (by decide) ?_
  refine ev_iload_n dX10_misset_146 rfl rfl ?_
  refine ev_imul dX10_misset_147 ?_
  refine ev_iload_n dX10_misset_148 rfl rfl ?_
  refine ev_iadd dX10_misset_149 ?_
  refine ev_iload_n dX10_misset_150 rfl rfl ?_
  replace H := un_some H
  obtain ⟨b47, eb47, H⟩ := H
  subst eb47
  replace H := gd_some H
  obtain ⟨g48, H⟩ := H
  replace H := vl_some H
  obtain ⟨h49, eh49, H⟩ := H
  refine ev_iast dX10_misset_151 (okAb.p g48) eh49 ?_
  refine ev_iload dX10_misset_152 rfl ?_
  refine ev_if_eq (tgt := 225) dX10_misset_154 (by decide) (fun c50 => ?_) (fun c50 => ?_)
  · rw [if_pos c50] at H
    refine ev_iload dX10_misset_225 rfl ?_
    exact ev_iretx dX10_misset_227 rfl rfl H
  · rw [if_neg c50] at H
    refine ev_aload_n dX10_misset_157 rfl rfl rfl ?_
    replace H := vl_some H
    obtain ⟨r51, er51, H⟩ := H
    refine ev_getRx dX10_misset_158 fgX10_85 rfl (okO_sI eh49 (okO_sI eh45 (okO_sI eh39 (okOb.p g33)))) er51 ?_
    refine ev_bipush (v := (30 : Int32)) dX10_misset_161 (by decide) ?_
    refine ev_iload dX10_misset_163 rfl ?_
    refine ev_imul dX10_misset_165 ?_
    refine ev_aload_n dX10_misset_166 rfl rfl rfl ?_
    replace H := vl_some H
    obtain ⟨r52, er52, H⟩ := H
    refine ev_getRx dX10_misset_167 fgX10_79 rfl (okO_sI eh49 (okO_sI eh45 (okO_sI eh39 (okOb.p g33)))) er52 ?_
    refine ev_iload dX10_misset_170 rfl ?_
    replace H := un_some H
    obtain ⟨b53, eb53, H⟩ := H
    subst eb53
    replace H := gd_some H
    obtain ⟨g54, H⟩ := H
    replace H := vl_some H
    obtain ⟨x55, ex55, H⟩ := H
    refine ev_ialdx dX10_misset_172 (okAb.p g54) ex55 ?_
    refine ev_iadd dX10_misset_173 ?_
    refine ev_iload_n dX10_misset_174 rfl rfl ?_
    replace H := un_some H
    obtain ⟨b56, eb56, H⟩ := H
    subst eb56
    replace H := gd_some H
    obtain ⟨g57, H⟩ := H
    replace H := vl_some H
    obtain ⟨h58, eh58, H⟩ := H
    refine ev_iast dX10_misset_175 (okAb.p g57) eh58 ?_
    refine ev_aload_n dX10_misset_176 rfl rfl rfl ?_
    replace H := vl_some H
    obtain ⟨r59, er59, H⟩ := H
    refine ev_getRx dX10_misset_177 fgX10_88 rfl (okO_sI eh58 (okO_sI eh49 (okO_sI eh45 (okO_sI eh39 (okOb.p g33))))) er59 ?_
    refine ev_bipush (v := (30 : Int32)) dX10_misset_180 (by decide) ?_
    refine ev_iload dX10_misset_182 rfl ?_
    refine ev_imul dX10_misset_184 ?_
    refine ev_aload_n dX10_misset_185 rfl rfl rfl ?_
    replace H := vl_some H
    obtain ⟨r60, er60, H⟩ := H
    refine ev_getRx dX10_misset_186 fgX10_79 rfl (okO_sI eh58 (okO_sI eh49 (okO_sI eh45 (okO_sI eh39 (okOb.p g33))))) er60 ?_
    refine ev_iload dX10_misset_189 rfl ?_
    replace H := un_some H
    obtain ⟨b61, eb61, H⟩ := H
    subst eb61
    replace H := gd_some H
    obtain ⟨g62, H⟩ := H
    replace H := vl_some H
    obtain ⟨x63, ex63, H⟩ := H
    refine ev_ialdx dX10_misset_191 (okAb.p g62) ex63 ?_
    refine ev_iadd dX10_misset_192 ?_
    refine ev_iload_n dX10_misset_193 rfl rfl ?_
    replace H := un_some H
    obtain ⟨b64, eb64, H⟩ := H
    subst eb64
    replace H := gd_some H
    obtain ⟨g65, H⟩ := H
    replace H := vl_some H
    obtain ⟨h66, eh66, H⟩ := H
    refine ev_iast dX10_misset_194 (okAb.p g65) eh66 ?_
    refine ev_aload_n dX10_misset_195 rfl rfl rfl ?_
    replace H := vl_some H
    obtain ⟨r67, er67, H⟩ := H
    refine ev_getRx dX10_misset_196 fgX10_91 rfl (okO_sI eh66 (okO_sI eh58 (okO_sI eh49 (okO_sI eh45 (okO_sI eh39 (okOb.p g33)))))) er67 ?_
    refine ev_bipush (v := (30 : Int32)) dX10_misset_199 (by decide) ?_
    refine ev_iload dX10_misset_201 rfl ?_
    refine ev_imul dX10_misset_203 ?_
    refine ev_aload_n dX10_misset_204 rfl rfl rfl ?_
    replace H := vl_some H
    obtain ⟨r68, er68, H⟩ := H
    refine ev_getRx dX10_misset_205 fgX10_79 rfl (okO_sI eh66 (okO_sI eh58 (okO_sI eh49 (okO_sI eh45 (okO_sI eh39 (okOb.p g33)))))) er68 ?_
    refine ev_iload dX10_misset_208 rfl ?_
    replace H := un_some H
    obtain ⟨b69, eb69, H⟩ := H
    subst eb69
    replace H := gd_some H
    obtain ⟨g70, H⟩ := H
    replace H := vl_some H
    obtain ⟨x71, ex71, H⟩ := H
    refine ev_ialdx dX10_misset_210 (okAb.p g70) ex71 ?_
    refine ev_iadd dX10_misset_211 ?_
    refine ev_iload_n dX10_misset_212 rfl rfl ?_
    replace H := un_some H
    obtain ⟨b72, eb72, H⟩ := H
    subst eb72
    replace H := gd_some H
    obtain ⟨g73, H⟩ := H
    replace H := vl_some H
    obtain ⟨h74, eh74, H⟩ := H
    refine ev_iast dX10_misset_213 (okAb.p g73) eh74 ?_
    refine ev_aload_n dX10_misset_214 rfl rfl rfl ?_
    replace H := vl_some H
    obtain ⟨r75, er75, H⟩ := H
    refine ev_getRx dX10_misset_215 fgX10_79 rfl (okO_sI eh74 (okO_sI eh66 (okO_sI eh58 (okO_sI eh49 (okO_sI eh45 (okO_sI eh39 (okOb.p g33))))))) er75 ?_
    refine ev_iload dX10_misset_218 rfl ?_
    refine ev_dup2 dX10_misset_220 rfl (rv_cat _) ?_
    replace H := un_some H
    obtain ⟨b76, eb76, H⟩ := H
    subst eb76
    replace H := gd_some H
    obtain ⟨g77, H⟩ := H
    replace H := vl_some H
    obtain ⟨x78, ex78, H⟩ := H
    refine ev_ialdx dX10_misset_221 (okAb.p g77) ex78 ?_
    refine ev_iconst (v := (1 : Int32)) dX10_misset_222 (by decide) ?_
    refine ev_iadd dX10_misset_223 ?_
    replace H := gd_some H
    obtain ⟨g79, H⟩ := H
    replace H := vl_some H
    obtain ⟨h80, eh80, H⟩ := H
    refine ev_iast dX10_misset_224 (okAb.p g79) eh80 ?_
    refine ev_iload dX10_misset_225 rfl ?_
    exact ev_iretx dX10_misset_227 rfl rfl H
def f_X10_misset_J88 (l0 : Nat) (l1 : Int32) (l2 : Int32) (l3 : Int32) (l4 : Int32) (l5 : Int32) (w0 : Int32) (h : Hp) : Option (Int32 × Hp) :=
gd (okOb h l0 10) <|
vl (gR h l0 1) fun r27 =>
un r27 fun b28 =>
gd (okAb h b28 11 l3) <|
vl (gI h b28 l3.toNatClampNeg) fun x30 =>
if x30 = 0 then (
some ((-4 : Int32), h)) else (
if w0 = 0 then (
f_X10_misset_J119 l0 l1 l2 l3 l4 l5 w0 h) else (
vl (gR h l0 27) fun r81 =>
un r81 fun b82 =>
gd (okAb h b82 11 l5) <|
vl (gI h b82 l5.toNatClampNeg) fun x84 =>
if x84 = (30 : Int32) then (
some ((-4 : Int32), h)) else (
f_X10_misset_J119 l0 l1 l2 l3 l4 l5 w0 h)))
set_option maxHeartbeats 4000000 in
set_option maxRecDepth 100000 in
theorem t_X10_misset_J88 {X : Cx} {d : Nat} {h0 h' : Hp} {v : Int32} (hD : 3 ≤ d) : ∀ (l0 : Nat) (l1 : Int32) (l2 : Int32) (l3 : Int32) (l4 : Int32) (l5 : Int32) (w0 : Int32) (h : Hp), f_X10_misset_J88 l0 l1 l2 l3 l4 l5 w0 h = some (v, h') → EV X mX10_misset d h0 (some (.int v)) h' 88 [some (.ref l0), some (.int l1), some (.int l2), some (.int l3), some (.int l4), some (.int l5), none] [.int w0] h := by
  intro l0 l1 l2 l3 l4 l5 w0 h H
  unfold f_X10_misset_J88 at H
  refine ev_istore (loc2 := [some (.ref l0), some (.int l1), some (.int l2), some (.int l3), some (.int l4), some (.int l5), some (.int w0)]) dX10_misset_88 (by decide) rfl ?_
  refine ev_aload_n dX10_misset_90 rfl rfl rfl ?_
  replace H := gd_some H
  obtain ⟨g26, H⟩ := H
  replace H := vl_some H
  obtain ⟨r27, er27, H⟩ := H
  refine ev_getRx dX10_misset_91 fgX10_13 rfl (okOb.p g26) er27 ?_
  refine ev_iload_n dX10_misset_94 rfl rfl ?_
  replace H := un_some H
  obtain ⟨b28, eb28, H⟩ := H
  subst eb28
  replace H := gd_some H
  obtain ⟨g29, H⟩ := H
  replace H := vl_some H
  obtain ⟨x30, ex30, H⟩ := H
  refine ev_ialdx dX10_misset_95 (okAb.p g29) ex30 ?_
  refine ev_if_eq (tgt := 116) dX10_misset_96 (by decide) (fun c31 => ?_) (fun c31 => ?_)
  · rw [if_pos c31] at H
    refine ev_bipush (v := (-4 : Int32)) dX10_misset_116 (by decide) ?_
    exact ev_iretx dX10_misset_118 rfl rfl H
  · rw [if_neg c31] at H
    refine ev_iload dX10_misset_99 rfl ?_
    refine ev_if_eq (tgt := 119) dX10_misset_101 (by decide) (fun c32 => ?_) (fun c32 => ?_)
    · rw [if_pos c32] at H
      exact t_X10_misset_J119 hD l0 l1 l2 l3 l4 l5 w0 h H
    · rw [if_neg c32] at H
      refine ev_aload_n dX10_misset_104 rfl rfl rfl ?_
      replace H := vl_some H
      obtain ⟨r81, er81, H⟩ := H
      refine ev_getRx dX10_misset_105 fgX10_79 rfl (okOb.p g26) er81 ?_
      refine ev_iload dX10_misset_108 rfl ?_
      replace H := un_some H
      obtain ⟨b82, eb82, H⟩ := H
      subst eb82
      replace H := gd_some H
      obtain ⟨g83, H⟩ := H
      replace H := vl_some H
      obtain ⟨x84, ex84, H⟩ := H
      refine ev_ialdx dX10_misset_110 (okAb.p g83) ex84 ?_
      refine ev_bipush (v := (30 : Int32)) dX10_misset_111 (by decide) ?_
      refine ev_icmp_ne (tgt := 119) dX10_misset_113 (by decide) (fun c85 => ?_) (fun c85 => ?_)
      · rw [if_neg c85] at H
        exact t_X10_misset_J119 hD l0 l1 l2 l3 l4 l5 w0 h H
      · rw [if_pos c85] at H
        refine ev_bipush (v := (-4 : Int32)) dX10_misset_116 (by decide) ?_
        exact ev_iretx dX10_misset_118 rfl rfl H
def f_X10_misset_J87 (l0 : Nat) (l1 : Int32) (l2 : Int32) (l3 : Int32) (l4 : Int32) (l5 : Int32) (h : Hp) : Option (Int32 × Hp) :=
f_X10_misset_J88 l0 l1 l2 l3 l4 l5 (0 : Int32) h
set_option maxHeartbeats 4000000 in
set_option maxRecDepth 100000 in
theorem t_X10_misset_J87 {X : Cx} {d : Nat} {h0 h' : Hp} {v : Int32} (hD : 3 ≤ d) : ∀ (l0 : Nat) (l1 : Int32) (l2 : Int32) (l3 : Int32) (l4 : Int32) (l5 : Int32) (h : Hp), f_X10_misset_J87 l0 l1 l2 l3 l4 l5 h = some (v, h') → EV X mX10_misset d h0 (some (.int v)) h' 87 [some (.ref l0), some (.int l1), some (.int l2), some (.int l3), some (.int l4), some (.int l5), none] [] h := by
  intro l0 l1 l2 l3 l4 l5 h H
  unfold f_X10_misset_J87 at H
  refine ev_iconst (v := (0 : Int32)) dX10_misset_87 (by decide) ?_
  exact t_X10_misset_J88 hD l0 l1 l2 l3 l4 l5 (0 : Int32) h H
def f_X10_misset_J119_3 (l0 : Nat) (l1 : Int32) (l2 : Int32) (l3 : Int32) (l4 : Int32) (l5 : Int32) (l6 : Int32) (h : Hp) : Option (Int32 × Hp) :=
gd (okOb h l0 10) <|
vl (gR h l0 1) fun r99 =>
un r99 fun b100 =>
gd (okAb h b100 11 l4) <|
vl (gI h b100 l4.toNatClampNeg) fun x102 =>
gd (okAb h b100 11 l4) <|
vl (sI h b100 l4.toNatClampNeg (x102 + (1 : Int32))) fun h104 =>
vl (gR h104 l0 1) fun r105 =>
un r105 fun b106 =>
gd (okAb h104 b106 11 l3) <|
vl (gI h104 b106 l3.toNatClampNeg) fun x108 =>
gd (okAb h104 b106 11 l3) <|
vl (sI h104 b106 l3.toNatClampNeg (x108 - (1 : Int32))) fun h110 =>
vl (gR h110 l0 5) fun r111 =>
un r111 fun b112 =>
gd (okAb h110 b112 11 (((120 : Int32) * l1) + l2)) <|
vl (sI h110 b112 (((120 : Int32) * l1) + l2).toNatClampNeg l3) fun h114 =>
if l6 = 0 then (
some (l4, h114)) else (
vl (gR h114 l0 29) fun r116 =>
vl (gR h114 l0 27) fun r117 =>
un r117 fun b118 =>
gd (okAb h114 b118 11 l5) <|
vl (gI h114 b118 l5.toNatClampNeg) fun x120 =>
un r116 fun b121 =>
gd (okAb h114 b121 11 (((30 : Int32) * l5) + x120)) <|
vl (sI h114 b121 (((30 : Int32) * l5) + x120).toNatClampNeg l1) fun h123 =>
vl (gR h123 l0 30) fun r124 =>
vl (gR h123 l0 27) fun r125 =>
un r125 fun b126 =>
gd (okAb h123 b126 11 l5) <|
vl (gI h123 b126 l5.toNatClampNeg) fun x128 =>
un r124 fun b129 =>
gd (okAb h123 b129 11 (((30 : Int32) * l5) + x128)) <|
vl (sI h123 b129 (((30 : Int32) * l5) + x128).toNatClampNeg l2) fun h131 =>
vl (gR h131 l0 31) fun r132 =>
vl (gR h131 l0 27) fun r133 =>
un r133 fun b134 =>
gd (okAb h131 b134 11 l5) <|
vl (gI h131 b134 l5.toNatClampNeg) fun x136 =>
un r132 fun b137 =>
gd (okAb h131 b137 11 (((30 : Int32) * l5) + x136)) <|
vl (sI h131 b137 (((30 : Int32) * l5) + x136).toNatClampNeg l3) fun h139 =>
vl (gR h139 l0 27) fun r140 =>
un r140 fun b141 =>
gd (okAb h139 b141 11 l5) <|
vl (gI h139 b141 l5.toNatClampNeg) fun x143 =>
gd (okAb h139 b141 11 l5) <|
vl (sI h139 b141 l5.toNatClampNeg (x143 + (1 : Int32))) fun h145 =>
some (l4, h145))
set_option maxHeartbeats 4000000 in
set_option maxRecDepth 100000 in
theorem t_X10_misset_J119_3 {X : Cx} {d : Nat} {h0 h' : Hp} {v : Int32} (hD : 3 ≤ d) : ∀ (l0 : Nat) (l1 : Int32) (l2 : Int32) (l3 : Int32) (l4 : Int32) (l5 : Int32) (l6 : Int32) (h : Hp), f_X10_misset_J119_3 l0 l1 l2 l3 l4 l5 l6 h = some (v, h') → EV X mX10_misset d h0 (some (.int v)) h' 119 [some (.ref l0), some (.int l1), some (.int l2), some (.int l3), some (.int l4), some (.int l5), some (.int l6)] [] h := by
  intro l0 l1 l2 l3 l4 l5 l6 h H
  unfold f_X10_misset_J119_3 at H
  refine ev_aload_n dX10_misset_119 rfl rfl rfl ?_
  replace H := gd_some H
  obtain ⟨g98, H⟩ := H
  replace H := vl_some H
  obtain ⟨r99, er99, H⟩ := H
  refine ev_getRx dX10_misset_120 fgX10_13 rfl (okOb.p g98) er99 ?_
  refine ev_iload dX10_misset_123 rfl ?_
  refine ev_dup2 dX10_misset_125 rfl (rv_cat _) ?_
  replace H := un_some H
  obtain ⟨b100, eb100, H⟩ := H
  subst eb100
  replace H := gd_some H
  obtain ⟨g101, H⟩ := H
  replace H := vl_some H
  obtain ⟨x102, ex102, H⟩ := H
  refine ev_ialdx dX10_misset_126 (okAb.p g101) ex102 ?_
  refine ev_iconst (v := (1 : Int32)) dX10_misset_127 (by decide) ?_
  refine ev_iadd dX10_misset_128 ?_
  replace H := gd_some H
  obtain ⟨g103, H⟩ := H
  replace H := vl_some H
  obtain ⟨h104, eh104, H⟩ := H
  refine ev_iast dX10_misset_129 (okAb.p g103) eh104 ?_
  refine ev_aload_n dX10_misset_130 rfl rfl rfl ?_
  replace H := vl_some H
  obtain ⟨r105, er105, H⟩ := H
  refine ev_getRx dX10_misset_131 fgX10_13 rfl (okO_sI eh104 (okOb.p g98)) er105 ?_
  refine ev_iload_n dX10_misset_134 rfl rfl ?_
  refine ev_dup2 dX10_misset_135 rfl (rv_cat _) ?_
  replace H := un_some H
  obtain ⟨b106, eb106, H⟩ := H
  subst eb106
  replace H := gd_some H
  obtain ⟨g107, H⟩ := H
  replace H := vl_some H
  obtain ⟨x108, ex108, H⟩ := H
  refine ev_ialdx dX10_misset_136 (okAb.p g107) ex108 ?_
  refine ev_iconst (v := (1 : Int32)) dX10_misset_137 (by decide) ?_
  refine ev_isub dX10_misset_138 ?_
  replace H := gd_some H
  obtain ⟨g109, H⟩ := H
  replace H := vl_some H
  obtain ⟨h110, eh110, H⟩ := H
  refine ev_iast dX10_misset_139 (okAb.p g109) eh110 ?_
  refine ev_aload_n dX10_misset_140 rfl rfl rfl ?_
  replace H := vl_some H
  obtain ⟨r111, er111, H⟩ := H
  refine ev_getRx dX10_misset_141 fgX10_22 rfl (okO_sI eh110 (okO_sI eh104 (okOb.p g98))) er111 ?_
  refine ev_bipush (v := (120 : Int32)) dX10_misset_144 (by decide) ?_
  refine ev_iload_n dX10_misset_146 rfl rfl ?_
  refine ev_imul dX10_misset_147 ?_
  refine ev_iload_n dX10_misset_148 rfl rfl ?_
  refine ev_iadd dX10_misset_149 ?_
  refine ev_iload_n dX10_misset_150 rfl rfl ?_
  replace H := un_some H
  obtain ⟨b112, eb112, H⟩ := H
  subst eb112
  replace H := gd_some H
  obtain ⟨g113, H⟩ := H
  replace H := vl_some H
  obtain ⟨h114, eh114, H⟩ := H
  refine ev_iast dX10_misset_151 (okAb.p g113) eh114 ?_
  refine ev_iload dX10_misset_152 rfl ?_
  refine ev_if_eq (tgt := 225) dX10_misset_154 (by decide) (fun c115 => ?_) (fun c115 => ?_)
  · rw [if_pos c115] at H
    refine ev_iload dX10_misset_225 rfl ?_
    exact ev_iretx dX10_misset_227 rfl rfl H
  · rw [if_neg c115] at H
    refine ev_aload_n dX10_misset_157 rfl rfl rfl ?_
    replace H := vl_some H
    obtain ⟨r116, er116, H⟩ := H
    refine ev_getRx dX10_misset_158 fgX10_85 rfl (okO_sI eh114 (okO_sI eh110 (okO_sI eh104 (okOb.p g98)))) er116 ?_
    refine ev_bipush (v := (30 : Int32)) dX10_misset_161 (by decide) ?_
    refine ev_iload dX10_misset_163 rfl ?_
    refine ev_imul dX10_misset_165 ?_
    refine ev_aload_n dX10_misset_166 rfl rfl rfl ?_
    replace H := vl_some H
    obtain ⟨r117, er117, H⟩ := H
    refine ev_getRx dX10_misset_167 fgX10_79 rfl (okO_sI eh114 (okO_sI eh110 (okO_sI eh104 (okOb.p g98)))) er117 ?_
    refine ev_iload dX10_misset_170 rfl ?_
    replace H := un_some H
    obtain ⟨b118, eb118, H⟩ := H
    subst eb118
    replace H := gd_some H
    obtain ⟨g119, H⟩ := H
    replace H := vl_some H
    obtain ⟨x120, ex120, H⟩ := H
    refine ev_ialdx dX10_misset_172 (okAb.p g119) ex120 ?_
    refine ev_iadd dX10_misset_173 ?_
    refine ev_iload_n dX10_misset_174 rfl rfl ?_
    replace H := un_some H
    obtain ⟨b121, eb121, H⟩ := H
    subst eb121
    replace H := gd_some H
    obtain ⟨g122, H⟩ := H
    replace H := vl_some H
    obtain ⟨h123, eh123, H⟩ := H
    refine ev_iast dX10_misset_175 (okAb.p g122) eh123 ?_
    refine ev_aload_n dX10_misset_176 rfl rfl rfl ?_
    replace H := vl_some H
    obtain ⟨r124, er124, H⟩ := H
    refine ev_getRx dX10_misset_177 fgX10_88 rfl (okO_sI eh123 (okO_sI eh114 (okO_sI eh110 (okO_sI eh104 (okOb.p g98))))) er124 ?_
    refine ev_bipush (v := (30 : Int32)) dX10_misset_180 (by decide) ?_
    refine ev_iload dX10_misset_182 rfl ?_
    refine ev_imul dX10_misset_184 ?_
    refine ev_aload_n dX10_misset_185 rfl rfl rfl ?_
    replace H := vl_some H
    obtain ⟨r125, er125, H⟩ := H
    refine ev_getRx dX10_misset_186 fgX10_79 rfl (okO_sI eh123 (okO_sI eh114 (okO_sI eh110 (okO_sI eh104 (okOb.p g98))))) er125 ?_
    refine ev_iload dX10_misset_189 rfl ?_
    replace H := un_some H
    obtain ⟨b126, eb126, H⟩ := H
    subst eb126
    replace H := gd_some H
    obtain ⟨g127, H⟩ := H
    replace H := vl_some H
    obtain ⟨x128, ex128, H⟩ := H
    refine ev_ialdx dX10_misset_191 (okAb.p g127) ex128 ?_
    refine ev_iadd dX10_misset_192 ?_
    refine ev_iload_n dX10_misset_193 rfl rfl ?_
    replace H := un_some H
    obtain ⟨b129, eb129, H⟩ := H
    subst eb129
    replace H := gd_some H
    obtain ⟨g130, H⟩ := H
    replace H := vl_some H
    obtain ⟨h131, eh131, H⟩ := H
    refine ev_iast dX10_misset_194 (okAb.p g130) eh131 ?_
    refine ev_aload_n dX10_misset_195 rfl rfl rfl ?_
    replace H := vl_some H
    obtain ⟨r132, er132, H⟩ := H
    refine ev_getRx dX10_misset_196 fgX10_91 rfl (okO_sI eh131 (okO_sI eh123 (okO_sI eh114 (okO_sI eh110 (okO_sI eh104 (okOb.p g98)))))) er132 ?_
    refine ev_bipush (v := (30 : Int32)) dX10_misset_199 (by decide) ?_
    refine ev_iload dX10_misset_201 rfl ?_
    refine ev_imul dX10_misset_203 ?_
    refine ev_aload_n dX10_misset_204 rfl rfl rfl ?_
    replace H := vl_some H
    obtain ⟨r133, er133, H⟩ := H
    refine ev_getRx dX10_misset_205 fgX10_79 rfl (okO_sI eh131 (okO_sI eh123 (okO_sI eh114 (okO_sI eh110 (okO_sI eh104 (okOb.p g98)))))) er133 ?_
    refine ev_iload dX10_misset_208 rfl ?_
    replace H := un_some H
    obtain ⟨b134, eb134, H⟩ := H
    subst eb134
    replace H := gd_some H
    obtain ⟨g135, H⟩ := H
    replace H := vl_some H
    obtain ⟨x136, ex136, H⟩ := H
    refine ev_ialdx dX10_misset_210 (okAb.p g135) ex136 ?_
    refine ev_iadd dX10_misset_211 ?_
    refine ev_iload_n dX10_misset_212 rfl rfl ?_
    replace H := un_some H
    obtain ⟨b137, eb137, H⟩ := H
    subst eb137
    replace H := gd_some H
    obtain ⟨g138, H⟩ := H
    replace H := vl_some H
    obtain ⟨h139, eh139, H⟩ := H
    refine ev_iast dX10_misset_213 (okAb.p g138) eh139 ?_
    refine ev_aload_n dX10_misset_214 rfl rfl rfl ?_
    replace H := vl_some H
    obtain ⟨r140, er140, H⟩ := H
    refine ev_getRx dX10_misset_215 fgX10_79 rfl (okO_sI eh139 (okO_sI eh131 (okO_sI eh123 (okO_sI eh114 (okO_sI eh110 (okO_sI eh104 (okOb.p g98))))))) er140 ?_
    refine ev_iload dX10_misset_218 rfl ?_
    refine ev_dup2 dX10_misset_220 rfl (rv_cat _) ?_
    replace H := un_some H
    obtain ⟨b141, eb141, H⟩ := H
    subst eb141
    replace H := gd_some H
    obtain ⟨g142, H⟩ := H
    replace H := vl_some H
    obtain ⟨x143, ex143, H⟩ := H
    refine ev_ialdx dX10_misset_221 (okAb.p g142) ex143 ?_
    refine ev_iconst (v := (1 : Int32)) dX10_misset_222 (by decide) ?_
    refine ev_iadd dX10_misset_223 ?_
    replace H := gd_some H
    obtain ⟨g144, H⟩ := H
    replace H := vl_some H
    obtain ⟨h145, eh145, H⟩ := H
    refine ev_iast dX10_misset_224 (okAb.p g144) eh145 ?_
    refine ev_iload dX10_misset_225 rfl ?_
    exact ev_iretx dX10_misset_227 rfl rfl H
def f_X10_misset_J88_3 (l0 : Nat) (l1 : Int32) (l2 : Int32) (l3 : Int32) (l4 : Int32) (l5 : Int32) (w0 : Int32) (h : Hp) : Option (Int32 × Hp) :=
gd (okOb h l0 10) <|
vl (gR h l0 1) fun r92 =>
un r92 fun b93 =>
gd (okAb h b93 11 l3) <|
vl (gI h b93 l3.toNatClampNeg) fun x95 =>
if x95 = 0 then (
some ((-4 : Int32), h)) else (
if w0 = 0 then (
f_X10_misset_J119_3 l0 l1 l2 l3 l4 l5 w0 h) else (
vl (gR h l0 27) fun r146 =>
un r146 fun b147 =>
gd (okAb h b147 11 l5) <|
vl (gI h b147 l5.toNatClampNeg) fun x149 =>
if x149 = (30 : Int32) then (
some ((-4 : Int32), h)) else (
f_X10_misset_J119_3 l0 l1 l2 l3 l4 l5 w0 h)))
set_option maxHeartbeats 4000000 in
set_option maxRecDepth 100000 in
theorem t_X10_misset_J88_3 {X : Cx} {d : Nat} {h0 h' : Hp} {v : Int32} (hD : 3 ≤ d) : ∀ (l0 : Nat) (l1 : Int32) (l2 : Int32) (l3 : Int32) (l4 : Int32) (l5 : Int32) (w0 : Int32) (h : Hp), f_X10_misset_J88_3 l0 l1 l2 l3 l4 l5 w0 h = some (v, h') → EV X mX10_misset d h0 (some (.int v)) h' 88 [some (.ref l0), some (.int l1), some (.int l2), some (.int l3), some (.int l4), some (.int l5), none] [.int w0] h := by
  intro l0 l1 l2 l3 l4 l5 w0 h H
  unfold f_X10_misset_J88_3 at H
  refine ev_istore (loc2 := [some (.ref l0), some (.int l1), some (.int l2), some (.int l3), some (.int l4), some (.int l5), some (.int w0)]) dX10_misset_88 (by decide) rfl ?_
  refine ev_aload_n dX10_misset_90 rfl rfl rfl ?_
  replace H := gd_some H
  obtain ⟨g91, H⟩ := H
  replace H := vl_some H
  obtain ⟨r92, er92, H⟩ := H
  refine ev_getRx dX10_misset_91 fgX10_13 rfl (okOb.p g91) er92 ?_
  refine ev_iload_n dX10_misset_94 rfl rfl ?_
  replace H := un_some H
  obtain ⟨b93, eb93, H⟩ := H
  subst eb93
  replace H := gd_some H
  obtain ⟨g94, H⟩ := H
  replace H := vl_some H
  obtain ⟨x95, ex95, H⟩ := H
  refine ev_ialdx dX10_misset_95 (okAb.p g94) ex95 ?_
  refine ev_if_eq (tgt := 116) dX10_misset_96 (by decide) (fun c96 => ?_) (fun c96 => ?_)
  · rw [if_pos c96] at H
    refine ev_bipush (v := (-4 : Int32)) dX10_misset_116 (by decide) ?_
    exact ev_iretx dX10_misset_118 rfl rfl H
  · rw [if_neg c96] at H
    refine ev_iload dX10_misset_99 rfl ?_
    refine ev_if_eq (tgt := 119) dX10_misset_101 (by decide) (fun c97 => ?_) (fun c97 => ?_)
    · rw [if_pos c97] at H
      exact t_X10_misset_J119_3 hD l0 l1 l2 l3 l4 l5 w0 h H
    · rw [if_neg c97] at H
      refine ev_aload_n dX10_misset_104 rfl rfl rfl ?_
      replace H := vl_some H
      obtain ⟨r146, er146, H⟩ := H
      refine ev_getRx dX10_misset_105 fgX10_79 rfl (okOb.p g91) er146 ?_
      refine ev_iload dX10_misset_108 rfl ?_
      replace H := un_some H
      obtain ⟨b147, eb147, H⟩ := H
      subst eb147
      replace H := gd_some H
      obtain ⟨g148, H⟩ := H
      replace H := vl_some H
      obtain ⟨x149, ex149, H⟩ := H
      refine ev_ialdx dX10_misset_110 (okAb.p g148) ex149 ?_
      refine ev_bipush (v := (30 : Int32)) dX10_misset_111 (by decide) ?_
      refine ev_icmp_ne (tgt := 119) dX10_misset_113 (by decide) (fun c150 => ?_) (fun c150 => ?_)
      · rw [if_neg c150] at H
        exact t_X10_misset_J119_3 hD l0 l1 l2 l3 l4 l5 w0 h H
      · rw [if_pos c150] at H
        refine ev_bipush (v := (-4 : Int32)) dX10_misset_116 (by decide) ?_
        exact ev_iretx dX10_misset_118 rfl rfl H
def f_X10_misset (h : Hp) (a0 : Nat) (a1 : Int32) (a2 : Int32) (a3 : Int32) : Option (Int32 × Hp) :=
gd (okOb h a0 10) <|
bnd (f_X10_isPlace h a0 a1 a2) fun v2 h3 =>
if v2 = 0 then (
some ((-1 : Int32), h3)) else (
bnd (f_X10_isLetter h3 a3) fun v5 h6 =>
if v5 = 0 then (
some ((-1 : Int32), h6)) else (
vl (gR h6 a0 7) fun r8 =>
un r8 fun b9 =>
gd (okAb h6 b9 11 a1) <|
vl (gI h6 b9 a1.toNatClampNeg) fun x11 =>
if 0 ≤ x11 then (
vl (gR h6 a0 5) fun r13 =>
un r13 fun b14 =>
gd (okAb h6 b14 11 (((120 : Int32) * a1) + a2)) <|
vl (gI h6 b14 (((120 : Int32) * a1) + a2).toNatClampNeg) fun x16 =>
if x16 = a3 then (
some ((-2 : Int32), h6)) else (
bnd (f_X10_isLetter h6 x16) fun v18 h19 =>
if v18 = 0 then (
some ((-2 : Int32), h19)) else (
vl (gR h19 a0 8) fun r21 =>
un r21 fun b22 =>
gd (okAb h19 b22 11 a1) <|
vl (gI h19 b22 a1.toNatClampNeg) fun x24 =>
if x24 < 0 then (
f_X10_misset_J87 a0 a1 a2 a3 x16 x24 h19) else (
vl (gR h19 a0 26) fun r86 =>
un r86 fun b87 =>
gd (okAb h19 b87 11 x24) <|
vl (gI h19 b87 x24.toNatClampNeg) fun x89 =>
if x89 ≤ 0 then (
f_X10_misset_J87 a0 a1 a2 a3 x16 x24 h19) else (
f_X10_misset_J88_3 a0 a1 a2 a3 x16 x24 (1 : Int32) h19))))) else (
some ((-3 : Int32), h6))))
set_option maxHeartbeats 4000000 in
set_option maxRecDepth 100000 in
theorem t_X10_misset {X : Cx} {d : Nat} {h : Hp} {a0 : Nat} {a1 : Int32} {a2 : Int32} {a3 : Int32} {v : Int32} {h' : Hp} (hD : 3 ≤ d) (H : f_X10_misset h a0 a1 a2 a3 = some (v, h')) : PM X mX10_misset d [.ref a0, .int a1, .int a2, .int a3] h (some (.int v)) h' := by
  unfold f_X10_misset at H
  refine PM.of (loc := [some (.ref a0), some (.int a1), some (.int a2), some (.int a3), none, none, none]) (by decide) rfl (Nat.le_of_ble_eq_true rfl) ?_
  refine ev_aload_n dX10_misset_0 rfl rfl rfl ?_
  refine ev_iload_n dX10_misset_1 rfl rfl ?_
  refine ev_iload_n dX10_misset_2 rfl rfl ?_
  replace H := gd_some H
  obtain ⟨g1, H⟩ := H
  replace H := bnd_some H
  obtain ⟨v2, h3, eh3, H⟩ := H
  have ph3 := (t_X10_isPlace (X := X) (d := 2) (by omega) eh3)
  refine ev_callV (as := [.int a1, .int a2]) dX10_misset_3 ph3 ok_X10_isPlace (by omega) rfl k5_130 k5_132 ks_29 (ci := 10) (by decide) rfl rfl (okOb.p g1) rfl (Nat.le_of_ble_eq_true rfl) ?_
  refine ev_if_eq (tgt := 16) dX10_misset_6 (by decide) (fun c4 => ?_) (fun c4 => ?_)
  · rw [if_pos c4] at H
    refine ev_iconst (v := (-1 : Int32)) dX10_misset_16 (by decide) ?_
    exact ev_iretx dX10_misset_17 rfl rfl H
  · rw [if_neg c4] at H
    refine ev_iload_n dX10_misset_9 rfl rfl ?_
    replace H := bnd_some H
    obtain ⟨v5, h6, eh6, H⟩ := H
    have ph6 := (t_X10_isLetter (X := X) (d := 1) (by omega) eh6)
    refine ev_callS (as := [.int a3]) dX10_misset_10 ph6 ok_X10_isLetter (by omega) rfl k5_96 k5_97 rfl (Nat.le_of_ble_eq_true rfl) ?_
    refine ev_if_ne (tgt := 18) dX10_misset_13 (by decide) (fun c7 => ?_) (fun c7 => ?_)
    · rw [if_neg c7] at H
      refine ev_aload_n dX10_misset_18 rfl rfl rfl ?_
      replace H := vl_some H
      obtain ⟨r8, er8, H⟩ := H
      refine ev_getRx dX10_misset_19 fgX10_28 rfl (okO_ext ph6.1 (okO_ext ph3.1 (okOb.p g1))) er8 ?_
      refine ev_iload_n dX10_misset_22 rfl rfl ?_
      replace H := un_some H
      obtain ⟨b9, eb9, H⟩ := H
      subst eb9
      replace H := gd_some H
      obtain ⟨g10, H⟩ := H
      replace H := vl_some H
      obtain ⟨x11, ex11, H⟩ := H
      refine ev_ialdx dX10_misset_23 (okAb.p g10) ex11 ?_
      refine ev_if_ge (tgt := 30) dX10_misset_24 (by decide) (fun c12 => ?_) (fun c12 => ?_)
      · rw [if_pos c12] at H
        refine ev_aload_n dX10_misset_30 rfl rfl rfl ?_
        replace H := vl_some H
        obtain ⟨r13, er13, H⟩ := H
        refine ev_getRx dX10_misset_31 fgX10_22 rfl (okO_ext ph6.1 (okO_ext ph3.1 (okOb.p g1))) er13 ?_
        refine ev_bipush (v := (120 : Int32)) dX10_misset_34 (by decide) ?_
        refine ev_iload_n dX10_misset_36 rfl rfl ?_
        refine ev_imul dX10_misset_37 ?_
        refine ev_iload_n dX10_misset_38 rfl rfl ?_
        refine ev_iadd dX10_misset_39 ?_
        replace H := un_some H
        obtain ⟨b14, eb14, H⟩ := H
        subst eb14
        replace H := gd_some H
        obtain ⟨g15, H⟩ := H
        replace H := vl_some H
        obtain ⟨x16, ex16, H⟩ := H
        refine ev_ialdx dX10_misset_40 (okAb.p g15) ex16 ?_
        refine ev_istore (loc2 := [some (.ref a0), some (.int a1), some (.int a2), some (.int a3), some (.int x16), none, none]) dX10_misset_41 (by decide) rfl ?_
        refine ev_iload dX10_misset_43 rfl ?_
        refine ev_iload_n dX10_misset_45 rfl rfl ?_
        refine ev_icmp_eq (tgt := 57) dX10_misset_46 (by decide) (fun c17 => ?_) (fun c17 => ?_)
        · rw [if_pos c17] at H
          refine ev_bipush (v := (-2 : Int32)) dX10_misset_57 (by decide) ?_
          exact ev_iretx dX10_misset_59 rfl rfl H
        · rw [if_neg c17] at H
          refine ev_iload dX10_misset_49 rfl ?_
          replace H := bnd_some H
          obtain ⟨v18, h19, eh19, H⟩ := H
          have ph19 := (t_X10_isLetter (X := X) (d := 1) (by omega) eh19)
          refine ev_callS (as := [.int x16]) dX10_misset_51 ph19 ok_X10_isLetter (by omega) rfl k5_96 k5_97 rfl (Nat.le_of_ble_eq_true rfl) ?_
          refine ev_if_ne (tgt := 60) dX10_misset_54 (by decide) (fun c20 => ?_) (fun c20 => ?_)
          · rw [if_neg c20] at H
            refine ev_aload_n dX10_misset_60 rfl rfl rfl ?_
            replace H := vl_some H
            obtain ⟨r21, er21, H⟩ := H
            refine ev_getRx dX10_misset_61 fgX10_31 rfl (okO_ext ph19.1 (okO_ext ph6.1 (okO_ext ph3.1 (okOb.p g1)))) er21 ?_
            refine ev_iload_n dX10_misset_64 rfl rfl ?_
            replace H := un_some H
            obtain ⟨b22, eb22, H⟩ := H
            subst eb22
            replace H := gd_some H
            obtain ⟨g23, H⟩ := H
            replace H := vl_some H
            obtain ⟨x24, ex24, H⟩ := H
            refine ev_ialdx dX10_misset_65 (okAb.p g23) ex24 ?_
            refine ev_istore (loc2 := [some (.ref a0), some (.int a1), some (.int a2), some (.int a3), some (.int x16), some (.int x24), none]) dX10_misset_66 (by decide) rfl ?_
            refine ev_iload dX10_misset_68 rfl ?_
            refine ev_if_lt (tgt := 87) dX10_misset_70 (by decide) (fun c25 => ?_) (fun c25 => ?_)
            · rw [if_pos c25] at H
              exact t_X10_misset_J87 hD a0 a1 a2 a3 x16 x24 h19 H
            · rw [if_neg c25] at H
              refine ev_aload_n dX10_misset_73 rfl rfl rfl ?_
              replace H := vl_some H
              obtain ⟨r86, er86, H⟩ := H
              refine ev_getRx dX10_misset_74 fgX10_76 rfl (okO_ext ph19.1 (okO_ext ph6.1 (okO_ext ph3.1 (okOb.p g1)))) er86 ?_
              refine ev_iload dX10_misset_77 rfl ?_
              replace H := un_some H
              obtain ⟨b87, eb87, H⟩ := H
              subst eb87
              replace H := gd_some H
              obtain ⟨g88, H⟩ := H
              replace H := vl_some H
              obtain ⟨x89, ex89, H⟩ := H
              refine ev_ialdx dX10_misset_79 (okAb.p g88) ex89 ?_
              refine ev_if_le (tgt := 87) dX10_misset_80 (by decide) (fun c90 => ?_) (fun c90 => ?_)
              · rw [if_pos c90] at H
                exact t_X10_misset_J87 hD a0 a1 a2 a3 x16 x24 h19 H
              · rw [if_neg c90] at H
                refine ev_iconst (v := (1 : Int32)) dX10_misset_83 (by decide) ?_
                refine ev_goto (tgt := 88) dX10_misset_84 (by decide) ?_
                exact t_X10_misset_J88_3 hD a0 a1 a2 a3 x16 x24 (1 : Int32) h19 H
          · rw [if_pos c20] at H
            refine ev_bipush (v := (-2 : Int32)) dX10_misset_57 (by decide) ?_
            exact ev_iretx dX10_misset_59 rfl rfl H
      · rw [if_neg c12] at H
        refine ev_bipush (v := (-3 : Int32)) dX10_misset_27 (by decide) ?_
        exact ev_iretx dX10_misset_29 rfl rfl H
    · rw [if_pos c7] at H
      refine ev_iconst (v := (-1 : Int32)) dX10_misset_16 (by decide) ?_
      exact ev_iretx dX10_misset_17 rfl rfl H

theorem dX10_distribute_0 : decode cX10_distribute 0 = .ok (.aload_n 0, 1) := by decide +kernel
theorem dX10_distribute_1 : decode cX10_distribute 1 = .ok (.iload_n 1, 1) := by decide +kernel
theorem dX10_distribute_2 : decode cX10_distribute 2 = .ok (.invokevirtual 145, 3) := by decide +kernel
theorem dX10_distribute_5 : decode cX10_distribute 5 = .ok (.ifCond .ne 5, 3) := by decide +kernel
theorem dX10_distribute_8 : decode cX10_distribute 8 = .ok (.iconst (-1), 1) := by decide +kernel
theorem dX10_distribute_9 : decode cX10_distribute 9 = .ok (.ireturn, 1) := by decide +kernel
theorem dX10_distribute_10 : decode cX10_distribute 10 = .ok (.aload_n 0, 1) := by decide +kernel
theorem dX10_distribute_11 : decode cX10_distribute 11 = .ok (.getfield 28, 3) := by decide +kernel
theorem dX10_distribute_14 : decode cX10_distribute 14 = .ok (.iload_n 1, 1) := by decide +kernel
theorem dX10_distribute_15 : decode cX10_distribute 15 = .ok (.iaload, 1) := by decide +kernel
theorem dX10_distribute_16 : decode cX10_distribute 16 = .ok (.ifCond .lt 12, 3) := by decide +kernel
theorem dX10_distribute_19 : decode cX10_distribute 19 = .ok (.aload_n 0, 1) := by decide +kernel
theorem dX10_distribute_20 : decode cX10_distribute 20 = .ok (.getfield 31, 3) := by decide +kernel
theorem dX10_distribute_23 : decode cX10_distribute 23 = .ok (.iload_n 1, 1) := by decide +kernel
theorem dX10_distribute_24 : decode cX10_distribute 24 = .ok (.iaload, 1) := by decide +kernel
theorem dX10_distribute_25 : decode cX10_distribute 25 = .ok (.ifCond .lt 6, 3) := by decide +kernel
theorem dX10_distribute_28 : decode cX10_distribute 28 = .ok (.bipush (-3), 2) := by decide +kernel
theorem dX10_distribute_30 : decode cX10_distribute 30 = .ok (.ireturn, 1) := by decide +kernel
theorem dX10_distribute_31 : decode cX10_distribute 31 = .ok (.iconst 0, 1) := by decide +kernel
theorem dX10_distribute_32 : decode cX10_distribute 32 = .ok (.istore_n 2, 1) := by decide +kernel
theorem dX10_distribute_33 : decode cX10_distribute 33 = .ok (.iload_n 2, 1) := by decide +kernel
theorem dX10_distribute_34 : decode cX10_distribute 34 = .ok (.aload_n 0, 1) := by decide +kernel
theorem dX10_distribute_35 : decode cX10_distribute 35 = .ok (.getfield 16, 3) := by decide +kernel
theorem dX10_distribute_38 : decode cX10_distribute 38 = .ok (.iload_n 1, 1) := by decide +kernel
theorem dX10_distribute_39 : decode cX10_distribute 39 = .ok (.iaload, 1) := by decide +kernel
theorem dX10_distribute_40 : decode cX10_distribute 40 = .ok (.if_icmp .ge 38, 3) := by decide +kernel
theorem dX10_distribute_43 : decode cX10_distribute 43 = .ok (.aload_n 0, 1) := by decide +kernel
theorem dX10_distribute_44 : decode cX10_distribute 44 = .ok (.getfield 22, 3) := by decide +kernel
theorem dX10_distribute_47 : decode cX10_distribute 47 = .ok (.bipush 120, 2) := by decide +kernel
theorem dX10_distribute_49 : decode cX10_distribute 49 = .ok (.iload_n 1, 1) := by decide +kernel
theorem dX10_distribute_50 : decode cX10_distribute 50 = .ok (.imul, 1) := by decide +kernel
theorem dX10_distribute_51 : decode cX10_distribute 51 = .ok (.iload_n 2, 1) := by decide +kernel
theorem dX10_distribute_52 : decode cX10_distribute 52 = .ok (.iadd, 1) := by decide +kernel
theorem dX10_distribute_53 : decode cX10_distribute 53 = .ok (.iaload, 1) := by decide +kernel
theorem dX10_distribute_54 : decode cX10_distribute 54 = .ok (.istore_n 3, 1) := by decide +kernel
theorem dX10_distribute_55 : decode cX10_distribute 55 = .ok (.iload_n 3, 1) := by decide +kernel
theorem dX10_distribute_56 : decode cX10_distribute 56 = .ok (.invokestatic 160, 3) := by decide +kernel
theorem dX10_distribute_59 : decode cX10_distribute 59 = .ok (.ifCond .eq 13, 3) := by decide +kernel
theorem dX10_distribute_62 : decode cX10_distribute 62 = .ok (.aload_n 0, 1) := by decide +kernel
theorem dX10_distribute_63 : decode cX10_distribute 63 = .ok (.getfield 13, 3) := by decide +kernel
theorem dX10_distribute_66 : decode cX10_distribute 66 = .ok (.iload_n 3, 1) := by decide +kernel
theorem dX10_distribute_67 : decode cX10_distribute 67 = .ok (.dup2, 1) := by decide +kernel
theorem dX10_distribute_68 : decode cX10_distribute 68 = .ok (.iaload, 1) := by decide +kernel
theorem dX10_distribute_69 : decode cX10_distribute 69 = .ok (.iconst 1, 1) := by decide +kernel
theorem dX10_distribute_70 : decode cX10_distribute 70 = .ok (.iadd, 1) := by decide +kernel
theorem dX10_distribute_71 : decode cX10_distribute 71 = .ok (.iastore, 1) := by decide +kernel
theorem dX10_distribute_72 : decode cX10_distribute 72 = .ok (.iinc 2 1, 3) := by decide +kernel
theorem dX10_distribute_75 : decode cX10_distribute 75 = .ok (.goto (-42), 3) := by decide +kernel
theorem dX10_distribute_78 : decode cX10_distribute 78 = .ok (.aload_n 0, 1) := by decide +kernel
theorem dX10_distribute_79 : decode cX10_distribute 79 = .ok (.getfield 28, 3) := by decide +kernel
theorem dX10_distribute_82 : decode cX10_distribute 82 = .ok (.iload_n 1, 1) := by decide +kernel
theorem dX10_distribute_83 : decode cX10_distribute 83 = .ok (.iconst (-1), 1) := by decide +kernel
theorem dX10_distribute_84 : decode cX10_distribute 84 = .ok (.iastore, 1) := by decide +kernel
theorem dX10_distribute_85 : decode cX10_distribute 85 = .ok (.aload_n 0, 1) := by decide +kernel
theorem dX10_distribute_86 : decode cX10_distribute 86 = .ok (.iload_n 1, 1) := by decide +kernel
theorem dX10_distribute_87 : decode cX10_distribute 87 = .ok (.invokevirtual 172, 3) := by decide +kernel
theorem dX10_distribute_90 : decode cX10_distribute 90 = .ok (.ireturn, 1) := by decide +kernel
def f_X10_distribute_L33 : Nat → Nat → Int32 → Int32 → Hp → Option (Int32 × Hp)
  | 0, _, _, _, _ => none
  | n + 1, l0, l1, l2, h =>
    gd (okOb h l0 10) <|
    vl (gR h l0 3) fun r16 =>
    un r16 fun b17 =>
    gd (okAb h b17 11 l1) <|
    vl (gI h b17 l1.toNatClampNeg) fun x19 =>
    if x19 ≤ l2 then (
    vl (gR h l0 7) fun r21 =>
    un r21 fun b22 =>
    gd (okAb h b22 11 l1) <|
    vl (sI h b22 l1.toNatClampNeg (-1 : Int32)) fun h24 =>
    bnd (f_X10_lettersOf h24 l0 l1) fun v25 h26 =>
    some (v25, h26)) else (
    vl (gR h l0 5) fun r27 =>
    un r27 fun b28 =>
    gd (okAb h b28 11 (((120 : Int32) * l1) + l2)) <|
    vl (gI h b28 (((120 : Int32) * l1) + l2).toNatClampNeg) fun x30 =>
    bnd (f_X10_isLetter h x30) fun v31 h32 =>
    if v31 = 0 then (
    vl (l2 + (1 : Int32)) fun x34 =>
    f_X10_distribute_L33 n l0 l1 x34 h32) else (
    vl (gR h32 l0 1) fun r35 =>
    un r35 fun b36 =>
    gd (okAb h32 b36 11 x30) <|
    vl (gI h32 b36 x30.toNatClampNeg) fun x38 =>
    gd (okAb h32 b36 11 x30) <|
    vl (sI h32 b36 x30.toNatClampNeg (x38 + (1 : Int32))) fun h40 =>
    vl (l2 + (1 : Int32)) fun x41 =>
    f_X10_distribute_L33 n l0 l1 x41 h40))
set_option maxHeartbeats 4000000 in
set_option maxRecDepth 100000 in
theorem t_X10_distribute_L33 {X : Cx} {d : Nat} {h0 h' : Hp} {v : Int32} (hD : 3 ≤ d) : ∀ (n : Nat) (l0 : Nat) (l1 : Int32) (l2 : Int32) (h : Hp), f_X10_distribute_L33 n l0 l1 l2 h = some (v, h') → EV X mX10_distribute d h0 (some (.int v)) h' 33 [some (.ref l0), some (.int l1), some (.int l2), none] [] h := by
  intro n
  induction n with
  | zero => intro l0 l1 l2 h H; simp [f_X10_distribute_L33] at H
  | succ n ih =>
    intro l0 l1 l2 h H
    rw [f_X10_distribute_L33] at H
    refine ev_iload_n dX10_distribute_33 rfl rfl ?_
    refine ev_aload_n dX10_distribute_34 rfl rfl rfl ?_
    replace H := gd_some H
    obtain ⟨g15, H⟩ := H
    replace H := vl_some H
    obtain ⟨r16, er16, H⟩ := H
    refine ev_getRx dX10_distribute_35 fgX10_16 rfl (okOb.p g15) er16 ?_
    refine ev_iload_n dX10_distribute_38 rfl rfl ?_
    replace H := un_some H
    obtain ⟨b17, eb17, H⟩ := H
    subst eb17
    replace H := gd_some H
    obtain ⟨g18, H⟩ := H
    replace H := vl_some H
    obtain ⟨x19, ex19, H⟩ := H
    refine ev_ialdx dX10_distribute_39 (okAb.p g18) ex19 ?_
    refine ev_icmp_ge (tgt := 78) dX10_distribute_40 (by decide) (fun c20 => ?_) (fun c20 => ?_)
    · rw [if_pos c20] at H
      refine ev_aload_n dX10_distribute_78 rfl rfl rfl ?_
      replace H := vl_some H
      obtain ⟨r21, er21, H⟩ := H
      refine ev_getRx dX10_distribute_79 fgX10_28 rfl (okOb.p g15) er21 ?_
      refine ev_iload_n dX10_distribute_82 rfl rfl ?_
      refine ev_iconst (v := (-1 : Int32)) dX10_distribute_83 (by decide) ?_
      replace H := un_some H
      obtain ⟨b22, eb22, H⟩ := H
      subst eb22
      replace H := gd_some H
      obtain ⟨g23, H⟩ := H
      replace H := vl_some H
      obtain ⟨h24, eh24, H⟩ := H
      refine ev_iast dX10_distribute_84 (okAb.p g23) eh24 ?_
      refine ev_aload_n dX10_distribute_85 rfl rfl rfl ?_
      refine ev_iload_n dX10_distribute_86 rfl rfl ?_
      replace H := bnd_some H
      obtain ⟨v25, h26, eh26, H⟩ := H
      have ph26 := (t_X10_lettersOf (X := X) (d := 2) (by omega) eh26)
      refine ev_callV (as := [.int l1]) dX10_distribute_87 ph26 ok_X10_lettersOf (by omega) rfl k5_122 k5_124 ks_28 (ci := 10) (by decide) rfl rfl (okO_sI eh24 (okOb.p g15)) rfl (Nat.le_of_ble_eq_true rfl) ?_
      exact ev_iretx dX10_distribute_90 rfl rfl H
    · rw [if_neg c20] at H
      refine ev_aload_n dX10_distribute_43 rfl rfl rfl ?_
      replace H := vl_some H
      obtain ⟨r27, er27, H⟩ := H
      refine ev_getRx dX10_distribute_44 fgX10_22 rfl (okOb.p g15) er27 ?_
      refine ev_bipush (v := (120 : Int32)) dX10_distribute_47 (by decide) ?_
      refine ev_iload_n dX10_distribute_49 rfl rfl ?_
      refine ev_imul dX10_distribute_50 ?_
      refine ev_iload_n dX10_distribute_51 rfl rfl ?_
      refine ev_iadd dX10_distribute_52 ?_
      replace H := un_some H
      obtain ⟨b28, eb28, H⟩ := H
      subst eb28
      replace H := gd_some H
      obtain ⟨g29, H⟩ := H
      replace H := vl_some H
      obtain ⟨x30, ex30, H⟩ := H
      refine ev_ialdx dX10_distribute_53 (okAb.p g29) ex30 ?_
      refine ev_istore_n (loc2 := [some (.ref l0), some (.int l1), some (.int l2), some (.int x30)]) dX10_distribute_54 rfl (by decide) rfl ?_
      refine ev_iload_n dX10_distribute_55 rfl rfl ?_
      replace H := bnd_some H
      obtain ⟨v31, h32, eh32, H⟩ := H
      have ph32 := (t_X10_isLetter (X := X) (d := 1) (by omega) eh32)
      refine ev_callS (as := [.int x30]) dX10_distribute_56 ph32 ok_X10_isLetter (by omega) rfl k5_96 k5_97 rfl (Nat.le_of_ble_eq_true rfl) ?_
      refine ev_if_eq (tgt := 72) dX10_distribute_59 (by decide) (fun c33 => ?_) (fun c33 => ?_)
      · rw [if_pos c33] at H
        replace H := vl_some H
        obtain ⟨x34, ex34, H⟩ := H
        refine ev_iincx (loc2 := [some (.ref l0), some (.int l1), some (.int x34), some (.int x30)]) dX10_distribute_72 rfl (by decide) ex34 (by decide) rfl ?_
        refine ev_goto (tgt := 33) dX10_distribute_75 (by decide) ?_
        refine ev_drop (loc2 := [some (.ref l0), some (.int l1), some (.int x34), none]) [true, true, true, false] rfl ?_
        exact ih l0 l1 x34 h32 H
      · rw [if_neg c33] at H
        refine ev_aload_n dX10_distribute_62 rfl rfl rfl ?_
        replace H := vl_some H
        obtain ⟨r35, er35, H⟩ := H
        refine ev_getRx dX10_distribute_63 fgX10_13 rfl (okO_ext ph32.1 (okOb.p g15)) er35 ?_
        refine ev_iload_n dX10_distribute_66 rfl rfl ?_
        refine ev_dup2 dX10_distribute_67 rfl (rv_cat _) ?_
        replace H := un_some H
        obtain ⟨b36, eb36, H⟩ := H
        subst eb36
        replace H := gd_some H
        obtain ⟨g37, H⟩ := H
        replace H := vl_some H
        obtain ⟨x38, ex38, H⟩ := H
        refine ev_ialdx dX10_distribute_68 (okAb.p g37) ex38 ?_
        refine ev_iconst (v := (1 : Int32)) dX10_distribute_69 (by decide) ?_
        refine ev_iadd dX10_distribute_70 ?_
        replace H := gd_some H
        obtain ⟨g39, H⟩ := H
        replace H := vl_some H
        obtain ⟨h40, eh40, H⟩ := H
        refine ev_iast dX10_distribute_71 (okAb.p g39) eh40 ?_
        replace H := vl_some H
        obtain ⟨x41, ex41, H⟩ := H
        refine ev_iincx (loc2 := [some (.ref l0), some (.int l1), some (.int x41), some (.int x30)]) dX10_distribute_72 rfl (by decide) ex41 (by decide) rfl ?_
        refine ev_goto (tgt := 33) dX10_distribute_75 (by decide) ?_
        refine ev_drop (loc2 := [some (.ref l0), some (.int l1), some (.int x41), none]) [true, true, true, false] rfl ?_
        exact ih l0 l1 x41 h40 H
def f_X10_distribute (h : Hp) (a0 : Nat) (a1 : Int32) : Option (Int32 × Hp) :=
gd (okOb h a0 10) <|
bnd (f_X10_isPage h a0 a1) fun v2 h3 =>
if v2 = 0 then (
some ((-1 : Int32), h3)) else (
vl (gR h3 a0 7) fun r5 =>
un r5 fun b6 =>
gd (okAb h3 b6 11 a1) <|
vl (gI h3 b6 a1.toNatClampNeg) fun x8 =>
if x8 < 0 then (
some ((-3 : Int32), h3)) else (
vl (gR h3 a0 8) fun r10 =>
un r10 fun b11 =>
gd (okAb h3 b11 11 a1) <|
vl (gI h3 b11 a1.toNatClampNeg) fun x13 =>
if x13 < 0 then (
f_X10_distribute_L33 6000 a0 a1 (0 : Int32) h3) else (
some ((-3 : Int32), h3))))
set_option maxHeartbeats 4000000 in
set_option maxRecDepth 100000 in
theorem t_X10_distribute {X : Cx} {d : Nat} {h : Hp} {a0 : Nat} {a1 : Int32} {v : Int32} {h' : Hp} (hD : 3 ≤ d) (H : f_X10_distribute h a0 a1 = some (v, h')) : PM X mX10_distribute d [.ref a0, .int a1] h (some (.int v)) h' := by
  unfold f_X10_distribute at H
  refine PM.of (loc := [some (.ref a0), some (.int a1), none, none]) (by decide) rfl (Nat.le_of_ble_eq_true rfl) ?_
  refine ev_aload_n dX10_distribute_0 rfl rfl rfl ?_
  refine ev_iload_n dX10_distribute_1 rfl rfl ?_
  replace H := gd_some H
  obtain ⟨g1, H⟩ := H
  replace H := bnd_some H
  obtain ⟨v2, h3, eh3, H⟩ := H
  have ph3 := (t_X10_isPage (X := X) (d := 1) (by omega) eh3)
  refine ev_callV (as := [.int a1]) dX10_distribute_2 ph3 ok_X10_isPage (by omega) rfl k5_115 k5_117 ks_27 (ci := 10) (by decide) rfl rfl (okOb.p g1) rfl (Nat.le_of_ble_eq_true rfl) ?_
  refine ev_if_ne (tgt := 10) dX10_distribute_5 (by decide) (fun c4 => ?_) (fun c4 => ?_)
  · rw [if_neg c4] at H
    refine ev_aload_n dX10_distribute_10 rfl rfl rfl ?_
    replace H := vl_some H
    obtain ⟨r5, er5, H⟩ := H
    refine ev_getRx dX10_distribute_11 fgX10_28 rfl (okO_ext ph3.1 (okOb.p g1)) er5 ?_
    refine ev_iload_n dX10_distribute_14 rfl rfl ?_
    replace H := un_some H
    obtain ⟨b6, eb6, H⟩ := H
    subst eb6
    replace H := gd_some H
    obtain ⟨g7, H⟩ := H
    replace H := vl_some H
    obtain ⟨x8, ex8, H⟩ := H
    refine ev_ialdx dX10_distribute_15 (okAb.p g7) ex8 ?_
    refine ev_if_lt (tgt := 28) dX10_distribute_16 (by decide) (fun c9 => ?_) (fun c9 => ?_)
    · rw [if_pos c9] at H
      refine ev_bipush (v := (-3 : Int32)) dX10_distribute_28 (by decide) ?_
      exact ev_iretx dX10_distribute_30 rfl rfl H
    · rw [if_neg c9] at H
      refine ev_aload_n dX10_distribute_19 rfl rfl rfl ?_
      replace H := vl_some H
      obtain ⟨r10, er10, H⟩ := H
      refine ev_getRx dX10_distribute_20 fgX10_31 rfl (okO_ext ph3.1 (okOb.p g1)) er10 ?_
      refine ev_iload_n dX10_distribute_23 rfl rfl ?_
      replace H := un_some H
      obtain ⟨b11, eb11, H⟩ := H
      subst eb11
      replace H := gd_some H
      obtain ⟨g12, H⟩ := H
      replace H := vl_some H
      obtain ⟨x13, ex13, H⟩ := H
      refine ev_ialdx dX10_distribute_24 (okAb.p g12) ex13 ?_
      refine ev_if_lt (tgt := 31) dX10_distribute_25 (by decide) (fun c14 => ?_) (fun c14 => ?_)
      · rw [if_pos c14] at H
        refine ev_iconst (v := (0 : Int32)) dX10_distribute_31 (by decide) ?_
        refine ev_istore_n (loc2 := [some (.ref a0), some (.int a1), some (.int (0 : Int32)), none]) dX10_distribute_32 rfl (by decide) rfl ?_
        refine t_X10_distribute_L33 hD  6000 a0 a1 (0 : Int32) h3 H
      · rw [if_neg c14] at H
        refine ev_bipush (v := (-3 : Int32)) dX10_distribute_28 (by decide) ?_
        exact ev_iretx dX10_distribute_30 rfl rfl H
  · rw [if_pos c4] at H
    refine ev_iconst (v := (-1 : Int32)) dX10_distribute_8 (by decide) ?_
    exact ev_iretx dX10_distribute_9 rfl rfl H

theorem dX10_at_0 : decode cX10_at 0 = .ok (.aload_n 0, 1) := by decide +kernel
theorem dX10_at_1 : decode cX10_at 1 = .ok (.iload_n 1, 1) := by decide +kernel
theorem dX10_at_2 : decode cX10_at 2 = .ok (.iload_n 2, 1) := by decide +kernel
theorem dX10_at_3 : decode cX10_at 3 = .ok (.invokevirtual 175, 3) := by decide +kernel
theorem dX10_at_6 : decode cX10_at 6 = .ok (.ifCond .eq 13, 3) := by decide +kernel
theorem dX10_at_9 : decode cX10_at 9 = .ok (.iload_n 3, 1) := by decide +kernel
theorem dX10_at_10 : decode cX10_at 10 = .ok (.i2l, 1) := by decide +kernel
theorem dX10_at_11 : decode cX10_at 11 = .ok (.lconst 0, 1) := by decide +kernel
theorem dX10_at_12 : decode cX10_at 12 = .ok (.lconst 1, 1) := by decide +kernel
theorem dX10_at_13 : decode cX10_at 13 = .ok (.invokestatic 151, 3) := by decide +kernel
theorem dX10_at_16 : decode cX10_at 16 = .ok (.ifCond .ne 5, 3) := by decide +kernel
theorem dX10_at_19 : decode cX10_at 19 = .ok (.iconst (-1), 1) := by decide +kernel
theorem dX10_at_20 : decode cX10_at 20 = .ok (.ireturn, 1) := by decide +kernel
theorem dX10_at_21 : decode cX10_at 21 = .ok (.iload_n 3, 1) := by decide +kernel
theorem dX10_at_22 : decode cX10_at 22 = .ok (.ifCond .ne 15, 3) := by decide +kernel
theorem dX10_at_25 : decode cX10_at 25 = .ok (.aload_n 0, 1) := by decide +kernel
theorem dX10_at_26 : decode cX10_at 26 = .ok (.getfield 19, 3) := by decide +kernel
theorem dX10_at_29 : decode cX10_at 29 = .ok (.bipush 120, 2) := by decide +kernel
theorem dX10_at_31 : decode cX10_at 31 = .ok (.iload_n 1, 1) := by decide +kernel
theorem dX10_at_32 : decode cX10_at 32 = .ok (.imul, 1) := by decide +kernel
theorem dX10_at_33 : decode cX10_at 33 = .ok (.iload_n 2, 1) := by decide +kernel
theorem dX10_at_34 : decode cX10_at 34 = .ok (.iadd, 1) := by decide +kernel
theorem dX10_at_35 : decode cX10_at 35 = .ok (.iaload, 1) := by decide +kernel
theorem dX10_at_36 : decode cX10_at 36 = .ok (.ireturn, 1) := by decide +kernel
theorem dX10_at_37 : decode cX10_at 37 = .ok (.aload_n 0, 1) := by decide +kernel
theorem dX10_at_38 : decode cX10_at 38 = .ok (.getfield 28, 3) := by decide +kernel
theorem dX10_at_41 : decode cX10_at 41 = .ok (.iload_n 1, 1) := by decide +kernel
theorem dX10_at_42 : decode cX10_at 42 = .ok (.iaload, 1) := by decide +kernel
theorem dX10_at_43 : decode cX10_at 43 = .ok (.ifCond .ge 8, 3) := by decide +kernel
theorem dX10_at_46 : decode cX10_at 46 = .ok (.bipush (-3), 2) := by decide +kernel
theorem dX10_at_48 : decode cX10_at 48 = .ok (.goto 14, 3) := by decide +kernel
theorem dX10_at_51 : decode cX10_at 51 = .ok (.aload_n 0, 1) := by decide +kernel
theorem dX10_at_52 : decode cX10_at 52 = .ok (.getfield 22, 3) := by decide +kernel
theorem dX10_at_55 : decode cX10_at 55 = .ok (.bipush 120, 2) := by decide +kernel
theorem dX10_at_57 : decode cX10_at 57 = .ok (.iload_n 1, 1) := by decide +kernel
theorem dX10_at_58 : decode cX10_at 58 = .ok (.imul, 1) := by decide +kernel
theorem dX10_at_59 : decode cX10_at 59 = .ok (.iload_n 2, 1) := by decide +kernel
theorem dX10_at_60 : decode cX10_at 60 = .ok (.iadd, 1) := by decide +kernel
theorem dX10_at_61 : decode cX10_at 61 = .ok (.iaload, 1) := by decide +kernel
theorem dX10_at_62 : decode cX10_at 62 = .ok (.ireturn, 1) := by decide +kernel
def f_X10_at (h : Hp) (a0 : Nat) (a1 : Int32) (a2 : Int32) (a3 : Int32) : Option (Int32 × Hp) :=
gd (okOb h a0 10) <|
bnd (f_X10_isPlace h a0 a1 a2) fun v2 h3 =>
if v2 = 0 then (
some ((-1 : Int32), h3)) else (
bnd (f_X10_isIn h3 (a3.toInt64) (0 : Int64) (1 : Int64)) fun v5 h6 =>
if v5 = 0 then (
some ((-1 : Int32), h6)) else (
if a3 = 0 then (
vl (gR h6 a0 4) fun r18 =>
un r18 fun b19 =>
gd (okAb h6 b19 11 (((120 : Int32) * a1) + a2)) <|
vl (gI h6 b19 (((120 : Int32) * a1) + a2).toNatClampNeg) fun x21 =>
some (x21, h6)) else (
vl (gR h6 a0 7) fun r9 =>
un r9 fun b10 =>
gd (okAb h6 b10 11 a1) <|
vl (gI h6 b10 a1.toNatClampNeg) fun x12 =>
if 0 ≤ x12 then (
vl (gR h6 a0 5) fun r14 =>
un r14 fun b15 =>
gd (okAb h6 b15 11 (((120 : Int32) * a1) + a2)) <|
vl (gI h6 b15 (((120 : Int32) * a1) + a2).toNatClampNeg) fun x17 =>
some (x17, h6)) else (
some ((-3 : Int32), h6)))))
set_option maxHeartbeats 4000000 in
set_option maxRecDepth 100000 in
theorem t_X10_at {X : Cx} {d : Nat} {h : Hp} {a0 : Nat} {a1 : Int32} {a2 : Int32} {a3 : Int32} {v : Int32} {h' : Hp} (hD : 3 ≤ d) (H : f_X10_at h a0 a1 a2 a3 = some (v, h')) : PM X mX10_at d [.ref a0, .int a1, .int a2, .int a3] h (some (.int v)) h' := by
  unfold f_X10_at at H
  refine PM.of (loc := [some (.ref a0), some (.int a1), some (.int a2), some (.int a3)]) (by decide) rfl (Nat.le_of_ble_eq_true rfl) ?_
  refine ev_aload_n dX10_at_0 rfl rfl rfl ?_
  refine ev_iload_n dX10_at_1 rfl rfl ?_
  refine ev_iload_n dX10_at_2 rfl rfl ?_
  replace H := gd_some H
  obtain ⟨g1, H⟩ := H
  replace H := bnd_some H
  obtain ⟨v2, h3, eh3, H⟩ := H
  have ph3 := (t_X10_isPlace (X := X) (d := 2) (by omega) eh3)
  refine ev_callV (as := [.int a1, .int a2]) dX10_at_3 ph3 ok_X10_isPlace (by omega) rfl k5_130 k5_132 ks_29 (ci := 10) (by decide) rfl rfl (okOb.p g1) rfl (Nat.le_of_ble_eq_true rfl) ?_
  refine ev_if_eq (tgt := 19) dX10_at_6 (by decide) (fun c4 => ?_) (fun c4 => ?_)
  · rw [if_pos c4] at H
    refine ev_iconst (v := (-1 : Int32)) dX10_at_19 (by decide) ?_
    exact ev_iretx dX10_at_20 rfl rfl H
  · rw [if_neg c4] at H
    refine ev_iload_n dX10_at_9 rfl rfl ?_
    refine ev_i2l dX10_at_10 rfl ?_
    refine ev_lconst (v := (0 : Int64)) dX10_at_11 (by decide) ?_
    refine ev_lconst (v := (1 : Int64)) dX10_at_12 (by decide) ?_
    replace H := bnd_some H
    obtain ⟨v5, h6, eh6, H⟩ := H
    have ph6 := (t_X10_isIn (X := X) (d := 1) (by omega) eh6)
    refine ev_callS (as := [.long (a3.toInt64), .long (0 : Int64), .long (1 : Int64)]) dX10_at_13 ph6 ok_X10_isIn (by omega) rfl k5_88 k5_89 rfl (Nat.le_of_ble_eq_true rfl) ?_
    refine ev_if_ne (tgt := 21) dX10_at_16 (by decide) (fun c7 => ?_) (fun c7 => ?_)
    · rw [if_neg c7] at H
      refine ev_iload_n dX10_at_21 rfl rfl ?_
      refine ev_if_ne (tgt := 37) dX10_at_22 (by decide) (fun c8 => ?_) (fun c8 => ?_)
      · rw [if_neg c8] at H
        refine ev_aload_n dX10_at_37 rfl rfl rfl ?_
        replace H := vl_some H
        obtain ⟨r9, er9, H⟩ := H
        refine ev_getRx dX10_at_38 fgX10_28 rfl (okO_ext ph6.1 (okO_ext ph3.1 (okOb.p g1))) er9 ?_
        refine ev_iload_n dX10_at_41 rfl rfl ?_
        replace H := un_some H
        obtain ⟨b10, eb10, H⟩ := H
        subst eb10
        replace H := gd_some H
        obtain ⟨g11, H⟩ := H
        replace H := vl_some H
        obtain ⟨x12, ex12, H⟩ := H
        refine ev_ialdx dX10_at_42 (okAb.p g11) ex12 ?_
        refine ev_if_ge (tgt := 51) dX10_at_43 (by decide) (fun c13 => ?_) (fun c13 => ?_)
        · rw [if_pos c13] at H
          refine ev_aload_n dX10_at_51 rfl rfl rfl ?_
          replace H := vl_some H
          obtain ⟨r14, er14, H⟩ := H
          refine ev_getRx dX10_at_52 fgX10_22 rfl (okO_ext ph6.1 (okO_ext ph3.1 (okOb.p g1))) er14 ?_
          refine ev_bipush (v := (120 : Int32)) dX10_at_55 (by decide) ?_
          refine ev_iload_n dX10_at_57 rfl rfl ?_
          refine ev_imul dX10_at_58 ?_
          refine ev_iload_n dX10_at_59 rfl rfl ?_
          refine ev_iadd dX10_at_60 ?_
          replace H := un_some H
          obtain ⟨b15, eb15, H⟩ := H
          subst eb15
          replace H := gd_some H
          obtain ⟨g16, H⟩ := H
          replace H := vl_some H
          obtain ⟨x17, ex17, H⟩ := H
          refine ev_ialdx dX10_at_61 (okAb.p g16) ex17 ?_
          exact ev_iretx dX10_at_62 rfl rfl H
        · rw [if_neg c13] at H
          refine ev_bipush (v := (-3 : Int32)) dX10_at_46 (by decide) ?_
          refine ev_goto (tgt := 62) dX10_at_48 (by decide) ?_
          exact ev_iretx dX10_at_62 rfl rfl H
      · rw [if_pos c8] at H
        refine ev_aload_n dX10_at_25 rfl rfl rfl ?_
        replace H := vl_some H
        obtain ⟨r18, er18, H⟩ := H
        refine ev_getRx dX10_at_26 fgX10_19 rfl (okO_ext ph6.1 (okO_ext ph3.1 (okOb.p g1))) er18 ?_
        refine ev_bipush (v := (120 : Int32)) dX10_at_29 (by decide) ?_
        refine ev_iload_n dX10_at_31 rfl rfl ?_
        refine ev_imul dX10_at_32 ?_
        refine ev_iload_n dX10_at_33 rfl rfl ?_
        refine ev_iadd dX10_at_34 ?_
        replace H := un_some H
        obtain ⟨b19, eb19, H⟩ := H
        subst eb19
        replace H := gd_some H
        obtain ⟨g20, H⟩ := H
        replace H := vl_some H
        obtain ⟨x21, ex21, H⟩ := H
        refine ev_ialdx dX10_at_35 (okAb.p g20) ex21 ?_
        exact ev_iretx dX10_at_36 rfl rfl H
    · rw [if_pos c7] at H
      refine ev_iconst (v := (-1 : Int32)) dX10_at_19 (by decide) ?_
      exact ev_iretx dX10_at_20 rfl rfl H
