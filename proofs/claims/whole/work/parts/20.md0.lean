theorem dX10_columnsOf_0 : decode cX10_columnsOf 0 = .ok (.iload_n 0, 1) := by decide +kernel
theorem dX10_columnsOf_1 : decode cX10_columnsOf 1 = .ok (.iconst 3, 1) := by decide +kernel
theorem dX10_columnsOf_2 : decode cX10_columnsOf 2 = .ok (.if_icmp .ne 7, 3) := by decide +kernel
theorem dX10_columnsOf_5 : decode cX10_columnsOf 5 = .ok (.iconst 4, 1) := by decide +kernel
theorem dX10_columnsOf_6 : decode cX10_columnsOf 6 = .ok (.goto 4, 3) := by decide +kernel
theorem dX10_columnsOf_9 : decode cX10_columnsOf 9 = .ok (.iconst 2, 1) := by decide +kernel
theorem dX10_columnsOf_10 : decode cX10_columnsOf 10 = .ok (.ireturn, 1) := by decide +kernel
def f_X10_columnsOf (h : Hp) (a0 : Int32) : Option (Int32 × Hp) :=
if a0 = (3 : Int32) then (
some ((4 : Int32), h)) else (
some ((2 : Int32), h))
set_option maxHeartbeats 4000000 in
set_option maxRecDepth 100000 in
theorem t_X10_columnsOf {X : Cx} {d : Nat} {h : Hp} {a0 : Int32} {v : Int32} {h' : Hp} (hD : 1 ≤ d) (H : f_X10_columnsOf h a0 = some (v, h')) : PM X mX10_columnsOf d [.int a0] h (some (.int v)) h' := by
  unfold f_X10_columnsOf at H
  refine PM.of (loc := [some (.int a0)]) (by decide) rfl (Nat.le_of_ble_eq_true rfl) ?_
  refine ev_iload_n dX10_columnsOf_0 rfl rfl ?_
  refine ev_iconst (v := (3 : Int32)) dX10_columnsOf_1 (by decide) ?_
  refine ev_icmp_ne (tgt := 9) dX10_columnsOf_2 (by decide) (fun c1 => ?_) (fun c1 => ?_)
  · rw [if_neg c1] at H
    refine ev_iconst (v := (2 : Int32)) dX10_columnsOf_9 (by decide) ?_
    exact ev_iretx dX10_columnsOf_10 rfl rfl H
  · rw [if_pos c1] at H
    refine ev_iconst (v := (4 : Int32)) dX10_columnsOf_5 (by decide) ?_
    refine ev_goto (tgt := 10) dX10_columnsOf_6 (by decide) ?_
    exact ev_iretx dX10_columnsOf_10 rfl rfl H

theorem dX10_rowsOf_0 : decode cX10_rowsOf 0 = .ok (.iload_n 0, 1) := by decide +kernel
theorem dX10_rowsOf_1 : decode cX10_rowsOf 1 = .ok (.iconst 1, 1) := by decide +kernel
theorem dX10_rowsOf_2 : decode cX10_rowsOf 2 = .ok (.if_icmp .ne 7, 3) := by decide +kernel
theorem dX10_rowsOf_5 : decode cX10_rowsOf 5 = .ok (.iconst 1, 1) := by decide +kernel
theorem dX10_rowsOf_6 : decode cX10_rowsOf 6 = .ok (.goto 4, 3) := by decide +kernel
theorem dX10_rowsOf_9 : decode cX10_rowsOf 9 = .ok (.iconst 2, 1) := by decide +kernel
theorem dX10_rowsOf_10 : decode cX10_rowsOf 10 = .ok (.ireturn, 1) := by decide +kernel
def f_X10_rowsOf (h : Hp) (a0 : Int32) : Option (Int32 × Hp) :=
if a0 = (1 : Int32) then (
some ((1 : Int32), h)) else (
some ((2 : Int32), h))
set_option maxHeartbeats 4000000 in
set_option maxRecDepth 100000 in
theorem t_X10_rowsOf {X : Cx} {d : Nat} {h : Hp} {a0 : Int32} {v : Int32} {h' : Hp} (hD : 1 ≤ d) (H : f_X10_rowsOf h a0 = some (v, h')) : PM X mX10_rowsOf d [.int a0] h (some (.int v)) h' := by
  unfold f_X10_rowsOf at H
  refine PM.of (loc := [some (.int a0)]) (by decide) rfl (Nat.le_of_ble_eq_true rfl) ?_
  refine ev_iload_n dX10_rowsOf_0 rfl rfl ?_
  refine ev_iconst (v := (1 : Int32)) dX10_rowsOf_1 (by decide) ?_
  refine ev_icmp_ne (tgt := 9) dX10_rowsOf_2 (by decide) (fun c1 => ?_) (fun c1 => ?_)
  · rw [if_neg c1] at H
    refine ev_iconst (v := (2 : Int32)) dX10_rowsOf_9 (by decide) ?_
    exact ev_iretx dX10_rowsOf_10 rfl rfl H
  · rw [if_pos c1] at H
    refine ev_iconst (v := (1 : Int32)) dX10_rowsOf_5 (by decide) ?_
    refine ev_goto (tgt := 10) dX10_rowsOf_6 (by decide) ?_
    exact ev_iretx dX10_rowsOf_10 rfl rfl H

theorem dX10_leavesOf_0 : decode cX10_leavesOf 0 = .ok (.iconst 1, 1) := by decide +kernel
theorem dX10_leavesOf_1 : decode cX10_leavesOf 1 = .ok (.iload_n 0, 1) := by decide +kernel
theorem dX10_leavesOf_2 : decode cX10_leavesOf 2 = .ok (.ishl, 1) := by decide +kernel
theorem dX10_leavesOf_3 : decode cX10_leavesOf 3 = .ok (.ireturn, 1) := by decide +kernel
def f_X10_leavesOf (h : Hp) (a0 : Int32) : Option (Int32 × Hp) :=
some ((1 : Int32) <<< (a0 &&& 31), h)
set_option maxHeartbeats 4000000 in
set_option maxRecDepth 100000 in
theorem t_X10_leavesOf {X : Cx} {d : Nat} {h : Hp} {a0 : Int32} {v : Int32} {h' : Hp} (hD : 1 ≤ d) (H : f_X10_leavesOf h a0 = some (v, h')) : PM X mX10_leavesOf d [.int a0] h (some (.int v)) h' := by
  unfold f_X10_leavesOf at H
  refine PM.of (loc := [some (.int a0)]) (by decide) rfl (Nat.le_of_ble_eq_true rfl) ?_
  refine ev_iconst (v := (1 : Int32)) dX10_leavesOf_0 (by decide) ?_
  refine ev_iload_n dX10_leavesOf_1 rfl rfl ?_
  refine ev_ishl dX10_leavesOf_2 ?_
  exact ev_iretx dX10_leavesOf_3 rfl rfl H

theorem dX10_puts_0 : decode cX10_puts 0 = .ok (.aload_n 0, 1) := by decide +kernel
theorem dX10_puts_1 : decode cX10_puts 1 = .ok (.getfield 58, 3) := by decide +kernel
theorem dX10_puts_4 : decode cX10_puts 4 = .ok (.iload_n 1, 1) := by decide +kernel
theorem dX10_puts_5 : decode cX10_puts 5 = .ok (.iaload, 1) := by decide +kernel
theorem dX10_puts_6 : decode cX10_puts 6 = .ok (.iconst 1, 1) := by decide +kernel
theorem dX10_puts_7 : decode cX10_puts 7 = .ok (.isub, 1) := by decide +kernel
theorem dX10_puts_8 : decode cX10_puts 8 = .ok (.istore 5, 2) := by decide +kernel
theorem dX10_puts_10 : decode cX10_puts 10 = .ok (.iload 5, 2) := by decide +kernel
theorem dX10_puts_12 : decode cX10_puts 12 = .ok (.ifCond .lt 76, 3) := by decide +kernel
theorem dX10_puts_15 : decode cX10_puts 15 = .ok (.aload_n 0, 1) := by decide +kernel
theorem dX10_puts_16 : decode cX10_puts 16 = .ok (.getfield 55, 3) := by decide +kernel
theorem dX10_puts_19 : decode cX10_puts 19 = .ok (.bipush 8, 2) := by decide +kernel
theorem dX10_puts_21 : decode cX10_puts 21 = .ok (.iload_n 1, 1) := by decide +kernel
theorem dX10_puts_22 : decode cX10_puts 22 = .ok (.imul, 1) := by decide +kernel
theorem dX10_puts_23 : decode cX10_puts 23 = .ok (.iload 5, 2) := by decide +kernel
theorem dX10_puts_25 : decode cX10_puts 25 = .ok (.iadd, 1) := by decide +kernel
theorem dX10_puts_26 : decode cX10_puts 26 = .ok (.iaload, 1) := by decide +kernel
theorem dX10_puts_27 : decode cX10_puts 27 = .ok (.istore 6, 2) := by decide +kernel
theorem dX10_puts_29 : decode cX10_puts 29 = .ok (.aload_n 0, 1) := by decide +kernel
theorem dX10_puts_30 : decode cX10_puts 30 = .ok (.getfield 55, 3) := by decide +kernel
theorem dX10_puts_33 : decode cX10_puts 33 = .ok (.bipush 8, 2) := by decide +kernel
theorem dX10_puts_35 : decode cX10_puts 35 = .ok (.iload_n 2, 1) := by decide +kernel
theorem dX10_puts_36 : decode cX10_puts 36 = .ok (.imul, 1) := by decide +kernel
theorem dX10_puts_37 : decode cX10_puts 37 = .ok (.aload_n 0, 1) := by decide +kernel
theorem dX10_puts_38 : decode cX10_puts 38 = .ok (.getfield 58, 3) := by decide +kernel
theorem dX10_puts_41 : decode cX10_puts 41 = .ok (.iload_n 2, 1) := by decide +kernel
theorem dX10_puts_42 : decode cX10_puts 42 = .ok (.iaload, 1) := by decide +kernel
theorem dX10_puts_43 : decode cX10_puts 43 = .ok (.iadd, 1) := by decide +kernel
theorem dX10_puts_44 : decode cX10_puts 44 = .ok (.iload 6, 2) := by decide +kernel
theorem dX10_puts_46 : decode cX10_puts 46 = .ok (.iconst 1, 1) := by decide +kernel
theorem dX10_puts_47 : decode cX10_puts 47 = .ok (.ixor, 1) := by decide +kernel
theorem dX10_puts_48 : decode cX10_puts 48 = .ok (.iastore, 1) := by decide +kernel
theorem dX10_puts_49 : decode cX10_puts 49 = .ok (.aload_n 0, 1) := by decide +kernel
theorem dX10_puts_50 : decode cX10_puts 50 = .ok (.getfield 58, 3) := by decide +kernel
theorem dX10_puts_53 : decode cX10_puts 53 = .ok (.iload_n 2, 1) := by decide +kernel
theorem dX10_puts_54 : decode cX10_puts 54 = .ok (.dup2, 1) := by decide +kernel
theorem dX10_puts_55 : decode cX10_puts 55 = .ok (.iaload, 1) := by decide +kernel
theorem dX10_puts_56 : decode cX10_puts 56 = .ok (.iconst 1, 1) := by decide +kernel
theorem dX10_puts_57 : decode cX10_puts 57 = .ok (.iadd, 1) := by decide +kernel
theorem dX10_puts_58 : decode cX10_puts 58 = .ok (.iastore, 1) := by decide +kernel
theorem dX10_puts_59 : decode cX10_puts 59 = .ok (.iload 4, 2) := by decide +kernel
theorem dX10_puts_61 : decode cX10_puts 61 = .ok (.ifCond .eq 21, 3) := by decide +kernel
theorem dX10_puts_64 : decode cX10_puts 64 = .ok (.aload_n 0, 1) := by decide +kernel
theorem dX10_puts_65 : decode cX10_puts 65 = .ok (.getfield 52, 3) := by decide +kernel
theorem dX10_puts_68 : decode cX10_puts 68 = .ok (.bipush 8, 2) := by decide +kernel
theorem dX10_puts_70 : decode cX10_puts 70 = .ok (.iload_n 3, 1) := by decide +kernel
theorem dX10_puts_71 : decode cX10_puts 71 = .ok (.imul, 1) := by decide +kernel
theorem dX10_puts_72 : decode cX10_puts 72 = .ok (.iload 6, 2) := by decide +kernel
theorem dX10_puts_74 : decode cX10_puts 74 = .ok (.iconst 2, 1) := by decide +kernel
theorem dX10_puts_75 : decode cX10_puts 75 = .ok (.idiv, 1) := by decide +kernel
theorem dX10_puts_76 : decode cX10_puts 76 = .ok (.iadd, 1) := by decide +kernel
theorem dX10_puts_77 : decode cX10_puts 77 = .ok (.dup2, 1) := by decide +kernel
theorem dX10_puts_78 : decode cX10_puts 78 = .ok (.iaload, 1) := by decide +kernel
theorem dX10_puts_79 : decode cX10_puts 79 = .ok (.iconst 1, 1) := by decide +kernel
theorem dX10_puts_80 : decode cX10_puts 80 = .ok (.ixor, 1) := by decide +kernel
theorem dX10_puts_81 : decode cX10_puts 81 = .ok (.iastore, 1) := by decide +kernel
theorem dX10_puts_82 : decode cX10_puts 82 = .ok (.iinc 5 (-1), 3) := by decide +kernel
theorem dX10_puts_85 : decode cX10_puts 85 = .ok (.goto (-75), 3) := by decide +kernel
theorem dX10_puts_88 : decode cX10_puts 88 = .ok (.aload_n 0, 1) := by decide +kernel
theorem dX10_puts_89 : decode cX10_puts 89 = .ok (.getfield 58, 3) := by decide +kernel
theorem dX10_puts_92 : decode cX10_puts 92 = .ok (.iload_n 1, 1) := by decide +kernel
theorem dX10_puts_93 : decode cX10_puts 93 = .ok (.iconst 0, 1) := by decide +kernel
theorem dX10_puts_94 : decode cX10_puts 94 = .ok (.iastore, 1) := by decide +kernel
theorem dX10_puts_95 : decode cX10_puts 95 = .ok (.return_, 1) := by decide +kernel
def f_X10_puts_L10 : Nat → Nat → Int32 → Int32 → Int32 → Int32 → Int32 → Hp → Option (Unit × Hp)
  | 0, _, _, _, _, _, _, _ => none
  | n + 1, l0, l1, l2, l3, l4, l5, h =>
    if l5 < 0 then (
    gd (okOb h l0 10) <|
    vl (gR h l0 18) fun r9 =>
    un r9 fun b10 =>
    gd (okAb h b10 11 l1) <|
    vl (sI h b10 l1.toNatClampNeg (0 : Int32)) fun h12 =>
    some ((), h12)) else (
    gd (okOb h l0 10) <|
    vl (gR h l0 17) fun r14 =>
    un r14 fun b15 =>
    gd (okAb h b15 11 (((8 : Int32) * l1) + l5)) <|
    vl (gI h b15 (((8 : Int32) * l1) + l5).toNatClampNeg) fun x17 =>
    vl (gR h l0 17) fun r18 =>
    vl (gR h l0 18) fun r19 =>
    un r19 fun b20 =>
    gd (okAb h b20 11 l2) <|
    vl (gI h b20 l2.toNatClampNeg) fun x22 =>
    un r18 fun b23 =>
    gd (okAb h b23 11 (((8 : Int32) * l2) + x22)) <|
    vl (sI h b23 (((8 : Int32) * l2) + x22).toNatClampNeg (x17 ^^^ (1 : Int32))) fun h25 =>
    vl (gR h25 l0 18) fun r26 =>
    un r26 fun b27 =>
    gd (okAb h25 b27 11 l2) <|
    vl (gI h25 b27 l2.toNatClampNeg) fun x29 =>
    gd (okAb h25 b27 11 l2) <|
    vl (sI h25 b27 l2.toNatClampNeg (x29 + (1 : Int32))) fun h31 =>
    if l4 = 0 then (
    vl (l5 + (-1 : Int32)) fun x33 =>
    f_X10_puts_L10 n l0 l1 l2 l3 l4 x33 h31) else (
    vl (gR h31 l0 16) fun r34 =>
    un r34 fun b35 =>
    gd (okAb h31 b35 11 (((8 : Int32) * l3) + (x17 / (2 : Int32)))) <|
    vl (gI h31 b35 (((8 : Int32) * l3) + (x17 / (2 : Int32))).toNatClampNeg) fun x37 =>
    gd (okAb h31 b35 11 (((8 : Int32) * l3) + (x17 / (2 : Int32)))) <|
    vl (sI h31 b35 (((8 : Int32) * l3) + (x17 / (2 : Int32))).toNatClampNeg (x37 ^^^ (1 : Int32))) fun h39 =>
    vl (l5 + (-1 : Int32)) fun x40 =>
    f_X10_puts_L10 n l0 l1 l2 l3 l4 x40 h39))
set_option maxHeartbeats 4000000 in
set_option maxRecDepth 100000 in
theorem t_X10_puts_L10 {X : Cx} {d : Nat} {h0 h' : Hp} {v : Unit} (hD : 1 ≤ d) : ∀ (n : Nat) (l0 : Nat) (l1 : Int32) (l2 : Int32) (l3 : Int32) (l4 : Int32) (l5 : Int32) (h : Hp), f_X10_puts_L10 n l0 l1 l2 l3 l4 l5 h = some (v, h') → EV X mX10_puts d h0 (none) h' 10 [some (.ref l0), some (.int l1), some (.int l2), some (.int l3), some (.int l4), some (.int l5), none] [] h := by
  intro n
  induction n with
  | zero => intro l0 l1 l2 l3 l4 l5 h H; simp [f_X10_puts_L10] at H
  | succ n ih =>
    intro l0 l1 l2 l3 l4 l5 h H
    rw [f_X10_puts_L10] at H
    refine ev_iload dX10_puts_10 rfl ?_
    refine ev_if_lt (tgt := 88) dX10_puts_12 (by decide) (fun c7 => ?_) (fun c7 => ?_)
    · rw [if_pos c7] at H
      refine ev_aload_n dX10_puts_88 rfl rfl rfl ?_
      replace H := gd_some H
      obtain ⟨g8, H⟩ := H
      replace H := vl_some H
      obtain ⟨r9, er9, H⟩ := H
      refine ev_getRx dX10_puts_89 fgX10_58 rfl (okOb.p g8) er9 ?_
      refine ev_iload_n dX10_puts_92 rfl rfl ?_
      refine ev_iconst (v := (0 : Int32)) dX10_puts_93 (by decide) ?_
      replace H := un_some H
      obtain ⟨b10, eb10, H⟩ := H
      subst eb10
      replace H := gd_some H
      obtain ⟨g11, H⟩ := H
      replace H := vl_some H
      obtain ⟨h12, eh12, H⟩ := H
      refine ev_iast dX10_puts_94 (okAb.p g11) eh12 ?_
      exact ev_vretx dX10_puts_95 rfl H
    · rw [if_neg c7] at H
      refine ev_aload_n dX10_puts_15 rfl rfl rfl ?_
      replace H := gd_some H
      obtain ⟨g13, H⟩ := H
      replace H := vl_some H
      obtain ⟨r14, er14, H⟩ := H
      refine ev_getRx dX10_puts_16 fgX10_55 rfl (okOb.p g13) er14 ?_
      refine ev_bipush (v := (8 : Int32)) dX10_puts_19 (by decide) ?_
      refine ev_iload_n dX10_puts_21 rfl rfl ?_
      refine ev_imul dX10_puts_22 ?_
      refine ev_iload dX10_puts_23 rfl ?_
      refine ev_iadd dX10_puts_25 ?_
      replace H := un_some H
      obtain ⟨b15, eb15, H⟩ := H
      subst eb15
      replace H := gd_some H
      obtain ⟨g16, H⟩ := H
      replace H := vl_some H
      obtain ⟨x17, ex17, H⟩ := H
      refine ev_ialdx dX10_puts_26 (okAb.p g16) ex17 ?_
      refine ev_istore (loc2 := [some (.ref l0), some (.int l1), some (.int l2), some (.int l3), some (.int l4), some (.int l5), some (.int x17)]) dX10_puts_27 (by decide) rfl ?_
      refine ev_aload_n dX10_puts_29 rfl rfl rfl ?_
      replace H := vl_some H
      obtain ⟨r18, er18, H⟩ := H
      refine ev_getRx dX10_puts_30 fgX10_55 rfl (okOb.p g13) er18 ?_
      refine ev_bipush (v := (8 : Int32)) dX10_puts_33 (by decide) ?_
      refine ev_iload_n dX10_puts_35 rfl rfl ?_
      refine ev_imul dX10_puts_36 ?_
      refine ev_aload_n dX10_puts_37 rfl rfl rfl ?_
      replace H := vl_some H
      obtain ⟨r19, er19, H⟩ := H
      refine ev_getRx dX10_puts_38 fgX10_58 rfl (okOb.p g13) er19 ?_
      refine ev_iload_n dX10_puts_41 rfl rfl ?_
      replace H := un_some H
      obtain ⟨b20, eb20, H⟩ := H
      subst eb20
      replace H := gd_some H
      obtain ⟨g21, H⟩ := H
      replace H := vl_some H
      obtain ⟨x22, ex22, H⟩ := H
      refine ev_ialdx dX10_puts_42 (okAb.p g21) ex22 ?_
      refine ev_iadd dX10_puts_43 ?_
      refine ev_iload dX10_puts_44 rfl ?_
      refine ev_iconst (v := (1 : Int32)) dX10_puts_46 (by decide) ?_
      refine ev_ixor dX10_puts_47 ?_
      replace H := un_some H
      obtain ⟨b23, eb23, H⟩ := H
      subst eb23
      replace H := gd_some H
      obtain ⟨g24, H⟩ := H
      replace H := vl_some H
      obtain ⟨h25, eh25, H⟩ := H
      refine ev_iast dX10_puts_48 (okAb.p g24) eh25 ?_
      refine ev_aload_n dX10_puts_49 rfl rfl rfl ?_
      replace H := vl_some H
      obtain ⟨r26, er26, H⟩ := H
      refine ev_getRx dX10_puts_50 fgX10_58 rfl (okO_sI eh25 (okOb.p g13)) er26 ?_
      refine ev_iload_n dX10_puts_53 rfl rfl ?_
      refine ev_dup2 dX10_puts_54 rfl (rv_cat _) ?_
      replace H := un_some H
      obtain ⟨b27, eb27, H⟩ := H
      subst eb27
      replace H := gd_some H
      obtain ⟨g28, H⟩ := H
      replace H := vl_some H
      obtain ⟨x29, ex29, H⟩ := H
      refine ev_ialdx dX10_puts_55 (okAb.p g28) ex29 ?_
      refine ev_iconst (v := (1 : Int32)) dX10_puts_56 (by decide) ?_
      refine ev_iadd dX10_puts_57 ?_
      replace H := gd_some H
      obtain ⟨g30, H⟩ := H
      replace H := vl_some H
      obtain ⟨h31, eh31, H⟩ := H
      refine ev_iast dX10_puts_58 (okAb.p g30) eh31 ?_
      refine ev_iload dX10_puts_59 rfl ?_
      refine ev_if_eq (tgt := 82) dX10_puts_61 (by decide) (fun c32 => ?_) (fun c32 => ?_)
      · rw [if_pos c32] at H
        replace H := vl_some H
        obtain ⟨x33, ex33, H⟩ := H
        refine ev_iincx (loc2 := [some (.ref l0), some (.int l1), some (.int l2), some (.int l3), some (.int l4), some (.int x33), some (.int x17)]) dX10_puts_82 rfl (by decide) ex33 (by decide) rfl ?_
        refine ev_goto (tgt := 10) dX10_puts_85 (by decide) ?_
        refine ev_drop (loc2 := [some (.ref l0), some (.int l1), some (.int l2), some (.int l3), some (.int l4), some (.int x33), none]) [true, true, true, true, true, true, false] rfl ?_
        exact ih l0 l1 l2 l3 l4 x33 h31 H
      · rw [if_neg c32] at H
        refine ev_aload_n dX10_puts_64 rfl rfl rfl ?_
        replace H := vl_some H
        obtain ⟨r34, er34, H⟩ := H
        refine ev_getRx dX10_puts_65 fgX10_52 rfl (okO_sI eh31 (okO_sI eh25 (okOb.p g13))) er34 ?_
        refine ev_bipush (v := (8 : Int32)) dX10_puts_68 (by decide) ?_
        refine ev_iload_n dX10_puts_70 rfl rfl ?_
        refine ev_imul dX10_puts_71 ?_
        refine ev_iload dX10_puts_72 rfl ?_
        refine ev_iconst (v := (2 : Int32)) dX10_puts_74 (by decide) ?_
        refine ev_idiv dX10_puts_75 (by decide) ?_
        refine ev_iadd dX10_puts_76 ?_
        refine ev_dup2 dX10_puts_77 rfl (rv_cat _) ?_
        replace H := un_some H
        obtain ⟨b35, eb35, H⟩ := H
        subst eb35
        replace H := gd_some H
        obtain ⟨g36, H⟩ := H
        replace H := vl_some H
        obtain ⟨x37, ex37, H⟩ := H
        refine ev_ialdx dX10_puts_78 (okAb.p g36) ex37 ?_
        refine ev_iconst (v := (1 : Int32)) dX10_puts_79 (by decide) ?_
        refine ev_ixor dX10_puts_80 ?_
        replace H := gd_some H
        obtain ⟨g38, H⟩ := H
        replace H := vl_some H
        obtain ⟨h39, eh39, H⟩ := H
        refine ev_iast dX10_puts_81 (okAb.p g38) eh39 ?_
        replace H := vl_some H
        obtain ⟨x40, ex40, H⟩ := H
        refine ev_iincx (loc2 := [some (.ref l0), some (.int l1), some (.int l2), some (.int l3), some (.int l4), some (.int x40), some (.int x17)]) dX10_puts_82 rfl (by decide) ex40 (by decide) rfl ?_
        refine ev_goto (tgt := 10) dX10_puts_85 (by decide) ?_
        refine ev_drop (loc2 := [some (.ref l0), some (.int l1), some (.int l2), some (.int l3), some (.int l4), some (.int x40), none]) [true, true, true, true, true, true, false] rfl ?_
        exact ih l0 l1 l2 l3 l4 x40 h39 H
def f_X10_puts (h : Hp) (a0 : Nat) (a1 : Int32) (a2 : Int32) (a3 : Int32) (a4 : Int32) : Option (Unit × Hp) :=
gd (okOb h a0 10) <|
vl (gR h a0 18) fun r2 =>
un r2 fun b3 =>
gd (okAb h b3 11 a1) <|
vl (gI h b3 a1.toNatClampNeg) fun x5 =>
vl (x5 - (1 : Int32)) fun x6 =>
f_X10_puts_L10 6000 a0 a1 a2 a3 a4 x6 h
set_option maxHeartbeats 4000000 in
set_option maxRecDepth 100000 in
theorem t_X10_puts {X : Cx} {d : Nat} {h : Hp} {a0 : Nat} {a1 : Int32} {a2 : Int32} {a3 : Int32} {a4 : Int32} {v : Unit} {h' : Hp} (hD : 1 ≤ d) (H : f_X10_puts h a0 a1 a2 a3 a4 = some (v, h')) : PM X mX10_puts d [.ref a0, .int a1, .int a2, .int a3, .int a4] h (none) h' := by
  unfold f_X10_puts at H
  refine PM.of (loc := [some (.ref a0), some (.int a1), some (.int a2), some (.int a3), some (.int a4), none, none]) (by decide) rfl (Nat.le_of_ble_eq_true rfl) ?_
  refine ev_aload_n dX10_puts_0 rfl rfl rfl ?_
  replace H := gd_some H
  obtain ⟨g1, H⟩ := H
  replace H := vl_some H
  obtain ⟨r2, er2, H⟩ := H
  refine ev_getRx dX10_puts_1 fgX10_58 rfl (okOb.p g1) er2 ?_
  refine ev_iload_n dX10_puts_4 rfl rfl ?_
  replace H := un_some H
  obtain ⟨b3, eb3, H⟩ := H
  subst eb3
  replace H := gd_some H
  obtain ⟨g4, H⟩ := H
  replace H := vl_some H
  obtain ⟨x5, ex5, H⟩ := H
  refine ev_ialdx dX10_puts_5 (okAb.p g4) ex5 ?_
  refine ev_iconst (v := (1 : Int32)) dX10_puts_6 (by decide) ?_
  refine ev_isub dX10_puts_7 ?_
  replace H := vl_some H
  obtain ⟨x6, ex6, H⟩ := H
  refine ev_istorex (loc2 := [some (.ref a0), some (.int a1), some (.int a2), some (.int a3), some (.int a4), some (.int x6), none]) dX10_puts_8 (by decide) ex6 rfl ?_
  refine t_X10_puts_L10 hD  6000 a0 a1 a2 a3 a4 x6 h H

theorem dX10_folds_0 : decode cX10_folds 0 = .ok (.iload_n 1, 1) := by decide +kernel
theorem dX10_folds_1 : decode cX10_folds 1 = .ok (.invokestatic 182, 3) := by decide +kernel
theorem dX10_folds_4 : decode cX10_folds 4 = .ok (.istore_n 2, 1) := by decide +kernel
theorem dX10_folds_5 : decode cX10_folds 5 = .ok (.iload_n 1, 1) := by decide +kernel
theorem dX10_folds_6 : decode cX10_folds 6 = .ok (.invokestatic 185, 3) := by decide +kernel
theorem dX10_folds_9 : decode cX10_folds 9 = .ok (.istore_n 3, 1) := by decide +kernel
theorem dX10_folds_10 : decode cX10_folds 10 = .ok (.iconst 0, 1) := by decide +kernel
theorem dX10_folds_11 : decode cX10_folds 11 = .ok (.istore 4, 2) := by decide +kernel
theorem dX10_folds_13 : decode cX10_folds 13 = .ok (.iload 4, 2) := by decide +kernel
theorem dX10_folds_15 : decode cX10_folds 15 = .ok (.iload_n 1, 1) := by decide +kernel
theorem dX10_folds_16 : decode cX10_folds 16 = .ok (.invokestatic 188, 3) := by decide +kernel
theorem dX10_folds_19 : decode cX10_folds 19 = .ok (.if_icmp .ge 33, 3) := by decide +kernel
theorem dX10_folds_22 : decode cX10_folds 22 = .ok (.aload_n 0, 1) := by decide +kernel
theorem dX10_folds_23 : decode cX10_folds 23 = .ok (.getfield 55, 3) := by decide +kernel
theorem dX10_folds_26 : decode cX10_folds 26 = .ok (.bipush 8, 2) := by decide +kernel
theorem dX10_folds_28 : decode cX10_folds 28 = .ok (.iload 4, 2) := by decide +kernel
theorem dX10_folds_30 : decode cX10_folds 30 = .ok (.imul, 1) := by decide +kernel
theorem dX10_folds_31 : decode cX10_folds 31 = .ok (.iconst 2, 1) := by decide +kernel
theorem dX10_folds_32 : decode cX10_folds 32 = .ok (.iload 4, 2) := by decide +kernel
theorem dX10_folds_34 : decode cX10_folds 34 = .ok (.imul, 1) := by decide +kernel
theorem dX10_folds_35 : decode cX10_folds 35 = .ok (.iconst 1, 1) := by decide +kernel
theorem dX10_folds_36 : decode cX10_folds 36 = .ok (.iadd, 1) := by decide +kernel
theorem dX10_folds_37 : decode cX10_folds 37 = .ok (.iastore, 1) := by decide +kernel
theorem dX10_folds_38 : decode cX10_folds 38 = .ok (.aload_n 0, 1) := by decide +kernel
theorem dX10_folds_39 : decode cX10_folds 39 = .ok (.getfield 58, 3) := by decide +kernel
theorem dX10_folds_42 : decode cX10_folds 42 = .ok (.iload 4, 2) := by decide +kernel
theorem dX10_folds_44 : decode cX10_folds 44 = .ok (.iconst 1, 1) := by decide +kernel
theorem dX10_folds_45 : decode cX10_folds 45 = .ok (.iastore, 1) := by decide +kernel
theorem dX10_folds_46 : decode cX10_folds 46 = .ok (.iinc 4 1, 3) := by decide +kernel
theorem dX10_folds_49 : decode cX10_folds 49 = .ok (.goto (-36), 3) := by decide +kernel
theorem dX10_folds_52 : decode cX10_folds 52 = .ok (.iload_n 2, 1) := by decide +kernel
theorem dX10_folds_53 : decode cX10_folds 53 = .ok (.istore 4, 2) := by decide +kernel
theorem dX10_folds_55 : decode cX10_folds 55 = .ok (.iload_n 2, 1) := by decide +kernel
theorem dX10_folds_56 : decode cX10_folds 56 = .ok (.iload_n 3, 1) := by decide +kernel
theorem dX10_folds_57 : decode cX10_folds 57 = .ok (.imul, 1) := by decide +kernel
theorem dX10_folds_58 : decode cX10_folds 58 = .ok (.iconst 1, 1) := by decide +kernel
theorem dX10_folds_59 : decode cX10_folds 59 = .ok (.if_icmp .le 142, 3) := by decide +kernel
theorem dX10_folds_62 : decode cX10_folds 62 = .ok (.iload_n 2, 1) := by decide +kernel
theorem dX10_folds_63 : decode cX10_folds 63 = .ok (.iload_n 3, 1) := by decide +kernel
theorem dX10_folds_64 : decode cX10_folds 64 = .ok (.if_icmp .gt 7, 3) := by decide +kernel
theorem dX10_folds_67 : decode cX10_folds 67 = .ok (.iconst 1, 1) := by decide +kernel
theorem dX10_folds_68 : decode cX10_folds 68 = .ok (.goto 4, 3) := by decide +kernel
theorem dX10_folds_71 : decode cX10_folds 71 = .ok (.iconst 0, 1) := by decide +kernel
theorem dX10_folds_72 : decode cX10_folds 72 = .ok (.istore 5, 2) := by decide +kernel
theorem dX10_folds_74 : decode cX10_folds 74 = .ok (.iconst 0, 1) := by decide +kernel
theorem dX10_folds_75 : decode cX10_folds 75 = .ok (.istore 6, 2) := by decide +kernel
theorem dX10_folds_77 : decode cX10_folds 77 = .ok (.iload 6, 2) := by decide +kernel
theorem dX10_folds_79 : decode cX10_folds 79 = .ok (.iload_n 3, 1) := by decide +kernel
theorem dX10_folds_80 : decode cX10_folds 80 = .ok (.if_icmp .ge 102, 3) := by decide +kernel
theorem dX10_folds_83 : decode cX10_folds 83 = .ok (.iconst 0, 1) := by decide +kernel
theorem dX10_folds_84 : decode cX10_folds 84 = .ok (.istore 7, 2) := by decide +kernel
theorem dX10_folds_86 : decode cX10_folds 86 = .ok (.iload 7, 2) := by decide +kernel
theorem dX10_folds_88 : decode cX10_folds 88 = .ok (.iload_n 2, 1) := by decide +kernel
theorem dX10_folds_89 : decode cX10_folds 89 = .ok (.if_icmp .ge 87, 3) := by decide +kernel
theorem dX10_folds_92 : decode cX10_folds 92 = .ok (.iload 5, 2) := by decide +kernel
theorem dX10_folds_94 : decode cX10_folds 94 = .ok (.ifCond .eq 37, 3) := by decide +kernel
theorem dX10_folds_97 : decode cX10_folds 97 = .ok (.iload 6, 2) := by decide +kernel
theorem dX10_folds_99 : decode cX10_folds 99 = .ok (.iload_n 3, 1) := by decide +kernel
theorem dX10_folds_100 : decode cX10_folds 100 = .ok (.iconst 2, 1) := by decide +kernel
theorem dX10_folds_101 : decode cX10_folds 101 = .ok (.idiv, 1) := by decide +kernel
theorem dX10_folds_102 : decode cX10_folds 102 = .ok (.if_icmp .lt 29, 3) := by decide +kernel
theorem dX10_folds_105 : decode cX10_folds 105 = .ok (.aload_n 0, 1) := by decide +kernel
theorem dX10_folds_106 : decode cX10_folds 106 = .ok (.iload 4, 2) := by decide +kernel
theorem dX10_folds_108 : decode cX10_folds 108 = .ok (.iload 6, 2) := by decide +kernel
theorem dX10_folds_110 : decode cX10_folds 110 = .ok (.imul, 1) := by decide +kernel
theorem dX10_folds_111 : decode cX10_folds 111 = .ok (.iload 7, 2) := by decide +kernel
theorem dX10_folds_113 : decode cX10_folds 113 = .ok (.iadd, 1) := by decide +kernel
theorem dX10_folds_114 : decode cX10_folds 114 = .ok (.iload 4, 2) := by decide +kernel
theorem dX10_folds_116 : decode cX10_folds 116 = .ok (.iload_n 3, 1) := by decide +kernel
theorem dX10_folds_117 : decode cX10_folds 117 = .ok (.iconst 1, 1) := by decide +kernel
theorem dX10_folds_118 : decode cX10_folds 118 = .ok (.isub, 1) := by decide +kernel
theorem dX10_folds_119 : decode cX10_folds 119 = .ok (.iload 6, 2) := by decide +kernel
theorem dX10_folds_121 : decode cX10_folds 121 = .ok (.isub, 1) := by decide +kernel
theorem dX10_folds_122 : decode cX10_folds 122 = .ok (.imul, 1) := by decide +kernel
theorem dX10_folds_123 : decode cX10_folds 123 = .ok (.iload 7, 2) := by decide +kernel
theorem dX10_folds_125 : decode cX10_folds 125 = .ok (.iadd, 1) := by decide +kernel
theorem dX10_folds_126 : decode cX10_folds 126 = .ok (.iload_n 1, 1) := by decide +kernel
theorem dX10_folds_127 : decode cX10_folds 127 = .ok (.iconst 1, 1) := by decide +kernel
theorem dX10_folds_128 : decode cX10_folds 128 = .ok (.invokevirtual 191, 3) := by decide +kernel
theorem dX10_folds_131 : decode cX10_folds 131 = .ok (.iload 5, 2) := by decide +kernel
theorem dX10_folds_133 : decode cX10_folds 133 = .ok (.ifCond .ne 37, 3) := by decide +kernel
theorem dX10_folds_136 : decode cX10_folds 136 = .ok (.iload 7, 2) := by decide +kernel
theorem dX10_folds_138 : decode cX10_folds 138 = .ok (.iload_n 2, 1) := by decide +kernel
theorem dX10_folds_139 : decode cX10_folds 139 = .ok (.iconst 2, 1) := by decide +kernel
theorem dX10_folds_140 : decode cX10_folds 140 = .ok (.idiv, 1) := by decide +kernel
theorem dX10_folds_141 : decode cX10_folds 141 = .ok (.if_icmp .lt 29, 3) := by decide +kernel
theorem dX10_folds_144 : decode cX10_folds 144 = .ok (.aload_n 0, 1) := by decide +kernel
theorem dX10_folds_145 : decode cX10_folds 145 = .ok (.iload 4, 2) := by decide +kernel
theorem dX10_folds_147 : decode cX10_folds 147 = .ok (.iload 6, 2) := by decide +kernel
theorem dX10_folds_149 : decode cX10_folds 149 = .ok (.imul, 1) := by decide +kernel
theorem dX10_folds_150 : decode cX10_folds 150 = .ok (.iload 7, 2) := by decide +kernel
theorem dX10_folds_152 : decode cX10_folds 152 = .ok (.iadd, 1) := by decide +kernel
theorem dX10_folds_153 : decode cX10_folds 153 = .ok (.iload 4, 2) := by decide +kernel
theorem dX10_folds_155 : decode cX10_folds 155 = .ok (.iload 6, 2) := by decide +kernel
theorem dX10_folds_157 : decode cX10_folds 157 = .ok (.imul, 1) := by decide +kernel
theorem dX10_folds_158 : decode cX10_folds 158 = .ok (.iload_n 2, 1) := by decide +kernel
theorem dX10_folds_159 : decode cX10_folds 159 = .ok (.iadd, 1) := by decide +kernel
theorem dX10_folds_160 : decode cX10_folds 160 = .ok (.iconst 1, 1) := by decide +kernel
theorem dX10_folds_161 : decode cX10_folds 161 = .ok (.isub, 1) := by decide +kernel
theorem dX10_folds_162 : decode cX10_folds 162 = .ok (.iload 7, 2) := by decide +kernel
theorem dX10_folds_164 : decode cX10_folds 164 = .ok (.isub, 1) := by decide +kernel
theorem dX10_folds_165 : decode cX10_folds 165 = .ok (.iload_n 1, 1) := by decide +kernel
theorem dX10_folds_166 : decode cX10_folds 166 = .ok (.iconst 0, 1) := by decide +kernel
theorem dX10_folds_167 : decode cX10_folds 167 = .ok (.invokevirtual 191, 3) := by decide +kernel
theorem dX10_folds_170 : decode cX10_folds 170 = .ok (.iinc 7 1, 3) := by decide +kernel
theorem dX10_folds_173 : decode cX10_folds 173 = .ok (.goto (-87), 3) := by decide +kernel
theorem dX10_folds_176 : decode cX10_folds 176 = .ok (.iinc 6 1, 3) := by decide +kernel
theorem dX10_folds_179 : decode cX10_folds 179 = .ok (.goto (-102), 3) := by decide +kernel
theorem dX10_folds_182 : decode cX10_folds 182 = .ok (.iload 5, 2) := by decide +kernel
theorem dX10_folds_184 : decode cX10_folds 184 = .ok (.ifCond .eq 10, 3) := by decide +kernel
theorem dX10_folds_187 : decode cX10_folds 187 = .ok (.iload_n 3, 1) := by decide +kernel
theorem dX10_folds_188 : decode cX10_folds 188 = .ok (.iconst 2, 1) := by decide +kernel
theorem dX10_folds_189 : decode cX10_folds 189 = .ok (.idiv, 1) := by decide +kernel
theorem dX10_folds_190 : decode cX10_folds 190 = .ok (.istore_n 3, 1) := by decide +kernel
theorem dX10_folds_191 : decode cX10_folds 191 = .ok (.goto 7, 3) := by decide +kernel
theorem dX10_folds_194 : decode cX10_folds 194 = .ok (.iload_n 2, 1) := by decide +kernel
theorem dX10_folds_195 : decode cX10_folds 195 = .ok (.iconst 2, 1) := by decide +kernel
theorem dX10_folds_196 : decode cX10_folds 196 = .ok (.idiv, 1) := by decide +kernel
theorem dX10_folds_197 : decode cX10_folds 197 = .ok (.istore_n 2, 1) := by decide +kernel
theorem dX10_folds_198 : decode cX10_folds 198 = .ok (.goto (-143), 3) := by decide +kernel
theorem dX10_folds_201 : decode cX10_folds 201 = .ok (.iconst 0, 1) := by decide +kernel
theorem dX10_folds_202 : decode cX10_folds 202 = .ok (.istore 5, 2) := by decide +kernel
theorem dX10_folds_204 : decode cX10_folds 204 = .ok (.aload_n 0, 1) := by decide +kernel
theorem dX10_folds_205 : decode cX10_folds 205 = .ok (.getfield 58, 3) := by decide +kernel
theorem dX10_folds_208 : decode cX10_folds 208 = .ok (.iconst 0, 1) := by decide +kernel
theorem dX10_folds_209 : decode cX10_folds 209 = .ok (.iaload, 1) := by decide +kernel
theorem dX10_folds_210 : decode cX10_folds 210 = .ok (.iconst 1, 1) := by decide +kernel
theorem dX10_folds_211 : decode cX10_folds 211 = .ok (.isub, 1) := by decide +kernel
theorem dX10_folds_212 : decode cX10_folds 212 = .ok (.istore 6, 2) := by decide +kernel
theorem dX10_folds_214 : decode cX10_folds 214 = .ok (.iload 6, 2) := by decide +kernel
theorem dX10_folds_216 : decode cX10_folds 216 = .ok (.ifCond .lt 76, 3) := by decide +kernel
theorem dX10_folds_219 : decode cX10_folds 219 = .ok (.aload_n 0, 1) := by decide +kernel
theorem dX10_folds_220 : decode cX10_folds 220 = .ok (.getfield 55, 3) := by decide +kernel
theorem dX10_folds_223 : decode cX10_folds 223 = .ok (.iload 6, 2) := by decide +kernel
theorem dX10_folds_225 : decode cX10_folds 225 = .ok (.iaload, 1) := by decide +kernel
theorem dX10_folds_226 : decode cX10_folds 226 = .ok (.iconst 2, 1) := by decide +kernel
theorem dX10_folds_227 : decode cX10_folds 227 = .ok (.idiv, 1) := by decide +kernel
theorem dX10_folds_228 : decode cX10_folds 228 = .ok (.istore 7, 2) := by decide +kernel
theorem dX10_folds_230 : decode cX10_folds 230 = .ok (.aload_n 0, 1) := by decide +kernel
theorem dX10_folds_231 : decode cX10_folds 231 = .ok (.getfield 55, 3) := by decide +kernel
theorem dX10_folds_234 : decode cX10_folds 234 = .ok (.iload 6, 2) := by decide +kernel
theorem dX10_folds_236 : decode cX10_folds 236 = .ok (.iaload, 1) := by decide +kernel
theorem dX10_folds_237 : decode cX10_folds 237 = .ok (.iconst 2, 1) := by decide +kernel
theorem dX10_folds_238 : decode cX10_folds 238 = .ok (.irem, 1) := by decide +kernel
theorem dX10_folds_239 : decode cX10_folds 239 = .ok (.istore 8, 2) := by decide +kernel
theorem dX10_folds_241 : decode cX10_folds 241 = .ok (.aload_n 0, 1) := by decide +kernel
theorem dX10_folds_242 : decode cX10_folds 242 = .ok (.getfield 49, 3) := by decide +kernel
theorem dX10_folds_245 : decode cX10_folds 245 = .ok (.bipush 16, 2) := by decide +kernel
theorem dX10_folds_247 : decode cX10_folds 247 = .ok (.iload_n 1, 1) := by decide +kernel
theorem dX10_folds_248 : decode cX10_folds 248 = .ok (.imul, 1) := by decide +kernel
theorem dX10_folds_249 : decode cX10_folds 249 = .ok (.iconst 2, 1) := by decide +kernel
theorem dX10_folds_250 : decode cX10_folds 250 = .ok (.iload 7, 2) := by decide +kernel
theorem dX10_folds_252 : decode cX10_folds 252 = .ok (.imul, 1) := by decide +kernel
theorem dX10_folds_253 : decode cX10_folds 253 = .ok (.iadd, 1) := by decide +kernel
theorem dX10_folds_254 : decode cX10_folds 254 = .ok (.iload 8, 2) := by decide +kernel
theorem dX10_folds_256 : decode cX10_folds 256 = .ok (.iadd, 1) := by decide +kernel
theorem dX10_folds_257 : decode cX10_folds 257 = .ok (.iload 5, 2) := by decide +kernel
theorem dX10_folds_259 : decode cX10_folds 259 = .ok (.iastore, 1) := by decide +kernel
theorem dX10_folds_260 : decode cX10_folds 260 = .ok (.aload_n 0, 1) := by decide +kernel
theorem dX10_folds_261 : decode cX10_folds 261 = .ok (.getfield 49, 3) := by decide +kernel
theorem dX10_folds_264 : decode cX10_folds 264 = .ok (.bipush 16, 2) := by decide +kernel
theorem dX10_folds_266 : decode cX10_folds 266 = .ok (.iload_n 1, 1) := by decide +kernel
theorem dX10_folds_267 : decode cX10_folds 267 = .ok (.imul, 1) := by decide +kernel
theorem dX10_folds_268 : decode cX10_folds 268 = .ok (.iconst 2, 1) := by decide +kernel
theorem dX10_folds_269 : decode cX10_folds 269 = .ok (.iload 7, 2) := by decide +kernel
theorem dX10_folds_271 : decode cX10_folds 271 = .ok (.imul, 1) := by decide +kernel
theorem dX10_folds_272 : decode cX10_folds 272 = .ok (.iadd, 1) := by decide +kernel
theorem dX10_folds_273 : decode cX10_folds 273 = .ok (.iconst 1, 1) := by decide +kernel
theorem dX10_folds_274 : decode cX10_folds 274 = .ok (.iadd, 1) := by decide +kernel
theorem dX10_folds_275 : decode cX10_folds 275 = .ok (.iload 8, 2) := by decide +kernel
theorem dX10_folds_277 : decode cX10_folds 277 = .ok (.isub, 1) := by decide +kernel
theorem dX10_folds_278 : decode cX10_folds 278 = .ok (.iload 5, 2) := by decide +kernel
theorem dX10_folds_280 : decode cX10_folds 280 = .ok (.iconst 1, 1) := by decide +kernel
theorem dX10_folds_281 : decode cX10_folds 281 = .ok (.iadd, 1) := by decide +kernel
theorem dX10_folds_282 : decode cX10_folds 282 = .ok (.iastore, 1) := by decide +kernel
theorem dX10_folds_283 : decode cX10_folds 283 = .ok (.iinc 5 2, 3) := by decide +kernel
theorem dX10_folds_286 : decode cX10_folds 286 = .ok (.iinc 6 (-1), 3) := by decide +kernel
theorem dX10_folds_289 : decode cX10_folds 289 = .ok (.goto (-75), 3) := by decide +kernel
theorem dX10_folds_292 : decode cX10_folds 292 = .ok (.aload_n 0, 1) := by decide +kernel
theorem dX10_folds_293 : decode cX10_folds 293 = .ok (.getfield 58, 3) := by decide +kernel
theorem dX10_folds_296 : decode cX10_folds 296 = .ok (.iconst 0, 1) := by decide +kernel
theorem dX10_folds_297 : decode cX10_folds 297 = .ok (.iconst 0, 1) := by decide +kernel
theorem dX10_folds_298 : decode cX10_folds 298 = .ok (.iastore, 1) := by decide +kernel
theorem dX10_folds_299 : decode cX10_folds 299 = .ok (.return_, 1) := by decide +kernel
def f_X10_folds_L13 (k52 : Nat → Int32 → Int32 → Int32 → Int32 → Hp → Option (Unit × Hp)) : Nat → Nat → Int32 → Int32 → Int32 → Int32 → Hp → Option (Unit × Hp)
  | 0, _, _, _, _, _, _ => none
  | n + 1, l0, l1, l2, l3, l4, h =>
    bnd (f_X10_leavesOf h l1) fun v5 h6 =>
    if v5 ≤ l4 then (
    k52 l0 l1 l2 l3 l4 h6) else (
    gd (okOb h6 l0 10) <|
    vl (gR h6 l0 17) fun r9 =>
    un r9 fun b10 =>
    gd (okAb h6 b10 11 ((8 : Int32) * l4)) <|
    vl (sI h6 b10 ((8 : Int32) * l4).toNatClampNeg (((2 : Int32) * l4) + (1 : Int32))) fun h12 =>
    vl (gR h12 l0 18) fun r13 =>
    un r13 fun b14 =>
    gd (okAb h12 b14 11 l4) <|
    vl (sI h12 b14 l4.toNatClampNeg (1 : Int32)) fun h16 =>
    vl (l4 + (1 : Int32)) fun x17 =>
    f_X10_folds_L13 k52 n l0 l1 l2 l3 x17 h16)
set_option maxHeartbeats 4000000 in
set_option maxRecDepth 100000 in
theorem t_X10_folds_L13 {X : Cx} {d : Nat} {h0 h' : Hp} {v : Unit} {k52 : Nat → Int32 → Int32 → Int32 → Int32 → Hp → Option (Unit × Hp)} (hD : 2 ≤ d) (hk52 : ∀ (z0 : Nat) (z1 : Int32) (z2 : Int32) (z3 : Int32) (z4 : Int32) (h : Hp), k52 z0 z1 z2 z3 z4 h = some (v, h') → EV X mX10_folds d h0 (none) h' 52 [some (.ref z0), some (.int z1), some (.int z2), some (.int z3), some (.int z4), none, none, none, none] [] h) : ∀ (n : Nat) (l0 : Nat) (l1 : Int32) (l2 : Int32) (l3 : Int32) (l4 : Int32) (h : Hp), f_X10_folds_L13 k52 n l0 l1 l2 l3 l4 h = some (v, h') → EV X mX10_folds d h0 (none) h' 13 [some (.ref l0), some (.int l1), some (.int l2), some (.int l3), some (.int l4), none, none, none, none] [] h := by
  intro n
  induction n with
  | zero => intro l0 l1 l2 l3 l4 h H; simp [f_X10_folds_L13] at H
  | succ n ih =>
    intro l0 l1 l2 l3 l4 h H
    rw [f_X10_folds_L13] at H
    refine ev_iload dX10_folds_13 rfl ?_
    refine ev_iload_n dX10_folds_15 rfl rfl ?_
    replace H := bnd_some H
    obtain ⟨v5, h6, eh6, H⟩ := H
    have ph6 := (t_X10_leavesOf (X := X) (d := 1) (by omega) eh6)
    refine ev_callS (as := [.int l1]) dX10_folds_16 ph6 ok_X10_leavesOf (by omega) rfl k4_156 k4_157 rfl (Nat.le_of_ble_eq_true rfl) ?_
    refine ev_icmp_ge (tgt := 52) dX10_folds_19 (by decide) (fun c7 => ?_) (fun c7 => ?_)
    · rw [if_pos c7] at H
      exact hk52 l0 l1 l2 l3 l4 h6 H
    · rw [if_neg c7] at H
      refine ev_aload_n dX10_folds_22 rfl rfl rfl ?_
      replace H := gd_some H
      obtain ⟨g8, H⟩ := H
      replace H := vl_some H
      obtain ⟨r9, er9, H⟩ := H
      refine ev_getRx dX10_folds_23 fgX10_55 rfl (okOb.p g8) er9 ?_
      refine ev_bipush (v := (8 : Int32)) dX10_folds_26 (by decide) ?_
      refine ev_iload dX10_folds_28 rfl ?_
      refine ev_imul dX10_folds_30 ?_
      refine ev_iconst (v := (2 : Int32)) dX10_folds_31 (by decide) ?_
      refine ev_iload dX10_folds_32 rfl ?_
      refine ev_imul dX10_folds_34 ?_
      refine ev_iconst (v := (1 : Int32)) dX10_folds_35 (by decide) ?_
      refine ev_iadd dX10_folds_36 ?_
      replace H := un_some H
      obtain ⟨b10, eb10, H⟩ := H
      subst eb10
      replace H := gd_some H
      obtain ⟨g11, H⟩ := H
      replace H := vl_some H
      obtain ⟨h12, eh12, H⟩ := H
      refine ev_iast dX10_folds_37 (okAb.p g11) eh12 ?_
      refine ev_aload_n dX10_folds_38 rfl rfl rfl ?_
      replace H := vl_some H
      obtain ⟨r13, er13, H⟩ := H
      refine ev_getRx dX10_folds_39 fgX10_58 rfl (okO_sI eh12 (okOb.p g8)) er13 ?_
      refine ev_iload dX10_folds_42 rfl ?_
      refine ev_iconst (v := (1 : Int32)) dX10_folds_44 (by decide) ?_
      replace H := un_some H
      obtain ⟨b14, eb14, H⟩ := H
      subst eb14
      replace H := gd_some H
      obtain ⟨g15, H⟩ := H
      replace H := vl_some H
      obtain ⟨h16, eh16, H⟩ := H
      refine ev_iast dX10_folds_45 (okAb.p g15) eh16 ?_
      replace H := vl_some H
      obtain ⟨x17, ex17, H⟩ := H
      refine ev_iincx (loc2 := [some (.ref l0), some (.int l1), some (.int l2), some (.int l3), some (.int x17), none, none, none, none]) dX10_folds_46 rfl (by decide) ex17 (by decide) rfl ?_
      refine ev_goto (tgt := 13) dX10_folds_49 (by decide) ?_
      exact ih l0 l1 l2 l3 x17 h16 H
def f_X10_folds_J131 (k86 : Nat → Int32 → Int32 → Int32 → Int32 → Int32 → Int32 → Int32 → Hp → Option (Unit × Hp)) (l0 : Nat) (l1 : Int32) (l2 : Int32) (l3 : Int32) (l4 : Int32) (l5 : Int32) (l6 : Int32) (l7 : Int32) (h : Hp) : Option (Unit × Hp) :=
if l5 = 0 then (
if l7 < (l2 / (2 : Int32)) then (
vl (l7 + (1 : Int32)) fun x32 =>
k86 l0 l1 l2 l3 l4 l5 l6 x32 h) else (
gd (okOb h l0 10) <|
bnd (f_X10_puts h l0 ((l4 * l6) + l7) ((((l4 * l6) + l2) - (1 : Int32)) - l7) l1 (0 : Int32)) fun u34 h35 =>
vl (l7 + (1 : Int32)) fun x36 =>
k86 l0 l1 l2 l3 l4 l5 l6 x36 h35)) else (
vl (l7 + (1 : Int32)) fun x30 =>
k86 l0 l1 l2 l3 l4 l5 l6 x30 h)
set_option maxHeartbeats 4000000 in
set_option maxRecDepth 100000 in
theorem t_X10_folds_J131 {X : Cx} {d : Nat} {h0 h' : Hp} {v : Unit} {k86 : Nat → Int32 → Int32 → Int32 → Int32 → Int32 → Int32 → Int32 → Hp → Option (Unit × Hp)} (hD : 2 ≤ d) (hk86 : ∀ (z0 : Nat) (z1 : Int32) (z2 : Int32) (z3 : Int32) (z4 : Int32) (z5 : Int32) (z6 : Int32) (z7 : Int32) (h : Hp), k86 z0 z1 z2 z3 z4 z5 z6 z7 h = some (v, h') → EV X mX10_folds d h0 (none) h' 86 [some (.ref z0), some (.int z1), some (.int z2), some (.int z3), some (.int z4), some (.int z5), some (.int z6), some (.int z7), none] [] h) : ∀ (l0 : Nat) (l1 : Int32) (l2 : Int32) (l3 : Int32) (l4 : Int32) (l5 : Int32) (l6 : Int32) (l7 : Int32) (h : Hp), f_X10_folds_J131 k86 l0 l1 l2 l3 l4 l5 l6 l7 h = some (v, h') → EV X mX10_folds d h0 (none) h' 131 [some (.ref l0), some (.int l1), some (.int l2), some (.int l3), some (.int l4), some (.int l5), some (.int l6), some (.int l7), none] [] h := by
  intro l0 l1 l2 l3 l4 l5 l6 l7 h H
  unfold f_X10_folds_J131 at H
  refine ev_iload dX10_folds_131 rfl ?_
  refine ev_if_ne (tgt := 170) dX10_folds_133 (by decide) (fun c29 => ?_) (fun c29 => ?_)
  · rw [if_neg c29] at H
    replace H := vl_some H
    obtain ⟨x30, ex30, H⟩ := H
    refine ev_iincx (loc2 := [some (.ref l0), some (.int l1), some (.int l2), some (.int l3), some (.int l4), some (.int l5), some (.int l6), some (.int x30), none]) dX10_folds_170 rfl (by decide) ex30 (by decide) rfl ?_
    refine ev_goto (tgt := 86) dX10_folds_173 (by decide) ?_
    exact hk86 l0 l1 l2 l3 l4 l5 l6 x30 h H
  · rw [if_pos c29] at H
    refine ev_iload dX10_folds_136 rfl ?_
    refine ev_iload_n dX10_folds_138 rfl rfl ?_
    refine ev_iconst (v := (2 : Int32)) dX10_folds_139 (by decide) ?_
    refine ev_idiv dX10_folds_140 (by decide) ?_
    refine ev_icmp_lt (tgt := 170) dX10_folds_141 (by decide) (fun c31 => ?_) (fun c31 => ?_)
    · rw [if_pos c31] at H
      replace H := vl_some H
      obtain ⟨x32, ex32, H⟩ := H
      refine ev_iincx (loc2 := [some (.ref l0), some (.int l1), some (.int l2), some (.int l3), some (.int l4), some (.int l5), some (.int l6), some (.int x32), none]) dX10_folds_170 rfl (by decide) ex32 (by decide) rfl ?_
      refine ev_goto (tgt := 86) dX10_folds_173 (by decide) ?_
      exact hk86 l0 l1 l2 l3 l4 l5 l6 x32 h H
    · rw [if_neg c31] at H
      refine ev_aload_n dX10_folds_144 rfl rfl rfl ?_
      refine ev_iload dX10_folds_145 rfl ?_
      refine ev_iload dX10_folds_147 rfl ?_
      refine ev_imul dX10_folds_149 ?_
      refine ev_iload dX10_folds_150 rfl ?_
      refine ev_iadd dX10_folds_152 ?_
      refine ev_iload dX10_folds_153 rfl ?_
      refine ev_iload dX10_folds_155 rfl ?_
      refine ev_imul dX10_folds_157 ?_
      refine ev_iload_n dX10_folds_158 rfl rfl ?_
      refine ev_iadd dX10_folds_159 ?_
      refine ev_iconst (v := (1 : Int32)) dX10_folds_160 (by decide) ?_
      refine ev_isub dX10_folds_161 ?_
      refine ev_iload dX10_folds_162 rfl ?_
      refine ev_isub dX10_folds_164 ?_
      refine ev_iload_n dX10_folds_165 rfl rfl ?_
      refine ev_iconst (v := (0 : Int32)) dX10_folds_166 (by decide) ?_
      replace H := gd_some H
      obtain ⟨g33, H⟩ := H
      replace H := bnd_some H
      obtain ⟨u34, h35, eh35, H⟩ := H
      have ph35 := (t_X10_puts (X := X) (d := 1) (by omega) eh35)
      refine ev_callV (as := [.int ((l4 * l6) + l7), .int ((((l4 * l6) + l2) - (1 : Int32)) - l7), .int l1, .int (0 : Int32)]) dX10_folds_167 ph35 ok_X10_puts (by omega) rfl k4_159 k4_161 ks_26 (ci := 10) (by decide) rfl rfl (okOb.p g33) rfl (Nat.le_of_ble_eq_true rfl) ?_
      replace H := vl_some H
      obtain ⟨x36, ex36, H⟩ := H
      refine ev_iincx (loc2 := [some (.ref l0), some (.int l1), some (.int l2), some (.int l3), some (.int l4), some (.int l5), some (.int l6), some (.int x36), none]) dX10_folds_170 rfl (by decide) ex36 (by decide) rfl ?_
      refine ev_goto (tgt := 86) dX10_folds_173 (by decide) ?_
      exact hk86 l0 l1 l2 l3 l4 l5 l6 x36 h35 H
def f_X10_folds_L86 (k176 : Nat → Int32 → Int32 → Int32 → Int32 → Int32 → Int32 → Int32 → Hp → Option (Unit × Hp)) : Nat → Nat → Int32 → Int32 → Int32 → Int32 → Int32 → Int32 → Int32 → Hp → Option (Unit × Hp)
  | 0, _, _, _, _, _, _, _, _, _ => none
  | n + 1, l0, l1, l2, l3, l4, l5, l6, l7, h =>
    if l2 ≤ l7 then (
    k176 l0 l1 l2 l3 l4 l5 l6 l7 h) else (
    if l5 = 0 then (
    f_X10_folds_J131 (f_X10_folds_L86 k176 n) l0 l1 l2 l3 l4 l5 l6 l7 h) else (
    if l6 < (l3 / (2 : Int32)) then (
    f_X10_folds_J131 (f_X10_folds_L86 k176 n) l0 l1 l2 l3 l4 l5 l6 l7 h) else (
    gd (okOb h l0 10) <|
    bnd (f_X10_puts h l0 ((l4 * l6) + l7) ((l4 * ((l3 - (1 : Int32)) - l6)) + l7) l1 (1 : Int32)) fun u39 h40 =>
    f_X10_folds_J131 (f_X10_folds_L86 k176 n) l0 l1 l2 l3 l4 l5 l6 l7 h40)))
set_option maxHeartbeats 4000000 in
set_option maxRecDepth 100000 in
theorem t_X10_folds_L86 {X : Cx} {d : Nat} {h0 h' : Hp} {v : Unit} {k176 : Nat → Int32 → Int32 → Int32 → Int32 → Int32 → Int32 → Int32 → Hp → Option (Unit × Hp)} (hD : 2 ≤ d) (hk176 : ∀ (z0 : Nat) (z1 : Int32) (z2 : Int32) (z3 : Int32) (z4 : Int32) (z5 : Int32) (z6 : Int32) (z7 : Int32) (h : Hp), k176 z0 z1 z2 z3 z4 z5 z6 z7 h = some (v, h') → EV X mX10_folds d h0 (none) h' 176 [some (.ref z0), some (.int z1), some (.int z2), some (.int z3), some (.int z4), some (.int z5), some (.int z6), some (.int z7), none] [] h) : ∀ (n : Nat) (l0 : Nat) (l1 : Int32) (l2 : Int32) (l3 : Int32) (l4 : Int32) (l5 : Int32) (l6 : Int32) (l7 : Int32) (h : Hp), f_X10_folds_L86 k176 n l0 l1 l2 l3 l4 l5 l6 l7 h = some (v, h') → EV X mX10_folds d h0 (none) h' 86 [some (.ref l0), some (.int l1), some (.int l2), some (.int l3), some (.int l4), some (.int l5), some (.int l6), some (.int l7), none] [] h := by
  intro n
  induction n with
  | zero => intro l0 l1 l2 l3 l4 l5 l6 l7 h H; simp [f_X10_folds_L86] at H
  | succ n ih =>
    intro l0 l1 l2 l3 l4 l5 l6 l7 h H
    rw [f_X10_folds_L86] at H
    refine ev_iload dX10_folds_86 rfl ?_
    refine ev_iload_n dX10_folds_88 rfl rfl ?_
    refine ev_icmp_ge (tgt := 176) dX10_folds_89 (by decide) (fun c27 => ?_) (fun c27 => ?_)
    · rw [if_pos c27] at H
      exact hk176 l0 l1 l2 l3 l4 l5 l6 l7 h H
    · rw [if_neg c27] at H
      refine ev_iload dX10_folds_92 rfl ?_
      refine ev_if_eq (tgt := 131) dX10_folds_94 (by decide) (fun c28 => ?_) (fun c28 => ?_)
      · rw [if_pos c28] at H
        exact t_X10_folds_J131 hD ih l0 l1 l2 l3 l4 l5 l6 l7 h H
      · rw [if_neg c28] at H
        refine ev_iload dX10_folds_97 rfl ?_
        refine ev_iload_n dX10_folds_99 rfl rfl ?_
        refine ev_iconst (v := (2 : Int32)) dX10_folds_100 (by decide) ?_
        refine ev_idiv dX10_folds_101 (by decide) ?_
        refine ev_icmp_lt (tgt := 131) dX10_folds_102 (by decide) (fun c37 => ?_) (fun c37 => ?_)
        · rw [if_pos c37] at H
          exact t_X10_folds_J131 hD ih l0 l1 l2 l3 l4 l5 l6 l7 h H
        · rw [if_neg c37] at H
          refine ev_aload_n dX10_folds_105 rfl rfl rfl ?_
          refine ev_iload dX10_folds_106 rfl ?_
          refine ev_iload dX10_folds_108 rfl ?_
          refine ev_imul dX10_folds_110 ?_
          refine ev_iload dX10_folds_111 rfl ?_
          refine ev_iadd dX10_folds_113 ?_
          refine ev_iload dX10_folds_114 rfl ?_
          refine ev_iload_n dX10_folds_116 rfl rfl ?_
          refine ev_iconst (v := (1 : Int32)) dX10_folds_117 (by decide) ?_
          refine ev_isub dX10_folds_118 ?_
          refine ev_iload dX10_folds_119 rfl ?_
          refine ev_isub dX10_folds_121 ?_
          refine ev_imul dX10_folds_122 ?_
          refine ev_iload dX10_folds_123 rfl ?_
          refine ev_iadd dX10_folds_125 ?_
          refine ev_iload_n dX10_folds_126 rfl rfl ?_
          refine ev_iconst (v := (1 : Int32)) dX10_folds_127 (by decide) ?_
          replace H := gd_some H
          obtain ⟨g38, H⟩ := H
          replace H := bnd_some H
          obtain ⟨u39, h40, eh40, H⟩ := H
          have ph40 := (t_X10_puts (X := X) (d := 1) (by omega) eh40)
          refine ev_callV (as := [.int ((l4 * l6) + l7), .int ((l4 * ((l3 - (1 : Int32)) - l6)) + l7), .int l1, .int (1 : Int32)]) dX10_folds_128 ph40 ok_X10_puts (by omega) rfl k4_159 k4_161 ks_26 (ci := 10) (by decide) rfl rfl (okOb.p g38) rfl (Nat.le_of_ble_eq_true rfl) ?_
          exact t_X10_folds_J131 hD ih l0 l1 l2 l3 l4 l5 l6 l7 h40 H
def f_X10_folds_L77 (k182 : Nat → Int32 → Int32 → Int32 → Int32 → Int32 → Int32 → Hp → Option (Unit × Hp)) : Nat → Nat → Int32 → Int32 → Int32 → Int32 → Int32 → Int32 → Hp → Option (Unit × Hp)
  | 0, _, _, _, _, _, _, _, _ => none
  | n + 1, l0, l1, l2, l3, l4, l5, l6, h =>
    if l3 ≤ l6 then (
    k182 l0 l1 l2 l3 l4 l5 l6 h) else (
    f_X10_folds_L86 (fun y41 y42 y43 y44 y45 y46 y47 y48 h49 =>
    vl (y47 + (1 : Int32)) fun x50 =>
    f_X10_folds_L77 k182 n y41 y42 y43 y44 y45 y46 x50 h49) 6000 l0 l1 l2 l3 l4 l5 l6 (0 : Int32) h)
set_option maxHeartbeats 4000000 in
set_option maxRecDepth 100000 in
theorem t_X10_folds_L77 {X : Cx} {d : Nat} {h0 h' : Hp} {v : Unit} {k182 : Nat → Int32 → Int32 → Int32 → Int32 → Int32 → Int32 → Hp → Option (Unit × Hp)} (hD : 2 ≤ d) (hk182 : ∀ (z0 : Nat) (z1 : Int32) (z2 : Int32) (z3 : Int32) (z4 : Int32) (z5 : Int32) (z6 : Int32) (h : Hp), k182 z0 z1 z2 z3 z4 z5 z6 h = some (v, h') → EV X mX10_folds d h0 (none) h' 182 [some (.ref z0), some (.int z1), some (.int z2), some (.int z3), some (.int z4), some (.int z5), some (.int z6), none, none] [] h) : ∀ (n : Nat) (l0 : Nat) (l1 : Int32) (l2 : Int32) (l3 : Int32) (l4 : Int32) (l5 : Int32) (l6 : Int32) (h : Hp), f_X10_folds_L77 k182 n l0 l1 l2 l3 l4 l5 l6 h = some (v, h') → EV X mX10_folds d h0 (none) h' 77 [some (.ref l0), some (.int l1), some (.int l2), some (.int l3), some (.int l4), some (.int l5), some (.int l6), none, none] [] h := by
  intro n
  induction n with
  | zero => intro l0 l1 l2 l3 l4 l5 l6 h H; simp [f_X10_folds_L77] at H
  | succ n ih =>
    intro l0 l1 l2 l3 l4 l5 l6 h H
    rw [f_X10_folds_L77] at H
    refine ev_iload dX10_folds_77 rfl ?_
    refine ev_iload_n dX10_folds_79 rfl rfl ?_
    refine ev_icmp_ge (tgt := 182) dX10_folds_80 (by decide) (fun c26 => ?_) (fun c26 => ?_)
    · rw [if_pos c26] at H
      exact hk182 l0 l1 l2 l3 l4 l5 l6 h H
    · rw [if_neg c26] at H
      refine ev_iconst (v := (0 : Int32)) dX10_folds_83 (by decide) ?_
      refine ev_istore (loc2 := [some (.ref l0), some (.int l1), some (.int l2), some (.int l3), some (.int l4), some (.int l5), some (.int l6), some (.int (0 : Int32)), none]) dX10_folds_84 (by decide) rfl ?_
      refine t_X10_folds_L86 hD ?_ 6000 l0 l1 l2 l3 l4 l5 l6 (0 : Int32) h H
      · intro y41 y42 y43 y44 y45 y46 y47 y48 h49 H
        replace H := vl_some H
        obtain ⟨x50, ex50, H⟩ := H
        refine ev_iincx (loc2 := [some (.ref y41), some (.int y42), some (.int y43), some (.int y44), some (.int y45), some (.int y46), some (.int x50), some (.int y48), none]) dX10_folds_176 rfl (by decide) ex50 (by decide) rfl ?_
        refine ev_goto (tgt := 77) dX10_folds_179 (by decide) ?_
        refine ev_drop (loc2 := [some (.ref y41), some (.int y42), some (.int y43), some (.int y44), some (.int y45), some (.int y46), some (.int x50), none, none]) [true, true, true, true, true, true, true, false, true] rfl ?_
        exact ih y41 y42 y43 y44 y45 y46 x50 h49 H
def f_X10_folds_J72 (k55 : Nat → Int32 → Int32 → Int32 → Int32 → Hp → Option (Unit × Hp)) (l0 : Nat) (l1 : Int32) (l2 : Int32) (l3 : Int32) (l4 : Int32) (w0 : Int32) (h : Hp) : Option (Unit × Hp) :=
f_X10_folds_L77 (fun y51 y52 y53 y54 y55 y56 y57 h58 =>
if y56 = 0 then (
vl (y53 / (2 : Int32)) fun x60 =>
k55 y51 y52 x60 y54 y55 h58) else (
vl (y54 / (2 : Int32)) fun x61 =>
k55 y51 y52 y53 x61 y55 h58)) 6000 l0 l1 l2 l3 l4 w0 (0 : Int32) h
set_option maxHeartbeats 4000000 in
set_option maxRecDepth 100000 in
theorem t_X10_folds_J72 {X : Cx} {d : Nat} {h0 h' : Hp} {v : Unit} {k55 : Nat → Int32 → Int32 → Int32 → Int32 → Hp → Option (Unit × Hp)} (hD : 2 ≤ d) (hk55 : ∀ (z0 : Nat) (z1 : Int32) (z2 : Int32) (z3 : Int32) (z4 : Int32) (h : Hp), k55 z0 z1 z2 z3 z4 h = some (v, h') → EV X mX10_folds d h0 (none) h' 55 [some (.ref z0), some (.int z1), some (.int z2), some (.int z3), some (.int z4), none, none, none, none] [] h) : ∀ (l0 : Nat) (l1 : Int32) (l2 : Int32) (l3 : Int32) (l4 : Int32) (w0 : Int32) (h : Hp), f_X10_folds_J72 k55 l0 l1 l2 l3 l4 w0 h = some (v, h') → EV X mX10_folds d h0 (none) h' 72 [some (.ref l0), some (.int l1), some (.int l2), some (.int l3), some (.int l4), none, none, none, none] [.int w0] h := by
  intro l0 l1 l2 l3 l4 w0 h H
  unfold f_X10_folds_J72 at H
  refine ev_istore (loc2 := [some (.ref l0), some (.int l1), some (.int l2), some (.int l3), some (.int l4), some (.int w0), none, none, none]) dX10_folds_72 (by decide) rfl ?_
  refine ev_iconst (v := (0 : Int32)) dX10_folds_74 (by decide) ?_
  refine ev_istore (loc2 := [some (.ref l0), some (.int l1), some (.int l2), some (.int l3), some (.int l4), some (.int w0), some (.int (0 : Int32)), none, none]) dX10_folds_75 (by decide) rfl ?_
  refine t_X10_folds_L77 hD ?_ 6000 l0 l1 l2 l3 l4 w0 (0 : Int32) h H
  · intro y51 y52 y53 y54 y55 y56 y57 h58 H
    refine ev_iload dX10_folds_182 rfl ?_
    refine ev_if_eq (tgt := 194) dX10_folds_184 (by decide) (fun c59 => ?_) (fun c59 => ?_)
    · rw [if_pos c59] at H
      refine ev_iload_n dX10_folds_194 rfl rfl ?_
      refine ev_iconst (v := (2 : Int32)) dX10_folds_195 (by decide) ?_
      refine ev_idiv dX10_folds_196 (by decide) ?_
      replace H := vl_some H
      obtain ⟨x60, ex60, H⟩ := H
      refine ev_istore_nx (loc2 := [some (.ref y51), some (.int y52), some (.int x60), some (.int y54), some (.int y55), some (.int y56), some (.int y57), none, none]) dX10_folds_197 rfl (by decide) ex60 rfl ?_
      refine ev_goto (tgt := 55) dX10_folds_198 (by decide) ?_
      refine ev_drop (loc2 := [some (.ref y51), some (.int y52), some (.int x60), some (.int y54), some (.int y55), none, none, none, none]) [true, true, true, true, true, false, false, true, true] rfl ?_
      exact hk55 y51 y52 x60 y54 y55 h58 H
    · rw [if_neg c59] at H
      refine ev_iload_n dX10_folds_187 rfl rfl ?_
      refine ev_iconst (v := (2 : Int32)) dX10_folds_188 (by decide) ?_
      refine ev_idiv dX10_folds_189 (by decide) ?_
      replace H := vl_some H
      obtain ⟨x61, ex61, H⟩ := H
      refine ev_istore_nx (loc2 := [some (.ref y51), some (.int y52), some (.int y53), some (.int x61), some (.int y55), some (.int y56), some (.int y57), none, none]) dX10_folds_190 rfl (by decide) ex61 rfl ?_
      refine ev_goto (tgt := 198) dX10_folds_191 (by decide) ?_
      refine ev_goto (tgt := 55) dX10_folds_198 (by decide) ?_
      refine ev_drop (loc2 := [some (.ref y51), some (.int y52), some (.int y53), some (.int x61), some (.int y55), none, none, none, none]) [true, true, true, true, true, false, false, true, true] rfl ?_
      exact hk55 y51 y52 y53 x61 y55 h58 H
def f_X10_folds_L55 (k201 : Nat → Int32 → Int32 → Int32 → Int32 → Hp → Option (Unit × Hp)) : Nat → Nat → Int32 → Int32 → Int32 → Int32 → Hp → Option (Unit × Hp)
  | 0, _, _, _, _, _, _ => none
  | n + 1, l0, l1, l2, l3, l4, h =>
    if (l2 * l3) ≤ (1 : Int32) then (
    k201 l0 l1 l2 l3 l4 h) else (
    if l3 < l2 then (
    f_X10_folds_J72 (f_X10_folds_L55 k201 n) l0 l1 l2 l3 l4 (0 : Int32) h) else (
    f_X10_folds_J72 (f_X10_folds_L55 k201 n) l0 l1 l2 l3 l4 (1 : Int32) h))
set_option maxHeartbeats 4000000 in
set_option maxRecDepth 100000 in
theorem t_X10_folds_L55 {X : Cx} {d : Nat} {h0 h' : Hp} {v : Unit} {k201 : Nat → Int32 → Int32 → Int32 → Int32 → Hp → Option (Unit × Hp)} (hD : 2 ≤ d) (hk201 : ∀ (z0 : Nat) (z1 : Int32) (z2 : Int32) (z3 : Int32) (z4 : Int32) (h : Hp), k201 z0 z1 z2 z3 z4 h = some (v, h') → EV X mX10_folds d h0 (none) h' 201 [some (.ref z0), some (.int z1), some (.int z2), some (.int z3), some (.int z4), none, none, none, none] [] h) : ∀ (n : Nat) (l0 : Nat) (l1 : Int32) (l2 : Int32) (l3 : Int32) (l4 : Int32) (h : Hp), f_X10_folds_L55 k201 n l0 l1 l2 l3 l4 h = some (v, h') → EV X mX10_folds d h0 (none) h' 55 [some (.ref l0), some (.int l1), some (.int l2), some (.int l3), some (.int l4), none, none, none, none] [] h := by
  intro n
  induction n with
  | zero => intro l0 l1 l2 l3 l4 h H; simp [f_X10_folds_L55] at H
  | succ n ih =>
    intro l0 l1 l2 l3 l4 h H
    rw [f_X10_folds_L55] at H
    refine ev_iload_n dX10_folds_55 rfl rfl ?_
    refine ev_iload_n dX10_folds_56 rfl rfl ?_
    refine ev_imul dX10_folds_57 ?_
    refine ev_iconst (v := (1 : Int32)) dX10_folds_58 (by decide) ?_
    refine ev_icmp_le (tgt := 201) dX10_folds_59 (by decide) (fun c24 => ?_) (fun c24 => ?_)
    · rw [if_pos c24] at H
      exact hk201 l0 l1 l2 l3 l4 h H
    · rw [if_neg c24] at H
      refine ev_iload_n dX10_folds_62 rfl rfl ?_
      refine ev_iload_n dX10_folds_63 rfl rfl ?_
      refine ev_icmp_gt (tgt := 71) dX10_folds_64 (by decide) (fun c25 => ?_) (fun c25 => ?_)
      · rw [if_pos c25] at H
        refine ev_iconst (v := (0 : Int32)) dX10_folds_71 (by decide) ?_
        exact t_X10_folds_J72 hD ih l0 l1 l2 l3 l4 (0 : Int32) h H
      · rw [if_neg c25] at H
        refine ev_iconst (v := (1 : Int32)) dX10_folds_67 (by decide) ?_
        refine ev_goto (tgt := 72) dX10_folds_68 (by decide) ?_
        exact t_X10_folds_J72 hD ih l0 l1 l2 l3 l4 (1 : Int32) h H
def f_X10_folds_L214 : Nat → Nat → Int32 → Int32 → Int32 → Int32 → Int32 → Int32 → Hp → Option (Unit × Hp)
  | 0, _, _, _, _, _, _, _, _ => none
  | n + 1, l0, l1, l2, l3, l4, l5, l6, h =>
    if l6 < 0 then (
    gd (okOb h l0 10) <|
    vl (gR h l0 18) fun r76 =>
    un r76 fun b77 =>
    gd (okAb h b77 11 (0 : Int32)) <|
    vl (sI h b77 (0 : Int32).toNatClampNeg (0 : Int32)) fun h79 =>
    some ((), h79)) else (
    gd (okOb h l0 10) <|
    vl (gR h l0 17) fun r81 =>
    un r81 fun b82 =>
    gd (okAb h b82 11 l6) <|
    vl (gI h b82 l6.toNatClampNeg) fun x84 =>
    vl (x84 / (2 : Int32)) fun x85 =>
    vl (gR h l0 17) fun r86 =>
    un r86 fun b87 =>
    gd (okAb h b87 11 l6) <|
    vl (gI h b87 l6.toNatClampNeg) fun x89 =>
    vl (x89 - x89 / (2 : Int32) * (2 : Int32)) fun x90 =>
    vl (gR h l0 15) fun r91 =>
    un r91 fun b92 =>
    gd (okAb h b92 11 ((((16 : Int32) * l1) + ((2 : Int32) * x85)) + x90)) <|
    vl (sI h b92 ((((16 : Int32) * l1) + ((2 : Int32) * x85)) + x90).toNatClampNeg l5) fun h94 =>
    vl (gR h94 l0 15) fun r95 =>
    un r95 fun b96 =>
    gd (okAb h94 b96 11 (((((16 : Int32) * l1) + ((2 : Int32) * x85)) + (1 : Int32)) - x90)) <|
    vl (sI h94 b96 (((((16 : Int32) * l1) + ((2 : Int32) * x85)) + (1 : Int32)) - x90).toNatClampNeg (l5 + (1 : Int32))) fun h98 =>
    vl (l5 + (2 : Int32)) fun x99 =>
    vl (l6 + (-1 : Int32)) fun x100 =>
    f_X10_folds_L214 n l0 l1 l2 l3 l4 x99 x100 h98)
set_option maxHeartbeats 4000000 in
set_option maxRecDepth 100000 in
theorem t_X10_folds_L214 {X : Cx} {d : Nat} {h0 h' : Hp} {v : Unit} (hD : 2 ≤ d) : ∀ (n : Nat) (l0 : Nat) (l1 : Int32) (l2 : Int32) (l3 : Int32) (l4 : Int32) (l5 : Int32) (l6 : Int32) (h : Hp), f_X10_folds_L214 n l0 l1 l2 l3 l4 l5 l6 h = some (v, h') → EV X mX10_folds d h0 (none) h' 214 [some (.ref l0), some (.int l1), some (.int l2), some (.int l3), some (.int l4), some (.int l5), some (.int l6), none, none] [] h := by
  intro n
  induction n with
  | zero => intro l0 l1 l2 l3 l4 l5 l6 h H; simp [f_X10_folds_L214] at H
  | succ n ih =>
    intro l0 l1 l2 l3 l4 l5 l6 h H
    rw [f_X10_folds_L214] at H
    refine ev_iload dX10_folds_214 rfl ?_
    refine ev_if_lt (tgt := 292) dX10_folds_216 (by decide) (fun c74 => ?_) (fun c74 => ?_)
    · rw [if_pos c74] at H
      refine ev_aload_n dX10_folds_292 rfl rfl rfl ?_
      replace H := gd_some H
      obtain ⟨g75, H⟩ := H
      replace H := vl_some H
      obtain ⟨r76, er76, H⟩ := H
      refine ev_getRx dX10_folds_293 fgX10_58 rfl (okOb.p g75) er76 ?_
      refine ev_iconst (v := (0 : Int32)) dX10_folds_296 (by decide) ?_
      refine ev_iconst (v := (0 : Int32)) dX10_folds_297 (by decide) ?_
      replace H := un_some H
      obtain ⟨b77, eb77, H⟩ := H
      subst eb77
      replace H := gd_some H
      obtain ⟨g78, H⟩ := H
      replace H := vl_some H
      obtain ⟨h79, eh79, H⟩ := H
      refine ev_iast dX10_folds_298 (okAb.p g78) eh79 ?_
      exact ev_vretx dX10_folds_299 rfl H
    · rw [if_neg c74] at H
      refine ev_aload_n dX10_folds_219 rfl rfl rfl ?_
      replace H := gd_some H
      obtain ⟨g80, H⟩ := H
      replace H := vl_some H
      obtain ⟨r81, er81, H⟩ := H
      refine ev_getRx dX10_folds_220 fgX10_55 rfl (okOb.p g80) er81 ?_
      refine ev_iload dX10_folds_223 rfl ?_
      replace H := un_some H
      obtain ⟨b82, eb82, H⟩ := H
      subst eb82
      replace H := gd_some H
      obtain ⟨g83, H⟩ := H
      replace H := vl_some H
      obtain ⟨x84, ex84, H⟩ := H
      refine ev_ialdx dX10_folds_225 (okAb.p g83) ex84 ?_
      refine ev_iconst (v := (2 : Int32)) dX10_folds_226 (by decide) ?_
      refine ev_idiv dX10_folds_227 (by decide) ?_
      replace H := vl_some H
      obtain ⟨x85, ex85, H⟩ := H
      refine ev_istorex (loc2 := [some (.ref l0), some (.int l1), some (.int l2), some (.int l3), some (.int l4), some (.int l5), some (.int l6), some (.int x85), none]) dX10_folds_228 (by decide) ex85 rfl ?_
      refine ev_aload_n dX10_folds_230 rfl rfl rfl ?_
      replace H := vl_some H
      obtain ⟨r86, er86, H⟩ := H
      refine ev_getRx dX10_folds_231 fgX10_55 rfl (okOb.p g80) er86 ?_
      refine ev_iload dX10_folds_234 rfl ?_
      replace H := un_some H
      obtain ⟨b87, eb87, H⟩ := H
      subst eb87
      replace H := gd_some H
      obtain ⟨g88, H⟩ := H
      replace H := vl_some H
      obtain ⟨x89, ex89, H⟩ := H
      refine ev_ialdx dX10_folds_236 (okAb.p g88) ex89 ?_
      refine ev_iconst (v := (2 : Int32)) dX10_folds_237 (by decide) ?_
      refine ev_irem dX10_folds_238 (by decide) ?_
      replace H := vl_some H
      obtain ⟨x90, ex90, H⟩ := H
      refine ev_istorex (loc2 := [some (.ref l0), some (.int l1), some (.int l2), some (.int l3), some (.int l4), some (.int l5), some (.int l6), some (.int x85), some (.int x90)]) dX10_folds_239 (by decide) ex90 rfl ?_
      refine ev_aload_n dX10_folds_241 rfl rfl rfl ?_
      replace H := vl_some H
      obtain ⟨r91, er91, H⟩ := H
      refine ev_getRx dX10_folds_242 fgX10_49 rfl (okOb.p g80) er91 ?_
      refine ev_bipush (v := (16 : Int32)) dX10_folds_245 (by decide) ?_
      refine ev_iload_n dX10_folds_247 rfl rfl ?_
      refine ev_imul dX10_folds_248 ?_
      refine ev_iconst (v := (2 : Int32)) dX10_folds_249 (by decide) ?_
      refine ev_iload dX10_folds_250 rfl ?_
      refine ev_imul dX10_folds_252 ?_
      refine ev_iadd dX10_folds_253 ?_
      refine ev_iload dX10_folds_254 rfl ?_
      refine ev_iadd dX10_folds_256 ?_
      refine ev_iload dX10_folds_257 rfl ?_
      replace H := un_some H
      obtain ⟨b92, eb92, H⟩ := H
      subst eb92
      replace H := gd_some H
      obtain ⟨g93, H⟩ := H
      replace H := vl_some H
      obtain ⟨h94, eh94, H⟩ := H
      refine ev_iast dX10_folds_259 (okAb.p g93) eh94 ?_
      refine ev_aload_n dX10_folds_260 rfl rfl rfl ?_
      replace H := vl_some H
      obtain ⟨r95, er95, H⟩ := H
      refine ev_getRx dX10_folds_261 fgX10_49 rfl (okO_sI eh94 (okOb.p g80)) er95 ?_
      refine ev_bipush (v := (16 : Int32)) dX10_folds_264 (by decide) ?_
      refine ev_iload_n dX10_folds_266 rfl rfl ?_
      refine ev_imul dX10_folds_267 ?_
      refine ev_iconst (v := (2 : Int32)) dX10_folds_268 (by decide) ?_
      refine ev_iload dX10_folds_269 rfl ?_
      refine ev_imul dX10_folds_271 ?_
      refine ev_iadd dX10_folds_272 ?_
      refine ev_iconst (v := (1 : Int32)) dX10_folds_273 (by decide) ?_
      refine ev_iadd dX10_folds_274 ?_
      refine ev_iload dX10_folds_275 rfl ?_
      refine ev_isub dX10_folds_277 ?_
      refine ev_iload dX10_folds_278 rfl ?_
      refine ev_iconst (v := (1 : Int32)) dX10_folds_280 (by decide) ?_
      refine ev_iadd dX10_folds_281 ?_
      replace H := un_some H
      obtain ⟨b96, eb96, H⟩ := H
      subst eb96
      replace H := gd_some H
      obtain ⟨g97, H⟩ := H
      replace H := vl_some H
      obtain ⟨h98, eh98, H⟩ := H
      refine ev_iast dX10_folds_282 (okAb.p g97) eh98 ?_
      replace H := vl_some H
      obtain ⟨x99, ex99, H⟩ := H
      refine ev_iincx (loc2 := [some (.ref l0), some (.int l1), some (.int l2), some (.int l3), some (.int l4), some (.int x99), some (.int l6), some (.int x85), some (.int x90)]) dX10_folds_283 rfl (by decide) ex99 (by decide) rfl ?_
      replace H := vl_some H
      obtain ⟨x100, ex100, H⟩ := H
      refine ev_iincx (loc2 := [some (.ref l0), some (.int l1), some (.int l2), some (.int l3), some (.int l4), some (.int x99), some (.int x100), some (.int x85), some (.int x90)]) dX10_folds_286 rfl (by decide) ex100 (by decide) rfl ?_
      refine ev_goto (tgt := 214) dX10_folds_289 (by decide) ?_
      refine ev_drop (loc2 := [some (.ref l0), some (.int l1), some (.int l2), some (.int l3), some (.int l4), some (.int x99), some (.int x100), none, none]) [true, true, true, true, true, true, true, false, false] rfl ?_
      exact ih l0 l1 l2 l3 l4 x99 x100 h98 H
def f_X10_folds (h : Hp) (a0 : Nat) (a1 : Int32) : Option (Unit × Hp) :=
bnd (f_X10_columnsOf h a1) fun v1 h2 =>
bnd (f_X10_rowsOf h2 a1) fun v3 h4 =>
f_X10_folds_L13 (fun y18 y19 y20 y21 y22 h23 =>
f_X10_folds_L55 (fun y62 y63 y64 y65 y66 h67 =>
gd (okOb h67 y62 10) <|
vl (gR h67 y62 18) fun r69 =>
un r69 fun b70 =>
gd (okAb h67 b70 11 (0 : Int32)) <|
vl (gI h67 b70 (0 : Int32).toNatClampNeg) fun x72 =>
vl (x72 - (1 : Int32)) fun x73 =>
f_X10_folds_L214 6000 y62 y63 y64 y65 y66 (0 : Int32) x73 h67) 6000 y18 y19 y20 y21 y20 h23) 6000 a0 a1 v1 v3 (0 : Int32) h4
set_option maxHeartbeats 4000000 in
set_option maxRecDepth 100000 in
theorem t_X10_folds {X : Cx} {d : Nat} {h : Hp} {a0 : Nat} {a1 : Int32} {v : Unit} {h' : Hp} (hD : 2 ≤ d) (H : f_X10_folds h a0 a1 = some (v, h')) : PM X mX10_folds d [.ref a0, .int a1] h (none) h' := by
  unfold f_X10_folds at H
  refine PM.of (loc := [some (.ref a0), some (.int a1), none, none, none, none, none, none, none]) (by decide) rfl (Nat.le_of_ble_eq_true rfl) ?_
  refine ev_iload_n dX10_folds_0 rfl rfl ?_
  replace H := bnd_some H
  obtain ⟨v1, h2, eh2, H⟩ := H
  have ph2 := (t_X10_columnsOf (X := X) (d := 1) (by omega) eh2)
  refine ev_callS (as := [.int a1]) dX10_folds_1 ph2 ok_X10_columnsOf (by omega) rfl k4_150 k4_151 rfl (Nat.le_of_ble_eq_true rfl) ?_
  refine ev_istore_n (loc2 := [some (.ref a0), some (.int a1), some (.int v1), none, none, none, none, none, none]) dX10_folds_4 rfl (by decide) rfl ?_
  refine ev_iload_n dX10_folds_5 rfl rfl ?_
  replace H := bnd_some H
  obtain ⟨v3, h4, eh4, H⟩ := H
  have ph4 := (t_X10_rowsOf (X := X) (d := 1) (by omega) eh4)
  refine ev_callS (as := [.int a1]) dX10_folds_6 ph4 ok_X10_rowsOf (by omega) rfl k4_153 k4_154 rfl (Nat.le_of_ble_eq_true rfl) ?_
  refine ev_istore_n (loc2 := [some (.ref a0), some (.int a1), some (.int v1), some (.int v3), none, none, none, none, none]) dX10_folds_9 rfl (by decide) rfl ?_
  refine ev_iconst (v := (0 : Int32)) dX10_folds_10 (by decide) ?_
  refine ev_istore (loc2 := [some (.ref a0), some (.int a1), some (.int v1), some (.int v3), some (.int (0 : Int32)), none, none, none, none]) dX10_folds_11 (by decide) rfl ?_
  refine t_X10_folds_L13 hD ?_ 6000 a0 a1 v1 v3 (0 : Int32) h4 H
  · intro y18 y19 y20 y21 y22 h23 H
    refine ev_iload_n dX10_folds_52 rfl rfl ?_
    refine ev_istore (loc2 := [some (.ref y18), some (.int y19), some (.int y20), some (.int y21), some (.int y20), none, none, none, none]) dX10_folds_53 (by decide) rfl ?_
    refine t_X10_folds_L55 hD ?_ 6000 y18 y19 y20 y21 y20 h23 H
    · intro y62 y63 y64 y65 y66 h67 H
      refine ev_iconst (v := (0 : Int32)) dX10_folds_201 (by decide) ?_
      refine ev_istore (loc2 := [some (.ref y62), some (.int y63), some (.int y64), some (.int y65), some (.int y66), some (.int (0 : Int32)), none, none, none]) dX10_folds_202 (by decide) rfl ?_
      refine ev_aload_n dX10_folds_204 rfl rfl rfl ?_
      replace H := gd_some H
      obtain ⟨g68, H⟩ := H
      replace H := vl_some H
      obtain ⟨r69, er69, H⟩ := H
      refine ev_getRx dX10_folds_205 fgX10_58 rfl (okOb.p g68) er69 ?_
      refine ev_iconst (v := (0 : Int32)) dX10_folds_208 (by decide) ?_
      replace H := un_some H
      obtain ⟨b70, eb70, H⟩ := H
      subst eb70
      replace H := gd_some H
      obtain ⟨g71, H⟩ := H
      replace H := vl_some H
      obtain ⟨x72, ex72, H⟩ := H
      refine ev_ialdx dX10_folds_209 (okAb.p g71) ex72 ?_
      refine ev_iconst (v := (1 : Int32)) dX10_folds_210 (by decide) ?_
      refine ev_isub dX10_folds_211 ?_
      replace H := vl_some H
      obtain ⟨x73, ex73, H⟩ := H
      refine ev_istorex (loc2 := [some (.ref y62), some (.int y63), some (.int y64), some (.int y65), some (.int y66), some (.int (0 : Int32)), some (.int x73), none, none]) dX10_folds_212 (by decide) ex73 rfl ?_
      refine t_X10_folds_L214 hD  6000 y62 y63 y64 y65 y66 (0 : Int32) x73 h67 H

theorem dX10_init_0 : decode cX10_init 0 = .ok (.aload_n 0, 1) := by decide +kernel
theorem dX10_init_1 : decode cX10_init 1 = .ok (.invokespecial 1, 3) := by decide +kernel
theorem dX10_init_4 : decode cX10_init 4 = .ok (.aload_n 0, 1) := by decide +kernel
theorem dX10_init_5 : decode cX10_init 5 = .ok (.sipush 300, 3) := by decide +kernel
theorem dX10_init_8 : decode cX10_init 8 = .ok (.newarray .int, 2) := by decide +kernel
theorem dX10_init_10 : decode cX10_init 10 = .ok (.putfield 7, 3) := by decide +kernel
theorem dX10_init_13 : decode cX10_init 13 = .ok (.aload_n 0, 1) := by decide +kernel
theorem dX10_init_14 : decode cX10_init 14 = .ok (.bipush 26, 2) := by decide +kernel
theorem dX10_init_16 : decode cX10_init 16 = .ok (.newarray .int, 2) := by decide +kernel
theorem dX10_init_18 : decode cX10_init 18 = .ok (.putfield 13, 3) := by decide +kernel
theorem dX10_init_21 : decode cX10_init 21 = .ok (.aload_n 0, 1) := by decide +kernel
theorem dX10_init_22 : decode cX10_init 22 = .ok (.bipush 48, 2) := by decide +kernel
theorem dX10_init_24 : decode cX10_init 24 = .ok (.newarray .int, 2) := by decide +kernel
theorem dX10_init_26 : decode cX10_init 26 = .ok (.putfield 16, 3) := by decide +kernel
theorem dX10_init_29 : decode cX10_init 29 = .ok (.aload_n 0, 1) := by decide +kernel
theorem dX10_init_30 : decode cX10_init 30 = .ok (.sipush 5760, 3) := by decide +kernel
theorem dX10_init_33 : decode cX10_init 33 = .ok (.newarray .int, 2) := by decide +kernel
theorem dX10_init_35 : decode cX10_init 35 = .ok (.putfield 19, 3) := by decide +kernel
theorem dX10_init_38 : decode cX10_init 38 = .ok (.aload_n 0, 1) := by decide +kernel
theorem dX10_init_39 : decode cX10_init 39 = .ok (.sipush 5760, 3) := by decide +kernel
theorem dX10_init_42 : decode cX10_init 42 = .ok (.newarray .int, 2) := by decide +kernel
theorem dX10_init_44 : decode cX10_init 44 = .ok (.putfield 22, 3) := by decide +kernel
theorem dX10_init_47 : decode cX10_init 47 = .ok (.aload_n 0, 1) := by decide +kernel
theorem dX10_init_48 : decode cX10_init 48 = .ok (.sipush 5760, 3) := by decide +kernel
theorem dX10_init_51 : decode cX10_init 51 = .ok (.newarray .int, 2) := by decide +kernel
theorem dX10_init_53 : decode cX10_init 53 = .ok (.putfield 25, 3) := by decide +kernel
theorem dX10_init_56 : decode cX10_init 56 = .ok (.aload_n 0, 1) := by decide +kernel
theorem dX10_init_57 : decode cX10_init 57 = .ok (.bipush 48, 2) := by decide +kernel
theorem dX10_init_59 : decode cX10_init 59 = .ok (.newarray .int, 2) := by decide +kernel
theorem dX10_init_61 : decode cX10_init 61 = .ok (.putfield 28, 3) := by decide +kernel
theorem dX10_init_64 : decode cX10_init 64 = .ok (.aload_n 0, 1) := by decide +kernel
theorem dX10_init_65 : decode cX10_init 65 = .ok (.bipush 48, 2) := by decide +kernel
theorem dX10_init_67 : decode cX10_init 67 = .ok (.newarray .int, 2) := by decide +kernel
theorem dX10_init_69 : decode cX10_init 69 = .ok (.putfield 31, 3) := by decide +kernel
theorem dX10_init_72 : decode cX10_init 72 = .ok (.aload_n 0, 1) := by decide +kernel
theorem dX10_init_73 : decode cX10_init 73 = .ok (.bipush 48, 2) := by decide +kernel
theorem dX10_init_75 : decode cX10_init 75 = .ok (.newarray .int, 2) := by decide +kernel
theorem dX10_init_77 : decode cX10_init 77 = .ok (.putfield 34, 3) := by decide +kernel
theorem dX10_init_80 : decode cX10_init 80 = .ok (.aload_n 0, 1) := by decide +kernel
theorem dX10_init_81 : decode cX10_init 81 = .ok (.bipush 48, 2) := by decide +kernel
theorem dX10_init_83 : decode cX10_init 83 = .ok (.newarray .int, 2) := by decide +kernel
theorem dX10_init_85 : decode cX10_init 85 = .ok (.putfield 37, 3) := by decide +kernel
theorem dX10_init_88 : decode cX10_init 88 = .ok (.aload_n 0, 1) := by decide +kernel
theorem dX10_init_89 : decode cX10_init 89 = .ok (.bipush 6, 2) := by decide +kernel
theorem dX10_init_91 : decode cX10_init 91 = .ok (.newarray .int, 2) := by decide +kernel
theorem dX10_init_93 : decode cX10_init 93 = .ok (.putfield 40, 3) := by decide +kernel
theorem dX10_init_96 : decode cX10_init 96 = .ok (.aload_n 0, 1) := by decide +kernel
theorem dX10_init_97 : decode cX10_init 97 = .ok (.bipush 6, 2) := by decide +kernel
theorem dX10_init_99 : decode cX10_init 99 = .ok (.newarray .int, 2) := by decide +kernel
theorem dX10_init_101 : decode cX10_init 101 = .ok (.putfield 43, 3) := by decide +kernel
theorem dX10_init_104 : decode cX10_init 104 = .ok (.aload_n 0, 1) := by decide +kernel
theorem dX10_init_105 : decode cX10_init 105 = .ok (.bipush 6, 2) := by decide +kernel
theorem dX10_init_107 : decode cX10_init 107 = .ok (.newarray .int, 2) := by decide +kernel
theorem dX10_init_109 : decode cX10_init 109 = .ok (.putfield 46, 3) := by decide +kernel
theorem dX10_init_112 : decode cX10_init 112 = .ok (.aload_n 0, 1) := by decide +kernel
theorem dX10_init_113 : decode cX10_init 113 = .ok (.bipush 64, 2) := by decide +kernel
theorem dX10_init_115 : decode cX10_init 115 = .ok (.newarray .int, 2) := by decide +kernel
theorem dX10_init_117 : decode cX10_init 117 = .ok (.putfield 49, 3) := by decide +kernel
theorem dX10_init_120 : decode cX10_init 120 = .ok (.aload_n 0, 1) := by decide +kernel
theorem dX10_init_121 : decode cX10_init 121 = .ok (.bipush 32, 2) := by decide +kernel
theorem dX10_init_123 : decode cX10_init 123 = .ok (.newarray .int, 2) := by decide +kernel
theorem dX10_init_125 : decode cX10_init 125 = .ok (.putfield 52, 3) := by decide +kernel
theorem dX10_init_128 : decode cX10_init 128 = .ok (.aload_n 0, 1) := by decide +kernel
theorem dX10_init_129 : decode cX10_init 129 = .ok (.bipush 64, 2) := by decide +kernel
theorem dX10_init_131 : decode cX10_init 131 = .ok (.newarray .int, 2) := by decide +kernel
theorem dX10_init_133 : decode cX10_init 133 = .ok (.putfield 55, 3) := by decide +kernel
theorem dX10_init_136 : decode cX10_init 136 = .ok (.aload_n 0, 1) := by decide +kernel
theorem dX10_init_137 : decode cX10_init 137 = .ok (.bipush 8, 2) := by decide +kernel
theorem dX10_init_139 : decode cX10_init 139 = .ok (.newarray .int, 2) := by decide +kernel
theorem dX10_init_141 : decode cX10_init 141 = .ok (.putfield 58, 3) := by decide +kernel
theorem dX10_init_144 : decode cX10_init 144 = .ok (.aload_n 0, 1) := by decide +kernel
theorem dX10_init_145 : decode cX10_init 145 = .ok (.bipush 6, 2) := by decide +kernel
theorem dX10_init_147 : decode cX10_init 147 = .ok (.newarray .int, 2) := by decide +kernel
theorem dX10_init_149 : decode cX10_init 149 = .ok (.putfield 61, 3) := by decide +kernel
theorem dX10_init_152 : decode cX10_init 152 = .ok (.aload_n 0, 1) := by decide +kernel
theorem dX10_init_153 : decode cX10_init 153 = .ok (.bipush 6, 2) := by decide +kernel
theorem dX10_init_155 : decode cX10_init 155 = .ok (.newarray .int, 2) := by decide +kernel
theorem dX10_init_157 : decode cX10_init 157 = .ok (.putfield 64, 3) := by decide +kernel
theorem dX10_init_160 : decode cX10_init 160 = .ok (.aload_n 0, 1) := by decide +kernel
theorem dX10_init_161 : decode cX10_init 161 = .ok (.bipush 6, 2) := by decide +kernel
theorem dX10_init_163 : decode cX10_init 163 = .ok (.newarray .int, 2) := by decide +kernel
theorem dX10_init_165 : decode cX10_init 165 = .ok (.putfield 67, 3) := by decide +kernel
theorem dX10_init_168 : decode cX10_init 168 = .ok (.aload_n 0, 1) := by decide +kernel
theorem dX10_init_169 : decode cX10_init 169 = .ok (.bipush 6, 2) := by decide +kernel
theorem dX10_init_171 : decode cX10_init 171 = .ok (.newarray .int, 2) := by decide +kernel
theorem dX10_init_173 : decode cX10_init 173 = .ok (.putfield 70, 3) := by decide +kernel
theorem dX10_init_176 : decode cX10_init 176 = .ok (.aload_n 0, 1) := by decide +kernel
theorem dX10_init_177 : decode cX10_init 177 = .ok (.bipush 12, 2) := by decide +kernel
theorem dX10_init_179 : decode cX10_init 179 = .ok (.newarray .int, 2) := by decide +kernel
theorem dX10_init_181 : decode cX10_init 181 = .ok (.putfield 73, 3) := by decide +kernel
theorem dX10_init_184 : decode cX10_init 184 = .ok (.aload_n 0, 1) := by decide +kernel
theorem dX10_init_185 : decode cX10_init 185 = .ok (.bipush 12, 2) := by decide +kernel
theorem dX10_init_187 : decode cX10_init 187 = .ok (.newarray .int, 2) := by decide +kernel
theorem dX10_init_189 : decode cX10_init 189 = .ok (.putfield 76, 3) := by decide +kernel
theorem dX10_init_192 : decode cX10_init 192 = .ok (.aload_n 0, 1) := by decide +kernel
theorem dX10_init_193 : decode cX10_init 193 = .ok (.bipush 12, 2) := by decide +kernel
theorem dX10_init_195 : decode cX10_init 195 = .ok (.newarray .int, 2) := by decide +kernel
theorem dX10_init_197 : decode cX10_init 197 = .ok (.putfield 79, 3) := by decide +kernel
theorem dX10_init_200 : decode cX10_init 200 = .ok (.aload_n 0, 1) := by decide +kernel
theorem dX10_init_201 : decode cX10_init 201 = .ok (.sipush 720, 3) := by decide +kernel
theorem dX10_init_204 : decode cX10_init 204 = .ok (.newarray .int, 2) := by decide +kernel
theorem dX10_init_206 : decode cX10_init 206 = .ok (.putfield 82, 3) := by decide +kernel
theorem dX10_init_209 : decode cX10_init 209 = .ok (.aload_n 0, 1) := by decide +kernel
theorem dX10_init_210 : decode cX10_init 210 = .ok (.sipush 360, 3) := by decide +kernel
theorem dX10_init_213 : decode cX10_init 213 = .ok (.newarray .int, 2) := by decide +kernel
theorem dX10_init_215 : decode cX10_init 215 = .ok (.putfield 85, 3) := by decide +kernel
theorem dX10_init_218 : decode cX10_init 218 = .ok (.aload_n 0, 1) := by decide +kernel
theorem dX10_init_219 : decode cX10_init 219 = .ok (.sipush 360, 3) := by decide +kernel
theorem dX10_init_222 : decode cX10_init 222 = .ok (.newarray .int, 2) := by decide +kernel
theorem dX10_init_224 : decode cX10_init 224 = .ok (.putfield 88, 3) := by decide +kernel
theorem dX10_init_227 : decode cX10_init 227 = .ok (.aload_n 0, 1) := by decide +kernel
theorem dX10_init_228 : decode cX10_init 228 = .ok (.sipush 360, 3) := by decide +kernel
theorem dX10_init_231 : decode cX10_init 231 = .ok (.newarray .int, 2) := by decide +kernel
theorem dX10_init_233 : decode cX10_init 233 = .ok (.putfield 91, 3) := by decide +kernel
theorem dX10_init_236 : decode cX10_init 236 = .ok (.aload_n 0, 1) := by decide +kernel
theorem dX10_init_237 : decode cX10_init 237 = .ok (.sipush 360, 3) := by decide +kernel
theorem dX10_init_240 : decode cX10_init 240 = .ok (.newarray .boolean, 2) := by decide +kernel
theorem dX10_init_242 : decode cX10_init 242 = .ok (.putfield 94, 3) := by decide +kernel
theorem dX10_init_245 : decode cX10_init 245 = .ok (.aload_n 0, 1) := by decide +kernel
theorem dX10_init_246 : decode cX10_init 246 = .ok (.bipush 7, 2) := by decide +kernel
theorem dX10_init_248 : decode cX10_init 248 = .ok (.newarray .int, 2) := by decide +kernel
theorem dX10_init_250 : decode cX10_init 250 = .ok (.putfield 98, 3) := by decide +kernel
theorem dX10_init_253 : decode cX10_init 253 = .ok (.aload_n 0, 1) := by decide +kernel
theorem dX10_init_254 : decode cX10_init 254 = .ok (.bipush 72, 2) := by decide +kernel
theorem dX10_init_256 : decode cX10_init 256 = .ok (.newarray .int, 2) := by decide +kernel
theorem dX10_init_258 : decode cX10_init 258 = .ok (.putfield 101, 3) := by decide +kernel
theorem dX10_init_261 : decode cX10_init 261 = .ok (.aload_n 0, 1) := by decide +kernel
theorem dX10_init_262 : decode cX10_init 262 = .ok (.bipush 7, 2) := by decide +kernel
theorem dX10_init_264 : decode cX10_init 264 = .ok (.newarray .int, 2) := by decide +kernel
theorem dX10_init_266 : decode cX10_init 266 = .ok (.putfield 104, 3) := by decide +kernel
theorem dX10_init_269 : decode cX10_init 269 = .ok (.aload_n 0, 1) := by decide +kernel
theorem dX10_init_270 : decode cX10_init 270 = .ok (.sipush 144, 3) := by decide +kernel
theorem dX10_init_273 : decode cX10_init 273 = .ok (.newarray .int, 2) := by decide +kernel
theorem dX10_init_275 : decode cX10_init 275 = .ok (.putfield 107, 3) := by decide +kernel
theorem dX10_init_278 : decode cX10_init 278 = .ok (.aload_n 0, 1) := by decide +kernel
theorem dX10_init_279 : decode cX10_init 279 = .ok (.iconst 4, 1) := by decide +kernel
theorem dX10_init_280 : decode cX10_init 280 = .ok (.newarray .int, 2) := by decide +kernel
theorem dX10_init_282 : decode cX10_init 282 = .ok (.putfield 110, 3) := by decide +kernel
theorem dX10_init_285 : decode cX10_init 285 = .ok (.aload_n 0, 1) := by decide +kernel
theorem dX10_init_286 : decode cX10_init 286 = .ok (.iconst 4, 1) := by decide +kernel
theorem dX10_init_287 : decode cX10_init 287 = .ok (.newarray .int, 2) := by decide +kernel
theorem dX10_init_289 : decode cX10_init 289 = .ok (.dup, 1) := by decide +kernel
theorem dX10_init_290 : decode cX10_init 290 = .ok (.iconst 0, 1) := by decide +kernel
theorem dX10_init_291 : decode cX10_init 291 = .ok (.iconst 1, 1) := by decide +kernel
theorem dX10_init_292 : decode cX10_init 292 = .ok (.iastore, 1) := by decide +kernel
theorem dX10_init_293 : decode cX10_init 293 = .ok (.dup, 1) := by decide +kernel
theorem dX10_init_294 : decode cX10_init 294 = .ok (.iconst 1, 1) := by decide +kernel
theorem dX10_init_295 : decode cX10_init 295 = .ok (.iconst 1, 1) := by decide +kernel
theorem dX10_init_296 : decode cX10_init 296 = .ok (.iastore, 1) := by decide +kernel
theorem dX10_init_297 : decode cX10_init 297 = .ok (.dup, 1) := by decide +kernel
theorem dX10_init_298 : decode cX10_init 298 = .ok (.iconst 2, 1) := by decide +kernel
theorem dX10_init_299 : decode cX10_init 299 = .ok (.iconst 1, 1) := by decide +kernel
theorem dX10_init_300 : decode cX10_init 300 = .ok (.iastore, 1) := by decide +kernel
theorem dX10_init_301 : decode cX10_init 301 = .ok (.dup, 1) := by decide +kernel
theorem dX10_init_302 : decode cX10_init 302 = .ok (.iconst 3, 1) := by decide +kernel
theorem dX10_init_303 : decode cX10_init 303 = .ok (.iconst 1, 1) := by decide +kernel
theorem dX10_init_304 : decode cX10_init 304 = .ok (.iastore, 1) := by decide +kernel
theorem dX10_init_305 : decode cX10_init 305 = .ok (.putfield 113, 3) := by decide +kernel
theorem dX10_init_308 : decode cX10_init 308 = .ok (.aload_n 0, 1) := by decide +kernel
theorem dX10_init_309 : decode cX10_init 309 = .ok (.iconst 4, 1) := by decide +kernel
theorem dX10_init_310 : decode cX10_init 310 = .ok (.newarray .int, 2) := by decide +kernel
theorem dX10_init_312 : decode cX10_init 312 = .ok (.putfield 116, 3) := by decide +kernel
theorem dX10_init_315 : decode cX10_init 315 = .ok (.aload_n 0, 1) := by decide +kernel
theorem dX10_init_316 : decode cX10_init 316 = .ok (.iconst 4, 1) := by decide +kernel
theorem dX10_init_317 : decode cX10_init 317 = .ok (.newarray .int, 2) := by decide +kernel
theorem dX10_init_319 : decode cX10_init 319 = .ok (.putfield 119, 3) := by decide +kernel
theorem dX10_init_322 : decode cX10_init 322 = .ok (.aload_n 0, 1) := by decide +kernel
theorem dX10_init_323 : decode cX10_init 323 = .ok (.bipush 7, 2) := by decide +kernel
theorem dX10_init_325 : decode cX10_init 325 = .ok (.newarray .int, 2) := by decide +kernel
theorem dX10_init_327 : decode cX10_init 327 = .ok (.putfield 122, 3) := by decide +kernel
theorem dX10_init_330 : decode cX10_init 330 = .ok (.aload_n 0, 1) := by decide +kernel
theorem dX10_init_331 : decode cX10_init 331 = .ok (.bipush 7, 2) := by decide +kernel
theorem dX10_init_333 : decode cX10_init 333 = .ok (.newarray .int, 2) := by decide +kernel
theorem dX10_init_335 : decode cX10_init 335 = .ok (.putfield 125, 3) := by decide +kernel
theorem dX10_init_338 : decode cX10_init 338 = .ok (.aload_n 0, 1) := by decide +kernel
theorem dX10_init_339 : decode cX10_init 339 = .ok (.bipush 7, 2) := by decide +kernel
theorem dX10_init_341 : decode cX10_init 341 = .ok (.newarray .int, 2) := by decide +kernel
theorem dX10_init_343 : decode cX10_init 343 = .ok (.putfield 128, 3) := by decide +kernel
theorem dX10_init_346 : decode cX10_init 346 = .ok (.aload_n 0, 1) := by decide +kernel
theorem dX10_init_347 : decode cX10_init 347 = .ok (.bipush 7, 2) := by decide +kernel
theorem dX10_init_349 : decode cX10_init 349 = .ok (.newarray .int, 2) := by decide +kernel
theorem dX10_init_351 : decode cX10_init 351 = .ok (.putfield 131, 3) := by decide +kernel
theorem dX10_init_354 : decode cX10_init 354 = .ok (.aload_n 0, 1) := by decide +kernel
theorem dX10_init_355 : decode cX10_init 355 = .ok (.bipush 7, 2) := by decide +kernel
theorem dX10_init_357 : decode cX10_init 357 = .ok (.newarray .int, 2) := by decide +kernel
theorem dX10_init_359 : decode cX10_init 359 = .ok (.putfield 134, 3) := by decide +kernel
theorem dX10_init_362 : decode cX10_init 362 = .ok (.iconst 1, 1) := by decide +kernel
theorem dX10_init_363 : decode cX10_init 363 = .ok (.istore_n 1, 1) := by decide +kernel
theorem dX10_init_364 : decode cX10_init 364 = .ok (.iload_n 1, 1) := by decide +kernel
theorem dX10_init_365 : decode cX10_init 365 = .ok (.iconst 3, 1) := by decide +kernel
theorem dX10_init_366 : decode cX10_init 366 = .ok (.if_icmp .gt 14, 3) := by decide +kernel
theorem dX10_init_369 : decode cX10_init 369 = .ok (.aload_n 0, 1) := by decide +kernel
theorem dX10_init_370 : decode cX10_init 370 = .ok (.iload_n 1, 1) := by decide +kernel
theorem dX10_init_371 : decode cX10_init 371 = .ok (.invokevirtual 137, 3) := by decide +kernel
theorem dX10_init_374 : decode cX10_init 374 = .ok (.iinc 1 1, 3) := by decide +kernel
theorem dX10_init_377 : decode cX10_init 377 = .ok (.goto (-13), 3) := by decide +kernel
theorem dX10_init_380 : decode cX10_init 380 = .ok (.iconst 0, 1) := by decide +kernel
theorem dX10_init_381 : decode cX10_init 381 = .ok (.istore_n 1, 1) := by decide +kernel
theorem dX10_init_382 : decode cX10_init 382 = .ok (.iload_n 1, 1) := by decide +kernel
theorem dX10_init_383 : decode cX10_init 383 = .ok (.bipush 12, 2) := by decide +kernel
theorem dX10_init_385 : decode cX10_init 385 = .ok (.if_icmp .ge 16, 3) := by decide +kernel
theorem dX10_init_388 : decode cX10_init 388 = .ok (.aload_n 0, 1) := by decide +kernel
theorem dX10_init_389 : decode cX10_init 389 = .ok (.getfield 73, 3) := by decide +kernel
theorem dX10_init_392 : decode cX10_init 392 = .ok (.iload_n 1, 1) := by decide +kernel
theorem dX10_init_393 : decode cX10_init 393 = .ok (.iconst (-1), 1) := by decide +kernel
theorem dX10_init_394 : decode cX10_init 394 = .ok (.iastore, 1) := by decide +kernel
theorem dX10_init_395 : decode cX10_init 395 = .ok (.iinc 1 1, 3) := by decide +kernel
theorem dX10_init_398 : decode cX10_init 398 = .ok (.goto (-16), 3) := by decide +kernel
theorem dX10_init_401 : decode cX10_init 401 = .ok (.iconst 0, 1) := by decide +kernel
theorem dX10_init_402 : decode cX10_init 402 = .ok (.istore_n 1, 1) := by decide +kernel
theorem dX10_init_403 : decode cX10_init 403 = .ok (.iload_n 1, 1) := by decide +kernel
theorem dX10_init_404 : decode cX10_init 404 = .ok (.bipush 72, 2) := by decide +kernel
theorem dX10_init_406 : decode cX10_init 406 = .ok (.if_icmp .ge 16, 3) := by decide +kernel
theorem dX10_init_409 : decode cX10_init 409 = .ok (.aload_n 0, 1) := by decide +kernel
theorem dX10_init_410 : decode cX10_init 410 = .ok (.getfield 101, 3) := by decide +kernel
theorem dX10_init_413 : decode cX10_init 413 = .ok (.iload_n 1, 1) := by decide +kernel
theorem dX10_init_414 : decode cX10_init 414 = .ok (.iconst (-1), 1) := by decide +kernel
theorem dX10_init_415 : decode cX10_init 415 = .ok (.iastore, 1) := by decide +kernel
theorem dX10_init_416 : decode cX10_init 416 = .ok (.iinc 1 1, 3) := by decide +kernel
theorem dX10_init_419 : decode cX10_init 419 = .ok (.goto (-16), 3) := by decide +kernel
theorem dX10_init_422 : decode cX10_init 422 = .ok (.return_, 1) := by decide +kernel
def f_X10_init_L364 (k380 : Nat → Int32 → Hp → Option (Unit × Hp)) : Nat → Nat → Int32 → Hp → Option (Unit × Hp)
  | 0, _, _, _ => none
  | n + 1, l0, l1, h =>
    if (3 : Int32) < l1 then (
    k380 l0 l1 h) else (
    gd (okOb h l0 10) <|
    bnd (f_X10_folds h l0 l1) fun u138 h139 =>
    vl (l1 + (1 : Int32)) fun x140 =>
    f_X10_init_L364 k380 n l0 x140 h139)
set_option maxHeartbeats 4000000 in
set_option maxRecDepth 100000 in
theorem t_X10_init_L364 {X : Cx} {d : Nat} {h0 h' : Hp} {v : Unit} {k380 : Nat → Int32 → Hp → Option (Unit × Hp)} (hD : 3 ≤ d) (hk380 : ∀ (z0 : Nat) (z1 : Int32) (h : Hp), k380 z0 z1 h = some (v, h') → EV X mX10_init d h0 (none) h' 380 [some (.ref z0), some (.int z1)] [] h) : ∀ (n : Nat) (l0 : Nat) (l1 : Int32) (h : Hp), f_X10_init_L364 k380 n l0 l1 h = some (v, h') → EV X mX10_init d h0 (none) h' 364 [some (.ref l0), some (.int l1)] [] h := by
  intro n
  induction n with
  | zero => intro l0 l1 h H; simp [f_X10_init_L364] at H
  | succ n ih =>
    intro l0 l1 h H
    rw [f_X10_init_L364] at H
    refine ev_iload_n dX10_init_364 rfl rfl ?_
    refine ev_iconst (v := (3 : Int32)) dX10_init_365 (by decide) ?_
    refine ev_icmp_gt (tgt := 380) dX10_init_366 (by decide) (fun c136 => ?_) (fun c136 => ?_)
    · rw [if_pos c136] at H
      exact hk380 l0 l1 h H
    · rw [if_neg c136] at H
      refine ev_aload_n dX10_init_369 rfl rfl rfl ?_
      refine ev_iload_n dX10_init_370 rfl rfl ?_
      replace H := gd_some H
      obtain ⟨g137, H⟩ := H
      replace H := bnd_some H
      obtain ⟨u138, h139, eh139, H⟩ := H
      have ph139 := (t_X10_folds (X := X) (d := 2) (by omega) eh139)
      refine ev_callV (as := [.int l1]) dX10_init_371 ph139 ok_X10_folds (by omega) rfl k4_146 k4_148 ks_25 (ci := 10) (by decide) rfl rfl (okOb.p g137) rfl (Nat.le_of_ble_eq_true rfl) ?_
      replace H := vl_some H
      obtain ⟨x140, ex140, H⟩ := H
      refine ev_iincx (loc2 := [some (.ref l0), some (.int x140)]) dX10_init_374 rfl (by decide) ex140 (by decide) rfl ?_
      refine ev_goto (tgt := 364) dX10_init_377 (by decide) ?_
      exact ih l0 x140 h139 H
def f_X10_init_L382 (k401 : Nat → Int32 → Hp → Option (Unit × Hp)) : Nat → Nat → Int32 → Hp → Option (Unit × Hp)
  | 0, _, _, _ => none
  | n + 1, l0, l1, h =>
    if (12 : Int32) ≤ l1 then (
    k401 l0 l1 h) else (
    gd (okOb h l0 10) <|
    vl (gR h l0 25) fun r146 =>
    un r146 fun b147 =>
    gd (okAb h b147 11 l1) <|
    vl (sI h b147 l1.toNatClampNeg (-1 : Int32)) fun h149 =>
    vl (l1 + (1 : Int32)) fun x150 =>
    f_X10_init_L382 k401 n l0 x150 h149)
set_option maxHeartbeats 4000000 in
set_option maxRecDepth 100000 in
theorem t_X10_init_L382 {X : Cx} {d : Nat} {h0 h' : Hp} {v : Unit} {k401 : Nat → Int32 → Hp → Option (Unit × Hp)} (hD : 3 ≤ d) (hk401 : ∀ (z0 : Nat) (z1 : Int32) (h : Hp), k401 z0 z1 h = some (v, h') → EV X mX10_init d h0 (none) h' 401 [some (.ref z0), some (.int z1)] [] h) : ∀ (n : Nat) (l0 : Nat) (l1 : Int32) (h : Hp), f_X10_init_L382 k401 n l0 l1 h = some (v, h') → EV X mX10_init d h0 (none) h' 382 [some (.ref l0), some (.int l1)] [] h := by
  intro n
  induction n with
  | zero => intro l0 l1 h H; simp [f_X10_init_L382] at H
  | succ n ih =>
    intro l0 l1 h H
    rw [f_X10_init_L382] at H
    refine ev_iload_n dX10_init_382 rfl rfl ?_
    refine ev_bipush (v := (12 : Int32)) dX10_init_383 (by decide) ?_
    refine ev_icmp_ge (tgt := 401) dX10_init_385 (by decide) (fun c144 => ?_) (fun c144 => ?_)
    · rw [if_pos c144] at H
      exact hk401 l0 l1 h H
    · rw [if_neg c144] at H
      refine ev_aload_n dX10_init_388 rfl rfl rfl ?_
      replace H := gd_some H
      obtain ⟨g145, H⟩ := H
      replace H := vl_some H
      obtain ⟨r146, er146, H⟩ := H
      refine ev_getRx dX10_init_389 fgX10_73 rfl (okOb.p g145) er146 ?_
      refine ev_iload_n dX10_init_392 rfl rfl ?_
      refine ev_iconst (v := (-1 : Int32)) dX10_init_393 (by decide) ?_
      replace H := un_some H
      obtain ⟨b147, eb147, H⟩ := H
      subst eb147
      replace H := gd_some H
      obtain ⟨g148, H⟩ := H
      replace H := vl_some H
      obtain ⟨h149, eh149, H⟩ := H
      refine ev_iast dX10_init_394 (okAb.p g148) eh149 ?_
      replace H := vl_some H
      obtain ⟨x150, ex150, H⟩ := H
      refine ev_iincx (loc2 := [some (.ref l0), some (.int x150)]) dX10_init_395 rfl (by decide) ex150 (by decide) rfl ?_
      refine ev_goto (tgt := 382) dX10_init_398 (by decide) ?_
      exact ih l0 x150 h149 H
def f_X10_init_L403 : Nat → Nat → Int32 → Hp → Option (Unit × Hp)
  | 0, _, _, _ => none
  | n + 1, l0, l1, h =>
    if (72 : Int32) ≤ l1 then (
    some ((), h)) else (
    gd (okOb h l0 10) <|
    vl (gR h l0 34) fun r156 =>
    un r156 fun b157 =>
    gd (okAb h b157 11 l1) <|
    vl (sI h b157 l1.toNatClampNeg (-1 : Int32)) fun h159 =>
    vl (l1 + (1 : Int32)) fun x160 =>
    f_X10_init_L403 n l0 x160 h159)
set_option maxHeartbeats 4000000 in
set_option maxRecDepth 100000 in
theorem t_X10_init_L403 {X : Cx} {d : Nat} {h0 h' : Hp} {v : Unit} (hD : 3 ≤ d) : ∀ (n : Nat) (l0 : Nat) (l1 : Int32) (h : Hp), f_X10_init_L403 n l0 l1 h = some (v, h') → EV X mX10_init d h0 (none) h' 403 [some (.ref l0), some (.int l1)] [] h := by
  intro n
  induction n with
  | zero => intro l0 l1 h H; simp [f_X10_init_L403] at H
  | succ n ih =>
    intro l0 l1 h H
    rw [f_X10_init_L403] at H
    refine ev_iload_n dX10_init_403 rfl rfl ?_
    refine ev_bipush (v := (72 : Int32)) dX10_init_404 (by decide) ?_
    refine ev_icmp_ge (tgt := 422) dX10_init_406 (by decide) (fun c154 => ?_) (fun c154 => ?_)
    · rw [if_pos c154] at H
      exact ev_vretx dX10_init_422 rfl H
    · rw [if_neg c154] at H
      refine ev_aload_n dX10_init_409 rfl rfl rfl ?_
      replace H := gd_some H
      obtain ⟨g155, H⟩ := H
      replace H := vl_some H
      obtain ⟨r156, er156, H⟩ := H
      refine ev_getRx dX10_init_410 fgX10_101 rfl (okOb.p g155) er156 ?_
      refine ev_iload_n dX10_init_413 rfl rfl ?_
      refine ev_iconst (v := (-1 : Int32)) dX10_init_414 (by decide) ?_
      replace H := un_some H
      obtain ⟨b157, eb157, H⟩ := H
      subst eb157
      replace H := gd_some H
      obtain ⟨g158, H⟩ := H
      replace H := vl_some H
      obtain ⟨h159, eh159, H⟩ := H
      refine ev_iast dX10_init_415 (okAb.p g158) eh159 ?_
      replace H := vl_some H
      obtain ⟨x160, ex160, H⟩ := H
      refine ev_iincx (loc2 := [some (.ref l0), some (.int x160)]) dX10_init_416 rfl (by decide) ex160 (by decide) rfl ?_
      refine ev_goto (tgt := 403) dX10_init_419 (by decide) ?_
      exact ih l0 x160 h159 H
def f_X10_init (h : Hp) (a0 : Nat) : Option (Unit × Hp) :=
vl (gN h) fun b1 =>
vl (nw h 11 (300 : Int32).toNatClampNeg (300 : Int32).toNatClampNeg) fun h2 =>
gd (okOb h2 a0 10) <|
vl (sR h2 a0 0 (some b1)) fun h4 =>
vl (gN h4) fun b5 =>
vl (nw h4 11 (26 : Int32).toNatClampNeg (26 : Int32).toNatClampNeg) fun h6 =>
vl (sR h6 a0 1 (some b5)) fun h7 =>
vl (gN h7) fun b8 =>
vl (nw h7 11 (48 : Int32).toNatClampNeg (48 : Int32).toNatClampNeg) fun h9 =>
vl (sR h9 a0 3 (some b8)) fun h10 =>
vl (gN h10) fun b11 =>
vl (nw h10 11 (5760 : Int32).toNatClampNeg (5760 : Int32).toNatClampNeg) fun h12 =>
vl (sR h12 a0 4 (some b11)) fun h13 =>
vl (gN h13) fun b14 =>
vl (nw h13 11 (5760 : Int32).toNatClampNeg (5760 : Int32).toNatClampNeg) fun h15 =>
vl (sR h15 a0 5 (some b14)) fun h16 =>
vl (gN h16) fun b17 =>
vl (nw h16 11 (5760 : Int32).toNatClampNeg (5760 : Int32).toNatClampNeg) fun h18 =>
vl (sR h18 a0 6 (some b17)) fun h19 =>
vl (gN h19) fun b20 =>
vl (nw h19 11 (48 : Int32).toNatClampNeg (48 : Int32).toNatClampNeg) fun h21 =>
vl (sR h21 a0 7 (some b20)) fun h22 =>
vl (gN h22) fun b23 =>
vl (nw h22 11 (48 : Int32).toNatClampNeg (48 : Int32).toNatClampNeg) fun h24 =>
vl (sR h24 a0 8 (some b23)) fun h25 =>
vl (gN h25) fun b26 =>
vl (nw h25 11 (48 : Int32).toNatClampNeg (48 : Int32).toNatClampNeg) fun h27 =>
vl (sR h27 a0 9 (some b26)) fun h28 =>
vl (gN h28) fun b29 =>
vl (nw h28 11 (48 : Int32).toNatClampNeg (48 : Int32).toNatClampNeg) fun h30 =>
vl (sR h30 a0 10 (some b29)) fun h31 =>
vl (gN h31) fun b32 =>
vl (nw h31 11 (6 : Int32).toNatClampNeg (6 : Int32).toNatClampNeg) fun h33 =>
vl (sR h33 a0 12 (some b32)) fun h34 =>
vl (gN h34) fun b35 =>
vl (nw h34 11 (6 : Int32).toNatClampNeg (6 : Int32).toNatClampNeg) fun h36 =>
vl (sR h36 a0 13 (some b35)) fun h37 =>
vl (gN h37) fun b38 =>
vl (nw h37 11 (6 : Int32).toNatClampNeg (6 : Int32).toNatClampNeg) fun h39 =>
vl (sR h39 a0 14 (some b38)) fun h40 =>
vl (gN h40) fun b41 =>
vl (nw h40 11 (64 : Int32).toNatClampNeg (64 : Int32).toNatClampNeg) fun h42 =>
vl (sR h42 a0 15 (some b41)) fun h43 =>
vl (gN h43) fun b44 =>
vl (nw h43 11 (32 : Int32).toNatClampNeg (32 : Int32).toNatClampNeg) fun h45 =>
vl (sR h45 a0 16 (some b44)) fun h46 =>
vl (gN h46) fun b47 =>
vl (nw h46 11 (64 : Int32).toNatClampNeg (64 : Int32).toNatClampNeg) fun h48 =>
vl (sR h48 a0 17 (some b47)) fun h49 =>
vl (gN h49) fun b50 =>
vl (nw h49 11 (8 : Int32).toNatClampNeg (8 : Int32).toNatClampNeg) fun h51 =>
vl (sR h51 a0 18 (some b50)) fun h52 =>
vl (gN h52) fun b53 =>
vl (nw h52 11 (6 : Int32).toNatClampNeg (6 : Int32).toNatClampNeg) fun h54 =>
vl (sR h54 a0 19 (some b53)) fun h55 =>
vl (gN h55) fun b56 =>
vl (nw h55 11 (6 : Int32).toNatClampNeg (6 : Int32).toNatClampNeg) fun h57 =>
vl (sR h57 a0 20 (some b56)) fun h58 =>
vl (gN h58) fun b59 =>
vl (nw h58 11 (6 : Int32).toNatClampNeg (6 : Int32).toNatClampNeg) fun h60 =>
vl (sR h60 a0 21 (some b59)) fun h61 =>
vl (gN h61) fun b62 =>
vl (nw h61 11 (6 : Int32).toNatClampNeg (6 : Int32).toNatClampNeg) fun h63 =>
vl (sR h63 a0 22 (some b62)) fun h64 =>
vl (gN h64) fun b65 =>
vl (nw h64 11 (12 : Int32).toNatClampNeg (12 : Int32).toNatClampNeg) fun h66 =>
vl (sR h66 a0 25 (some b65)) fun h67 =>
vl (gN h67) fun b68 =>
vl (nw h67 11 (12 : Int32).toNatClampNeg (12 : Int32).toNatClampNeg) fun h69 =>
vl (sR h69 a0 26 (some b68)) fun h70 =>
vl (gN h70) fun b71 =>
vl (nw h70 11 (12 : Int32).toNatClampNeg (12 : Int32).toNatClampNeg) fun h72 =>
vl (sR h72 a0 27 (some b71)) fun h73 =>
vl (gN h73) fun b74 =>
vl (nw h73 11 (720 : Int32).toNatClampNeg (720 : Int32).toNatClampNeg) fun h75 =>
vl (sR h75 a0 28 (some b74)) fun h76 =>
vl (gN h76) fun b77 =>
vl (nw h76 11 (360 : Int32).toNatClampNeg (360 : Int32).toNatClampNeg) fun h78 =>
vl (sR h78 a0 29 (some b77)) fun h79 =>
vl (gN h79) fun b80 =>
vl (nw h79 11 (360 : Int32).toNatClampNeg (360 : Int32).toNatClampNeg) fun h81 =>
vl (sR h81 a0 30 (some b80)) fun h82 =>
vl (gN h82) fun b83 =>
vl (nw h82 11 (360 : Int32).toNatClampNeg (360 : Int32).toNatClampNeg) fun h84 =>
vl (sR h84 a0 31 (some b83)) fun h85 =>
vl (gN h85) fun b86 =>
vl (nw h85 12 (360 : Int32).toNatClampNeg (360 : Int32).toNatClampNeg) fun h87 =>
vl (sR h87 a0 32 (some b86)) fun h88 =>
vl (gN h88) fun b89 =>
vl (nw h88 11 (7 : Int32).toNatClampNeg (7 : Int32).toNatClampNeg) fun h90 =>
vl (sR h90 a0 33 (some b89)) fun h91 =>
vl (gN h91) fun b92 =>
vl (nw h91 11 (72 : Int32).toNatClampNeg (72 : Int32).toNatClampNeg) fun h93 =>
vl (sR h93 a0 34 (some b92)) fun h94 =>
vl (gN h94) fun b95 =>
vl (nw h94 11 (7 : Int32).toNatClampNeg (7 : Int32).toNatClampNeg) fun h96 =>
vl (sR h96 a0 35 (some b95)) fun h97 =>
vl (gN h97) fun b98 =>
vl (nw h97 11 (144 : Int32).toNatClampNeg (144 : Int32).toNatClampNeg) fun h99 =>
vl (sR h99 a0 36 (some b98)) fun h100 =>
vl (gN h100) fun b101 =>
vl (nw h100 11 (4 : Int32).toNatClampNeg (4 : Int32).toNatClampNeg) fun h102 =>
vl (sR h102 a0 40 (some b101)) fun h103 =>
vl (gN h103) fun b104 =>
vl (nw h103 11 (4 : Int32).toNatClampNeg (4 : Int32).toNatClampNeg) fun h105 =>
gd (okAb h105 b104 11 (0 : Int32)) <|
vl (sI h105 b104 (0 : Int32).toNatClampNeg (1 : Int32)) fun h107 =>
gd (okAb h107 b104 11 (1 : Int32)) <|
vl (sI h107 b104 (1 : Int32).toNatClampNeg (1 : Int32)) fun h109 =>
gd (okAb h109 b104 11 (2 : Int32)) <|
vl (sI h109 b104 (2 : Int32).toNatClampNeg (1 : Int32)) fun h111 =>
gd (okAb h111 b104 11 (3 : Int32)) <|
vl (sI h111 b104 (3 : Int32).toNatClampNeg (1 : Int32)) fun h113 =>
vl (sR h113 a0 41 (some b104)) fun h114 =>
vl (gN h114) fun b115 =>
vl (nw h114 11 (4 : Int32).toNatClampNeg (4 : Int32).toNatClampNeg) fun h116 =>
vl (sR h116 a0 42 (some b115)) fun h117 =>
vl (gN h117) fun b118 =>
vl (nw h117 11 (4 : Int32).toNatClampNeg (4 : Int32).toNatClampNeg) fun h119 =>
vl (sR h119 a0 43 (some b118)) fun h120 =>
vl (gN h120) fun b121 =>
vl (nw h120 11 (7 : Int32).toNatClampNeg (7 : Int32).toNatClampNeg) fun h122 =>
vl (sR h122 a0 45 (some b121)) fun h123 =>
vl (gN h123) fun b124 =>
vl (nw h123 11 (7 : Int32).toNatClampNeg (7 : Int32).toNatClampNeg) fun h125 =>
vl (sR h125 a0 46 (some b124)) fun h126 =>
vl (gN h126) fun b127 =>
vl (nw h126 11 (7 : Int32).toNatClampNeg (7 : Int32).toNatClampNeg) fun h128 =>
vl (sR h128 a0 47 (some b127)) fun h129 =>
vl (gN h129) fun b130 =>
vl (nw h129 11 (7 : Int32).toNatClampNeg (7 : Int32).toNatClampNeg) fun h131 =>
vl (sR h131 a0 48 (some b130)) fun h132 =>
vl (gN h132) fun b133 =>
vl (nw h132 11 (7 : Int32).toNatClampNeg (7 : Int32).toNatClampNeg) fun h134 =>
vl (sR h134 a0 49 (some b133)) fun h135 =>
f_X10_init_L364 (fun y141 y142 h143 =>
f_X10_init_L382 (fun y151 y152 h153 =>
f_X10_init_L403 6000 y151 (0 : Int32) h153) 6000 y141 (0 : Int32) h143) 6000 a0 (1 : Int32) h135
set_option maxHeartbeats 4000000 in
set_option maxRecDepth 100000 in
theorem t_X10_init {X : Cx} {d : Nat} {h : Hp} {a0 : Nat} {v : Unit} {h' : Hp} (hD : 3 ≤ d) (H : f_X10_init h a0 = some (v, h')) : PM X mX10_init d [.ref a0] h (none) h' := by
  unfold f_X10_init at H
  refine PM.of (loc := [some (.ref a0), none]) (by decide) rfl (Nat.le_of_ble_eq_true rfl) ?_
  refine ev_aload_n dX10_init_0 rfl rfl rfl ?_
  refine ev_obj dX10_init_1 ⟨_, rfl⟩ k4_145 k1_26 k1_27 (by omega) (Nat.le_of_ble_eq_true rfl) ?_
  refine ev_aload_n dX10_init_4 rfl rfl rfl ?_
  refine ev_sipush (v := (300 : Int32)) dX10_init_5 (by decide) ?_
  replace H := vl_some H
  obtain ⟨b1, eb1, H⟩ := H
  replace H := vl_some H
  obtain ⟨h2, eh2, H⟩ := H
  refine ev_newaIx dX10_init_8 k1_44 (okN.p (by decide)) rfl eb1 eh2 ?_
  replace H := gd_some H
  obtain ⟨g3, H⟩ := H
  replace H := vl_some H
  obtain ⟨h4, eh4, H⟩ := H
  refine ev_putRF (x := (some b1)) dX10_init_10 fdX10_7 rfl (Or.inr ⟨_, rfl⟩) rfl (okOb.p g3) eh4 ?_
  refine ev_aload_n dX10_init_13 rfl rfl rfl ?_
  refine ev_bipush (v := (26 : Int32)) dX10_init_14 (by decide) ?_
  replace H := vl_some H
  obtain ⟨b5, eb5, H⟩ := H
  replace H := vl_some H
  obtain ⟨h6, eh6, H⟩ := H
  refine ev_newaIx dX10_init_16 k1_44 (okN.p (by decide)) rfl eb5 eh6 ?_
  replace H := vl_some H
  obtain ⟨h7, eh7, H⟩ := H
  refine ev_putRF (x := (some b5)) dX10_init_18 fdX10_13 rfl (Or.inr ⟨_, rfl⟩) rfl (okO_nw eh6 (okO_sR eh4 (okOb.p g3))) eh7 ?_
  refine ev_aload_n dX10_init_21 rfl rfl rfl ?_
  refine ev_bipush (v := (48 : Int32)) dX10_init_22 (by decide) ?_
  replace H := vl_some H
  obtain ⟨b8, eb8, H⟩ := H
  replace H := vl_some H
  obtain ⟨h9, eh9, H⟩ := H
  refine ev_newaIx dX10_init_24 k1_44 (okN.p (by decide)) rfl eb8 eh9 ?_
  replace H := vl_some H
  obtain ⟨h10, eh10, H⟩ := H
  refine ev_putRF (x := (some b8)) dX10_init_26 fdX10_16 rfl (Or.inr ⟨_, rfl⟩) rfl (okO_nw eh9 (okO_sR eh7 (okO_nw eh6 (okO_sR eh4 (okOb.p g3))))) eh10 ?_
  refine ev_aload_n dX10_init_29 rfl rfl rfl ?_
  refine ev_sipush (v := (5760 : Int32)) dX10_init_30 (by decide) ?_
  replace H := vl_some H
  obtain ⟨b11, eb11, H⟩ := H
  replace H := vl_some H
  obtain ⟨h12, eh12, H⟩ := H
  refine ev_newaIx dX10_init_33 k1_44 (okN.p (by decide)) rfl eb11 eh12 ?_
  replace H := vl_some H
  obtain ⟨h13, eh13, H⟩ := H
  refine ev_putRF (x := (some b11)) dX10_init_35 fdX10_19 rfl (Or.inr ⟨_, rfl⟩) rfl (okO_nw eh12 (okO_sR eh10 (okO_nw eh9 (okO_sR eh7 (okO_nw eh6 (okO_sR eh4 (okOb.p g3))))))) eh13 ?_
  refine ev_aload_n dX10_init_38 rfl rfl rfl ?_
  refine ev_sipush (v := (5760 : Int32)) dX10_init_39 (by decide) ?_
  replace H := vl_some H
  obtain ⟨b14, eb14, H⟩ := H
  replace H := vl_some H
  obtain ⟨h15, eh15, H⟩ := H
  refine ev_newaIx dX10_init_42 k1_44 (okN.p (by decide)) rfl eb14 eh15 ?_
  replace H := vl_some H
  obtain ⟨h16, eh16, H⟩ := H
  refine ev_putRF (x := (some b14)) dX10_init_44 fdX10_22 rfl (Or.inr ⟨_, rfl⟩) rfl (okO_nw eh15 (okO_sR eh13 (okO_nw eh12 (okO_sR eh10 (okO_nw eh9 (okO_sR eh7 (okO_nw eh6 (okO_sR eh4 (okOb.p g3))))))))) eh16 ?_
  refine ev_aload_n dX10_init_47 rfl rfl rfl ?_
  refine ev_sipush (v := (5760 : Int32)) dX10_init_48 (by decide) ?_
  replace H := vl_some H
  obtain ⟨b17, eb17, H⟩ := H
  replace H := vl_some H
  obtain ⟨h18, eh18, H⟩ := H
  refine ev_newaIx dX10_init_51 k1_44 (okN.p (by decide)) rfl eb17 eh18 ?_
  replace H := vl_some H
  obtain ⟨h19, eh19, H⟩ := H
  refine ev_putRF (x := (some b17)) dX10_init_53 fdX10_25 rfl (Or.inr ⟨_, rfl⟩) rfl (okO_nw eh18 (okO_sR eh16 (okO_nw eh15 (okO_sR eh13 (okO_nw eh12 (okO_sR eh10 (okO_nw eh9 (okO_sR eh7 (okO_nw eh6 (okO_sR eh4 (okOb.p g3))))))))))) eh19 ?_
  refine ev_aload_n dX10_init_56 rfl rfl rfl ?_
  refine ev_bipush (v := (48 : Int32)) dX10_init_57 (by decide) ?_
  replace H := vl_some H
  obtain ⟨b20, eb20, H⟩ := H
  replace H := vl_some H
  obtain ⟨h21, eh21, H⟩ := H
  refine ev_newaIx dX10_init_59 k1_44 (okN.p (by decide)) rfl eb20 eh21 ?_
  replace H := vl_some H
  obtain ⟨h22, eh22, H⟩ := H
  refine ev_putRF (x := (some b20)) dX10_init_61 fdX10_28 rfl (Or.inr ⟨_, rfl⟩) rfl (okO_nw eh21 (okO_sR eh19 (okO_nw eh18 (okO_sR eh16 (okO_nw eh15 (okO_sR eh13 (okO_nw eh12 (okO_sR eh10 (okO_nw eh9 (okO_sR eh7 (okO_nw eh6 (okO_sR eh4 (okOb.p g3))))))))))))) eh22 ?_
  refine ev_aload_n dX10_init_64 rfl rfl rfl ?_
  refine ev_bipush (v := (48 : Int32)) dX10_init_65 (by decide) ?_
  replace H := vl_some H
  obtain ⟨b23, eb23, H⟩ := H
  replace H := vl_some H
  obtain ⟨h24, eh24, H⟩ := H
  refine ev_newaIx dX10_init_67 k1_44 (okN.p (by decide)) rfl eb23 eh24 ?_
  replace H := vl_some H
  obtain ⟨h25, eh25, H⟩ := H
  refine ev_putRF (x := (some b23)) dX10_init_69 fdX10_31 rfl (Or.inr ⟨_, rfl⟩) rfl (okO_nw eh24 (okO_sR eh22 (okO_nw eh21 (okO_sR eh19 (okO_nw eh18 (okO_sR eh16 (okO_nw eh15 (okO_sR eh13 (okO_nw eh12 (okO_sR eh10 (okO_nw eh9 (okO_sR eh7 (okO_nw eh6 (okO_sR eh4 (okOb.p g3))))))))))))))) eh25 ?_
  refine ev_aload_n dX10_init_72 rfl rfl rfl ?_
  refine ev_bipush (v := (48 : Int32)) dX10_init_73 (by decide) ?_
  replace H := vl_some H
  obtain ⟨b26, eb26, H⟩ := H
  replace H := vl_some H
  obtain ⟨h27, eh27, H⟩ := H
  refine ev_newaIx dX10_init_75 k1_44 (okN.p (by decide)) rfl eb26 eh27 ?_
  replace H := vl_some H
  obtain ⟨h28, eh28, H⟩ := H
  refine ev_putRF (x := (some b26)) dX10_init_77 fdX10_34 rfl (Or.inr ⟨_, rfl⟩) rfl (okO_nw eh27 (okO_sR eh25 (okO_nw eh24 (okO_sR eh22 (okO_nw eh21 (okO_sR eh19 (okO_nw eh18 (okO_sR eh16 (okO_nw eh15 (okO_sR eh13 (okO_nw eh12 (okO_sR eh10 (okO_nw eh9 (okO_sR eh7 (okO_nw eh6 (okO_sR eh4 (okOb.p g3))))))))))))))))) eh28 ?_
  refine ev_aload_n dX10_init_80 rfl rfl rfl ?_
  refine ev_bipush (v := (48 : Int32)) dX10_init_81 (by decide) ?_
  replace H := vl_some H
  obtain ⟨b29, eb29, H⟩ := H
  replace H := vl_some H
  obtain ⟨h30, eh30, H⟩ := H
  refine ev_newaIx dX10_init_83 k1_44 (okN.p (by decide)) rfl eb29 eh30 ?_
  replace H := vl_some H
  obtain ⟨h31, eh31, H⟩ := H
  refine ev_putRF (x := (some b29)) dX10_init_85 fdX10_37 rfl (Or.inr ⟨_, rfl⟩) rfl (okO_nw eh30 (okO_sR eh28 (okO_nw eh27 (okO_sR eh25 (okO_nw eh24 (okO_sR eh22 (okO_nw eh21 (okO_sR eh19 (okO_nw eh18 (okO_sR eh16 (okO_nw eh15 (okO_sR eh13 (okO_nw eh12 (okO_sR eh10 (okO_nw eh9 (okO_sR eh7 (okO_nw eh6 (okO_sR eh4 (okOb.p g3))))))))))))))))))) eh31 ?_
  refine ev_aload_n dX10_init_88 rfl rfl rfl ?_
  refine ev_bipush (v := (6 : Int32)) dX10_init_89 (by decide) ?_
  replace H := vl_some H
  obtain ⟨b32, eb32, H⟩ := H
  replace H := vl_some H
  obtain ⟨h33, eh33, H⟩ := H
  refine ev_newaIx dX10_init_91 k1_44 (okN.p (by decide)) rfl eb32 eh33 ?_
  replace H := vl_some H
  obtain ⟨h34, eh34, H⟩ := H
  refine ev_putRF (x := (some b32)) dX10_init_93 fdX10_40 rfl (Or.inr ⟨_, rfl⟩) rfl (okO_nw eh33 (okO_sR eh31 (okO_nw eh30 (okO_sR eh28 (okO_nw eh27 (okO_sR eh25 (okO_nw eh24 (okO_sR eh22 (okO_nw eh21 (okO_sR eh19 (okO_nw eh18 (okO_sR eh16 (okO_nw eh15 (okO_sR eh13 (okO_nw eh12 (okO_sR eh10 (okO_nw eh9 (okO_sR eh7 (okO_nw eh6 (okO_sR eh4 (okOb.p g3))))))))))))))))))))) eh34 ?_
  refine ev_aload_n dX10_init_96 rfl rfl rfl ?_
  refine ev_bipush (v := (6 : Int32)) dX10_init_97 (by decide) ?_
  replace H := vl_some H
  obtain ⟨b35, eb35, H⟩ := H
  replace H := vl_some H
  obtain ⟨h36, eh36, H⟩ := H
  refine ev_newaIx dX10_init_99 k1_44 (okN.p (by decide)) rfl eb35 eh36 ?_
  replace H := vl_some H
  obtain ⟨h37, eh37, H⟩ := H
  refine ev_putRF (x := (some b35)) dX10_init_101 fdX10_43 rfl (Or.inr ⟨_, rfl⟩) rfl (okO_nw eh36 (okO_sR eh34 (okO_nw eh33 (okO_sR eh31 (okO_nw eh30 (okO_sR eh28 (okO_nw eh27 (okO_sR eh25 (okO_nw eh24 (okO_sR eh22 (okO_nw eh21 (okO_sR eh19 (okO_nw eh18 (okO_sR eh16 (okO_nw eh15 (okO_sR eh13 (okO_nw eh12 (okO_sR eh10 (okO_nw eh9 (okO_sR eh7 (okO_nw eh6 (okO_sR eh4 (okOb.p g3))))))))))))))))))))))) eh37 ?_
  refine ev_aload_n dX10_init_104 rfl rfl rfl ?_
  refine ev_bipush (v := (6 : Int32)) dX10_init_105 (by decide) ?_
  replace H := vl_some H
  obtain ⟨b38, eb38, H⟩ := H
  replace H := vl_some H
  obtain ⟨h39, eh39, H⟩ := H
  refine ev_newaIx dX10_init_107 k1_44 (okN.p (by decide)) rfl eb38 eh39 ?_
  replace H := vl_some H
  obtain ⟨h40, eh40, H⟩ := H
  refine ev_putRF (x := (some b38)) dX10_init_109 fdX10_46 rfl (Or.inr ⟨_, rfl⟩) rfl (okO_nw eh39 (okO_sR eh37 (okO_nw eh36 (okO_sR eh34 (okO_nw eh33 (okO_sR eh31 (okO_nw eh30 (okO_sR eh28 (okO_nw eh27 (okO_sR eh25 (okO_nw eh24 (okO_sR eh22 (okO_nw eh21 (okO_sR eh19 (okO_nw eh18 (okO_sR eh16 (okO_nw eh15 (okO_sR eh13 (okO_nw eh12 (okO_sR eh10 (okO_nw eh9 (okO_sR eh7 (okO_nw eh6 (okO_sR eh4 (okOb.p g3))))))))))))))))))))))))) eh40 ?_
  refine ev_aload_n dX10_init_112 rfl rfl rfl ?_
  refine ev_bipush (v := (64 : Int32)) dX10_init_113 (by decide) ?_
  replace H := vl_some H
  obtain ⟨b41, eb41, H⟩ := H
  replace H := vl_some H
  obtain ⟨h42, eh42, H⟩ := H
  refine ev_newaIx dX10_init_115 k1_44 (okN.p (by decide)) rfl eb41 eh42 ?_
  replace H := vl_some H
  obtain ⟨h43, eh43, H⟩ := H
  refine ev_putRF (x := (some b41)) dX10_init_117 fdX10_49 rfl (Or.inr ⟨_, rfl⟩) rfl (okO_nw eh42 (okO_sR eh40 (okO_nw eh39 (okO_sR eh37 (okO_nw eh36 (okO_sR eh34 (okO_nw eh33 (okO_sR eh31 (okO_nw eh30 (okO_sR eh28 (okO_nw eh27 (okO_sR eh25 (okO_nw eh24 (okO_sR eh22 (okO_nw eh21 (okO_sR eh19 (okO_nw eh18 (okO_sR eh16 (okO_nw eh15 (okO_sR eh13 (okO_nw eh12 (okO_sR eh10 (okO_nw eh9 (okO_sR eh7 (okO_nw eh6 (okO_sR eh4 (okOb.p g3))))))))))))))))))))))))))) eh43 ?_
  refine ev_aload_n dX10_init_120 rfl rfl rfl ?_
  refine ev_bipush (v := (32 : Int32)) dX10_init_121 (by decide) ?_
  replace H := vl_some H
  obtain ⟨b44, eb44, H⟩ := H
  replace H := vl_some H
  obtain ⟨h45, eh45, H⟩ := H
  refine ev_newaIx dX10_init_123 k1_44 (okN.p (by decide)) rfl eb44 eh45 ?_
  replace H := vl_some H
  obtain ⟨h46, eh46, H⟩ := H
  refine ev_putRF (x := (some b44)) dX10_init_125 fdX10_52 rfl (Or.inr ⟨_, rfl⟩) rfl (okO_nw eh45 (okO_sR eh43 (okO_nw eh42 (okO_sR eh40 (okO_nw eh39 (okO_sR eh37 (okO_nw eh36 (okO_sR eh34 (okO_nw eh33 (okO_sR eh31 (okO_nw eh30 (okO_sR eh28 (okO_nw eh27 (okO_sR eh25 (okO_nw eh24 (okO_sR eh22 (okO_nw eh21 (okO_sR eh19 (okO_nw eh18 (okO_sR eh16 (okO_nw eh15 (okO_sR eh13 (okO_nw eh12 (okO_sR eh10 (okO_nw eh9 (okO_sR eh7 (okO_nw eh6 (okO_sR eh4 (okOb.p g3))))))))))))))))))))))))))))) eh46 ?_
  refine ev_aload_n dX10_init_128 rfl rfl rfl ?_
  refine ev_bipush (v := (64 : Int32)) dX10_init_129 (by decide) ?_
  replace H := vl_some H
  obtain ⟨b47, eb47, H⟩ := H
  replace H := vl_some H
  obtain ⟨h48, eh48, H⟩ := H
  refine ev_newaIx dX10_init_131 k1_44 (okN.p (by decide)) rfl eb47 eh48 ?_
  replace H := vl_some H
  obtain ⟨h49, eh49, H⟩ := H
  refine ev_putRF (x := (some b47)) dX10_init_133 fdX10_55 rfl (Or.inr ⟨_, rfl⟩) rfl (okO_nw eh48 (okO_sR eh46 (okO_nw eh45 (okO_sR eh43 (okO_nw eh42 (okO_sR eh40 (okO_nw eh39 (okO_sR eh37 (okO_nw eh36 (okO_sR eh34 (okO_nw eh33 (okO_sR eh31 (okO_nw eh30 (okO_sR eh28 (okO_nw eh27 (okO_sR eh25 (okO_nw eh24 (okO_sR eh22 (okO_nw eh21 (okO_sR eh19 (okO_nw eh18 (okO_sR eh16 (okO_nw eh15 (okO_sR eh13 (okO_nw eh12 (okO_sR eh10 (okO_nw eh9 (okO_sR eh7 (okO_nw eh6 (okO_sR eh4 (okOb.p g3))))))))))))))))))))))))))))))) eh49 ?_
  refine ev_aload_n dX10_init_136 rfl rfl rfl ?_
  refine ev_bipush (v := (8 : Int32)) dX10_init_137 (by decide) ?_
  replace H := vl_some H
  obtain ⟨b50, eb50, H⟩ := H
  replace H := vl_some H
  obtain ⟨h51, eh51, H⟩ := H
  refine ev_newaIx dX10_init_139 k1_44 (okN.p (by decide)) rfl eb50 eh51 ?_
  replace H := vl_some H
  obtain ⟨h52, eh52, H⟩ := H
  refine ev_putRF (x := (some b50)) dX10_init_141 fdX10_58 rfl (Or.inr ⟨_, rfl⟩) rfl (okO_nw eh51 (okO_sR eh49 (okO_nw eh48 (okO_sR eh46 (okO_nw eh45 (okO_sR eh43 (okO_nw eh42 (okO_sR eh40 (okO_nw eh39 (okO_sR eh37 (okO_nw eh36 (okO_sR eh34 (okO_nw eh33 (okO_sR eh31 (okO_nw eh30 (okO_sR eh28 (okO_nw eh27 (okO_sR eh25 (okO_nw eh24 (okO_sR eh22 (okO_nw eh21 (okO_sR eh19 (okO_nw eh18 (okO_sR eh16 (okO_nw eh15 (okO_sR eh13 (okO_nw eh12 (okO_sR eh10 (okO_nw eh9 (okO_sR eh7 (okO_nw eh6 (okO_sR eh4 (okOb.p g3))))))))))))))))))))))))))))))))) eh52 ?_
  refine ev_aload_n dX10_init_144 rfl rfl rfl ?_
  refine ev_bipush (v := (6 : Int32)) dX10_init_145 (by decide) ?_
  replace H := vl_some H
  obtain ⟨b53, eb53, H⟩ := H
  replace H := vl_some H
  obtain ⟨h54, eh54, H⟩ := H
  refine ev_newaIx dX10_init_147 k1_44 (okN.p (by decide)) rfl eb53 eh54 ?_
  replace H := vl_some H
  obtain ⟨h55, eh55, H⟩ := H
  refine ev_putRF (x := (some b53)) dX10_init_149 fdX10_61 rfl (Or.inr ⟨_, rfl⟩) rfl (okO_nw eh54 (okO_sR eh52 (okO_nw eh51 (okO_sR eh49 (okO_nw eh48 (okO_sR eh46 (okO_nw eh45 (okO_sR eh43 (okO_nw eh42 (okO_sR eh40 (okO_nw eh39 (okO_sR eh37 (okO_nw eh36 (okO_sR eh34 (okO_nw eh33 (okO_sR eh31 (okO_nw eh30 (okO_sR eh28 (okO_nw eh27 (okO_sR eh25 (okO_nw eh24 (okO_sR eh22 (okO_nw eh21 (okO_sR eh19 (okO_nw eh18 (okO_sR eh16 (okO_nw eh15 (okO_sR eh13 (okO_nw eh12 (okO_sR eh10 (okO_nw eh9 (okO_sR eh7 (okO_nw eh6 (okO_sR eh4 (okOb.p g3))))))))))))))))))))))))))))))))))) eh55 ?_
  refine ev_aload_n dX10_init_152 rfl rfl rfl ?_
  refine ev_bipush (v := (6 : Int32)) dX10_init_153 (by decide) ?_
  replace H := vl_some H
  obtain ⟨b56, eb56, H⟩ := H
  replace H := vl_some H
  obtain ⟨h57, eh57, H⟩ := H
  refine ev_newaIx dX10_init_155 k1_44 (okN.p (by decide)) rfl eb56 eh57 ?_
  replace H := vl_some H
  obtain ⟨h58, eh58, H⟩ := H
  refine ev_putRF (x := (some b56)) dX10_init_157 fdX10_64 rfl (Or.inr ⟨_, rfl⟩) rfl (okO_nw eh57 (okO_sR eh55 (okO_nw eh54 (okO_sR eh52 (okO_nw eh51 (okO_sR eh49 (okO_nw eh48 (okO_sR eh46 (okO_nw eh45 (okO_sR eh43 (okO_nw eh42 (okO_sR eh40 (okO_nw eh39 (okO_sR eh37 (okO_nw eh36 (okO_sR eh34 (okO_nw eh33 (okO_sR eh31 (okO_nw eh30 (okO_sR eh28 (okO_nw eh27 (okO_sR eh25 (okO_nw eh24 (okO_sR eh22 (okO_nw eh21 (okO_sR eh19 (okO_nw eh18 (okO_sR eh16 (okO_nw eh15 (okO_sR eh13 (okO_nw eh12 (okO_sR eh10 (okO_nw eh9 (okO_sR eh7 (okO_nw eh6 (okO_sR eh4 (okOb.p g3))))))))))))))))))))))))))))))))))))) eh58 ?_
  refine ev_aload_n dX10_init_160 rfl rfl rfl ?_
  refine ev_bipush (v := (6 : Int32)) dX10_init_161 (by decide) ?_
  replace H := vl_some H
  obtain ⟨b59, eb59, H⟩ := H
  replace H := vl_some H
  obtain ⟨h60, eh60, H⟩ := H
  refine ev_newaIx dX10_init_163 k1_44 (okN.p (by decide)) rfl eb59 eh60 ?_
  replace H := vl_some H
  obtain ⟨h61, eh61, H⟩ := H
  refine ev_putRF (x := (some b59)) dX10_init_165 fdX10_67 rfl (Or.inr ⟨_, rfl⟩) rfl (okO_nw eh60 (okO_sR eh58 (okO_nw eh57 (okO_sR eh55 (okO_nw eh54 (okO_sR eh52 (okO_nw eh51 (okO_sR eh49 (okO_nw eh48 (okO_sR eh46 (okO_nw eh45 (okO_sR eh43 (okO_nw eh42 (okO_sR eh40 (okO_nw eh39 (okO_sR eh37 (okO_nw eh36 (okO_sR eh34 (okO_nw eh33 (okO_sR eh31 (okO_nw eh30 (okO_sR eh28 (okO_nw eh27 (okO_sR eh25 (okO_nw eh24 (okO_sR eh22 (okO_nw eh21 (okO_sR eh19 (okO_nw eh18 (okO_sR eh16 (okO_nw eh15 (okO_sR eh13 (okO_nw eh12 (okO_sR eh10 (okO_nw eh9 (okO_sR eh7 (okO_nw eh6 (okO_sR eh4 (okOb.p g3))))))))))))))))))))))))))))))))))))))) eh61 ?_
  refine ev_aload_n dX10_init_168 rfl rfl rfl ?_
  refine ev_bipush (v := (6 : Int32)) dX10_init_169 (by decide) ?_
  replace H := vl_some H
  obtain ⟨b62, eb62, H⟩ := H
  replace H := vl_some H
  obtain ⟨h63, eh63, H⟩ := H
  refine ev_newaIx dX10_init_171 k1_44 (okN.p (by decide)) rfl eb62 eh63 ?_
  replace H := vl_some H
  obtain ⟨h64, eh64, H⟩ := H
  refine ev_putRF (x := (some b62)) dX10_init_173 fdX10_70 rfl (Or.inr ⟨_, rfl⟩) rfl (okO_nw eh63 (okO_sR eh61 (okO_nw eh60 (okO_sR eh58 (okO_nw eh57 (okO_sR eh55 (okO_nw eh54 (okO_sR eh52 (okO_nw eh51 (okO_sR eh49 (okO_nw eh48 (okO_sR eh46 (okO_nw eh45 (okO_sR eh43 (okO_nw eh42 (okO_sR eh40 (okO_nw eh39 (okO_sR eh37 (okO_nw eh36 (okO_sR eh34 (okO_nw eh33 (okO_sR eh31 (okO_nw eh30 (okO_sR eh28 (okO_nw eh27 (okO_sR eh25 (okO_nw eh24 (okO_sR eh22 (okO_nw eh21 (okO_sR eh19 (okO_nw eh18 (okO_sR eh16 (okO_nw eh15 (okO_sR eh13 (okO_nw eh12 (okO_sR eh10 (okO_nw eh9 (okO_sR eh7 (okO_nw eh6 (okO_sR eh4 (okOb.p g3))))))))))))))))))))))))))))))))))))))))) eh64 ?_
  refine ev_aload_n dX10_init_176 rfl rfl rfl ?_
  refine ev_bipush (v := (12 : Int32)) dX10_init_177 (by decide) ?_
  replace H := vl_some H
  obtain ⟨b65, eb65, H⟩ := H
  replace H := vl_some H
  obtain ⟨h66, eh66, H⟩ := H
  refine ev_newaIx dX10_init_179 k1_44 (okN.p (by decide)) rfl eb65 eh66 ?_
  replace H := vl_some H
  obtain ⟨h67, eh67, H⟩ := H
  refine ev_putRF (x := (some b65)) dX10_init_181 fdX10_73 rfl (Or.inr ⟨_, rfl⟩) rfl (okO_nw eh66 (okO_sR eh64 (okO_nw eh63 (okO_sR eh61 (okO_nw eh60 (okO_sR eh58 (okO_nw eh57 (okO_sR eh55 (okO_nw eh54 (okO_sR eh52 (okO_nw eh51 (okO_sR eh49 (okO_nw eh48 (okO_sR eh46 (okO_nw eh45 (okO_sR eh43 (okO_nw eh42 (okO_sR eh40 (okO_nw eh39 (okO_sR eh37 (okO_nw eh36 (okO_sR eh34 (okO_nw eh33 (okO_sR eh31 (okO_nw eh30 (okO_sR eh28 (okO_nw eh27 (okO_sR eh25 (okO_nw eh24 (okO_sR eh22 (okO_nw eh21 (okO_sR eh19 (okO_nw eh18 (okO_sR eh16 (okO_nw eh15 (okO_sR eh13 (okO_nw eh12 (okO_sR eh10 (okO_nw eh9 (okO_sR eh7 (okO_nw eh6 (okO_sR eh4 (okOb.p g3))))))))))))))))))))))))))))))))))))))))))) eh67 ?_
  refine ev_aload_n dX10_init_184 rfl rfl rfl ?_
  refine ev_bipush (v := (12 : Int32)) dX10_init_185 (by decide) ?_
  replace H := vl_some H
  obtain ⟨b68, eb68, H⟩ := H
  replace H := vl_some H
  obtain ⟨h69, eh69, H⟩ := H
  refine ev_newaIx dX10_init_187 k1_44 (okN.p (by decide)) rfl eb68 eh69 ?_
  replace H := vl_some H
  obtain ⟨h70, eh70, H⟩ := H
  refine ev_putRF (x := (some b68)) dX10_init_189 fdX10_76 rfl (Or.inr ⟨_, rfl⟩) rfl (okO_nw eh69 (okO_sR eh67 (okO_nw eh66 (okO_sR eh64 (okO_nw eh63 (okO_sR eh61 (okO_nw eh60 (okO_sR eh58 (okO_nw eh57 (okO_sR eh55 (okO_nw eh54 (okO_sR eh52 (okO_nw eh51 (okO_sR eh49 (okO_nw eh48 (okO_sR eh46 (okO_nw eh45 (okO_sR eh43 (okO_nw eh42 (okO_sR eh40 (okO_nw eh39 (okO_sR eh37 (okO_nw eh36 (okO_sR eh34 (okO_nw eh33 (okO_sR eh31 (okO_nw eh30 (okO_sR eh28 (okO_nw eh27 (okO_sR eh25 (okO_nw eh24 (okO_sR eh22 (okO_nw eh21 (okO_sR eh19 (okO_nw eh18 (okO_sR eh16 (okO_nw eh15 (okO_sR eh13 (okO_nw eh12 (okO_sR eh10 (okO_nw eh9 (okO_sR eh7 (okO_nw eh6 (okO_sR eh4 (okOb.p g3))))))))))))))))))))))))))))))))))))))))))))) eh70 ?_
  refine ev_aload_n dX10_init_192 rfl rfl rfl ?_
  refine ev_bipush (v := (12 : Int32)) dX10_init_193 (by decide) ?_
  replace H := vl_some H
  obtain ⟨b71, eb71, H⟩ := H
  replace H := vl_some H
  obtain ⟨h72, eh72, H⟩ := H
  refine ev_newaIx dX10_init_195 k1_44 (okN.p (by decide)) rfl eb71 eh72 ?_
  replace H := vl_some H
  obtain ⟨h73, eh73, H⟩ := H
  refine ev_putRF (x := (some b71)) dX10_init_197 fdX10_79 rfl (Or.inr ⟨_, rfl⟩) rfl (okO_nw eh72 (okO_sR eh70 (okO_nw eh69 (okO_sR eh67 (okO_nw eh66 (okO_sR eh64 (okO_nw eh63 (okO_sR eh61 (okO_nw eh60 (okO_sR eh58 (okO_nw eh57 (okO_sR eh55 (okO_nw eh54 (okO_sR eh52 (okO_nw eh51 (okO_sR eh49 (okO_nw eh48 (okO_sR eh46 (okO_nw eh45 (okO_sR eh43 (okO_nw eh42 (okO_sR eh40 (okO_nw eh39 (okO_sR eh37 (okO_nw eh36 (okO_sR eh34 (okO_nw eh33 (okO_sR eh31 (okO_nw eh30 (okO_sR eh28 (okO_nw eh27 (okO_sR eh25 (okO_nw eh24 (okO_sR eh22 (okO_nw eh21 (okO_sR eh19 (okO_nw eh18 (okO_sR eh16 (okO_nw eh15 (okO_sR eh13 (okO_nw eh12 (okO_sR eh10 (okO_nw eh9 (okO_sR eh7 (okO_nw eh6 (okO_sR eh4 (okOb.p g3))))))))))))))))))))))))))))))))))))))))))))))) eh73 ?_
  refine ev_aload_n dX10_init_200 rfl rfl rfl ?_
  refine ev_sipush (v := (720 : Int32)) dX10_init_201 (by decide) ?_
  replace H := vl_some H
  obtain ⟨b74, eb74, H⟩ := H
  replace H := vl_some H
  obtain ⟨h75, eh75, H⟩ := H
  refine ev_newaIx dX10_init_204 k1_44 (okN.p (by decide)) rfl eb74 eh75 ?_
  replace H := vl_some H
  obtain ⟨h76, eh76, H⟩ := H
  refine ev_putRF (x := (some b74)) dX10_init_206 fdX10_82 rfl (Or.inr ⟨_, rfl⟩) rfl (okO_nw eh75 (okO_sR eh73 (okO_nw eh72 (okO_sR eh70 (okO_nw eh69 (okO_sR eh67 (okO_nw eh66 (okO_sR eh64 (okO_nw eh63 (okO_sR eh61 (okO_nw eh60 (okO_sR eh58 (okO_nw eh57 (okO_sR eh55 (okO_nw eh54 (okO_sR eh52 (okO_nw eh51 (okO_sR eh49 (okO_nw eh48 (okO_sR eh46 (okO_nw eh45 (okO_sR eh43 (okO_nw eh42 (okO_sR eh40 (okO_nw eh39 (okO_sR eh37 (okO_nw eh36 (okO_sR eh34 (okO_nw eh33 (okO_sR eh31 (okO_nw eh30 (okO_sR eh28 (okO_nw eh27 (okO_sR eh25 (okO_nw eh24 (okO_sR eh22 (okO_nw eh21 (okO_sR eh19 (okO_nw eh18 (okO_sR eh16 (okO_nw eh15 (okO_sR eh13 (okO_nw eh12 (okO_sR eh10 (okO_nw eh9 (okO_sR eh7 (okO_nw eh6 (okO_sR eh4 (okOb.p g3))))))))))))))))))))))))))))))))))))))))))))))))) eh76 ?_
  refine ev_aload_n dX10_init_209 rfl rfl rfl ?_
  refine ev_sipush (v := (360 : Int32)) dX10_init_210 (by decide) ?_
  replace H := vl_some H
  obtain ⟨b77, eb77, H⟩ := H
  replace H := vl_some H
  obtain ⟨h78, eh78, H⟩ := H
  refine ev_newaIx dX10_init_213 k1_44 (okN.p (by decide)) rfl eb77 eh78 ?_
  replace H := vl_some H
  obtain ⟨h79, eh79, H⟩ := H
  refine ev_putRF (x := (some b77)) dX10_init_215 fdX10_85 rfl (Or.inr ⟨_, rfl⟩) rfl (okO_nw eh78 (okO_sR eh76 (okO_nw eh75 (okO_sR eh73 (okO_nw eh72 (okO_sR eh70 (okO_nw eh69 (okO_sR eh67 (okO_nw eh66 (okO_sR eh64 (okO_nw eh63 (okO_sR eh61 (okO_nw eh60 (okO_sR eh58 (okO_nw eh57 (okO_sR eh55 (okO_nw eh54 (okO_sR eh52 (okO_nw eh51 (okO_sR eh49 (okO_nw eh48 (okO_sR eh46 (okO_nw eh45 (okO_sR eh43 (okO_nw eh42 (okO_sR eh40 (okO_nw eh39 (okO_sR eh37 (okO_nw eh36 (okO_sR eh34 (okO_nw eh33 (okO_sR eh31 (okO_nw eh30 (okO_sR eh28 (okO_nw eh27 (okO_sR eh25 (okO_nw eh24 (okO_sR eh22 (okO_nw eh21 (okO_sR eh19 (okO_nw eh18 (okO_sR eh16 (okO_nw eh15 (okO_sR eh13 (okO_nw eh12 (okO_sR eh10 (okO_nw eh9 (okO_sR eh7 (okO_nw eh6 (okO_sR eh4 (okOb.p g3))))))))))))))))))))))))))))))))))))))))))))))))))) eh79 ?_
  refine ev_aload_n dX10_init_218 rfl rfl rfl ?_
  refine ev_sipush (v := (360 : Int32)) dX10_init_219 (by decide) ?_
  replace H := vl_some H
  obtain ⟨b80, eb80, H⟩ := H
  replace H := vl_some H
  obtain ⟨h81, eh81, H⟩ := H
  refine ev_newaIx dX10_init_222 k1_44 (okN.p (by decide)) rfl eb80 eh81 ?_
  replace H := vl_some H
  obtain ⟨h82, eh82, H⟩ := H
  refine ev_putRF (x := (some b80)) dX10_init_224 fdX10_88 rfl (Or.inr ⟨_, rfl⟩) rfl (okO_nw eh81 (okO_sR eh79 (okO_nw eh78 (okO_sR eh76 (okO_nw eh75 (okO_sR eh73 (okO_nw eh72 (okO_sR eh70 (okO_nw eh69 (okO_sR eh67 (okO_nw eh66 (okO_sR eh64 (okO_nw eh63 (okO_sR eh61 (okO_nw eh60 (okO_sR eh58 (okO_nw eh57 (okO_sR eh55 (okO_nw eh54 (okO_sR eh52 (okO_nw eh51 (okO_sR eh49 (okO_nw eh48 (okO_sR eh46 (okO_nw eh45 (okO_sR eh43 (okO_nw eh42 (okO_sR eh40 (okO_nw eh39 (okO_sR eh37 (okO_nw eh36 (okO_sR eh34 (okO_nw eh33 (okO_sR eh31 (okO_nw eh30 (okO_sR eh28 (okO_nw eh27 (okO_sR eh25 (okO_nw eh24 (okO_sR eh22 (okO_nw eh21 (okO_sR eh19 (okO_nw eh18 (okO_sR eh16 (okO_nw eh15 (okO_sR eh13 (okO_nw eh12 (okO_sR eh10 (okO_nw eh9 (okO_sR eh7 (okO_nw eh6 (okO_sR eh4 (okOb.p g3))))))))))))))))))))))))))))))))))))))))))))))))))))) eh82 ?_
  refine ev_aload_n dX10_init_227 rfl rfl rfl ?_
  refine ev_sipush (v := (360 : Int32)) dX10_init_228 (by decide) ?_
  replace H := vl_some H
  obtain ⟨b83, eb83, H⟩ := H
  replace H := vl_some H
  obtain ⟨h84, eh84, H⟩ := H
  refine ev_newaIx dX10_init_231 k1_44 (okN.p (by decide)) rfl eb83 eh84 ?_
  replace H := vl_some H
  obtain ⟨h85, eh85, H⟩ := H
  refine ev_putRF (x := (some b83)) dX10_init_233 fdX10_91 rfl (Or.inr ⟨_, rfl⟩) rfl (okO_nw eh84 (okO_sR eh82 (okO_nw eh81 (okO_sR eh79 (okO_nw eh78 (okO_sR eh76 (okO_nw eh75 (okO_sR eh73 (okO_nw eh72 (okO_sR eh70 (okO_nw eh69 (okO_sR eh67 (okO_nw eh66 (okO_sR eh64 (okO_nw eh63 (okO_sR eh61 (okO_nw eh60 (okO_sR eh58 (okO_nw eh57 (okO_sR eh55 (okO_nw eh54 (okO_sR eh52 (okO_nw eh51 (okO_sR eh49 (okO_nw eh48 (okO_sR eh46 (okO_nw eh45 (okO_sR eh43 (okO_nw eh42 (okO_sR eh40 (okO_nw eh39 (okO_sR eh37 (okO_nw eh36 (okO_sR eh34 (okO_nw eh33 (okO_sR eh31 (okO_nw eh30 (okO_sR eh28 (okO_nw eh27 (okO_sR eh25 (okO_nw eh24 (okO_sR eh22 (okO_nw eh21 (okO_sR eh19 (okO_nw eh18 (okO_sR eh16 (okO_nw eh15 (okO_sR eh13 (okO_nw eh12 (okO_sR eh10 (okO_nw eh9 (okO_sR eh7 (okO_nw eh6 (okO_sR eh4 (okOb.p g3))))))))))))))))))))))))))))))))))))))))))))))))))))))) eh85 ?_
  refine ev_aload_n dX10_init_236 rfl rfl rfl ?_
  refine ev_sipush (v := (360 : Int32)) dX10_init_237 (by decide) ?_
  replace H := vl_some H
  obtain ⟨b86, eb86, H⟩ := H
  replace H := vl_some H
  obtain ⟨h87, eh87, H⟩ := H
  refine ev_newaZx dX10_init_240 k1_70 (okN.p (by decide)) rfl eb86 eh87 ?_
  replace H := vl_some H
  obtain ⟨h88, eh88, H⟩ := H
  refine ev_putRF (x := (some b86)) dX10_init_242 fdX10_94 rfl (Or.inr ⟨_, rfl⟩) rfl (okO_nw eh87 (okO_sR eh85 (okO_nw eh84 (okO_sR eh82 (okO_nw eh81 (okO_sR eh79 (okO_nw eh78 (okO_sR eh76 (okO_nw eh75 (okO_sR eh73 (okO_nw eh72 (okO_sR eh70 (okO_nw eh69 (okO_sR eh67 (okO_nw eh66 (okO_sR eh64 (okO_nw eh63 (okO_sR eh61 (okO_nw eh60 (okO_sR eh58 (okO_nw eh57 (okO_sR eh55 (okO_nw eh54 (okO_sR eh52 (okO_nw eh51 (okO_sR eh49 (okO_nw eh48 (okO_sR eh46 (okO_nw eh45 (okO_sR eh43 (okO_nw eh42 (okO_sR eh40 (okO_nw eh39 (okO_sR eh37 (okO_nw eh36 (okO_sR eh34 (okO_nw eh33 (okO_sR eh31 (okO_nw eh30 (okO_sR eh28 (okO_nw eh27 (okO_sR eh25 (okO_nw eh24 (okO_sR eh22 (okO_nw eh21 (okO_sR eh19 (okO_nw eh18 (okO_sR eh16 (okO_nw eh15 (okO_sR eh13 (okO_nw eh12 (okO_sR eh10 (okO_nw eh9 (okO_sR eh7 (okO_nw eh6 (okO_sR eh4 (okOb.p g3))))))))))))))))))))))))))))))))))))))))))))))))))))))))) eh88 ?_
  refine ev_aload_n dX10_init_245 rfl rfl rfl ?_
  refine ev_bipush (v := (7 : Int32)) dX10_init_246 (by decide) ?_
  replace H := vl_some H
  obtain ⟨b89, eb89, H⟩ := H
  replace H := vl_some H
  obtain ⟨h90, eh90, H⟩ := H
  refine ev_newaIx dX10_init_248 k1_44 (okN.p (by decide)) rfl eb89 eh90 ?_
  replace H := vl_some H
  obtain ⟨h91, eh91, H⟩ := H
  refine ev_putRF (x := (some b89)) dX10_init_250 fdX10_98 rfl (Or.inr ⟨_, rfl⟩) rfl (okO_nw eh90 (okO_sR eh88 (okO_nw eh87 (okO_sR eh85 (okO_nw eh84 (okO_sR eh82 (okO_nw eh81 (okO_sR eh79 (okO_nw eh78 (okO_sR eh76 (okO_nw eh75 (okO_sR eh73 (okO_nw eh72 (okO_sR eh70 (okO_nw eh69 (okO_sR eh67 (okO_nw eh66 (okO_sR eh64 (okO_nw eh63 (okO_sR eh61 (okO_nw eh60 (okO_sR eh58 (okO_nw eh57 (okO_sR eh55 (okO_nw eh54 (okO_sR eh52 (okO_nw eh51 (okO_sR eh49 (okO_nw eh48 (okO_sR eh46 (okO_nw eh45 (okO_sR eh43 (okO_nw eh42 (okO_sR eh40 (okO_nw eh39 (okO_sR eh37 (okO_nw eh36 (okO_sR eh34 (okO_nw eh33 (okO_sR eh31 (okO_nw eh30 (okO_sR eh28 (okO_nw eh27 (okO_sR eh25 (okO_nw eh24 (okO_sR eh22 (okO_nw eh21 (okO_sR eh19 (okO_nw eh18 (okO_sR eh16 (okO_nw eh15 (okO_sR eh13 (okO_nw eh12 (okO_sR eh10 (okO_nw eh9 (okO_sR eh7 (okO_nw eh6 (okO_sR eh4 (okOb.p g3))))))))))))))))))))))))))))))))))))))))))))))))))))))))))) eh91 ?_
  refine ev_aload_n dX10_init_253 rfl rfl rfl ?_
  refine ev_bipush (v := (72 : Int32)) dX10_init_254 (by decide) ?_
  replace H := vl_some H
  obtain ⟨b92, eb92, H⟩ := H
  replace H := vl_some H
  obtain ⟨h93, eh93, H⟩ := H
  refine ev_newaIx dX10_init_256 k1_44 (okN.p (by decide)) rfl eb92 eh93 ?_
  replace H := vl_some H
  obtain ⟨h94, eh94, H⟩ := H
  refine ev_putRF (x := (some b92)) dX10_init_258 fdX10_101 rfl (Or.inr ⟨_, rfl⟩) rfl (okO_nw eh93 (okO_sR eh91 (okO_nw eh90 (okO_sR eh88 (okO_nw eh87 (okO_sR eh85 (okO_nw eh84 (okO_sR eh82 (okO_nw eh81 (okO_sR eh79 (okO_nw eh78 (okO_sR eh76 (okO_nw eh75 (okO_sR eh73 (okO_nw eh72 (okO_sR eh70 (okO_nw eh69 (okO_sR eh67 (okO_nw eh66 (okO_sR eh64 (okO_nw eh63 (okO_sR eh61 (okO_nw eh60 (okO_sR eh58 (okO_nw eh57 (okO_sR eh55 (okO_nw eh54 (okO_sR eh52 (okO_nw eh51 (okO_sR eh49 (okO_nw eh48 (okO_sR eh46 (okO_nw eh45 (okO_sR eh43 (okO_nw eh42 (okO_sR eh40 (okO_nw eh39 (okO_sR eh37 (okO_nw eh36 (okO_sR eh34 (okO_nw eh33 (okO_sR eh31 (okO_nw eh30 (okO_sR eh28 (okO_nw eh27 (okO_sR eh25 (okO_nw eh24 (okO_sR eh22 (okO_nw eh21 (okO_sR eh19 (okO_nw eh18 (okO_sR eh16 (okO_nw eh15 (okO_sR eh13 (okO_nw eh12 (okO_sR eh10 (okO_nw eh9 (okO_sR eh7 (okO_nw eh6 (okO_sR eh4 (okOb.p g3))))))))))))))))))))))))))))))))))))))))))))))))))))))))))))) eh94 ?_
  refine ev_aload_n dX10_init_261 rfl rfl rfl ?_
  refine ev_bipush (v := (7 : Int32)) dX10_init_262 (by decide) ?_
  replace H := vl_some H
  obtain ⟨b95, eb95, H⟩ := H
  replace H := vl_some H
  obtain ⟨h96, eh96, H⟩ := H
  refine ev_newaIx dX10_init_264 k1_44 (okN.p (by decide)) rfl eb95 eh96 ?_
  replace H := vl_some H
  obtain ⟨h97, eh97, H⟩ := H
  refine ev_putRF (x := (some b95)) dX10_init_266 fdX10_104 rfl (Or.inr ⟨_, rfl⟩) rfl (okO_nw eh96 (okO_sR eh94 (okO_nw eh93 (okO_sR eh91 (okO_nw eh90 (okO_sR eh88 (okO_nw eh87 (okO_sR eh85 (okO_nw eh84 (okO_sR eh82 (okO_nw eh81 (okO_sR eh79 (okO_nw eh78 (okO_sR eh76 (okO_nw eh75 (okO_sR eh73 (okO_nw eh72 (okO_sR eh70 (okO_nw eh69 (okO_sR eh67 (okO_nw eh66 (okO_sR eh64 (okO_nw eh63 (okO_sR eh61 (okO_nw eh60 (okO_sR eh58 (okO_nw eh57 (okO_sR eh55 (okO_nw eh54 (okO_sR eh52 (okO_nw eh51 (okO_sR eh49 (okO_nw eh48 (okO_sR eh46 (okO_nw eh45 (okO_sR eh43 (okO_nw eh42 (okO_sR eh40 (okO_nw eh39 (okO_sR eh37 (okO_nw eh36 (okO_sR eh34 (okO_nw eh33 (okO_sR eh31 (okO_nw eh30 (okO_sR eh28 (okO_nw eh27 (okO_sR eh25 (okO_nw eh24 (okO_sR eh22 (okO_nw eh21 (okO_sR eh19 (okO_nw eh18 (okO_sR eh16 (okO_nw eh15 (okO_sR eh13 (okO_nw eh12 (okO_sR eh10 (okO_nw eh9 (okO_sR eh7 (okO_nw eh6 (okO_sR eh4 (okOb.p g3))))))))))))))))))))))))))))))))))))))))))))))))))))))))))))))) eh97 ?_
  refine ev_aload_n dX10_init_269 rfl rfl rfl ?_
  refine ev_sipush (v := (144 : Int32)) dX10_init_270 (by decide) ?_
  replace H := vl_some H
  obtain ⟨b98, eb98, H⟩ := H
  replace H := vl_some H
  obtain ⟨h99, eh99, H⟩ := H
  refine ev_newaIx dX10_init_273 k1_44 (okN.p (by decide)) rfl eb98 eh99 ?_
  replace H := vl_some H
  obtain ⟨h100, eh100, H⟩ := H
  refine ev_putRF (x := (some b98)) dX10_init_275 fdX10_107 rfl (Or.inr ⟨_, rfl⟩) rfl (okO_nw eh99 (okO_sR eh97 (okO_nw eh96 (okO_sR eh94 (okO_nw eh93 (okO_sR eh91 (okO_nw eh90 (okO_sR eh88 (okO_nw eh87 (okO_sR eh85 (okO_nw eh84 (okO_sR eh82 (okO_nw eh81 (okO_sR eh79 (okO_nw eh78 (okO_sR eh76 (okO_nw eh75 (okO_sR eh73 (okO_nw eh72 (okO_sR eh70 (okO_nw eh69 (okO_sR eh67 (okO_nw eh66 (okO_sR eh64 (okO_nw eh63 (okO_sR eh61 (okO_nw eh60 (okO_sR eh58 (okO_nw eh57 (okO_sR eh55 (okO_nw eh54 (okO_sR eh52 (okO_nw eh51 (okO_sR eh49 (okO_nw eh48 (okO_sR eh46 (okO_nw eh45 (okO_sR eh43 (okO_nw eh42 (okO_sR eh40 (okO_nw eh39 (okO_sR eh37 (okO_nw eh36 (okO_sR eh34 (okO_nw eh33 (okO_sR eh31 (okO_nw eh30 (okO_sR eh28 (okO_nw eh27 (okO_sR eh25 (okO_nw eh24 (okO_sR eh22 (okO_nw eh21 (okO_sR eh19 (okO_nw eh18 (okO_sR eh16 (okO_nw eh15 (okO_sR eh13 (okO_nw eh12 (okO_sR eh10 (okO_nw eh9 (okO_sR eh7 (okO_nw eh6 (okO_sR eh4 (okOb.p g3))))))))))))))))))))))))))))))))))))))))))))))))))))))))))))))))) eh100 ?_
  refine ev_aload_n dX10_init_278 rfl rfl rfl ?_
  refine ev_iconst (v := (4 : Int32)) dX10_init_279 (by decide) ?_
  replace H := vl_some H
  obtain ⟨b101, eb101, H⟩ := H
  replace H := vl_some H
  obtain ⟨h102, eh102, H⟩ := H
  refine ev_newaIx dX10_init_280 k1_44 (okN.p (by decide)) rfl eb101 eh102 ?_
  replace H := vl_some H
  obtain ⟨h103, eh103, H⟩ := H
  refine ev_putRF (x := (some b101)) dX10_init_282 fdX10_110 rfl (Or.inr ⟨_, rfl⟩) rfl (okO_nw eh102 (okO_sR eh100 (okO_nw eh99 (okO_sR eh97 (okO_nw eh96 (okO_sR eh94 (okO_nw eh93 (okO_sR eh91 (okO_nw eh90 (okO_sR eh88 (okO_nw eh87 (okO_sR eh85 (okO_nw eh84 (okO_sR eh82 (okO_nw eh81 (okO_sR eh79 (okO_nw eh78 (okO_sR eh76 (okO_nw eh75 (okO_sR eh73 (okO_nw eh72 (okO_sR eh70 (okO_nw eh69 (okO_sR eh67 (okO_nw eh66 (okO_sR eh64 (okO_nw eh63 (okO_sR eh61 (okO_nw eh60 (okO_sR eh58 (okO_nw eh57 (okO_sR eh55 (okO_nw eh54 (okO_sR eh52 (okO_nw eh51 (okO_sR eh49 (okO_nw eh48 (okO_sR eh46 (okO_nw eh45 (okO_sR eh43 (okO_nw eh42 (okO_sR eh40 (okO_nw eh39 (okO_sR eh37 (okO_nw eh36 (okO_sR eh34 (okO_nw eh33 (okO_sR eh31 (okO_nw eh30 (okO_sR eh28 (okO_nw eh27 (okO_sR eh25 (okO_nw eh24 (okO_sR eh22 (okO_nw eh21 (okO_sR eh19 (okO_nw eh18 (okO_sR eh16 (okO_nw eh15 (okO_sR eh13 (okO_nw eh12 (okO_sR eh10 (okO_nw eh9 (okO_sR eh7 (okO_nw eh6 (okO_sR eh4 (okOb.p g3))))))))))))))))))))))))))))))))))))))))))))))))))))))))))))))))))) eh103 ?_
  refine ev_aload_n dX10_init_285 rfl rfl rfl ?_
  refine ev_iconst (v := (4 : Int32)) dX10_init_286 (by decide) ?_
  replace H := vl_some H
  obtain ⟨b104, eb104, H⟩ := H
  replace H := vl_some H
  obtain ⟨h105, eh105, H⟩ := H
  refine ev_newaIx dX10_init_287 k1_44 (okN.p (by decide)) rfl eb104 eh105 ?_
  refine ev_dup dX10_init_289 rfl ?_
  refine ev_iconst (v := (0 : Int32)) dX10_init_290 (by decide) ?_
  refine ev_iconst (v := (1 : Int32)) dX10_init_291 (by decide) ?_
  replace H := gd_some H
  obtain ⟨g106, H⟩ := H
  replace H := vl_some H
  obtain ⟨h107, eh107, H⟩ := H
  refine ev_iast dX10_init_292 (okAb.p g106) eh107 ?_
  refine ev_dup dX10_init_293 rfl ?_
  refine ev_iconst (v := (1 : Int32)) dX10_init_294 (by decide) ?_
  refine ev_iconst (v := (1 : Int32)) dX10_init_295 (by decide) ?_
  replace H := gd_some H
  obtain ⟨g108, H⟩ := H
  replace H := vl_some H
  obtain ⟨h109, eh109, H⟩ := H
  refine ev_iast dX10_init_296 (okAb.p g108) eh109 ?_
  refine ev_dup dX10_init_297 rfl ?_
  refine ev_iconst (v := (2 : Int32)) dX10_init_298 (by decide) ?_
  refine ev_iconst (v := (1 : Int32)) dX10_init_299 (by decide) ?_
  replace H := gd_some H
  obtain ⟨g110, H⟩ := H
  replace H := vl_some H
  obtain ⟨h111, eh111, H⟩ := H
  refine ev_iast dX10_init_300 (okAb.p g110) eh111 ?_
  refine ev_dup dX10_init_301 rfl ?_
  refine ev_iconst (v := (3 : Int32)) dX10_init_302 (by decide) ?_
  refine ev_iconst (v := (1 : Int32)) dX10_init_303 (by decide) ?_
  replace H := gd_some H
  obtain ⟨g112, H⟩ := H
  replace H := vl_some H
  obtain ⟨h113, eh113, H⟩ := H
  refine ev_iast dX10_init_304 (okAb.p g112) eh113 ?_
  replace H := vl_some H
  obtain ⟨h114, eh114, H⟩ := H
  refine ev_putRF (x := (some b104)) dX10_init_305 fdX10_113 rfl (Or.inr ⟨_, rfl⟩) rfl (okO_sI eh113 (okO_sI eh111 (okO_sI eh109 (okO_sI eh107 (okO_nw eh105 (okO_sR eh103 (okO_nw eh102 (okO_sR eh100 (okO_nw eh99 (okO_sR eh97 (okO_nw eh96 (okO_sR eh94 (okO_nw eh93 (okO_sR eh91 (okO_nw eh90 (okO_sR eh88 (okO_nw eh87 (okO_sR eh85 (okO_nw eh84 (okO_sR eh82 (okO_nw eh81 (okO_sR eh79 (okO_nw eh78 (okO_sR eh76 (okO_nw eh75 (okO_sR eh73 (okO_nw eh72 (okO_sR eh70 (okO_nw eh69 (okO_sR eh67 (okO_nw eh66 (okO_sR eh64 (okO_nw eh63 (okO_sR eh61 (okO_nw eh60 (okO_sR eh58 (okO_nw eh57 (okO_sR eh55 (okO_nw eh54 (okO_sR eh52 (okO_nw eh51 (okO_sR eh49 (okO_nw eh48 (okO_sR eh46 (okO_nw eh45 (okO_sR eh43 (okO_nw eh42 (okO_sR eh40 (okO_nw eh39 (okO_sR eh37 (okO_nw eh36 (okO_sR eh34 (okO_nw eh33 (okO_sR eh31 (okO_nw eh30 (okO_sR eh28 (okO_nw eh27 (okO_sR eh25 (okO_nw eh24 (okO_sR eh22 (okO_nw eh21 (okO_sR eh19 (okO_nw eh18 (okO_sR eh16 (okO_nw eh15 (okO_sR eh13 (okO_nw eh12 (okO_sR eh10 (okO_nw eh9 (okO_sR eh7 (okO_nw eh6 (okO_sR eh4 (okOb.p g3))))))))))))))))))))))))))))))))))))))))))))))))))))))))))))))))))))))))) eh114 ?_
  refine ev_aload_n dX10_init_308 rfl rfl rfl ?_
  refine ev_iconst (v := (4 : Int32)) dX10_init_309 (by decide) ?_
  replace H := vl_some H
  obtain ⟨b115, eb115, H⟩ := H
  replace H := vl_some H
  obtain ⟨h116, eh116, H⟩ := H
  refine ev_newaIx dX10_init_310 k1_44 (okN.p (by decide)) rfl eb115 eh116 ?_
  replace H := vl_some H
  obtain ⟨h117, eh117, H⟩ := H
  refine ev_putRF (x := (some b115)) dX10_init_312 fdX10_116 rfl (Or.inr ⟨_, rfl⟩) rfl (okO_nw eh116 (okO_sR eh114 (okO_sI eh113 (okO_sI eh111 (okO_sI eh109 (okO_sI eh107 (okO_nw eh105 (okO_sR eh103 (okO_nw eh102 (okO_sR eh100 (okO_nw eh99 (okO_sR eh97 (okO_nw eh96 (okO_sR eh94 (okO_nw eh93 (okO_sR eh91 (okO_nw eh90 (okO_sR eh88 (okO_nw eh87 (okO_sR eh85 (okO_nw eh84 (okO_sR eh82 (okO_nw eh81 (okO_sR eh79 (okO_nw eh78 (okO_sR eh76 (okO_nw eh75 (okO_sR eh73 (okO_nw eh72 (okO_sR eh70 (okO_nw eh69 (okO_sR eh67 (okO_nw eh66 (okO_sR eh64 (okO_nw eh63 (okO_sR eh61 (okO_nw eh60 (okO_sR eh58 (okO_nw eh57 (okO_sR eh55 (okO_nw eh54 (okO_sR eh52 (okO_nw eh51 (okO_sR eh49 (okO_nw eh48 (okO_sR eh46 (okO_nw eh45 (okO_sR eh43 (okO_nw eh42 (okO_sR eh40 (okO_nw eh39 (okO_sR eh37 (okO_nw eh36 (okO_sR eh34 (okO_nw eh33 (okO_sR eh31 (okO_nw eh30 (okO_sR eh28 (okO_nw eh27 (okO_sR eh25 (okO_nw eh24 (okO_sR eh22 (okO_nw eh21 (okO_sR eh19 (okO_nw eh18 (okO_sR eh16 (okO_nw eh15 (okO_sR eh13 (okO_nw eh12 (okO_sR eh10 (okO_nw eh9 (okO_sR eh7 (okO_nw eh6 (okO_sR eh4 (okOb.p g3))))))))))))))))))))))))))))))))))))))))))))))))))))))))))))))))))))))))))) eh117 ?_
  refine ev_aload_n dX10_init_315 rfl rfl rfl ?_
  refine ev_iconst (v := (4 : Int32)) dX10_init_316 (by decide) ?_
  replace H := vl_some H
  obtain ⟨b118, eb118, H⟩ := H
  replace H := vl_some H
  obtain ⟨h119, eh119, H⟩ := H
  refine ev_newaIx dX10_init_317 k1_44 (okN.p (by decide)) rfl eb118 eh119 ?_
  replace H := vl_some H
  obtain ⟨h120, eh120, H⟩ := H
  refine ev_putRF (x := (some b118)) dX10_init_319 fdX10_119 rfl (Or.inr ⟨_, rfl⟩) rfl (okO_nw eh119 (okO_sR eh117 (okO_nw eh116 (okO_sR eh114 (okO_sI eh113 (okO_sI eh111 (okO_sI eh109 (okO_sI eh107 (okO_nw eh105 (okO_sR eh103 (okO_nw eh102 (okO_sR eh100 (okO_nw eh99 (okO_sR eh97 (okO_nw eh96 (okO_sR eh94 (okO_nw eh93 (okO_sR eh91 (okO_nw eh90 (okO_sR eh88 (okO_nw eh87 (okO_sR eh85 (okO_nw eh84 (okO_sR eh82 (okO_nw eh81 (okO_sR eh79 (okO_nw eh78 (okO_sR eh76 (okO_nw eh75 (okO_sR eh73 (okO_nw eh72 (okO_sR eh70 (okO_nw eh69 (okO_sR eh67 (okO_nw eh66 (okO_sR eh64 (okO_nw eh63 (okO_sR eh61 (okO_nw eh60 (okO_sR eh58 (okO_nw eh57 (okO_sR eh55 (okO_nw eh54 (okO_sR eh52 (okO_nw eh51 (okO_sR eh49 (okO_nw eh48 (okO_sR eh46 (okO_nw eh45 (okO_sR eh43 (okO_nw eh42 (okO_sR eh40 (okO_nw eh39 (okO_sR eh37 (okO_nw eh36 (okO_sR eh34 (okO_nw eh33 (okO_sR eh31 (okO_nw eh30 (okO_sR eh28 (okO_nw eh27 (okO_sR eh25 (okO_nw eh24 (okO_sR eh22 (okO_nw eh21 (okO_sR eh19 (okO_nw eh18 (okO_sR eh16 (okO_nw eh15 (okO_sR eh13 (okO_nw eh12 (okO_sR eh10 (okO_nw eh9 (okO_sR eh7 (okO_nw eh6 (okO_sR eh4 (okOb.p g3))))))))))))))))))))))))))))))))))))))))))))))))))))))))))))))))))))))))))))) eh120 ?_
  refine ev_aload_n dX10_init_322 rfl rfl rfl ?_
  refine ev_bipush (v := (7 : Int32)) dX10_init_323 (by decide) ?_
  replace H := vl_some H
  obtain ⟨b121, eb121, H⟩ := H
  replace H := vl_some H
  obtain ⟨h122, eh122, H⟩ := H
  refine ev_newaIx dX10_init_325 k1_44 (okN.p (by decide)) rfl eb121 eh122 ?_
  replace H := vl_some H
  obtain ⟨h123, eh123, H⟩ := H
  refine ev_putRF (x := (some b121)) dX10_init_327 fdX10_122 rfl (Or.inr ⟨_, rfl⟩) rfl (okO_nw eh122 (okO_sR eh120 (okO_nw eh119 (okO_sR eh117 (okO_nw eh116 (okO_sR eh114 (okO_sI eh113 (okO_sI eh111 (okO_sI eh109 (okO_sI eh107 (okO_nw eh105 (okO_sR eh103 (okO_nw eh102 (okO_sR eh100 (okO_nw eh99 (okO_sR eh97 (okO_nw eh96 (okO_sR eh94 (okO_nw eh93 (okO_sR eh91 (okO_nw eh90 (okO_sR eh88 (okO_nw eh87 (okO_sR eh85 (okO_nw eh84 (okO_sR eh82 (okO_nw eh81 (okO_sR eh79 (okO_nw eh78 (okO_sR eh76 (okO_nw eh75 (okO_sR eh73 (okO_nw eh72 (okO_sR eh70 (okO_nw eh69 (okO_sR eh67 (okO_nw eh66 (okO_sR eh64 (okO_nw eh63 (okO_sR eh61 (okO_nw eh60 (okO_sR eh58 (okO_nw eh57 (okO_sR eh55 (okO_nw eh54 (okO_sR eh52 (okO_nw eh51 (okO_sR eh49 (okO_nw eh48 (okO_sR eh46 (okO_nw eh45 (okO_sR eh43 (okO_nw eh42 (okO_sR eh40 (okO_nw eh39 (okO_sR eh37 (okO_nw eh36 (okO_sR eh34 (okO_nw eh33 (okO_sR eh31 (okO_nw eh30 (okO_sR eh28 (okO_nw eh27 (okO_sR eh25 (okO_nw eh24 (okO_sR eh22 (okO_nw eh21 (okO_sR eh19 (okO_nw eh18 (okO_sR eh16 (okO_nw eh15 (okO_sR eh13 (okO_nw eh12 (okO_sR eh10 (okO_nw eh9 (okO_sR eh7 (okO_nw eh6 (okO_sR eh4 (okOb.p g3))))))))))))))))))))))))))))))))))))))))))))))))))))))))))))))))))))))))))))))) eh123 ?_
  refine ev_aload_n dX10_init_330 rfl rfl rfl ?_
  refine ev_bipush (v := (7 : Int32)) dX10_init_331 (by decide) ?_
  replace H := vl_some H
  obtain ⟨b124, eb124, H⟩ := H
  replace H := vl_some H
  obtain ⟨h125, eh125, H⟩ := H
  refine ev_newaIx dX10_init_333 k1_44 (okN.p (by decide)) rfl eb124 eh125 ?_
  replace H := vl_some H
  obtain ⟨h126, eh126, H⟩ := H
  refine ev_putRF (x := (some b124)) dX10_init_335 fdX10_125 rfl (Or.inr ⟨_, rfl⟩) rfl (okO_nw eh125 (okO_sR eh123 (okO_nw eh122 (okO_sR eh120 (okO_nw eh119 (okO_sR eh117 (okO_nw eh116 (okO_sR eh114 (okO_sI eh113 (okO_sI eh111 (okO_sI eh109 (okO_sI eh107 (okO_nw eh105 (okO_sR eh103 (okO_nw eh102 (okO_sR eh100 (okO_nw eh99 (okO_sR eh97 (okO_nw eh96 (okO_sR eh94 (okO_nw eh93 (okO_sR eh91 (okO_nw eh90 (okO_sR eh88 (okO_nw eh87 (okO_sR eh85 (okO_nw eh84 (okO_sR eh82 (okO_nw eh81 (okO_sR eh79 (okO_nw eh78 (okO_sR eh76 (okO_nw eh75 (okO_sR eh73 (okO_nw eh72 (okO_sR eh70 (okO_nw eh69 (okO_sR eh67 (okO_nw eh66 (okO_sR eh64 (okO_nw eh63 (okO_sR eh61 (okO_nw eh60 (okO_sR eh58 (okO_nw eh57 (okO_sR eh55 (okO_nw eh54 (okO_sR eh52 (okO_nw eh51 (okO_sR eh49 (okO_nw eh48 (okO_sR eh46 (okO_nw eh45 (okO_sR eh43 (okO_nw eh42 (okO_sR eh40 (okO_nw eh39 (okO_sR eh37 (okO_nw eh36 (okO_sR eh34 (okO_nw eh33 (okO_sR eh31 (okO_nw eh30 (okO_sR eh28 (okO_nw eh27 (okO_sR eh25 (okO_nw eh24 (okO_sR eh22 (okO_nw eh21 (okO_sR eh19 (okO_nw eh18 (okO_sR eh16 (okO_nw eh15 (okO_sR eh13 (okO_nw eh12 (okO_sR eh10 (okO_nw eh9 (okO_sR eh7 (okO_nw eh6 (okO_sR eh4 (okOb.p g3))))))))))))))))))))))))))))))))))))))))))))))))))))))))))))))))))))))))))))))))) eh126 ?_
  refine ev_aload_n dX10_init_338 rfl rfl rfl ?_
  refine ev_bipush (v := (7 : Int32)) dX10_init_339 (by decide) ?_
  replace H := vl_some H
  obtain ⟨b127, eb127, H⟩ := H
  replace H := vl_some H
  obtain ⟨h128, eh128, H⟩ := H
  refine ev_newaIx dX10_init_341 k1_44 (okN.p (by decide)) rfl eb127 eh128 ?_
  replace H := vl_some H
  obtain ⟨h129, eh129, H⟩ := H
  refine ev_putRF (x := (some b127)) dX10_init_343 fdX10_128 rfl (Or.inr ⟨_, rfl⟩) rfl (okO_nw eh128 (okO_sR eh126 (okO_nw eh125 (okO_sR eh123 (okO_nw eh122 (okO_sR eh120 (okO_nw eh119 (okO_sR eh117 (okO_nw eh116 (okO_sR eh114 (okO_sI eh113 (okO_sI eh111 (okO_sI eh109 (okO_sI eh107 (okO_nw eh105 (okO_sR eh103 (okO_nw eh102 (okO_sR eh100 (okO_nw eh99 (okO_sR eh97 (okO_nw eh96 (okO_sR eh94 (okO_nw eh93 (okO_sR eh91 (okO_nw eh90 (okO_sR eh88 (okO_nw eh87 (okO_sR eh85 (okO_nw eh84 (okO_sR eh82 (okO_nw eh81 (okO_sR eh79 (okO_nw eh78 (okO_sR eh76 (okO_nw eh75 (okO_sR eh73 (okO_nw eh72 (okO_sR eh70 (okO_nw eh69 (okO_sR eh67 (okO_nw eh66 (okO_sR eh64 (okO_nw eh63 (okO_sR eh61 (okO_nw eh60 (okO_sR eh58 (okO_nw eh57 (okO_sR eh55 (okO_nw eh54 (okO_sR eh52 (okO_nw eh51 (okO_sR eh49 (okO_nw eh48 (okO_sR eh46 (okO_nw eh45 (okO_sR eh43 (okO_nw eh42 (okO_sR eh40 (okO_nw eh39 (okO_sR eh37 (okO_nw eh36 (okO_sR eh34 (okO_nw eh33 (okO_sR eh31 (okO_nw eh30 (okO_sR eh28 (okO_nw eh27 (okO_sR eh25 (okO_nw eh24 (okO_sR eh22 (okO_nw eh21 (okO_sR eh19 (okO_nw eh18 (okO_sR eh16 (okO_nw eh15 (okO_sR eh13 (okO_nw eh12 (okO_sR eh10 (okO_nw eh9 (okO_sR eh7 (okO_nw eh6 (okO_sR eh4 (okOb.p g3))))))))))))))))))))))))))))))))))))))))))))))))))))))))))))))))))))))))))))))))))) eh129 ?_
  refine ev_aload_n dX10_init_346 rfl rfl rfl ?_
  refine ev_bipush (v := (7 : Int32)) dX10_init_347 (by decide) ?_
  replace H := vl_some H
  obtain ⟨b130, eb130, H⟩ := H
  replace H := vl_some H
  obtain ⟨h131, eh131, H⟩ := H
  refine ev_newaIx dX10_init_349 k1_44 (okN.p (by decide)) rfl eb130 eh131 ?_
  replace H := vl_some H
  obtain ⟨h132, eh132, H⟩ := H
  refine ev_putRF (x := (some b130)) dX10_init_351 fdX10_131 rfl (Or.inr ⟨_, rfl⟩) rfl (okO_nw eh131 (okO_sR eh129 (okO_nw eh128 (okO_sR eh126 (okO_nw eh125 (okO_sR eh123 (okO_nw eh122 (okO_sR eh120 (okO_nw eh119 (okO_sR eh117 (okO_nw eh116 (okO_sR eh114 (okO_sI eh113 (okO_sI eh111 (okO_sI eh109 (okO_sI eh107 (okO_nw eh105 (okO_sR eh103 (okO_nw eh102 (okO_sR eh100 (okO_nw eh99 (okO_sR eh97 (okO_nw eh96 (okO_sR eh94 (okO_nw eh93 (okO_sR eh91 (okO_nw eh90 (okO_sR eh88 (okO_nw eh87 (okO_sR eh85 (okO_nw eh84 (okO_sR eh82 (okO_nw eh81 (okO_sR eh79 (okO_nw eh78 (okO_sR eh76 (okO_nw eh75 (okO_sR eh73 (okO_nw eh72 (okO_sR eh70 (okO_nw eh69 (okO_sR eh67 (okO_nw eh66 (okO_sR eh64 (okO_nw eh63 (okO_sR eh61 (okO_nw eh60 (okO_sR eh58 (okO_nw eh57 (okO_sR eh55 (okO_nw eh54 (okO_sR eh52 (okO_nw eh51 (okO_sR eh49 (okO_nw eh48 (okO_sR eh46 (okO_nw eh45 (okO_sR eh43 (okO_nw eh42 (okO_sR eh40 (okO_nw eh39 (okO_sR eh37 (okO_nw eh36 (okO_sR eh34 (okO_nw eh33 (okO_sR eh31 (okO_nw eh30 (okO_sR eh28 (okO_nw eh27 (okO_sR eh25 (okO_nw eh24 (okO_sR eh22 (okO_nw eh21 (okO_sR eh19 (okO_nw eh18 (okO_sR eh16 (okO_nw eh15 (okO_sR eh13 (okO_nw eh12 (okO_sR eh10 (okO_nw eh9 (okO_sR eh7 (okO_nw eh6 (okO_sR eh4 (okOb.p g3))))))))))))))))))))))))))))))))))))))))))))))))))))))))))))))))))))))))))))))))))))) eh132 ?_
  refine ev_aload_n dX10_init_354 rfl rfl rfl ?_
  refine ev_bipush (v := (7 : Int32)) dX10_init_355 (by decide) ?_
  replace H := vl_some H
  obtain ⟨b133, eb133, H⟩ := H
  replace H := vl_some H
  obtain ⟨h134, eh134, H⟩ := H
  refine ev_newaIx dX10_init_357 k1_44 (okN.p (by decide)) rfl eb133 eh134 ?_
  replace H := vl_some H
  obtain ⟨h135, eh135, H⟩ := H
  refine ev_putRF (x := (some b133)) dX10_init_359 fdX10_134 rfl (Or.inr ⟨_, rfl⟩) rfl (okO_nw eh134 (okO_sR eh132 (okO_nw eh131 (okO_sR eh129 (okO_nw eh128 (okO_sR eh126 (okO_nw eh125 (okO_sR eh123 (okO_nw eh122 (okO_sR eh120 (okO_nw eh119 (okO_sR eh117 (okO_nw eh116 (okO_sR eh114 (okO_sI eh113 (okO_sI eh111 (okO_sI eh109 (okO_sI eh107 (okO_nw eh105 (okO_sR eh103 (okO_nw eh102 (okO_sR eh100 (okO_nw eh99 (okO_sR eh97 (okO_nw eh96 (okO_sR eh94 (okO_nw eh93 (okO_sR eh91 (okO_nw eh90 (okO_sR eh88 (okO_nw eh87 (okO_sR eh85 (okO_nw eh84 (okO_sR eh82 (okO_nw eh81 (okO_sR eh79 (okO_nw eh78 (okO_sR eh76 (okO_nw eh75 (okO_sR eh73 (okO_nw eh72 (okO_sR eh70 (okO_nw eh69 (okO_sR eh67 (okO_nw eh66 (okO_sR eh64 (okO_nw eh63 (okO_sR eh61 (okO_nw eh60 (okO_sR eh58 (okO_nw eh57 (okO_sR eh55 (okO_nw eh54 (okO_sR eh52 (okO_nw eh51 (okO_sR eh49 (okO_nw eh48 (okO_sR eh46 (okO_nw eh45 (okO_sR eh43 (okO_nw eh42 (okO_sR eh40 (okO_nw eh39 (okO_sR eh37 (okO_nw eh36 (okO_sR eh34 (okO_nw eh33 (okO_sR eh31 (okO_nw eh30 (okO_sR eh28 (okO_nw eh27 (okO_sR eh25 (okO_nw eh24 (okO_sR eh22 (okO_nw eh21 (okO_sR eh19 (okO_nw eh18 (okO_sR eh16 (okO_nw eh15 (okO_sR eh13 (okO_nw eh12 (okO_sR eh10 (okO_nw eh9 (okO_sR eh7 (okO_nw eh6 (okO_sR eh4 (okOb.p g3))))))))))))))))))))))))))))))))))))))))))))))))))))))))))))))))))))))))))))))))))))))) eh135 ?_
  refine ev_iconst (v := (1 : Int32)) dX10_init_362 (by decide) ?_
  refine ev_istore_n (loc2 := [some (.ref a0), some (.int (1 : Int32))]) dX10_init_363 rfl (by decide) rfl ?_
  refine t_X10_init_L364 hD ?_ 6000 a0 (1 : Int32) h135 H
  · intro y141 y142 h143 H
    refine ev_iconst (v := (0 : Int32)) dX10_init_380 (by decide) ?_
    refine ev_istore_n (loc2 := [some (.ref y141), some (.int (0 : Int32))]) dX10_init_381 rfl (by decide) rfl ?_
    refine t_X10_init_L382 hD ?_ 6000 y141 (0 : Int32) h143 H
    · intro y151 y152 h153 H
      refine ev_iconst (v := (0 : Int32)) dX10_init_401 (by decide) ?_
      refine ev_istore_n (loc2 := [some (.ref y151), some (.int (0 : Int32))]) dX10_init_402 rfl (by decide) rfl ?_
      refine t_X10_init_L403 hD  6000 y151 (0 : Int32) h153 H

theorem dX10_isIn_0 : decode cX10_isIn 0 = .ok (.lload_n 0, 1) := by decide +kernel
theorem dX10_isIn_1 : decode cX10_isIn 1 = .ok (.lload_n 2, 1) := by decide +kernel
theorem dX10_isIn_2 : decode cX10_isIn 2 = .ok (.lcmp, 1) := by decide +kernel
theorem dX10_isIn_3 : decode cX10_isIn 3 = .ok (.ifCond .lt 14, 3) := by decide +kernel
theorem dX10_isIn_6 : decode cX10_isIn 6 = .ok (.lload_n 0, 1) := by decide +kernel
theorem dX10_isIn_7 : decode cX10_isIn 7 = .ok (.lload 4, 2) := by decide +kernel
theorem dX10_isIn_9 : decode cX10_isIn 9 = .ok (.lcmp, 1) := by decide +kernel
theorem dX10_isIn_10 : decode cX10_isIn 10 = .ok (.ifCond .gt 7, 3) := by decide +kernel
theorem dX10_isIn_13 : decode cX10_isIn 13 = .ok (.iconst 1, 1) := by decide +kernel
theorem dX10_isIn_14 : decode cX10_isIn 14 = .ok (.goto 4, 3) := by decide +kernel
theorem dX10_isIn_17 : decode cX10_isIn 17 = .ok (.iconst 0, 1) := by decide +kernel
theorem dX10_isIn_18 : decode cX10_isIn 18 = .ok (.ireturn, 1) := by decide +kernel
def f_X10_isIn (h : Hp) (a0 : Int64) (a2 : Int64) (a4 : Int64) : Option (Int32 × Hp) :=
if (lg_cmp a0 a2) < 0 then (
some ((0 : Int32), h)) else (
if 0 < (lg_cmp a0 a4) then (
some ((0 : Int32), h)) else (
some ((1 : Int32), h)))
set_option maxHeartbeats 4000000 in
set_option maxRecDepth 100000 in
theorem t_X10_isIn {X : Cx} {d : Nat} {h : Hp} {a0 : Int64} {a2 : Int64} {a4 : Int64} {v : Int32} {h' : Hp} (hD : 1 ≤ d) (H : f_X10_isIn h a0 a2 a4 = some (v, h')) : PM X mX10_isIn d [.long a0, .long a2, .long a4] h (some (.int v)) h' := by
  unfold f_X10_isIn at H
  refine PM.of (loc := [some (.long a0), none, some (.long a2), none, some (.long a4), none]) (by decide) rfl (Nat.le_of_ble_eq_true rfl) ?_
  refine ev_lload_n dX10_isIn_0 rfl rfl ?_
  refine ev_lload_n dX10_isIn_1 rfl rfl ?_
  refine ev_lcmp dX10_isIn_2 ?_
  refine ev_if_lt (tgt := 17) dX10_isIn_3 (by decide) (fun c1 => ?_) (fun c1 => ?_)
  · rw [if_pos c1] at H
    refine ev_iconst (v := (0 : Int32)) dX10_isIn_17 (by decide) ?_
    exact ev_iretx dX10_isIn_18 rfl rfl H
  · rw [if_neg c1] at H
    refine ev_lload_n dX10_isIn_6 rfl rfl ?_
    refine ev_lload dX10_isIn_7 rfl ?_
    refine ev_lcmp dX10_isIn_9 ?_
    refine ev_if_gt (tgt := 17) dX10_isIn_10 (by decide) (fun c2 => ?_) (fun c2 => ?_)
    · rw [if_pos c2] at H
      refine ev_iconst (v := (0 : Int32)) dX10_isIn_17 (by decide) ?_
      exact ev_iretx dX10_isIn_18 rfl rfl H
    · rw [if_neg c2] at H
      refine ev_iconst (v := (1 : Int32)) dX10_isIn_13 (by decide) ?_
      refine ev_goto (tgt := 18) dX10_isIn_14 (by decide) ?_
      exact ev_iretx dX10_isIn_18 rfl rfl H

theorem dX10_isLetter_0 : decode cX10_isLetter 0 = .ok (.iload_n 0, 1) := by decide +kernel
theorem dX10_isLetter_1 : decode cX10_isLetter 1 = .ok (.ifCond .lt 13, 3) := by decide +kernel
theorem dX10_isLetter_4 : decode cX10_isLetter 4 = .ok (.iload_n 0, 1) := by decide +kernel
theorem dX10_isLetter_5 : decode cX10_isLetter 5 = .ok (.bipush 26, 2) := by decide +kernel
theorem dX10_isLetter_7 : decode cX10_isLetter 7 = .ok (.if_icmp .ge 7, 3) := by decide +kernel
theorem dX10_isLetter_10 : decode cX10_isLetter 10 = .ok (.iconst 1, 1) := by decide +kernel
theorem dX10_isLetter_11 : decode cX10_isLetter 11 = .ok (.goto 4, 3) := by decide +kernel
theorem dX10_isLetter_14 : decode cX10_isLetter 14 = .ok (.iconst 0, 1) := by decide +kernel
theorem dX10_isLetter_15 : decode cX10_isLetter 15 = .ok (.ireturn, 1) := by decide +kernel
def f_X10_isLetter (h : Hp) (a0 : Int32) : Option (Int32 × Hp) :=
if a0 < 0 then (
some ((0 : Int32), h)) else (
if (26 : Int32) ≤ a0 then (
some ((0 : Int32), h)) else (
some ((1 : Int32), h)))
set_option maxHeartbeats 4000000 in
set_option maxRecDepth 100000 in
theorem t_X10_isLetter {X : Cx} {d : Nat} {h : Hp} {a0 : Int32} {v : Int32} {h' : Hp} (hD : 1 ≤ d) (H : f_X10_isLetter h a0 = some (v, h')) : PM X mX10_isLetter d [.int a0] h (some (.int v)) h' := by
  unfold f_X10_isLetter at H
  refine PM.of (loc := [some (.int a0)]) (by decide) rfl (Nat.le_of_ble_eq_true rfl) ?_
  refine ev_iload_n dX10_isLetter_0 rfl rfl ?_
  refine ev_if_lt (tgt := 14) dX10_isLetter_1 (by decide) (fun c1 => ?_) (fun c1 => ?_)
  · rw [if_pos c1] at H
    refine ev_iconst (v := (0 : Int32)) dX10_isLetter_14 (by decide) ?_
    exact ev_iretx dX10_isLetter_15 rfl rfl H
  · rw [if_neg c1] at H
    refine ev_iload_n dX10_isLetter_4 rfl rfl ?_
    refine ev_bipush (v := (26 : Int32)) dX10_isLetter_5 (by decide) ?_
    refine ev_icmp_ge (tgt := 14) dX10_isLetter_7 (by decide) (fun c2 => ?_) (fun c2 => ?_)
    · rw [if_pos c2] at H
      refine ev_iconst (v := (0 : Int32)) dX10_isLetter_14 (by decide) ?_
      exact ev_iretx dX10_isLetter_15 rfl rfl H
    · rw [if_neg c2] at H
      refine ev_iconst (v := (1 : Int32)) dX10_isLetter_10 (by decide) ?_
      refine ev_goto (tgt := 15) dX10_isLetter_11 (by decide) ?_
      exact ev_iretx dX10_isLetter_15 rfl rfl H

theorem dX10_isPage_0 : decode cX10_isPage 0 = .ok (.iload_n 1, 1) := by decide +kernel
theorem dX10_isPage_1 : decode cX10_isPage 1 = .ok (.ifCond .lt 15, 3) := by decide +kernel
theorem dX10_isPage_4 : decode cX10_isPage 4 = .ok (.iload_n 1, 1) := by decide +kernel
theorem dX10_isPage_5 : decode cX10_isPage 5 = .ok (.aload_n 0, 1) := by decide +kernel
theorem dX10_isPage_6 : decode cX10_isPage 6 = .ok (.getfield 141, 3) := by decide +kernel
theorem dX10_isPage_9 : decode cX10_isPage 9 = .ok (.if_icmp .ge 7, 3) := by decide +kernel
theorem dX10_isPage_12 : decode cX10_isPage 12 = .ok (.iconst 1, 1) := by decide +kernel
theorem dX10_isPage_13 : decode cX10_isPage 13 = .ok (.goto 4, 3) := by decide +kernel
theorem dX10_isPage_16 : decode cX10_isPage 16 = .ok (.iconst 0, 1) := by decide +kernel
theorem dX10_isPage_17 : decode cX10_isPage 17 = .ok (.ireturn, 1) := by decide +kernel
def f_X10_isPage (h : Hp) (a0 : Nat) (a1 : Int32) : Option (Int32 × Hp) :=
if a1 < 0 then (
some ((0 : Int32), h)) else (
gd (okOb h a0 10) <|
vl (gI h a0 11) fun x3 =>
if x3 ≤ a1 then (
some ((0 : Int32), h)) else (
some ((1 : Int32), h)))
set_option maxHeartbeats 4000000 in
set_option maxRecDepth 100000 in
theorem t_X10_isPage {X : Cx} {d : Nat} {h : Hp} {a0 : Nat} {a1 : Int32} {v : Int32} {h' : Hp} (hD : 1 ≤ d) (H : f_X10_isPage h a0 a1 = some (v, h')) : PM X mX10_isPage d [.ref a0, .int a1] h (some (.int v)) h' := by
  unfold f_X10_isPage at H
  refine PM.of (loc := [some (.ref a0), some (.int a1)]) (by decide) rfl (Nat.le_of_ble_eq_true rfl) ?_
  refine ev_iload_n dX10_isPage_0 rfl rfl ?_
  refine ev_if_lt (tgt := 16) dX10_isPage_1 (by decide) (fun c1 => ?_) (fun c1 => ?_)
  · rw [if_pos c1] at H
    refine ev_iconst (v := (0 : Int32)) dX10_isPage_16 (by decide) ?_
    exact ev_iretx dX10_isPage_17 rfl rfl H
  · rw [if_neg c1] at H
    refine ev_iload_n dX10_isPage_4 rfl rfl ?_
    refine ev_aload_n dX10_isPage_5 rfl rfl rfl ?_
    replace H := gd_some H
    obtain ⟨g2, H⟩ := H
    replace H := vl_some H
    obtain ⟨x3, ex3, H⟩ := H
    refine ev_getIx dX10_isPage_6 fgX10_141 rfl (okOb.p g2) ex3 ?_
    refine ev_icmp_ge (tgt := 16) dX10_isPage_9 (by decide) (fun c4 => ?_) (fun c4 => ?_)
    · rw [if_pos c4] at H
      refine ev_iconst (v := (0 : Int32)) dX10_isPage_16 (by decide) ?_
      exact ev_iretx dX10_isPage_17 rfl rfl H
    · rw [if_neg c4] at H
      refine ev_iconst (v := (1 : Int32)) dX10_isPage_12 (by decide) ?_
      refine ev_goto (tgt := 17) dX10_isPage_13 (by decide) ?_
      exact ev_iretx dX10_isPage_17 rfl rfl H

theorem dX10_isPlace_0 : decode cX10_isPlace 0 = .ok (.aload_n 0, 1) := by decide +kernel
theorem dX10_isPlace_1 : decode cX10_isPlace 1 = .ok (.iload_n 1, 1) := by decide +kernel
theorem dX10_isPlace_2 : decode cX10_isPlace 2 = .ok (.invokevirtual 145, 3) := by decide +kernel
theorem dX10_isPlace_5 : decode cX10_isPlace 5 = .ok (.ifCond .eq 21, 3) := by decide +kernel
theorem dX10_isPlace_8 : decode cX10_isPlace 8 = .ok (.iload_n 2, 1) := by decide +kernel
theorem dX10_isPlace_9 : decode cX10_isPlace 9 = .ok (.ifCond .lt 17, 3) := by decide +kernel
theorem dX10_isPlace_12 : decode cX10_isPlace 12 = .ok (.iload_n 2, 1) := by decide +kernel
theorem dX10_isPlace_13 : decode cX10_isPlace 13 = .ok (.aload_n 0, 1) := by decide +kernel
theorem dX10_isPlace_14 : decode cX10_isPlace 14 = .ok (.getfield 16, 3) := by decide +kernel
theorem dX10_isPlace_17 : decode cX10_isPlace 17 = .ok (.iload_n 1, 1) := by decide +kernel
theorem dX10_isPlace_18 : decode cX10_isPlace 18 = .ok (.iaload, 1) := by decide +kernel
theorem dX10_isPlace_19 : decode cX10_isPlace 19 = .ok (.if_icmp .ge 7, 3) := by decide +kernel
theorem dX10_isPlace_22 : decode cX10_isPlace 22 = .ok (.iconst 1, 1) := by decide +kernel
theorem dX10_isPlace_23 : decode cX10_isPlace 23 = .ok (.goto 4, 3) := by decide +kernel
theorem dX10_isPlace_26 : decode cX10_isPlace 26 = .ok (.iconst 0, 1) := by decide +kernel
theorem dX10_isPlace_27 : decode cX10_isPlace 27 = .ok (.ireturn, 1) := by decide +kernel
def f_X10_isPlace (h : Hp) (a0 : Nat) (a1 : Int32) (a2 : Int32) : Option (Int32 × Hp) :=
gd (okOb h a0 10) <|
bnd (f_X10_isPage h a0 a1) fun v2 h3 =>
if v2 = 0 then (
some ((0 : Int32), h3)) else (
if a2 < 0 then (
some ((0 : Int32), h3)) else (
vl (gR h3 a0 3) fun r6 =>
un r6 fun b7 =>
gd (okAb h3 b7 11 a1) <|
vl (gI h3 b7 a1.toNatClampNeg) fun x9 =>
if x9 ≤ a2 then (
some ((0 : Int32), h3)) else (
some ((1 : Int32), h3))))
set_option maxHeartbeats 4000000 in
set_option maxRecDepth 100000 in
theorem t_X10_isPlace {X : Cx} {d : Nat} {h : Hp} {a0 : Nat} {a1 : Int32} {a2 : Int32} {v : Int32} {h' : Hp} (hD : 2 ≤ d) (H : f_X10_isPlace h a0 a1 a2 = some (v, h')) : PM X mX10_isPlace d [.ref a0, .int a1, .int a2] h (some (.int v)) h' := by
  unfold f_X10_isPlace at H
  refine PM.of (loc := [some (.ref a0), some (.int a1), some (.int a2)]) (by decide) rfl (Nat.le_of_ble_eq_true rfl) ?_
  refine ev_aload_n dX10_isPlace_0 rfl rfl rfl ?_
  refine ev_iload_n dX10_isPlace_1 rfl rfl ?_
  replace H := gd_some H
  obtain ⟨g1, H⟩ := H
  replace H := bnd_some H
  obtain ⟨v2, h3, eh3, H⟩ := H
  have ph3 := (t_X10_isPage (X := X) (d := 1) (by omega) eh3)
  refine ev_callV (as := [.int a1]) dX10_isPlace_2 ph3 ok_X10_isPage (by omega) rfl k5_115 k5_117 ks_27 (ci := 10) (by decide) rfl rfl (okOb.p g1) rfl (Nat.le_of_ble_eq_true rfl) ?_
  refine ev_if_eq (tgt := 26) dX10_isPlace_5 (by decide) (fun c4 => ?_) (fun c4 => ?_)
  · rw [if_pos c4] at H
    refine ev_iconst (v := (0 : Int32)) dX10_isPlace_26 (by decide) ?_
    exact ev_iretx dX10_isPlace_27 rfl rfl H
  · rw [if_neg c4] at H
    refine ev_iload_n dX10_isPlace_8 rfl rfl ?_
    refine ev_if_lt (tgt := 26) dX10_isPlace_9 (by decide) (fun c5 => ?_) (fun c5 => ?_)
    · rw [if_pos c5] at H
      refine ev_iconst (v := (0 : Int32)) dX10_isPlace_26 (by decide) ?_
      exact ev_iretx dX10_isPlace_27 rfl rfl H
    · rw [if_neg c5] at H
      refine ev_iload_n dX10_isPlace_12 rfl rfl ?_
      refine ev_aload_n dX10_isPlace_13 rfl rfl rfl ?_
      replace H := vl_some H
      obtain ⟨r6, er6, H⟩ := H
      refine ev_getRx dX10_isPlace_14 fgX10_16 rfl (okO_ext ph3.1 (okOb.p g1)) er6 ?_
      refine ev_iload_n dX10_isPlace_17 rfl rfl ?_
      replace H := un_some H
      obtain ⟨b7, eb7, H⟩ := H
      subst eb7
      replace H := gd_some H
      obtain ⟨g8, H⟩ := H
      replace H := vl_some H
      obtain ⟨x9, ex9, H⟩ := H
      refine ev_ialdx dX10_isPlace_18 (okAb.p g8) ex9 ?_
      refine ev_icmp_ge (tgt := 26) dX10_isPlace_19 (by decide) (fun c10 => ?_) (fun c10 => ?_)
      · rw [if_pos c10] at H
        refine ev_iconst (v := (0 : Int32)) dX10_isPlace_26 (by decide) ?_
        exact ev_iretx dX10_isPlace_27 rfl rfl H
      · rw [if_neg c10] at H
        refine ev_iconst (v := (1 : Int32)) dX10_isPlace_22 (by decide) ?_
        refine ev_goto (tgt := 27) dX10_isPlace_23 (by decide) ?_
        exact ev_iretx dX10_isPlace_27 rfl rfl H
